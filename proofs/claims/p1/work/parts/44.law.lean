set_option maxHeartbeats 4000000 in
set_option maxRecDepth 100000 in
theorem law_c48 {p : Program} {l : Launch} {e : Env} {s : State} {m : MethodId} {below : List Frame} {meth : Method} {c : Code} {A : Nat → Prop} {b : Nat} {xs : Nat → Int32} (hx : p.tables.exec = Jvm.exec) (hb : c.code = code) (hml : c.maxLocals = 4) (hr : meth.sig.returnType = ret) (hlocks : meth.locks = false) (hX : va_X b 6 xs s s.heap) (hbl : b < s.heap.size) (hbA : ¬ A b) (hA : ∀ q : Nat, s.heap.size ≤ q → A q) (hAf : ∀ q : Nat, A q → s.heap.size ≤ q) (D : va_G) (cI cJ cB cZ cO : ClassId) (h0 h1 : Nat) (u v : Nat → Nat) (hown : s.vm.findClass RL = some m.cls) (hts : ∀ w ∈ wsL_law, w.before #[Value.ref b] s = true) (hE : ct_E D (ct_T cI cJ cB cZ cO) s) {H : Heap} {locs : List Loc} (hP : va_P D vwCl (LW cI cJ cB cZ cO h0 h1 u v) H) (hD : va_D A (LW cI cJ cB cZ cO h0 h1 u v)) (hS : va_S A s.heap H locs) {ls : Array Slot} (hl : lv_has ls 4 [(3, .int 0), (2, .ref h1), (1, .ref h0), (0, .ref b)]) : W p l e room_1 s m #[Value.ref b] below meth c H locs 107 36842 (lw_Z below #[Value.ref b] s) (F0 m 1613 ls []) := by
  have hK := hE.1
  refine lv_aload_n hx hb dL_law_1613 rfl (lv_at hl 2 rfl) ?_
  refine lv_aload_n hx hb dL_law_1614 rfl (lv_at hl 3 rfl) ?_
  refine lv_iload_n hx hb dL_law_1615 rfl (lv_at hl 0 rfl) ?_
  refine lv_iconst (v := 1) hx hb dL_law_1616 (by decide) ?_
  refine lv_iadd hx hb dL_law_1617 ?_
  refine lv_topi (fun z817 ez817 => ?_)
  obtain rfl : z817 = 1 := ez817.trans (by decide)
  refine va_sld hx hb hX hbl hbA hS (tq_in (a := 1) (by decide) (by omega)) dL_law_1618 ?_
  refine lv_aload_n hx hb dL_law_1619 rfl (lv_at hl 3 rfl) ?_
  refine lv_iload_n hx hb dL_law_1620 rfl (lv_at hl 0 rfl) ?_
  refine lv_iconst (v := 2) hx hb dL_law_1621 (by decide) ?_
  refine lv_iadd hx hb dL_law_1622 ?_
  refine lv_topi (fun z818 ez818 => ?_)
  obtain rfl : z818 = 2 := ez818.trans (by decide)
  refine va_sld hx hb hX hbl hbA hS (tq_in (a := 2) (by decide) (by omega)) dL_law_1623 ?_
  refine ct_calll (D := D) (wc := (w_c_X11_dry cI cJ cB cZ cO h0 u)) (wr := [mo h1 v 0 0, ((v 1), .inl (cI, 4, .inl (szf))), ((v 2), .inl (cI, 4, .inl (fun _ => 0))), ((v 3), .inl (cJ, 240, .inr (.inl (fun _ => 0)))), ((v 5), .inl (cB, 1200, .inl (fun _ => 0))), ((v 25), .inl (cZ, 3, .inl (fun _ => 0))), ((v 16), .inl (cI, 5, .inl (fun _ => 0))), ((v 17), .inl (cI, 55, .inl (fun _ => 0))), ((v 18), .inl (cI, 120, .inl (fun _ => 0))), ((v 19), .inl (cI, 30, .inl (fun _ => 0))), ((v 20), .inl (cI, 160, .inl (fun _ => 0))), ((v 21), .inl (cZ, 1000, .inl (fun _ => 0))), ((v 22), .inl (cI, 120, .inl (fun _ => 0))), ((v 23), .inl (cI, 50, .inl (fun _ => 0))), ((v 24), .inl (cI, 800, .inl (fun _ => 0)))]) (va_runV (As := [.int (xs (1 : Int32).toNatClampNeg), .int (xs (2 : Int32).toNatClampNeg)]) (rest := []) ⟨hx, hb, hml, hown, hts⟩ (c_X11_dry l D cI cJ cB cZ cO h0 u ((xs (1 : Int32).toNatClampNeg)) ((xs (2 : Int32).toNatClampNeg)) H.size) (cwV 2 hts gL_law_X11_dry rfl rfl rfl (by decide +kernel) ⟨Nat.le_of_ble_eq_true rfl, Nat.le_of_ble_eq_true rfl⟩) (ct_preV (T := ct_T cI cJ cB cZ cO) (ci := 11) (q0 := 0) hE hP hD [0, 4] (by decide) rfl rfl rfl) rfl rfl hl.1 rfl (lv_room (Nat.le_of_ble_eq_true rfl)) dL_law_1624 ⟨Nat.le_of_ble_eq_true rfl, Nat.le_of_ble_eq_true rfl⟩) hP hD hS hA [0, 4] [55, 56, 57, 58, 59, 60, 61, 62, 63, 64, 65, 66, 67, 68, 69] rfl rfl (by decide) (by decide) (fun rz u H locs hw hP hD hS => ?_)
  have hP : va_P D vwCl [mo h1 v 0 0, ((v 1), .inl (cI, 4, .inl (szf))), ((v 2), .inl (cI, 4, .inl (fun _ => 0))), ((v 3), .inl (cJ, 240, .inr (.inl (fun _ => 0)))), ((v 5), .inl (cB, 1200, .inl (fun _ => 0))), ((v 25), .inl (cZ, 3, .inl (fun _ => 0))), ((v 16), .inl (cI, 5, .inl (fun _ => 0))), ((v 17), .inl (cI, 55, .inl (fun _ => 0))), ((v 18), .inl (cI, 120, .inl (fun _ => 0))), ((v 19), .inl (cI, 30, .inl (fun _ => 0))), ((v 20), .inl (cI, 160, .inl (fun _ => 0))), ((v 21), .inl (cZ, 1000, .inl (fun _ => 0))), ((v 22), .inl (cI, 120, .inl (fun _ => 0))), ((v 23), .inl (cI, 50, .inl (fun _ => 0))), ((v 24), .inl (cI, 800, .inl (fun _ => 0)))] H := hP
  have hD : va_D A [mo h1 v 0 0, ((v 1), .inl (cI, 4, .inl (szf))), ((v 2), .inl (cI, 4, .inl (fun _ => 0))), ((v 3), .inl (cJ, 240, .inr (.inl (fun _ => 0)))), ((v 5), .inl (cB, 1200, .inl (fun _ => 0))), ((v 25), .inl (cZ, 3, .inl (fun _ => 0))), ((v 16), .inl (cI, 5, .inl (fun _ => 0))), ((v 17), .inl (cI, 55, .inl (fun _ => 0))), ((v 18), .inl (cI, 120, .inl (fun _ => 0))), ((v 19), .inl (cI, 30, .inl (fun _ => 0))), ((v 20), .inl (cI, 160, .inl (fun _ => 0))), ((v 21), .inl (cZ, 1000, .inl (fun _ => 0))), ((v 22), .inl (cI, 120, .inl (fun _ => 0))), ((v 23), .inl (cI, 50, .inl (fun _ => 0))), ((v 24), .inl (cI, 800, .inl (fun _ => 0)))] := hD
  obtain ⟨rfl, hq819⟩ := hw
  refine lv_aload_n hx hb dL_law_1627 rfl (lv_at hl 1 rfl) ?_
  refine lv_aload_n hx hb dL_law_1628 rfl (lv_at hl 3 rfl) ?_
  refine lv_iload_n hx hb dL_law_1629 rfl (lv_at hl 0 rfl) ?_
  refine lv_iconst (v := 1) hx hb dL_law_1630 (by decide) ?_
  refine lv_iadd hx hb dL_law_1631 ?_
  refine lv_topi (fun z820 ez820 => ?_)
  obtain rfl : z820 = 1 := ez820.trans (by decide)
  refine va_sld hx hb hX hbl hbA hS (tq_in (a := 1) (by decide) (by omega)) dL_law_1632 ?_
  refine lv_aload_n hx hb dL_law_1633 rfl (lv_at hl 3 rfl) ?_
  refine lv_iload_n hx hb dL_law_1634 rfl (lv_at hl 0 rfl) ?_
  refine lv_iconst (v := 2) hx hb dL_law_1635 (by decide) ?_
  refine lv_iadd hx hb dL_law_1636 ?_
  refine lv_topi (fun z821 ez821 => ?_)
  obtain rfl : z821 = 2 := ez821.trans (by decide)
  refine va_sld hx hb hX hbl hbA hS (tq_in (a := 2) (by decide) (by omega)) dL_law_1637 ?_
  refine ct_calll (D := D) (wc := (w_c_X12_dry cI cJ cB cZ cO h1 v)) (wr := [((v 1), .inl (cI, 4, .inl (szf))), ((v 2), .inl (cI, 4, .inl (fun _ => 0))), ((v 3), .inl (cJ, 240, .inr (.inl (fun _ => 0)))), ((v 5), .inl (cB, 1200, .inl (fun _ => 0))), ((v 25), .inl (cZ, 3, .inl (fun _ => 0))), ((v 17), .inl (cI, 55, .inl (fun _ => 0))), ((v 18), .inl (cI, 120, .inl (fun _ => 0))), ((v 19), .inl (cI, 30, .inl (fun _ => 0))), ((v 20), .inl (cI, 160, .inl (fun _ => 0))), ((v 21), .inl (cZ, 1000, .inl (fun _ => 0))), ((v 22), .inl (cI, 120, .inl (fun _ => 0))), ((v 23), .inl (cI, 50, .inl (fun _ => 0))), ((v 24), .inl (cI, 800, .inl (fun _ => 0)))]) (va_runV (As := [.int (xs (1 : Int32).toNatClampNeg), .int (xs (2 : Int32).toNatClampNeg)]) (rest := [.long (-2)]) ⟨hx, hb, hml, hown, hts⟩ (c_X12_dry l D cI cJ cB cZ cO h1 v ((xs (1 : Int32).toNatClampNeg)) ((xs (2 : Int32).toNatClampNeg)) H.size) (cwV 2 hts gL_law_X12_dry rfl rfl rfl (by decide +kernel) ⟨Nat.le_of_ble_eq_true rfl, Nat.le_of_ble_eq_true rfl⟩) (ct_preV (T := ct_T cI cJ cB cZ cO) (ci := 12) (q0 := 0) hE hP hD [0, 6] (by decide) rfl rfl rfl) rfl rfl hl.1 rfl (lv_room (Nat.le_of_ble_eq_true rfl)) dL_law_1638 ⟨Nat.le_of_ble_eq_true rfl, Nat.le_of_ble_eq_true rfl⟩) hP hD hS hA [0, 6] [1, 2, 3, 4, 5, 7, 8, 9, 10, 11, 12, 13, 14] rfl rfl (by decide) (by decide) (fun rz u H locs hw hP hD hS => ?_)
  have hP : va_P D vwCl [((v 1), .inl (cI, 4, .inl (szf))), ((v 2), .inl (cI, 4, .inl (fun _ => 0))), ((v 3), .inl (cJ, 240, .inr (.inl (fun _ => 0)))), ((v 5), .inl (cB, 1200, .inl (fun _ => 0))), ((v 25), .inl (cZ, 3, .inl (fun _ => 0))), ((v 17), .inl (cI, 55, .inl (fun _ => 0))), ((v 18), .inl (cI, 120, .inl (fun _ => 0))), ((v 19), .inl (cI, 30, .inl (fun _ => 0))), ((v 20), .inl (cI, 160, .inl (fun _ => 0))), ((v 21), .inl (cZ, 1000, .inl (fun _ => 0))), ((v 22), .inl (cI, 120, .inl (fun _ => 0))), ((v 23), .inl (cI, 50, .inl (fun _ => 0))), ((v 24), .inl (cI, 800, .inl (fun _ => 0)))] H := hP
  have hD : va_D A [((v 1), .inl (cI, 4, .inl (szf))), ((v 2), .inl (cI, 4, .inl (fun _ => 0))), ((v 3), .inl (cJ, 240, .inr (.inl (fun _ => 0)))), ((v 5), .inl (cB, 1200, .inl (fun _ => 0))), ((v 25), .inl (cZ, 3, .inl (fun _ => 0))), ((v 17), .inl (cI, 55, .inl (fun _ => 0))), ((v 18), .inl (cI, 120, .inl (fun _ => 0))), ((v 19), .inl (cI, 30, .inl (fun _ => 0))), ((v 20), .inl (cI, 160, .inl (fun _ => 0))), ((v 21), .inl (cZ, 1000, .inl (fun _ => 0))), ((v 22), .inl (cI, 120, .inl (fun _ => 0))), ((v 23), .inl (cI, 50, .inl (fun _ => 0))), ((v 24), .inl (cI, 800, .inl (fun _ => 0)))] := hD
  obtain ⟨rfl, hq822⟩ := hw
  refine W.lcmp hx hb dL_law_1641 ?_
  refine lv_topi (fun z823 ez823 => ?_)
  obtain rfl : z823 = 0 := ez823.trans (by decide)
  refine lv_if_eq (tgt := 2167) hx hb dL_law_1642 (by decide) (fun _ => ?_) (fun hc => absurd hc (by decide))
  refine W.widen (k := 107) (n := 36842) (Nat.le_of_ble_eq_true rfl) (Nat.le_of_ble_eq_true rfl) ?_
  exact law_tail hx hb hml hr hlocks hX hbl hbA hA hAf hS (lv_sub hl [0, 1, 2, 3] rfl)
set_option maxHeartbeats 4000000 in
set_option maxRecDepth 100000 in
theorem law_c49 {p : Program} {l : Launch} {e : Env} {s : State} {m : MethodId} {below : List Frame} {meth : Method} {c : Code} {A : Nat → Prop} {b : Nat} {xs : Nat → Int32} (hx : p.tables.exec = Jvm.exec) (hb : c.code = code) (hml : c.maxLocals = 4) (hr : meth.sig.returnType = ret) (hlocks : meth.locks = false) (hX : va_X b 6 xs s s.heap) (hbl : b < s.heap.size) (hbA : ¬ A b) (hA : ∀ q : Nat, s.heap.size ≤ q → A q) (hAf : ∀ q : Nat, A q → s.heap.size ≤ q) (D : va_G) (cI cJ cB cZ cO : ClassId) (h0 h1 : Nat) (u v : Nat → Nat) (hown : s.vm.findClass RL = some m.cls) (hts : ∀ w ∈ wsL_law, w.before #[Value.ref b] s = true) (hE : ct_E D (ct_T cI cJ cB cZ cO) s) {H : Heap} {locs : List Loc} (hP : va_P D vwCl (LW cI cJ cB cZ cO h0 h1 u v) H) (hD : va_D A (LW cI cJ cB cZ cO h0 h1 u v)) (hS : va_S A s.heap H locs) {ls : Array Slot} (hl : lv_has ls 4 [(3, .int 0), (2, .ref h1), (1, .ref h0), (0, .ref b)]) : W p l e room_1 s m #[Value.ref b] below meth c H locs 107 36842 (lw_Z below #[Value.ref b] s) (F0 m 1647 ls []) := by
  have hK := hE.1
  refine lv_aload_n hx hb dL_law_1647 rfl (lv_at hl 2 rfl) ?_
  refine lv_aload_n hx hb dL_law_1648 rfl (lv_at hl 3 rfl) ?_
  refine lv_iload_n hx hb dL_law_1649 rfl (lv_at hl 0 rfl) ?_
  refine lv_iconst (v := 1) hx hb dL_law_1650 (by decide) ?_
  refine lv_iadd hx hb dL_law_1651 ?_
  refine lv_topi (fun z824 ez824 => ?_)
  obtain rfl : z824 = 1 := ez824.trans (by decide)
  refine va_sld hx hb hX hbl hbA hS (tq_in (a := 1) (by decide) (by omega)) dL_law_1652 ?_
  refine lv_aload_n hx hb dL_law_1653 rfl (lv_at hl 3 rfl) ?_
  refine lv_iload_n hx hb dL_law_1654 rfl (lv_at hl 0 rfl) ?_
  refine lv_iconst (v := 2) hx hb dL_law_1655 (by decide) ?_
  refine lv_iadd hx hb dL_law_1656 ?_
  refine lv_topi (fun z825 ez825 => ?_)
  obtain rfl : z825 = 2 := ez825.trans (by decide)
  refine va_sld hx hb hX hbl hbA hS (tq_in (a := 2) (by decide) (by omega)) dL_law_1657 ?_
  refine lv_aload_n hx hb dL_law_1658 rfl (lv_at hl 3 rfl) ?_
  refine lv_iload_n hx hb dL_law_1659 rfl (lv_at hl 0 rfl) ?_
  refine lv_iconst (v := 3) hx hb dL_law_1660 (by decide) ?_
  refine lv_iadd hx hb dL_law_1661 ?_
  refine lv_topi (fun z826 ez826 => ?_)
  obtain rfl : z826 = 3 := ez826.trans (by decide)
  refine va_sld hx hb hX hbl hbA hS (tq_in (a := 3) (by decide) (by omega)) dL_law_1662 ?_
  refine ct_calll (D := D) (wc := (w_c_X11_wet cI cJ cB cZ cO h0 u)) (wr := [mo h1 v 0 0, ((v 1), .inl (cI, 4, .inl (szf))), ((v 2), .inl (cI, 4, .inl (fun _ => 0))), ((v 3), .inl (cJ, 240, .inr (.inl (fun _ => 0)))), ((v 5), .inl (cB, 1200, .inl (fun _ => 0))), ((v 25), .inl (cZ, 3, .inl (fun _ => 0))), ((v 16), .inl (cI, 5, .inl (fun _ => 0))), ((v 17), .inl (cI, 55, .inl (fun _ => 0))), ((v 18), .inl (cI, 120, .inl (fun _ => 0))), ((v 19), .inl (cI, 30, .inl (fun _ => 0))), ((v 20), .inl (cI, 160, .inl (fun _ => 0))), ((v 21), .inl (cZ, 1000, .inl (fun _ => 0))), ((v 22), .inl (cI, 120, .inl (fun _ => 0))), ((v 23), .inl (cI, 50, .inl (fun _ => 0))), ((v 24), .inl (cI, 800, .inl (fun _ => 0)))]) (va_runV (As := [.int (xs (1 : Int32).toNatClampNeg), .int (xs (2 : Int32).toNatClampNeg), .int (xs (3 : Int32).toNatClampNeg)]) (rest := []) ⟨hx, hb, hml, hown, hts⟩ (c_X11_wet l D cI cJ cB cZ cO h0 u ((xs (1 : Int32).toNatClampNeg)) ((xs (2 : Int32).toNatClampNeg)) ((xs (3 : Int32).toNatClampNeg)) H.size) (cwV 3 hts gL_law_X11_wet rfl rfl rfl (by decide +kernel) ⟨Nat.le_of_ble_eq_true rfl, Nat.le_of_ble_eq_true rfl⟩) (ct_preV (T := ct_T cI cJ cB cZ cO) (ci := 11) (q0 := 0) hE hP hD [0, 4] (by decide) rfl rfl rfl) rfl rfl hl.1 rfl (lv_room (Nat.le_of_ble_eq_true rfl)) dL_law_1663 ⟨Nat.le_of_ble_eq_true rfl, Nat.le_of_ble_eq_true rfl⟩) hP hD hS hA [0, 4] [55, 56, 57, 58, 59, 60, 61, 62, 63, 64, 65, 66, 67, 68, 69] rfl rfl (by decide) (by decide) (fun rz u H locs hw hP hD hS => ?_)
  have hP : va_P D vwCl [mo h1 v 0 0, ((v 1), .inl (cI, 4, .inl (szf))), ((v 2), .inl (cI, 4, .inl (fun _ => 0))), ((v 3), .inl (cJ, 240, .inr (.inl (fun _ => 0)))), ((v 5), .inl (cB, 1200, .inl (fun _ => 0))), ((v 25), .inl (cZ, 3, .inl (fun _ => 0))), ((v 16), .inl (cI, 5, .inl (fun _ => 0))), ((v 17), .inl (cI, 55, .inl (fun _ => 0))), ((v 18), .inl (cI, 120, .inl (fun _ => 0))), ((v 19), .inl (cI, 30, .inl (fun _ => 0))), ((v 20), .inl (cI, 160, .inl (fun _ => 0))), ((v 21), .inl (cZ, 1000, .inl (fun _ => 0))), ((v 22), .inl (cI, 120, .inl (fun _ => 0))), ((v 23), .inl (cI, 50, .inl (fun _ => 0))), ((v 24), .inl (cI, 800, .inl (fun _ => 0)))] H := hP
  have hD : va_D A [mo h1 v 0 0, ((v 1), .inl (cI, 4, .inl (szf))), ((v 2), .inl (cI, 4, .inl (fun _ => 0))), ((v 3), .inl (cJ, 240, .inr (.inl (fun _ => 0)))), ((v 5), .inl (cB, 1200, .inl (fun _ => 0))), ((v 25), .inl (cZ, 3, .inl (fun _ => 0))), ((v 16), .inl (cI, 5, .inl (fun _ => 0))), ((v 17), .inl (cI, 55, .inl (fun _ => 0))), ((v 18), .inl (cI, 120, .inl (fun _ => 0))), ((v 19), .inl (cI, 30, .inl (fun _ => 0))), ((v 20), .inl (cI, 160, .inl (fun _ => 0))), ((v 21), .inl (cZ, 1000, .inl (fun _ => 0))), ((v 22), .inl (cI, 120, .inl (fun _ => 0))), ((v 23), .inl (cI, 50, .inl (fun _ => 0))), ((v 24), .inl (cI, 800, .inl (fun _ => 0)))] := hD
  obtain ⟨rfl, hq827⟩ := hw
  refine lv_aload_n hx hb dL_law_1666 rfl (lv_at hl 1 rfl) ?_
  refine lv_aload_n hx hb dL_law_1667 rfl (lv_at hl 3 rfl) ?_
  refine lv_iload_n hx hb dL_law_1668 rfl (lv_at hl 0 rfl) ?_
  refine lv_iconst (v := 1) hx hb dL_law_1669 (by decide) ?_
  refine lv_iadd hx hb dL_law_1670 ?_
  refine lv_topi (fun z828 ez828 => ?_)
  obtain rfl : z828 = 1 := ez828.trans (by decide)
  refine va_sld hx hb hX hbl hbA hS (tq_in (a := 1) (by decide) (by omega)) dL_law_1671 ?_
  refine lv_aload_n hx hb dL_law_1672 rfl (lv_at hl 3 rfl) ?_
  refine lv_iload_n hx hb dL_law_1673 rfl (lv_at hl 0 rfl) ?_
  refine lv_iconst (v := 2) hx hb dL_law_1674 (by decide) ?_
  refine lv_iadd hx hb dL_law_1675 ?_
  refine lv_topi (fun z829 ez829 => ?_)
  obtain rfl : z829 = 2 := ez829.trans (by decide)
  refine va_sld hx hb hX hbl hbA hS (tq_in (a := 2) (by decide) (by omega)) dL_law_1676 ?_
  refine lv_aload_n hx hb dL_law_1677 rfl (lv_at hl 3 rfl) ?_
  refine lv_iload_n hx hb dL_law_1678 rfl (lv_at hl 0 rfl) ?_
  refine lv_iconst (v := 3) hx hb dL_law_1679 (by decide) ?_
  refine lv_iadd hx hb dL_law_1680 ?_
  refine lv_topi (fun z830 ez830 => ?_)
  obtain rfl : z830 = 3 := ez830.trans (by decide)
  refine va_sld hx hb hX hbl hbA hS (tq_in (a := 3) (by decide) (by omega)) dL_law_1681 ?_
  refine ct_calll (D := D) (wc := (w_c_X12_wet cI cJ cB cZ cO h1 v)) (wr := [((v 1), .inl (cI, 4, .inl (szf))), ((v 2), .inl (cI, 4, .inl (fun _ => 0))), ((v 3), .inl (cJ, 240, .inr (.inl (fun _ => 0)))), ((v 5), .inl (cB, 1200, .inl (fun _ => 0))), ((v 25), .inl (cZ, 3, .inl (fun _ => 0))), ((v 17), .inl (cI, 55, .inl (fun _ => 0))), ((v 18), .inl (cI, 120, .inl (fun _ => 0))), ((v 19), .inl (cI, 30, .inl (fun _ => 0))), ((v 20), .inl (cI, 160, .inl (fun _ => 0))), ((v 21), .inl (cZ, 1000, .inl (fun _ => 0))), ((v 22), .inl (cI, 120, .inl (fun _ => 0))), ((v 23), .inl (cI, 50, .inl (fun _ => 0))), ((v 24), .inl (cI, 800, .inl (fun _ => 0)))]) (va_runV (As := [.int (xs (1 : Int32).toNatClampNeg), .int (xs (2 : Int32).toNatClampNeg), .int (xs (3 : Int32).toNatClampNeg)]) (rest := [.long (-2)]) ⟨hx, hb, hml, hown, hts⟩ (c_X12_wet l D cI cJ cB cZ cO h1 v ((xs (1 : Int32).toNatClampNeg)) ((xs (2 : Int32).toNatClampNeg)) ((xs (3 : Int32).toNatClampNeg)) H.size) (cwV 3 hts gL_law_X12_wet rfl rfl rfl (by decide +kernel) ⟨Nat.le_of_ble_eq_true rfl, Nat.le_of_ble_eq_true rfl⟩) (ct_preV (T := ct_T cI cJ cB cZ cO) (ci := 12) (q0 := 0) hE hP hD [0, 6] (by decide) rfl rfl rfl) rfl rfl hl.1 rfl (lv_room (Nat.le_of_ble_eq_true rfl)) dL_law_1682 ⟨Nat.le_of_ble_eq_true rfl, Nat.le_of_ble_eq_true rfl⟩) hP hD hS hA [0, 6] [1, 2, 3, 4, 5, 7, 8, 9, 10, 11, 12, 13, 14] rfl rfl (by decide) (by decide) (fun rz u H locs hw hP hD hS => ?_)
  have hP : va_P D vwCl [((v 1), .inl (cI, 4, .inl (szf))), ((v 2), .inl (cI, 4, .inl (fun _ => 0))), ((v 3), .inl (cJ, 240, .inr (.inl (fun _ => 0)))), ((v 5), .inl (cB, 1200, .inl (fun _ => 0))), ((v 25), .inl (cZ, 3, .inl (fun _ => 0))), ((v 17), .inl (cI, 55, .inl (fun _ => 0))), ((v 18), .inl (cI, 120, .inl (fun _ => 0))), ((v 19), .inl (cI, 30, .inl (fun _ => 0))), ((v 20), .inl (cI, 160, .inl (fun _ => 0))), ((v 21), .inl (cZ, 1000, .inl (fun _ => 0))), ((v 22), .inl (cI, 120, .inl (fun _ => 0))), ((v 23), .inl (cI, 50, .inl (fun _ => 0))), ((v 24), .inl (cI, 800, .inl (fun _ => 0)))] H := hP
  have hD : va_D A [((v 1), .inl (cI, 4, .inl (szf))), ((v 2), .inl (cI, 4, .inl (fun _ => 0))), ((v 3), .inl (cJ, 240, .inr (.inl (fun _ => 0)))), ((v 5), .inl (cB, 1200, .inl (fun _ => 0))), ((v 25), .inl (cZ, 3, .inl (fun _ => 0))), ((v 17), .inl (cI, 55, .inl (fun _ => 0))), ((v 18), .inl (cI, 120, .inl (fun _ => 0))), ((v 19), .inl (cI, 30, .inl (fun _ => 0))), ((v 20), .inl (cI, 160, .inl (fun _ => 0))), ((v 21), .inl (cZ, 1000, .inl (fun _ => 0))), ((v 22), .inl (cI, 120, .inl (fun _ => 0))), ((v 23), .inl (cI, 50, .inl (fun _ => 0))), ((v 24), .inl (cI, 800, .inl (fun _ => 0)))] := hD
  obtain ⟨rfl, hq831⟩ := hw
  refine W.lcmp hx hb dL_law_1685 ?_
  refine lv_topi (fun z832 ez832 => ?_)
  obtain rfl : z832 = 0 := ez832.trans (by decide)
  refine lv_if_eq (tgt := 2167) hx hb dL_law_1686 (by decide) (fun _ => ?_) (fun hc => absurd hc (by decide))
  refine W.widen (k := 107) (n := 36842) (Nat.le_of_ble_eq_true rfl) (Nat.le_of_ble_eq_true rfl) ?_
  exact law_tail hx hb hml hr hlocks hX hbl hbA hA hAf hS (lv_sub hl [0, 1, 2, 3] rfl)
set_option maxHeartbeats 4000000 in
set_option maxRecDepth 100000 in
theorem law_c50 {p : Program} {l : Launch} {e : Env} {s : State} {m : MethodId} {below : List Frame} {meth : Method} {c : Code} {A : Nat → Prop} {b : Nat} {xs : Nat → Int32} (hx : p.tables.exec = Jvm.exec) (hb : c.code = code) (hml : c.maxLocals = 4) (hr : meth.sig.returnType = ret) (hlocks : meth.locks = false) (hX : va_X b 6 xs s s.heap) (hbl : b < s.heap.size) (hbA : ¬ A b) (hA : ∀ q : Nat, s.heap.size ≤ q → A q) (hAf : ∀ q : Nat, A q → s.heap.size ≤ q) (D : va_G) (cI cJ cB cZ cO : ClassId) (h0 h1 : Nat) (u v : Nat → Nat) (hown : s.vm.findClass RL = some m.cls) (hts : ∀ w ∈ wsL_law, w.before #[Value.ref b] s = true) (hE : ct_E D (ct_T cI cJ cB cZ cO) s) {H : Heap} {locs : List Loc} (hP : va_P D vwCl (LW cI cJ cB cZ cO h0 h1 u v) H) (hD : va_D A (LW cI cJ cB cZ cO h0 h1 u v)) (hS : va_S A s.heap H locs) {ls : Array Slot} (hl : lv_has ls 4 [(3, .int 0), (2, .ref h1), (1, .ref h0), (0, .ref b)]) : W p l e room_1 s m #[Value.ref b] below meth c H locs 107 36842 (lw_Z below #[Value.ref b] s) (F0 m 1691 ls []) := by
  have hK := hE.1
  refine lv_aload_n hx hb dL_law_1691 rfl (lv_at hl 2 rfl) ?_
  refine lv_aload_n hx hb dL_law_1692 rfl (lv_at hl 3 rfl) ?_
  refine lv_iload_n hx hb dL_law_1693 rfl (lv_at hl 0 rfl) ?_
  refine lv_iconst (v := 1) hx hb dL_law_1694 (by decide) ?_
  refine lv_iadd hx hb dL_law_1695 ?_
  refine lv_topi (fun z833 ez833 => ?_)
  obtain rfl : z833 = 1 := ez833.trans (by decide)
  refine va_sld hx hb hX hbl hbA hS (tq_in (a := 1) (by decide) (by omega)) dL_law_1696 ?_
  refine lv_aload_n hx hb dL_law_1697 rfl (lv_at hl 3 rfl) ?_
  refine lv_iload_n hx hb dL_law_1698 rfl (lv_at hl 0 rfl) ?_
  refine lv_iconst (v := 2) hx hb dL_law_1699 (by decide) ?_
  refine lv_iadd hx hb dL_law_1700 ?_
  refine lv_topi (fun z834 ez834 => ?_)
  obtain rfl : z834 = 2 := ez834.trans (by decide)
  refine va_sld hx hb hX hbl hbA hS (tq_in (a := 2) (by decide) (by omega)) dL_law_1701 ?_
  refine lv_aload_n hx hb dL_law_1702 rfl (lv_at hl 3 rfl) ?_
  refine lv_iload_n hx hb dL_law_1703 rfl (lv_at hl 0 rfl) ?_
  refine lv_iconst (v := 3) hx hb dL_law_1704 (by decide) ?_
  refine lv_iadd hx hb dL_law_1705 ?_
  refine lv_topi (fun z835 ez835 => ?_)
  obtain rfl : z835 = 3 := ez835.trans (by decide)
  refine va_sld hx hb hX hbl hbA hS (tq_in (a := 3) (by decide) (by omega)) dL_law_1706 ?_
  refine ct_calli (D := D) (wc := (w_c_X11_drawn cI cJ cB cZ cO h0 u)) (wr := [mo h1 v 0 0, ((v 1), .inl (cI, 4, .inl (szf))), ((v 2), .inl (cI, 4, .inl (fun _ => 0))), ((v 3), .inl (cJ, 240, .inr (.inl (fun _ => 0)))), ((v 5), .inl (cB, 1200, .inl (fun _ => 0))), ((v 25), .inl (cZ, 3, .inl (fun _ => 0))), ((v 16), .inl (cI, 5, .inl (fun _ => 0))), ((v 17), .inl (cI, 55, .inl (fun _ => 0))), ((v 18), .inl (cI, 120, .inl (fun _ => 0))), ((v 19), .inl (cI, 30, .inl (fun _ => 0))), ((v 20), .inl (cI, 160, .inl (fun _ => 0))), ((v 21), .inl (cZ, 1000, .inl (fun _ => 0))), ((v 22), .inl (cI, 120, .inl (fun _ => 0))), ((v 23), .inl (cI, 50, .inl (fun _ => 0))), ((v 24), .inl (cI, 800, .inl (fun _ => 0)))]) (va_runV (As := [.int (xs (1 : Int32).toNatClampNeg), .int (xs (2 : Int32).toNatClampNeg), .int (xs (3 : Int32).toNatClampNeg)]) (rest := []) ⟨hx, hb, hml, hown, hts⟩ (c_X11_drawn l D cI cJ cB cZ cO h0 u ((xs (1 : Int32).toNatClampNeg)) ((xs (2 : Int32).toNatClampNeg)) ((xs (3 : Int32).toNatClampNeg)) H.size) (cwV 3 hts gL_law_X11_drawn rfl rfl rfl (by decide +kernel) ⟨Nat.le_of_ble_eq_true rfl, Nat.le_of_ble_eq_true rfl⟩) (ct_preV (T := ct_T cI cJ cB cZ cO) (ci := 11) (q0 := 0) hE hP hD [0, 4] (by decide) rfl rfl rfl) rfl rfl hl.1 rfl (lv_room (Nat.le_of_ble_eq_true rfl)) dL_law_1707 ⟨Nat.le_of_ble_eq_true rfl, Nat.le_of_ble_eq_true rfl⟩) hP hD hS hA [0, 4] [55, 56, 57, 58, 59, 60, 61, 62, 63, 64, 65, 66, 67, 68, 69] rfl rfl (by decide) (by decide) (fun rz u H locs hw hP hD hS => ?_)
  have hP : va_P D vwCl [mo h1 v 0 0, ((v 1), .inl (cI, 4, .inl (szf))), ((v 2), .inl (cI, 4, .inl (fun _ => 0))), ((v 3), .inl (cJ, 240, .inr (.inl (fun _ => 0)))), ((v 5), .inl (cB, 1200, .inl (fun _ => 0))), ((v 25), .inl (cZ, 3, .inl (fun _ => 0))), ((v 16), .inl (cI, 5, .inl (fun _ => 0))), ((v 17), .inl (cI, 55, .inl (fun _ => 0))), ((v 18), .inl (cI, 120, .inl (fun _ => 0))), ((v 19), .inl (cI, 30, .inl (fun _ => 0))), ((v 20), .inl (cI, 160, .inl (fun _ => 0))), ((v 21), .inl (cZ, 1000, .inl (fun _ => 0))), ((v 22), .inl (cI, 120, .inl (fun _ => 0))), ((v 23), .inl (cI, 50, .inl (fun _ => 0))), ((v 24), .inl (cI, 800, .inl (fun _ => 0)))] H := hP
  have hD : va_D A [mo h1 v 0 0, ((v 1), .inl (cI, 4, .inl (szf))), ((v 2), .inl (cI, 4, .inl (fun _ => 0))), ((v 3), .inl (cJ, 240, .inr (.inl (fun _ => 0)))), ((v 5), .inl (cB, 1200, .inl (fun _ => 0))), ((v 25), .inl (cZ, 3, .inl (fun _ => 0))), ((v 16), .inl (cI, 5, .inl (fun _ => 0))), ((v 17), .inl (cI, 55, .inl (fun _ => 0))), ((v 18), .inl (cI, 120, .inl (fun _ => 0))), ((v 19), .inl (cI, 30, .inl (fun _ => 0))), ((v 20), .inl (cI, 160, .inl (fun _ => 0))), ((v 21), .inl (cZ, 1000, .inl (fun _ => 0))), ((v 22), .inl (cI, 120, .inl (fun _ => 0))), ((v 23), .inl (cI, 50, .inl (fun _ => 0))), ((v 24), .inl (cI, 800, .inl (fun _ => 0)))] := hD
  obtain ⟨rfl, hq836⟩ := hw
  refine lv_aload_n hx hb dL_law_1710 rfl (lv_at hl 1 rfl) ?_
  refine lv_aload_n hx hb dL_law_1711 rfl (lv_at hl 3 rfl) ?_
  refine lv_iload_n hx hb dL_law_1712 rfl (lv_at hl 0 rfl) ?_
  refine lv_iconst (v := 1) hx hb dL_law_1713 (by decide) ?_
  refine lv_iadd hx hb dL_law_1714 ?_
  refine lv_topi (fun z837 ez837 => ?_)
  obtain rfl : z837 = 1 := ez837.trans (by decide)
  refine va_sld hx hb hX hbl hbA hS (tq_in (a := 1) (by decide) (by omega)) dL_law_1715 ?_
  refine lv_aload_n hx hb dL_law_1716 rfl (lv_at hl 3 rfl) ?_
  refine lv_iload_n hx hb dL_law_1717 rfl (lv_at hl 0 rfl) ?_
  refine lv_iconst (v := 2) hx hb dL_law_1718 (by decide) ?_
  refine lv_iadd hx hb dL_law_1719 ?_
  refine lv_topi (fun z838 ez838 => ?_)
  obtain rfl : z838 = 2 := ez838.trans (by decide)
  refine va_sld hx hb hX hbl hbA hS (tq_in (a := 2) (by decide) (by omega)) dL_law_1720 ?_
  refine lv_aload_n hx hb dL_law_1721 rfl (lv_at hl 3 rfl) ?_
  refine lv_iload_n hx hb dL_law_1722 rfl (lv_at hl 0 rfl) ?_
  refine lv_iconst (v := 3) hx hb dL_law_1723 (by decide) ?_
  refine lv_iadd hx hb dL_law_1724 ?_
  refine lv_topi (fun z839 ez839 => ?_)
  obtain rfl : z839 = 3 := ez839.trans (by decide)
  refine va_sld hx hb hX hbl hbA hS (tq_in (a := 3) (by decide) (by omega)) dL_law_1725 ?_
  refine ct_calli (D := D) (wc := (w_c_X12_drawn cI cJ cB cZ cO h1 v)) (wr := [((v 1), .inl (cI, 4, .inl (szf))), ((v 2), .inl (cI, 4, .inl (fun _ => 0))), ((v 3), .inl (cJ, 240, .inr (.inl (fun _ => 0)))), ((v 5), .inl (cB, 1200, .inl (fun _ => 0))), ((v 25), .inl (cZ, 3, .inl (fun _ => 0))), ((v 17), .inl (cI, 55, .inl (fun _ => 0))), ((v 18), .inl (cI, 120, .inl (fun _ => 0))), ((v 19), .inl (cI, 30, .inl (fun _ => 0))), ((v 20), .inl (cI, 160, .inl (fun _ => 0))), ((v 21), .inl (cZ, 1000, .inl (fun _ => 0))), ((v 22), .inl (cI, 120, .inl (fun _ => 0))), ((v 23), .inl (cI, 50, .inl (fun _ => 0))), ((v 24), .inl (cI, 800, .inl (fun _ => 0)))]) (va_runV (As := [.int (xs (1 : Int32).toNatClampNeg), .int (xs (2 : Int32).toNatClampNeg), .int (xs (3 : Int32).toNatClampNeg)]) (rest := [.int (-2)]) ⟨hx, hb, hml, hown, hts⟩ (c_X12_drawn l D cI cJ cB cZ cO h1 v ((xs (1 : Int32).toNatClampNeg)) ((xs (2 : Int32).toNatClampNeg)) ((xs (3 : Int32).toNatClampNeg)) H.size) (cwV 3 hts gL_law_X12_drawn rfl rfl rfl (by decide +kernel) ⟨Nat.le_of_ble_eq_true rfl, Nat.le_of_ble_eq_true rfl⟩) (ct_preV (T := ct_T cI cJ cB cZ cO) (ci := 12) (q0 := 0) hE hP hD [0, 6] (by decide) rfl rfl rfl) rfl rfl hl.1 rfl (lv_room (Nat.le_of_ble_eq_true rfl)) dL_law_1726 ⟨Nat.le_of_ble_eq_true rfl, Nat.le_of_ble_eq_true rfl⟩) hP hD hS hA [0, 6] [1, 2, 3, 4, 5, 7, 8, 9, 10, 11, 12, 13, 14] rfl rfl (by decide) (by decide) (fun rz u H locs hw hP hD hS => ?_)
  have hP : va_P D vwCl [((v 1), .inl (cI, 4, .inl (szf))), ((v 2), .inl (cI, 4, .inl (fun _ => 0))), ((v 3), .inl (cJ, 240, .inr (.inl (fun _ => 0)))), ((v 5), .inl (cB, 1200, .inl (fun _ => 0))), ((v 25), .inl (cZ, 3, .inl (fun _ => 0))), ((v 17), .inl (cI, 55, .inl (fun _ => 0))), ((v 18), .inl (cI, 120, .inl (fun _ => 0))), ((v 19), .inl (cI, 30, .inl (fun _ => 0))), ((v 20), .inl (cI, 160, .inl (fun _ => 0))), ((v 21), .inl (cZ, 1000, .inl (fun _ => 0))), ((v 22), .inl (cI, 120, .inl (fun _ => 0))), ((v 23), .inl (cI, 50, .inl (fun _ => 0))), ((v 24), .inl (cI, 800, .inl (fun _ => 0)))] H := hP
  have hD : va_D A [((v 1), .inl (cI, 4, .inl (szf))), ((v 2), .inl (cI, 4, .inl (fun _ => 0))), ((v 3), .inl (cJ, 240, .inr (.inl (fun _ => 0)))), ((v 5), .inl (cB, 1200, .inl (fun _ => 0))), ((v 25), .inl (cZ, 3, .inl (fun _ => 0))), ((v 17), .inl (cI, 55, .inl (fun _ => 0))), ((v 18), .inl (cI, 120, .inl (fun _ => 0))), ((v 19), .inl (cI, 30, .inl (fun _ => 0))), ((v 20), .inl (cI, 160, .inl (fun _ => 0))), ((v 21), .inl (cZ, 1000, .inl (fun _ => 0))), ((v 22), .inl (cI, 120, .inl (fun _ => 0))), ((v 23), .inl (cI, 50, .inl (fun _ => 0))), ((v 24), .inl (cI, 800, .inl (fun _ => 0)))] := hD
  obtain ⟨rfl, hq840⟩ := hw
  refine lv_icmp_eq (tgt := 2167) hx hb dL_law_1729 (by decide) (fun _ => ?_) (fun hc => absurd hc (by decide))
  refine W.widen (k := 107) (n := 36842) (Nat.le_of_ble_eq_true rfl) (Nat.le_of_ble_eq_true rfl) ?_
  exact law_tail hx hb hml hr hlocks hX hbl hbA hA hAf hS (lv_sub hl [0, 1, 2, 3] rfl)
set_option maxHeartbeats 4000000 in
set_option maxRecDepth 100000 in
theorem law_c51 {p : Program} {l : Launch} {e : Env} {s : State} {m : MethodId} {below : List Frame} {meth : Method} {c : Code} {A : Nat → Prop} {b : Nat} {xs : Nat → Int32} (hx : p.tables.exec = Jvm.exec) (hb : c.code = code) (hml : c.maxLocals = 4) (hr : meth.sig.returnType = ret) (hlocks : meth.locks = false) (hX : va_X b 6 xs s s.heap) (hbl : b < s.heap.size) (hbA : ¬ A b) (hA : ∀ q : Nat, s.heap.size ≤ q → A q) (hAf : ∀ q : Nat, A q → s.heap.size ≤ q) (D : va_G) (cI cJ cB cZ cO : ClassId) (h0 h1 : Nat) (u v : Nat → Nat) (hown : s.vm.findClass RL = some m.cls) (hts : ∀ w ∈ wsL_law, w.before #[Value.ref b] s = true) (hE : ct_E D (ct_T cI cJ cB cZ cO) s) {H : Heap} {locs : List Loc} (hP : va_P D vwCl (LW cI cJ cB cZ cO h0 h1 u v) H) (hD : va_D A (LW cI cJ cB cZ cO h0 h1 u v)) (hS : va_S A s.heap H locs) {ls : Array Slot} (hl : lv_has ls 4 [(3, .int 0), (2, .ref h1), (1, .ref h0), (0, .ref b)]) : W p l e room_1 s m #[Value.ref b] below meth c H locs 107 36842 (lw_Z below #[Value.ref b] s) (F0 m 1734 ls []) := by
  have hK := hE.1
  refine lv_aload_n hx hb dL_law_1734 rfl (lv_at hl 2 rfl) ?_
  refine lv_aload_n hx hb dL_law_1735 rfl (lv_at hl 3 rfl) ?_
  refine lv_iload_n hx hb dL_law_1736 rfl (lv_at hl 0 rfl) ?_
  refine lv_iconst (v := 1) hx hb dL_law_1737 (by decide) ?_
  refine lv_iadd hx hb dL_law_1738 ?_
  refine lv_topi (fun z841 ez841 => ?_)
  obtain rfl : z841 = 1 := ez841.trans (by decide)
  refine va_sld hx hb hX hbl hbA hS (tq_in (a := 1) (by decide) (by omega)) dL_law_1739 ?_
  refine lv_aload_n hx hb dL_law_1740 rfl (lv_at hl 3 rfl) ?_
  refine lv_iload_n hx hb dL_law_1741 rfl (lv_at hl 0 rfl) ?_
  refine lv_iconst (v := 2) hx hb dL_law_1742 (by decide) ?_
  refine lv_iadd hx hb dL_law_1743 ?_
  refine lv_topi (fun z842 ez842 => ?_)
  obtain rfl : z842 = 2 := ez842.trans (by decide)
  refine va_sld hx hb hX hbl hbA hS (tq_in (a := 2) (by decide) (by omega)) dL_law_1744 ?_
  refine lv_aload_n hx hb dL_law_1745 rfl (lv_at hl 3 rfl) ?_
  refine lv_iload_n hx hb dL_law_1746 rfl (lv_at hl 0 rfl) ?_
  refine lv_iconst (v := 3) hx hb dL_law_1747 (by decide) ?_
  refine lv_iadd hx hb dL_law_1748 ?_
  refine lv_topi (fun z843 ez843 => ?_)
  obtain rfl : z843 = 3 := ez843.trans (by decide)
  refine va_sld hx hb hX hbl hbA hS (tq_in (a := 3) (by decide) (by omega)) dL_law_1749 ?_
  refine ct_calli (D := D) (wc := (w_c_X11_nights cI cJ cB cZ cO h0 u)) (wr := [mo h1 v 0 0, ((v 1), .inl (cI, 4, .inl (szf))), ((v 2), .inl (cI, 4, .inl (fun _ => 0))), ((v 3), .inl (cJ, 240, .inr (.inl (fun _ => 0)))), ((v 5), .inl (cB, 1200, .inl (fun _ => 0))), ((v 25), .inl (cZ, 3, .inl (fun _ => 0))), ((v 16), .inl (cI, 5, .inl (fun _ => 0))), ((v 17), .inl (cI, 55, .inl (fun _ => 0))), ((v 18), .inl (cI, 120, .inl (fun _ => 0))), ((v 19), .inl (cI, 30, .inl (fun _ => 0))), ((v 20), .inl (cI, 160, .inl (fun _ => 0))), ((v 21), .inl (cZ, 1000, .inl (fun _ => 0))), ((v 22), .inl (cI, 120, .inl (fun _ => 0))), ((v 23), .inl (cI, 50, .inl (fun _ => 0))), ((v 24), .inl (cI, 800, .inl (fun _ => 0)))]) (va_runV (As := [.int (xs (1 : Int32).toNatClampNeg), .int (xs (2 : Int32).toNatClampNeg), .int (xs (3 : Int32).toNatClampNeg)]) (rest := []) ⟨hx, hb, hml, hown, hts⟩ (c_X11_nights l D cI cJ cB cZ cO h0 u ((xs (1 : Int32).toNatClampNeg)) ((xs (2 : Int32).toNatClampNeg)) ((xs (3 : Int32).toNatClampNeg)) H.size) (cwV 3 hts gL_law_X11_nights rfl rfl rfl (by decide +kernel) ⟨Nat.le_of_ble_eq_true rfl, Nat.le_of_ble_eq_true rfl⟩) (ct_preV (T := ct_T cI cJ cB cZ cO) (ci := 11) (q0 := 0) hE hP hD [0, 4] (by decide) rfl rfl rfl) rfl rfl hl.1 rfl (lv_room (Nat.le_of_ble_eq_true rfl)) dL_law_1750 ⟨Nat.le_of_ble_eq_true rfl, Nat.le_of_ble_eq_true rfl⟩) hP hD hS hA [0, 4] [55, 56, 57, 58, 59, 60, 61, 62, 63, 64, 65, 66, 67, 68, 69] rfl rfl (by decide) (by decide) (fun rz u H locs hw hP hD hS => ?_)
  have hP : va_P D vwCl [mo h1 v 0 0, ((v 1), .inl (cI, 4, .inl (szf))), ((v 2), .inl (cI, 4, .inl (fun _ => 0))), ((v 3), .inl (cJ, 240, .inr (.inl (fun _ => 0)))), ((v 5), .inl (cB, 1200, .inl (fun _ => 0))), ((v 25), .inl (cZ, 3, .inl (fun _ => 0))), ((v 16), .inl (cI, 5, .inl (fun _ => 0))), ((v 17), .inl (cI, 55, .inl (fun _ => 0))), ((v 18), .inl (cI, 120, .inl (fun _ => 0))), ((v 19), .inl (cI, 30, .inl (fun _ => 0))), ((v 20), .inl (cI, 160, .inl (fun _ => 0))), ((v 21), .inl (cZ, 1000, .inl (fun _ => 0))), ((v 22), .inl (cI, 120, .inl (fun _ => 0))), ((v 23), .inl (cI, 50, .inl (fun _ => 0))), ((v 24), .inl (cI, 800, .inl (fun _ => 0)))] H := hP
  have hD : va_D A [mo h1 v 0 0, ((v 1), .inl (cI, 4, .inl (szf))), ((v 2), .inl (cI, 4, .inl (fun _ => 0))), ((v 3), .inl (cJ, 240, .inr (.inl (fun _ => 0)))), ((v 5), .inl (cB, 1200, .inl (fun _ => 0))), ((v 25), .inl (cZ, 3, .inl (fun _ => 0))), ((v 16), .inl (cI, 5, .inl (fun _ => 0))), ((v 17), .inl (cI, 55, .inl (fun _ => 0))), ((v 18), .inl (cI, 120, .inl (fun _ => 0))), ((v 19), .inl (cI, 30, .inl (fun _ => 0))), ((v 20), .inl (cI, 160, .inl (fun _ => 0))), ((v 21), .inl (cZ, 1000, .inl (fun _ => 0))), ((v 22), .inl (cI, 120, .inl (fun _ => 0))), ((v 23), .inl (cI, 50, .inl (fun _ => 0))), ((v 24), .inl (cI, 800, .inl (fun _ => 0)))] := hD
  obtain ⟨rfl, hq844⟩ := hw
  refine lv_aload_n hx hb dL_law_1753 rfl (lv_at hl 1 rfl) ?_
  refine lv_aload_n hx hb dL_law_1754 rfl (lv_at hl 3 rfl) ?_
  refine lv_iload_n hx hb dL_law_1755 rfl (lv_at hl 0 rfl) ?_
  refine lv_iconst (v := 1) hx hb dL_law_1756 (by decide) ?_
  refine lv_iadd hx hb dL_law_1757 ?_
  refine lv_topi (fun z845 ez845 => ?_)
  obtain rfl : z845 = 1 := ez845.trans (by decide)
  refine va_sld hx hb hX hbl hbA hS (tq_in (a := 1) (by decide) (by omega)) dL_law_1758 ?_
  refine lv_aload_n hx hb dL_law_1759 rfl (lv_at hl 3 rfl) ?_
  refine lv_iload_n hx hb dL_law_1760 rfl (lv_at hl 0 rfl) ?_
  refine lv_iconst (v := 2) hx hb dL_law_1761 (by decide) ?_
  refine lv_iadd hx hb dL_law_1762 ?_
  refine lv_topi (fun z846 ez846 => ?_)
  obtain rfl : z846 = 2 := ez846.trans (by decide)
  refine va_sld hx hb hX hbl hbA hS (tq_in (a := 2) (by decide) (by omega)) dL_law_1763 ?_
  refine lv_aload_n hx hb dL_law_1764 rfl (lv_at hl 3 rfl) ?_
  refine lv_iload_n hx hb dL_law_1765 rfl (lv_at hl 0 rfl) ?_
  refine lv_iconst (v := 3) hx hb dL_law_1766 (by decide) ?_
  refine lv_iadd hx hb dL_law_1767 ?_
  refine lv_topi (fun z847 ez847 => ?_)
  obtain rfl : z847 = 3 := ez847.trans (by decide)
  refine va_sld hx hb hX hbl hbA hS (tq_in (a := 3) (by decide) (by omega)) dL_law_1768 ?_
  refine ct_calli (D := D) (wc := (w_c_X12_nights cI cJ cB cZ cO h1 v)) (wr := [((v 1), .inl (cI, 4, .inl (szf))), ((v 2), .inl (cI, 4, .inl (fun _ => 0))), ((v 3), .inl (cJ, 240, .inr (.inl (fun _ => 0)))), ((v 5), .inl (cB, 1200, .inl (fun _ => 0))), ((v 25), .inl (cZ, 3, .inl (fun _ => 0))), ((v 17), .inl (cI, 55, .inl (fun _ => 0))), ((v 18), .inl (cI, 120, .inl (fun _ => 0))), ((v 19), .inl (cI, 30, .inl (fun _ => 0))), ((v 20), .inl (cI, 160, .inl (fun _ => 0))), ((v 21), .inl (cZ, 1000, .inl (fun _ => 0))), ((v 22), .inl (cI, 120, .inl (fun _ => 0))), ((v 23), .inl (cI, 50, .inl (fun _ => 0))), ((v 24), .inl (cI, 800, .inl (fun _ => 0)))]) (va_runV (As := [.int (xs (1 : Int32).toNatClampNeg), .int (xs (2 : Int32).toNatClampNeg), .int (xs (3 : Int32).toNatClampNeg)]) (rest := [.int (-2)]) ⟨hx, hb, hml, hown, hts⟩ (c_X12_nights l D cI cJ cB cZ cO h1 v ((xs (1 : Int32).toNatClampNeg)) ((xs (2 : Int32).toNatClampNeg)) ((xs (3 : Int32).toNatClampNeg)) H.size) (cwV 3 hts gL_law_X12_nights rfl rfl rfl (by decide +kernel) ⟨Nat.le_of_ble_eq_true rfl, Nat.le_of_ble_eq_true rfl⟩) (ct_preV (T := ct_T cI cJ cB cZ cO) (ci := 12) (q0 := 0) hE hP hD [0, 6] (by decide) rfl rfl rfl) rfl rfl hl.1 rfl (lv_room (Nat.le_of_ble_eq_true rfl)) dL_law_1769 ⟨Nat.le_of_ble_eq_true rfl, Nat.le_of_ble_eq_true rfl⟩) hP hD hS hA [0, 6] [1, 2, 3, 4, 5, 7, 8, 9, 10, 11, 12, 13, 14] rfl rfl (by decide) (by decide) (fun rz u H locs hw hP hD hS => ?_)
  have hP : va_P D vwCl [((v 1), .inl (cI, 4, .inl (szf))), ((v 2), .inl (cI, 4, .inl (fun _ => 0))), ((v 3), .inl (cJ, 240, .inr (.inl (fun _ => 0)))), ((v 5), .inl (cB, 1200, .inl (fun _ => 0))), ((v 25), .inl (cZ, 3, .inl (fun _ => 0))), ((v 17), .inl (cI, 55, .inl (fun _ => 0))), ((v 18), .inl (cI, 120, .inl (fun _ => 0))), ((v 19), .inl (cI, 30, .inl (fun _ => 0))), ((v 20), .inl (cI, 160, .inl (fun _ => 0))), ((v 21), .inl (cZ, 1000, .inl (fun _ => 0))), ((v 22), .inl (cI, 120, .inl (fun _ => 0))), ((v 23), .inl (cI, 50, .inl (fun _ => 0))), ((v 24), .inl (cI, 800, .inl (fun _ => 0)))] H := hP
  have hD : va_D A [((v 1), .inl (cI, 4, .inl (szf))), ((v 2), .inl (cI, 4, .inl (fun _ => 0))), ((v 3), .inl (cJ, 240, .inr (.inl (fun _ => 0)))), ((v 5), .inl (cB, 1200, .inl (fun _ => 0))), ((v 25), .inl (cZ, 3, .inl (fun _ => 0))), ((v 17), .inl (cI, 55, .inl (fun _ => 0))), ((v 18), .inl (cI, 120, .inl (fun _ => 0))), ((v 19), .inl (cI, 30, .inl (fun _ => 0))), ((v 20), .inl (cI, 160, .inl (fun _ => 0))), ((v 21), .inl (cZ, 1000, .inl (fun _ => 0))), ((v 22), .inl (cI, 120, .inl (fun _ => 0))), ((v 23), .inl (cI, 50, .inl (fun _ => 0))), ((v 24), .inl (cI, 800, .inl (fun _ => 0)))] := hD
  obtain ⟨rfl, hq848⟩ := hw
  refine lv_icmp_eq (tgt := 2167) hx hb dL_law_1772 (by decide) (fun _ => ?_) (fun hc => absurd hc (by decide))
  refine W.widen (k := 107) (n := 36842) (Nat.le_of_ble_eq_true rfl) (Nat.le_of_ble_eq_true rfl) ?_
  exact law_tail hx hb hml hr hlocks hX hbl hbA hA hAf hS (lv_sub hl [0, 1, 2, 3] rfl)
set_option maxHeartbeats 4000000 in
set_option maxRecDepth 100000 in
theorem law_c52 {p : Program} {l : Launch} {e : Env} {s : State} {m : MethodId} {below : List Frame} {meth : Method} {c : Code} {A : Nat → Prop} {b : Nat} {xs : Nat → Int32} (hx : p.tables.exec = Jvm.exec) (hb : c.code = code) (hml : c.maxLocals = 4) (hr : meth.sig.returnType = ret) (hlocks : meth.locks = false) (hX : va_X b 6 xs s s.heap) (hbl : b < s.heap.size) (hbA : ¬ A b) (hA : ∀ q : Nat, s.heap.size ≤ q → A q) (hAf : ∀ q : Nat, A q → s.heap.size ≤ q) (D : va_G) (cI cJ cB cZ cO : ClassId) (h0 h1 : Nat) (u v : Nat → Nat) (hown : s.vm.findClass RL = some m.cls) (hts : ∀ w ∈ wsL_law, w.before #[Value.ref b] s = true) (hE : ct_E D (ct_T cI cJ cB cZ cO) s) {H : Heap} {locs : List Loc} (hP : va_P D vwCl (LW cI cJ cB cZ cO h0 h1 u v) H) (hD : va_D A (LW cI cJ cB cZ cO h0 h1 u v)) (hS : va_S A s.heap H locs) {ls : Array Slot} (hl : lv_has ls 4 [(3, .int 0), (2, .ref h1), (1, .ref h0), (0, .ref b)]) : W p l e room_1 s m #[Value.ref b] below meth c H locs 107 36842 (lw_Z below #[Value.ref b] s) (F0 m 1777 ls []) := by
  have hK := hE.1
  refine lv_aload_n hx hb dL_law_1777 rfl (lv_at hl 2 rfl) ?_
  refine lv_aload_n hx hb dL_law_1778 rfl (lv_at hl 3 rfl) ?_
  refine lv_iload_n hx hb dL_law_1779 rfl (lv_at hl 0 rfl) ?_
  refine lv_iconst (v := 1) hx hb dL_law_1780 (by decide) ?_
  refine lv_iadd hx hb dL_law_1781 ?_
  refine lv_topi (fun z849 ez849 => ?_)
  obtain rfl : z849 = 1 := ez849.trans (by decide)
  refine va_sld hx hb hX hbl hbA hS (tq_in (a := 1) (by decide) (by omega)) dL_law_1782 ?_
  refine lv_aload_n hx hb dL_law_1783 rfl (lv_at hl 3 rfl) ?_
  refine lv_iload_n hx hb dL_law_1784 rfl (lv_at hl 0 rfl) ?_
  refine lv_iconst (v := 2) hx hb dL_law_1785 (by decide) ?_
  refine lv_iadd hx hb dL_law_1786 ?_
  refine lv_topi (fun z850 ez850 => ?_)
  obtain rfl : z850 = 2 := ez850.trans (by decide)
  refine va_sld hx hb hX hbl hbA hS (tq_in (a := 2) (by decide) (by omega)) dL_law_1787 ?_
  refine lv_aload_n hx hb dL_law_1788 rfl (lv_at hl 3 rfl) ?_
  refine lv_iload_n hx hb dL_law_1789 rfl (lv_at hl 0 rfl) ?_
  refine lv_iconst (v := 3) hx hb dL_law_1790 (by decide) ?_
  refine lv_iadd hx hb dL_law_1791 ?_
  refine lv_topi (fun z851 ez851 => ?_)
  obtain rfl : z851 = 3 := ez851.trans (by decide)
  refine va_sld hx hb hX hbl hbA hS (tq_in (a := 3) (by decide) (by omega)) dL_law_1792 ?_
  refine lv_aload_n hx hb dL_law_1793 rfl (lv_at hl 3 rfl) ?_
  refine lv_iload_n hx hb dL_law_1794 rfl (lv_at hl 0 rfl) ?_
  refine lv_iconst (v := 4) hx hb dL_law_1795 (by decide) ?_
  refine lv_iadd hx hb dL_law_1796 ?_
  refine lv_topi (fun z852 ez852 => ?_)
  obtain rfl : z852 = 4 := ez852.trans (by decide)
  refine va_sld hx hb hX hbl hbA hS (tq_in (a := 4) (by decide) (by omega)) dL_law_1797 ?_
  refine ct_calli (D := D) (wc := (w_c_X11_stumble cI cJ cB cZ cO h0 u)) (wr := [mo h1 v 0 0, ((v 1), .inl (cI, 4, .inl (szf))), ((v 2), .inl (cI, 4, .inl (fun _ => 0))), ((v 3), .inl (cJ, 240, .inr (.inl (fun _ => 0)))), ((v 5), .inl (cB, 1200, .inl (fun _ => 0))), ((v 25), .inl (cZ, 3, .inl (fun _ => 0))), ((v 16), .inl (cI, 5, .inl (fun _ => 0))), ((v 17), .inl (cI, 55, .inl (fun _ => 0))), ((v 18), .inl (cI, 120, .inl (fun _ => 0))), ((v 19), .inl (cI, 30, .inl (fun _ => 0))), ((v 20), .inl (cI, 160, .inl (fun _ => 0))), ((v 21), .inl (cZ, 1000, .inl (fun _ => 0))), ((v 22), .inl (cI, 120, .inl (fun _ => 0))), ((v 23), .inl (cI, 50, .inl (fun _ => 0))), ((v 24), .inl (cI, 800, .inl (fun _ => 0)))]) (va_runV (As := [.int (xs (1 : Int32).toNatClampNeg), .int (xs (2 : Int32).toNatClampNeg), .int (xs (3 : Int32).toNatClampNeg), .int (xs (4 : Int32).toNatClampNeg)]) (rest := []) ⟨hx, hb, hml, hown, hts⟩ (c_X11_stumble l D cI cJ cB cZ cO h0 u ((xs (1 : Int32).toNatClampNeg)) ((xs (2 : Int32).toNatClampNeg)) ((xs (3 : Int32).toNatClampNeg)) ((xs (4 : Int32).toNatClampNeg)) H.size) (cwV 4 hts gL_law_X11_stumble rfl rfl rfl (by decide +kernel) ⟨Nat.le_of_ble_eq_true rfl, Nat.le_of_ble_eq_true rfl⟩) (ct_preV (T := ct_T cI cJ cB cZ cO) (ci := 11) (q0 := 0) hE hP hD [0, 4] (by decide) rfl rfl rfl) rfl rfl hl.1 rfl (lv_room (Nat.le_of_ble_eq_true rfl)) dL_law_1798 ⟨Nat.le_of_ble_eq_true rfl, Nat.le_of_ble_eq_true rfl⟩) hP hD hS hA [0, 4] [55, 56, 57, 58, 59, 60, 61, 62, 63, 64, 65, 66, 67, 68, 69] rfl rfl (by decide) (by decide) (fun rz u H locs hw hP hD hS => ?_)
  have hP : va_P D vwCl [mo h1 v 0 0, ((v 1), .inl (cI, 4, .inl (szf))), ((v 2), .inl (cI, 4, .inl (fun _ => 0))), ((v 3), .inl (cJ, 240, .inr (.inl (fun _ => 0)))), ((v 5), .inl (cB, 1200, .inl (fun _ => 0))), ((v 25), .inl (cZ, 3, .inl (fun _ => 0))), ((v 16), .inl (cI, 5, .inl (fun _ => 0))), ((v 17), .inl (cI, 55, .inl (fun _ => 0))), ((v 18), .inl (cI, 120, .inl (fun _ => 0))), ((v 19), .inl (cI, 30, .inl (fun _ => 0))), ((v 20), .inl (cI, 160, .inl (fun _ => 0))), ((v 21), .inl (cZ, 1000, .inl (fun _ => 0))), ((v 22), .inl (cI, 120, .inl (fun _ => 0))), ((v 23), .inl (cI, 50, .inl (fun _ => 0))), ((v 24), .inl (cI, 800, .inl (fun _ => 0)))] H := hP
  have hD : va_D A [mo h1 v 0 0, ((v 1), .inl (cI, 4, .inl (szf))), ((v 2), .inl (cI, 4, .inl (fun _ => 0))), ((v 3), .inl (cJ, 240, .inr (.inl (fun _ => 0)))), ((v 5), .inl (cB, 1200, .inl (fun _ => 0))), ((v 25), .inl (cZ, 3, .inl (fun _ => 0))), ((v 16), .inl (cI, 5, .inl (fun _ => 0))), ((v 17), .inl (cI, 55, .inl (fun _ => 0))), ((v 18), .inl (cI, 120, .inl (fun _ => 0))), ((v 19), .inl (cI, 30, .inl (fun _ => 0))), ((v 20), .inl (cI, 160, .inl (fun _ => 0))), ((v 21), .inl (cZ, 1000, .inl (fun _ => 0))), ((v 22), .inl (cI, 120, .inl (fun _ => 0))), ((v 23), .inl (cI, 50, .inl (fun _ => 0))), ((v 24), .inl (cI, 800, .inl (fun _ => 0)))] := hD
  obtain ⟨rfl, hq853⟩ := hw
  refine lv_aload_n hx hb dL_law_1801 rfl (lv_at hl 1 rfl) ?_
  refine lv_aload_n hx hb dL_law_1802 rfl (lv_at hl 3 rfl) ?_
  refine lv_iload_n hx hb dL_law_1803 rfl (lv_at hl 0 rfl) ?_
  refine lv_iconst (v := 1) hx hb dL_law_1804 (by decide) ?_
  refine lv_iadd hx hb dL_law_1805 ?_
  refine lv_topi (fun z854 ez854 => ?_)
  obtain rfl : z854 = 1 := ez854.trans (by decide)
  refine va_sld hx hb hX hbl hbA hS (tq_in (a := 1) (by decide) (by omega)) dL_law_1806 ?_
  refine lv_aload_n hx hb dL_law_1807 rfl (lv_at hl 3 rfl) ?_
  refine lv_iload_n hx hb dL_law_1808 rfl (lv_at hl 0 rfl) ?_
  refine lv_iconst (v := 2) hx hb dL_law_1809 (by decide) ?_
  refine lv_iadd hx hb dL_law_1810 ?_
  refine lv_topi (fun z855 ez855 => ?_)
  obtain rfl : z855 = 2 := ez855.trans (by decide)
  refine va_sld hx hb hX hbl hbA hS (tq_in (a := 2) (by decide) (by omega)) dL_law_1811 ?_
  refine lv_aload_n hx hb dL_law_1812 rfl (lv_at hl 3 rfl) ?_
  refine lv_iload_n hx hb dL_law_1813 rfl (lv_at hl 0 rfl) ?_
  refine lv_iconst (v := 3) hx hb dL_law_1814 (by decide) ?_
  refine lv_iadd hx hb dL_law_1815 ?_
  refine lv_topi (fun z856 ez856 => ?_)
  obtain rfl : z856 = 3 := ez856.trans (by decide)
  refine va_sld hx hb hX hbl hbA hS (tq_in (a := 3) (by decide) (by omega)) dL_law_1816 ?_
  refine lv_aload_n hx hb dL_law_1817 rfl (lv_at hl 3 rfl) ?_
  refine lv_iload_n hx hb dL_law_1818 rfl (lv_at hl 0 rfl) ?_
  refine lv_iconst (v := 4) hx hb dL_law_1819 (by decide) ?_
  refine lv_iadd hx hb dL_law_1820 ?_
  refine lv_topi (fun z857 ez857 => ?_)
  obtain rfl : z857 = 4 := ez857.trans (by decide)
  refine va_sld hx hb hX hbl hbA hS (tq_in (a := 4) (by decide) (by omega)) dL_law_1821 ?_
  refine ct_calli (D := D) (wc := (w_c_X12_stumble cI cJ cB cZ cO h1 v)) (wr := [((v 1), .inl (cI, 4, .inl (szf))), ((v 2), .inl (cI, 4, .inl (fun _ => 0))), ((v 3), .inl (cJ, 240, .inr (.inl (fun _ => 0)))), ((v 5), .inl (cB, 1200, .inl (fun _ => 0))), ((v 25), .inl (cZ, 3, .inl (fun _ => 0))), ((v 17), .inl (cI, 55, .inl (fun _ => 0))), ((v 18), .inl (cI, 120, .inl (fun _ => 0))), ((v 19), .inl (cI, 30, .inl (fun _ => 0))), ((v 20), .inl (cI, 160, .inl (fun _ => 0))), ((v 21), .inl (cZ, 1000, .inl (fun _ => 0))), ((v 22), .inl (cI, 120, .inl (fun _ => 0))), ((v 23), .inl (cI, 50, .inl (fun _ => 0))), ((v 24), .inl (cI, 800, .inl (fun _ => 0)))]) (va_runV (As := [.int (xs (1 : Int32).toNatClampNeg), .int (xs (2 : Int32).toNatClampNeg), .int (xs (3 : Int32).toNatClampNeg), .int (xs (4 : Int32).toNatClampNeg)]) (rest := [.int (-2)]) ⟨hx, hb, hml, hown, hts⟩ (c_X12_stumble l D cI cJ cB cZ cO h1 v ((xs (1 : Int32).toNatClampNeg)) ((xs (2 : Int32).toNatClampNeg)) ((xs (3 : Int32).toNatClampNeg)) ((xs (4 : Int32).toNatClampNeg)) H.size) (cwV 4 hts gL_law_X12_stumble rfl rfl rfl (by decide +kernel) ⟨Nat.le_of_ble_eq_true rfl, Nat.le_of_ble_eq_true rfl⟩) (ct_preV (T := ct_T cI cJ cB cZ cO) (ci := 12) (q0 := 0) hE hP hD [0, 6] (by decide) rfl rfl rfl) rfl rfl hl.1 rfl (lv_room (Nat.le_of_ble_eq_true rfl)) dL_law_1822 ⟨Nat.le_of_ble_eq_true rfl, Nat.le_of_ble_eq_true rfl⟩) hP hD hS hA [0, 6] [1, 2, 3, 4, 5, 7, 8, 9, 10, 11, 12, 13, 14] rfl rfl (by decide) (by decide) (fun rz u H locs hw hP hD hS => ?_)
  have hP : va_P D vwCl [((v 1), .inl (cI, 4, .inl (szf))), ((v 2), .inl (cI, 4, .inl (fun _ => 0))), ((v 3), .inl (cJ, 240, .inr (.inl (fun _ => 0)))), ((v 5), .inl (cB, 1200, .inl (fun _ => 0))), ((v 25), .inl (cZ, 3, .inl (fun _ => 0))), ((v 17), .inl (cI, 55, .inl (fun _ => 0))), ((v 18), .inl (cI, 120, .inl (fun _ => 0))), ((v 19), .inl (cI, 30, .inl (fun _ => 0))), ((v 20), .inl (cI, 160, .inl (fun _ => 0))), ((v 21), .inl (cZ, 1000, .inl (fun _ => 0))), ((v 22), .inl (cI, 120, .inl (fun _ => 0))), ((v 23), .inl (cI, 50, .inl (fun _ => 0))), ((v 24), .inl (cI, 800, .inl (fun _ => 0)))] H := hP
  have hD : va_D A [((v 1), .inl (cI, 4, .inl (szf))), ((v 2), .inl (cI, 4, .inl (fun _ => 0))), ((v 3), .inl (cJ, 240, .inr (.inl (fun _ => 0)))), ((v 5), .inl (cB, 1200, .inl (fun _ => 0))), ((v 25), .inl (cZ, 3, .inl (fun _ => 0))), ((v 17), .inl (cI, 55, .inl (fun _ => 0))), ((v 18), .inl (cI, 120, .inl (fun _ => 0))), ((v 19), .inl (cI, 30, .inl (fun _ => 0))), ((v 20), .inl (cI, 160, .inl (fun _ => 0))), ((v 21), .inl (cZ, 1000, .inl (fun _ => 0))), ((v 22), .inl (cI, 120, .inl (fun _ => 0))), ((v 23), .inl (cI, 50, .inl (fun _ => 0))), ((v 24), .inl (cI, 800, .inl (fun _ => 0)))] := hD
  obtain ⟨rfl, hq858⟩ := hw
  refine lv_icmp_eq (tgt := 2167) hx hb dL_law_1825 (by decide) (fun _ => ?_) (fun hc => absurd hc (by decide))
  refine W.widen (k := 107) (n := 36842) (Nat.le_of_ble_eq_true rfl) (Nat.le_of_ble_eq_true rfl) ?_
  exact law_tail hx hb hml hr hlocks hX hbl hbA hA hAf hS (lv_sub hl [0, 1, 2, 3] rfl)
set_option maxHeartbeats 4000000 in
set_option maxRecDepth 100000 in
theorem law_c53 {p : Program} {l : Launch} {e : Env} {s : State} {m : MethodId} {below : List Frame} {meth : Method} {c : Code} {A : Nat → Prop} {b : Nat} {xs : Nat → Int32} (hx : p.tables.exec = Jvm.exec) (hb : c.code = code) (hml : c.maxLocals = 4) (hr : meth.sig.returnType = ret) (hlocks : meth.locks = false) (hX : va_X b 6 xs s s.heap) (hbl : b < s.heap.size) (hbA : ¬ A b) (hA : ∀ q : Nat, s.heap.size ≤ q → A q) (hAf : ∀ q : Nat, A q → s.heap.size ≤ q) (D : va_G) (cI cJ cB cZ cO : ClassId) (h0 h1 : Nat) (u v : Nat → Nat) (hown : s.vm.findClass RL = some m.cls) (hts : ∀ w ∈ wsL_law, w.before #[Value.ref b] s = true) (hE : ct_E D (ct_T cI cJ cB cZ cO) s) {H : Heap} {locs : List Loc} (hP : va_P D vwCl (LW cI cJ cB cZ cO h0 h1 u v) H) (hD : va_D A (LW cI cJ cB cZ cO h0 h1 u v)) (hS : va_S A s.heap H locs) {ls : Array Slot} (hl : lv_has ls 4 [(3, .int 0), (2, .ref h1), (1, .ref h0), (0, .ref b)]) : W p l e room_1 s m #[Value.ref b] below meth c H locs 107 36842 (lw_Z below #[Value.ref b] s) (F0 m 1830 ls []) := by
  have hK := hE.1
  refine lv_aload_n hx hb dL_law_1830 rfl (lv_at hl 2 rfl) ?_
  refine lv_aload_n hx hb dL_law_1831 rfl (lv_at hl 3 rfl) ?_
  refine lv_iload_n hx hb dL_law_1832 rfl (lv_at hl 0 rfl) ?_
  refine lv_iconst (v := 1) hx hb dL_law_1833 (by decide) ?_
  refine lv_iadd hx hb dL_law_1834 ?_
  refine lv_topi (fun z859 ez859 => ?_)
  obtain rfl : z859 = 1 := ez859.trans (by decide)
  refine va_sld hx hb hX hbl hbA hS (tq_in (a := 1) (by decide) (by omega)) dL_law_1835 ?_
  refine lv_aload_n hx hb dL_law_1836 rfl (lv_at hl 3 rfl) ?_
  refine lv_iload_n hx hb dL_law_1837 rfl (lv_at hl 0 rfl) ?_
  refine lv_iconst (v := 2) hx hb dL_law_1838 (by decide) ?_
  refine lv_iadd hx hb dL_law_1839 ?_
  refine lv_topi (fun z860 ez860 => ?_)
  obtain rfl : z860 = 2 := ez860.trans (by decide)
  refine va_sld hx hb hX hbl hbA hS (tq_in (a := 2) (by decide) (by omega)) dL_law_1840 ?_
  refine ct_calli (D := D) (wc := (w_c_X11_mud cI cJ cB cZ cO h0 u)) (wr := [mo h1 v 0 0, ((v 1), .inl (cI, 4, .inl (szf))), ((v 2), .inl (cI, 4, .inl (fun _ => 0))), ((v 3), .inl (cJ, 240, .inr (.inl (fun _ => 0)))), ((v 5), .inl (cB, 1200, .inl (fun _ => 0))), ((v 25), .inl (cZ, 3, .inl (fun _ => 0))), ((v 16), .inl (cI, 5, .inl (fun _ => 0))), ((v 17), .inl (cI, 55, .inl (fun _ => 0))), ((v 18), .inl (cI, 120, .inl (fun _ => 0))), ((v 19), .inl (cI, 30, .inl (fun _ => 0))), ((v 20), .inl (cI, 160, .inl (fun _ => 0))), ((v 21), .inl (cZ, 1000, .inl (fun _ => 0))), ((v 22), .inl (cI, 120, .inl (fun _ => 0))), ((v 23), .inl (cI, 50, .inl (fun _ => 0))), ((v 24), .inl (cI, 800, .inl (fun _ => 0)))]) (va_runV (As := [.int (xs (1 : Int32).toNatClampNeg), .int (xs (2 : Int32).toNatClampNeg)]) (rest := []) ⟨hx, hb, hml, hown, hts⟩ (c_X11_mud l D cI cJ cB cZ cO h0 u ((xs (1 : Int32).toNatClampNeg)) ((xs (2 : Int32).toNatClampNeg)) H.size) (cwV 2 hts gL_law_X11_mud rfl rfl rfl (by decide +kernel) ⟨Nat.le_of_ble_eq_true rfl, Nat.le_of_ble_eq_true rfl⟩) (ct_preV (T := ct_T cI cJ cB cZ cO) (ci := 11) (q0 := 0) hE hP hD [0, 4] (by decide) rfl rfl rfl) rfl rfl hl.1 rfl (lv_room (Nat.le_of_ble_eq_true rfl)) dL_law_1841 ⟨Nat.le_of_ble_eq_true rfl, Nat.le_of_ble_eq_true rfl⟩) hP hD hS hA [0, 4] [55, 56, 57, 58, 59, 60, 61, 62, 63, 64, 65, 66, 67, 68, 69] rfl rfl (by decide) (by decide) (fun rz u H locs hw hP hD hS => ?_)
  have hP : va_P D vwCl [mo h1 v 0 0, ((v 1), .inl (cI, 4, .inl (szf))), ((v 2), .inl (cI, 4, .inl (fun _ => 0))), ((v 3), .inl (cJ, 240, .inr (.inl (fun _ => 0)))), ((v 5), .inl (cB, 1200, .inl (fun _ => 0))), ((v 25), .inl (cZ, 3, .inl (fun _ => 0))), ((v 16), .inl (cI, 5, .inl (fun _ => 0))), ((v 17), .inl (cI, 55, .inl (fun _ => 0))), ((v 18), .inl (cI, 120, .inl (fun _ => 0))), ((v 19), .inl (cI, 30, .inl (fun _ => 0))), ((v 20), .inl (cI, 160, .inl (fun _ => 0))), ((v 21), .inl (cZ, 1000, .inl (fun _ => 0))), ((v 22), .inl (cI, 120, .inl (fun _ => 0))), ((v 23), .inl (cI, 50, .inl (fun _ => 0))), ((v 24), .inl (cI, 800, .inl (fun _ => 0)))] H := hP
  have hD : va_D A [mo h1 v 0 0, ((v 1), .inl (cI, 4, .inl (szf))), ((v 2), .inl (cI, 4, .inl (fun _ => 0))), ((v 3), .inl (cJ, 240, .inr (.inl (fun _ => 0)))), ((v 5), .inl (cB, 1200, .inl (fun _ => 0))), ((v 25), .inl (cZ, 3, .inl (fun _ => 0))), ((v 16), .inl (cI, 5, .inl (fun _ => 0))), ((v 17), .inl (cI, 55, .inl (fun _ => 0))), ((v 18), .inl (cI, 120, .inl (fun _ => 0))), ((v 19), .inl (cI, 30, .inl (fun _ => 0))), ((v 20), .inl (cI, 160, .inl (fun _ => 0))), ((v 21), .inl (cZ, 1000, .inl (fun _ => 0))), ((v 22), .inl (cI, 120, .inl (fun _ => 0))), ((v 23), .inl (cI, 50, .inl (fun _ => 0))), ((v 24), .inl (cI, 800, .inl (fun _ => 0)))] := hD
  obtain ⟨rfl, hq861⟩ := hw
  refine lv_aload_n hx hb dL_law_1844 rfl (lv_at hl 1 rfl) ?_
  refine lv_aload_n hx hb dL_law_1845 rfl (lv_at hl 3 rfl) ?_
  refine lv_iload_n hx hb dL_law_1846 rfl (lv_at hl 0 rfl) ?_
  refine lv_iconst (v := 1) hx hb dL_law_1847 (by decide) ?_
  refine lv_iadd hx hb dL_law_1848 ?_
  refine lv_topi (fun z862 ez862 => ?_)
  obtain rfl : z862 = 1 := ez862.trans (by decide)
  refine va_sld hx hb hX hbl hbA hS (tq_in (a := 1) (by decide) (by omega)) dL_law_1849 ?_
  refine lv_aload_n hx hb dL_law_1850 rfl (lv_at hl 3 rfl) ?_
  refine lv_iload_n hx hb dL_law_1851 rfl (lv_at hl 0 rfl) ?_
  refine lv_iconst (v := 2) hx hb dL_law_1852 (by decide) ?_
  refine lv_iadd hx hb dL_law_1853 ?_
  refine lv_topi (fun z863 ez863 => ?_)
  obtain rfl : z863 = 2 := ez863.trans (by decide)
  refine va_sld hx hb hX hbl hbA hS (tq_in (a := 2) (by decide) (by omega)) dL_law_1854 ?_
  refine ct_calli (D := D) (wc := (w_c_X12_mud cI cJ cB cZ cO h1 v)) (wr := [((v 1), .inl (cI, 4, .inl (szf))), ((v 2), .inl (cI, 4, .inl (fun _ => 0))), ((v 3), .inl (cJ, 240, .inr (.inl (fun _ => 0)))), ((v 5), .inl (cB, 1200, .inl (fun _ => 0))), ((v 25), .inl (cZ, 3, .inl (fun _ => 0))), ((v 17), .inl (cI, 55, .inl (fun _ => 0))), ((v 18), .inl (cI, 120, .inl (fun _ => 0))), ((v 19), .inl (cI, 30, .inl (fun _ => 0))), ((v 20), .inl (cI, 160, .inl (fun _ => 0))), ((v 21), .inl (cZ, 1000, .inl (fun _ => 0))), ((v 22), .inl (cI, 120, .inl (fun _ => 0))), ((v 23), .inl (cI, 50, .inl (fun _ => 0))), ((v 24), .inl (cI, 800, .inl (fun _ => 0)))]) (va_runV (As := [.int (xs (1 : Int32).toNatClampNeg), .int (xs (2 : Int32).toNatClampNeg)]) (rest := [.int (-2)]) ⟨hx, hb, hml, hown, hts⟩ (c_X12_mud l D cI cJ cB cZ cO h1 v ((xs (1 : Int32).toNatClampNeg)) ((xs (2 : Int32).toNatClampNeg)) H.size) (cwV 2 hts gL_law_X12_mud rfl rfl rfl (by decide +kernel) ⟨Nat.le_of_ble_eq_true rfl, Nat.le_of_ble_eq_true rfl⟩) (ct_preV (T := ct_T cI cJ cB cZ cO) (ci := 12) (q0 := 0) hE hP hD [0, 6] (by decide) rfl rfl rfl) rfl rfl hl.1 rfl (lv_room (Nat.le_of_ble_eq_true rfl)) dL_law_1855 ⟨Nat.le_of_ble_eq_true rfl, Nat.le_of_ble_eq_true rfl⟩) hP hD hS hA [0, 6] [1, 2, 3, 4, 5, 7, 8, 9, 10, 11, 12, 13, 14] rfl rfl (by decide) (by decide) (fun rz u H locs hw hP hD hS => ?_)
  have hP : va_P D vwCl [((v 1), .inl (cI, 4, .inl (szf))), ((v 2), .inl (cI, 4, .inl (fun _ => 0))), ((v 3), .inl (cJ, 240, .inr (.inl (fun _ => 0)))), ((v 5), .inl (cB, 1200, .inl (fun _ => 0))), ((v 25), .inl (cZ, 3, .inl (fun _ => 0))), ((v 17), .inl (cI, 55, .inl (fun _ => 0))), ((v 18), .inl (cI, 120, .inl (fun _ => 0))), ((v 19), .inl (cI, 30, .inl (fun _ => 0))), ((v 20), .inl (cI, 160, .inl (fun _ => 0))), ((v 21), .inl (cZ, 1000, .inl (fun _ => 0))), ((v 22), .inl (cI, 120, .inl (fun _ => 0))), ((v 23), .inl (cI, 50, .inl (fun _ => 0))), ((v 24), .inl (cI, 800, .inl (fun _ => 0)))] H := hP
  have hD : va_D A [((v 1), .inl (cI, 4, .inl (szf))), ((v 2), .inl (cI, 4, .inl (fun _ => 0))), ((v 3), .inl (cJ, 240, .inr (.inl (fun _ => 0)))), ((v 5), .inl (cB, 1200, .inl (fun _ => 0))), ((v 25), .inl (cZ, 3, .inl (fun _ => 0))), ((v 17), .inl (cI, 55, .inl (fun _ => 0))), ((v 18), .inl (cI, 120, .inl (fun _ => 0))), ((v 19), .inl (cI, 30, .inl (fun _ => 0))), ((v 20), .inl (cI, 160, .inl (fun _ => 0))), ((v 21), .inl (cZ, 1000, .inl (fun _ => 0))), ((v 22), .inl (cI, 120, .inl (fun _ => 0))), ((v 23), .inl (cI, 50, .inl (fun _ => 0))), ((v 24), .inl (cI, 800, .inl (fun _ => 0)))] := hD
  obtain ⟨rfl, hq864⟩ := hw
  refine lv_icmp_eq (tgt := 2167) hx hb dL_law_1858 (by decide) (fun _ => ?_) (fun hc => absurd hc (by decide))
  refine W.widen (k := 107) (n := 36842) (Nat.le_of_ble_eq_true rfl) (Nat.le_of_ble_eq_true rfl) ?_
  exact law_tail hx hb hml hr hlocks hX hbl hbA hA hAf hS (lv_sub hl [0, 1, 2, 3] rfl)
set_option maxHeartbeats 4000000 in
set_option maxRecDepth 100000 in
theorem law_c54 {p : Program} {l : Launch} {e : Env} {s : State} {m : MethodId} {below : List Frame} {meth : Method} {c : Code} {A : Nat → Prop} {b : Nat} {xs : Nat → Int32} (hx : p.tables.exec = Jvm.exec) (hb : c.code = code) (hml : c.maxLocals = 4) (hr : meth.sig.returnType = ret) (hlocks : meth.locks = false) (hX : va_X b 6 xs s s.heap) (hbl : b < s.heap.size) (hbA : ¬ A b) (hA : ∀ q : Nat, s.heap.size ≤ q → A q) (hAf : ∀ q : Nat, A q → s.heap.size ≤ q) (D : va_G) (cI cJ cB cZ cO : ClassId) (h0 h1 : Nat) (u v : Nat → Nat) (hown : s.vm.findClass RL = some m.cls) (hts : ∀ w ∈ wsL_law, w.before #[Value.ref b] s = true) (hE : ct_E D (ct_T cI cJ cB cZ cO) s) {H : Heap} {locs : List Loc} (hP : va_P D vwCl (LW cI cJ cB cZ cO h0 h1 u v) H) (hD : va_D A (LW cI cJ cB cZ cO h0 h1 u v)) (hS : va_S A s.heap H locs) {ls : Array Slot} (hl : lv_has ls 4 [(3, .int 0), (2, .ref h1), (1, .ref h0), (0, .ref b)]) : W p l e room_1 s m #[Value.ref b] below meth c H locs 107 36842 (lw_Z below #[Value.ref b] s) (F0 m 1863 ls []) := by
  have hK := hE.1
  refine lv_aload_n hx hb dL_law_1863 rfl (lv_at hl 2 rfl) ?_
  refine lv_aload_n hx hb dL_law_1864 rfl (lv_at hl 3 rfl) ?_
  refine lv_iload_n hx hb dL_law_1865 rfl (lv_at hl 0 rfl) ?_
  refine lv_iconst (v := 1) hx hb dL_law_1866 (by decide) ?_
  refine lv_iadd hx hb dL_law_1867 ?_
  refine lv_topi (fun z865 ez865 => ?_)
  obtain rfl : z865 = 1 := ez865.trans (by decide)
  refine va_sld hx hb hX hbl hbA hS (tq_in (a := 1) (by decide) (by omega)) dL_law_1868 ?_
  refine lv_aload_n hx hb dL_law_1869 rfl (lv_at hl 3 rfl) ?_
  refine lv_iload_n hx hb dL_law_1870 rfl (lv_at hl 0 rfl) ?_
  refine lv_iconst (v := 2) hx hb dL_law_1871 (by decide) ?_
  refine lv_iadd hx hb dL_law_1872 ?_
  refine lv_topi (fun z866 ez866 => ?_)
  obtain rfl : z866 = 2 := ez866.trans (by decide)
  refine va_sld hx hb hX hbl hbA hS (tq_in (a := 2) (by decide) (by omega)) dL_law_1873 ?_
  refine lv_aload_n hx hb dL_law_1874 rfl (lv_at hl 3 rfl) ?_
  refine lv_iload_n hx hb dL_law_1875 rfl (lv_at hl 0 rfl) ?_
  refine lv_iconst (v := 3) hx hb dL_law_1876 (by decide) ?_
  refine lv_iadd hx hb dL_law_1877 ?_
  refine lv_topi (fun z867 ez867 => ?_)
  obtain rfl : z867 = 3 := ez867.trans (by decide)
  refine va_sld hx hb hX hbl hbA hS (tq_in (a := 3) (by decide) (by omega)) dL_law_1878 ?_
  refine ct_calli (D := D) (wc := (w_c_X11_teach cI cJ cB cZ cO h0 u)) (wr := [mo h1 v 0 0, ((v 1), .inl (cI, 4, .inl (szf))), ((v 2), .inl (cI, 4, .inl (fun _ => 0))), ((v 3), .inl (cJ, 240, .inr (.inl (fun _ => 0)))), ((v 5), .inl (cB, 1200, .inl (fun _ => 0))), ((v 25), .inl (cZ, 3, .inl (fun _ => 0))), ((v 16), .inl (cI, 5, .inl (fun _ => 0))), ((v 17), .inl (cI, 55, .inl (fun _ => 0))), ((v 18), .inl (cI, 120, .inl (fun _ => 0))), ((v 19), .inl (cI, 30, .inl (fun _ => 0))), ((v 20), .inl (cI, 160, .inl (fun _ => 0))), ((v 21), .inl (cZ, 1000, .inl (fun _ => 0))), ((v 22), .inl (cI, 120, .inl (fun _ => 0))), ((v 23), .inl (cI, 50, .inl (fun _ => 0))), ((v 24), .inl (cI, 800, .inl (fun _ => 0)))]) (va_runV (As := [.int (xs (1 : Int32).toNatClampNeg), .int (xs (2 : Int32).toNatClampNeg), .int (xs (3 : Int32).toNatClampNeg)]) (rest := []) ⟨hx, hb, hml, hown, hts⟩ (c_X11_teach l D cI cJ cB cZ cO h0 u ((xs (1 : Int32).toNatClampNeg)) ((xs (2 : Int32).toNatClampNeg)) ((xs (3 : Int32).toNatClampNeg)) H.size) (cwV 3 hts gL_law_X11_teach rfl rfl rfl (by decide +kernel) ⟨Nat.le_of_ble_eq_true rfl, Nat.le_of_ble_eq_true rfl⟩) (ct_preV (T := ct_T cI cJ cB cZ cO) (ci := 11) (q0 := 0) hE hP hD [0, 4] (by decide) rfl rfl rfl) rfl rfl hl.1 rfl (lv_room (Nat.le_of_ble_eq_true rfl)) dL_law_1879 ⟨Nat.le_of_ble_eq_true rfl, Nat.le_of_ble_eq_true rfl⟩) hP hD hS hA [0, 4] [55, 56, 57, 58, 59, 60, 61, 62, 63, 64, 65, 66, 67, 68, 69] rfl rfl (by decide) (by decide) (fun rz u H locs hw hP hD hS => ?_)
  have hP : va_P D vwCl [mo h1 v 0 0, ((v 1), .inl (cI, 4, .inl (szf))), ((v 2), .inl (cI, 4, .inl (fun _ => 0))), ((v 3), .inl (cJ, 240, .inr (.inl (fun _ => 0)))), ((v 5), .inl (cB, 1200, .inl (fun _ => 0))), ((v 25), .inl (cZ, 3, .inl (fun _ => 0))), ((v 16), .inl (cI, 5, .inl (fun _ => 0))), ((v 17), .inl (cI, 55, .inl (fun _ => 0))), ((v 18), .inl (cI, 120, .inl (fun _ => 0))), ((v 19), .inl (cI, 30, .inl (fun _ => 0))), ((v 20), .inl (cI, 160, .inl (fun _ => 0))), ((v 21), .inl (cZ, 1000, .inl (fun _ => 0))), ((v 22), .inl (cI, 120, .inl (fun _ => 0))), ((v 23), .inl (cI, 50, .inl (fun _ => 0))), ((v 24), .inl (cI, 800, .inl (fun _ => 0)))] H := hP
  have hD : va_D A [mo h1 v 0 0, ((v 1), .inl (cI, 4, .inl (szf))), ((v 2), .inl (cI, 4, .inl (fun _ => 0))), ((v 3), .inl (cJ, 240, .inr (.inl (fun _ => 0)))), ((v 5), .inl (cB, 1200, .inl (fun _ => 0))), ((v 25), .inl (cZ, 3, .inl (fun _ => 0))), ((v 16), .inl (cI, 5, .inl (fun _ => 0))), ((v 17), .inl (cI, 55, .inl (fun _ => 0))), ((v 18), .inl (cI, 120, .inl (fun _ => 0))), ((v 19), .inl (cI, 30, .inl (fun _ => 0))), ((v 20), .inl (cI, 160, .inl (fun _ => 0))), ((v 21), .inl (cZ, 1000, .inl (fun _ => 0))), ((v 22), .inl (cI, 120, .inl (fun _ => 0))), ((v 23), .inl (cI, 50, .inl (fun _ => 0))), ((v 24), .inl (cI, 800, .inl (fun _ => 0)))] := hD
  obtain ⟨rfl, hq868⟩ := hw
  refine lv_aload_n hx hb dL_law_1882 rfl (lv_at hl 1 rfl) ?_
  refine lv_aload_n hx hb dL_law_1883 rfl (lv_at hl 3 rfl) ?_
  refine lv_iload_n hx hb dL_law_1884 rfl (lv_at hl 0 rfl) ?_
  refine lv_iconst (v := 1) hx hb dL_law_1885 (by decide) ?_
  refine lv_iadd hx hb dL_law_1886 ?_
  refine lv_topi (fun z869 ez869 => ?_)
  obtain rfl : z869 = 1 := ez869.trans (by decide)
  refine va_sld hx hb hX hbl hbA hS (tq_in (a := 1) (by decide) (by omega)) dL_law_1887 ?_
  refine lv_aload_n hx hb dL_law_1888 rfl (lv_at hl 3 rfl) ?_
  refine lv_iload_n hx hb dL_law_1889 rfl (lv_at hl 0 rfl) ?_
  refine lv_iconst (v := 2) hx hb dL_law_1890 (by decide) ?_
  refine lv_iadd hx hb dL_law_1891 ?_
  refine lv_topi (fun z870 ez870 => ?_)
  obtain rfl : z870 = 2 := ez870.trans (by decide)
  refine va_sld hx hb hX hbl hbA hS (tq_in (a := 2) (by decide) (by omega)) dL_law_1892 ?_
  refine lv_aload_n hx hb dL_law_1893 rfl (lv_at hl 3 rfl) ?_
  refine lv_iload_n hx hb dL_law_1894 rfl (lv_at hl 0 rfl) ?_
  refine lv_iconst (v := 3) hx hb dL_law_1895 (by decide) ?_
  refine lv_iadd hx hb dL_law_1896 ?_
  refine lv_topi (fun z871 ez871 => ?_)
  obtain rfl : z871 = 3 := ez871.trans (by decide)
  refine va_sld hx hb hX hbl hbA hS (tq_in (a := 3) (by decide) (by omega)) dL_law_1897 ?_
  refine ct_calli (D := D) (wc := (w_c_X12_teach cI cJ cB cZ cO h1 v)) (wr := [((v 1), .inl (cI, 4, .inl (szf))), ((v 2), .inl (cI, 4, .inl (fun _ => 0))), ((v 3), .inl (cJ, 240, .inr (.inl (fun _ => 0)))), ((v 5), .inl (cB, 1200, .inl (fun _ => 0))), ((v 25), .inl (cZ, 3, .inl (fun _ => 0))), ((v 17), .inl (cI, 55, .inl (fun _ => 0))), ((v 18), .inl (cI, 120, .inl (fun _ => 0))), ((v 19), .inl (cI, 30, .inl (fun _ => 0))), ((v 20), .inl (cI, 160, .inl (fun _ => 0))), ((v 21), .inl (cZ, 1000, .inl (fun _ => 0))), ((v 22), .inl (cI, 120, .inl (fun _ => 0))), ((v 23), .inl (cI, 50, .inl (fun _ => 0))), ((v 24), .inl (cI, 800, .inl (fun _ => 0)))]) (va_runV (As := [.int (xs (1 : Int32).toNatClampNeg), .int (xs (2 : Int32).toNatClampNeg), .int (xs (3 : Int32).toNatClampNeg)]) (rest := [.int (-2)]) ⟨hx, hb, hml, hown, hts⟩ (c_X12_teach l D cI cJ cB cZ cO h1 v ((xs (1 : Int32).toNatClampNeg)) ((xs (2 : Int32).toNatClampNeg)) ((xs (3 : Int32).toNatClampNeg)) H.size) (cwV 3 hts gL_law_X12_teach rfl rfl rfl (by decide +kernel) ⟨Nat.le_of_ble_eq_true rfl, Nat.le_of_ble_eq_true rfl⟩) (ct_preV (T := ct_T cI cJ cB cZ cO) (ci := 12) (q0 := 0) hE hP hD [0, 6] (by decide) rfl rfl rfl) rfl rfl hl.1 rfl (lv_room (Nat.le_of_ble_eq_true rfl)) dL_law_1898 ⟨Nat.le_of_ble_eq_true rfl, Nat.le_of_ble_eq_true rfl⟩) hP hD hS hA [0, 6] [1, 2, 3, 4, 5, 7, 8, 9, 10, 11, 12, 13, 14] rfl rfl (by decide) (by decide) (fun rz u H locs hw hP hD hS => ?_)
  have hP : va_P D vwCl [((v 1), .inl (cI, 4, .inl (szf))), ((v 2), .inl (cI, 4, .inl (fun _ => 0))), ((v 3), .inl (cJ, 240, .inr (.inl (fun _ => 0)))), ((v 5), .inl (cB, 1200, .inl (fun _ => 0))), ((v 25), .inl (cZ, 3, .inl (fun _ => 0))), ((v 17), .inl (cI, 55, .inl (fun _ => 0))), ((v 18), .inl (cI, 120, .inl (fun _ => 0))), ((v 19), .inl (cI, 30, .inl (fun _ => 0))), ((v 20), .inl (cI, 160, .inl (fun _ => 0))), ((v 21), .inl (cZ, 1000, .inl (fun _ => 0))), ((v 22), .inl (cI, 120, .inl (fun _ => 0))), ((v 23), .inl (cI, 50, .inl (fun _ => 0))), ((v 24), .inl (cI, 800, .inl (fun _ => 0)))] H := hP
  have hD : va_D A [((v 1), .inl (cI, 4, .inl (szf))), ((v 2), .inl (cI, 4, .inl (fun _ => 0))), ((v 3), .inl (cJ, 240, .inr (.inl (fun _ => 0)))), ((v 5), .inl (cB, 1200, .inl (fun _ => 0))), ((v 25), .inl (cZ, 3, .inl (fun _ => 0))), ((v 17), .inl (cI, 55, .inl (fun _ => 0))), ((v 18), .inl (cI, 120, .inl (fun _ => 0))), ((v 19), .inl (cI, 30, .inl (fun _ => 0))), ((v 20), .inl (cI, 160, .inl (fun _ => 0))), ((v 21), .inl (cZ, 1000, .inl (fun _ => 0))), ((v 22), .inl (cI, 120, .inl (fun _ => 0))), ((v 23), .inl (cI, 50, .inl (fun _ => 0))), ((v 24), .inl (cI, 800, .inl (fun _ => 0)))] := hD
  obtain ⟨rfl, hq872⟩ := hw
  refine lv_icmp_eq (tgt := 2167) hx hb dL_law_1901 (by decide) (fun _ => ?_) (fun hc => absurd hc (by decide))
  refine W.widen (k := 107) (n := 36842) (Nat.le_of_ble_eq_true rfl) (Nat.le_of_ble_eq_true rfl) ?_
  exact law_tail hx hb hml hr hlocks hX hbl hbA hA hAf hS (lv_sub hl [0, 1, 2, 3] rfl)
set_option maxHeartbeats 4000000 in
set_option maxRecDepth 100000 in
theorem law_c55 {p : Program} {l : Launch} {e : Env} {s : State} {m : MethodId} {below : List Frame} {meth : Method} {c : Code} {A : Nat → Prop} {b : Nat} {xs : Nat → Int32} (hx : p.tables.exec = Jvm.exec) (hb : c.code = code) (hml : c.maxLocals = 4) (hr : meth.sig.returnType = ret) (hlocks : meth.locks = false) (hX : va_X b 6 xs s s.heap) (hbl : b < s.heap.size) (hbA : ¬ A b) (hA : ∀ q : Nat, s.heap.size ≤ q → A q) (hAf : ∀ q : Nat, A q → s.heap.size ≤ q) (D : va_G) (cI cJ cB cZ cO : ClassId) (h0 h1 : Nat) (u v : Nat → Nat) (hown : s.vm.findClass RL = some m.cls) (hts : ∀ w ∈ wsL_law, w.before #[Value.ref b] s = true) (hE : ct_E D (ct_T cI cJ cB cZ cO) s) {H : Heap} {locs : List Loc} (hP : va_P D vwCl (LW cI cJ cB cZ cO h0 h1 u v) H) (hD : va_D A (LW cI cJ cB cZ cO h0 h1 u v)) (hS : va_S A s.heap H locs) {ls : Array Slot} (hl : lv_has ls 4 [(3, .int 0), (2, .ref h1), (1, .ref h0), (0, .ref b)]) : W p l e room_1 s m #[Value.ref b] below meth c H locs 107 36842 (lw_Z below #[Value.ref b] s) (F0 m 1906 ls []) := by
  have hK := hE.1
  refine lv_aload_n hx hb dL_law_1906 rfl (lv_at hl 2 rfl) ?_
  refine ct_calli (D := D) (wc := (w_c_X11_undo cI cJ cB cZ cO h0 u)) (wr := [mo h1 v 0 0, ((v 1), .inl (cI, 4, .inl (szf))), ((v 2), .inl (cI, 4, .inl (fun _ => 0))), ((v 3), .inl (cJ, 240, .inr (.inl (fun _ => 0)))), ((v 5), .inl (cB, 1200, .inl (fun _ => 0))), ((v 25), .inl (cZ, 3, .inl (fun _ => 0))), ((v 16), .inl (cI, 5, .inl (fun _ => 0))), ((v 17), .inl (cI, 55, .inl (fun _ => 0))), ((v 18), .inl (cI, 120, .inl (fun _ => 0))), ((v 19), .inl (cI, 30, .inl (fun _ => 0))), ((v 20), .inl (cI, 160, .inl (fun _ => 0))), ((v 21), .inl (cZ, 1000, .inl (fun _ => 0))), ((v 22), .inl (cI, 120, .inl (fun _ => 0))), ((v 23), .inl (cI, 50, .inl (fun _ => 0))), ((v 24), .inl (cI, 800, .inl (fun _ => 0)))]) (va_runV (As := []) (rest := []) ⟨hx, hb, hml, hown, hts⟩ (c_X11_undo l D cI cJ cB cZ cO h0 u H.size) (cwV 0 hts gL_law_X11_undo rfl rfl rfl (by decide +kernel) ⟨Nat.le_of_ble_eq_true rfl, Nat.le_of_ble_eq_true rfl⟩) (ct_preV (T := ct_T cI cJ cB cZ cO) (ci := 11) (q0 := 0) hE hP hD [0, 4] (by decide) rfl rfl rfl) rfl rfl hl.1 rfl (lv_room (Nat.le_of_ble_eq_true rfl)) dL_law_1907 ⟨Nat.le_of_ble_eq_true rfl, Nat.le_of_ble_eq_true rfl⟩) hP hD hS hA [0, 4] [55, 56, 57, 58, 59, 60, 61, 62, 63, 64, 65, 66, 67, 68, 69] rfl rfl (by decide) (by decide) (fun rz u H locs hw hP hD hS => ?_)
  have hP : va_P D vwCl [mo h1 v 0 0, ((v 1), .inl (cI, 4, .inl (szf))), ((v 2), .inl (cI, 4, .inl (fun _ => 0))), ((v 3), .inl (cJ, 240, .inr (.inl (fun _ => 0)))), ((v 5), .inl (cB, 1200, .inl (fun _ => 0))), ((v 25), .inl (cZ, 3, .inl (fun _ => 0))), ((v 16), .inl (cI, 5, .inl (fun _ => 0))), ((v 17), .inl (cI, 55, .inl (fun _ => 0))), ((v 18), .inl (cI, 120, .inl (fun _ => 0))), ((v 19), .inl (cI, 30, .inl (fun _ => 0))), ((v 20), .inl (cI, 160, .inl (fun _ => 0))), ((v 21), .inl (cZ, 1000, .inl (fun _ => 0))), ((v 22), .inl (cI, 120, .inl (fun _ => 0))), ((v 23), .inl (cI, 50, .inl (fun _ => 0))), ((v 24), .inl (cI, 800, .inl (fun _ => 0)))] H := hP
  have hD : va_D A [mo h1 v 0 0, ((v 1), .inl (cI, 4, .inl (szf))), ((v 2), .inl (cI, 4, .inl (fun _ => 0))), ((v 3), .inl (cJ, 240, .inr (.inl (fun _ => 0)))), ((v 5), .inl (cB, 1200, .inl (fun _ => 0))), ((v 25), .inl (cZ, 3, .inl (fun _ => 0))), ((v 16), .inl (cI, 5, .inl (fun _ => 0))), ((v 17), .inl (cI, 55, .inl (fun _ => 0))), ((v 18), .inl (cI, 120, .inl (fun _ => 0))), ((v 19), .inl (cI, 30, .inl (fun _ => 0))), ((v 20), .inl (cI, 160, .inl (fun _ => 0))), ((v 21), .inl (cZ, 1000, .inl (fun _ => 0))), ((v 22), .inl (cI, 120, .inl (fun _ => 0))), ((v 23), .inl (cI, 50, .inl (fun _ => 0))), ((v 24), .inl (cI, 800, .inl (fun _ => 0)))] := hD
  obtain ⟨rfl, hq873⟩ := hw
  refine lv_aload_n hx hb dL_law_1910 rfl (lv_at hl 1 rfl) ?_
  refine ct_calli (D := D) (wc := (w_c_X12_undo cI cJ cB cZ cO h1 v)) (wr := [((v 1), .inl (cI, 4, .inl (szf))), ((v 2), .inl (cI, 4, .inl (fun _ => 0))), ((v 3), .inl (cJ, 240, .inr (.inl (fun _ => 0)))), ((v 5), .inl (cB, 1200, .inl (fun _ => 0))), ((v 25), .inl (cZ, 3, .inl (fun _ => 0))), ((v 17), .inl (cI, 55, .inl (fun _ => 0))), ((v 18), .inl (cI, 120, .inl (fun _ => 0))), ((v 19), .inl (cI, 30, .inl (fun _ => 0))), ((v 20), .inl (cI, 160, .inl (fun _ => 0))), ((v 21), .inl (cZ, 1000, .inl (fun _ => 0))), ((v 22), .inl (cI, 120, .inl (fun _ => 0))), ((v 23), .inl (cI, 50, .inl (fun _ => 0))), ((v 24), .inl (cI, 800, .inl (fun _ => 0)))]) (va_runV (As := []) (rest := [.int (-2)]) ⟨hx, hb, hml, hown, hts⟩ (c_X12_undo l D cI cJ cB cZ cO h1 v H.size) (cwV 0 hts gL_law_X12_undo rfl rfl rfl (by decide +kernel) ⟨Nat.le_of_ble_eq_true rfl, Nat.le_of_ble_eq_true rfl⟩) (ct_preV (T := ct_T cI cJ cB cZ cO) (ci := 12) (q0 := 0) hE hP hD [0, 6] (by decide) rfl rfl rfl) rfl rfl hl.1 rfl (lv_room (Nat.le_of_ble_eq_true rfl)) dL_law_1911 ⟨Nat.le_of_ble_eq_true rfl, Nat.le_of_ble_eq_true rfl⟩) hP hD hS hA [0, 6] [1, 2, 3, 4, 5, 7, 8, 9, 10, 11, 12, 13, 14] rfl rfl (by decide) (by decide) (fun rz u H locs hw hP hD hS => ?_)
  have hP : va_P D vwCl [((v 1), .inl (cI, 4, .inl (szf))), ((v 2), .inl (cI, 4, .inl (fun _ => 0))), ((v 3), .inl (cJ, 240, .inr (.inl (fun _ => 0)))), ((v 5), .inl (cB, 1200, .inl (fun _ => 0))), ((v 25), .inl (cZ, 3, .inl (fun _ => 0))), ((v 17), .inl (cI, 55, .inl (fun _ => 0))), ((v 18), .inl (cI, 120, .inl (fun _ => 0))), ((v 19), .inl (cI, 30, .inl (fun _ => 0))), ((v 20), .inl (cI, 160, .inl (fun _ => 0))), ((v 21), .inl (cZ, 1000, .inl (fun _ => 0))), ((v 22), .inl (cI, 120, .inl (fun _ => 0))), ((v 23), .inl (cI, 50, .inl (fun _ => 0))), ((v 24), .inl (cI, 800, .inl (fun _ => 0)))] H := hP
  have hD : va_D A [((v 1), .inl (cI, 4, .inl (szf))), ((v 2), .inl (cI, 4, .inl (fun _ => 0))), ((v 3), .inl (cJ, 240, .inr (.inl (fun _ => 0)))), ((v 5), .inl (cB, 1200, .inl (fun _ => 0))), ((v 25), .inl (cZ, 3, .inl (fun _ => 0))), ((v 17), .inl (cI, 55, .inl (fun _ => 0))), ((v 18), .inl (cI, 120, .inl (fun _ => 0))), ((v 19), .inl (cI, 30, .inl (fun _ => 0))), ((v 20), .inl (cI, 160, .inl (fun _ => 0))), ((v 21), .inl (cZ, 1000, .inl (fun _ => 0))), ((v 22), .inl (cI, 120, .inl (fun _ => 0))), ((v 23), .inl (cI, 50, .inl (fun _ => 0))), ((v 24), .inl (cI, 800, .inl (fun _ => 0)))] := hD
  obtain ⟨rfl, hq874⟩ := hw
  refine lv_icmp_eq (tgt := 2167) hx hb dL_law_1914 (by decide) (fun _ => ?_) (fun hc => absurd hc (by decide))
  refine W.widen (k := 107) (n := 36842) (Nat.le_of_ble_eq_true rfl) (Nat.le_of_ble_eq_true rfl) ?_
  exact law_tail hx hb hml hr hlocks hX hbl hbA hA hAf hS (lv_sub hl [0, 1, 2, 3] rfl)
set_option maxHeartbeats 4000000 in
set_option maxRecDepth 100000 in
theorem law_c56 {p : Program} {l : Launch} {e : Env} {s : State} {m : MethodId} {below : List Frame} {meth : Method} {c : Code} {A : Nat → Prop} {b : Nat} {xs : Nat → Int32} (hx : p.tables.exec = Jvm.exec) (hb : c.code = code) (hml : c.maxLocals = 4) (hr : meth.sig.returnType = ret) (hlocks : meth.locks = false) (hX : va_X b 6 xs s s.heap) (hbl : b < s.heap.size) (hbA : ¬ A b) (hA : ∀ q : Nat, s.heap.size ≤ q → A q) (hAf : ∀ q : Nat, A q → s.heap.size ≤ q) (D : va_G) (cI cJ cB cZ cO : ClassId) (h0 h1 : Nat) (u v : Nat → Nat) (hown : s.vm.findClass RL = some m.cls) (hts : ∀ w ∈ wsL_law, w.before #[Value.ref b] s = true) (hE : ct_E D (ct_T cI cJ cB cZ cO) s) {H : Heap} {locs : List Loc} (hP : va_P D vwCl (LW cI cJ cB cZ cO h0 h1 u v) H) (hD : va_D A (LW cI cJ cB cZ cO h0 h1 u v)) (hS : va_S A s.heap H locs) {ls : Array Slot} (hl : lv_has ls 4 [(3, .int 0), (2, .ref h1), (1, .ref h0), (0, .ref b)]) : W p l e room_1 s m #[Value.ref b] below meth c H locs 107 36842 (lw_Z below #[Value.ref b] s) (F0 m 1919 ls []) := by
  have hK := hE.1
  refine lv_aload_n hx hb dL_law_1919 rfl (lv_at hl 2 rfl) ?_
  refine lv_aload_n hx hb dL_law_1920 rfl (lv_at hl 3 rfl) ?_
  refine lv_iload_n hx hb dL_law_1921 rfl (lv_at hl 0 rfl) ?_
  refine lv_iconst (v := 1) hx hb dL_law_1922 (by decide) ?_
  refine lv_iadd hx hb dL_law_1923 ?_
  refine lv_topi (fun z875 ez875 => ?_)
  obtain rfl : z875 = 1 := ez875.trans (by decide)
  refine va_sld hx hb hX hbl hbA hS (tq_in (a := 1) (by decide) (by omega)) dL_law_1924 ?_
  refine ct_calli (D := D) (wc := (w_c_X11_count cI cJ cB cZ cO h0 u)) (wr := [mo h1 v 0 0, ((v 1), .inl (cI, 4, .inl (szf))), ((v 2), .inl (cI, 4, .inl (fun _ => 0))), ((v 3), .inl (cJ, 240, .inr (.inl (fun _ => 0)))), ((v 5), .inl (cB, 1200, .inl (fun _ => 0))), ((v 25), .inl (cZ, 3, .inl (fun _ => 0))), ((v 16), .inl (cI, 5, .inl (fun _ => 0))), ((v 17), .inl (cI, 55, .inl (fun _ => 0))), ((v 18), .inl (cI, 120, .inl (fun _ => 0))), ((v 19), .inl (cI, 30, .inl (fun _ => 0))), ((v 20), .inl (cI, 160, .inl (fun _ => 0))), ((v 21), .inl (cZ, 1000, .inl (fun _ => 0))), ((v 22), .inl (cI, 120, .inl (fun _ => 0))), ((v 23), .inl (cI, 50, .inl (fun _ => 0))), ((v 24), .inl (cI, 800, .inl (fun _ => 0)))]) (va_runV (As := [.int (xs (1 : Int32).toNatClampNeg)]) (rest := []) ⟨hx, hb, hml, hown, hts⟩ (c_X11_count l D cI cJ cB cZ cO h0 u ((xs (1 : Int32).toNatClampNeg)) H.size) (cwV 1 hts gL_law_X11_count rfl rfl rfl (by decide +kernel) ⟨Nat.le_of_ble_eq_true rfl, Nat.le_of_ble_eq_true rfl⟩) (ct_preV (T := ct_T cI cJ cB cZ cO) (ci := 11) (q0 := 0) hE hP hD [0, 4, 6, 10, 2, 51, 53] (by decide) rfl rfl rfl) rfl rfl hl.1 rfl (lv_room (Nat.le_of_ble_eq_true rfl)) dL_law_1925 ⟨Nat.le_of_ble_eq_true rfl, Nat.le_of_ble_eq_true rfl⟩) hP hD hS hA [0, 4, 6, 10, 2, 51, 53] [55, 56, 57, 58, 59, 60, 61, 62, 63, 64, 65, 66, 67, 68, 69] rfl rfl (by decide) (by decide) (fun rz u H locs hw hP hD hS => ?_)
  have hP : va_P D vwCl [mo h1 v 0 0, ((v 1), .inl (cI, 4, .inl (szf))), ((v 2), .inl (cI, 4, .inl (fun _ => 0))), ((v 3), .inl (cJ, 240, .inr (.inl (fun _ => 0)))), ((v 5), .inl (cB, 1200, .inl (fun _ => 0))), ((v 25), .inl (cZ, 3, .inl (fun _ => 0))), ((v 16), .inl (cI, 5, .inl (fun _ => 0))), ((v 17), .inl (cI, 55, .inl (fun _ => 0))), ((v 18), .inl (cI, 120, .inl (fun _ => 0))), ((v 19), .inl (cI, 30, .inl (fun _ => 0))), ((v 20), .inl (cI, 160, .inl (fun _ => 0))), ((v 21), .inl (cZ, 1000, .inl (fun _ => 0))), ((v 22), .inl (cI, 120, .inl (fun _ => 0))), ((v 23), .inl (cI, 50, .inl (fun _ => 0))), ((v 24), .inl (cI, 800, .inl (fun _ => 0)))] H := hP
  have hD : va_D A [mo h1 v 0 0, ((v 1), .inl (cI, 4, .inl (szf))), ((v 2), .inl (cI, 4, .inl (fun _ => 0))), ((v 3), .inl (cJ, 240, .inr (.inl (fun _ => 0)))), ((v 5), .inl (cB, 1200, .inl (fun _ => 0))), ((v 25), .inl (cZ, 3, .inl (fun _ => 0))), ((v 16), .inl (cI, 5, .inl (fun _ => 0))), ((v 17), .inl (cI, 55, .inl (fun _ => 0))), ((v 18), .inl (cI, 120, .inl (fun _ => 0))), ((v 19), .inl (cI, 30, .inl (fun _ => 0))), ((v 20), .inl (cI, 160, .inl (fun _ => 0))), ((v 21), .inl (cZ, 1000, .inl (fun _ => 0))), ((v 22), .inl (cI, 120, .inl (fun _ => 0))), ((v 23), .inl (cI, 50, .inl (fun _ => 0))), ((v 24), .inl (cI, 800, .inl (fun _ => 0)))] := hD
  rcases hw with ⟨rfl, hq876⟩ | ⟨rfl, hq876⟩
  · refine lv_aload_n hx hb dL_law_1928 rfl (lv_at hl 1 rfl) ?_
    refine lv_aload_n hx hb dL_law_1929 rfl (lv_at hl 3 rfl) ?_
    refine lv_iload_n hx hb dL_law_1930 rfl (lv_at hl 0 rfl) ?_
    refine lv_iconst (v := 1) hx hb dL_law_1931 (by decide) ?_
    refine lv_iadd hx hb dL_law_1932 ?_
    refine lv_topi (fun z877 ez877 => ?_)
    obtain rfl : z877 = 1 := ez877.trans (by decide)
    refine va_sld hx hb hX hbl hbA hS (tq_in (a := 1) (by decide) (by omega)) dL_law_1933 ?_
    refine ct_calli (D := D) (wc := (w_c_X12_count cI cJ cB cZ cO h1 v)) (wr := [((v 2), .inl (cI, 4, .inl (fun _ => 0))), ((v 3), .inl (cJ, 240, .inr (.inl (fun _ => 0)))), ((v 5), .inl (cB, 1200, .inl (fun _ => 0))), ((v 25), .inl (cZ, 3, .inl (fun _ => 0))), ((v 18), .inl (cI, 120, .inl (fun _ => 0))), ((v 19), .inl (cI, 30, .inl (fun _ => 0))), ((v 20), .inl (cI, 160, .inl (fun _ => 0))), ((v 22), .inl (cI, 120, .inl (fun _ => 0))), ((v 23), .inl (cI, 50, .inl (fun _ => 0))), ((v 24), .inl (cI, 800, .inl (fun _ => 0)))]) (va_runV (As := [.int (xs (1 : Int32).toNatClampNeg)]) (rest := [.int 0]) ⟨hx, hb, hml, hown, hts⟩ (c_X12_count l D cI cJ cB cZ cO h1 v ((xs (1 : Int32).toNatClampNeg)) H.size) (cwV 1 hts gL_law_X12_count rfl rfl rfl (by decide +kernel) ⟨Nat.le_of_ble_eq_true rfl, Nat.le_of_ble_eq_true rfl⟩) (ct_preV (T := ct_T cI cJ cB cZ cO) (ci := 12) (q0 := 0) hE hP hD [0, 7, 11, 6, 1] (by decide) rfl rfl rfl) rfl rfl hl.1 rfl (lv_room (Nat.le_of_ble_eq_true rfl)) dL_law_1934 ⟨Nat.le_of_ble_eq_true rfl, Nat.le_of_ble_eq_true rfl⟩) hP hD hS hA [0, 7, 11, 6, 1] [2, 3, 4, 5, 8, 9, 10, 12, 13, 14] rfl rfl (by decide) (by decide) (fun rz u H locs hw hP hD hS => ?_)
    have hP : va_P D vwCl [((v 2), .inl (cI, 4, .inl (fun _ => 0))), ((v 3), .inl (cJ, 240, .inr (.inl (fun _ => 0)))), ((v 5), .inl (cB, 1200, .inl (fun _ => 0))), ((v 25), .inl (cZ, 3, .inl (fun _ => 0))), ((v 18), .inl (cI, 120, .inl (fun _ => 0))), ((v 19), .inl (cI, 30, .inl (fun _ => 0))), ((v 20), .inl (cI, 160, .inl (fun _ => 0))), ((v 22), .inl (cI, 120, .inl (fun _ => 0))), ((v 23), .inl (cI, 50, .inl (fun _ => 0))), ((v 24), .inl (cI, 800, .inl (fun _ => 0)))] H := hP
    have hD : va_D A [((v 2), .inl (cI, 4, .inl (fun _ => 0))), ((v 3), .inl (cJ, 240, .inr (.inl (fun _ => 0)))), ((v 5), .inl (cB, 1200, .inl (fun _ => 0))), ((v 25), .inl (cZ, 3, .inl (fun _ => 0))), ((v 18), .inl (cI, 120, .inl (fun _ => 0))), ((v 19), .inl (cI, 30, .inl (fun _ => 0))), ((v 20), .inl (cI, 160, .inl (fun _ => 0))), ((v 22), .inl (cI, 120, .inl (fun _ => 0))), ((v 23), .inl (cI, 50, .inl (fun _ => 0))), ((v 24), .inl (cI, 800, .inl (fun _ => 0)))] := hD
    rcases hw with ⟨rfl, hq878⟩ | ⟨rfl, hq878⟩
    · refine lv_icmp_eq (tgt := 2167) hx hb dL_law_1937 (by decide) (fun _ => ?_) (fun hc => absurd hc (by decide))
      refine W.widen (k := 107) (n := 36842) (Nat.le_of_ble_eq_true rfl) (Nat.le_of_ble_eq_true rfl) ?_
      exact law_tail hx hb hml hr hlocks hX hbl hbA hA hAf hS (lv_sub hl [0, 1, 2, 3] rfl)
    · exfalso
      omega
  · refine lv_aload_n hx hb dL_law_1928 rfl (lv_at hl 1 rfl) ?_
    refine lv_aload_n hx hb dL_law_1929 rfl (lv_at hl 3 rfl) ?_
    refine lv_iload_n hx hb dL_law_1930 rfl (lv_at hl 0 rfl) ?_
    refine lv_iconst (v := 1) hx hb dL_law_1931 (by decide) ?_
    refine lv_iadd hx hb dL_law_1932 ?_
    refine lv_topi (fun z879 ez879 => ?_)
    obtain rfl : z879 = 1 := ez879.trans (by decide)
    refine va_sld hx hb hX hbl hbA hS (tq_in (a := 1) (by decide) (by omega)) dL_law_1933 ?_
    refine ct_calli (D := D) (wc := (w_c_X12_count cI cJ cB cZ cO h1 v)) (wr := [((v 2), .inl (cI, 4, .inl (fun _ => 0))), ((v 3), .inl (cJ, 240, .inr (.inl (fun _ => 0)))), ((v 5), .inl (cB, 1200, .inl (fun _ => 0))), ((v 25), .inl (cZ, 3, .inl (fun _ => 0))), ((v 18), .inl (cI, 120, .inl (fun _ => 0))), ((v 19), .inl (cI, 30, .inl (fun _ => 0))), ((v 20), .inl (cI, 160, .inl (fun _ => 0))), ((v 22), .inl (cI, 120, .inl (fun _ => 0))), ((v 23), .inl (cI, 50, .inl (fun _ => 0))), ((v 24), .inl (cI, 800, .inl (fun _ => 0)))]) (va_runV (As := [.int (xs (1 : Int32).toNatClampNeg)]) (rest := [.int (-1)]) ⟨hx, hb, hml, hown, hts⟩ (c_X12_count l D cI cJ cB cZ cO h1 v ((xs (1 : Int32).toNatClampNeg)) H.size) (cwV 1 hts gL_law_X12_count rfl rfl rfl (by decide +kernel) ⟨Nat.le_of_ble_eq_true rfl, Nat.le_of_ble_eq_true rfl⟩) (ct_preV (T := ct_T cI cJ cB cZ cO) (ci := 12) (q0 := 0) hE hP hD [0, 7, 11, 6, 1] (by decide) rfl rfl rfl) rfl rfl hl.1 rfl (lv_room (Nat.le_of_ble_eq_true rfl)) dL_law_1934 ⟨Nat.le_of_ble_eq_true rfl, Nat.le_of_ble_eq_true rfl⟩) hP hD hS hA [0, 7, 11, 6, 1] [2, 3, 4, 5, 8, 9, 10, 12, 13, 14] rfl rfl (by decide) (by decide) (fun rz u H locs hw hP hD hS => ?_)
    have hP : va_P D vwCl [((v 2), .inl (cI, 4, .inl (fun _ => 0))), ((v 3), .inl (cJ, 240, .inr (.inl (fun _ => 0)))), ((v 5), .inl (cB, 1200, .inl (fun _ => 0))), ((v 25), .inl (cZ, 3, .inl (fun _ => 0))), ((v 18), .inl (cI, 120, .inl (fun _ => 0))), ((v 19), .inl (cI, 30, .inl (fun _ => 0))), ((v 20), .inl (cI, 160, .inl (fun _ => 0))), ((v 22), .inl (cI, 120, .inl (fun _ => 0))), ((v 23), .inl (cI, 50, .inl (fun _ => 0))), ((v 24), .inl (cI, 800, .inl (fun _ => 0)))] H := hP
    have hD : va_D A [((v 2), .inl (cI, 4, .inl (fun _ => 0))), ((v 3), .inl (cJ, 240, .inr (.inl (fun _ => 0)))), ((v 5), .inl (cB, 1200, .inl (fun _ => 0))), ((v 25), .inl (cZ, 3, .inl (fun _ => 0))), ((v 18), .inl (cI, 120, .inl (fun _ => 0))), ((v 19), .inl (cI, 30, .inl (fun _ => 0))), ((v 20), .inl (cI, 160, .inl (fun _ => 0))), ((v 22), .inl (cI, 120, .inl (fun _ => 0))), ((v 23), .inl (cI, 50, .inl (fun _ => 0))), ((v 24), .inl (cI, 800, .inl (fun _ => 0)))] := hD
    rcases hw with ⟨rfl, hq880⟩ | ⟨rfl, hq880⟩
    · exfalso
      omega
    · refine lv_icmp_eq (tgt := 2167) hx hb dL_law_1937 (by decide) (fun _ => ?_) (fun hc => absurd hc (by decide))
      refine W.widen (k := 107) (n := 36842) (Nat.le_of_ble_eq_true rfl) (Nat.le_of_ble_eq_true rfl) ?_
      exact law_tail hx hb hml hr hlocks hX hbl hbA hA hAf hS (lv_sub hl [0, 1, 2, 3] rfl)
set_option maxHeartbeats 4000000 in
set_option maxRecDepth 100000 in
theorem law_c57 {p : Program} {l : Launch} {e : Env} {s : State} {m : MethodId} {below : List Frame} {meth : Method} {c : Code} {A : Nat → Prop} {b : Nat} {xs : Nat → Int32} (hx : p.tables.exec = Jvm.exec) (hb : c.code = code) (hml : c.maxLocals = 4) (hr : meth.sig.returnType = ret) (hlocks : meth.locks = false) (hX : va_X b 6 xs s s.heap) (hbl : b < s.heap.size) (hbA : ¬ A b) (hA : ∀ q : Nat, s.heap.size ≤ q → A q) (hAf : ∀ q : Nat, A q → s.heap.size ≤ q) (D : va_G) (cI cJ cB cZ cO : ClassId) (h0 h1 : Nat) (u v : Nat → Nat) (hown : s.vm.findClass RL = some m.cls) (hts : ∀ w ∈ wsL_law, w.before #[Value.ref b] s = true) (hE : ct_E D (ct_T cI cJ cB cZ cO) s) {H : Heap} {locs : List Loc} (hP : va_P D vwCl (LW cI cJ cB cZ cO h0 h1 u v) H) (hD : va_D A (LW cI cJ cB cZ cO h0 h1 u v)) (hS : va_S A s.heap H locs) {ls : Array Slot} (hl : lv_has ls 4 [(3, .int 0), (2, .ref h1), (1, .ref h0), (0, .ref b)]) : W p l e room_1 s m #[Value.ref b] below meth c H locs 107 36842 (lw_Z below #[Value.ref b] s) (F0 m 1942 ls []) := by
  have hK := hE.1
  refine lv_aload_n hx hb dL_law_1942 rfl (lv_at hl 2 rfl) ?_
  refine lv_aload_n hx hb dL_law_1943 rfl (lv_at hl 3 rfl) ?_
  refine lv_iload_n hx hb dL_law_1944 rfl (lv_at hl 0 rfl) ?_
  refine lv_iconst (v := 1) hx hb dL_law_1945 (by decide) ?_
  refine lv_iadd hx hb dL_law_1946 ?_
  refine lv_topi (fun z881 ez881 => ?_)
  obtain rfl : z881 = 1 := ez881.trans (by decide)
  refine va_sld hx hb hX hbl hbA hS (tq_in (a := 1) (by decide) (by omega)) dL_law_1947 ?_
  refine ct_calli (D := D) (wc := (w_c_X11_image cI cJ cB cZ cO h0 u)) (wr := [mo h1 v 0 0, ((v 1), .inl (cI, 4, .inl (szf))), ((v 2), .inl (cI, 4, .inl (fun _ => 0))), ((v 3), .inl (cJ, 240, .inr (.inl (fun _ => 0)))), ((v 5), .inl (cB, 1200, .inl (fun _ => 0))), ((v 25), .inl (cZ, 3, .inl (fun _ => 0))), ((v 16), .inl (cI, 5, .inl (fun _ => 0))), ((v 17), .inl (cI, 55, .inl (fun _ => 0))), ((v 18), .inl (cI, 120, .inl (fun _ => 0))), ((v 19), .inl (cI, 30, .inl (fun _ => 0))), ((v 20), .inl (cI, 160, .inl (fun _ => 0))), ((v 21), .inl (cZ, 1000, .inl (fun _ => 0))), ((v 22), .inl (cI, 120, .inl (fun _ => 0))), ((v 23), .inl (cI, 50, .inl (fun _ => 0))), ((v 24), .inl (cI, 800, .inl (fun _ => 0)))]) (va_runV (As := [.int (xs (1 : Int32).toNatClampNeg)]) (rest := []) ⟨hx, hb, hml, hown, hts⟩ (c_X11_image l D cI cJ cB cZ cO h0 u ((xs (1 : Int32).toNatClampNeg)) H.size) (cwV 1 hts gL_law_X11_image rfl rfl rfl (by decide +kernel) ⟨Nat.le_of_ble_eq_true rfl, Nat.le_of_ble_eq_true rfl⟩) (ct_preV (T := ct_T cI cJ cB cZ cO) (ci := 11) (q0 := 0) hE hP hD [0, 4, 19, 50, 5, 6, 7, 8, 9, 10, 11, 12, 13, 20, 21, 22, 23, 24, 25, 26, 27, 28, 29, 30, 31, 32, 33, 34, 35, 36, 37, 38, 39, 40, 41, 42, 43, 44, 45, 46, 47, 48, 49] (by decide) rfl rfl rfl) rfl rfl hl.1 rfl (lv_room (Nat.le_of_ble_eq_true rfl)) dL_law_1948 ⟨Nat.le_of_ble_eq_true rfl, Nat.le_of_ble_eq_true rfl⟩) hP hD hS hA [0, 4, 19, 50, 5, 6, 7, 8, 9, 10, 11, 12, 13, 20, 21, 22, 23, 24, 25, 26, 27, 28, 29, 30, 31, 32, 33, 34, 35, 36, 37, 38, 39, 40, 41, 42, 43, 44, 45, 46, 47, 48, 49] [55, 56, 57, 58, 59, 60, 61, 62, 63, 64, 65, 66, 67, 68, 69] rfl rfl (by decide) (by decide) (fun rz u H locs hw hP hD hS => ?_)
  have hP : va_P D vwCl [mo h1 v 0 0, ((v 1), .inl (cI, 4, .inl (szf))), ((v 2), .inl (cI, 4, .inl (fun _ => 0))), ((v 3), .inl (cJ, 240, .inr (.inl (fun _ => 0)))), ((v 5), .inl (cB, 1200, .inl (fun _ => 0))), ((v 25), .inl (cZ, 3, .inl (fun _ => 0))), ((v 16), .inl (cI, 5, .inl (fun _ => 0))), ((v 17), .inl (cI, 55, .inl (fun _ => 0))), ((v 18), .inl (cI, 120, .inl (fun _ => 0))), ((v 19), .inl (cI, 30, .inl (fun _ => 0))), ((v 20), .inl (cI, 160, .inl (fun _ => 0))), ((v 21), .inl (cZ, 1000, .inl (fun _ => 0))), ((v 22), .inl (cI, 120, .inl (fun _ => 0))), ((v 23), .inl (cI, 50, .inl (fun _ => 0))), ((v 24), .inl (cI, 800, .inl (fun _ => 0)))] H := hP
  have hD : va_D A [mo h1 v 0 0, ((v 1), .inl (cI, 4, .inl (szf))), ((v 2), .inl (cI, 4, .inl (fun _ => 0))), ((v 3), .inl (cJ, 240, .inr (.inl (fun _ => 0)))), ((v 5), .inl (cB, 1200, .inl (fun _ => 0))), ((v 25), .inl (cZ, 3, .inl (fun _ => 0))), ((v 16), .inl (cI, 5, .inl (fun _ => 0))), ((v 17), .inl (cI, 55, .inl (fun _ => 0))), ((v 18), .inl (cI, 120, .inl (fun _ => 0))), ((v 19), .inl (cI, 30, .inl (fun _ => 0))), ((v 20), .inl (cI, 160, .inl (fun _ => 0))), ((v 21), .inl (cZ, 1000, .inl (fun _ => 0))), ((v 22), .inl (cI, 120, .inl (fun _ => 0))), ((v 23), .inl (cI, 50, .inl (fun _ => 0))), ((v 24), .inl (cI, 800, .inl (fun _ => 0)))] := hD
  rcases hw with ⟨rfl, hq882⟩ | ⟨rfl, hq882⟩
  · refine lv_aload_n hx hb dL_law_1951 rfl (lv_at hl 1 rfl) ?_
    refine lv_aload_n hx hb dL_law_1952 rfl (lv_at hl 3 rfl) ?_
    refine lv_iload_n hx hb dL_law_1953 rfl (lv_at hl 0 rfl) ?_
    refine lv_iconst (v := 1) hx hb dL_law_1954 (by decide) ?_
    refine lv_iadd hx hb dL_law_1955 ?_
    refine lv_topi (fun z883 ez883 => ?_)
    obtain rfl : z883 = 1 := ez883.trans (by decide)
    refine va_sld hx hb hX hbl hbA hS (tq_in (a := 1) (by decide) (by omega)) dL_law_1956 ?_
    refine ct_calli (D := D) (wc := (w_c_X12_image cI cJ cB cZ cO h1 v)) (wr := [((v 1), .inl (cI, 4, .inl (szf))), ((v 2), .inl (cI, 4, .inl (fun _ => 0))), ((v 3), .inl (cJ, 240, .inr (.inl (fun _ => 0)))), ((v 5), .inl (cB, 1200, .inl (fun _ => 0)))]) (va_runV (As := [.int (xs (1 : Int32).toNatClampNeg)]) (rest := [.int 0]) ⟨hx, hb, hml, hown, hts⟩ (c_X12_image l D cI cJ cB cZ cO h1 v ((xs (1 : Int32).toNatClampNeg)) H.size) (cwV 1 hts gL_law_X12_image rfl rfl rfl (by decide +kernel) ⟨Nat.le_of_ble_eq_true rfl, Nat.le_of_ble_eq_true rfl⟩) (ct_preV (T := ct_T cI cJ cB cZ cO) (ci := 12) (q0 := 0) hE hP hD [0, 5, 6, 7, 8, 9, 10, 11, 12, 13, 14] (by decide) rfl rfl rfl) rfl rfl hl.1 rfl (lv_room (Nat.le_of_ble_eq_true rfl)) dL_law_1957 ⟨Nat.le_of_ble_eq_true rfl, Nat.le_of_ble_eq_true rfl⟩) hP hD hS hA [0, 5, 6, 7, 8, 9, 10, 11, 12, 13, 14] [1, 2, 3, 4] rfl rfl (by decide) (by decide) (fun rz u H locs hw hP hD hS => ?_)
    have hP : va_P D vwCl [((v 1), .inl (cI, 4, .inl (szf))), ((v 2), .inl (cI, 4, .inl (fun _ => 0))), ((v 3), .inl (cJ, 240, .inr (.inl (fun _ => 0)))), ((v 5), .inl (cB, 1200, .inl (fun _ => 0)))] H := hP
    have hD : va_D A [((v 1), .inl (cI, 4, .inl (szf))), ((v 2), .inl (cI, 4, .inl (fun _ => 0))), ((v 3), .inl (cJ, 240, .inr (.inl (fun _ => 0)))), ((v 5), .inl (cB, 1200, .inl (fun _ => 0)))] := hD
    rcases hw with ⟨rfl, hq884⟩ | ⟨rfl, hq884⟩
    · refine lv_icmp_eq (tgt := 2167) hx hb dL_law_1960 (by decide) (fun _ => ?_) (fun hc => absurd hc (by decide))
      refine W.widen (k := 107) (n := 36842) (Nat.le_of_ble_eq_true rfl) (Nat.le_of_ble_eq_true rfl) ?_
      exact law_tail hx hb hml hr hlocks hX hbl hbA hA hAf hS (lv_sub hl [0, 1, 2, 3] rfl)
    · exfalso
      omega
  · refine lv_aload_n hx hb dL_law_1951 rfl (lv_at hl 1 rfl) ?_
    refine lv_aload_n hx hb dL_law_1952 rfl (lv_at hl 3 rfl) ?_
    refine lv_iload_n hx hb dL_law_1953 rfl (lv_at hl 0 rfl) ?_
    refine lv_iconst (v := 1) hx hb dL_law_1954 (by decide) ?_
    refine lv_iadd hx hb dL_law_1955 ?_
    refine lv_topi (fun z885 ez885 => ?_)
    obtain rfl : z885 = 1 := ez885.trans (by decide)
    refine va_sld hx hb hX hbl hbA hS (tq_in (a := 1) (by decide) (by omega)) dL_law_1956 ?_
    refine ct_calli (D := D) (wc := (w_c_X12_image cI cJ cB cZ cO h1 v)) (wr := [((v 1), .inl (cI, 4, .inl (szf))), ((v 2), .inl (cI, 4, .inl (fun _ => 0))), ((v 3), .inl (cJ, 240, .inr (.inl (fun _ => 0)))), ((v 5), .inl (cB, 1200, .inl (fun _ => 0)))]) (va_runV (As := [.int (xs (1 : Int32).toNatClampNeg)]) (rest := [.int (-2)]) ⟨hx, hb, hml, hown, hts⟩ (c_X12_image l D cI cJ cB cZ cO h1 v ((xs (1 : Int32).toNatClampNeg)) H.size) (cwV 1 hts gL_law_X12_image rfl rfl rfl (by decide +kernel) ⟨Nat.le_of_ble_eq_true rfl, Nat.le_of_ble_eq_true rfl⟩) (ct_preV (T := ct_T cI cJ cB cZ cO) (ci := 12) (q0 := 0) hE hP hD [0, 5, 6, 7, 8, 9, 10, 11, 12, 13, 14] (by decide) rfl rfl rfl) rfl rfl hl.1 rfl (lv_room (Nat.le_of_ble_eq_true rfl)) dL_law_1957 ⟨Nat.le_of_ble_eq_true rfl, Nat.le_of_ble_eq_true rfl⟩) hP hD hS hA [0, 5, 6, 7, 8, 9, 10, 11, 12, 13, 14] [1, 2, 3, 4] rfl rfl (by decide) (by decide) (fun rz u H locs hw hP hD hS => ?_)
    have hP : va_P D vwCl [((v 1), .inl (cI, 4, .inl (szf))), ((v 2), .inl (cI, 4, .inl (fun _ => 0))), ((v 3), .inl (cJ, 240, .inr (.inl (fun _ => 0)))), ((v 5), .inl (cB, 1200, .inl (fun _ => 0)))] H := hP
    have hD : va_D A [((v 1), .inl (cI, 4, .inl (szf))), ((v 2), .inl (cI, 4, .inl (fun _ => 0))), ((v 3), .inl (cJ, 240, .inr (.inl (fun _ => 0)))), ((v 5), .inl (cB, 1200, .inl (fun _ => 0)))] := hD
    rcases hw with ⟨rfl, hq886⟩ | ⟨rfl, hq886⟩
    · exfalso
      omega
    · refine lv_icmp_eq (tgt := 2167) hx hb dL_law_1960 (by decide) (fun _ => ?_) (fun hc => absurd hc (by decide))
      refine W.widen (k := 107) (n := 36842) (Nat.le_of_ble_eq_true rfl) (Nat.le_of_ble_eq_true rfl) ?_
      exact law_tail hx hb hml hr hlocks hX hbl hbA hA hAf hS (lv_sub hl [0, 1, 2, 3] rfl)
set_option maxHeartbeats 4000000 in
set_option maxRecDepth 100000 in
theorem law_c58 {p : Program} {l : Launch} {e : Env} {s : State} {m : MethodId} {below : List Frame} {meth : Method} {c : Code} {A : Nat → Prop} {b : Nat} {xs : Nat → Int32} (hx : p.tables.exec = Jvm.exec) (hb : c.code = code) (hml : c.maxLocals = 4) (hr : meth.sig.returnType = ret) (hlocks : meth.locks = false) (hX : va_X b 6 xs s s.heap) (hbl : b < s.heap.size) (hbA : ¬ A b) (hA : ∀ q : Nat, s.heap.size ≤ q → A q) (hAf : ∀ q : Nat, A q → s.heap.size ≤ q) (D : va_G) (cI cJ cB cZ cO : ClassId) (h0 h1 : Nat) (u v : Nat → Nat) (hown : s.vm.findClass RL = some m.cls) (hts : ∀ w ∈ wsL_law, w.before #[Value.ref b] s = true) (hE : ct_E D (ct_T cI cJ cB cZ cO) s) {H : Heap} {locs : List Loc} (hP : va_P D vwCl (LW cI cJ cB cZ cO h0 h1 u v) H) (hD : va_D A (LW cI cJ cB cZ cO h0 h1 u v)) (hS : va_S A s.heap H locs) {ls : Array Slot} (hl : lv_has ls 4 [(3, .int 0), (2, .ref h1), (1, .ref h0), (0, .ref b)]) : W p l e room_1 s m #[Value.ref b] below meth c H locs 107 36842 (lw_Z below #[Value.ref b] s) (F0 m 1965 ls []) := by
  have hK := hE.1
  refine lv_aload_n hx hb dL_law_1965 rfl (lv_at hl 2 rfl) ?_
  refine lv_aload_n hx hb dL_law_1966 rfl (lv_at hl 3 rfl) ?_
  refine lv_iload_n hx hb dL_law_1967 rfl (lv_at hl 0 rfl) ?_
  refine lv_iconst (v := 1) hx hb dL_law_1968 (by decide) ?_
  refine lv_iadd hx hb dL_law_1969 ?_
  refine lv_topi (fun z887 ez887 => ?_)
  obtain rfl : z887 = 1 := ez887.trans (by decide)
  refine va_sld hx hb hX hbl hbA hS (tq_in (a := 1) (by decide) (by omega)) dL_law_1970 ?_
  refine ct_calli (D := D) (wc := (w_c_X11_back cI cJ cB cZ cO h0 u)) (wr := [mo h1 v 0 0, ((v 1), .inl (cI, 4, .inl (szf))), ((v 2), .inl (cI, 4, .inl (fun _ => 0))), ((v 3), .inl (cJ, 240, .inr (.inl (fun _ => 0)))), ((v 5), .inl (cB, 1200, .inl (fun _ => 0))), ((v 25), .inl (cZ, 3, .inl (fun _ => 0))), ((v 16), .inl (cI, 5, .inl (fun _ => 0))), ((v 17), .inl (cI, 55, .inl (fun _ => 0))), ((v 18), .inl (cI, 120, .inl (fun _ => 0))), ((v 19), .inl (cI, 30, .inl (fun _ => 0))), ((v 20), .inl (cI, 160, .inl (fun _ => 0))), ((v 21), .inl (cZ, 1000, .inl (fun _ => 0))), ((v 22), .inl (cI, 120, .inl (fun _ => 0))), ((v 23), .inl (cI, 50, .inl (fun _ => 0))), ((v 24), .inl (cI, 800, .inl (fun _ => 0)))]) (va_runV (As := [.int (xs (1 : Int32).toNatClampNeg)]) (rest := []) ⟨hx, hb, hml, hown, hts⟩ (c_X11_back l D cI cJ cB cZ cO h0 u ((xs (1 : Int32).toNatClampNeg)) H.size) (cwV 1 hts gL_law_X11_back rfl rfl rfl (by decide +kernel) ⟨Nat.le_of_ble_eq_true rfl, Nat.le_of_ble_eq_true rfl⟩) (ct_preV (T := ct_T cI cJ cB cZ cO) (ci := 11) (q0 := 0) hE hP hD [0, 50] (by decide) rfl rfl rfl) rfl rfl hl.1 rfl (lv_room (Nat.le_of_ble_eq_true rfl)) dL_law_1971 ⟨Nat.le_of_ble_eq_true rfl, Nat.le_of_ble_eq_true rfl⟩) hP hD hS hA [0, 50] [55, 56, 57, 58, 59, 60, 61, 62, 63, 64, 65, 66, 67, 68, 69] rfl rfl (by decide) (by decide) (fun rz u H locs hw hP hD hS => ?_)
  have hP : va_P D vwCl [mo h1 v 0 0, ((v 1), .inl (cI, 4, .inl (szf))), ((v 2), .inl (cI, 4, .inl (fun _ => 0))), ((v 3), .inl (cJ, 240, .inr (.inl (fun _ => 0)))), ((v 5), .inl (cB, 1200, .inl (fun _ => 0))), ((v 25), .inl (cZ, 3, .inl (fun _ => 0))), ((v 16), .inl (cI, 5, .inl (fun _ => 0))), ((v 17), .inl (cI, 55, .inl (fun _ => 0))), ((v 18), .inl (cI, 120, .inl (fun _ => 0))), ((v 19), .inl (cI, 30, .inl (fun _ => 0))), ((v 20), .inl (cI, 160, .inl (fun _ => 0))), ((v 21), .inl (cZ, 1000, .inl (fun _ => 0))), ((v 22), .inl (cI, 120, .inl (fun _ => 0))), ((v 23), .inl (cI, 50, .inl (fun _ => 0))), ((v 24), .inl (cI, 800, .inl (fun _ => 0)))] H := hP
  have hD : va_D A [mo h1 v 0 0, ((v 1), .inl (cI, 4, .inl (szf))), ((v 2), .inl (cI, 4, .inl (fun _ => 0))), ((v 3), .inl (cJ, 240, .inr (.inl (fun _ => 0)))), ((v 5), .inl (cB, 1200, .inl (fun _ => 0))), ((v 25), .inl (cZ, 3, .inl (fun _ => 0))), ((v 16), .inl (cI, 5, .inl (fun _ => 0))), ((v 17), .inl (cI, 55, .inl (fun _ => 0))), ((v 18), .inl (cI, 120, .inl (fun _ => 0))), ((v 19), .inl (cI, 30, .inl (fun _ => 0))), ((v 20), .inl (cI, 160, .inl (fun _ => 0))), ((v 21), .inl (cZ, 1000, .inl (fun _ => 0))), ((v 22), .inl (cI, 120, .inl (fun _ => 0))), ((v 23), .inl (cI, 50, .inl (fun _ => 0))), ((v 24), .inl (cI, 800, .inl (fun _ => 0)))] := hD
  rcases hw with ⟨rfl, hq888⟩ | ⟨rfl, hq888⟩
  · refine lv_aload_n hx hb dL_law_1974 rfl (lv_at hl 1 rfl) ?_
    refine lv_aload_n hx hb dL_law_1975 rfl (lv_at hl 3 rfl) ?_
    refine lv_iload_n hx hb dL_law_1976 rfl (lv_at hl 0 rfl) ?_
    refine lv_iconst (v := 1) hx hb dL_law_1977 (by decide) ?_
    refine lv_iadd hx hb dL_law_1978 ?_
    refine lv_topi (fun z889 ez889 => ?_)
    obtain rfl : z889 = 1 := ez889.trans (by decide)
    refine va_sld hx hb hX hbl hbA hS (tq_in (a := 1) (by decide) (by omega)) dL_law_1979 ?_
    refine ct_calli (D := D) (wc := (w_c_X12_back cI cJ cB cZ cO h1 v)) (wr := [((v 1), .inl (cI, 4, .inl (szf))), ((v 2), .inl (cI, 4, .inl (fun _ => 0))), ((v 3), .inl (cJ, 240, .inr (.inl (fun _ => 0)))), ((v 5), .inl (cB, 1200, .inl (fun _ => 0))), ((v 16), .inl (cI, 5, .inl (fun _ => 0))), ((v 17), .inl (cI, 55, .inl (fun _ => 0))), ((v 18), .inl (cI, 120, .inl (fun _ => 0))), ((v 19), .inl (cI, 30, .inl (fun _ => 0))), ((v 20), .inl (cI, 160, .inl (fun _ => 0))), ((v 21), .inl (cZ, 1000, .inl (fun _ => 0))), ((v 22), .inl (cI, 120, .inl (fun _ => 0))), ((v 23), .inl (cI, 50, .inl (fun _ => 0))), ((v 24), .inl (cI, 800, .inl (fun _ => 0)))]) (va_runV (As := [.int (xs (1 : Int32).toNatClampNeg)]) (rest := [.int (-6)]) ⟨hx, hb, hml, hown, hts⟩ (c_X12_back l D cI cJ cB cZ cO h1 v ((xs (1 : Int32).toNatClampNeg)) H.size) (cwV 1 hts gL_law_X12_back rfl rfl rfl (by decide +kernel) ⟨Nat.le_of_ble_eq_true rfl, Nat.le_of_ble_eq_true rfl⟩) (ct_preV (T := ct_T cI cJ cB cZ cO) (ci := 12) (q0 := 0) hE hP hD [0, 5] (by decide) rfl rfl rfl) rfl rfl hl.1 rfl (lv_room (Nat.le_of_ble_eq_true rfl)) dL_law_1980 ⟨Nat.le_of_ble_eq_true rfl, Nat.le_of_ble_eq_true rfl⟩) hP hD hS hA [0, 5] [1, 2, 3, 4, 6, 7, 8, 9, 10, 11, 12, 13, 14] rfl rfl (by decide) (by decide) (fun rz u H locs hw hP hD hS => ?_)
    have hP : va_P D vwCl [((v 1), .inl (cI, 4, .inl (szf))), ((v 2), .inl (cI, 4, .inl (fun _ => 0))), ((v 3), .inl (cJ, 240, .inr (.inl (fun _ => 0)))), ((v 5), .inl (cB, 1200, .inl (fun _ => 0))), ((v 16), .inl (cI, 5, .inl (fun _ => 0))), ((v 17), .inl (cI, 55, .inl (fun _ => 0))), ((v 18), .inl (cI, 120, .inl (fun _ => 0))), ((v 19), .inl (cI, 30, .inl (fun _ => 0))), ((v 20), .inl (cI, 160, .inl (fun _ => 0))), ((v 21), .inl (cZ, 1000, .inl (fun _ => 0))), ((v 22), .inl (cI, 120, .inl (fun _ => 0))), ((v 23), .inl (cI, 50, .inl (fun _ => 0))), ((v 24), .inl (cI, 800, .inl (fun _ => 0)))] H := hP
    have hD : va_D A [((v 1), .inl (cI, 4, .inl (szf))), ((v 2), .inl (cI, 4, .inl (fun _ => 0))), ((v 3), .inl (cJ, 240, .inr (.inl (fun _ => 0)))), ((v 5), .inl (cB, 1200, .inl (fun _ => 0))), ((v 16), .inl (cI, 5, .inl (fun _ => 0))), ((v 17), .inl (cI, 55, .inl (fun _ => 0))), ((v 18), .inl (cI, 120, .inl (fun _ => 0))), ((v 19), .inl (cI, 30, .inl (fun _ => 0))), ((v 20), .inl (cI, 160, .inl (fun _ => 0))), ((v 21), .inl (cZ, 1000, .inl (fun _ => 0))), ((v 22), .inl (cI, 120, .inl (fun _ => 0))), ((v 23), .inl (cI, 50, .inl (fun _ => 0))), ((v 24), .inl (cI, 800, .inl (fun _ => 0)))] := hD
    rcases hw with ⟨rfl, hq890⟩ | ⟨rfl, hq890⟩
    · refine lv_icmp_eq (tgt := 2167) hx hb dL_law_1983 (by decide) (fun _ => ?_) (fun hc => absurd hc (by decide))
      refine W.widen (k := 107) (n := 36842) (Nat.le_of_ble_eq_true rfl) (Nat.le_of_ble_eq_true rfl) ?_
      exact law_tail hx hb hml hr hlocks hX hbl hbA hA hAf hS (lv_sub hl [0, 1, 2, 3] rfl)
    · exfalso
      omega
  · refine lv_aload_n hx hb dL_law_1974 rfl (lv_at hl 1 rfl) ?_
    refine lv_aload_n hx hb dL_law_1975 rfl (lv_at hl 3 rfl) ?_
    refine lv_iload_n hx hb dL_law_1976 rfl (lv_at hl 0 rfl) ?_
    refine lv_iconst (v := 1) hx hb dL_law_1977 (by decide) ?_
    refine lv_iadd hx hb dL_law_1978 ?_
    refine lv_topi (fun z891 ez891 => ?_)
    obtain rfl : z891 = 1 := ez891.trans (by decide)
    refine va_sld hx hb hX hbl hbA hS (tq_in (a := 1) (by decide) (by omega)) dL_law_1979 ?_
    refine ct_calli (D := D) (wc := (w_c_X12_back cI cJ cB cZ cO h1 v)) (wr := [((v 1), .inl (cI, 4, .inl (szf))), ((v 2), .inl (cI, 4, .inl (fun _ => 0))), ((v 3), .inl (cJ, 240, .inr (.inl (fun _ => 0)))), ((v 5), .inl (cB, 1200, .inl (fun _ => 0))), ((v 16), .inl (cI, 5, .inl (fun _ => 0))), ((v 17), .inl (cI, 55, .inl (fun _ => 0))), ((v 18), .inl (cI, 120, .inl (fun _ => 0))), ((v 19), .inl (cI, 30, .inl (fun _ => 0))), ((v 20), .inl (cI, 160, .inl (fun _ => 0))), ((v 21), .inl (cZ, 1000, .inl (fun _ => 0))), ((v 22), .inl (cI, 120, .inl (fun _ => 0))), ((v 23), .inl (cI, 50, .inl (fun _ => 0))), ((v 24), .inl (cI, 800, .inl (fun _ => 0)))]) (va_runV (As := [.int (xs (1 : Int32).toNatClampNeg)]) (rest := [.int (-2)]) ⟨hx, hb, hml, hown, hts⟩ (c_X12_back l D cI cJ cB cZ cO h1 v ((xs (1 : Int32).toNatClampNeg)) H.size) (cwV 1 hts gL_law_X12_back rfl rfl rfl (by decide +kernel) ⟨Nat.le_of_ble_eq_true rfl, Nat.le_of_ble_eq_true rfl⟩) (ct_preV (T := ct_T cI cJ cB cZ cO) (ci := 12) (q0 := 0) hE hP hD [0, 5] (by decide) rfl rfl rfl) rfl rfl hl.1 rfl (lv_room (Nat.le_of_ble_eq_true rfl)) dL_law_1980 ⟨Nat.le_of_ble_eq_true rfl, Nat.le_of_ble_eq_true rfl⟩) hP hD hS hA [0, 5] [1, 2, 3, 4, 6, 7, 8, 9, 10, 11, 12, 13, 14] rfl rfl (by decide) (by decide) (fun rz u H locs hw hP hD hS => ?_)
    have hP : va_P D vwCl [((v 1), .inl (cI, 4, .inl (szf))), ((v 2), .inl (cI, 4, .inl (fun _ => 0))), ((v 3), .inl (cJ, 240, .inr (.inl (fun _ => 0)))), ((v 5), .inl (cB, 1200, .inl (fun _ => 0))), ((v 16), .inl (cI, 5, .inl (fun _ => 0))), ((v 17), .inl (cI, 55, .inl (fun _ => 0))), ((v 18), .inl (cI, 120, .inl (fun _ => 0))), ((v 19), .inl (cI, 30, .inl (fun _ => 0))), ((v 20), .inl (cI, 160, .inl (fun _ => 0))), ((v 21), .inl (cZ, 1000, .inl (fun _ => 0))), ((v 22), .inl (cI, 120, .inl (fun _ => 0))), ((v 23), .inl (cI, 50, .inl (fun _ => 0))), ((v 24), .inl (cI, 800, .inl (fun _ => 0)))] H := hP
    have hD : va_D A [((v 1), .inl (cI, 4, .inl (szf))), ((v 2), .inl (cI, 4, .inl (fun _ => 0))), ((v 3), .inl (cJ, 240, .inr (.inl (fun _ => 0)))), ((v 5), .inl (cB, 1200, .inl (fun _ => 0))), ((v 16), .inl (cI, 5, .inl (fun _ => 0))), ((v 17), .inl (cI, 55, .inl (fun _ => 0))), ((v 18), .inl (cI, 120, .inl (fun _ => 0))), ((v 19), .inl (cI, 30, .inl (fun _ => 0))), ((v 20), .inl (cI, 160, .inl (fun _ => 0))), ((v 21), .inl (cZ, 1000, .inl (fun _ => 0))), ((v 22), .inl (cI, 120, .inl (fun _ => 0))), ((v 23), .inl (cI, 50, .inl (fun _ => 0))), ((v 24), .inl (cI, 800, .inl (fun _ => 0)))] := hD
    rcases hw with ⟨rfl, hq892⟩ | ⟨rfl, hq892⟩
    · exfalso
      omega
    · refine lv_icmp_eq (tgt := 2167) hx hb dL_law_1983 (by decide) (fun _ => ?_) (fun hc => absurd hc (by decide))
      refine W.widen (k := 107) (n := 36842) (Nat.le_of_ble_eq_true rfl) (Nat.le_of_ble_eq_true rfl) ?_
      exact law_tail hx hb hml hr hlocks hX hbl hbA hA hAf hS (lv_sub hl [0, 1, 2, 3] rfl)
set_option maxHeartbeats 4000000 in
set_option maxRecDepth 100000 in
theorem law_c59 {p : Program} {l : Launch} {e : Env} {s : State} {m : MethodId} {below : List Frame} {meth : Method} {c : Code} {A : Nat → Prop} {b : Nat} {xs : Nat → Int32} (hx : p.tables.exec = Jvm.exec) (hb : c.code = code) (hml : c.maxLocals = 4) (hr : meth.sig.returnType = ret) (hlocks : meth.locks = false) (hX : va_X b 6 xs s s.heap) (hbl : b < s.heap.size) (hbA : ¬ A b) (hA : ∀ q : Nat, s.heap.size ≤ q → A q) (hAf : ∀ q : Nat, A q → s.heap.size ≤ q) (D : va_G) (cI cJ cB cZ cO : ClassId) (h0 h1 : Nat) (u v : Nat → Nat) (hown : s.vm.findClass RL = some m.cls) (hts : ∀ w ∈ wsL_law, w.before #[Value.ref b] s = true) (hE : ct_E D (ct_T cI cJ cB cZ cO) s) {H : Heap} {locs : List Loc} (hP : va_P D vwCl (LW cI cJ cB cZ cO h0 h1 u v) H) (hD : va_D A (LW cI cJ cB cZ cO h0 h1 u v)) (hS : va_S A s.heap H locs) {ls : Array Slot} (hl : lv_has ls 4 [(3, .int 0), (2, .ref h1), (1, .ref h0), (0, .ref b)]) : W p l e room_1 s m #[Value.ref b] below meth c H locs 107 36842 (lw_Z below #[Value.ref b] s) (F0 m 1988 ls []) := by
  have hK := hE.1
  refine lv_aload_n hx hb dL_law_1988 rfl (lv_at hl 2 rfl) ?_
  refine lv_aload_n hx hb dL_law_1989 rfl (lv_at hl 3 rfl) ?_
  refine lv_iload_n hx hb dL_law_1990 rfl (lv_at hl 0 rfl) ?_
  refine lv_iconst (v := 1) hx hb dL_law_1991 (by decide) ?_
  refine lv_iadd hx hb dL_law_1992 ?_
  refine lv_topi (fun z893 ez893 => ?_)
  obtain rfl : z893 = 1 := ez893.trans (by decide)
  refine va_sld hx hb hX hbl hbA hS (tq_in (a := 1) (by decide) (by omega)) dL_law_1993 ?_
  refine lv_aload_n hx hb dL_law_1994 rfl (lv_at hl 3 rfl) ?_
  refine lv_iload_n hx hb dL_law_1995 rfl (lv_at hl 0 rfl) ?_
  refine lv_iconst (v := 2) hx hb dL_law_1996 (by decide) ?_
  refine lv_iadd hx hb dL_law_1997 ?_
  refine lv_topi (fun z894 ez894 => ?_)
  obtain rfl : z894 = 2 := ez894.trans (by decide)
  refine va_sld hx hb hX hbl hbA hS (tq_in (a := 2) (by decide) (by omega)) dL_law_1998 ?_
  refine lv_aload_n hx hb dL_law_1999 rfl (lv_at hl 3 rfl) ?_
  refine lv_iload_n hx hb dL_law_2000 rfl (lv_at hl 0 rfl) ?_
  refine lv_iconst (v := 3) hx hb dL_law_2001 (by decide) ?_
  refine lv_iadd hx hb dL_law_2002 ?_
  refine lv_topi (fun z895 ez895 => ?_)
  obtain rfl : z895 = 3 := ez895.trans (by decide)
  refine va_sld hx hb hX hbl hbA hS (tq_in (a := 3) (by decide) (by omega)) dL_law_2003 ?_
  refine ct_calli (D := D) (wc := (w_c_X11_row cI cJ cB cZ cO h0 u)) (wr := [mo h1 v 0 0, ((v 1), .inl (cI, 4, .inl (szf))), ((v 2), .inl (cI, 4, .inl (fun _ => 0))), ((v 3), .inl (cJ, 240, .inr (.inl (fun _ => 0)))), ((v 5), .inl (cB, 1200, .inl (fun _ => 0))), ((v 25), .inl (cZ, 3, .inl (fun _ => 0))), ((v 16), .inl (cI, 5, .inl (fun _ => 0))), ((v 17), .inl (cI, 55, .inl (fun _ => 0))), ((v 18), .inl (cI, 120, .inl (fun _ => 0))), ((v 19), .inl (cI, 30, .inl (fun _ => 0))), ((v 20), .inl (cI, 160, .inl (fun _ => 0))), ((v 21), .inl (cZ, 1000, .inl (fun _ => 0))), ((v 22), .inl (cI, 120, .inl (fun _ => 0))), ((v 23), .inl (cI, 50, .inl (fun _ => 0))), ((v 24), .inl (cI, 800, .inl (fun _ => 0)))]) (va_runV (As := [.int (xs (1 : Int32).toNatClampNeg), .int (xs (2 : Int32).toNatClampNeg), .int (xs (3 : Int32).toNatClampNeg)]) (rest := []) ⟨hx, hb, hml, hown, hts⟩ (c_X11_row l D cI cJ cB cZ cO h0 u ((xs (1 : Int32).toNatClampNeg)) ((xs (2 : Int32).toNatClampNeg)) ((xs (3 : Int32).toNatClampNeg)) H.size) (cwV 3 hts gL_law_X11_row rfl rfl rfl (by decide +kernel) ⟨Nat.le_of_ble_eq_true rfl, Nat.le_of_ble_eq_true rfl⟩) (ct_preV (T := ct_T cI cJ cB cZ cO) (ci := 11) (q0 := 0) hE hP hD [0, 51, 52, 53, 54] (by decide) rfl rfl rfl) rfl rfl hl.1 rfl (lv_room (Nat.le_of_ble_eq_true rfl)) dL_law_2004 ⟨Nat.le_of_ble_eq_true rfl, Nat.le_of_ble_eq_true rfl⟩) hP hD hS hA [0, 51, 52, 53, 54] [55, 56, 57, 58, 59, 60, 61, 62, 63, 64, 65, 66, 67, 68, 69] rfl rfl (by decide) (by decide) (fun rz u H locs hw hP hD hS => ?_)
  have hP : va_P D vwCl [mo h1 v 0 0, ((v 1), .inl (cI, 4, .inl (szf))), ((v 2), .inl (cI, 4, .inl (fun _ => 0))), ((v 3), .inl (cJ, 240, .inr (.inl (fun _ => 0)))), ((v 5), .inl (cB, 1200, .inl (fun _ => 0))), ((v 25), .inl (cZ, 3, .inl (fun _ => 0))), ((v 16), .inl (cI, 5, .inl (fun _ => 0))), ((v 17), .inl (cI, 55, .inl (fun _ => 0))), ((v 18), .inl (cI, 120, .inl (fun _ => 0))), ((v 19), .inl (cI, 30, .inl (fun _ => 0))), ((v 20), .inl (cI, 160, .inl (fun _ => 0))), ((v 21), .inl (cZ, 1000, .inl (fun _ => 0))), ((v 22), .inl (cI, 120, .inl (fun _ => 0))), ((v 23), .inl (cI, 50, .inl (fun _ => 0))), ((v 24), .inl (cI, 800, .inl (fun _ => 0)))] H := hP
  have hD : va_D A [mo h1 v 0 0, ((v 1), .inl (cI, 4, .inl (szf))), ((v 2), .inl (cI, 4, .inl (fun _ => 0))), ((v 3), .inl (cJ, 240, .inr (.inl (fun _ => 0)))), ((v 5), .inl (cB, 1200, .inl (fun _ => 0))), ((v 25), .inl (cZ, 3, .inl (fun _ => 0))), ((v 16), .inl (cI, 5, .inl (fun _ => 0))), ((v 17), .inl (cI, 55, .inl (fun _ => 0))), ((v 18), .inl (cI, 120, .inl (fun _ => 0))), ((v 19), .inl (cI, 30, .inl (fun _ => 0))), ((v 20), .inl (cI, 160, .inl (fun _ => 0))), ((v 21), .inl (cZ, 1000, .inl (fun _ => 0))), ((v 22), .inl (cI, 120, .inl (fun _ => 0))), ((v 23), .inl (cI, 50, .inl (fun _ => 0))), ((v 24), .inl (cI, 800, .inl (fun _ => 0)))] := hD
  rcases hw with ⟨rfl, hq896⟩ | ⟨rfl, hq896⟩ | ⟨rfl, hq896⟩
  · refine lv_aload_n hx hb dL_law_2007 rfl (lv_at hl 1 rfl) ?_
    refine lv_aload_n hx hb dL_law_2008 rfl (lv_at hl 3 rfl) ?_
    refine lv_iload_n hx hb dL_law_2009 rfl (lv_at hl 0 rfl) ?_
    refine lv_iconst (v := 1) hx hb dL_law_2010 (by decide) ?_
    refine lv_iadd hx hb dL_law_2011 ?_
    refine lv_topi (fun z897 ez897 => ?_)
    obtain rfl : z897 = 1 := ez897.trans (by decide)
    refine va_sld hx hb hX hbl hbA hS (tq_in (a := 1) (by decide) (by omega)) dL_law_2012 ?_
    refine lv_aload_n hx hb dL_law_2013 rfl (lv_at hl 3 rfl) ?_
    refine lv_iload_n hx hb dL_law_2014 rfl (lv_at hl 0 rfl) ?_
    refine lv_iconst (v := 2) hx hb dL_law_2015 (by decide) ?_
    refine lv_iadd hx hb dL_law_2016 ?_
    refine lv_topi (fun z898 ez898 => ?_)
    obtain rfl : z898 = 2 := ez898.trans (by decide)
    refine va_sld hx hb hX hbl hbA hS (tq_in (a := 2) (by decide) (by omega)) dL_law_2017 ?_
    refine lv_aload_n hx hb dL_law_2018 rfl (lv_at hl 3 rfl) ?_
    refine lv_iload_n hx hb dL_law_2019 rfl (lv_at hl 0 rfl) ?_
    refine lv_iconst (v := 3) hx hb dL_law_2020 (by decide) ?_
    refine lv_iadd hx hb dL_law_2021 ?_
    refine lv_topi (fun z899 ez899 => ?_)
    obtain rfl : z899 = 3 := ez899.trans (by decide)
    refine va_sld hx hb hX hbl hbA hS (tq_in (a := 3) (by decide) (by omega)) dL_law_2022 ?_
    refine ct_calli (D := D) (wc := (w_c_X12_row cI cJ cB cZ cO h1 v)) (wr := [((v 5), .inl (cB, 1200, .inl (fun _ => 0))), ((v 25), .inl (cZ, 3, .inl (fun _ => 0))), ((v 16), .inl (cI, 5, .inl (fun _ => 0))), ((v 17), .inl (cI, 55, .inl (fun _ => 0))), ((v 18), .inl (cI, 120, .inl (fun _ => 0))), ((v 19), .inl (cI, 30, .inl (fun _ => 0))), ((v 20), .inl (cI, 160, .inl (fun _ => 0))), ((v 21), .inl (cZ, 1000, .inl (fun _ => 0))), ((v 22), .inl (cI, 120, .inl (fun _ => 0))), ((v 23), .inl (cI, 50, .inl (fun _ => 0))), ((v 24), .inl (cI, 800, .inl (fun _ => 0)))]) (va_runV (As := [.int (xs (1 : Int32).toNatClampNeg), .int (xs (2 : Int32).toNatClampNeg), .int (xs (3 : Int32).toNatClampNeg)]) (rest := [.int (-2)]) ⟨hx, hb, hml, hown, hts⟩ (c_X12_row l D cI cJ cB cZ cO h1 v ((xs (1 : Int32).toNatClampNeg)) ((xs (2 : Int32).toNatClampNeg)) ((xs (3 : Int32).toNatClampNeg)) H.size) (cwV 3 hts gL_law_X12_row rfl rfl rfl (by decide +kernel) ⟨Nat.le_of_ble_eq_true rfl, Nat.le_of_ble_eq_true rfl⟩) (ct_preV (T := ct_T cI cJ cB cZ cO) (ci := 12) (q0 := 0) hE hP hD [0, 1, 2, 3] (by decide) rfl rfl rfl) rfl rfl hl.1 rfl (lv_room (Nat.le_of_ble_eq_true rfl)) dL_law_2023 ⟨Nat.le_of_ble_eq_true rfl, Nat.le_of_ble_eq_true rfl⟩) hP hD hS hA [0, 1, 2, 3] [4, 5, 6, 7, 8, 9, 10, 11, 12, 13, 14] rfl rfl (by decide) (by decide) (fun rz u H locs hw hP hD hS => ?_)
    have hP : va_P D vwCl [((v 5), .inl (cB, 1200, .inl (fun _ => 0))), ((v 25), .inl (cZ, 3, .inl (fun _ => 0))), ((v 16), .inl (cI, 5, .inl (fun _ => 0))), ((v 17), .inl (cI, 55, .inl (fun _ => 0))), ((v 18), .inl (cI, 120, .inl (fun _ => 0))), ((v 19), .inl (cI, 30, .inl (fun _ => 0))), ((v 20), .inl (cI, 160, .inl (fun _ => 0))), ((v 21), .inl (cZ, 1000, .inl (fun _ => 0))), ((v 22), .inl (cI, 120, .inl (fun _ => 0))), ((v 23), .inl (cI, 50, .inl (fun _ => 0))), ((v 24), .inl (cI, 800, .inl (fun _ => 0)))] H := hP
    have hD : va_D A [((v 5), .inl (cB, 1200, .inl (fun _ => 0))), ((v 25), .inl (cZ, 3, .inl (fun _ => 0))), ((v 16), .inl (cI, 5, .inl (fun _ => 0))), ((v 17), .inl (cI, 55, .inl (fun _ => 0))), ((v 18), .inl (cI, 120, .inl (fun _ => 0))), ((v 19), .inl (cI, 30, .inl (fun _ => 0))), ((v 20), .inl (cI, 160, .inl (fun _ => 0))), ((v 21), .inl (cZ, 1000, .inl (fun _ => 0))), ((v 22), .inl (cI, 120, .inl (fun _ => 0))), ((v 23), .inl (cI, 50, .inl (fun _ => 0))), ((v 24), .inl (cI, 800, .inl (fun _ => 0)))] := hD
    rcases hw with ⟨rfl, hq900⟩ | ⟨rfl, hq900⟩ | ⟨rfl, hq900⟩
    · refine lv_icmp_eq (tgt := 2167) hx hb dL_law_2026 (by decide) (fun _ => ?_) (fun hc => absurd hc (by decide))
      refine W.widen (k := 107) (n := 36842) (Nat.le_of_ble_eq_true rfl) (Nat.le_of_ble_eq_true rfl) ?_
      exact law_tail hx hb hml hr hlocks hX hbl hbA hA hAf hS (lv_sub hl [0, 1, 2, 3] rfl)
    · exfalso
      omega
    · exfalso
      omega
  · refine lv_aload_n hx hb dL_law_2007 rfl (lv_at hl 1 rfl) ?_
    refine lv_aload_n hx hb dL_law_2008 rfl (lv_at hl 3 rfl) ?_
    refine lv_iload_n hx hb dL_law_2009 rfl (lv_at hl 0 rfl) ?_
    refine lv_iconst (v := 1) hx hb dL_law_2010 (by decide) ?_
    refine lv_iadd hx hb dL_law_2011 ?_
    refine lv_topi (fun z901 ez901 => ?_)
    obtain rfl : z901 = 1 := ez901.trans (by decide)
    refine va_sld hx hb hX hbl hbA hS (tq_in (a := 1) (by decide) (by omega)) dL_law_2012 ?_
    refine lv_aload_n hx hb dL_law_2013 rfl (lv_at hl 3 rfl) ?_
    refine lv_iload_n hx hb dL_law_2014 rfl (lv_at hl 0 rfl) ?_
    refine lv_iconst (v := 2) hx hb dL_law_2015 (by decide) ?_
    refine lv_iadd hx hb dL_law_2016 ?_
    refine lv_topi (fun z902 ez902 => ?_)
    obtain rfl : z902 = 2 := ez902.trans (by decide)
    refine va_sld hx hb hX hbl hbA hS (tq_in (a := 2) (by decide) (by omega)) dL_law_2017 ?_
    refine lv_aload_n hx hb dL_law_2018 rfl (lv_at hl 3 rfl) ?_
    refine lv_iload_n hx hb dL_law_2019 rfl (lv_at hl 0 rfl) ?_
    refine lv_iconst (v := 3) hx hb dL_law_2020 (by decide) ?_
    refine lv_iadd hx hb dL_law_2021 ?_
    refine lv_topi (fun z903 ez903 => ?_)
    obtain rfl : z903 = 3 := ez903.trans (by decide)
    refine va_sld hx hb hX hbl hbA hS (tq_in (a := 3) (by decide) (by omega)) dL_law_2022 ?_
    refine ct_calli (D := D) (wc := (w_c_X12_row cI cJ cB cZ cO h1 v)) (wr := [((v 5), .inl (cB, 1200, .inl (fun _ => 0))), ((v 25), .inl (cZ, 3, .inl (fun _ => 0))), ((v 16), .inl (cI, 5, .inl (fun _ => 0))), ((v 17), .inl (cI, 55, .inl (fun _ => 0))), ((v 18), .inl (cI, 120, .inl (fun _ => 0))), ((v 19), .inl (cI, 30, .inl (fun _ => 0))), ((v 20), .inl (cI, 160, .inl (fun _ => 0))), ((v 21), .inl (cZ, 1000, .inl (fun _ => 0))), ((v 22), .inl (cI, 120, .inl (fun _ => 0))), ((v 23), .inl (cI, 50, .inl (fun _ => 0))), ((v 24), .inl (cI, 800, .inl (fun _ => 0)))]) (va_runV (As := [.int (xs (1 : Int32).toNatClampNeg), .int (xs (2 : Int32).toNatClampNeg), .int (xs (3 : Int32).toNatClampNeg)]) (rest := [.int (-3)]) ⟨hx, hb, hml, hown, hts⟩ (c_X12_row l D cI cJ cB cZ cO h1 v ((xs (1 : Int32).toNatClampNeg)) ((xs (2 : Int32).toNatClampNeg)) ((xs (3 : Int32).toNatClampNeg)) H.size) (cwV 3 hts gL_law_X12_row rfl rfl rfl (by decide +kernel) ⟨Nat.le_of_ble_eq_true rfl, Nat.le_of_ble_eq_true rfl⟩) (ct_preV (T := ct_T cI cJ cB cZ cO) (ci := 12) (q0 := 0) hE hP hD [0, 1, 2, 3] (by decide) rfl rfl rfl) rfl rfl hl.1 rfl (lv_room (Nat.le_of_ble_eq_true rfl)) dL_law_2023 ⟨Nat.le_of_ble_eq_true rfl, Nat.le_of_ble_eq_true rfl⟩) hP hD hS hA [0, 1, 2, 3] [4, 5, 6, 7, 8, 9, 10, 11, 12, 13, 14] rfl rfl (by decide) (by decide) (fun rz u H locs hw hP hD hS => ?_)
    have hP : va_P D vwCl [((v 5), .inl (cB, 1200, .inl (fun _ => 0))), ((v 25), .inl (cZ, 3, .inl (fun _ => 0))), ((v 16), .inl (cI, 5, .inl (fun _ => 0))), ((v 17), .inl (cI, 55, .inl (fun _ => 0))), ((v 18), .inl (cI, 120, .inl (fun _ => 0))), ((v 19), .inl (cI, 30, .inl (fun _ => 0))), ((v 20), .inl (cI, 160, .inl (fun _ => 0))), ((v 21), .inl (cZ, 1000, .inl (fun _ => 0))), ((v 22), .inl (cI, 120, .inl (fun _ => 0))), ((v 23), .inl (cI, 50, .inl (fun _ => 0))), ((v 24), .inl (cI, 800, .inl (fun _ => 0)))] H := hP
    have hD : va_D A [((v 5), .inl (cB, 1200, .inl (fun _ => 0))), ((v 25), .inl (cZ, 3, .inl (fun _ => 0))), ((v 16), .inl (cI, 5, .inl (fun _ => 0))), ((v 17), .inl (cI, 55, .inl (fun _ => 0))), ((v 18), .inl (cI, 120, .inl (fun _ => 0))), ((v 19), .inl (cI, 30, .inl (fun _ => 0))), ((v 20), .inl (cI, 160, .inl (fun _ => 0))), ((v 21), .inl (cZ, 1000, .inl (fun _ => 0))), ((v 22), .inl (cI, 120, .inl (fun _ => 0))), ((v 23), .inl (cI, 50, .inl (fun _ => 0))), ((v 24), .inl (cI, 800, .inl (fun _ => 0)))] := hD
    rcases hw with ⟨rfl, hq904⟩ | ⟨rfl, hq904⟩ | ⟨rfl, hq904⟩
    · exfalso
      omega
    · refine lv_icmp_eq (tgt := 2167) hx hb dL_law_2026 (by decide) (fun _ => ?_) (fun hc => absurd hc (by decide))
      refine W.widen (k := 107) (n := 36842) (Nat.le_of_ble_eq_true rfl) (Nat.le_of_ble_eq_true rfl) ?_
      exact law_tail hx hb hml hr hlocks hX hbl hbA hA hAf hS (lv_sub hl [0, 1, 2, 3] rfl)
    · exfalso
      omega
  · refine lv_aload_n hx hb dL_law_2007 rfl (lv_at hl 1 rfl) ?_
    refine lv_aload_n hx hb dL_law_2008 rfl (lv_at hl 3 rfl) ?_
    refine lv_iload_n hx hb dL_law_2009 rfl (lv_at hl 0 rfl) ?_
    refine lv_iconst (v := 1) hx hb dL_law_2010 (by decide) ?_
    refine lv_iadd hx hb dL_law_2011 ?_
    refine lv_topi (fun z905 ez905 => ?_)
    obtain rfl : z905 = 1 := ez905.trans (by decide)
    refine va_sld hx hb hX hbl hbA hS (tq_in (a := 1) (by decide) (by omega)) dL_law_2012 ?_
    refine lv_aload_n hx hb dL_law_2013 rfl (lv_at hl 3 rfl) ?_
    refine lv_iload_n hx hb dL_law_2014 rfl (lv_at hl 0 rfl) ?_
    refine lv_iconst (v := 2) hx hb dL_law_2015 (by decide) ?_
    refine lv_iadd hx hb dL_law_2016 ?_
    refine lv_topi (fun z906 ez906 => ?_)
    obtain rfl : z906 = 2 := ez906.trans (by decide)
    refine va_sld hx hb hX hbl hbA hS (tq_in (a := 2) (by decide) (by omega)) dL_law_2017 ?_
    refine lv_aload_n hx hb dL_law_2018 rfl (lv_at hl 3 rfl) ?_
    refine lv_iload_n hx hb dL_law_2019 rfl (lv_at hl 0 rfl) ?_
    refine lv_iconst (v := 3) hx hb dL_law_2020 (by decide) ?_
    refine lv_iadd hx hb dL_law_2021 ?_
    refine lv_topi (fun z907 ez907 => ?_)
    obtain rfl : z907 = 3 := ez907.trans (by decide)
    refine va_sld hx hb hX hbl hbA hS (tq_in (a := 3) (by decide) (by omega)) dL_law_2022 ?_
    refine ct_calli (D := D) (wc := (w_c_X12_row cI cJ cB cZ cO h1 v)) (wr := [((v 5), .inl (cB, 1200, .inl (fun _ => 0))), ((v 25), .inl (cZ, 3, .inl (fun _ => 0))), ((v 16), .inl (cI, 5, .inl (fun _ => 0))), ((v 17), .inl (cI, 55, .inl (fun _ => 0))), ((v 18), .inl (cI, 120, .inl (fun _ => 0))), ((v 19), .inl (cI, 30, .inl (fun _ => 0))), ((v 20), .inl (cI, 160, .inl (fun _ => 0))), ((v 21), .inl (cZ, 1000, .inl (fun _ => 0))), ((v 22), .inl (cI, 120, .inl (fun _ => 0))), ((v 23), .inl (cI, 50, .inl (fun _ => 0))), ((v 24), .inl (cI, 800, .inl (fun _ => 0)))]) (va_runV (As := [.int (xs (1 : Int32).toNatClampNeg), .int (xs (2 : Int32).toNatClampNeg), .int (xs (3 : Int32).toNatClampNeg)]) (rest := [.int 0]) ⟨hx, hb, hml, hown, hts⟩ (c_X12_row l D cI cJ cB cZ cO h1 v ((xs (1 : Int32).toNatClampNeg)) ((xs (2 : Int32).toNatClampNeg)) ((xs (3 : Int32).toNatClampNeg)) H.size) (cwV 3 hts gL_law_X12_row rfl rfl rfl (by decide +kernel) ⟨Nat.le_of_ble_eq_true rfl, Nat.le_of_ble_eq_true rfl⟩) (ct_preV (T := ct_T cI cJ cB cZ cO) (ci := 12) (q0 := 0) hE hP hD [0, 1, 2, 3] (by decide) rfl rfl rfl) rfl rfl hl.1 rfl (lv_room (Nat.le_of_ble_eq_true rfl)) dL_law_2023 ⟨Nat.le_of_ble_eq_true rfl, Nat.le_of_ble_eq_true rfl⟩) hP hD hS hA [0, 1, 2, 3] [4, 5, 6, 7, 8, 9, 10, 11, 12, 13, 14] rfl rfl (by decide) (by decide) (fun rz u H locs hw hP hD hS => ?_)
    have hP : va_P D vwCl [((v 5), .inl (cB, 1200, .inl (fun _ => 0))), ((v 25), .inl (cZ, 3, .inl (fun _ => 0))), ((v 16), .inl (cI, 5, .inl (fun _ => 0))), ((v 17), .inl (cI, 55, .inl (fun _ => 0))), ((v 18), .inl (cI, 120, .inl (fun _ => 0))), ((v 19), .inl (cI, 30, .inl (fun _ => 0))), ((v 20), .inl (cI, 160, .inl (fun _ => 0))), ((v 21), .inl (cZ, 1000, .inl (fun _ => 0))), ((v 22), .inl (cI, 120, .inl (fun _ => 0))), ((v 23), .inl (cI, 50, .inl (fun _ => 0))), ((v 24), .inl (cI, 800, .inl (fun _ => 0)))] H := hP
    have hD : va_D A [((v 5), .inl (cB, 1200, .inl (fun _ => 0))), ((v 25), .inl (cZ, 3, .inl (fun _ => 0))), ((v 16), .inl (cI, 5, .inl (fun _ => 0))), ((v 17), .inl (cI, 55, .inl (fun _ => 0))), ((v 18), .inl (cI, 120, .inl (fun _ => 0))), ((v 19), .inl (cI, 30, .inl (fun _ => 0))), ((v 20), .inl (cI, 160, .inl (fun _ => 0))), ((v 21), .inl (cZ, 1000, .inl (fun _ => 0))), ((v 22), .inl (cI, 120, .inl (fun _ => 0))), ((v 23), .inl (cI, 50, .inl (fun _ => 0))), ((v 24), .inl (cI, 800, .inl (fun _ => 0)))] := hD
    rcases hw with ⟨rfl, hq908⟩ | ⟨rfl, hq908⟩ | ⟨rfl, hq908⟩
    · exfalso
      omega
    · exfalso
      omega
    · refine lv_icmp_eq (tgt := 2167) hx hb dL_law_2026 (by decide) (fun _ => ?_) (fun hc => absurd hc (by decide))
      refine W.widen (k := 107) (n := 36842) (Nat.le_of_ble_eq_true rfl) (Nat.le_of_ble_eq_true rfl) ?_
      exact law_tail hx hb hml hr hlocks hX hbl hbA hA hAf hS (lv_sub hl [0, 1, 2, 3] rfl)
set_option maxHeartbeats 4000000 in
set_option maxRecDepth 100000 in
theorem law_c60 {p : Program} {l : Launch} {e : Env} {s : State} {m : MethodId} {below : List Frame} {meth : Method} {c : Code} {A : Nat → Prop} {b : Nat} {xs : Nat → Int32} (hx : p.tables.exec = Jvm.exec) (hb : c.code = code) (hml : c.maxLocals = 4) (hr : meth.sig.returnType = ret) (hlocks : meth.locks = false) (hX : va_X b 6 xs s s.heap) (hbl : b < s.heap.size) (hbA : ¬ A b) (hA : ∀ q : Nat, s.heap.size ≤ q → A q) (hAf : ∀ q : Nat, A q → s.heap.size ≤ q) (D : va_G) (cI cJ cB cZ cO : ClassId) (h0 h1 : Nat) (u v : Nat → Nat) (hown : s.vm.findClass RL = some m.cls) (hts : ∀ w ∈ wsL_law, w.before #[Value.ref b] s = true) (hE : ct_E D (ct_T cI cJ cB cZ cO) s) {H : Heap} {locs : List Loc} (hP : va_P D vwCl (LW cI cJ cB cZ cO h0 h1 u v) H) (hD : va_D A (LW cI cJ cB cZ cO h0 h1 u v)) (hS : va_S A s.heap H locs) {ls : Array Slot} (hl : lv_has ls 4 [(3, .int 0), (2, .ref h1), (1, .ref h0), (0, .ref b)]) : W p l e room_1 s m #[Value.ref b] below meth c H locs 107 36842 (lw_Z below #[Value.ref b] s) (F0 m 2031 ls []) := by
  have hK := hE.1
  refine lv_aload_n hx hb dL_law_2031 rfl (lv_at hl 2 rfl) ?_
  refine lv_aload_n hx hb dL_law_2032 rfl (lv_at hl 3 rfl) ?_
  refine lv_iload_n hx hb dL_law_2033 rfl (lv_at hl 0 rfl) ?_
  refine lv_iconst (v := 1) hx hb dL_law_2034 (by decide) ?_
  refine lv_iadd hx hb dL_law_2035 ?_
  refine lv_topi (fun z909 ez909 => ?_)
  obtain rfl : z909 = 1 := ez909.trans (by decide)
  refine va_sld hx hb hX hbl hbA hS (tq_in (a := 1) (by decide) (by omega)) dL_law_2036 ?_
  refine lv_aload_n hx hb dL_law_2037 rfl (lv_at hl 3 rfl) ?_
  refine lv_iload_n hx hb dL_law_2038 rfl (lv_at hl 0 rfl) ?_
  refine lv_iconst (v := 2) hx hb dL_law_2039 (by decide) ?_
  refine lv_iadd hx hb dL_law_2040 ?_
  refine lv_topi (fun z910 ez910 => ?_)
  obtain rfl : z910 = 2 := ez910.trans (by decide)
  refine va_sld hx hb hX hbl hbA hS (tq_in (a := 2) (by decide) (by omega)) dL_law_2041 ?_
  refine lv_aload_n hx hb dL_law_2042 rfl (lv_at hl 3 rfl) ?_
  refine lv_iload_n hx hb dL_law_2043 rfl (lv_at hl 0 rfl) ?_
  refine lv_iconst (v := 3) hx hb dL_law_2044 (by decide) ?_
  refine lv_iadd hx hb dL_law_2045 ?_
  refine lv_topi (fun z911 ez911 => ?_)
  obtain rfl : z911 = 3 := ez911.trans (by decide)
  refine va_sld hx hb hX hbl hbA hS (tq_in (a := 3) (by decide) (by omega)) dL_law_2046 ?_
  refine lv_i2l (v := (xs (3 : Int32).toNatClampNeg).toInt64) hx hb dL_law_2047 rfl ?_
  refine lv_bipush (v := 32) hx hb dL_law_2048 (by decide) ?_
  refine lv_lshl (v := _) hx hb dL_law_2050 rfl ?_
  refine lv_topl (fun z912 ez912 => ?_)
  refine lv_aload_n hx hb dL_law_2051 rfl (lv_at hl 3 rfl) ?_
  refine lv_iload_n hx hb dL_law_2052 rfl (lv_at hl 0 rfl) ?_
  refine lv_iconst (v := 4) hx hb dL_law_2053 (by decide) ?_
  refine lv_iadd hx hb dL_law_2054 ?_
  refine lv_topi (fun z913 ez913 => ?_)
  obtain rfl : z913 = 4 := ez913.trans (by decide)
  refine va_sld hx hb hX hbl hbA hS (tq_in (a := 4) (by decide) (by omega)) dL_law_2055 ?_
  refine lv_i2l (v := (xs (4 : Int32).toNatClampNeg).toInt64) hx hb dL_law_2056 rfl ?_
  refine lv_ldc2 (v := 4294967295) hx hb hown (hts (.constantLong RL 262 (4294967295)) (by decide +kernel)) dL_law_2057 ?_
  refine lv_land hx hb dL_law_2060 ?_
  refine lv_topl (fun z914 ez914 => ?_)
  refine lv_lor hx hb dL_law_2061 ?_
  refine lv_topl (fun z915 ez915 => ?_)
  refine ct_calli (D := D) (wc := (w_c_X11_write cI cJ cB cZ cO h0 u)) (wr := [mo h1 v 0 0, ((v 1), .inl (cI, 4, .inl (szf))), ((v 2), .inl (cI, 4, .inl (fun _ => 0))), ((v 3), .inl (cJ, 240, .inr (.inl (fun _ => 0)))), ((v 5), .inl (cB, 1200, .inl (fun _ => 0))), ((v 25), .inl (cZ, 3, .inl (fun _ => 0))), ((v 16), .inl (cI, 5, .inl (fun _ => 0))), ((v 17), .inl (cI, 55, .inl (fun _ => 0))), ((v 18), .inl (cI, 120, .inl (fun _ => 0))), ((v 19), .inl (cI, 30, .inl (fun _ => 0))), ((v 20), .inl (cI, 160, .inl (fun _ => 0))), ((v 21), .inl (cZ, 1000, .inl (fun _ => 0))), ((v 22), .inl (cI, 120, .inl (fun _ => 0))), ((v 23), .inl (cI, 50, .inl (fun _ => 0))), ((v 24), .inl (cI, 800, .inl (fun _ => 0)))]) (va_runV (As := [.int (xs (1 : Int32).toNatClampNeg), .int (xs (2 : Int32).toNatClampNeg), .long z915]) (rest := []) ⟨hx, hb, hml, hown, hts⟩ (c_X11_write l D cI cJ cB cZ cO h0 u ((xs (1 : Int32).toNatClampNeg)) ((xs (2 : Int32).toNatClampNeg)) z915 H.size) (cwV 3 hts gL_law_X11_write rfl rfl rfl (by decide +kernel) ⟨Nat.le_of_ble_eq_true rfl, Nat.le_of_ble_eq_true rfl⟩) (ct_preV (T := ct_T cI cJ cB cZ cO) (ci := 11) (q0 := 0) hE hP hD [0, 51, 53] (by decide) rfl rfl rfl) rfl rfl hl.1 rfl (lv_room (Nat.le_of_ble_eq_true rfl)) dL_law_2062 ⟨Nat.le_of_ble_eq_true rfl, Nat.le_of_ble_eq_true rfl⟩) hP hD hS hA [0, 51, 53] [55, 56, 57, 58, 59, 60, 61, 62, 63, 64, 65, 66, 67, 68, 69] rfl rfl (by decide) (by decide) (fun rz u H locs hw hP hD hS => ?_)
  have hP : va_P D vwCl [mo h1 v 0 0, ((v 1), .inl (cI, 4, .inl (szf))), ((v 2), .inl (cI, 4, .inl (fun _ => 0))), ((v 3), .inl (cJ, 240, .inr (.inl (fun _ => 0)))), ((v 5), .inl (cB, 1200, .inl (fun _ => 0))), ((v 25), .inl (cZ, 3, .inl (fun _ => 0))), ((v 16), .inl (cI, 5, .inl (fun _ => 0))), ((v 17), .inl (cI, 55, .inl (fun _ => 0))), ((v 18), .inl (cI, 120, .inl (fun _ => 0))), ((v 19), .inl (cI, 30, .inl (fun _ => 0))), ((v 20), .inl (cI, 160, .inl (fun _ => 0))), ((v 21), .inl (cZ, 1000, .inl (fun _ => 0))), ((v 22), .inl (cI, 120, .inl (fun _ => 0))), ((v 23), .inl (cI, 50, .inl (fun _ => 0))), ((v 24), .inl (cI, 800, .inl (fun _ => 0)))] H := hP
  have hD : va_D A [mo h1 v 0 0, ((v 1), .inl (cI, 4, .inl (szf))), ((v 2), .inl (cI, 4, .inl (fun _ => 0))), ((v 3), .inl (cJ, 240, .inr (.inl (fun _ => 0)))), ((v 5), .inl (cB, 1200, .inl (fun _ => 0))), ((v 25), .inl (cZ, 3, .inl (fun _ => 0))), ((v 16), .inl (cI, 5, .inl (fun _ => 0))), ((v 17), .inl (cI, 55, .inl (fun _ => 0))), ((v 18), .inl (cI, 120, .inl (fun _ => 0))), ((v 19), .inl (cI, 30, .inl (fun _ => 0))), ((v 20), .inl (cI, 160, .inl (fun _ => 0))), ((v 21), .inl (cZ, 1000, .inl (fun _ => 0))), ((v 22), .inl (cI, 120, .inl (fun _ => 0))), ((v 23), .inl (cI, 50, .inl (fun _ => 0))), ((v 24), .inl (cI, 800, .inl (fun _ => 0)))] := hD
  rcases hw with ⟨rfl, hq916⟩ | ⟨rfl, hq916⟩
  · refine lv_aload_n hx hb dL_law_2065 rfl (lv_at hl 1 rfl) ?_
    refine lv_aload_n hx hb dL_law_2066 rfl (lv_at hl 3 rfl) ?_
    refine lv_iload_n hx hb dL_law_2067 rfl (lv_at hl 0 rfl) ?_
    refine lv_iconst (v := 1) hx hb dL_law_2068 (by decide) ?_
    refine lv_iadd hx hb dL_law_2069 ?_
    refine lv_topi (fun z917 ez917 => ?_)
    obtain rfl : z917 = 1 := ez917.trans (by decide)
    refine va_sld hx hb hX hbl hbA hS (tq_in (a := 1) (by decide) (by omega)) dL_law_2070 ?_
    refine lv_aload_n hx hb dL_law_2071 rfl (lv_at hl 3 rfl) ?_
    refine lv_iload_n hx hb dL_law_2072 rfl (lv_at hl 0 rfl) ?_
    refine lv_iconst (v := 2) hx hb dL_law_2073 (by decide) ?_
    refine lv_iadd hx hb dL_law_2074 ?_
    refine lv_topi (fun z918 ez918 => ?_)
    obtain rfl : z918 = 2 := ez918.trans (by decide)
    refine va_sld hx hb hX hbl hbA hS (tq_in (a := 2) (by decide) (by omega)) dL_law_2075 ?_
    refine lv_aload_n hx hb dL_law_2076 rfl (lv_at hl 3 rfl) ?_
    refine lv_iload_n hx hb dL_law_2077 rfl (lv_at hl 0 rfl) ?_
    refine lv_iconst (v := 3) hx hb dL_law_2078 (by decide) ?_
    refine lv_iadd hx hb dL_law_2079 ?_
    refine lv_topi (fun z919 ez919 => ?_)
    obtain rfl : z919 = 3 := ez919.trans (by decide)
    refine va_sld hx hb hX hbl hbA hS (tq_in (a := 3) (by decide) (by omega)) dL_law_2080 ?_
    refine lv_i2l (v := (xs (3 : Int32).toNatClampNeg).toInt64) hx hb dL_law_2081 rfl ?_
    refine lv_bipush (v := 32) hx hb dL_law_2082 (by decide) ?_
    refine lv_lshl (v := _) hx hb dL_law_2084 rfl ?_
    refine lv_topl (fun z920 ez920 => ?_)
    refine lv_aload_n hx hb dL_law_2085 rfl (lv_at hl 3 rfl) ?_
    refine lv_iload_n hx hb dL_law_2086 rfl (lv_at hl 0 rfl) ?_
    refine lv_iconst (v := 4) hx hb dL_law_2087 (by decide) ?_
    refine lv_iadd hx hb dL_law_2088 ?_
    refine lv_topi (fun z921 ez921 => ?_)
    obtain rfl : z921 = 4 := ez921.trans (by decide)
    refine va_sld hx hb hX hbl hbA hS (tq_in (a := 4) (by decide) (by omega)) dL_law_2089 ?_
    refine lv_i2l (v := (xs (4 : Int32).toNatClampNeg).toInt64) hx hb dL_law_2090 rfl ?_
    refine lv_ldc2 (v := 4294967295) hx hb hown (hts (.constantLong RL 262 (4294967295)) (by decide +kernel)) dL_law_2091 ?_
    refine lv_land hx hb dL_law_2094 ?_
    refine lv_topl (fun z922 ez922 => ?_)
    refine lv_lor hx hb dL_law_2095 ?_
    refine lv_topl (fun z923 ez923 => ?_)
    refine ct_calli (D := D) (wc := (w_c_X12_write cI cJ cB cZ cO h1 v)) (wr := [((v 2), .inl (cI, 4, .inl (fun _ => 0))), ((v 3), .inl (cJ, 240, .inr (.inl (fun _ => 0)))), ((v 5), .inl (cB, 1200, .inl (fun _ => 0))), ((v 25), .inl (cZ, 3, .inl (fun _ => 0))), ((v 16), .inl (cI, 5, .inl (fun _ => 0))), ((v 17), .inl (cI, 55, .inl (fun _ => 0))), ((v 18), .inl (cI, 120, .inl (fun _ => 0))), ((v 19), .inl (cI, 30, .inl (fun _ => 0))), ((v 20), .inl (cI, 160, .inl (fun _ => 0))), ((v 21), .inl (cZ, 1000, .inl (fun _ => 0))), ((v 22), .inl (cI, 120, .inl (fun _ => 0))), ((v 23), .inl (cI, 50, .inl (fun _ => 0))), ((v 24), .inl (cI, 800, .inl (fun _ => 0)))]) (va_runV (As := [.int (xs (1 : Int32).toNatClampNeg), .int (xs (2 : Int32).toNatClampNeg), .long z923]) (rest := [.int (-6)]) ⟨hx, hb, hml, hown, hts⟩ (c_X12_write l D cI cJ cB cZ cO h1 v ((xs (1 : Int32).toNatClampNeg)) ((xs (2 : Int32).toNatClampNeg)) z923 H.size) (cwV 3 hts gL_law_X12_write rfl rfl rfl (by decide +kernel) ⟨Nat.le_of_ble_eq_true rfl, Nat.le_of_ble_eq_true rfl⟩) (ct_preV (T := ct_T cI cJ cB cZ cO) (ci := 12) (q0 := 0) hE hP hD [0, 1] (by decide) rfl rfl rfl) rfl rfl hl.1 rfl (lv_room (Nat.le_of_ble_eq_true rfl)) dL_law_2096 ⟨Nat.le_of_ble_eq_true rfl, Nat.le_of_ble_eq_true rfl⟩) hP hD hS hA [0, 1] [2, 3, 4, 5, 6, 7, 8, 9, 10, 11, 12, 13, 14] rfl rfl (by decide) (by decide) (fun rz u H locs hw hP hD hS => ?_)
    have hP : va_P D vwCl [((v 2), .inl (cI, 4, .inl (fun _ => 0))), ((v 3), .inl (cJ, 240, .inr (.inl (fun _ => 0)))), ((v 5), .inl (cB, 1200, .inl (fun _ => 0))), ((v 25), .inl (cZ, 3, .inl (fun _ => 0))), ((v 16), .inl (cI, 5, .inl (fun _ => 0))), ((v 17), .inl (cI, 55, .inl (fun _ => 0))), ((v 18), .inl (cI, 120, .inl (fun _ => 0))), ((v 19), .inl (cI, 30, .inl (fun _ => 0))), ((v 20), .inl (cI, 160, .inl (fun _ => 0))), ((v 21), .inl (cZ, 1000, .inl (fun _ => 0))), ((v 22), .inl (cI, 120, .inl (fun _ => 0))), ((v 23), .inl (cI, 50, .inl (fun _ => 0))), ((v 24), .inl (cI, 800, .inl (fun _ => 0)))] H := hP
    have hD : va_D A [((v 2), .inl (cI, 4, .inl (fun _ => 0))), ((v 3), .inl (cJ, 240, .inr (.inl (fun _ => 0)))), ((v 5), .inl (cB, 1200, .inl (fun _ => 0))), ((v 25), .inl (cZ, 3, .inl (fun _ => 0))), ((v 16), .inl (cI, 5, .inl (fun _ => 0))), ((v 17), .inl (cI, 55, .inl (fun _ => 0))), ((v 18), .inl (cI, 120, .inl (fun _ => 0))), ((v 19), .inl (cI, 30, .inl (fun _ => 0))), ((v 20), .inl (cI, 160, .inl (fun _ => 0))), ((v 21), .inl (cZ, 1000, .inl (fun _ => 0))), ((v 22), .inl (cI, 120, .inl (fun _ => 0))), ((v 23), .inl (cI, 50, .inl (fun _ => 0))), ((v 24), .inl (cI, 800, .inl (fun _ => 0)))] := hD
    rcases hw with ⟨rfl, hq924⟩ | ⟨rfl, hq924⟩
    · refine lv_icmp_eq (tgt := 2167) hx hb dL_law_2099 (by decide) (fun _ => ?_) (fun hc => absurd hc (by decide))
      refine W.widen (k := 107) (n := 36842) (Nat.le_of_ble_eq_true rfl) (Nat.le_of_ble_eq_true rfl) ?_
      exact law_tail hx hb hml hr hlocks hX hbl hbA hA hAf hS (lv_sub hl [0, 1, 2, 3] rfl)
    · exfalso
      omega
  · refine lv_aload_n hx hb dL_law_2065 rfl (lv_at hl 1 rfl) ?_
    refine lv_aload_n hx hb dL_law_2066 rfl (lv_at hl 3 rfl) ?_
    refine lv_iload_n hx hb dL_law_2067 rfl (lv_at hl 0 rfl) ?_
    refine lv_iconst (v := 1) hx hb dL_law_2068 (by decide) ?_
    refine lv_iadd hx hb dL_law_2069 ?_
    refine lv_topi (fun z925 ez925 => ?_)
    obtain rfl : z925 = 1 := ez925.trans (by decide)
    refine va_sld hx hb hX hbl hbA hS (tq_in (a := 1) (by decide) (by omega)) dL_law_2070 ?_
    refine lv_aload_n hx hb dL_law_2071 rfl (lv_at hl 3 rfl) ?_
    refine lv_iload_n hx hb dL_law_2072 rfl (lv_at hl 0 rfl) ?_
    refine lv_iconst (v := 2) hx hb dL_law_2073 (by decide) ?_
    refine lv_iadd hx hb dL_law_2074 ?_
    refine lv_topi (fun z926 ez926 => ?_)
    obtain rfl : z926 = 2 := ez926.trans (by decide)
    refine va_sld hx hb hX hbl hbA hS (tq_in (a := 2) (by decide) (by omega)) dL_law_2075 ?_
    refine lv_aload_n hx hb dL_law_2076 rfl (lv_at hl 3 rfl) ?_
    refine lv_iload_n hx hb dL_law_2077 rfl (lv_at hl 0 rfl) ?_
    refine lv_iconst (v := 3) hx hb dL_law_2078 (by decide) ?_
    refine lv_iadd hx hb dL_law_2079 ?_
    refine lv_topi (fun z927 ez927 => ?_)
    obtain rfl : z927 = 3 := ez927.trans (by decide)
    refine va_sld hx hb hX hbl hbA hS (tq_in (a := 3) (by decide) (by omega)) dL_law_2080 ?_
    refine lv_i2l (v := (xs (3 : Int32).toNatClampNeg).toInt64) hx hb dL_law_2081 rfl ?_
    refine lv_bipush (v := 32) hx hb dL_law_2082 (by decide) ?_
    refine lv_lshl (v := _) hx hb dL_law_2084 rfl ?_
    refine lv_topl (fun z928 ez928 => ?_)
    refine lv_aload_n hx hb dL_law_2085 rfl (lv_at hl 3 rfl) ?_
    refine lv_iload_n hx hb dL_law_2086 rfl (lv_at hl 0 rfl) ?_
    refine lv_iconst (v := 4) hx hb dL_law_2087 (by decide) ?_
    refine lv_iadd hx hb dL_law_2088 ?_
    refine lv_topi (fun z929 ez929 => ?_)
    obtain rfl : z929 = 4 := ez929.trans (by decide)
    refine va_sld hx hb hX hbl hbA hS (tq_in (a := 4) (by decide) (by omega)) dL_law_2089 ?_
    refine lv_i2l (v := (xs (4 : Int32).toNatClampNeg).toInt64) hx hb dL_law_2090 rfl ?_
    refine lv_ldc2 (v := 4294967295) hx hb hown (hts (.constantLong RL 262 (4294967295)) (by decide +kernel)) dL_law_2091 ?_
    refine lv_land hx hb dL_law_2094 ?_
    refine lv_topl (fun z930 ez930 => ?_)
    refine lv_lor hx hb dL_law_2095 ?_
    refine lv_topl (fun z931 ez931 => ?_)
    refine ct_calli (D := D) (wc := (w_c_X12_write cI cJ cB cZ cO h1 v)) (wr := [((v 2), .inl (cI, 4, .inl (fun _ => 0))), ((v 3), .inl (cJ, 240, .inr (.inl (fun _ => 0)))), ((v 5), .inl (cB, 1200, .inl (fun _ => 0))), ((v 25), .inl (cZ, 3, .inl (fun _ => 0))), ((v 16), .inl (cI, 5, .inl (fun _ => 0))), ((v 17), .inl (cI, 55, .inl (fun _ => 0))), ((v 18), .inl (cI, 120, .inl (fun _ => 0))), ((v 19), .inl (cI, 30, .inl (fun _ => 0))), ((v 20), .inl (cI, 160, .inl (fun _ => 0))), ((v 21), .inl (cZ, 1000, .inl (fun _ => 0))), ((v 22), .inl (cI, 120, .inl (fun _ => 0))), ((v 23), .inl (cI, 50, .inl (fun _ => 0))), ((v 24), .inl (cI, 800, .inl (fun _ => 0)))]) (va_runV (As := [.int (xs (1 : Int32).toNatClampNeg), .int (xs (2 : Int32).toNatClampNeg), .long z931]) (rest := [.int (-2)]) ⟨hx, hb, hml, hown, hts⟩ (c_X12_write l D cI cJ cB cZ cO h1 v ((xs (1 : Int32).toNatClampNeg)) ((xs (2 : Int32).toNatClampNeg)) z931 H.size) (cwV 3 hts gL_law_X12_write rfl rfl rfl (by decide +kernel) ⟨Nat.le_of_ble_eq_true rfl, Nat.le_of_ble_eq_true rfl⟩) (ct_preV (T := ct_T cI cJ cB cZ cO) (ci := 12) (q0 := 0) hE hP hD [0, 1] (by decide) rfl rfl rfl) rfl rfl hl.1 rfl (lv_room (Nat.le_of_ble_eq_true rfl)) dL_law_2096 ⟨Nat.le_of_ble_eq_true rfl, Nat.le_of_ble_eq_true rfl⟩) hP hD hS hA [0, 1] [2, 3, 4, 5, 6, 7, 8, 9, 10, 11, 12, 13, 14] rfl rfl (by decide) (by decide) (fun rz u H locs hw hP hD hS => ?_)
    have hP : va_P D vwCl [((v 2), .inl (cI, 4, .inl (fun _ => 0))), ((v 3), .inl (cJ, 240, .inr (.inl (fun _ => 0)))), ((v 5), .inl (cB, 1200, .inl (fun _ => 0))), ((v 25), .inl (cZ, 3, .inl (fun _ => 0))), ((v 16), .inl (cI, 5, .inl (fun _ => 0))), ((v 17), .inl (cI, 55, .inl (fun _ => 0))), ((v 18), .inl (cI, 120, .inl (fun _ => 0))), ((v 19), .inl (cI, 30, .inl (fun _ => 0))), ((v 20), .inl (cI, 160, .inl (fun _ => 0))), ((v 21), .inl (cZ, 1000, .inl (fun _ => 0))), ((v 22), .inl (cI, 120, .inl (fun _ => 0))), ((v 23), .inl (cI, 50, .inl (fun _ => 0))), ((v 24), .inl (cI, 800, .inl (fun _ => 0)))] H := hP
    have hD : va_D A [((v 2), .inl (cI, 4, .inl (fun _ => 0))), ((v 3), .inl (cJ, 240, .inr (.inl (fun _ => 0)))), ((v 5), .inl (cB, 1200, .inl (fun _ => 0))), ((v 25), .inl (cZ, 3, .inl (fun _ => 0))), ((v 16), .inl (cI, 5, .inl (fun _ => 0))), ((v 17), .inl (cI, 55, .inl (fun _ => 0))), ((v 18), .inl (cI, 120, .inl (fun _ => 0))), ((v 19), .inl (cI, 30, .inl (fun _ => 0))), ((v 20), .inl (cI, 160, .inl (fun _ => 0))), ((v 21), .inl (cZ, 1000, .inl (fun _ => 0))), ((v 22), .inl (cI, 120, .inl (fun _ => 0))), ((v 23), .inl (cI, 50, .inl (fun _ => 0))), ((v 24), .inl (cI, 800, .inl (fun _ => 0)))] := hD
    rcases hw with ⟨rfl, hq932⟩ | ⟨rfl, hq932⟩
    · exfalso
      omega
    · refine lv_icmp_eq (tgt := 2167) hx hb dL_law_2099 (by decide) (fun _ => ?_) (fun hc => absurd hc (by decide))
      refine W.widen (k := 107) (n := 36842) (Nat.le_of_ble_eq_true rfl) (Nat.le_of_ble_eq_true rfl) ?_
      exact law_tail hx hb hml hr hlocks hX hbl hbA hA hAf hS (lv_sub hl [0, 1, 2, 3] rfl)
set_option maxHeartbeats 4000000 in
set_option maxRecDepth 100000 in
theorem law_c61 {p : Program} {l : Launch} {e : Env} {s : State} {m : MethodId} {below : List Frame} {meth : Method} {c : Code} {A : Nat → Prop} {b : Nat} {xs : Nat → Int32} (hx : p.tables.exec = Jvm.exec) (hb : c.code = code) (hml : c.maxLocals = 4) (hr : meth.sig.returnType = ret) (hlocks : meth.locks = false) (hX : va_X b 6 xs s s.heap) (hbl : b < s.heap.size) (hbA : ¬ A b) (hA : ∀ q : Nat, s.heap.size ≤ q → A q) (hAf : ∀ q : Nat, A q → s.heap.size ≤ q) (D : va_G) (cI cJ cB cZ cO : ClassId) (h0 h1 : Nat) (u v : Nat → Nat) (hown : s.vm.findClass RL = some m.cls) (hts : ∀ w ∈ wsL_law, w.before #[Value.ref b] s = true) (hE : ct_E D (ct_T cI cJ cB cZ cO) s) {H : Heap} {locs : List Loc} (hP : va_P D vwCl (LW cI cJ cB cZ cO h0 h1 u v) H) (hD : va_D A (LW cI cJ cB cZ cO h0 h1 u v)) (hS : va_S A s.heap H locs) {ls : Array Slot} (hl : lv_has ls 4 [(3, .int 0), (2, .ref h1), (1, .ref h0), (0, .ref b)]) : W p l e room_1 s m #[Value.ref b] below meth c H locs 107 36842 (lw_Z below #[Value.ref b] s) (F0 m 2104 ls []) := by
  have hK := hE.1
  refine lv_aload_n hx hb dL_law_2104 rfl (lv_at hl 2 rfl) ?_
  refine lv_aload_n hx hb dL_law_2105 rfl (lv_at hl 3 rfl) ?_
  refine lv_iload_n hx hb dL_law_2106 rfl (lv_at hl 0 rfl) ?_
  refine lv_iconst (v := 1) hx hb dL_law_2107 (by decide) ?_
  refine lv_iadd hx hb dL_law_2108 ?_
  refine lv_topi (fun z933 ez933 => ?_)
  obtain rfl : z933 = 1 := ez933.trans (by decide)
  refine va_sld hx hb hX hbl hbA hS (tq_in (a := 1) (by decide) (by omega)) dL_law_2109 ?_
  refine lv_aload_n hx hb dL_law_2110 rfl (lv_at hl 3 rfl) ?_
  refine lv_iload_n hx hb dL_law_2111 rfl (lv_at hl 0 rfl) ?_
  refine lv_iconst (v := 2) hx hb dL_law_2112 (by decide) ?_
  refine lv_iadd hx hb dL_law_2113 ?_
  refine lv_topi (fun z934 ez934 => ?_)
  obtain rfl : z934 = 2 := ez934.trans (by decide)
  refine va_sld hx hb hX hbl hbA hS (tq_in (a := 2) (by decide) (by omega)) dL_law_2114 ?_
  refine lv_aload_n hx hb dL_law_2115 rfl (lv_at hl 3 rfl) ?_
  refine lv_iload_n hx hb dL_law_2116 rfl (lv_at hl 0 rfl) ?_
  refine lv_iconst (v := 3) hx hb dL_law_2117 (by decide) ?_
  refine lv_iadd hx hb dL_law_2118 ?_
  refine lv_topi (fun z935 ez935 => ?_)
  obtain rfl : z935 = 3 := ez935.trans (by decide)
  refine va_sld hx hb hX hbl hbA hS (tq_in (a := 3) (by decide) (by omega)) dL_law_2119 ?_
  refine lv_aload_n hx hb dL_law_2120 rfl (lv_at hl 3 rfl) ?_
  refine lv_iload_n hx hb dL_law_2121 rfl (lv_at hl 0 rfl) ?_
  refine lv_iconst (v := 4) hx hb dL_law_2122 (by decide) ?_
  refine lv_iadd hx hb dL_law_2123 ?_
  refine lv_topi (fun z936 ez936 => ?_)
  obtain rfl : z936 = 4 := ez936.trans (by decide)
  refine va_sld hx hb hX hbl hbA hS (tq_in (a := 4) (by decide) (by omega)) dL_law_2124 ?_
  refine lv_aload_n hx hb dL_law_2125 rfl (lv_at hl 3 rfl) ?_
  refine lv_iload_n hx hb dL_law_2126 rfl (lv_at hl 0 rfl) ?_
  refine lv_iconst (v := 5) hx hb dL_law_2127 (by decide) ?_
  refine lv_iadd hx hb dL_law_2128 ?_
  refine lv_topi (fun z937 ez937 => ?_)
  obtain rfl : z937 = 5 := ez937.trans (by decide)
  refine va_sld hx hb hX hbl hbA hS (tq_in (a := 5) (by decide) (by omega)) dL_law_2129 ?_
  refine ct_calli (D := D) (wc := (w_c_X11_paste cI cJ cB cZ cO h0 u)) (wr := [mo h1 v 0 0, ((v 1), .inl (cI, 4, .inl (szf))), ((v 2), .inl (cI, 4, .inl (fun _ => 0))), ((v 3), .inl (cJ, 240, .inr (.inl (fun _ => 0)))), ((v 5), .inl (cB, 1200, .inl (fun _ => 0))), ((v 25), .inl (cZ, 3, .inl (fun _ => 0))), ((v 16), .inl (cI, 5, .inl (fun _ => 0))), ((v 17), .inl (cI, 55, .inl (fun _ => 0))), ((v 18), .inl (cI, 120, .inl (fun _ => 0))), ((v 19), .inl (cI, 30, .inl (fun _ => 0))), ((v 20), .inl (cI, 160, .inl (fun _ => 0))), ((v 21), .inl (cZ, 1000, .inl (fun _ => 0))), ((v 22), .inl (cI, 120, .inl (fun _ => 0))), ((v 23), .inl (cI, 50, .inl (fun _ => 0))), ((v 24), .inl (cI, 800, .inl (fun _ => 0)))]) (va_runV (As := [.int (xs (1 : Int32).toNatClampNeg), .int (xs (2 : Int32).toNatClampNeg), .int (xs (3 : Int32).toNatClampNeg), .int (xs (4 : Int32).toNatClampNeg), .int (xs (5 : Int32).toNatClampNeg)]) (rest := []) ⟨hx, hb, hml, hown, hts⟩ (c_X11_paste l D cI cJ cB cZ cO h0 u ((xs (1 : Int32).toNatClampNeg)) ((xs (2 : Int32).toNatClampNeg)) ((xs (3 : Int32).toNatClampNeg)) ((xs (4 : Int32).toNatClampNeg)) ((xs (5 : Int32).toNatClampNeg)) H.size) (cwV 5 hts gL_law_X11_paste rfl rfl rfl (by decide +kernel) ⟨Nat.le_of_ble_eq_true rfl, Nat.le_of_ble_eq_true rfl⟩) (ct_preV (T := ct_T cI cJ cB cZ cO) (ci := 11) (q0 := 0) hE hP hD [0, 51, 53] (by decide) rfl rfl rfl) rfl rfl hl.1 rfl (lv_room (Nat.le_of_ble_eq_true rfl)) dL_law_2130 ⟨Nat.le_of_ble_eq_true rfl, Nat.le_of_ble_eq_true rfl⟩) hP hD hS hA [0, 51, 53] [55, 56, 57, 58, 59, 60, 61, 62, 63, 64, 65, 66, 67, 68, 69] rfl rfl (by decide) (by decide) (fun rz u H locs hw hP hD hS => ?_)
  have hP : va_P D vwCl [mo h1 v 0 0, ((v 1), .inl (cI, 4, .inl (szf))), ((v 2), .inl (cI, 4, .inl (fun _ => 0))), ((v 3), .inl (cJ, 240, .inr (.inl (fun _ => 0)))), ((v 5), .inl (cB, 1200, .inl (fun _ => 0))), ((v 25), .inl (cZ, 3, .inl (fun _ => 0))), ((v 16), .inl (cI, 5, .inl (fun _ => 0))), ((v 17), .inl (cI, 55, .inl (fun _ => 0))), ((v 18), .inl (cI, 120, .inl (fun _ => 0))), ((v 19), .inl (cI, 30, .inl (fun _ => 0))), ((v 20), .inl (cI, 160, .inl (fun _ => 0))), ((v 21), .inl (cZ, 1000, .inl (fun _ => 0))), ((v 22), .inl (cI, 120, .inl (fun _ => 0))), ((v 23), .inl (cI, 50, .inl (fun _ => 0))), ((v 24), .inl (cI, 800, .inl (fun _ => 0)))] H := hP
  have hD : va_D A [mo h1 v 0 0, ((v 1), .inl (cI, 4, .inl (szf))), ((v 2), .inl (cI, 4, .inl (fun _ => 0))), ((v 3), .inl (cJ, 240, .inr (.inl (fun _ => 0)))), ((v 5), .inl (cB, 1200, .inl (fun _ => 0))), ((v 25), .inl (cZ, 3, .inl (fun _ => 0))), ((v 16), .inl (cI, 5, .inl (fun _ => 0))), ((v 17), .inl (cI, 55, .inl (fun _ => 0))), ((v 18), .inl (cI, 120, .inl (fun _ => 0))), ((v 19), .inl (cI, 30, .inl (fun _ => 0))), ((v 20), .inl (cI, 160, .inl (fun _ => 0))), ((v 21), .inl (cZ, 1000, .inl (fun _ => 0))), ((v 22), .inl (cI, 120, .inl (fun _ => 0))), ((v 23), .inl (cI, 50, .inl (fun _ => 0))), ((v 24), .inl (cI, 800, .inl (fun _ => 0)))] := hD
  rcases hw with ⟨rfl, hq938⟩ | ⟨rfl, hq938⟩
  · refine lv_aload_n hx hb dL_law_2133 rfl (lv_at hl 1 rfl) ?_
    refine lv_aload_n hx hb dL_law_2134 rfl (lv_at hl 3 rfl) ?_
    refine lv_iload_n hx hb dL_law_2135 rfl (lv_at hl 0 rfl) ?_
    refine lv_iconst (v := 1) hx hb dL_law_2136 (by decide) ?_
    refine lv_iadd hx hb dL_law_2137 ?_
    refine lv_topi (fun z939 ez939 => ?_)
    obtain rfl : z939 = 1 := ez939.trans (by decide)
    refine va_sld hx hb hX hbl hbA hS (tq_in (a := 1) (by decide) (by omega)) dL_law_2138 ?_
    refine lv_aload_n hx hb dL_law_2139 rfl (lv_at hl 3 rfl) ?_
    refine lv_iload_n hx hb dL_law_2140 rfl (lv_at hl 0 rfl) ?_
    refine lv_iconst (v := 2) hx hb dL_law_2141 (by decide) ?_
    refine lv_iadd hx hb dL_law_2142 ?_
    refine lv_topi (fun z940 ez940 => ?_)
    obtain rfl : z940 = 2 := ez940.trans (by decide)
    refine va_sld hx hb hX hbl hbA hS (tq_in (a := 2) (by decide) (by omega)) dL_law_2143 ?_
    refine lv_aload_n hx hb dL_law_2144 rfl (lv_at hl 3 rfl) ?_
    refine lv_iload_n hx hb dL_law_2145 rfl (lv_at hl 0 rfl) ?_
    refine lv_iconst (v := 3) hx hb dL_law_2146 (by decide) ?_
    refine lv_iadd hx hb dL_law_2147 ?_
    refine lv_topi (fun z941 ez941 => ?_)
    obtain rfl : z941 = 3 := ez941.trans (by decide)
    refine va_sld hx hb hX hbl hbA hS (tq_in (a := 3) (by decide) (by omega)) dL_law_2148 ?_
    refine lv_aload_n hx hb dL_law_2149 rfl (lv_at hl 3 rfl) ?_
    refine lv_iload_n hx hb dL_law_2150 rfl (lv_at hl 0 rfl) ?_
    refine lv_iconst (v := 4) hx hb dL_law_2151 (by decide) ?_
    refine lv_iadd hx hb dL_law_2152 ?_
    refine lv_topi (fun z942 ez942 => ?_)
    obtain rfl : z942 = 4 := ez942.trans (by decide)
    refine va_sld hx hb hX hbl hbA hS (tq_in (a := 4) (by decide) (by omega)) dL_law_2153 ?_
    refine lv_aload_n hx hb dL_law_2154 rfl (lv_at hl 3 rfl) ?_
    refine lv_iload_n hx hb dL_law_2155 rfl (lv_at hl 0 rfl) ?_
    refine lv_iconst (v := 5) hx hb dL_law_2156 (by decide) ?_
    refine lv_iadd hx hb dL_law_2157 ?_
    refine lv_topi (fun z943 ez943 => ?_)
    obtain rfl : z943 = 5 := ez943.trans (by decide)
    refine va_sld hx hb hX hbl hbA hS (tq_in (a := 5) (by decide) (by omega)) dL_law_2158 ?_
    refine ct_calli (D := D) (wc := (w_c_X12_paste cI cJ cB cZ cO h1 v)) (wr := [((v 2), .inl (cI, 4, .inl (fun _ => 0))), ((v 3), .inl (cJ, 240, .inr (.inl (fun _ => 0)))), ((v 5), .inl (cB, 1200, .inl (fun _ => 0))), ((v 25), .inl (cZ, 3, .inl (fun _ => 0))), ((v 16), .inl (cI, 5, .inl (fun _ => 0))), ((v 17), .inl (cI, 55, .inl (fun _ => 0))), ((v 18), .inl (cI, 120, .inl (fun _ => 0))), ((v 19), .inl (cI, 30, .inl (fun _ => 0))), ((v 20), .inl (cI, 160, .inl (fun _ => 0))), ((v 21), .inl (cZ, 1000, .inl (fun _ => 0))), ((v 22), .inl (cI, 120, .inl (fun _ => 0))), ((v 23), .inl (cI, 50, .inl (fun _ => 0))), ((v 24), .inl (cI, 800, .inl (fun _ => 0)))]) (va_runV (As := [.int (xs (1 : Int32).toNatClampNeg), .int (xs (2 : Int32).toNatClampNeg), .int (xs (3 : Int32).toNatClampNeg), .int (xs (4 : Int32).toNatClampNeg), .int (xs (5 : Int32).toNatClampNeg)]) (rest := [.int (-6)]) ⟨hx, hb, hml, hown, hts⟩ (c_X12_paste l D cI cJ cB cZ cO h1 v ((xs (1 : Int32).toNatClampNeg)) ((xs (2 : Int32).toNatClampNeg)) ((xs (3 : Int32).toNatClampNeg)) ((xs (4 : Int32).toNatClampNeg)) ((xs (5 : Int32).toNatClampNeg)) H.size) (cwV 5 hts gL_law_X12_paste rfl rfl rfl (by decide +kernel) ⟨Nat.le_of_ble_eq_true rfl, Nat.le_of_ble_eq_true rfl⟩) (ct_preV (T := ct_T cI cJ cB cZ cO) (ci := 12) (q0 := 0) hE hP hD [0, 1] (by decide) rfl rfl rfl) rfl rfl hl.1 rfl (lv_room (Nat.le_of_ble_eq_true rfl)) dL_law_2159 ⟨Nat.le_of_ble_eq_true rfl, Nat.le_of_ble_eq_true rfl⟩) hP hD hS hA [0, 1] [2, 3, 4, 5, 6, 7, 8, 9, 10, 11, 12, 13, 14] rfl rfl (by decide) (by decide) (fun rz u H locs hw hP hD hS => ?_)
    have hP : va_P D vwCl [((v 2), .inl (cI, 4, .inl (fun _ => 0))), ((v 3), .inl (cJ, 240, .inr (.inl (fun _ => 0)))), ((v 5), .inl (cB, 1200, .inl (fun _ => 0))), ((v 25), .inl (cZ, 3, .inl (fun _ => 0))), ((v 16), .inl (cI, 5, .inl (fun _ => 0))), ((v 17), .inl (cI, 55, .inl (fun _ => 0))), ((v 18), .inl (cI, 120, .inl (fun _ => 0))), ((v 19), .inl (cI, 30, .inl (fun _ => 0))), ((v 20), .inl (cI, 160, .inl (fun _ => 0))), ((v 21), .inl (cZ, 1000, .inl (fun _ => 0))), ((v 22), .inl (cI, 120, .inl (fun _ => 0))), ((v 23), .inl (cI, 50, .inl (fun _ => 0))), ((v 24), .inl (cI, 800, .inl (fun _ => 0)))] H := hP
    have hD : va_D A [((v 2), .inl (cI, 4, .inl (fun _ => 0))), ((v 3), .inl (cJ, 240, .inr (.inl (fun _ => 0)))), ((v 5), .inl (cB, 1200, .inl (fun _ => 0))), ((v 25), .inl (cZ, 3, .inl (fun _ => 0))), ((v 16), .inl (cI, 5, .inl (fun _ => 0))), ((v 17), .inl (cI, 55, .inl (fun _ => 0))), ((v 18), .inl (cI, 120, .inl (fun _ => 0))), ((v 19), .inl (cI, 30, .inl (fun _ => 0))), ((v 20), .inl (cI, 160, .inl (fun _ => 0))), ((v 21), .inl (cZ, 1000, .inl (fun _ => 0))), ((v 22), .inl (cI, 120, .inl (fun _ => 0))), ((v 23), .inl (cI, 50, .inl (fun _ => 0))), ((v 24), .inl (cI, 800, .inl (fun _ => 0)))] := hD
    rcases hw with ⟨rfl, hq944⟩ | ⟨rfl, hq944⟩
    · refine lv_icmp_eq (tgt := 2167) hx hb dL_law_2162 (by decide) (fun _ => ?_) (fun hc => absurd hc (by decide))
      refine W.widen (k := 107) (n := 36842) (Nat.le_of_ble_eq_true rfl) (Nat.le_of_ble_eq_true rfl) ?_
      exact law_tail hx hb hml hr hlocks hX hbl hbA hA hAf hS (lv_sub hl [0, 1, 2, 3] rfl)
    · exfalso
      omega
  · refine lv_aload_n hx hb dL_law_2133 rfl (lv_at hl 1 rfl) ?_
    refine lv_aload_n hx hb dL_law_2134 rfl (lv_at hl 3 rfl) ?_
    refine lv_iload_n hx hb dL_law_2135 rfl (lv_at hl 0 rfl) ?_
    refine lv_iconst (v := 1) hx hb dL_law_2136 (by decide) ?_
    refine lv_iadd hx hb dL_law_2137 ?_
    refine lv_topi (fun z945 ez945 => ?_)
    obtain rfl : z945 = 1 := ez945.trans (by decide)
    refine va_sld hx hb hX hbl hbA hS (tq_in (a := 1) (by decide) (by omega)) dL_law_2138 ?_
    refine lv_aload_n hx hb dL_law_2139 rfl (lv_at hl 3 rfl) ?_
    refine lv_iload_n hx hb dL_law_2140 rfl (lv_at hl 0 rfl) ?_
    refine lv_iconst (v := 2) hx hb dL_law_2141 (by decide) ?_
    refine lv_iadd hx hb dL_law_2142 ?_
    refine lv_topi (fun z946 ez946 => ?_)
    obtain rfl : z946 = 2 := ez946.trans (by decide)
    refine va_sld hx hb hX hbl hbA hS (tq_in (a := 2) (by decide) (by omega)) dL_law_2143 ?_
    refine lv_aload_n hx hb dL_law_2144 rfl (lv_at hl 3 rfl) ?_
    refine lv_iload_n hx hb dL_law_2145 rfl (lv_at hl 0 rfl) ?_
    refine lv_iconst (v := 3) hx hb dL_law_2146 (by decide) ?_
    refine lv_iadd hx hb dL_law_2147 ?_
    refine lv_topi (fun z947 ez947 => ?_)
    obtain rfl : z947 = 3 := ez947.trans (by decide)
    refine va_sld hx hb hX hbl hbA hS (tq_in (a := 3) (by decide) (by omega)) dL_law_2148 ?_
    refine lv_aload_n hx hb dL_law_2149 rfl (lv_at hl 3 rfl) ?_
    refine lv_iload_n hx hb dL_law_2150 rfl (lv_at hl 0 rfl) ?_
    refine lv_iconst (v := 4) hx hb dL_law_2151 (by decide) ?_
    refine lv_iadd hx hb dL_law_2152 ?_
    refine lv_topi (fun z948 ez948 => ?_)
    obtain rfl : z948 = 4 := ez948.trans (by decide)
    refine va_sld hx hb hX hbl hbA hS (tq_in (a := 4) (by decide) (by omega)) dL_law_2153 ?_
    refine lv_aload_n hx hb dL_law_2154 rfl (lv_at hl 3 rfl) ?_
    refine lv_iload_n hx hb dL_law_2155 rfl (lv_at hl 0 rfl) ?_
    refine lv_iconst (v := 5) hx hb dL_law_2156 (by decide) ?_
    refine lv_iadd hx hb dL_law_2157 ?_
    refine lv_topi (fun z949 ez949 => ?_)
    obtain rfl : z949 = 5 := ez949.trans (by decide)
    refine va_sld hx hb hX hbl hbA hS (tq_in (a := 5) (by decide) (by omega)) dL_law_2158 ?_
    refine ct_calli (D := D) (wc := (w_c_X12_paste cI cJ cB cZ cO h1 v)) (wr := [((v 2), .inl (cI, 4, .inl (fun _ => 0))), ((v 3), .inl (cJ, 240, .inr (.inl (fun _ => 0)))), ((v 5), .inl (cB, 1200, .inl (fun _ => 0))), ((v 25), .inl (cZ, 3, .inl (fun _ => 0))), ((v 16), .inl (cI, 5, .inl (fun _ => 0))), ((v 17), .inl (cI, 55, .inl (fun _ => 0))), ((v 18), .inl (cI, 120, .inl (fun _ => 0))), ((v 19), .inl (cI, 30, .inl (fun _ => 0))), ((v 20), .inl (cI, 160, .inl (fun _ => 0))), ((v 21), .inl (cZ, 1000, .inl (fun _ => 0))), ((v 22), .inl (cI, 120, .inl (fun _ => 0))), ((v 23), .inl (cI, 50, .inl (fun _ => 0))), ((v 24), .inl (cI, 800, .inl (fun _ => 0)))]) (va_runV (As := [.int (xs (1 : Int32).toNatClampNeg), .int (xs (2 : Int32).toNatClampNeg), .int (xs (3 : Int32).toNatClampNeg), .int (xs (4 : Int32).toNatClampNeg), .int (xs (5 : Int32).toNatClampNeg)]) (rest := [.int (-2)]) ⟨hx, hb, hml, hown, hts⟩ (c_X12_paste l D cI cJ cB cZ cO h1 v ((xs (1 : Int32).toNatClampNeg)) ((xs (2 : Int32).toNatClampNeg)) ((xs (3 : Int32).toNatClampNeg)) ((xs (4 : Int32).toNatClampNeg)) ((xs (5 : Int32).toNatClampNeg)) H.size) (cwV 5 hts gL_law_X12_paste rfl rfl rfl (by decide +kernel) ⟨Nat.le_of_ble_eq_true rfl, Nat.le_of_ble_eq_true rfl⟩) (ct_preV (T := ct_T cI cJ cB cZ cO) (ci := 12) (q0 := 0) hE hP hD [0, 1] (by decide) rfl rfl rfl) rfl rfl hl.1 rfl (lv_room (Nat.le_of_ble_eq_true rfl)) dL_law_2159 ⟨Nat.le_of_ble_eq_true rfl, Nat.le_of_ble_eq_true rfl⟩) hP hD hS hA [0, 1] [2, 3, 4, 5, 6, 7, 8, 9, 10, 11, 12, 13, 14] rfl rfl (by decide) (by decide) (fun rz u H locs hw hP hD hS => ?_)
    have hP : va_P D vwCl [((v 2), .inl (cI, 4, .inl (fun _ => 0))), ((v 3), .inl (cJ, 240, .inr (.inl (fun _ => 0)))), ((v 5), .inl (cB, 1200, .inl (fun _ => 0))), ((v 25), .inl (cZ, 3, .inl (fun _ => 0))), ((v 16), .inl (cI, 5, .inl (fun _ => 0))), ((v 17), .inl (cI, 55, .inl (fun _ => 0))), ((v 18), .inl (cI, 120, .inl (fun _ => 0))), ((v 19), .inl (cI, 30, .inl (fun _ => 0))), ((v 20), .inl (cI, 160, .inl (fun _ => 0))), ((v 21), .inl (cZ, 1000, .inl (fun _ => 0))), ((v 22), .inl (cI, 120, .inl (fun _ => 0))), ((v 23), .inl (cI, 50, .inl (fun _ => 0))), ((v 24), .inl (cI, 800, .inl (fun _ => 0)))] H := hP
    have hD : va_D A [((v 2), .inl (cI, 4, .inl (fun _ => 0))), ((v 3), .inl (cJ, 240, .inr (.inl (fun _ => 0)))), ((v 5), .inl (cB, 1200, .inl (fun _ => 0))), ((v 25), .inl (cZ, 3, .inl (fun _ => 0))), ((v 16), .inl (cI, 5, .inl (fun _ => 0))), ((v 17), .inl (cI, 55, .inl (fun _ => 0))), ((v 18), .inl (cI, 120, .inl (fun _ => 0))), ((v 19), .inl (cI, 30, .inl (fun _ => 0))), ((v 20), .inl (cI, 160, .inl (fun _ => 0))), ((v 21), .inl (cZ, 1000, .inl (fun _ => 0))), ((v 22), .inl (cI, 120, .inl (fun _ => 0))), ((v 23), .inl (cI, 50, .inl (fun _ => 0))), ((v 24), .inl (cI, 800, .inl (fun _ => 0)))] := hD
    rcases hw with ⟨rfl, hq950⟩ | ⟨rfl, hq950⟩
    · exfalso
      omega
    · refine lv_icmp_eq (tgt := 2167) hx hb dL_law_2162 (by decide) (fun _ => ?_) (fun hc => absurd hc (by decide))
      refine W.widen (k := 107) (n := 36842) (Nat.le_of_ble_eq_true rfl) (Nat.le_of_ble_eq_true rfl) ?_
      exact law_tail hx hb hml hr hlocks hX hbl hbA hA hAf hS (lv_sub hl [0, 1, 2, 3] rfl)
