set_option maxHeartbeats 8000000 in
set_option maxRecDepth 100000 in
theorem law_c48 {p : Program} {l : Launch} {e : Env} {s : State} {m : MethodId} {below : List Frame} {meth : Method} {c : Code} {A : Nat → Prop} {b L : Nat} {xs : Nat → Int32} (hx : p.tables.exec = Jvm.exec) (hb : c.code = code) (hml : c.maxLocals = 4) (hr : meth.sig.returnType = ret) (hlocks : meth.locks = false) (hX : va_X b L xs s s.heap) (hbl : b < s.heap.size) (hbA : ¬ A b) (hA : ∀ q : Nat, s.heap.size ≤ q → A q) (hAf : ∀ q : Nat, A q → s.heap.size ≤ q) (D : va_G) (G : ct_G) (cI cJ cB cZ cO : ClassId) (g : Gh) (h0 h1 : Nat) (hown : s.vm.findClass RL = some m.cls) (hts : ∀ w ∈ wsL_law, w.before #[Value.ref b] s = true) (hE : ct_E D (ct_T cI cJ cB cZ cO) G s) (hH : ct_H G A s s.heap) (hL : L ≤ 3072) (i : Nat) (hi : i + 6 ≤ L) (wx wm : va_W) (hX0 : XOK cI cJ cB cZ cO g h0 wx) (hM0 : MOK cI cJ cB cZ cO g h1 wm) {H : Heap} {locs : List Loc} (hP : va_P D vwCl (wx ++ wm) H) (hD : va_D A (wx ++ wm)) (hS : va_S A s.heap H locs) {ls : Array Slot} (hl : lv_has ls 4 [(3, .int (nI i)), (2, .ref h1), (1, .ref h0), (0, .ref b)]) (kk : ∀ (g : Gh) (wx wm : va_W) (H : Heap) (locs : List Loc) (ls : Array Slot), XOK cI cJ cB cZ cO g h0 wx → MOK cI cJ cB cZ cO g h1 wm → va_P D vwCl (wx ++ wm) H → va_D A (wx ++ wm) → va_S A s.heap H locs → lv_has ls 4 [(3, .int (nI i)), (2, .ref h1), (1, .ref h0), (0, .ref b)] → W p l e room_1 s m #[Value.ref b] below meth c H locs 107 36842 (lw_Z below #[Value.ref b] s) (F0 m 2162 ls [])) : W p l e room_1 s m #[Value.ref b] below meth c H locs 107 36842 (lw_Z below #[Value.ref b] s) (F0 m 1610 ls []) := by
  have hK := hE.1
  have hni : (nI i).toInt = (i : Int) := nI_toInt (by omega)
  refine lv_aload_n hx hb dL_law_1610 rfl (lv_at hl 2 rfl) ?_
  refine lv_aload_n hx hb dL_law_1611 rfl (lv_at hl 3 rfl) ?_
  refine lv_iload_n hx hb dL_law_1612 rfl (lv_at hl 0 rfl) ?_
  refine lv_iconst (v := 1) hx hb dL_law_1613 (by decide) ?_
  refine lv_iadd hx hb dL_law_1614 ?_
  refine lv_topi (fun z1 ez1 => ?_)
  have fz1 : z1.toInt = (nI i).toInt + 1 := by rw [ez1]; exact tq_add rfl (by decide) (by omega)
  refine va_sld hx hb hX hbl hbA hS (tq_in rfl (by omega)) dL_law_1615 ?_
  refine lv_topi (fun z2 ez2 => ?_)
  refine lv_aload_n hx hb dL_law_1616 rfl (lv_at hl 3 rfl) ?_
  refine lv_iload_n hx hb dL_law_1617 rfl (lv_at hl 0 rfl) ?_
  refine lv_iconst (v := 2) hx hb dL_law_1618 (by decide) ?_
  refine lv_iadd hx hb dL_law_1619 ?_
  refine lv_topi (fun z3 ez3 => ?_)
  have fz3 : z3.toInt = (nI i).toInt + 2 := by rw [ez3]; exact tq_add rfl (by decide) (by omega)
  refine va_sld hx hb hX hbl hbA hS (tq_in rfl (by omega)) dL_law_1620 ?_
  refine lv_topi (fun z4 ez4 => ?_)
  refine ct_callAl (D := D) (wx := wx) (wm := wm) (va_runV (As := [.int z2, .int z4]) (rest := []) ⟨hx, hb, hml, hown, hts⟩ (k_X11_dry l D G cI cJ cB cZ cO g h0 wx hX0 z2 z4 H.size) (cwV 2 hts gL_law_X11_dry rfl rfl rfl (by decide +kernel) ⟨Nat.le_of_ble_eq_true rfl, Nat.le_of_ble_eq_true rfl⟩) (ct_preA (T := ct_T cI cJ cB cZ cO) (ci := 11) hE hH hP hD hS hA (XOK_at hX0) rfl) rfl rfl hl.1 rfl (lv_room (Nat.le_of_ble_eq_true rfl)) dL_law_1621 ⟨Nat.le_of_ble_eq_true rfl, Nat.le_of_ble_eq_true rfl⟩) hP hD hS hA (fun r5 w6 H locs hw hP hD hS => ?_)
  obtain ⟨hk7, hz8⟩ := hw
  refine lv_pop2_2 hx hb dL_law_1624 rfl ?_
  refine lv_aload_n hx hb dL_law_1625 rfl (lv_at hl 1 rfl) ?_
  refine lv_aload_n hx hb dL_law_1626 rfl (lv_at hl 3 rfl) ?_
  refine lv_iload_n hx hb dL_law_1627 rfl (lv_at hl 0 rfl) ?_
  refine lv_iconst (v := 1) hx hb dL_law_1628 (by decide) ?_
  refine lv_iadd hx hb dL_law_1629 ?_
  refine lv_topi (fun z9 ez9 => ?_)
  have fz9 : z9.toInt = (nI i).toInt + 1 := by rw [ez9]; exact tq_add rfl (by decide) (by omega)
  refine va_sld hx hb hX hbl hbA hS (tq_in rfl (by omega)) dL_law_1630 ?_
  refine lv_topi (fun z10 ez10 => ?_)
  refine lv_aload_n hx hb dL_law_1631 rfl (lv_at hl 3 rfl) ?_
  refine lv_iload_n hx hb dL_law_1632 rfl (lv_at hl 0 rfl) ?_
  refine lv_iconst (v := 2) hx hb dL_law_1633 (by decide) ?_
  refine lv_iadd hx hb dL_law_1634 ?_
  refine lv_topi (fun z11 ez11 => ?_)
  have fz11 : z11.toInt = (nI i).toInt + 2 := by rw [ez11]; exact tq_add rfl (by decide) (by omega)
  refine va_sld hx hb hX hbl hbA hS (tq_in rfl (by omega)) dL_law_1635 ?_
  refine lv_topi (fun z12 ez12 => ?_)
  refine ct_callAl (D := D) (wx := wm) (wm := w6) (va_runV (As := [.int z10, .int z12]) (rest := []) ⟨hx, hb, hml, hown, hts⟩ (k_X12_dry l D G cI cJ cB cZ cO g h1 wm hM0 z10 z12 H.size) (cwV 2 hts gL_law_X12_dry rfl rfl rfl (by decide +kernel) ⟨Nat.le_of_ble_eq_true rfl, Nat.le_of_ble_eq_true rfl⟩) (ct_preA (T := ct_T cI cJ cB cZ cO) (ci := 12) hE hH hP hD hS hA (MOK_at hM0) rfl) rfl rfl hl.1 rfl (lv_room (Nat.le_of_ble_eq_true rfl)) dL_law_1636 ⟨Nat.le_of_ble_eq_true rfl, Nat.le_of_ble_eq_true rfl⟩) hP hD hS hA (fun r13 w14 H locs hw hP hD hS => ?_)
  obtain ⟨hk15, hz16⟩ := hw
  refine lv_pop2_2 hx hb dL_law_1639 rfl ?_
  refine lv_goto (tgt := 2162) hx hb dL_law_1640 (by decide) ?_
  exact kk _ w6 w14 H locs ls hk7 hk15 hP hD hS (lv_sub hl [0, 1, 2, 3] rfl)
set_option maxHeartbeats 8000000 in
set_option maxRecDepth 100000 in
theorem law_c49 {p : Program} {l : Launch} {e : Env} {s : State} {m : MethodId} {below : List Frame} {meth : Method} {c : Code} {A : Nat → Prop} {b L : Nat} {xs : Nat → Int32} (hx : p.tables.exec = Jvm.exec) (hb : c.code = code) (hml : c.maxLocals = 4) (hr : meth.sig.returnType = ret) (hlocks : meth.locks = false) (hX : va_X b L xs s s.heap) (hbl : b < s.heap.size) (hbA : ¬ A b) (hA : ∀ q : Nat, s.heap.size ≤ q → A q) (hAf : ∀ q : Nat, A q → s.heap.size ≤ q) (D : va_G) (G : ct_G) (cI cJ cB cZ cO : ClassId) (g : Gh) (h0 h1 : Nat) (hown : s.vm.findClass RL = some m.cls) (hts : ∀ w ∈ wsL_law, w.before #[Value.ref b] s = true) (hE : ct_E D (ct_T cI cJ cB cZ cO) G s) (hH : ct_H G A s s.heap) (hL : L ≤ 3072) (i : Nat) (hi : i + 6 ≤ L) (wx wm : va_W) (hX0 : XOK cI cJ cB cZ cO g h0 wx) (hM0 : MOK cI cJ cB cZ cO g h1 wm) {H : Heap} {locs : List Loc} (hP : va_P D vwCl (wx ++ wm) H) (hD : va_D A (wx ++ wm)) (hS : va_S A s.heap H locs) {ls : Array Slot} (hl : lv_has ls 4 [(3, .int (nI i)), (2, .ref h1), (1, .ref h0), (0, .ref b)]) (kk : ∀ (g : Gh) (wx wm : va_W) (H : Heap) (locs : List Loc) (ls : Array Slot), XOK cI cJ cB cZ cO g h0 wx → MOK cI cJ cB cZ cO g h1 wm → va_P D vwCl (wx ++ wm) H → va_D A (wx ++ wm) → va_S A s.heap H locs → lv_has ls 4 [(3, .int (nI i)), (2, .ref h1), (1, .ref h0), (0, .ref b)] → W p l e room_1 s m #[Value.ref b] below meth c H locs 107 36842 (lw_Z below #[Value.ref b] s) (F0 m 2162 ls [])) : W p l e room_1 s m #[Value.ref b] below meth c H locs 107 36842 (lw_Z below #[Value.ref b] s) (F0 m 1643 ls []) := by
  have hK := hE.1
  have hni : (nI i).toInt = (i : Int) := nI_toInt (by omega)
  refine lv_aload_n hx hb dL_law_1643 rfl (lv_at hl 2 rfl) ?_
  refine lv_aload_n hx hb dL_law_1644 rfl (lv_at hl 3 rfl) ?_
  refine lv_iload_n hx hb dL_law_1645 rfl (lv_at hl 0 rfl) ?_
  refine lv_iconst (v := 1) hx hb dL_law_1646 (by decide) ?_
  refine lv_iadd hx hb dL_law_1647 ?_
  refine lv_topi (fun z1 ez1 => ?_)
  have fz1 : z1.toInt = (nI i).toInt + 1 := by rw [ez1]; exact tq_add rfl (by decide) (by omega)
  refine va_sld hx hb hX hbl hbA hS (tq_in rfl (by omega)) dL_law_1648 ?_
  refine lv_topi (fun z2 ez2 => ?_)
  refine lv_aload_n hx hb dL_law_1649 rfl (lv_at hl 3 rfl) ?_
  refine lv_iload_n hx hb dL_law_1650 rfl (lv_at hl 0 rfl) ?_
  refine lv_iconst (v := 2) hx hb dL_law_1651 (by decide) ?_
  refine lv_iadd hx hb dL_law_1652 ?_
  refine lv_topi (fun z3 ez3 => ?_)
  have fz3 : z3.toInt = (nI i).toInt + 2 := by rw [ez3]; exact tq_add rfl (by decide) (by omega)
  refine va_sld hx hb hX hbl hbA hS (tq_in rfl (by omega)) dL_law_1653 ?_
  refine lv_topi (fun z4 ez4 => ?_)
  refine lv_aload_n hx hb dL_law_1654 rfl (lv_at hl 3 rfl) ?_
  refine lv_iload_n hx hb dL_law_1655 rfl (lv_at hl 0 rfl) ?_
  refine lv_iconst (v := 3) hx hb dL_law_1656 (by decide) ?_
  refine lv_iadd hx hb dL_law_1657 ?_
  refine lv_topi (fun z5 ez5 => ?_)
  have fz5 : z5.toInt = (nI i).toInt + 3 := by rw [ez5]; exact tq_add rfl (by decide) (by omega)
  refine va_sld hx hb hX hbl hbA hS (tq_in rfl (by omega)) dL_law_1658 ?_
  refine lv_topi (fun z6 ez6 => ?_)
  refine ct_callAl (D := D) (wx := wx) (wm := wm) (va_runV (As := [.int z2, .int z4, .int z6]) (rest := []) ⟨hx, hb, hml, hown, hts⟩ (k_X11_wet l D G cI cJ cB cZ cO g h0 wx hX0 z2 z4 z6 H.size) (cwV 3 hts gL_law_X11_wet rfl rfl rfl (by decide +kernel) ⟨Nat.le_of_ble_eq_true rfl, Nat.le_of_ble_eq_true rfl⟩) (ct_preA (T := ct_T cI cJ cB cZ cO) (ci := 11) hE hH hP hD hS hA (XOK_at hX0) rfl) rfl rfl hl.1 rfl (lv_room (Nat.le_of_ble_eq_true rfl)) dL_law_1659 ⟨Nat.le_of_ble_eq_true rfl, Nat.le_of_ble_eq_true rfl⟩) hP hD hS hA (fun r7 w8 H locs hw hP hD hS => ?_)
  obtain ⟨hk9, hz10⟩ := hw
  refine lv_pop2_2 hx hb dL_law_1662 rfl ?_
  refine lv_aload_n hx hb dL_law_1663 rfl (lv_at hl 1 rfl) ?_
  refine lv_aload_n hx hb dL_law_1664 rfl (lv_at hl 3 rfl) ?_
  refine lv_iload_n hx hb dL_law_1665 rfl (lv_at hl 0 rfl) ?_
  refine lv_iconst (v := 1) hx hb dL_law_1666 (by decide) ?_
  refine lv_iadd hx hb dL_law_1667 ?_
  refine lv_topi (fun z11 ez11 => ?_)
  have fz11 : z11.toInt = (nI i).toInt + 1 := by rw [ez11]; exact tq_add rfl (by decide) (by omega)
  refine va_sld hx hb hX hbl hbA hS (tq_in rfl (by omega)) dL_law_1668 ?_
  refine lv_topi (fun z12 ez12 => ?_)
  refine lv_aload_n hx hb dL_law_1669 rfl (lv_at hl 3 rfl) ?_
  refine lv_iload_n hx hb dL_law_1670 rfl (lv_at hl 0 rfl) ?_
  refine lv_iconst (v := 2) hx hb dL_law_1671 (by decide) ?_
  refine lv_iadd hx hb dL_law_1672 ?_
  refine lv_topi (fun z13 ez13 => ?_)
  have fz13 : z13.toInt = (nI i).toInt + 2 := by rw [ez13]; exact tq_add rfl (by decide) (by omega)
  refine va_sld hx hb hX hbl hbA hS (tq_in rfl (by omega)) dL_law_1673 ?_
  refine lv_topi (fun z14 ez14 => ?_)
  refine lv_aload_n hx hb dL_law_1674 rfl (lv_at hl 3 rfl) ?_
  refine lv_iload_n hx hb dL_law_1675 rfl (lv_at hl 0 rfl) ?_
  refine lv_iconst (v := 3) hx hb dL_law_1676 (by decide) ?_
  refine lv_iadd hx hb dL_law_1677 ?_
  refine lv_topi (fun z15 ez15 => ?_)
  have fz15 : z15.toInt = (nI i).toInt + 3 := by rw [ez15]; exact tq_add rfl (by decide) (by omega)
  refine va_sld hx hb hX hbl hbA hS (tq_in rfl (by omega)) dL_law_1678 ?_
  refine lv_topi (fun z16 ez16 => ?_)
  refine ct_callAl (D := D) (wx := wm) (wm := w8) (va_runV (As := [.int z12, .int z14, .int z16]) (rest := []) ⟨hx, hb, hml, hown, hts⟩ (k_X12_wet l D G cI cJ cB cZ cO g h1 wm hM0 z12 z14 z16 H.size) (cwV 3 hts gL_law_X12_wet rfl rfl rfl (by decide +kernel) ⟨Nat.le_of_ble_eq_true rfl, Nat.le_of_ble_eq_true rfl⟩) (ct_preA (T := ct_T cI cJ cB cZ cO) (ci := 12) hE hH hP hD hS hA (MOK_at hM0) rfl) rfl rfl hl.1 rfl (lv_room (Nat.le_of_ble_eq_true rfl)) dL_law_1679 ⟨Nat.le_of_ble_eq_true rfl, Nat.le_of_ble_eq_true rfl⟩) hP hD hS hA (fun r17 w18 H locs hw hP hD hS => ?_)
  obtain ⟨hk19, hz20⟩ := hw
  refine lv_pop2_2 hx hb dL_law_1682 rfl ?_
  refine lv_goto (tgt := 2162) hx hb dL_law_1683 (by decide) ?_
  exact kk _ w8 w18 H locs ls hk9 hk19 hP hD hS (lv_sub hl [0, 1, 2, 3] rfl)
set_option maxHeartbeats 8000000 in
set_option maxRecDepth 100000 in
theorem law_c50 {p : Program} {l : Launch} {e : Env} {s : State} {m : MethodId} {below : List Frame} {meth : Method} {c : Code} {A : Nat → Prop} {b L : Nat} {xs : Nat → Int32} (hx : p.tables.exec = Jvm.exec) (hb : c.code = code) (hml : c.maxLocals = 4) (hr : meth.sig.returnType = ret) (hlocks : meth.locks = false) (hX : va_X b L xs s s.heap) (hbl : b < s.heap.size) (hbA : ¬ A b) (hA : ∀ q : Nat, s.heap.size ≤ q → A q) (hAf : ∀ q : Nat, A q → s.heap.size ≤ q) (D : va_G) (G : ct_G) (cI cJ cB cZ cO : ClassId) (g : Gh) (h0 h1 : Nat) (hown : s.vm.findClass RL = some m.cls) (hts : ∀ w ∈ wsL_law, w.before #[Value.ref b] s = true) (hE : ct_E D (ct_T cI cJ cB cZ cO) G s) (hH : ct_H G A s s.heap) (hL : L ≤ 3072) (i : Nat) (hi : i + 6 ≤ L) (wx wm : va_W) (hX0 : XOK cI cJ cB cZ cO g h0 wx) (hM0 : MOK cI cJ cB cZ cO g h1 wm) {H : Heap} {locs : List Loc} (hP : va_P D vwCl (wx ++ wm) H) (hD : va_D A (wx ++ wm)) (hS : va_S A s.heap H locs) {ls : Array Slot} (hl : lv_has ls 4 [(3, .int (nI i)), (2, .ref h1), (1, .ref h0), (0, .ref b)]) (kk : ∀ (g : Gh) (wx wm : va_W) (H : Heap) (locs : List Loc) (ls : Array Slot), XOK cI cJ cB cZ cO g h0 wx → MOK cI cJ cB cZ cO g h1 wm → va_P D vwCl (wx ++ wm) H → va_D A (wx ++ wm) → va_S A s.heap H locs → lv_has ls 4 [(3, .int (nI i)), (2, .ref h1), (1, .ref h0), (0, .ref b)] → W p l e room_1 s m #[Value.ref b] below meth c H locs 107 36842 (lw_Z below #[Value.ref b] s) (F0 m 2162 ls [])) : W p l e room_1 s m #[Value.ref b] below meth c H locs 107 36842 (lw_Z below #[Value.ref b] s) (F0 m 1686 ls []) := by
  have hK := hE.1
  have hni : (nI i).toInt = (i : Int) := nI_toInt (by omega)
  refine lv_aload_n hx hb dL_law_1686 rfl (lv_at hl 2 rfl) ?_
  refine lv_aload_n hx hb dL_law_1687 rfl (lv_at hl 3 rfl) ?_
  refine lv_iload_n hx hb dL_law_1688 rfl (lv_at hl 0 rfl) ?_
  refine lv_iconst (v := 1) hx hb dL_law_1689 (by decide) ?_
  refine lv_iadd hx hb dL_law_1690 ?_
  refine lv_topi (fun z1 ez1 => ?_)
  have fz1 : z1.toInt = (nI i).toInt + 1 := by rw [ez1]; exact tq_add rfl (by decide) (by omega)
  refine va_sld hx hb hX hbl hbA hS (tq_in rfl (by omega)) dL_law_1691 ?_
  refine lv_topi (fun z2 ez2 => ?_)
  refine lv_aload_n hx hb dL_law_1692 rfl (lv_at hl 3 rfl) ?_
  refine lv_iload_n hx hb dL_law_1693 rfl (lv_at hl 0 rfl) ?_
  refine lv_iconst (v := 2) hx hb dL_law_1694 (by decide) ?_
  refine lv_iadd hx hb dL_law_1695 ?_
  refine lv_topi (fun z3 ez3 => ?_)
  have fz3 : z3.toInt = (nI i).toInt + 2 := by rw [ez3]; exact tq_add rfl (by decide) (by omega)
  refine va_sld hx hb hX hbl hbA hS (tq_in rfl (by omega)) dL_law_1696 ?_
  refine lv_topi (fun z4 ez4 => ?_)
  refine lv_aload_n hx hb dL_law_1697 rfl (lv_at hl 3 rfl) ?_
  refine lv_iload_n hx hb dL_law_1698 rfl (lv_at hl 0 rfl) ?_
  refine lv_iconst (v := 3) hx hb dL_law_1699 (by decide) ?_
  refine lv_iadd hx hb dL_law_1700 ?_
  refine lv_topi (fun z5 ez5 => ?_)
  have fz5 : z5.toInt = (nI i).toInt + 3 := by rw [ez5]; exact tq_add rfl (by decide) (by omega)
  refine va_sld hx hb hX hbl hbA hS (tq_in rfl (by omega)) dL_law_1701 ?_
  refine lv_topi (fun z6 ez6 => ?_)
  refine ct_callAi (D := D) (wx := wx) (wm := wm) (va_runV (As := [.int z2, .int z4, .int z6]) (rest := []) ⟨hx, hb, hml, hown, hts⟩ (k_X11_drawn l D G cI cJ cB cZ cO g h0 wx hX0 z2 z4 z6 H.size) (cwV 3 hts gL_law_X11_drawn rfl rfl rfl (by decide +kernel) ⟨Nat.le_of_ble_eq_true rfl, Nat.le_of_ble_eq_true rfl⟩) (ct_preA (T := ct_T cI cJ cB cZ cO) (ci := 11) hE hH hP hD hS hA (XOK_at hX0) rfl) rfl rfl hl.1 rfl (lv_room (Nat.le_of_ble_eq_true rfl)) dL_law_1702 ⟨Nat.le_of_ble_eq_true rfl, Nat.le_of_ble_eq_true rfl⟩) hP hD hS hA (fun r7 w8 H locs hw hP hD hS => ?_)
  obtain ⟨hk9, hz10⟩ := hw
  refine lv_pop hx hb dL_law_1705 rfl ?_
  refine lv_aload_n hx hb dL_law_1706 rfl (lv_at hl 1 rfl) ?_
  refine lv_aload_n hx hb dL_law_1707 rfl (lv_at hl 3 rfl) ?_
  refine lv_iload_n hx hb dL_law_1708 rfl (lv_at hl 0 rfl) ?_
  refine lv_iconst (v := 1) hx hb dL_law_1709 (by decide) ?_
  refine lv_iadd hx hb dL_law_1710 ?_
  refine lv_topi (fun z11 ez11 => ?_)
  have fz11 : z11.toInt = (nI i).toInt + 1 := by rw [ez11]; exact tq_add rfl (by decide) (by omega)
  refine va_sld hx hb hX hbl hbA hS (tq_in rfl (by omega)) dL_law_1711 ?_
  refine lv_topi (fun z12 ez12 => ?_)
  refine lv_aload_n hx hb dL_law_1712 rfl (lv_at hl 3 rfl) ?_
  refine lv_iload_n hx hb dL_law_1713 rfl (lv_at hl 0 rfl) ?_
  refine lv_iconst (v := 2) hx hb dL_law_1714 (by decide) ?_
  refine lv_iadd hx hb dL_law_1715 ?_
  refine lv_topi (fun z13 ez13 => ?_)
  have fz13 : z13.toInt = (nI i).toInt + 2 := by rw [ez13]; exact tq_add rfl (by decide) (by omega)
  refine va_sld hx hb hX hbl hbA hS (tq_in rfl (by omega)) dL_law_1716 ?_
  refine lv_topi (fun z14 ez14 => ?_)
  refine lv_aload_n hx hb dL_law_1717 rfl (lv_at hl 3 rfl) ?_
  refine lv_iload_n hx hb dL_law_1718 rfl (lv_at hl 0 rfl) ?_
  refine lv_iconst (v := 3) hx hb dL_law_1719 (by decide) ?_
  refine lv_iadd hx hb dL_law_1720 ?_
  refine lv_topi (fun z15 ez15 => ?_)
  have fz15 : z15.toInt = (nI i).toInt + 3 := by rw [ez15]; exact tq_add rfl (by decide) (by omega)
  refine va_sld hx hb hX hbl hbA hS (tq_in rfl (by omega)) dL_law_1721 ?_
  refine lv_topi (fun z16 ez16 => ?_)
  refine ct_callAi (D := D) (wx := wm) (wm := w8) (va_runV (As := [.int z12, .int z14, .int z16]) (rest := []) ⟨hx, hb, hml, hown, hts⟩ (k_X12_drawn l D G cI cJ cB cZ cO g h1 wm hM0 z12 z14 z16 H.size) (cwV 3 hts gL_law_X12_drawn rfl rfl rfl (by decide +kernel) ⟨Nat.le_of_ble_eq_true rfl, Nat.le_of_ble_eq_true rfl⟩) (ct_preA (T := ct_T cI cJ cB cZ cO) (ci := 12) hE hH hP hD hS hA (MOK_at hM0) rfl) rfl rfl hl.1 rfl (lv_room (Nat.le_of_ble_eq_true rfl)) dL_law_1722 ⟨Nat.le_of_ble_eq_true rfl, Nat.le_of_ble_eq_true rfl⟩) hP hD hS hA (fun r17 w18 H locs hw hP hD hS => ?_)
  obtain ⟨hk19, hz20⟩ := hw
  refine lv_pop hx hb dL_law_1725 rfl ?_
  refine lv_goto (tgt := 2162) hx hb dL_law_1726 (by decide) ?_
  exact kk _ w8 w18 H locs ls hk9 hk19 hP hD hS (lv_sub hl [0, 1, 2, 3] rfl)
set_option maxHeartbeats 8000000 in
set_option maxRecDepth 100000 in
theorem law_c51 {p : Program} {l : Launch} {e : Env} {s : State} {m : MethodId} {below : List Frame} {meth : Method} {c : Code} {A : Nat → Prop} {b L : Nat} {xs : Nat → Int32} (hx : p.tables.exec = Jvm.exec) (hb : c.code = code) (hml : c.maxLocals = 4) (hr : meth.sig.returnType = ret) (hlocks : meth.locks = false) (hX : va_X b L xs s s.heap) (hbl : b < s.heap.size) (hbA : ¬ A b) (hA : ∀ q : Nat, s.heap.size ≤ q → A q) (hAf : ∀ q : Nat, A q → s.heap.size ≤ q) (D : va_G) (G : ct_G) (cI cJ cB cZ cO : ClassId) (g : Gh) (h0 h1 : Nat) (hown : s.vm.findClass RL = some m.cls) (hts : ∀ w ∈ wsL_law, w.before #[Value.ref b] s = true) (hE : ct_E D (ct_T cI cJ cB cZ cO) G s) (hH : ct_H G A s s.heap) (hL : L ≤ 3072) (i : Nat) (hi : i + 6 ≤ L) (wx wm : va_W) (hX0 : XOK cI cJ cB cZ cO g h0 wx) (hM0 : MOK cI cJ cB cZ cO g h1 wm) {H : Heap} {locs : List Loc} (hP : va_P D vwCl (wx ++ wm) H) (hD : va_D A (wx ++ wm)) (hS : va_S A s.heap H locs) {ls : Array Slot} (hl : lv_has ls 4 [(3, .int (nI i)), (2, .ref h1), (1, .ref h0), (0, .ref b)]) (kk : ∀ (g : Gh) (wx wm : va_W) (H : Heap) (locs : List Loc) (ls : Array Slot), XOK cI cJ cB cZ cO g h0 wx → MOK cI cJ cB cZ cO g h1 wm → va_P D vwCl (wx ++ wm) H → va_D A (wx ++ wm) → va_S A s.heap H locs → lv_has ls 4 [(3, .int (nI i)), (2, .ref h1), (1, .ref h0), (0, .ref b)] → W p l e room_1 s m #[Value.ref b] below meth c H locs 107 36842 (lw_Z below #[Value.ref b] s) (F0 m 2162 ls [])) : W p l e room_1 s m #[Value.ref b] below meth c H locs 107 36842 (lw_Z below #[Value.ref b] s) (F0 m 1729 ls []) := by
  have hK := hE.1
  have hni : (nI i).toInt = (i : Int) := nI_toInt (by omega)
  refine lv_aload_n hx hb dL_law_1729 rfl (lv_at hl 2 rfl) ?_
  refine lv_aload_n hx hb dL_law_1730 rfl (lv_at hl 3 rfl) ?_
  refine lv_iload_n hx hb dL_law_1731 rfl (lv_at hl 0 rfl) ?_
  refine lv_iconst (v := 1) hx hb dL_law_1732 (by decide) ?_
  refine lv_iadd hx hb dL_law_1733 ?_
  refine lv_topi (fun z1 ez1 => ?_)
  have fz1 : z1.toInt = (nI i).toInt + 1 := by rw [ez1]; exact tq_add rfl (by decide) (by omega)
  refine va_sld hx hb hX hbl hbA hS (tq_in rfl (by omega)) dL_law_1734 ?_
  refine lv_topi (fun z2 ez2 => ?_)
  refine lv_aload_n hx hb dL_law_1735 rfl (lv_at hl 3 rfl) ?_
  refine lv_iload_n hx hb dL_law_1736 rfl (lv_at hl 0 rfl) ?_
  refine lv_iconst (v := 2) hx hb dL_law_1737 (by decide) ?_
  refine lv_iadd hx hb dL_law_1738 ?_
  refine lv_topi (fun z3 ez3 => ?_)
  have fz3 : z3.toInt = (nI i).toInt + 2 := by rw [ez3]; exact tq_add rfl (by decide) (by omega)
  refine va_sld hx hb hX hbl hbA hS (tq_in rfl (by omega)) dL_law_1739 ?_
  refine lv_topi (fun z4 ez4 => ?_)
  refine lv_aload_n hx hb dL_law_1740 rfl (lv_at hl 3 rfl) ?_
  refine lv_iload_n hx hb dL_law_1741 rfl (lv_at hl 0 rfl) ?_
  refine lv_iconst (v := 3) hx hb dL_law_1742 (by decide) ?_
  refine lv_iadd hx hb dL_law_1743 ?_
  refine lv_topi (fun z5 ez5 => ?_)
  have fz5 : z5.toInt = (nI i).toInt + 3 := by rw [ez5]; exact tq_add rfl (by decide) (by omega)
  refine va_sld hx hb hX hbl hbA hS (tq_in rfl (by omega)) dL_law_1744 ?_
  refine lv_topi (fun z6 ez6 => ?_)
  refine ct_callAi (D := D) (wx := wx) (wm := wm) (va_runV (As := [.int z2, .int z4, .int z6]) (rest := []) ⟨hx, hb, hml, hown, hts⟩ (k_X11_nights l D G cI cJ cB cZ cO g h0 wx hX0 z2 z4 z6 H.size) (cwV 3 hts gL_law_X11_nights rfl rfl rfl (by decide +kernel) ⟨Nat.le_of_ble_eq_true rfl, Nat.le_of_ble_eq_true rfl⟩) (ct_preA (T := ct_T cI cJ cB cZ cO) (ci := 11) hE hH hP hD hS hA (XOK_at hX0) rfl) rfl rfl hl.1 rfl (lv_room (Nat.le_of_ble_eq_true rfl)) dL_law_1745 ⟨Nat.le_of_ble_eq_true rfl, Nat.le_of_ble_eq_true rfl⟩) hP hD hS hA (fun r7 w8 H locs hw hP hD hS => ?_)
  obtain ⟨hk9, hz10⟩ := hw
  refine lv_pop hx hb dL_law_1748 rfl ?_
  refine lv_aload_n hx hb dL_law_1749 rfl (lv_at hl 1 rfl) ?_
  refine lv_aload_n hx hb dL_law_1750 rfl (lv_at hl 3 rfl) ?_
  refine lv_iload_n hx hb dL_law_1751 rfl (lv_at hl 0 rfl) ?_
  refine lv_iconst (v := 1) hx hb dL_law_1752 (by decide) ?_
  refine lv_iadd hx hb dL_law_1753 ?_
  refine lv_topi (fun z11 ez11 => ?_)
  have fz11 : z11.toInt = (nI i).toInt + 1 := by rw [ez11]; exact tq_add rfl (by decide) (by omega)
  refine va_sld hx hb hX hbl hbA hS (tq_in rfl (by omega)) dL_law_1754 ?_
  refine lv_topi (fun z12 ez12 => ?_)
  refine lv_aload_n hx hb dL_law_1755 rfl (lv_at hl 3 rfl) ?_
  refine lv_iload_n hx hb dL_law_1756 rfl (lv_at hl 0 rfl) ?_
  refine lv_iconst (v := 2) hx hb dL_law_1757 (by decide) ?_
  refine lv_iadd hx hb dL_law_1758 ?_
  refine lv_topi (fun z13 ez13 => ?_)
  have fz13 : z13.toInt = (nI i).toInt + 2 := by rw [ez13]; exact tq_add rfl (by decide) (by omega)
  refine va_sld hx hb hX hbl hbA hS (tq_in rfl (by omega)) dL_law_1759 ?_
  refine lv_topi (fun z14 ez14 => ?_)
  refine lv_aload_n hx hb dL_law_1760 rfl (lv_at hl 3 rfl) ?_
  refine lv_iload_n hx hb dL_law_1761 rfl (lv_at hl 0 rfl) ?_
  refine lv_iconst (v := 3) hx hb dL_law_1762 (by decide) ?_
  refine lv_iadd hx hb dL_law_1763 ?_
  refine lv_topi (fun z15 ez15 => ?_)
  have fz15 : z15.toInt = (nI i).toInt + 3 := by rw [ez15]; exact tq_add rfl (by decide) (by omega)
  refine va_sld hx hb hX hbl hbA hS (tq_in rfl (by omega)) dL_law_1764 ?_
  refine lv_topi (fun z16 ez16 => ?_)
  refine ct_callAi (D := D) (wx := wm) (wm := w8) (va_runV (As := [.int z12, .int z14, .int z16]) (rest := []) ⟨hx, hb, hml, hown, hts⟩ (k_X12_nights l D G cI cJ cB cZ cO g h1 wm hM0 z12 z14 z16 H.size) (cwV 3 hts gL_law_X12_nights rfl rfl rfl (by decide +kernel) ⟨Nat.le_of_ble_eq_true rfl, Nat.le_of_ble_eq_true rfl⟩) (ct_preA (T := ct_T cI cJ cB cZ cO) (ci := 12) hE hH hP hD hS hA (MOK_at hM0) rfl) rfl rfl hl.1 rfl (lv_room (Nat.le_of_ble_eq_true rfl)) dL_law_1765 ⟨Nat.le_of_ble_eq_true rfl, Nat.le_of_ble_eq_true rfl⟩) hP hD hS hA (fun r17 w18 H locs hw hP hD hS => ?_)
  obtain ⟨hk19, hz20⟩ := hw
  refine lv_pop hx hb dL_law_1768 rfl ?_
  refine lv_goto (tgt := 2162) hx hb dL_law_1769 (by decide) ?_
  exact kk _ w8 w18 H locs ls hk9 hk19 hP hD hS (lv_sub hl [0, 1, 2, 3] rfl)
set_option maxHeartbeats 8000000 in
set_option maxRecDepth 100000 in
theorem law_c52 {p : Program} {l : Launch} {e : Env} {s : State} {m : MethodId} {below : List Frame} {meth : Method} {c : Code} {A : Nat → Prop} {b L : Nat} {xs : Nat → Int32} (hx : p.tables.exec = Jvm.exec) (hb : c.code = code) (hml : c.maxLocals = 4) (hr : meth.sig.returnType = ret) (hlocks : meth.locks = false) (hX : va_X b L xs s s.heap) (hbl : b < s.heap.size) (hbA : ¬ A b) (hA : ∀ q : Nat, s.heap.size ≤ q → A q) (hAf : ∀ q : Nat, A q → s.heap.size ≤ q) (D : va_G) (G : ct_G) (cI cJ cB cZ cO : ClassId) (g : Gh) (h0 h1 : Nat) (hown : s.vm.findClass RL = some m.cls) (hts : ∀ w ∈ wsL_law, w.before #[Value.ref b] s = true) (hE : ct_E D (ct_T cI cJ cB cZ cO) G s) (hH : ct_H G A s s.heap) (hL : L ≤ 3072) (i : Nat) (hi : i + 6 ≤ L) (wx wm : va_W) (hX0 : XOK cI cJ cB cZ cO g h0 wx) (hM0 : MOK cI cJ cB cZ cO g h1 wm) {H : Heap} {locs : List Loc} (hP : va_P D vwCl (wx ++ wm) H) (hD : va_D A (wx ++ wm)) (hS : va_S A s.heap H locs) {ls : Array Slot} (hl : lv_has ls 4 [(3, .int (nI i)), (2, .ref h1), (1, .ref h0), (0, .ref b)]) (kk : ∀ (g : Gh) (wx wm : va_W) (H : Heap) (locs : List Loc) (ls : Array Slot), XOK cI cJ cB cZ cO g h0 wx → MOK cI cJ cB cZ cO g h1 wm → va_P D vwCl (wx ++ wm) H → va_D A (wx ++ wm) → va_S A s.heap H locs → lv_has ls 4 [(3, .int (nI i)), (2, .ref h1), (1, .ref h0), (0, .ref b)] → W p l e room_1 s m #[Value.ref b] below meth c H locs 107 36842 (lw_Z below #[Value.ref b] s) (F0 m 2162 ls [])) : W p l e room_1 s m #[Value.ref b] below meth c H locs 107 36842 (lw_Z below #[Value.ref b] s) (F0 m 1772 ls []) := by
  have hK := hE.1
  have hni : (nI i).toInt = (i : Int) := nI_toInt (by omega)
  refine lv_aload_n hx hb dL_law_1772 rfl (lv_at hl 2 rfl) ?_
  refine lv_aload_n hx hb dL_law_1773 rfl (lv_at hl 3 rfl) ?_
  refine lv_iload_n hx hb dL_law_1774 rfl (lv_at hl 0 rfl) ?_
  refine lv_iconst (v := 1) hx hb dL_law_1775 (by decide) ?_
  refine lv_iadd hx hb dL_law_1776 ?_
  refine lv_topi (fun z1 ez1 => ?_)
  have fz1 : z1.toInt = (nI i).toInt + 1 := by rw [ez1]; exact tq_add rfl (by decide) (by omega)
  refine va_sld hx hb hX hbl hbA hS (tq_in rfl (by omega)) dL_law_1777 ?_
  refine lv_topi (fun z2 ez2 => ?_)
  refine lv_aload_n hx hb dL_law_1778 rfl (lv_at hl 3 rfl) ?_
  refine lv_iload_n hx hb dL_law_1779 rfl (lv_at hl 0 rfl) ?_
  refine lv_iconst (v := 2) hx hb dL_law_1780 (by decide) ?_
  refine lv_iadd hx hb dL_law_1781 ?_
  refine lv_topi (fun z3 ez3 => ?_)
  have fz3 : z3.toInt = (nI i).toInt + 2 := by rw [ez3]; exact tq_add rfl (by decide) (by omega)
  refine va_sld hx hb hX hbl hbA hS (tq_in rfl (by omega)) dL_law_1782 ?_
  refine lv_topi (fun z4 ez4 => ?_)
  refine lv_aload_n hx hb dL_law_1783 rfl (lv_at hl 3 rfl) ?_
  refine lv_iload_n hx hb dL_law_1784 rfl (lv_at hl 0 rfl) ?_
  refine lv_iconst (v := 3) hx hb dL_law_1785 (by decide) ?_
  refine lv_iadd hx hb dL_law_1786 ?_
  refine lv_topi (fun z5 ez5 => ?_)
  have fz5 : z5.toInt = (nI i).toInt + 3 := by rw [ez5]; exact tq_add rfl (by decide) (by omega)
  refine va_sld hx hb hX hbl hbA hS (tq_in rfl (by omega)) dL_law_1787 ?_
  refine lv_topi (fun z6 ez6 => ?_)
  refine lv_aload_n hx hb dL_law_1788 rfl (lv_at hl 3 rfl) ?_
  refine lv_iload_n hx hb dL_law_1789 rfl (lv_at hl 0 rfl) ?_
  refine lv_iconst (v := 4) hx hb dL_law_1790 (by decide) ?_
  refine lv_iadd hx hb dL_law_1791 ?_
  refine lv_topi (fun z7 ez7 => ?_)
  have fz7 : z7.toInt = (nI i).toInt + 4 := by rw [ez7]; exact tq_add rfl (by decide) (by omega)
  refine va_sld hx hb hX hbl hbA hS (tq_in rfl (by omega)) dL_law_1792 ?_
  refine lv_topi (fun z8 ez8 => ?_)
  refine ct_callAi (D := D) (wx := wx) (wm := wm) (va_runV (As := [.int z2, .int z4, .int z6, .int z8]) (rest := []) ⟨hx, hb, hml, hown, hts⟩ (k_X11_stumble l D G cI cJ cB cZ cO g h0 wx hX0 z2 z4 z6 z8 H.size) (cwV 4 hts gL_law_X11_stumble rfl rfl rfl (by decide +kernel) ⟨Nat.le_of_ble_eq_true rfl, Nat.le_of_ble_eq_true rfl⟩) (ct_preA (T := ct_T cI cJ cB cZ cO) (ci := 11) hE hH hP hD hS hA (XOK_at hX0) rfl) rfl rfl hl.1 rfl (lv_room (Nat.le_of_ble_eq_true rfl)) dL_law_1793 ⟨Nat.le_of_ble_eq_true rfl, Nat.le_of_ble_eq_true rfl⟩) hP hD hS hA (fun r9 w10 H locs hw hP hD hS => ?_)
  obtain ⟨hk11, hz12⟩ := hw
  refine lv_pop hx hb dL_law_1796 rfl ?_
  refine lv_aload_n hx hb dL_law_1797 rfl (lv_at hl 1 rfl) ?_
  refine lv_aload_n hx hb dL_law_1798 rfl (lv_at hl 3 rfl) ?_
  refine lv_iload_n hx hb dL_law_1799 rfl (lv_at hl 0 rfl) ?_
  refine lv_iconst (v := 1) hx hb dL_law_1800 (by decide) ?_
  refine lv_iadd hx hb dL_law_1801 ?_
  refine lv_topi (fun z13 ez13 => ?_)
  have fz13 : z13.toInt = (nI i).toInt + 1 := by rw [ez13]; exact tq_add rfl (by decide) (by omega)
  refine va_sld hx hb hX hbl hbA hS (tq_in rfl (by omega)) dL_law_1802 ?_
  refine lv_topi (fun z14 ez14 => ?_)
  refine lv_aload_n hx hb dL_law_1803 rfl (lv_at hl 3 rfl) ?_
  refine lv_iload_n hx hb dL_law_1804 rfl (lv_at hl 0 rfl) ?_
  refine lv_iconst (v := 2) hx hb dL_law_1805 (by decide) ?_
  refine lv_iadd hx hb dL_law_1806 ?_
  refine lv_topi (fun z15 ez15 => ?_)
  have fz15 : z15.toInt = (nI i).toInt + 2 := by rw [ez15]; exact tq_add rfl (by decide) (by omega)
  refine va_sld hx hb hX hbl hbA hS (tq_in rfl (by omega)) dL_law_1807 ?_
  refine lv_topi (fun z16 ez16 => ?_)
  refine lv_aload_n hx hb dL_law_1808 rfl (lv_at hl 3 rfl) ?_
  refine lv_iload_n hx hb dL_law_1809 rfl (lv_at hl 0 rfl) ?_
  refine lv_iconst (v := 3) hx hb dL_law_1810 (by decide) ?_
  refine lv_iadd hx hb dL_law_1811 ?_
  refine lv_topi (fun z17 ez17 => ?_)
  have fz17 : z17.toInt = (nI i).toInt + 3 := by rw [ez17]; exact tq_add rfl (by decide) (by omega)
  refine va_sld hx hb hX hbl hbA hS (tq_in rfl (by omega)) dL_law_1812 ?_
  refine lv_topi (fun z18 ez18 => ?_)
  refine lv_aload_n hx hb dL_law_1813 rfl (lv_at hl 3 rfl) ?_
  refine lv_iload_n hx hb dL_law_1814 rfl (lv_at hl 0 rfl) ?_
  refine lv_iconst (v := 4) hx hb dL_law_1815 (by decide) ?_
  refine lv_iadd hx hb dL_law_1816 ?_
  refine lv_topi (fun z19 ez19 => ?_)
  have fz19 : z19.toInt = (nI i).toInt + 4 := by rw [ez19]; exact tq_add rfl (by decide) (by omega)
  refine va_sld hx hb hX hbl hbA hS (tq_in rfl (by omega)) dL_law_1817 ?_
  refine lv_topi (fun z20 ez20 => ?_)
  refine ct_callAi (D := D) (wx := wm) (wm := w10) (va_runV (As := [.int z14, .int z16, .int z18, .int z20]) (rest := []) ⟨hx, hb, hml, hown, hts⟩ (k_X12_stumble l D G cI cJ cB cZ cO g h1 wm hM0 z14 z16 z18 z20 H.size) (cwV 4 hts gL_law_X12_stumble rfl rfl rfl (by decide +kernel) ⟨Nat.le_of_ble_eq_true rfl, Nat.le_of_ble_eq_true rfl⟩) (ct_preA (T := ct_T cI cJ cB cZ cO) (ci := 12) hE hH hP hD hS hA (MOK_at hM0) rfl) rfl rfl hl.1 rfl (lv_room (Nat.le_of_ble_eq_true rfl)) dL_law_1818 ⟨Nat.le_of_ble_eq_true rfl, Nat.le_of_ble_eq_true rfl⟩) hP hD hS hA (fun r21 w22 H locs hw hP hD hS => ?_)
  obtain ⟨hk23, hz24⟩ := hw
  refine lv_pop hx hb dL_law_1821 rfl ?_
  refine lv_goto (tgt := 2162) hx hb dL_law_1822 (by decide) ?_
  exact kk _ w10 w22 H locs ls hk11 hk23 hP hD hS (lv_sub hl [0, 1, 2, 3] rfl)
set_option maxHeartbeats 8000000 in
set_option maxRecDepth 100000 in
theorem law_c53 {p : Program} {l : Launch} {e : Env} {s : State} {m : MethodId} {below : List Frame} {meth : Method} {c : Code} {A : Nat → Prop} {b L : Nat} {xs : Nat → Int32} (hx : p.tables.exec = Jvm.exec) (hb : c.code = code) (hml : c.maxLocals = 4) (hr : meth.sig.returnType = ret) (hlocks : meth.locks = false) (hX : va_X b L xs s s.heap) (hbl : b < s.heap.size) (hbA : ¬ A b) (hA : ∀ q : Nat, s.heap.size ≤ q → A q) (hAf : ∀ q : Nat, A q → s.heap.size ≤ q) (D : va_G) (G : ct_G) (cI cJ cB cZ cO : ClassId) (g : Gh) (h0 h1 : Nat) (hown : s.vm.findClass RL = some m.cls) (hts : ∀ w ∈ wsL_law, w.before #[Value.ref b] s = true) (hE : ct_E D (ct_T cI cJ cB cZ cO) G s) (hH : ct_H G A s s.heap) (hL : L ≤ 3072) (i : Nat) (hi : i + 6 ≤ L) (wx wm : va_W) (hX0 : XOK cI cJ cB cZ cO g h0 wx) (hM0 : MOK cI cJ cB cZ cO g h1 wm) {H : Heap} {locs : List Loc} (hP : va_P D vwCl (wx ++ wm) H) (hD : va_D A (wx ++ wm)) (hS : va_S A s.heap H locs) {ls : Array Slot} (hl : lv_has ls 4 [(3, .int (nI i)), (2, .ref h1), (1, .ref h0), (0, .ref b)]) (kk : ∀ (g : Gh) (wx wm : va_W) (H : Heap) (locs : List Loc) (ls : Array Slot), XOK cI cJ cB cZ cO g h0 wx → MOK cI cJ cB cZ cO g h1 wm → va_P D vwCl (wx ++ wm) H → va_D A (wx ++ wm) → va_S A s.heap H locs → lv_has ls 4 [(3, .int (nI i)), (2, .ref h1), (1, .ref h0), (0, .ref b)] → W p l e room_1 s m #[Value.ref b] below meth c H locs 107 36842 (lw_Z below #[Value.ref b] s) (F0 m 2162 ls [])) : W p l e room_1 s m #[Value.ref b] below meth c H locs 107 36842 (lw_Z below #[Value.ref b] s) (F0 m 1825 ls []) := by
  have hK := hE.1
  have hni : (nI i).toInt = (i : Int) := nI_toInt (by omega)
  refine lv_aload_n hx hb dL_law_1825 rfl (lv_at hl 2 rfl) ?_
  refine lv_aload_n hx hb dL_law_1826 rfl (lv_at hl 3 rfl) ?_
  refine lv_iload_n hx hb dL_law_1827 rfl (lv_at hl 0 rfl) ?_
  refine lv_iconst (v := 1) hx hb dL_law_1828 (by decide) ?_
  refine lv_iadd hx hb dL_law_1829 ?_
  refine lv_topi (fun z1 ez1 => ?_)
  have fz1 : z1.toInt = (nI i).toInt + 1 := by rw [ez1]; exact tq_add rfl (by decide) (by omega)
  refine va_sld hx hb hX hbl hbA hS (tq_in rfl (by omega)) dL_law_1830 ?_
  refine lv_topi (fun z2 ez2 => ?_)
  refine lv_aload_n hx hb dL_law_1831 rfl (lv_at hl 3 rfl) ?_
  refine lv_iload_n hx hb dL_law_1832 rfl (lv_at hl 0 rfl) ?_
  refine lv_iconst (v := 2) hx hb dL_law_1833 (by decide) ?_
  refine lv_iadd hx hb dL_law_1834 ?_
  refine lv_topi (fun z3 ez3 => ?_)
  have fz3 : z3.toInt = (nI i).toInt + 2 := by rw [ez3]; exact tq_add rfl (by decide) (by omega)
  refine va_sld hx hb hX hbl hbA hS (tq_in rfl (by omega)) dL_law_1835 ?_
  refine lv_topi (fun z4 ez4 => ?_)
  refine ct_callAi (D := D) (wx := wx) (wm := wm) (va_runV (As := [.int z2, .int z4]) (rest := []) ⟨hx, hb, hml, hown, hts⟩ (k_X11_mud l D G cI cJ cB cZ cO g h0 wx hX0 z2 z4 H.size) (cwV 2 hts gL_law_X11_mud rfl rfl rfl (by decide +kernel) ⟨Nat.le_of_ble_eq_true rfl, Nat.le_of_ble_eq_true rfl⟩) (ct_preA (T := ct_T cI cJ cB cZ cO) (ci := 11) hE hH hP hD hS hA (XOK_at hX0) rfl) rfl rfl hl.1 rfl (lv_room (Nat.le_of_ble_eq_true rfl)) dL_law_1836 ⟨Nat.le_of_ble_eq_true rfl, Nat.le_of_ble_eq_true rfl⟩) hP hD hS hA (fun r5 w6 H locs hw hP hD hS => ?_)
  obtain ⟨hk7, hz8⟩ := hw
  refine lv_pop hx hb dL_law_1839 rfl ?_
  refine lv_aload_n hx hb dL_law_1840 rfl (lv_at hl 1 rfl) ?_
  refine lv_aload_n hx hb dL_law_1841 rfl (lv_at hl 3 rfl) ?_
  refine lv_iload_n hx hb dL_law_1842 rfl (lv_at hl 0 rfl) ?_
  refine lv_iconst (v := 1) hx hb dL_law_1843 (by decide) ?_
  refine lv_iadd hx hb dL_law_1844 ?_
  refine lv_topi (fun z9 ez9 => ?_)
  have fz9 : z9.toInt = (nI i).toInt + 1 := by rw [ez9]; exact tq_add rfl (by decide) (by omega)
  refine va_sld hx hb hX hbl hbA hS (tq_in rfl (by omega)) dL_law_1845 ?_
  refine lv_topi (fun z10 ez10 => ?_)
  refine lv_aload_n hx hb dL_law_1846 rfl (lv_at hl 3 rfl) ?_
  refine lv_iload_n hx hb dL_law_1847 rfl (lv_at hl 0 rfl) ?_
  refine lv_iconst (v := 2) hx hb dL_law_1848 (by decide) ?_
  refine lv_iadd hx hb dL_law_1849 ?_
  refine lv_topi (fun z11 ez11 => ?_)
  have fz11 : z11.toInt = (nI i).toInt + 2 := by rw [ez11]; exact tq_add rfl (by decide) (by omega)
  refine va_sld hx hb hX hbl hbA hS (tq_in rfl (by omega)) dL_law_1850 ?_
  refine lv_topi (fun z12 ez12 => ?_)
  refine ct_callAi (D := D) (wx := wm) (wm := w6) (va_runV (As := [.int z10, .int z12]) (rest := []) ⟨hx, hb, hml, hown, hts⟩ (k_X12_mud l D G cI cJ cB cZ cO g h1 wm hM0 z10 z12 H.size) (cwV 2 hts gL_law_X12_mud rfl rfl rfl (by decide +kernel) ⟨Nat.le_of_ble_eq_true rfl, Nat.le_of_ble_eq_true rfl⟩) (ct_preA (T := ct_T cI cJ cB cZ cO) (ci := 12) hE hH hP hD hS hA (MOK_at hM0) rfl) rfl rfl hl.1 rfl (lv_room (Nat.le_of_ble_eq_true rfl)) dL_law_1851 ⟨Nat.le_of_ble_eq_true rfl, Nat.le_of_ble_eq_true rfl⟩) hP hD hS hA (fun r13 w14 H locs hw hP hD hS => ?_)
  obtain ⟨hk15, hz16⟩ := hw
  refine lv_pop hx hb dL_law_1854 rfl ?_
  refine lv_goto (tgt := 2162) hx hb dL_law_1855 (by decide) ?_
  exact kk _ w6 w14 H locs ls hk7 hk15 hP hD hS (lv_sub hl [0, 1, 2, 3] rfl)
set_option maxHeartbeats 8000000 in
set_option maxRecDepth 100000 in
theorem law_c54 {p : Program} {l : Launch} {e : Env} {s : State} {m : MethodId} {below : List Frame} {meth : Method} {c : Code} {A : Nat → Prop} {b L : Nat} {xs : Nat → Int32} (hx : p.tables.exec = Jvm.exec) (hb : c.code = code) (hml : c.maxLocals = 4) (hr : meth.sig.returnType = ret) (hlocks : meth.locks = false) (hX : va_X b L xs s s.heap) (hbl : b < s.heap.size) (hbA : ¬ A b) (hA : ∀ q : Nat, s.heap.size ≤ q → A q) (hAf : ∀ q : Nat, A q → s.heap.size ≤ q) (D : va_G) (G : ct_G) (cI cJ cB cZ cO : ClassId) (g : Gh) (h0 h1 : Nat) (hown : s.vm.findClass RL = some m.cls) (hts : ∀ w ∈ wsL_law, w.before #[Value.ref b] s = true) (hE : ct_E D (ct_T cI cJ cB cZ cO) G s) (hH : ct_H G A s s.heap) (hL : L ≤ 3072) (i : Nat) (hi : i + 6 ≤ L) (wx wm : va_W) (hX0 : XOK cI cJ cB cZ cO g h0 wx) (hM0 : MOK cI cJ cB cZ cO g h1 wm) {H : Heap} {locs : List Loc} (hP : va_P D vwCl (wx ++ wm) H) (hD : va_D A (wx ++ wm)) (hS : va_S A s.heap H locs) {ls : Array Slot} (hl : lv_has ls 4 [(3, .int (nI i)), (2, .ref h1), (1, .ref h0), (0, .ref b)]) (kk : ∀ (g : Gh) (wx wm : va_W) (H : Heap) (locs : List Loc) (ls : Array Slot), XOK cI cJ cB cZ cO g h0 wx → MOK cI cJ cB cZ cO g h1 wm → va_P D vwCl (wx ++ wm) H → va_D A (wx ++ wm) → va_S A s.heap H locs → lv_has ls 4 [(3, .int (nI i)), (2, .ref h1), (1, .ref h0), (0, .ref b)] → W p l e room_1 s m #[Value.ref b] below meth c H locs 107 36842 (lw_Z below #[Value.ref b] s) (F0 m 2162 ls [])) : W p l e room_1 s m #[Value.ref b] below meth c H locs 107 36842 (lw_Z below #[Value.ref b] s) (F0 m 1858 ls []) := by
  have hK := hE.1
  have hni : (nI i).toInt = (i : Int) := nI_toInt (by omega)
  refine lv_aload_n hx hb dL_law_1858 rfl (lv_at hl 2 rfl) ?_
  refine lv_aload_n hx hb dL_law_1859 rfl (lv_at hl 3 rfl) ?_
  refine lv_iload_n hx hb dL_law_1860 rfl (lv_at hl 0 rfl) ?_
  refine lv_iconst (v := 1) hx hb dL_law_1861 (by decide) ?_
  refine lv_iadd hx hb dL_law_1862 ?_
  refine lv_topi (fun z1 ez1 => ?_)
  have fz1 : z1.toInt = (nI i).toInt + 1 := by rw [ez1]; exact tq_add rfl (by decide) (by omega)
  refine va_sld hx hb hX hbl hbA hS (tq_in rfl (by omega)) dL_law_1863 ?_
  refine lv_topi (fun z2 ez2 => ?_)
  refine lv_aload_n hx hb dL_law_1864 rfl (lv_at hl 3 rfl) ?_
  refine lv_iload_n hx hb dL_law_1865 rfl (lv_at hl 0 rfl) ?_
  refine lv_iconst (v := 2) hx hb dL_law_1866 (by decide) ?_
  refine lv_iadd hx hb dL_law_1867 ?_
  refine lv_topi (fun z3 ez3 => ?_)
  have fz3 : z3.toInt = (nI i).toInt + 2 := by rw [ez3]; exact tq_add rfl (by decide) (by omega)
  refine va_sld hx hb hX hbl hbA hS (tq_in rfl (by omega)) dL_law_1868 ?_
  refine lv_topi (fun z4 ez4 => ?_)
  refine lv_aload_n hx hb dL_law_1869 rfl (lv_at hl 3 rfl) ?_
  refine lv_iload_n hx hb dL_law_1870 rfl (lv_at hl 0 rfl) ?_
  refine lv_iconst (v := 3) hx hb dL_law_1871 (by decide) ?_
  refine lv_iadd hx hb dL_law_1872 ?_
  refine lv_topi (fun z5 ez5 => ?_)
  have fz5 : z5.toInt = (nI i).toInt + 3 := by rw [ez5]; exact tq_add rfl (by decide) (by omega)
  refine va_sld hx hb hX hbl hbA hS (tq_in rfl (by omega)) dL_law_1873 ?_
  refine lv_topi (fun z6 ez6 => ?_)
  refine ct_callAi (D := D) (wx := wx) (wm := wm) (va_runV (As := [.int z2, .int z4, .int z6]) (rest := []) ⟨hx, hb, hml, hown, hts⟩ (k_X11_teach l D G cI cJ cB cZ cO g h0 wx hX0 z2 z4 z6 H.size) (cwV 3 hts gL_law_X11_teach rfl rfl rfl (by decide +kernel) ⟨Nat.le_of_ble_eq_true rfl, Nat.le_of_ble_eq_true rfl⟩) (ct_preA (T := ct_T cI cJ cB cZ cO) (ci := 11) hE hH hP hD hS hA (XOK_at hX0) rfl) rfl rfl hl.1 rfl (lv_room (Nat.le_of_ble_eq_true rfl)) dL_law_1874 ⟨Nat.le_of_ble_eq_true rfl, Nat.le_of_ble_eq_true rfl⟩) hP hD hS hA (fun r7 w8 H locs hw hP hD hS => ?_)
  obtain ⟨hk9, hz10⟩ := hw
  refine lv_pop hx hb dL_law_1877 rfl ?_
  refine lv_aload_n hx hb dL_law_1878 rfl (lv_at hl 1 rfl) ?_
  refine lv_aload_n hx hb dL_law_1879 rfl (lv_at hl 3 rfl) ?_
  refine lv_iload_n hx hb dL_law_1880 rfl (lv_at hl 0 rfl) ?_
  refine lv_iconst (v := 1) hx hb dL_law_1881 (by decide) ?_
  refine lv_iadd hx hb dL_law_1882 ?_
  refine lv_topi (fun z11 ez11 => ?_)
  have fz11 : z11.toInt = (nI i).toInt + 1 := by rw [ez11]; exact tq_add rfl (by decide) (by omega)
  refine va_sld hx hb hX hbl hbA hS (tq_in rfl (by omega)) dL_law_1883 ?_
  refine lv_topi (fun z12 ez12 => ?_)
  refine lv_aload_n hx hb dL_law_1884 rfl (lv_at hl 3 rfl) ?_
  refine lv_iload_n hx hb dL_law_1885 rfl (lv_at hl 0 rfl) ?_
  refine lv_iconst (v := 2) hx hb dL_law_1886 (by decide) ?_
  refine lv_iadd hx hb dL_law_1887 ?_
  refine lv_topi (fun z13 ez13 => ?_)
  have fz13 : z13.toInt = (nI i).toInt + 2 := by rw [ez13]; exact tq_add rfl (by decide) (by omega)
  refine va_sld hx hb hX hbl hbA hS (tq_in rfl (by omega)) dL_law_1888 ?_
  refine lv_topi (fun z14 ez14 => ?_)
  refine lv_aload_n hx hb dL_law_1889 rfl (lv_at hl 3 rfl) ?_
  refine lv_iload_n hx hb dL_law_1890 rfl (lv_at hl 0 rfl) ?_
  refine lv_iconst (v := 3) hx hb dL_law_1891 (by decide) ?_
  refine lv_iadd hx hb dL_law_1892 ?_
  refine lv_topi (fun z15 ez15 => ?_)
  have fz15 : z15.toInt = (nI i).toInt + 3 := by rw [ez15]; exact tq_add rfl (by decide) (by omega)
  refine va_sld hx hb hX hbl hbA hS (tq_in rfl (by omega)) dL_law_1893 ?_
  refine lv_topi (fun z16 ez16 => ?_)
  refine ct_callAi (D := D) (wx := wm) (wm := w8) (va_runV (As := [.int z12, .int z14, .int z16]) (rest := []) ⟨hx, hb, hml, hown, hts⟩ (k_X12_teach l D G cI cJ cB cZ cO g h1 wm hM0 z12 z14 z16 H.size) (cwV 3 hts gL_law_X12_teach rfl rfl rfl (by decide +kernel) ⟨Nat.le_of_ble_eq_true rfl, Nat.le_of_ble_eq_true rfl⟩) (ct_preA (T := ct_T cI cJ cB cZ cO) (ci := 12) hE hH hP hD hS hA (MOK_at hM0) rfl) rfl rfl hl.1 rfl (lv_room (Nat.le_of_ble_eq_true rfl)) dL_law_1894 ⟨Nat.le_of_ble_eq_true rfl, Nat.le_of_ble_eq_true rfl⟩) hP hD hS hA (fun r17 w18 H locs hw hP hD hS => ?_)
  obtain ⟨hk19, hz20⟩ := hw
  refine lv_pop hx hb dL_law_1897 rfl ?_
  refine lv_goto (tgt := 2162) hx hb dL_law_1898 (by decide) ?_
  exact kk _ w8 w18 H locs ls hk9 hk19 hP hD hS (lv_sub hl [0, 1, 2, 3] rfl)
set_option maxHeartbeats 8000000 in
set_option maxRecDepth 100000 in
theorem law_c55 {p : Program} {l : Launch} {e : Env} {s : State} {m : MethodId} {below : List Frame} {meth : Method} {c : Code} {A : Nat → Prop} {b L : Nat} {xs : Nat → Int32} (hx : p.tables.exec = Jvm.exec) (hb : c.code = code) (hml : c.maxLocals = 4) (hr : meth.sig.returnType = ret) (hlocks : meth.locks = false) (hX : va_X b L xs s s.heap) (hbl : b < s.heap.size) (hbA : ¬ A b) (hA : ∀ q : Nat, s.heap.size ≤ q → A q) (hAf : ∀ q : Nat, A q → s.heap.size ≤ q) (D : va_G) (G : ct_G) (cI cJ cB cZ cO : ClassId) (g : Gh) (h0 h1 : Nat) (hown : s.vm.findClass RL = some m.cls) (hts : ∀ w ∈ wsL_law, w.before #[Value.ref b] s = true) (hE : ct_E D (ct_T cI cJ cB cZ cO) G s) (hH : ct_H G A s s.heap) (hL : L ≤ 3072) (i : Nat) (hi : i + 6 ≤ L) (wx wm : va_W) (hX0 : XOK cI cJ cB cZ cO g h0 wx) (hM0 : MOK cI cJ cB cZ cO g h1 wm) {H : Heap} {locs : List Loc} (hP : va_P D vwCl (wx ++ wm) H) (hD : va_D A (wx ++ wm)) (hS : va_S A s.heap H locs) {ls : Array Slot} (hl : lv_has ls 4 [(3, .int (nI i)), (2, .ref h1), (1, .ref h0), (0, .ref b)]) (kk : ∀ (g : Gh) (wx wm : va_W) (H : Heap) (locs : List Loc) (ls : Array Slot), XOK cI cJ cB cZ cO g h0 wx → MOK cI cJ cB cZ cO g h1 wm → va_P D vwCl (wx ++ wm) H → va_D A (wx ++ wm) → va_S A s.heap H locs → lv_has ls 4 [(3, .int (nI i)), (2, .ref h1), (1, .ref h0), (0, .ref b)] → W p l e room_1 s m #[Value.ref b] below meth c H locs 107 36842 (lw_Z below #[Value.ref b] s) (F0 m 2162 ls [])) : W p l e room_1 s m #[Value.ref b] below meth c H locs 107 36842 (lw_Z below #[Value.ref b] s) (F0 m 1901 ls []) := by
  have hK := hE.1
  have hni : (nI i).toInt = (i : Int) := nI_toInt (by omega)
  refine lv_aload_n hx hb dL_law_1901 rfl (lv_at hl 2 rfl) ?_
  refine ct_callAi (D := D) (wx := wx) (wm := wm) (va_runV (As := []) (rest := []) ⟨hx, hb, hml, hown, hts⟩ (k_X11_undo l D G cI cJ cB cZ cO g h0 wx hX0  H.size) (cwV 0 hts gL_law_X11_undo rfl rfl rfl (by decide +kernel) ⟨Nat.le_of_ble_eq_true rfl, Nat.le_of_ble_eq_true rfl⟩) (ct_preA (T := ct_T cI cJ cB cZ cO) (ci := 11) hE hH hP hD hS hA (XOK_at hX0) rfl) rfl rfl hl.1 rfl (lv_room (Nat.le_of_ble_eq_true rfl)) dL_law_1902 ⟨Nat.le_of_ble_eq_true rfl, Nat.le_of_ble_eq_true rfl⟩) hP hD hS hA (fun r1 w2 H locs hw hP hD hS => ?_)
  obtain ⟨hk3, hz4⟩ := hw
  refine lv_pop hx hb dL_law_1905 rfl ?_
  refine lv_aload_n hx hb dL_law_1906 rfl (lv_at hl 1 rfl) ?_
  refine ct_callAi (D := D) (wx := wm) (wm := w2) (va_runV (As := []) (rest := []) ⟨hx, hb, hml, hown, hts⟩ (k_X12_undo l D G cI cJ cB cZ cO g h1 wm hM0  H.size) (cwV 0 hts gL_law_X12_undo rfl rfl rfl (by decide +kernel) ⟨Nat.le_of_ble_eq_true rfl, Nat.le_of_ble_eq_true rfl⟩) (ct_preA (T := ct_T cI cJ cB cZ cO) (ci := 12) hE hH hP hD hS hA (MOK_at hM0) rfl) rfl rfl hl.1 rfl (lv_room (Nat.le_of_ble_eq_true rfl)) dL_law_1907 ⟨Nat.le_of_ble_eq_true rfl, Nat.le_of_ble_eq_true rfl⟩) hP hD hS hA (fun r5 w6 H locs hw hP hD hS => ?_)
  obtain ⟨hk7, hz8⟩ := hw
  refine lv_pop hx hb dL_law_1910 rfl ?_
  refine lv_goto (tgt := 2162) hx hb dL_law_1911 (by decide) ?_
  exact kk _ w2 w6 H locs ls hk3 hk7 hP hD hS (lv_sub hl [0, 1, 2, 3] rfl)
set_option maxHeartbeats 8000000 in
set_option maxRecDepth 100000 in
theorem law_c56 {p : Program} {l : Launch} {e : Env} {s : State} {m : MethodId} {below : List Frame} {meth : Method} {c : Code} {A : Nat → Prop} {b L : Nat} {xs : Nat → Int32} (hx : p.tables.exec = Jvm.exec) (hb : c.code = code) (hml : c.maxLocals = 4) (hr : meth.sig.returnType = ret) (hlocks : meth.locks = false) (hX : va_X b L xs s s.heap) (hbl : b < s.heap.size) (hbA : ¬ A b) (hA : ∀ q : Nat, s.heap.size ≤ q → A q) (hAf : ∀ q : Nat, A q → s.heap.size ≤ q) (D : va_G) (G : ct_G) (cI cJ cB cZ cO : ClassId) (g : Gh) (h0 h1 : Nat) (hown : s.vm.findClass RL = some m.cls) (hts : ∀ w ∈ wsL_law, w.before #[Value.ref b] s = true) (hE : ct_E D (ct_T cI cJ cB cZ cO) G s) (hH : ct_H G A s s.heap) (hL : L ≤ 3072) (i : Nat) (hi : i + 6 ≤ L) (wx wm : va_W) (hX0 : XOK cI cJ cB cZ cO g h0 wx) (hM0 : MOK cI cJ cB cZ cO g h1 wm) {H : Heap} {locs : List Loc} (hP : va_P D vwCl (wx ++ wm) H) (hD : va_D A (wx ++ wm)) (hS : va_S A s.heap H locs) {ls : Array Slot} (hl : lv_has ls 4 [(3, .int (nI i)), (2, .ref h1), (1, .ref h0), (0, .ref b)]) (kk : ∀ (g : Gh) (wx wm : va_W) (H : Heap) (locs : List Loc) (ls : Array Slot), XOK cI cJ cB cZ cO g h0 wx → MOK cI cJ cB cZ cO g h1 wm → va_P D vwCl (wx ++ wm) H → va_D A (wx ++ wm) → va_S A s.heap H locs → lv_has ls 4 [(3, .int (nI i)), (2, .ref h1), (1, .ref h0), (0, .ref b)] → W p l e room_1 s m #[Value.ref b] below meth c H locs 107 36842 (lw_Z below #[Value.ref b] s) (F0 m 2162 ls [])) : W p l e room_1 s m #[Value.ref b] below meth c H locs 107 36842 (lw_Z below #[Value.ref b] s) (F0 m 1914 ls []) := by
  have hK := hE.1
  have hni : (nI i).toInt = (i : Int) := nI_toInt (by omega)
  refine lv_aload_n hx hb dL_law_1914 rfl (lv_at hl 2 rfl) ?_
  refine lv_aload_n hx hb dL_law_1915 rfl (lv_at hl 3 rfl) ?_
  refine lv_iload_n hx hb dL_law_1916 rfl (lv_at hl 0 rfl) ?_
  refine lv_iconst (v := 1) hx hb dL_law_1917 (by decide) ?_
  refine lv_iadd hx hb dL_law_1918 ?_
  refine lv_topi (fun z1 ez1 => ?_)
  have fz1 : z1.toInt = (nI i).toInt + 1 := by rw [ez1]; exact tq_add rfl (by decide) (by omega)
  refine va_sld hx hb hX hbl hbA hS (tq_in rfl (by omega)) dL_law_1919 ?_
  refine lv_topi (fun z2 ez2 => ?_)
  refine ct_callAi (D := D) (wx := wx) (wm := wm) (va_runV (As := [.int z2]) (rest := []) ⟨hx, hb, hml, hown, hts⟩ (k_X11_count l D G cI cJ cB cZ cO g h0 wx hX0 z2 H.size) (cwV 1 hts gL_law_X11_count rfl rfl rfl (by decide +kernel) ⟨Nat.le_of_ble_eq_true rfl, Nat.le_of_ble_eq_true rfl⟩) (ct_preA (T := ct_T cI cJ cB cZ cO) (ci := 11) hE hH hP hD hS hA (XOK_at hX0) rfl) rfl rfl hl.1 rfl (lv_room (Nat.le_of_ble_eq_true rfl)) dL_law_1920 ⟨Nat.le_of_ble_eq_true rfl, Nat.le_of_ble_eq_true rfl⟩) hP hD hS hA (fun r3 w4 H locs hw hP hD hS => ?_)
  obtain ⟨hk5, hz6⟩ := hw
  refine lv_pop hx hb dL_law_1923 rfl ?_
  refine lv_aload_n hx hb dL_law_1924 rfl (lv_at hl 1 rfl) ?_
  refine lv_aload_n hx hb dL_law_1925 rfl (lv_at hl 3 rfl) ?_
  refine lv_iload_n hx hb dL_law_1926 rfl (lv_at hl 0 rfl) ?_
  refine lv_iconst (v := 1) hx hb dL_law_1927 (by decide) ?_
  refine lv_iadd hx hb dL_law_1928 ?_
  refine lv_topi (fun z7 ez7 => ?_)
  have fz7 : z7.toInt = (nI i).toInt + 1 := by rw [ez7]; exact tq_add rfl (by decide) (by omega)
  refine va_sld hx hb hX hbl hbA hS (tq_in rfl (by omega)) dL_law_1929 ?_
  refine lv_topi (fun z8 ez8 => ?_)
  refine ct_callAi (D := D) (wx := wm) (wm := w4) (va_runV (As := [.int z8]) (rest := []) ⟨hx, hb, hml, hown, hts⟩ (k_X12_count l D G cI cJ cB cZ cO g h1 wm hM0 z8 H.size) (cwV 1 hts gL_law_X12_count rfl rfl rfl (by decide +kernel) ⟨Nat.le_of_ble_eq_true rfl, Nat.le_of_ble_eq_true rfl⟩) (ct_preA (T := ct_T cI cJ cB cZ cO) (ci := 12) hE hH hP hD hS hA (MOK_at hM0) rfl) rfl rfl hl.1 rfl (lv_room (Nat.le_of_ble_eq_true rfl)) dL_law_1930 ⟨Nat.le_of_ble_eq_true rfl, Nat.le_of_ble_eq_true rfl⟩) hP hD hS hA (fun r9 w10 H locs hw hP hD hS => ?_)
  obtain ⟨hk11, hz12⟩ := hw
  refine lv_pop hx hb dL_law_1933 rfl ?_
  refine lv_goto (tgt := 2162) hx hb dL_law_1934 (by decide) ?_
  exact kk _ w4 w10 H locs ls hk5 hk11 hP hD hS (lv_sub hl [0, 1, 2, 3] rfl)
set_option maxHeartbeats 8000000 in
set_option maxRecDepth 100000 in
theorem law_c57 {p : Program} {l : Launch} {e : Env} {s : State} {m : MethodId} {below : List Frame} {meth : Method} {c : Code} {A : Nat → Prop} {b L : Nat} {xs : Nat → Int32} (hx : p.tables.exec = Jvm.exec) (hb : c.code = code) (hml : c.maxLocals = 4) (hr : meth.sig.returnType = ret) (hlocks : meth.locks = false) (hX : va_X b L xs s s.heap) (hbl : b < s.heap.size) (hbA : ¬ A b) (hA : ∀ q : Nat, s.heap.size ≤ q → A q) (hAf : ∀ q : Nat, A q → s.heap.size ≤ q) (D : va_G) (G : ct_G) (cI cJ cB cZ cO : ClassId) (g : Gh) (h0 h1 : Nat) (hown : s.vm.findClass RL = some m.cls) (hts : ∀ w ∈ wsL_law, w.before #[Value.ref b] s = true) (hE : ct_E D (ct_T cI cJ cB cZ cO) G s) (hH : ct_H G A s s.heap) (hL : L ≤ 3072) (i : Nat) (hi : i + 6 ≤ L) (wx wm : va_W) (hX0 : XOK cI cJ cB cZ cO g h0 wx) (hM0 : MOK cI cJ cB cZ cO g h1 wm) {H : Heap} {locs : List Loc} (hP : va_P D vwCl (wx ++ wm) H) (hD : va_D A (wx ++ wm)) (hS : va_S A s.heap H locs) {ls : Array Slot} (hl : lv_has ls 4 [(3, .int (nI i)), (2, .ref h1), (1, .ref h0), (0, .ref b)]) (kk : ∀ (g : Gh) (wx wm : va_W) (H : Heap) (locs : List Loc) (ls : Array Slot), XOK cI cJ cB cZ cO g h0 wx → MOK cI cJ cB cZ cO g h1 wm → va_P D vwCl (wx ++ wm) H → va_D A (wx ++ wm) → va_S A s.heap H locs → lv_has ls 4 [(3, .int (nI i)), (2, .ref h1), (1, .ref h0), (0, .ref b)] → W p l e room_1 s m #[Value.ref b] below meth c H locs 107 36842 (lw_Z below #[Value.ref b] s) (F0 m 2162 ls [])) : W p l e room_1 s m #[Value.ref b] below meth c H locs 107 36842 (lw_Z below #[Value.ref b] s) (F0 m 1937 ls []) := by
  have hK := hE.1
  have hni : (nI i).toInt = (i : Int) := nI_toInt (by omega)
  refine lv_aload_n hx hb dL_law_1937 rfl (lv_at hl 2 rfl) ?_
  refine lv_aload_n hx hb dL_law_1938 rfl (lv_at hl 3 rfl) ?_
  refine lv_iload_n hx hb dL_law_1939 rfl (lv_at hl 0 rfl) ?_
  refine lv_iconst (v := 1) hx hb dL_law_1940 (by decide) ?_
  refine lv_iadd hx hb dL_law_1941 ?_
  refine lv_topi (fun z1 ez1 => ?_)
  have fz1 : z1.toInt = (nI i).toInt + 1 := by rw [ez1]; exact tq_add rfl (by decide) (by omega)
  refine va_sld hx hb hX hbl hbA hS (tq_in rfl (by omega)) dL_law_1942 ?_
  refine lv_topi (fun z2 ez2 => ?_)
  refine ct_callAi (D := D) (wx := wx) (wm := wm) (va_runV (As := [.int z2]) (rest := []) ⟨hx, hb, hml, hown, hts⟩ (k_X11_image l D G cI cJ cB cZ cO g h0 wx hX0 z2 H.size) (cwV 1 hts gL_law_X11_image rfl rfl rfl (by decide +kernel) ⟨Nat.le_of_ble_eq_true rfl, Nat.le_of_ble_eq_true rfl⟩) (ct_preA (T := ct_T cI cJ cB cZ cO) (ci := 11) hE hH hP hD hS hA (XOK_at hX0) rfl) rfl rfl hl.1 rfl (lv_room (Nat.le_of_ble_eq_true rfl)) dL_law_1943 ⟨Nat.le_of_ble_eq_true rfl, Nat.le_of_ble_eq_true rfl⟩) hP hD hS hA (fun r3 w4 H locs hw hP hD hS => ?_)
  obtain ⟨hk5, hz6⟩ := hw
  refine lv_pop hx hb dL_law_1946 rfl ?_
  refine lv_aload_n hx hb dL_law_1947 rfl (lv_at hl 1 rfl) ?_
  refine lv_aload_n hx hb dL_law_1948 rfl (lv_at hl 3 rfl) ?_
  refine lv_iload_n hx hb dL_law_1949 rfl (lv_at hl 0 rfl) ?_
  refine lv_iconst (v := 1) hx hb dL_law_1950 (by decide) ?_
  refine lv_iadd hx hb dL_law_1951 ?_
  refine lv_topi (fun z7 ez7 => ?_)
  have fz7 : z7.toInt = (nI i).toInt + 1 := by rw [ez7]; exact tq_add rfl (by decide) (by omega)
  refine va_sld hx hb hX hbl hbA hS (tq_in rfl (by omega)) dL_law_1952 ?_
  refine lv_topi (fun z8 ez8 => ?_)
  refine ct_callAi (D := D) (wx := wm) (wm := w4) (va_runV (As := [.int z8]) (rest := []) ⟨hx, hb, hml, hown, hts⟩ (k_X12_image l D G cI cJ cB cZ cO g h1 wm hM0 z8 H.size) (cwV 1 hts gL_law_X12_image rfl rfl rfl (by decide +kernel) ⟨Nat.le_of_ble_eq_true rfl, Nat.le_of_ble_eq_true rfl⟩) (ct_preA (T := ct_T cI cJ cB cZ cO) (ci := 12) hE hH hP hD hS hA (MOK_at hM0) rfl) rfl rfl hl.1 rfl (lv_room (Nat.le_of_ble_eq_true rfl)) dL_law_1953 ⟨Nat.le_of_ble_eq_true rfl, Nat.le_of_ble_eq_true rfl⟩) hP hD hS hA (fun r9 w10 H locs hw hP hD hS => ?_)
  obtain ⟨hk11, hz12⟩ := hw
  refine lv_pop hx hb dL_law_1956 rfl ?_
  refine lv_goto (tgt := 2162) hx hb dL_law_1957 (by decide) ?_
  exact kk _ w4 w10 H locs ls hk5 hk11 hP hD hS (lv_sub hl [0, 1, 2, 3] rfl)
set_option maxHeartbeats 8000000 in
set_option maxRecDepth 100000 in
theorem law_c58 {p : Program} {l : Launch} {e : Env} {s : State} {m : MethodId} {below : List Frame} {meth : Method} {c : Code} {A : Nat → Prop} {b L : Nat} {xs : Nat → Int32} (hx : p.tables.exec = Jvm.exec) (hb : c.code = code) (hml : c.maxLocals = 4) (hr : meth.sig.returnType = ret) (hlocks : meth.locks = false) (hX : va_X b L xs s s.heap) (hbl : b < s.heap.size) (hbA : ¬ A b) (hA : ∀ q : Nat, s.heap.size ≤ q → A q) (hAf : ∀ q : Nat, A q → s.heap.size ≤ q) (D : va_G) (G : ct_G) (cI cJ cB cZ cO : ClassId) (g : Gh) (h0 h1 : Nat) (hown : s.vm.findClass RL = some m.cls) (hts : ∀ w ∈ wsL_law, w.before #[Value.ref b] s = true) (hE : ct_E D (ct_T cI cJ cB cZ cO) G s) (hH : ct_H G A s s.heap) (hL : L ≤ 3072) (i : Nat) (hi : i + 6 ≤ L) (wx wm : va_W) (hX0 : XOK cI cJ cB cZ cO g h0 wx) (hM0 : MOK cI cJ cB cZ cO g h1 wm) {H : Heap} {locs : List Loc} (hP : va_P D vwCl (wx ++ wm) H) (hD : va_D A (wx ++ wm)) (hS : va_S A s.heap H locs) {ls : Array Slot} (hl : lv_has ls 4 [(3, .int (nI i)), (2, .ref h1), (1, .ref h0), (0, .ref b)]) (kk : ∀ (g : Gh) (wx wm : va_W) (H : Heap) (locs : List Loc) (ls : Array Slot), XOK cI cJ cB cZ cO g h0 wx → MOK cI cJ cB cZ cO g h1 wm → va_P D vwCl (wx ++ wm) H → va_D A (wx ++ wm) → va_S A s.heap H locs → lv_has ls 4 [(3, .int (nI i)), (2, .ref h1), (1, .ref h0), (0, .ref b)] → W p l e room_1 s m #[Value.ref b] below meth c H locs 107 36842 (lw_Z below #[Value.ref b] s) (F0 m 2162 ls [])) : W p l e room_1 s m #[Value.ref b] below meth c H locs 107 36842 (lw_Z below #[Value.ref b] s) (F0 m 1960 ls []) := by
  have hK := hE.1
  have hni : (nI i).toInt = (i : Int) := nI_toInt (by omega)
  refine lv_aload_n hx hb dL_law_1960 rfl (lv_at hl 2 rfl) ?_
  refine lv_aload_n hx hb dL_law_1961 rfl (lv_at hl 3 rfl) ?_
  refine lv_iload_n hx hb dL_law_1962 rfl (lv_at hl 0 rfl) ?_
  refine lv_iconst (v := 1) hx hb dL_law_1963 (by decide) ?_
  refine lv_iadd hx hb dL_law_1964 ?_
  refine lv_topi (fun z1 ez1 => ?_)
  have fz1 : z1.toInt = (nI i).toInt + 1 := by rw [ez1]; exact tq_add rfl (by decide) (by omega)
  refine va_sld hx hb hX hbl hbA hS (tq_in rfl (by omega)) dL_law_1965 ?_
  refine lv_topi (fun z2 ez2 => ?_)
  refine ct_callAi (D := D) (wx := wx) (wm := wm) (va_runV (As := [.int z2]) (rest := []) ⟨hx, hb, hml, hown, hts⟩ (k_X11_back l D G cI cJ cB cZ cO g h0 wx hX0 z2 H.size) (cwV 1 hts gL_law_X11_back rfl rfl rfl (by decide +kernel) ⟨Nat.le_of_ble_eq_true rfl, Nat.le_of_ble_eq_true rfl⟩) (ct_preA (T := ct_T cI cJ cB cZ cO) (ci := 11) hE hH hP hD hS hA (XOK_at hX0) rfl) rfl rfl hl.1 rfl (lv_room (Nat.le_of_ble_eq_true rfl)) dL_law_1966 ⟨Nat.le_of_ble_eq_true rfl, Nat.le_of_ble_eq_true rfl⟩) hP hD hS hA (fun r3 w4 H locs hw hP hD hS => ?_)
  obtain ⟨hk5, hz6⟩ := hw
  refine lv_pop hx hb dL_law_1969 rfl ?_
  refine lv_aload_n hx hb dL_law_1970 rfl (lv_at hl 1 rfl) ?_
  refine lv_aload_n hx hb dL_law_1971 rfl (lv_at hl 3 rfl) ?_
  refine lv_iload_n hx hb dL_law_1972 rfl (lv_at hl 0 rfl) ?_
  refine lv_iconst (v := 1) hx hb dL_law_1973 (by decide) ?_
  refine lv_iadd hx hb dL_law_1974 ?_
  refine lv_topi (fun z7 ez7 => ?_)
  have fz7 : z7.toInt = (nI i).toInt + 1 := by rw [ez7]; exact tq_add rfl (by decide) (by omega)
  refine va_sld hx hb hX hbl hbA hS (tq_in rfl (by omega)) dL_law_1975 ?_
  refine lv_topi (fun z8 ez8 => ?_)
  refine ct_callAi (D := D) (wx := wm) (wm := w4) (va_runV (As := [.int z8]) (rest := []) ⟨hx, hb, hml, hown, hts⟩ (k_X12_back l D G cI cJ cB cZ cO g h1 wm hM0 z8 H.size) (cwV 1 hts gL_law_X12_back rfl rfl rfl (by decide +kernel) ⟨Nat.le_of_ble_eq_true rfl, Nat.le_of_ble_eq_true rfl⟩) (ct_preA (T := ct_T cI cJ cB cZ cO) (ci := 12) hE hH hP hD hS hA (MOK_at hM0) rfl) rfl rfl hl.1 rfl (lv_room (Nat.le_of_ble_eq_true rfl)) dL_law_1976 ⟨Nat.le_of_ble_eq_true rfl, Nat.le_of_ble_eq_true rfl⟩) hP hD hS hA (fun r9 w10 H locs hw hP hD hS => ?_)
  obtain ⟨hk11, hz12⟩ := hw
  refine lv_pop hx hb dL_law_1979 rfl ?_
  refine lv_goto (tgt := 2162) hx hb dL_law_1980 (by decide) ?_
  exact kk _ w4 w10 H locs ls hk5 hk11 hP hD hS (lv_sub hl [0, 1, 2, 3] rfl)
set_option maxHeartbeats 8000000 in
set_option maxRecDepth 100000 in
theorem law_c59 {p : Program} {l : Launch} {e : Env} {s : State} {m : MethodId} {below : List Frame} {meth : Method} {c : Code} {A : Nat → Prop} {b L : Nat} {xs : Nat → Int32} (hx : p.tables.exec = Jvm.exec) (hb : c.code = code) (hml : c.maxLocals = 4) (hr : meth.sig.returnType = ret) (hlocks : meth.locks = false) (hX : va_X b L xs s s.heap) (hbl : b < s.heap.size) (hbA : ¬ A b) (hA : ∀ q : Nat, s.heap.size ≤ q → A q) (hAf : ∀ q : Nat, A q → s.heap.size ≤ q) (D : va_G) (G : ct_G) (cI cJ cB cZ cO : ClassId) (g : Gh) (h0 h1 : Nat) (hown : s.vm.findClass RL = some m.cls) (hts : ∀ w ∈ wsL_law, w.before #[Value.ref b] s = true) (hE : ct_E D (ct_T cI cJ cB cZ cO) G s) (hH : ct_H G A s s.heap) (hL : L ≤ 3072) (i : Nat) (hi : i + 6 ≤ L) (wx wm : va_W) (hX0 : XOK cI cJ cB cZ cO g h0 wx) (hM0 : MOK cI cJ cB cZ cO g h1 wm) {H : Heap} {locs : List Loc} (hP : va_P D vwCl (wx ++ wm) H) (hD : va_D A (wx ++ wm)) (hS : va_S A s.heap H locs) {ls : Array Slot} (hl : lv_has ls 4 [(3, .int (nI i)), (2, .ref h1), (1, .ref h0), (0, .ref b)]) (kk : ∀ (g : Gh) (wx wm : va_W) (H : Heap) (locs : List Loc) (ls : Array Slot), XOK cI cJ cB cZ cO g h0 wx → MOK cI cJ cB cZ cO g h1 wm → va_P D vwCl (wx ++ wm) H → va_D A (wx ++ wm) → va_S A s.heap H locs → lv_has ls 4 [(3, .int (nI i)), (2, .ref h1), (1, .ref h0), (0, .ref b)] → W p l e room_1 s m #[Value.ref b] below meth c H locs 107 36842 (lw_Z below #[Value.ref b] s) (F0 m 2162 ls [])) : W p l e room_1 s m #[Value.ref b] below meth c H locs 107 36842 (lw_Z below #[Value.ref b] s) (F0 m 1983 ls []) := by
  have hK := hE.1
  have hni : (nI i).toInt = (i : Int) := nI_toInt (by omega)
  refine lv_aload_n hx hb dL_law_1983 rfl (lv_at hl 2 rfl) ?_
  refine lv_aload_n hx hb dL_law_1984 rfl (lv_at hl 3 rfl) ?_
  refine lv_iload_n hx hb dL_law_1985 rfl (lv_at hl 0 rfl) ?_
  refine lv_iconst (v := 1) hx hb dL_law_1986 (by decide) ?_
  refine lv_iadd hx hb dL_law_1987 ?_
  refine lv_topi (fun z1 ez1 => ?_)
  have fz1 : z1.toInt = (nI i).toInt + 1 := by rw [ez1]; exact tq_add rfl (by decide) (by omega)
  refine va_sld hx hb hX hbl hbA hS (tq_in rfl (by omega)) dL_law_1988 ?_
  refine lv_topi (fun z2 ez2 => ?_)
  refine lv_aload_n hx hb dL_law_1989 rfl (lv_at hl 3 rfl) ?_
  refine lv_iload_n hx hb dL_law_1990 rfl (lv_at hl 0 rfl) ?_
  refine lv_iconst (v := 2) hx hb dL_law_1991 (by decide) ?_
  refine lv_iadd hx hb dL_law_1992 ?_
  refine lv_topi (fun z3 ez3 => ?_)
  have fz3 : z3.toInt = (nI i).toInt + 2 := by rw [ez3]; exact tq_add rfl (by decide) (by omega)
  refine va_sld hx hb hX hbl hbA hS (tq_in rfl (by omega)) dL_law_1993 ?_
  refine lv_topi (fun z4 ez4 => ?_)
  refine lv_aload_n hx hb dL_law_1994 rfl (lv_at hl 3 rfl) ?_
  refine lv_iload_n hx hb dL_law_1995 rfl (lv_at hl 0 rfl) ?_
  refine lv_iconst (v := 3) hx hb dL_law_1996 (by decide) ?_
  refine lv_iadd hx hb dL_law_1997 ?_
  refine lv_topi (fun z5 ez5 => ?_)
  have fz5 : z5.toInt = (nI i).toInt + 3 := by rw [ez5]; exact tq_add rfl (by decide) (by omega)
  refine va_sld hx hb hX hbl hbA hS (tq_in rfl (by omega)) dL_law_1998 ?_
  refine lv_topi (fun z6 ez6 => ?_)
  refine ct_callAi (D := D) (wx := wx) (wm := wm) (va_runV (As := [.int z2, .int z4, .int z6]) (rest := []) ⟨hx, hb, hml, hown, hts⟩ (k_X11_row l D G cI cJ cB cZ cO g h0 wx hX0 z2 z4 z6 H.size) (cwV 3 hts gL_law_X11_row rfl rfl rfl (by decide +kernel) ⟨Nat.le_of_ble_eq_true rfl, Nat.le_of_ble_eq_true rfl⟩) (ct_preA (T := ct_T cI cJ cB cZ cO) (ci := 11) hE hH hP hD hS hA (XOK_at hX0) rfl) rfl rfl hl.1 rfl (lv_room (Nat.le_of_ble_eq_true rfl)) dL_law_1999 ⟨Nat.le_of_ble_eq_true rfl, Nat.le_of_ble_eq_true rfl⟩) hP hD hS hA (fun r7 w8 H locs hw hP hD hS => ?_)
  obtain ⟨hk9, hz10⟩ := hw
  refine lv_pop hx hb dL_law_2002 rfl ?_
  refine lv_aload_n hx hb dL_law_2003 rfl (lv_at hl 1 rfl) ?_
  refine lv_aload_n hx hb dL_law_2004 rfl (lv_at hl 3 rfl) ?_
  refine lv_iload_n hx hb dL_law_2005 rfl (lv_at hl 0 rfl) ?_
  refine lv_iconst (v := 1) hx hb dL_law_2006 (by decide) ?_
  refine lv_iadd hx hb dL_law_2007 ?_
  refine lv_topi (fun z11 ez11 => ?_)
  have fz11 : z11.toInt = (nI i).toInt + 1 := by rw [ez11]; exact tq_add rfl (by decide) (by omega)
  refine va_sld hx hb hX hbl hbA hS (tq_in rfl (by omega)) dL_law_2008 ?_
  refine lv_topi (fun z12 ez12 => ?_)
  refine lv_aload_n hx hb dL_law_2009 rfl (lv_at hl 3 rfl) ?_
  refine lv_iload_n hx hb dL_law_2010 rfl (lv_at hl 0 rfl) ?_
  refine lv_iconst (v := 2) hx hb dL_law_2011 (by decide) ?_
  refine lv_iadd hx hb dL_law_2012 ?_
  refine lv_topi (fun z13 ez13 => ?_)
  have fz13 : z13.toInt = (nI i).toInt + 2 := by rw [ez13]; exact tq_add rfl (by decide) (by omega)
  refine va_sld hx hb hX hbl hbA hS (tq_in rfl (by omega)) dL_law_2013 ?_
  refine lv_topi (fun z14 ez14 => ?_)
  refine lv_aload_n hx hb dL_law_2014 rfl (lv_at hl 3 rfl) ?_
  refine lv_iload_n hx hb dL_law_2015 rfl (lv_at hl 0 rfl) ?_
  refine lv_iconst (v := 3) hx hb dL_law_2016 (by decide) ?_
  refine lv_iadd hx hb dL_law_2017 ?_
  refine lv_topi (fun z15 ez15 => ?_)
  have fz15 : z15.toInt = (nI i).toInt + 3 := by rw [ez15]; exact tq_add rfl (by decide) (by omega)
  refine va_sld hx hb hX hbl hbA hS (tq_in rfl (by omega)) dL_law_2018 ?_
  refine lv_topi (fun z16 ez16 => ?_)
  refine ct_callAi (D := D) (wx := wm) (wm := w8) (va_runV (As := [.int z12, .int z14, .int z16]) (rest := []) ⟨hx, hb, hml, hown, hts⟩ (k_X12_row l D G cI cJ cB cZ cO g h1 wm hM0 z12 z14 z16 H.size) (cwV 3 hts gL_law_X12_row rfl rfl rfl (by decide +kernel) ⟨Nat.le_of_ble_eq_true rfl, Nat.le_of_ble_eq_true rfl⟩) (ct_preA (T := ct_T cI cJ cB cZ cO) (ci := 12) hE hH hP hD hS hA (MOK_at hM0) rfl) rfl rfl hl.1 rfl (lv_room (Nat.le_of_ble_eq_true rfl)) dL_law_2019 ⟨Nat.le_of_ble_eq_true rfl, Nat.le_of_ble_eq_true rfl⟩) hP hD hS hA (fun r17 w18 H locs hw hP hD hS => ?_)
  obtain ⟨hk19, hz20⟩ := hw
  obtain rfl : z12 = z2 := by rw [ez12, ez2]; exact congrArg xs (show z11.toInt.toNat = z1.toInt.toNat by omega)
  obtain rfl : z14 = z4 := by rw [ez14, ez4]; exact congrArg xs (show z13.toInt.toNat = z3.toInt.toNat by omega)
  obtain rfl : z16 = z6 := by rw [ez16, ez6]; exact congrArg xs (show z15.toInt.toNat = z5.toInt.toNat by omega)
  refine lv_pop hx hb dL_law_2022 rfl ?_
  refine lv_goto (tgt := 2162) hx hb dL_law_2023 (by decide) ?_
  exact kk _ w8 w18 H locs ls hk9 hk19 hP hD hS (lv_sub hl [0, 1, 2, 3] rfl)
set_option maxHeartbeats 8000000 in
set_option maxRecDepth 100000 in
theorem law_c60 {p : Program} {l : Launch} {e : Env} {s : State} {m : MethodId} {below : List Frame} {meth : Method} {c : Code} {A : Nat → Prop} {b L : Nat} {xs : Nat → Int32} (hx : p.tables.exec = Jvm.exec) (hb : c.code = code) (hml : c.maxLocals = 4) (hr : meth.sig.returnType = ret) (hlocks : meth.locks = false) (hX : va_X b L xs s s.heap) (hbl : b < s.heap.size) (hbA : ¬ A b) (hA : ∀ q : Nat, s.heap.size ≤ q → A q) (hAf : ∀ q : Nat, A q → s.heap.size ≤ q) (D : va_G) (G : ct_G) (cI cJ cB cZ cO : ClassId) (g : Gh) (h0 h1 : Nat) (hown : s.vm.findClass RL = some m.cls) (hts : ∀ w ∈ wsL_law, w.before #[Value.ref b] s = true) (hE : ct_E D (ct_T cI cJ cB cZ cO) G s) (hH : ct_H G A s s.heap) (hL : L ≤ 3072) (i : Nat) (hi : i + 6 ≤ L) (wx wm : va_W) (hX0 : XOK cI cJ cB cZ cO g h0 wx) (hM0 : MOK cI cJ cB cZ cO g h1 wm) {H : Heap} {locs : List Loc} (hP : va_P D vwCl (wx ++ wm) H) (hD : va_D A (wx ++ wm)) (hS : va_S A s.heap H locs) {ls : Array Slot} (hl : lv_has ls 4 [(3, .int (nI i)), (2, .ref h1), (1, .ref h0), (0, .ref b)]) (kk : ∀ (g : Gh) (wx wm : va_W) (H : Heap) (locs : List Loc) (ls : Array Slot), XOK cI cJ cB cZ cO g h0 wx → MOK cI cJ cB cZ cO g h1 wm → va_P D vwCl (wx ++ wm) H → va_D A (wx ++ wm) → va_S A s.heap H locs → lv_has ls 4 [(3, .int (nI i)), (2, .ref h1), (1, .ref h0), (0, .ref b)] → W p l e room_1 s m #[Value.ref b] below meth c H locs 107 36842 (lw_Z below #[Value.ref b] s) (F0 m 2162 ls [])) : W p l e room_1 s m #[Value.ref b] below meth c H locs 107 36842 (lw_Z below #[Value.ref b] s) (F0 m 2026 ls []) := by
  have hK := hE.1
  have hni : (nI i).toInt = (i : Int) := nI_toInt (by omega)
  refine lv_aload_n hx hb dL_law_2026 rfl (lv_at hl 2 rfl) ?_
  refine lv_aload_n hx hb dL_law_2027 rfl (lv_at hl 3 rfl) ?_
  refine lv_iload_n hx hb dL_law_2028 rfl (lv_at hl 0 rfl) ?_
  refine lv_iconst (v := 1) hx hb dL_law_2029 (by decide) ?_
  refine lv_iadd hx hb dL_law_2030 ?_
  refine lv_topi (fun z1 ez1 => ?_)
  have fz1 : z1.toInt = (nI i).toInt + 1 := by rw [ez1]; exact tq_add rfl (by decide) (by omega)
  refine va_sld hx hb hX hbl hbA hS (tq_in rfl (by omega)) dL_law_2031 ?_
  refine lv_topi (fun z2 ez2 => ?_)
  refine lv_aload_n hx hb dL_law_2032 rfl (lv_at hl 3 rfl) ?_
  refine lv_iload_n hx hb dL_law_2033 rfl (lv_at hl 0 rfl) ?_
  refine lv_iconst (v := 2) hx hb dL_law_2034 (by decide) ?_
  refine lv_iadd hx hb dL_law_2035 ?_
  refine lv_topi (fun z3 ez3 => ?_)
  have fz3 : z3.toInt = (nI i).toInt + 2 := by rw [ez3]; exact tq_add rfl (by decide) (by omega)
  refine va_sld hx hb hX hbl hbA hS (tq_in rfl (by omega)) dL_law_2036 ?_
  refine lv_topi (fun z4 ez4 => ?_)
  refine lv_aload_n hx hb dL_law_2037 rfl (lv_at hl 3 rfl) ?_
  refine lv_iload_n hx hb dL_law_2038 rfl (lv_at hl 0 rfl) ?_
  refine lv_iconst (v := 3) hx hb dL_law_2039 (by decide) ?_
  refine lv_iadd hx hb dL_law_2040 ?_
  refine lv_topi (fun z5 ez5 => ?_)
  have fz5 : z5.toInt = (nI i).toInt + 3 := by rw [ez5]; exact tq_add rfl (by decide) (by omega)
  refine va_sld hx hb hX hbl hbA hS (tq_in rfl (by omega)) dL_law_2041 ?_
  refine lv_topi (fun z6 ez6 => ?_)
  refine lv_i2l (v := _) hx hb dL_law_2042 rfl ?_
  refine lv_topl (fun z7 ez7 => ?_)
  have fz7 : z7.toInt = z6.toInt := by rw [ez7]; exact tl_i rfl
  have hb8 := tq_lo z6
  refine lv_bipush (v := 32) hx hb dL_law_2043 (by decide) ?_
  refine lv_lshl (v := _) hx hb dL_law_2045 rfl ?_
  refine lv_topl (fun z9 ez9 => ?_)
  refine lv_aload_n hx hb dL_law_2046 rfl (lv_at hl 3 rfl) ?_
  refine lv_iload_n hx hb dL_law_2047 rfl (lv_at hl 0 rfl) ?_
  refine lv_iconst (v := 4) hx hb dL_law_2048 (by decide) ?_
  refine lv_iadd hx hb dL_law_2049 ?_
  refine lv_topi (fun z10 ez10 => ?_)
  have fz10 : z10.toInt = (nI i).toInt + 4 := by rw [ez10]; exact tq_add rfl (by decide) (by omega)
  refine va_sld hx hb hX hbl hbA hS (tq_in rfl (by omega)) dL_law_2050 ?_
  refine lv_topi (fun z11 ez11 => ?_)
  refine lv_i2l (v := _) hx hb dL_law_2051 rfl ?_
  refine lv_topl (fun z12 ez12 => ?_)
  have fz12 : z12.toInt = z11.toInt := by rw [ez12]; exact tl_i rfl
  have hb13 := tq_lo z11
  refine lv_ldc2 (v := 4294967295) hx hb hown (hts (.constantLong RL 262 (4294967295)) (by decide +kernel)) dL_law_2052 ?_
  refine lv_land hx hb dL_law_2055 ?_
  refine lv_topl (fun z14 ez14 => ?_)
  refine lv_lor hx hb dL_law_2056 ?_
  refine lv_topl (fun z15 ez15 => ?_)
  refine ct_callAi (D := D) (wx := wx) (wm := wm) (va_runV (As := [.int z2, .int z4, .long z15]) (rest := []) ⟨hx, hb, hml, hown, hts⟩ (k_X11_write l D G cI cJ cB cZ cO g h0 wx hX0 z2 z4 z15 H.size) (cwV 3 hts gL_law_X11_write rfl rfl rfl (by decide +kernel) ⟨Nat.le_of_ble_eq_true rfl, Nat.le_of_ble_eq_true rfl⟩) (ct_preA (T := ct_T cI cJ cB cZ cO) (ci := 11) hE hH hP hD hS hA (XOK_at hX0) rfl) rfl rfl hl.1 rfl (lv_room (Nat.le_of_ble_eq_true rfl)) dL_law_2057 ⟨Nat.le_of_ble_eq_true rfl, Nat.le_of_ble_eq_true rfl⟩) hP hD hS hA (fun r16 w17 H locs hw hP hD hS => ?_)
  obtain ⟨hk18, hz19⟩ := hw
  refine lv_pop hx hb dL_law_2060 rfl ?_
  refine lv_aload_n hx hb dL_law_2061 rfl (lv_at hl 1 rfl) ?_
  refine lv_aload_n hx hb dL_law_2062 rfl (lv_at hl 3 rfl) ?_
  refine lv_iload_n hx hb dL_law_2063 rfl (lv_at hl 0 rfl) ?_
  refine lv_iconst (v := 1) hx hb dL_law_2064 (by decide) ?_
  refine lv_iadd hx hb dL_law_2065 ?_
  refine lv_topi (fun z20 ez20 => ?_)
  have fz20 : z20.toInt = (nI i).toInt + 1 := by rw [ez20]; exact tq_add rfl (by decide) (by omega)
  refine va_sld hx hb hX hbl hbA hS (tq_in rfl (by omega)) dL_law_2066 ?_
  refine lv_topi (fun z21 ez21 => ?_)
  refine lv_aload_n hx hb dL_law_2067 rfl (lv_at hl 3 rfl) ?_
  refine lv_iload_n hx hb dL_law_2068 rfl (lv_at hl 0 rfl) ?_
  refine lv_iconst (v := 2) hx hb dL_law_2069 (by decide) ?_
  refine lv_iadd hx hb dL_law_2070 ?_
  refine lv_topi (fun z22 ez22 => ?_)
  have fz22 : z22.toInt = (nI i).toInt + 2 := by rw [ez22]; exact tq_add rfl (by decide) (by omega)
  refine va_sld hx hb hX hbl hbA hS (tq_in rfl (by omega)) dL_law_2071 ?_
  refine lv_topi (fun z23 ez23 => ?_)
  refine lv_aload_n hx hb dL_law_2072 rfl (lv_at hl 3 rfl) ?_
  refine lv_iload_n hx hb dL_law_2073 rfl (lv_at hl 0 rfl) ?_
  refine lv_iconst (v := 3) hx hb dL_law_2074 (by decide) ?_
  refine lv_iadd hx hb dL_law_2075 ?_
  refine lv_topi (fun z24 ez24 => ?_)
  have fz24 : z24.toInt = (nI i).toInt + 3 := by rw [ez24]; exact tq_add rfl (by decide) (by omega)
  refine va_sld hx hb hX hbl hbA hS (tq_in rfl (by omega)) dL_law_2076 ?_
  refine lv_topi (fun z25 ez25 => ?_)
  refine lv_i2l (v := _) hx hb dL_law_2077 rfl ?_
  refine lv_topl (fun z26 ez26 => ?_)
  have fz26 : z26.toInt = z25.toInt := by rw [ez26]; exact tl_i rfl
  have hb27 := tq_lo z25
  refine lv_bipush (v := 32) hx hb dL_law_2078 (by decide) ?_
  refine lv_lshl (v := _) hx hb dL_law_2080 rfl ?_
  refine lv_topl (fun z28 ez28 => ?_)
  refine lv_aload_n hx hb dL_law_2081 rfl (lv_at hl 3 rfl) ?_
  refine lv_iload_n hx hb dL_law_2082 rfl (lv_at hl 0 rfl) ?_
  refine lv_iconst (v := 4) hx hb dL_law_2083 (by decide) ?_
  refine lv_iadd hx hb dL_law_2084 ?_
  refine lv_topi (fun z29 ez29 => ?_)
  have fz29 : z29.toInt = (nI i).toInt + 4 := by rw [ez29]; exact tq_add rfl (by decide) (by omega)
  refine va_sld hx hb hX hbl hbA hS (tq_in rfl (by omega)) dL_law_2085 ?_
  refine lv_topi (fun z30 ez30 => ?_)
  refine lv_i2l (v := _) hx hb dL_law_2086 rfl ?_
  refine lv_topl (fun z31 ez31 => ?_)
  have fz31 : z31.toInt = z30.toInt := by rw [ez31]; exact tl_i rfl
  have hb32 := tq_lo z30
  refine lv_ldc2 (v := 4294967295) hx hb hown (hts (.constantLong RL 262 (4294967295)) (by decide +kernel)) dL_law_2087 ?_
  refine lv_land hx hb dL_law_2090 ?_
  refine lv_topl (fun z33 ez33 => ?_)
  refine lv_lor hx hb dL_law_2091 ?_
  refine lv_topl (fun z34 ez34 => ?_)
  refine ct_callAi (D := D) (wx := wm) (wm := w17) (va_runV (As := [.int z21, .int z23, .long z34]) (rest := []) ⟨hx, hb, hml, hown, hts⟩ (k_X12_write l D G cI cJ cB cZ cO g h1 wm hM0 z21 z23 z34 H.size) (cwV 3 hts gL_law_X12_write rfl rfl rfl (by decide +kernel) ⟨Nat.le_of_ble_eq_true rfl, Nat.le_of_ble_eq_true rfl⟩) (ct_preA (T := ct_T cI cJ cB cZ cO) (ci := 12) hE hH hP hD hS hA (MOK_at hM0) rfl) rfl rfl hl.1 rfl (lv_room (Nat.le_of_ble_eq_true rfl)) dL_law_2092 ⟨Nat.le_of_ble_eq_true rfl, Nat.le_of_ble_eq_true rfl⟩) hP hD hS hA (fun r35 w36 H locs hw hP hD hS => ?_)
  obtain ⟨hk37, hz38⟩ := hw
  obtain rfl : z21 = z2 := by rw [ez21, ez2]; exact congrArg xs (show z20.toInt.toNat = z1.toInt.toNat by omega)
  obtain rfl : z23 = z4 := by rw [ez23, ez4]; exact congrArg xs (show z22.toInt.toNat = z3.toInt.toNat by omega)
  obtain rfl : z25 = z6 := by rw [ez25, ez6]; exact congrArg xs (show z24.toInt.toNat = z5.toInt.toNat by omega)
  obtain rfl : z26 = z7 := ez26.trans ez7.symm
  obtain rfl : z28 = z9 := ez28.trans ez9.symm
  obtain rfl : z30 = z11 := by rw [ez30, ez11]; exact congrArg xs (show z29.toInt.toNat = z10.toInt.toNat by omega)
  obtain rfl : z31 = z12 := ez31.trans ez12.symm
  obtain rfl : z33 = z14 := ez33.trans ez14.symm
  obtain rfl : z34 = z15 := ez34.trans ez15.symm
  refine lv_pop hx hb dL_law_2095 rfl ?_
  refine lv_goto (tgt := 2162) hx hb dL_law_2096 (by decide) ?_
  exact kk _ w17 w36 H locs ls hk18 hk37 hP hD hS (lv_sub hl [0, 1, 2, 3] rfl)
set_option maxHeartbeats 8000000 in
set_option maxRecDepth 100000 in
theorem law_c61 {p : Program} {l : Launch} {e : Env} {s : State} {m : MethodId} {below : List Frame} {meth : Method} {c : Code} {A : Nat → Prop} {b L : Nat} {xs : Nat → Int32} (hx : p.tables.exec = Jvm.exec) (hb : c.code = code) (hml : c.maxLocals = 4) (hr : meth.sig.returnType = ret) (hlocks : meth.locks = false) (hX : va_X b L xs s s.heap) (hbl : b < s.heap.size) (hbA : ¬ A b) (hA : ∀ q : Nat, s.heap.size ≤ q → A q) (hAf : ∀ q : Nat, A q → s.heap.size ≤ q) (D : va_G) (G : ct_G) (cI cJ cB cZ cO : ClassId) (g : Gh) (h0 h1 : Nat) (hown : s.vm.findClass RL = some m.cls) (hts : ∀ w ∈ wsL_law, w.before #[Value.ref b] s = true) (hE : ct_E D (ct_T cI cJ cB cZ cO) G s) (hH : ct_H G A s s.heap) (hL : L ≤ 3072) (i : Nat) (hi : i + 6 ≤ L) (wx wm : va_W) (hX0 : XOK cI cJ cB cZ cO g h0 wx) (hM0 : MOK cI cJ cB cZ cO g h1 wm) {H : Heap} {locs : List Loc} (hP : va_P D vwCl (wx ++ wm) H) (hD : va_D A (wx ++ wm)) (hS : va_S A s.heap H locs) {ls : Array Slot} (hl : lv_has ls 4 [(3, .int (nI i)), (2, .ref h1), (1, .ref h0), (0, .ref b)]) (kk : ∀ (g : Gh) (wx wm : va_W) (H : Heap) (locs : List Loc) (ls : Array Slot), XOK cI cJ cB cZ cO g h0 wx → MOK cI cJ cB cZ cO g h1 wm → va_P D vwCl (wx ++ wm) H → va_D A (wx ++ wm) → va_S A s.heap H locs → lv_has ls 4 [(3, .int (nI i)), (2, .ref h1), (1, .ref h0), (0, .ref b)] → W p l e room_1 s m #[Value.ref b] below meth c H locs 107 36842 (lw_Z below #[Value.ref b] s) (F0 m 2162 ls [])) : W p l e room_1 s m #[Value.ref b] below meth c H locs 107 36842 (lw_Z below #[Value.ref b] s) (F0 m 2099 ls []) := by
  have hK := hE.1
  have hni : (nI i).toInt = (i : Int) := nI_toInt (by omega)
  refine lv_aload_n hx hb dL_law_2099 rfl (lv_at hl 2 rfl) ?_
  refine lv_aload_n hx hb dL_law_2100 rfl (lv_at hl 3 rfl) ?_
  refine lv_iload_n hx hb dL_law_2101 rfl (lv_at hl 0 rfl) ?_
  refine lv_iconst (v := 1) hx hb dL_law_2102 (by decide) ?_
  refine lv_iadd hx hb dL_law_2103 ?_
  refine lv_topi (fun z1 ez1 => ?_)
  have fz1 : z1.toInt = (nI i).toInt + 1 := by rw [ez1]; exact tq_add rfl (by decide) (by omega)
  refine va_sld hx hb hX hbl hbA hS (tq_in rfl (by omega)) dL_law_2104 ?_
  refine lv_topi (fun z2 ez2 => ?_)
  refine lv_aload_n hx hb dL_law_2105 rfl (lv_at hl 3 rfl) ?_
  refine lv_iload_n hx hb dL_law_2106 rfl (lv_at hl 0 rfl) ?_
  refine lv_iconst (v := 2) hx hb dL_law_2107 (by decide) ?_
  refine lv_iadd hx hb dL_law_2108 ?_
  refine lv_topi (fun z3 ez3 => ?_)
  have fz3 : z3.toInt = (nI i).toInt + 2 := by rw [ez3]; exact tq_add rfl (by decide) (by omega)
  refine va_sld hx hb hX hbl hbA hS (tq_in rfl (by omega)) dL_law_2109 ?_
  refine lv_topi (fun z4 ez4 => ?_)
  refine lv_aload_n hx hb dL_law_2110 rfl (lv_at hl 3 rfl) ?_
  refine lv_iload_n hx hb dL_law_2111 rfl (lv_at hl 0 rfl) ?_
  refine lv_iconst (v := 3) hx hb dL_law_2112 (by decide) ?_
  refine lv_iadd hx hb dL_law_2113 ?_
  refine lv_topi (fun z5 ez5 => ?_)
  have fz5 : z5.toInt = (nI i).toInt + 3 := by rw [ez5]; exact tq_add rfl (by decide) (by omega)
  refine va_sld hx hb hX hbl hbA hS (tq_in rfl (by omega)) dL_law_2114 ?_
  refine lv_topi (fun z6 ez6 => ?_)
  refine lv_aload_n hx hb dL_law_2115 rfl (lv_at hl 3 rfl) ?_
  refine lv_iload_n hx hb dL_law_2116 rfl (lv_at hl 0 rfl) ?_
  refine lv_iconst (v := 4) hx hb dL_law_2117 (by decide) ?_
  refine lv_iadd hx hb dL_law_2118 ?_
  refine lv_topi (fun z7 ez7 => ?_)
  have fz7 : z7.toInt = (nI i).toInt + 4 := by rw [ez7]; exact tq_add rfl (by decide) (by omega)
  refine va_sld hx hb hX hbl hbA hS (tq_in rfl (by omega)) dL_law_2119 ?_
  refine lv_topi (fun z8 ez8 => ?_)
  refine lv_aload_n hx hb dL_law_2120 rfl (lv_at hl 3 rfl) ?_
  refine lv_iload_n hx hb dL_law_2121 rfl (lv_at hl 0 rfl) ?_
  refine lv_iconst (v := 5) hx hb dL_law_2122 (by decide) ?_
  refine lv_iadd hx hb dL_law_2123 ?_
  refine lv_topi (fun z9 ez9 => ?_)
  have fz9 : z9.toInt = (nI i).toInt + 5 := by rw [ez9]; exact tq_add rfl (by decide) (by omega)
  refine va_sld hx hb hX hbl hbA hS (tq_in rfl (by omega)) dL_law_2124 ?_
  refine lv_topi (fun z10 ez10 => ?_)
  refine ct_callAi (D := D) (wx := wx) (wm := wm) (va_runV (As := [.int z2, .int z4, .int z6, .int z8, .int z10]) (rest := []) ⟨hx, hb, hml, hown, hts⟩ (k_X11_paste l D G cI cJ cB cZ cO g h0 wx hX0 z2 z4 z6 z8 z10 H.size) (cwV 5 hts gL_law_X11_paste rfl rfl rfl (by decide +kernel) ⟨Nat.le_of_ble_eq_true rfl, Nat.le_of_ble_eq_true rfl⟩) (ct_preA (T := ct_T cI cJ cB cZ cO) (ci := 11) hE hH hP hD hS hA (XOK_at hX0) rfl) rfl rfl hl.1 rfl (lv_room (Nat.le_of_ble_eq_true rfl)) dL_law_2125 ⟨Nat.le_of_ble_eq_true rfl, Nat.le_of_ble_eq_true rfl⟩) hP hD hS hA (fun r11 w12 H locs hw hP hD hS => ?_)
  obtain ⟨hk13, hz14⟩ := hw
  refine lv_pop hx hb dL_law_2128 rfl ?_
  refine lv_aload_n hx hb dL_law_2129 rfl (lv_at hl 1 rfl) ?_
  refine lv_aload_n hx hb dL_law_2130 rfl (lv_at hl 3 rfl) ?_
  refine lv_iload_n hx hb dL_law_2131 rfl (lv_at hl 0 rfl) ?_
  refine lv_iconst (v := 1) hx hb dL_law_2132 (by decide) ?_
  refine lv_iadd hx hb dL_law_2133 ?_
  refine lv_topi (fun z15 ez15 => ?_)
  have fz15 : z15.toInt = (nI i).toInt + 1 := by rw [ez15]; exact tq_add rfl (by decide) (by omega)
  refine va_sld hx hb hX hbl hbA hS (tq_in rfl (by omega)) dL_law_2134 ?_
  refine lv_topi (fun z16 ez16 => ?_)
  refine lv_aload_n hx hb dL_law_2135 rfl (lv_at hl 3 rfl) ?_
  refine lv_iload_n hx hb dL_law_2136 rfl (lv_at hl 0 rfl) ?_
  refine lv_iconst (v := 2) hx hb dL_law_2137 (by decide) ?_
  refine lv_iadd hx hb dL_law_2138 ?_
  refine lv_topi (fun z17 ez17 => ?_)
  have fz17 : z17.toInt = (nI i).toInt + 2 := by rw [ez17]; exact tq_add rfl (by decide) (by omega)
  refine va_sld hx hb hX hbl hbA hS (tq_in rfl (by omega)) dL_law_2139 ?_
  refine lv_topi (fun z18 ez18 => ?_)
  refine lv_aload_n hx hb dL_law_2140 rfl (lv_at hl 3 rfl) ?_
  refine lv_iload_n hx hb dL_law_2141 rfl (lv_at hl 0 rfl) ?_
  refine lv_iconst (v := 3) hx hb dL_law_2142 (by decide) ?_
  refine lv_iadd hx hb dL_law_2143 ?_
  refine lv_topi (fun z19 ez19 => ?_)
  have fz19 : z19.toInt = (nI i).toInt + 3 := by rw [ez19]; exact tq_add rfl (by decide) (by omega)
  refine va_sld hx hb hX hbl hbA hS (tq_in rfl (by omega)) dL_law_2144 ?_
  refine lv_topi (fun z20 ez20 => ?_)
  refine lv_aload_n hx hb dL_law_2145 rfl (lv_at hl 3 rfl) ?_
  refine lv_iload_n hx hb dL_law_2146 rfl (lv_at hl 0 rfl) ?_
  refine lv_iconst (v := 4) hx hb dL_law_2147 (by decide) ?_
  refine lv_iadd hx hb dL_law_2148 ?_
  refine lv_topi (fun z21 ez21 => ?_)
  have fz21 : z21.toInt = (nI i).toInt + 4 := by rw [ez21]; exact tq_add rfl (by decide) (by omega)
  refine va_sld hx hb hX hbl hbA hS (tq_in rfl (by omega)) dL_law_2149 ?_
  refine lv_topi (fun z22 ez22 => ?_)
  refine lv_aload_n hx hb dL_law_2150 rfl (lv_at hl 3 rfl) ?_
  refine lv_iload_n hx hb dL_law_2151 rfl (lv_at hl 0 rfl) ?_
  refine lv_iconst (v := 5) hx hb dL_law_2152 (by decide) ?_
  refine lv_iadd hx hb dL_law_2153 ?_
  refine lv_topi (fun z23 ez23 => ?_)
  have fz23 : z23.toInt = (nI i).toInt + 5 := by rw [ez23]; exact tq_add rfl (by decide) (by omega)
  refine va_sld hx hb hX hbl hbA hS (tq_in rfl (by omega)) dL_law_2154 ?_
  refine lv_topi (fun z24 ez24 => ?_)
  refine ct_callAi (D := D) (wx := wm) (wm := w12) (va_runV (As := [.int z16, .int z18, .int z20, .int z22, .int z24]) (rest := []) ⟨hx, hb, hml, hown, hts⟩ (k_X12_paste l D G cI cJ cB cZ cO g h1 wm hM0 z16 z18 z20 z22 z24 H.size) (cwV 5 hts gL_law_X12_paste rfl rfl rfl (by decide +kernel) ⟨Nat.le_of_ble_eq_true rfl, Nat.le_of_ble_eq_true rfl⟩) (ct_preA (T := ct_T cI cJ cB cZ cO) (ci := 12) hE hH hP hD hS hA (MOK_at hM0) rfl) rfl rfl hl.1 rfl (lv_room (Nat.le_of_ble_eq_true rfl)) dL_law_2155 ⟨Nat.le_of_ble_eq_true rfl, Nat.le_of_ble_eq_true rfl⟩) hP hD hS hA (fun r25 w26 H locs hw hP hD hS => ?_)
  obtain ⟨hk27, hz28⟩ := hw
  obtain rfl : z16 = z2 := by rw [ez16, ez2]; exact congrArg xs (show z15.toInt.toNat = z1.toInt.toNat by omega)
  obtain rfl : z18 = z4 := by rw [ez18, ez4]; exact congrArg xs (show z17.toInt.toNat = z3.toInt.toNat by omega)
  obtain rfl : z20 = z6 := by rw [ez20, ez6]; exact congrArg xs (show z19.toInt.toNat = z5.toInt.toNat by omega)
  obtain rfl : z22 = z8 := by rw [ez22, ez8]; exact congrArg xs (show z21.toInt.toNat = z7.toInt.toNat by omega)
  obtain rfl : z24 = z10 := by rw [ez24, ez10]; exact congrArg xs (show z23.toInt.toNat = z9.toInt.toNat by omega)
  refine lv_pop hx hb dL_law_2158 rfl ?_
  refine lv_goto (tgt := 2162) hx hb dL_law_2159 (by decide) ?_
  exact kk _ w12 w26 H locs ls hk13 hk27 hP hD hS (lv_sub hl [0, 1, 2, 3] rfl)
