set_option maxHeartbeats 8000000 in
set_option maxRecDepth 100000 in
theorem law_c16 {p : Program} {l : Launch} {e : Env} {s : State} {m : MethodId} {below : List Frame} {meth : Method} {c : Code} {A : Nat → Prop} {b L : Nat} {xs : Nat → Int32} (hx : p.tables.exec = Jvm.exec) (hb : c.code = code) (hml : c.maxLocals = 4) (hr : meth.sig.returnType = ret) (hlocks : meth.locks = false) (hX : va_X b L xs s s.heap) (hbl : b < s.heap.size) (hbA : ¬ A b) (hA : ∀ q : Nat, s.heap.size ≤ q → A q) (hAf : ∀ q : Nat, A q → s.heap.size ≤ q) (D : va_G) (G : ct_G) (cI cJ cB cZ cO : ClassId) (g : Gh) (h0 h1 : Nat) (hown : s.vm.findClass RL = some m.cls) (hts : ∀ w ∈ wsL_law, w.before #[Value.ref b] s = true) (hE : ct_E D (ct_T cI cJ cB cZ cO) G s) (hH : ct_H G A s s.heap) (hL : L ≤ 3072) (i : Nat) (hi : i + 6 ≤ L) (wx wm : va_W) (hX0 : XOK cI cJ cB cZ cO g h0 wx) (hM0 : MOK cI cJ cB cZ cO g h1 wm) {H : Heap} {locs : List Loc} (hP : va_P D vwCl (wx ++ wm) H) (hD : va_D A (wx ++ wm)) (hS : va_S A s.heap H locs) {ls : Array Slot} (hl : lv_has ls 4 [(3, .int (nI i)), (2, .ref h1), (1, .ref h0), (0, .ref b)]) (kk : ∀ (g : Gh) (wx wm : va_W) (H : Heap) (locs : List Loc) (ls : Array Slot), XOK cI cJ cB cZ cO g h0 wx → MOK cI cJ cB cZ cO g h1 wm → va_P D vwCl (wx ++ wm) H → va_D A (wx ++ wm) → va_S A s.heap H locs → lv_has ls 4 [(3, .int (nI i)), (2, .ref h1), (1, .ref h0), (0, .ref b)] → W p l e room_1 s m #[Value.ref b] below meth c H locs 107 36842 (lw_Z below #[Value.ref b] s) (F0 m 2162 ls [])) : W p l e room_1 s m #[Value.ref b] below meth c H locs 107 36842 (lw_Z below #[Value.ref b] s) (F0 m 804 ls []) := by
  have hK := hE.1
  have hni : (nI i).toInt = (i : Int) := nI_toInt (by omega)
  refine lv_aload_n hx hb dL_law_804 rfl (lv_at hl 2 rfl) ?_
  refine lv_aload_n hx hb dL_law_805 rfl (lv_at hl 3 rfl) ?_
  refine lv_iload_n hx hb dL_law_806 rfl (lv_at hl 0 rfl) ?_
  refine lv_iconst (v := 1) hx hb dL_law_807 (by decide) ?_
  refine lv_iadd hx hb dL_law_808 ?_
  refine lv_topi (fun z1 ez1 => ?_)
  have fz1 : z1.toInt = (nI i).toInt + 1 := by rw [ez1]; exact tq_add rfl (by decide) (by omega)
  refine va_sld hx hb hX hbl hbA hS (tq_in rfl (by omega)) dL_law_809 ?_
  refine lv_topi (fun z2 ez2 => ?_)
  refine lv_aload_n hx hb dL_law_810 rfl (lv_at hl 3 rfl) ?_
  refine lv_iload_n hx hb dL_law_811 rfl (lv_at hl 0 rfl) ?_
  refine lv_iconst (v := 2) hx hb dL_law_812 (by decide) ?_
  refine lv_iadd hx hb dL_law_813 ?_
  refine lv_topi (fun z3 ez3 => ?_)
  have fz3 : z3.toInt = (nI i).toInt + 2 := by rw [ez3]; exact tq_add rfl (by decide) (by omega)
  refine va_sld hx hb hX hbl hbA hS (tq_in rfl (by omega)) dL_law_814 ?_
  refine lv_topi (fun z4 ez4 => ?_)
  refine ct_callAi (D := D) (wx := wx) (wm := wm) (va_runV (As := [.int z2, .int z4]) (rest := []) ⟨hx, hb, hml, hown, hts⟩ (k_X11_begins l D G cI cJ cB cZ cO g h0 wx hX0 z2 z4 H.size) (cwV 2 hts gL_law_X11_begins rfl rfl rfl (by decide +kernel) ⟨Nat.le_of_ble_eq_true rfl, Nat.le_of_ble_eq_true rfl⟩) (ct_preA (T := ct_T cI cJ cB cZ cO) (ci := 11) hE hH hP hD hS hA (XOK_at hX0) rfl) rfl rfl hl.1 rfl (lv_room (Nat.le_of_ble_eq_true rfl)) dL_law_815 ⟨Nat.le_of_ble_eq_true rfl, Nat.le_of_ble_eq_true rfl⟩) hP hD hS hA (fun r5 w6 H locs hw hP hD hS => ?_)
  obtain ⟨hk7, hz8⟩ := hw
  refine lv_pop hx hb dL_law_818 rfl ?_
  refine lv_aload_n hx hb dL_law_819 rfl (lv_at hl 1 rfl) ?_
  refine lv_aload_n hx hb dL_law_820 rfl (lv_at hl 3 rfl) ?_
  refine lv_iload_n hx hb dL_law_821 rfl (lv_at hl 0 rfl) ?_
  refine lv_iconst (v := 1) hx hb dL_law_822 (by decide) ?_
  refine lv_iadd hx hb dL_law_823 ?_
  refine lv_topi (fun z9 ez9 => ?_)
  have fz9 : z9.toInt = (nI i).toInt + 1 := by rw [ez9]; exact tq_add rfl (by decide) (by omega)
  refine va_sld hx hb hX hbl hbA hS (tq_in rfl (by omega)) dL_law_824 ?_
  refine lv_topi (fun z10 ez10 => ?_)
  refine lv_aload_n hx hb dL_law_825 rfl (lv_at hl 3 rfl) ?_
  refine lv_iload_n hx hb dL_law_826 rfl (lv_at hl 0 rfl) ?_
  refine lv_iconst (v := 2) hx hb dL_law_827 (by decide) ?_
  refine lv_iadd hx hb dL_law_828 ?_
  refine lv_topi (fun z11 ez11 => ?_)
  have fz11 : z11.toInt = (nI i).toInt + 2 := by rw [ez11]; exact tq_add rfl (by decide) (by omega)
  refine va_sld hx hb hX hbl hbA hS (tq_in rfl (by omega)) dL_law_829 ?_
  refine lv_topi (fun z12 ez12 => ?_)
  refine ct_callAi (D := D) (wx := wm) (wm := w6) (va_runV (As := [.int z10, .int z12]) (rest := []) ⟨hx, hb, hml, hown, hts⟩ (k_X12_begins_ l D G cI cJ cB cZ cO g h1 wm hM0 z10 z12 H.size) (cwV 2 hts gL_law_X12_begins_ rfl rfl rfl (by decide +kernel) ⟨Nat.le_of_ble_eq_true rfl, Nat.le_of_ble_eq_true rfl⟩) (ct_preA (T := ct_T cI cJ cB cZ cO) (ci := 12) hE hH hP hD hS hA (MOK_at hM0) rfl) rfl rfl hl.1 rfl (lv_room (Nat.le_of_ble_eq_true rfl)) dL_law_830 ⟨Nat.le_of_ble_eq_true rfl, Nat.le_of_ble_eq_true rfl⟩) hP hD hS hA (fun r13 w14 H locs hw hP hD hS => ?_)
  obtain ⟨hk15, hz16⟩ := hw
  refine lv_pop hx hb dL_law_833 rfl ?_
  refine lv_goto (tgt := 2162) hx hb dL_law_834 (by decide) ?_
  exact kk _ w6 w14 H locs ls hk7 hk15 hP hD hS (lv_sub hl [0, 1, 2, 3] rfl)
set_option maxHeartbeats 8000000 in
set_option maxRecDepth 100000 in
theorem law_c17 {p : Program} {l : Launch} {e : Env} {s : State} {m : MethodId} {below : List Frame} {meth : Method} {c : Code} {A : Nat → Prop} {b L : Nat} {xs : Nat → Int32} (hx : p.tables.exec = Jvm.exec) (hb : c.code = code) (hml : c.maxLocals = 4) (hr : meth.sig.returnType = ret) (hlocks : meth.locks = false) (hX : va_X b L xs s s.heap) (hbl : b < s.heap.size) (hbA : ¬ A b) (hA : ∀ q : Nat, s.heap.size ≤ q → A q) (hAf : ∀ q : Nat, A q → s.heap.size ≤ q) (D : va_G) (G : ct_G) (cI cJ cB cZ cO : ClassId) (g : Gh) (h0 h1 : Nat) (hown : s.vm.findClass RL = some m.cls) (hts : ∀ w ∈ wsL_law, w.before #[Value.ref b] s = true) (hE : ct_E D (ct_T cI cJ cB cZ cO) G s) (hH : ct_H G A s s.heap) (hL : L ≤ 3072) (i : Nat) (hi : i + 6 ≤ L) (wx wm : va_W) (hX0 : XOK cI cJ cB cZ cO g h0 wx) (hM0 : MOK cI cJ cB cZ cO g h1 wm) {H : Heap} {locs : List Loc} (hP : va_P D vwCl (wx ++ wm) H) (hD : va_D A (wx ++ wm)) (hS : va_S A s.heap H locs) {ls : Array Slot} (hl : lv_has ls 4 [(3, .int (nI i)), (2, .ref h1), (1, .ref h0), (0, .ref b)]) (kk : ∀ (g : Gh) (wx wm : va_W) (H : Heap) (locs : List Loc) (ls : Array Slot), XOK cI cJ cB cZ cO g h0 wx → MOK cI cJ cB cZ cO g h1 wm → va_P D vwCl (wx ++ wm) H → va_D A (wx ++ wm) → va_S A s.heap H locs → lv_has ls 4 [(3, .int (nI i)), (2, .ref h1), (1, .ref h0), (0, .ref b)] → W p l e room_1 s m #[Value.ref b] below meth c H locs 107 36842 (lw_Z below #[Value.ref b] s) (F0 m 2162 ls [])) : W p l e room_1 s m #[Value.ref b] below meth c H locs 107 36842 (lw_Z below #[Value.ref b] s) (F0 m 837 ls []) := by
  have hK := hE.1
  have hni : (nI i).toInt = (i : Int) := nI_toInt (by omega)
  refine lv_aload_n hx hb dL_law_837 rfl (lv_at hl 2 rfl) ?_
  refine lv_aload_n hx hb dL_law_838 rfl (lv_at hl 3 rfl) ?_
  refine lv_iload_n hx hb dL_law_839 rfl (lv_at hl 0 rfl) ?_
  refine lv_iconst (v := 1) hx hb dL_law_840 (by decide) ?_
  refine lv_iadd hx hb dL_law_841 ?_
  refine lv_topi (fun z1 ez1 => ?_)
  have fz1 : z1.toInt = (nI i).toInt + 1 := by rw [ez1]; exact tq_add rfl (by decide) (by omega)
  refine va_sld hx hb hX hbl hbA hS (tq_in rfl (by omega)) dL_law_842 ?_
  refine lv_topi (fun z2 ez2 => ?_)
  refine ct_callAi (D := D) (wx := wx) (wm := wm) (va_runV (As := [.int z2]) (rest := []) ⟨hx, hb, hml, hown, hts⟩ (k_X11_undoes l D G cI cJ cB cZ cO g h0 wx hX0 z2 H.size) (cwV 1 hts gL_law_X11_undoes rfl rfl rfl (by decide +kernel) ⟨Nat.le_of_ble_eq_true rfl, Nat.le_of_ble_eq_true rfl⟩) (ct_preA (T := ct_T cI cJ cB cZ cO) (ci := 11) hE hH hP hD hS hA (XOK_at hX0) rfl) rfl rfl hl.1 rfl (lv_room (Nat.le_of_ble_eq_true rfl)) dL_law_843 ⟨Nat.le_of_ble_eq_true rfl, Nat.le_of_ble_eq_true rfl⟩) hP hD hS hA (fun r3 w4 H locs hw hP hD hS => ?_)
  obtain ⟨hk5, hz6⟩ := hw
  refine lv_pop hx hb dL_law_846 rfl ?_
  refine lv_aload_n hx hb dL_law_847 rfl (lv_at hl 1 rfl) ?_
  refine lv_aload_n hx hb dL_law_848 rfl (lv_at hl 3 rfl) ?_
  refine lv_iload_n hx hb dL_law_849 rfl (lv_at hl 0 rfl) ?_
  refine lv_iconst (v := 1) hx hb dL_law_850 (by decide) ?_
  refine lv_iadd hx hb dL_law_851 ?_
  refine lv_topi (fun z7 ez7 => ?_)
  have fz7 : z7.toInt = (nI i).toInt + 1 := by rw [ez7]; exact tq_add rfl (by decide) (by omega)
  refine va_sld hx hb hX hbl hbA hS (tq_in rfl (by omega)) dL_law_852 ?_
  refine lv_topi (fun z8 ez8 => ?_)
  refine ct_callAi (D := D) (wx := wm) (wm := w4) (va_runV (As := [.int z8]) (rest := []) ⟨hx, hb, hml, hown, hts⟩ (k_X12_undoes l D G cI cJ cB cZ cO g h1 wm hM0 z8 H.size) (cwV 1 hts gL_law_X12_undoes rfl rfl rfl (by decide +kernel) ⟨Nat.le_of_ble_eq_true rfl, Nat.le_of_ble_eq_true rfl⟩) (ct_preA (T := ct_T cI cJ cB cZ cO) (ci := 12) hE hH hP hD hS hA (MOK_at hM0) rfl) rfl rfl hl.1 rfl (lv_room (Nat.le_of_ble_eq_true rfl)) dL_law_853 ⟨Nat.le_of_ble_eq_true rfl, Nat.le_of_ble_eq_true rfl⟩) hP hD hS hA (fun r9 w10 H locs hw hP hD hS => ?_)
  obtain ⟨hk11, hz12⟩ := hw
  refine lv_pop hx hb dL_law_856 rfl ?_
  refine lv_goto (tgt := 2162) hx hb dL_law_857 (by decide) ?_
  exact kk _ w4 w10 H locs ls hk5 hk11 hP hD hS (lv_sub hl [0, 1, 2, 3] rfl)
set_option maxHeartbeats 8000000 in
set_option maxRecDepth 100000 in
theorem law_c18 {p : Program} {l : Launch} {e : Env} {s : State} {m : MethodId} {below : List Frame} {meth : Method} {c : Code} {A : Nat → Prop} {b L : Nat} {xs : Nat → Int32} (hx : p.tables.exec = Jvm.exec) (hb : c.code = code) (hml : c.maxLocals = 4) (hr : meth.sig.returnType = ret) (hlocks : meth.locks = false) (hX : va_X b L xs s s.heap) (hbl : b < s.heap.size) (hbA : ¬ A b) (hA : ∀ q : Nat, s.heap.size ≤ q → A q) (hAf : ∀ q : Nat, A q → s.heap.size ≤ q) (D : va_G) (G : ct_G) (cI cJ cB cZ cO : ClassId) (g : Gh) (h0 h1 : Nat) (hown : s.vm.findClass RL = some m.cls) (hts : ∀ w ∈ wsL_law, w.before #[Value.ref b] s = true) (hE : ct_E D (ct_T cI cJ cB cZ cO) G s) (hH : ct_H G A s s.heap) (hL : L ≤ 3072) (i : Nat) (hi : i + 6 ≤ L) (wx wm : va_W) (hX0 : XOK cI cJ cB cZ cO g h0 wx) (hM0 : MOK cI cJ cB cZ cO g h1 wm) {H : Heap} {locs : List Loc} (hP : va_P D vwCl (wx ++ wm) H) (hD : va_D A (wx ++ wm)) (hS : va_S A s.heap H locs) {ls : Array Slot} (hl : lv_has ls 4 [(3, .int (nI i)), (2, .ref h1), (1, .ref h0), (0, .ref b)]) (kk : ∀ (g : Gh) (wx wm : va_W) (H : Heap) (locs : List Loc) (ls : Array Slot), XOK cI cJ cB cZ cO g h0 wx → MOK cI cJ cB cZ cO g h1 wm → va_P D vwCl (wx ++ wm) H → va_D A (wx ++ wm) → va_S A s.heap H locs → lv_has ls 4 [(3, .int (nI i)), (2, .ref h1), (1, .ref h0), (0, .ref b)] → W p l e room_1 s m #[Value.ref b] below meth c H locs 107 36842 (lw_Z below #[Value.ref b] s) (F0 m 2162 ls [])) : W p l e room_1 s m #[Value.ref b] below meth c H locs 107 36842 (lw_Z below #[Value.ref b] s) (F0 m 860 ls []) := by
  have hK := hE.1
  have hni : (nI i).toInt = (i : Int) := nI_toInt (by omega)
  refine lv_aload_n hx hb dL_law_860 rfl (lv_at hl 2 rfl) ?_
  refine lv_aload_n hx hb dL_law_861 rfl (lv_at hl 3 rfl) ?_
  refine lv_iload_n hx hb dL_law_862 rfl (lv_at hl 0 rfl) ?_
  refine lv_iconst (v := 1) hx hb dL_law_863 (by decide) ?_
  refine lv_iadd hx hb dL_law_864 ?_
  refine lv_topi (fun z1 ez1 => ?_)
  have fz1 : z1.toInt = (nI i).toInt + 1 := by rw [ez1]; exact tq_add rfl (by decide) (by omega)
  refine va_sld hx hb hX hbl hbA hS (tq_in rfl (by omega)) dL_law_865 ?_
  refine lv_topi (fun z2 ez2 => ?_)
  refine lv_aload_n hx hb dL_law_866 rfl (lv_at hl 3 rfl) ?_
  refine lv_iload_n hx hb dL_law_867 rfl (lv_at hl 0 rfl) ?_
  refine lv_iconst (v := 2) hx hb dL_law_868 (by decide) ?_
  refine lv_iadd hx hb dL_law_869 ?_
  refine lv_topi (fun z3 ez3 => ?_)
  have fz3 : z3.toInt = (nI i).toInt + 2 := by rw [ez3]; exact tq_add rfl (by decide) (by omega)
  refine va_sld hx hb hX hbl hbA hS (tq_in rfl (by omega)) dL_law_870 ?_
  refine lv_topi (fun z4 ez4 => ?_)
  refine ct_callAi (D := D) (wx := wx) (wm := wm) (va_runV (As := [.int z2, .int z4]) (rest := []) ⟨hx, hb, hml, hown, hts⟩ (k_X11_causes l D G cI cJ cB cZ cO g h0 wx hX0 z2 z4 H.size) (cwV 2 hts gL_law_X11_causes rfl rfl rfl (by decide +kernel) ⟨Nat.le_of_ble_eq_true rfl, Nat.le_of_ble_eq_true rfl⟩) (ct_preA (T := ct_T cI cJ cB cZ cO) (ci := 11) hE hH hP hD hS hA (XOK_at hX0) rfl) rfl rfl hl.1 rfl (lv_room (Nat.le_of_ble_eq_true rfl)) dL_law_871 ⟨Nat.le_of_ble_eq_true rfl, Nat.le_of_ble_eq_true rfl⟩) hP hD hS hA (fun r5 w6 H locs hw hP hD hS => ?_)
  obtain ⟨hk7, hz8⟩ := hw
  refine lv_pop hx hb dL_law_874 rfl ?_
  refine lv_aload_n hx hb dL_law_875 rfl (lv_at hl 1 rfl) ?_
  refine lv_aload_n hx hb dL_law_876 rfl (lv_at hl 3 rfl) ?_
  refine lv_iload_n hx hb dL_law_877 rfl (lv_at hl 0 rfl) ?_
  refine lv_iconst (v := 1) hx hb dL_law_878 (by decide) ?_
  refine lv_iadd hx hb dL_law_879 ?_
  refine lv_topi (fun z9 ez9 => ?_)
  have fz9 : z9.toInt = (nI i).toInt + 1 := by rw [ez9]; exact tq_add rfl (by decide) (by omega)
  refine va_sld hx hb hX hbl hbA hS (tq_in rfl (by omega)) dL_law_880 ?_
  refine lv_topi (fun z10 ez10 => ?_)
  refine lv_aload_n hx hb dL_law_881 rfl (lv_at hl 3 rfl) ?_
  refine lv_iload_n hx hb dL_law_882 rfl (lv_at hl 0 rfl) ?_
  refine lv_iconst (v := 2) hx hb dL_law_883 (by decide) ?_
  refine lv_iadd hx hb dL_law_884 ?_
  refine lv_topi (fun z11 ez11 => ?_)
  have fz11 : z11.toInt = (nI i).toInt + 2 := by rw [ez11]; exact tq_add rfl (by decide) (by omega)
  refine va_sld hx hb hX hbl hbA hS (tq_in rfl (by omega)) dL_law_885 ?_
  refine lv_topi (fun z12 ez12 => ?_)
  refine ct_callAi (D := D) (wx := wm) (wm := w6) (va_runV (As := [.int z10, .int z12]) (rest := []) ⟨hx, hb, hml, hown, hts⟩ (k_X12_causes l D G cI cJ cB cZ cO g h1 wm hM0 z10 z12 H.size) (cwV 2 hts gL_law_X12_causes rfl rfl rfl (by decide +kernel) ⟨Nat.le_of_ble_eq_true rfl, Nat.le_of_ble_eq_true rfl⟩) (ct_preA (T := ct_T cI cJ cB cZ cO) (ci := 12) hE hH hP hD hS hA (MOK_at hM0) rfl) rfl rfl hl.1 rfl (lv_room (Nat.le_of_ble_eq_true rfl)) dL_law_886 ⟨Nat.le_of_ble_eq_true rfl, Nat.le_of_ble_eq_true rfl⟩) hP hD hS hA (fun r13 w14 H locs hw hP hD hS => ?_)
  obtain ⟨hk15, hz16⟩ := hw
  refine lv_pop hx hb dL_law_889 rfl ?_
  refine lv_goto (tgt := 2162) hx hb dL_law_890 (by decide) ?_
  exact kk _ w6 w14 H locs ls hk7 hk15 hP hD hS (lv_sub hl [0, 1, 2, 3] rfl)
set_option maxHeartbeats 8000000 in
set_option maxRecDepth 100000 in
theorem law_c19 {p : Program} {l : Launch} {e : Env} {s : State} {m : MethodId} {below : List Frame} {meth : Method} {c : Code} {A : Nat → Prop} {b L : Nat} {xs : Nat → Int32} (hx : p.tables.exec = Jvm.exec) (hb : c.code = code) (hml : c.maxLocals = 4) (hr : meth.sig.returnType = ret) (hlocks : meth.locks = false) (hX : va_X b L xs s s.heap) (hbl : b < s.heap.size) (hbA : ¬ A b) (hA : ∀ q : Nat, s.heap.size ≤ q → A q) (hAf : ∀ q : Nat, A q → s.heap.size ≤ q) (D : va_G) (G : ct_G) (cI cJ cB cZ cO : ClassId) (g : Gh) (h0 h1 : Nat) (hown : s.vm.findClass RL = some m.cls) (hts : ∀ w ∈ wsL_law, w.before #[Value.ref b] s = true) (hE : ct_E D (ct_T cI cJ cB cZ cO) G s) (hH : ct_H G A s s.heap) (hL : L ≤ 3072) (i : Nat) (hi : i + 6 ≤ L) (wx wm : va_W) (hX0 : XOK cI cJ cB cZ cO g h0 wx) (hM0 : MOK cI cJ cB cZ cO g h1 wm) {H : Heap} {locs : List Loc} (hP : va_P D vwCl (wx ++ wm) H) (hD : va_D A (wx ++ wm)) (hS : va_S A s.heap H locs) {ls : Array Slot} (hl : lv_has ls 4 [(3, .int (nI i)), (2, .ref h1), (1, .ref h0), (0, .ref b)]) (kk : ∀ (g : Gh) (wx wm : va_W) (H : Heap) (locs : List Loc) (ls : Array Slot), XOK cI cJ cB cZ cO g h0 wx → MOK cI cJ cB cZ cO g h1 wm → va_P D vwCl (wx ++ wm) H → va_D A (wx ++ wm) → va_S A s.heap H locs → lv_has ls 4 [(3, .int (nI i)), (2, .ref h1), (1, .ref h0), (0, .ref b)] → W p l e room_1 s m #[Value.ref b] below meth c H locs 107 36842 (lw_Z below #[Value.ref b] s) (F0 m 2162 ls [])) : W p l e room_1 s m #[Value.ref b] below meth c H locs 107 36842 (lw_Z below #[Value.ref b] s) (F0 m 893 ls []) := by
  have hK := hE.1
  have hni : (nI i).toInt = (i : Int) := nI_toInt (by omega)
  refine lv_aload_n hx hb dL_law_893 rfl (lv_at hl 2 rfl) ?_
  refine ct_callAi (D := D) (wx := wx) (wm := wm) (va_runV (As := []) (rest := []) ⟨hx, hb, hml, hown, hts⟩ (k_X11_period l D G cI cJ cB cZ cO g h0 wx hX0  H.size) (cwV 0 hts gL_law_X11_period rfl rfl rfl (by decide +kernel) ⟨Nat.le_of_ble_eq_true rfl, Nat.le_of_ble_eq_true rfl⟩) (ct_preA (T := ct_T cI cJ cB cZ cO) (ci := 11) hE hH hP hD hS hA (XOK_at hX0) rfl) rfl rfl hl.1 rfl (lv_room (Nat.le_of_ble_eq_true rfl)) dL_law_894 ⟨Nat.le_of_ble_eq_true rfl, Nat.le_of_ble_eq_true rfl⟩) hP hD hS hA (fun r1 w2 H locs hw hP hD hS => ?_)
  obtain ⟨hk3, hz4⟩ := hw
  refine lv_pop hx hb dL_law_897 rfl ?_
  refine lv_aload_n hx hb dL_law_898 rfl (lv_at hl 1 rfl) ?_
  refine ct_callAi (D := D) (wx := wm) (wm := w2) (va_runV (As := []) (rest := []) ⟨hx, hb, hml, hown, hts⟩ (k_X12_period l D G cI cJ cB cZ cO g h1 wm hM0  H.size) (cwV 0 hts gL_law_X12_period rfl rfl rfl (by decide +kernel) ⟨Nat.le_of_ble_eq_true rfl, Nat.le_of_ble_eq_true rfl⟩) (ct_preA (T := ct_T cI cJ cB cZ cO) (ci := 12) hE hH hP hD hS hA (MOK_at hM0) rfl) rfl rfl hl.1 rfl (lv_room (Nat.le_of_ble_eq_true rfl)) dL_law_899 ⟨Nat.le_of_ble_eq_true rfl, Nat.le_of_ble_eq_true rfl⟩) hP hD hS hA (fun r5 w6 H locs hw hP hD hS => ?_)
  obtain ⟨hk7, hz8⟩ := hw
  refine lv_pop hx hb dL_law_902 rfl ?_
  refine lv_goto (tgt := 2162) hx hb dL_law_903 (by decide) ?_
  exact kk _ w2 w6 H locs ls hk3 hk7 hP hD hS (lv_sub hl [0, 1, 2, 3] rfl)
set_option maxHeartbeats 8000000 in
set_option maxRecDepth 100000 in
theorem law_c20 {p : Program} {l : Launch} {e : Env} {s : State} {m : MethodId} {below : List Frame} {meth : Method} {c : Code} {A : Nat → Prop} {b L : Nat} {xs : Nat → Int32} (hx : p.tables.exec = Jvm.exec) (hb : c.code = code) (hml : c.maxLocals = 4) (hr : meth.sig.returnType = ret) (hlocks : meth.locks = false) (hX : va_X b L xs s s.heap) (hbl : b < s.heap.size) (hbA : ¬ A b) (hA : ∀ q : Nat, s.heap.size ≤ q → A q) (hAf : ∀ q : Nat, A q → s.heap.size ≤ q) (D : va_G) (G : ct_G) (cI cJ cB cZ cO : ClassId) (g : Gh) (h0 h1 : Nat) (hown : s.vm.findClass RL = some m.cls) (hts : ∀ w ∈ wsL_law, w.before #[Value.ref b] s = true) (hE : ct_E D (ct_T cI cJ cB cZ cO) G s) (hH : ct_H G A s s.heap) (hL : L ≤ 3072) (i : Nat) (hi : i + 6 ≤ L) (wx wm : va_W) (hX0 : XOK cI cJ cB cZ cO g h0 wx) (hM0 : MOK cI cJ cB cZ cO g h1 wm) {H : Heap} {locs : List Loc} (hP : va_P D vwCl (wx ++ wm) H) (hD : va_D A (wx ++ wm)) (hS : va_S A s.heap H locs) {ls : Array Slot} (hl : lv_has ls 4 [(3, .int (nI i)), (2, .ref h1), (1, .ref h0), (0, .ref b)]) (kk : ∀ (g : Gh) (wx wm : va_W) (H : Heap) (locs : List Loc) (ls : Array Slot), XOK cI cJ cB cZ cO g h0 wx → MOK cI cJ cB cZ cO g h1 wm → va_P D vwCl (wx ++ wm) H → va_D A (wx ++ wm) → va_S A s.heap H locs → lv_has ls 4 [(3, .int (nI i)), (2, .ref h1), (1, .ref h0), (0, .ref b)] → W p l e room_1 s m #[Value.ref b] below meth c H locs 107 36842 (lw_Z below #[Value.ref b] s) (F0 m 2162 ls [])) : W p l e room_1 s m #[Value.ref b] below meth c H locs 107 36842 (lw_Z below #[Value.ref b] s) (F0 m 906 ls []) := by
  have hK := hE.1
  have hni : (nI i).toInt = (i : Int) := nI_toInt (by omega)
  refine lv_aload_n hx hb dL_law_906 rfl (lv_at hl 2 rfl) ?_
  refine lv_aload_n hx hb dL_law_907 rfl (lv_at hl 3 rfl) ?_
  refine lv_iload_n hx hb dL_law_908 rfl (lv_at hl 0 rfl) ?_
  refine lv_iconst (v := 1) hx hb dL_law_909 (by decide) ?_
  refine lv_iadd hx hb dL_law_910 ?_
  refine lv_topi (fun z1 ez1 => ?_)
  have fz1 : z1.toInt = (nI i).toInt + 1 := by rw [ez1]; exact tq_add rfl (by decide) (by omega)
  refine va_sld hx hb hX hbl hbA hS (tq_in rfl (by omega)) dL_law_911 ?_
  refine lv_topi (fun z2 ez2 => ?_)
  refine lv_aload_n hx hb dL_law_912 rfl (lv_at hl 3 rfl) ?_
  refine lv_iload_n hx hb dL_law_913 rfl (lv_at hl 0 rfl) ?_
  refine lv_iconst (v := 2) hx hb dL_law_914 (by decide) ?_
  refine lv_iadd hx hb dL_law_915 ?_
  refine lv_topi (fun z3 ez3 => ?_)
  have fz3 : z3.toInt = (nI i).toInt + 2 := by rw [ez3]; exact tq_add rfl (by decide) (by omega)
  refine va_sld hx hb hX hbl hbA hS (tq_in rfl (by omega)) dL_law_916 ?_
  refine lv_topi (fun z4 ez4 => ?_)
  refine lv_aload_n hx hb dL_law_917 rfl (lv_at hl 3 rfl) ?_
  refine lv_iload_n hx hb dL_law_918 rfl (lv_at hl 0 rfl) ?_
  refine lv_iconst (v := 3) hx hb dL_law_919 (by decide) ?_
  refine lv_iadd hx hb dL_law_920 ?_
  refine lv_topi (fun z5 ez5 => ?_)
  have fz5 : z5.toInt = (nI i).toInt + 3 := by rw [ez5]; exact tq_add rfl (by decide) (by omega)
  refine va_sld hx hb hX hbl hbA hS (tq_in rfl (by omega)) dL_law_921 ?_
  refine lv_topi (fun z6 ez6 => ?_)
  refine ct_callAi (D := D) (wx := wx) (wm := wm) (va_runV (As := [.int z2, .int z4, .int z6]) (rest := []) ⟨hx, hb, hml, hown, hts⟩ (k_X11_meets l D G cI cJ cB cZ cO g h0 wx hX0 z2 z4 z6 H.size) (cwV 3 hts gL_law_X11_meets rfl rfl rfl (by decide +kernel) ⟨Nat.le_of_ble_eq_true rfl, Nat.le_of_ble_eq_true rfl⟩) (ct_preA (T := ct_T cI cJ cB cZ cO) (ci := 11) hE hH hP hD hS hA (XOK_at hX0) rfl) rfl rfl hl.1 rfl (lv_room (Nat.le_of_ble_eq_true rfl)) dL_law_922 ⟨Nat.le_of_ble_eq_true rfl, Nat.le_of_ble_eq_true rfl⟩) hP hD hS hA (fun r7 w8 H locs hw hP hD hS => ?_)
  obtain ⟨hk9, hz10⟩ := hw
  refine lv_pop hx hb dL_law_925 rfl ?_
  refine lv_aload_n hx hb dL_law_926 rfl (lv_at hl 1 rfl) ?_
  refine lv_aload_n hx hb dL_law_927 rfl (lv_at hl 3 rfl) ?_
  refine lv_iload_n hx hb dL_law_928 rfl (lv_at hl 0 rfl) ?_
  refine lv_iconst (v := 1) hx hb dL_law_929 (by decide) ?_
  refine lv_iadd hx hb dL_law_930 ?_
  refine lv_topi (fun z11 ez11 => ?_)
  have fz11 : z11.toInt = (nI i).toInt + 1 := by rw [ez11]; exact tq_add rfl (by decide) (by omega)
  refine va_sld hx hb hX hbl hbA hS (tq_in rfl (by omega)) dL_law_931 ?_
  refine lv_topi (fun z12 ez12 => ?_)
  refine lv_aload_n hx hb dL_law_932 rfl (lv_at hl 3 rfl) ?_
  refine lv_iload_n hx hb dL_law_933 rfl (lv_at hl 0 rfl) ?_
  refine lv_iconst (v := 2) hx hb dL_law_934 (by decide) ?_
  refine lv_iadd hx hb dL_law_935 ?_
  refine lv_topi (fun z13 ez13 => ?_)
  have fz13 : z13.toInt = (nI i).toInt + 2 := by rw [ez13]; exact tq_add rfl (by decide) (by omega)
  refine va_sld hx hb hX hbl hbA hS (tq_in rfl (by omega)) dL_law_936 ?_
  refine lv_topi (fun z14 ez14 => ?_)
  refine lv_aload_n hx hb dL_law_937 rfl (lv_at hl 3 rfl) ?_
  refine lv_iload_n hx hb dL_law_938 rfl (lv_at hl 0 rfl) ?_
  refine lv_iconst (v := 3) hx hb dL_law_939 (by decide) ?_
  refine lv_iadd hx hb dL_law_940 ?_
  refine lv_topi (fun z15 ez15 => ?_)
  have fz15 : z15.toInt = (nI i).toInt + 3 := by rw [ez15]; exact tq_add rfl (by decide) (by omega)
  refine va_sld hx hb hX hbl hbA hS (tq_in rfl (by omega)) dL_law_941 ?_
  refine lv_topi (fun z16 ez16 => ?_)
  refine ct_callAi (D := D) (wx := wm) (wm := w8) (va_runV (As := [.int z12, .int z14, .int z16]) (rest := []) ⟨hx, hb, hml, hown, hts⟩ (k_X12_meets l D G cI cJ cB cZ cO g h1 wm hM0 z12 z14 z16 H.size) (cwV 3 hts gL_law_X12_meets rfl rfl rfl (by decide +kernel) ⟨Nat.le_of_ble_eq_true rfl, Nat.le_of_ble_eq_true rfl⟩) (ct_preA (T := ct_T cI cJ cB cZ cO) (ci := 12) hE hH hP hD hS hA (MOK_at hM0) rfl) rfl rfl hl.1 rfl (lv_room (Nat.le_of_ble_eq_true rfl)) dL_law_942 ⟨Nat.le_of_ble_eq_true rfl, Nat.le_of_ble_eq_true rfl⟩) hP hD hS hA (fun r17 w18 H locs hw hP hD hS => ?_)
  obtain ⟨hk19, hz20⟩ := hw
  refine lv_pop hx hb dL_law_945 rfl ?_
  refine lv_goto (tgt := 2162) hx hb dL_law_946 (by decide) ?_
  exact kk _ w8 w18 H locs ls hk9 hk19 hP hD hS (lv_sub hl [0, 1, 2, 3] rfl)
set_option maxHeartbeats 8000000 in
set_option maxRecDepth 100000 in
theorem law_c21 {p : Program} {l : Launch} {e : Env} {s : State} {m : MethodId} {below : List Frame} {meth : Method} {c : Code} {A : Nat → Prop} {b L : Nat} {xs : Nat → Int32} (hx : p.tables.exec = Jvm.exec) (hb : c.code = code) (hml : c.maxLocals = 4) (hr : meth.sig.returnType = ret) (hlocks : meth.locks = false) (hX : va_X b L xs s s.heap) (hbl : b < s.heap.size) (hbA : ¬ A b) (hA : ∀ q : Nat, s.heap.size ≤ q → A q) (hAf : ∀ q : Nat, A q → s.heap.size ≤ q) (D : va_G) (G : ct_G) (cI cJ cB cZ cO : ClassId) (g : Gh) (h0 h1 : Nat) (hown : s.vm.findClass RL = some m.cls) (hts : ∀ w ∈ wsL_law, w.before #[Value.ref b] s = true) (hE : ct_E D (ct_T cI cJ cB cZ cO) G s) (hH : ct_H G A s s.heap) (hL : L ≤ 3072) (i : Nat) (hi : i + 6 ≤ L) (wx wm : va_W) (hX0 : XOK cI cJ cB cZ cO g h0 wx) (hM0 : MOK cI cJ cB cZ cO g h1 wm) {H : Heap} {locs : List Loc} (hP : va_P D vwCl (wx ++ wm) H) (hD : va_D A (wx ++ wm)) (hS : va_S A s.heap H locs) {ls : Array Slot} (hl : lv_has ls 4 [(3, .int (nI i)), (2, .ref h1), (1, .ref h0), (0, .ref b)]) (kk : ∀ (g : Gh) (wx wm : va_W) (H : Heap) (locs : List Loc) (ls : Array Slot), XOK cI cJ cB cZ cO g h0 wx → MOK cI cJ cB cZ cO g h1 wm → va_P D vwCl (wx ++ wm) H → va_D A (wx ++ wm) → va_S A s.heap H locs → lv_has ls 4 [(3, .int (nI i)), (2, .ref h1), (1, .ref h0), (0, .ref b)] → W p l e room_1 s m #[Value.ref b] below meth c H locs 107 36842 (lw_Z below #[Value.ref b] s) (F0 m 2162 ls [])) : W p l e room_1 s m #[Value.ref b] below meth c H locs 107 36842 (lw_Z below #[Value.ref b] s) (F0 m 949 ls []) := by
  have hK := hE.1
  have hni : (nI i).toInt = (i : Int) := nI_toInt (by omega)
  refine lv_aload_n hx hb dL_law_949 rfl (lv_at hl 2 rfl) ?_
  refine lv_aload_n hx hb dL_law_950 rfl (lv_at hl 3 rfl) ?_
  refine lv_iload_n hx hb dL_law_951 rfl (lv_at hl 0 rfl) ?_
  refine lv_iconst (v := 1) hx hb dL_law_952 (by decide) ?_
  refine lv_iadd hx hb dL_law_953 ?_
  refine lv_topi (fun z1 ez1 => ?_)
  have fz1 : z1.toInt = (nI i).toInt + 1 := by rw [ez1]; exact tq_add rfl (by decide) (by omega)
  refine va_sld hx hb hX hbl hbA hS (tq_in rfl (by omega)) dL_law_954 ?_
  refine lv_topi (fun z2 ez2 => ?_)
  refine ct_callAi (D := D) (wx := wx) (wm := wm) (va_runV (As := [.int z2]) (rest := []) ⟨hx, hb, hml, hown, hts⟩ (k_X11_shifted l D G cI cJ cB cZ cO g h0 wx hX0 z2 H.size) (cwV 1 hts gL_law_X11_shifted rfl rfl rfl (by decide +kernel) ⟨Nat.le_of_ble_eq_true rfl, Nat.le_of_ble_eq_true rfl⟩) (ct_preA (T := ct_T cI cJ cB cZ cO) (ci := 11) hE hH hP hD hS hA (XOK_at hX0) rfl) rfl rfl hl.1 rfl (lv_room (Nat.le_of_ble_eq_true rfl)) dL_law_955 ⟨Nat.le_of_ble_eq_true rfl, Nat.le_of_ble_eq_true rfl⟩) hP hD hS hA (fun r3 w4 H locs hw hP hD hS => ?_)
  obtain ⟨hk5, hz6⟩ := hw
  refine lv_pop hx hb dL_law_958 rfl ?_
  refine lv_aload_n hx hb dL_law_959 rfl (lv_at hl 1 rfl) ?_
  refine lv_aload_n hx hb dL_law_960 rfl (lv_at hl 3 rfl) ?_
  refine lv_iload_n hx hb dL_law_961 rfl (lv_at hl 0 rfl) ?_
  refine lv_iconst (v := 1) hx hb dL_law_962 (by decide) ?_
  refine lv_iadd hx hb dL_law_963 ?_
  refine lv_topi (fun z7 ez7 => ?_)
  have fz7 : z7.toInt = (nI i).toInt + 1 := by rw [ez7]; exact tq_add rfl (by decide) (by omega)
  refine va_sld hx hb hX hbl hbA hS (tq_in rfl (by omega)) dL_law_964 ?_
  refine lv_topi (fun z8 ez8 => ?_)
  refine ct_callAi (D := D) (wx := wm) (wm := w4) (va_runV (As := [.int z8]) (rest := []) ⟨hx, hb, hml, hown, hts⟩ (k_X12_shifted l D G cI cJ cB cZ cO g h1 wm hM0 z8 H.size) (cwV 1 hts gL_law_X12_shifted rfl rfl rfl (by decide +kernel) ⟨Nat.le_of_ble_eq_true rfl, Nat.le_of_ble_eq_true rfl⟩) (ct_preA (T := ct_T cI cJ cB cZ cO) (ci := 12) hE hH hP hD hS hA (MOK_at hM0) rfl) rfl rfl hl.1 rfl (lv_room (Nat.le_of_ble_eq_true rfl)) dL_law_965 ⟨Nat.le_of_ble_eq_true rfl, Nat.le_of_ble_eq_true rfl⟩) hP hD hS hA (fun r9 w10 H locs hw hP hD hS => ?_)
  obtain ⟨hk11, hz12⟩ := hw
  refine lv_pop hx hb dL_law_968 rfl ?_
  refine lv_goto (tgt := 2162) hx hb dL_law_969 (by decide) ?_
  exact kk _ w4 w10 H locs ls hk5 hk11 hP hD hS (lv_sub hl [0, 1, 2, 3] rfl)
set_option maxHeartbeats 8000000 in
set_option maxRecDepth 100000 in
theorem law_c22 {p : Program} {l : Launch} {e : Env} {s : State} {m : MethodId} {below : List Frame} {meth : Method} {c : Code} {A : Nat → Prop} {b L : Nat} {xs : Nat → Int32} (hx : p.tables.exec = Jvm.exec) (hb : c.code = code) (hml : c.maxLocals = 4) (hr : meth.sig.returnType = ret) (hlocks : meth.locks = false) (hX : va_X b L xs s s.heap) (hbl : b < s.heap.size) (hbA : ¬ A b) (hA : ∀ q : Nat, s.heap.size ≤ q → A q) (hAf : ∀ q : Nat, A q → s.heap.size ≤ q) (D : va_G) (G : ct_G) (cI cJ cB cZ cO : ClassId) (g : Gh) (h0 h1 : Nat) (hown : s.vm.findClass RL = some m.cls) (hts : ∀ w ∈ wsL_law, w.before #[Value.ref b] s = true) (hE : ct_E D (ct_T cI cJ cB cZ cO) G s) (hH : ct_H G A s s.heap) (hL : L ≤ 3072) (i : Nat) (hi : i + 6 ≤ L) (wx wm : va_W) (hX0 : XOK cI cJ cB cZ cO g h0 wx) (hM0 : MOK cI cJ cB cZ cO g h1 wm) {H : Heap} {locs : List Loc} (hP : va_P D vwCl (wx ++ wm) H) (hD : va_D A (wx ++ wm)) (hS : va_S A s.heap H locs) {ls : Array Slot} (hl : lv_has ls 4 [(3, .int (nI i)), (2, .ref h1), (1, .ref h0), (0, .ref b)]) (kk : ∀ (g : Gh) (wx wm : va_W) (H : Heap) (locs : List Loc) (ls : Array Slot), XOK cI cJ cB cZ cO g h0 wx → MOK cI cJ cB cZ cO g h1 wm → va_P D vwCl (wx ++ wm) H → va_D A (wx ++ wm) → va_S A s.heap H locs → lv_has ls 4 [(3, .int (nI i)), (2, .ref h1), (1, .ref h0), (0, .ref b)] → W p l e room_1 s m #[Value.ref b] below meth c H locs 107 36842 (lw_Z below #[Value.ref b] s) (F0 m 2162 ls [])) : W p l e room_1 s m #[Value.ref b] below meth c H locs 107 36842 (lw_Z below #[Value.ref b] s) (F0 m 972 ls []) := by
  have hK := hE.1
  have hni : (nI i).toInt = (i : Int) := nI_toInt (by omega)
  refine lv_aload_n hx hb dL_law_972 rfl (lv_at hl 2 rfl) ?_
  refine ct_callAi (D := D) (wx := wx) (wm := wm) (va_runV (As := []) (rest := []) ⟨hx, hb, hml, hown, hts⟩ (k_X11_shift l D G cI cJ cB cZ cO g h0 wx hX0  H.size) (cwV 0 hts gL_law_X11_shift rfl rfl rfl (by decide +kernel) ⟨Nat.le_of_ble_eq_true rfl, Nat.le_of_ble_eq_true rfl⟩) (ct_preA (T := ct_T cI cJ cB cZ cO) (ci := 11) hE hH hP hD hS hA (XOK_at hX0) rfl) rfl rfl hl.1 rfl (lv_room (Nat.le_of_ble_eq_true rfl)) dL_law_973 ⟨Nat.le_of_ble_eq_true rfl, Nat.le_of_ble_eq_true rfl⟩) hP hD hS hA (fun r1 w2 H locs hw hP hD hS => ?_)
  obtain ⟨hk3, hz4⟩ := hw
  refine lv_pop hx hb dL_law_976 rfl ?_
  refine lv_aload_n hx hb dL_law_977 rfl (lv_at hl 1 rfl) ?_
  refine ct_callAi (D := D) (wx := wm) (wm := w2) (va_runV (As := []) (rest := []) ⟨hx, hb, hml, hown, hts⟩ (k_X12_shift l D G cI cJ cB cZ cO g h1 wm hM0  H.size) (cwV 0 hts gL_law_X12_shift rfl rfl rfl (by decide +kernel) ⟨Nat.le_of_ble_eq_true rfl, Nat.le_of_ble_eq_true rfl⟩) (ct_preA (T := ct_T cI cJ cB cZ cO) (ci := 12) hE hH hP hD hS hA (MOK_at hM0) rfl) rfl rfl hl.1 rfl (lv_room (Nat.le_of_ble_eq_true rfl)) dL_law_978 ⟨Nat.le_of_ble_eq_true rfl, Nat.le_of_ble_eq_true rfl⟩) hP hD hS hA (fun r5 w6 H locs hw hP hD hS => ?_)
  obtain ⟨hk7, hz8⟩ := hw
  refine lv_pop hx hb dL_law_981 rfl ?_
  refine lv_goto (tgt := 2162) hx hb dL_law_982 (by decide) ?_
  exact kk _ w2 w6 H locs ls hk3 hk7 hP hD hS (lv_sub hl [0, 1, 2, 3] rfl)
set_option maxHeartbeats 8000000 in
set_option maxRecDepth 100000 in
theorem law_c23 {p : Program} {l : Launch} {e : Env} {s : State} {m : MethodId} {below : List Frame} {meth : Method} {c : Code} {A : Nat → Prop} {b L : Nat} {xs : Nat → Int32} (hx : p.tables.exec = Jvm.exec) (hb : c.code = code) (hml : c.maxLocals = 4) (hr : meth.sig.returnType = ret) (hlocks : meth.locks = false) (hX : va_X b L xs s s.heap) (hbl : b < s.heap.size) (hbA : ¬ A b) (hA : ∀ q : Nat, s.heap.size ≤ q → A q) (hAf : ∀ q : Nat, A q → s.heap.size ≤ q) (D : va_G) (G : ct_G) (cI cJ cB cZ cO : ClassId) (g : Gh) (h0 h1 : Nat) (hown : s.vm.findClass RL = some m.cls) (hts : ∀ w ∈ wsL_law, w.before #[Value.ref b] s = true) (hE : ct_E D (ct_T cI cJ cB cZ cO) G s) (hH : ct_H G A s s.heap) (hL : L ≤ 3072) (i : Nat) (hi : i + 6 ≤ L) (wx wm : va_W) (hX0 : XOK cI cJ cB cZ cO g h0 wx) (hM0 : MOK cI cJ cB cZ cO g h1 wm) {H : Heap} {locs : List Loc} (hP : va_P D vwCl (wx ++ wm) H) (hD : va_D A (wx ++ wm)) (hS : va_S A s.heap H locs) {ls : Array Slot} (hl : lv_has ls 4 [(3, .int (nI i)), (2, .ref h1), (1, .ref h0), (0, .ref b)]) (kk : ∀ (g : Gh) (wx wm : va_W) (H : Heap) (locs : List Loc) (ls : Array Slot), XOK cI cJ cB cZ cO g h0 wx → MOK cI cJ cB cZ cO g h1 wm → va_P D vwCl (wx ++ wm) H → va_D A (wx ++ wm) → va_S A s.heap H locs → lv_has ls 4 [(3, .int (nI i)), (2, .ref h1), (1, .ref h0), (0, .ref b)] → W p l e room_1 s m #[Value.ref b] below meth c H locs 107 36842 (lw_Z below #[Value.ref b] s) (F0 m 2162 ls [])) : W p l e room_1 s m #[Value.ref b] below meth c H locs 107 36842 (lw_Z below #[Value.ref b] s) (F0 m 985 ls []) := by
  have hK := hE.1
  have hni : (nI i).toInt = (i : Int) := nI_toInt (by omega)
  refine lv_aload_n hx hb dL_law_985 rfl (lv_at hl 2 rfl) ?_
  refine ct_callAi (D := D) (wx := wx) (wm := wm) (va_runV (As := []) (rest := []) ⟨hx, hb, hml, hown, hts⟩ (k_X11_least l D G cI cJ cB cZ cO g h0 wx hX0  H.size) (cwV 0 hts gL_law_X11_least rfl rfl rfl (by decide +kernel) ⟨Nat.le_of_ble_eq_true rfl, Nat.le_of_ble_eq_true rfl⟩) (ct_preA (T := ct_T cI cJ cB cZ cO) (ci := 11) hE hH hP hD hS hA (XOK_at hX0) rfl) rfl rfl hl.1 rfl (lv_room (Nat.le_of_ble_eq_true rfl)) dL_law_986 ⟨Nat.le_of_ble_eq_true rfl, Nat.le_of_ble_eq_true rfl⟩) hP hD hS hA (fun r1 w2 H locs hw hP hD hS => ?_)
  obtain ⟨hk3, hz4⟩ := hw
  refine lv_pop hx hb dL_law_989 rfl ?_
  refine lv_aload_n hx hb dL_law_990 rfl (lv_at hl 1 rfl) ?_
  refine ct_callAi (D := D) (wx := wm) (wm := w2) (va_runV (As := []) (rest := []) ⟨hx, hb, hml, hown, hts⟩ (k_X12_least l D G cI cJ cB cZ cO g h1 wm hM0  H.size) (cwV 0 hts gL_law_X12_least rfl rfl rfl (by decide +kernel) ⟨Nat.le_of_ble_eq_true rfl, Nat.le_of_ble_eq_true rfl⟩) (ct_preA (T := ct_T cI cJ cB cZ cO) (ci := 12) hE hH hP hD hS hA (MOK_at hM0) rfl) rfl rfl hl.1 rfl (lv_room (Nat.le_of_ble_eq_true rfl)) dL_law_991 ⟨Nat.le_of_ble_eq_true rfl, Nat.le_of_ble_eq_true rfl⟩) hP hD hS hA (fun r5 w6 H locs hw hP hD hS => ?_)
  obtain ⟨hk7, hz8⟩ := hw
  refine lv_pop hx hb dL_law_994 rfl ?_
  refine lv_goto (tgt := 2162) hx hb dL_law_995 (by decide) ?_
  exact kk _ w2 w6 H locs ls hk3 hk7 hP hD hS (lv_sub hl [0, 1, 2, 3] rfl)
set_option maxHeartbeats 8000000 in
set_option maxRecDepth 100000 in
theorem law_c24 {p : Program} {l : Launch} {e : Env} {s : State} {m : MethodId} {below : List Frame} {meth : Method} {c : Code} {A : Nat → Prop} {b L : Nat} {xs : Nat → Int32} (hx : p.tables.exec = Jvm.exec) (hb : c.code = code) (hml : c.maxLocals = 4) (hr : meth.sig.returnType = ret) (hlocks : meth.locks = false) (hX : va_X b L xs s s.heap) (hbl : b < s.heap.size) (hbA : ¬ A b) (hA : ∀ q : Nat, s.heap.size ≤ q → A q) (hAf : ∀ q : Nat, A q → s.heap.size ≤ q) (D : va_G) (G : ct_G) (cI cJ cB cZ cO : ClassId) (g : Gh) (h0 h1 : Nat) (hown : s.vm.findClass RL = some m.cls) (hts : ∀ w ∈ wsL_law, w.before #[Value.ref b] s = true) (hE : ct_E D (ct_T cI cJ cB cZ cO) G s) (hH : ct_H G A s s.heap) (hL : L ≤ 3072) (i : Nat) (hi : i + 6 ≤ L) (wx wm : va_W) (hX0 : XOK cI cJ cB cZ cO g h0 wx) (hM0 : MOK cI cJ cB cZ cO g h1 wm) {H : Heap} {locs : List Loc} (hP : va_P D vwCl (wx ++ wm) H) (hD : va_D A (wx ++ wm)) (hS : va_S A s.heap H locs) {ls : Array Slot} (hl : lv_has ls 4 [(3, .int (nI i)), (2, .ref h1), (1, .ref h0), (0, .ref b)]) (kk : ∀ (g : Gh) (wx wm : va_W) (H : Heap) (locs : List Loc) (ls : Array Slot), XOK cI cJ cB cZ cO g h0 wx → MOK cI cJ cB cZ cO g h1 wm → va_P D vwCl (wx ++ wm) H → va_D A (wx ++ wm) → va_S A s.heap H locs → lv_has ls 4 [(3, .int (nI i)), (2, .ref h1), (1, .ref h0), (0, .ref b)] → W p l e room_1 s m #[Value.ref b] below meth c H locs 107 36842 (lw_Z below #[Value.ref b] s) (F0 m 2162 ls [])) : W p l e room_1 s m #[Value.ref b] below meth c H locs 107 36842 (lw_Z below #[Value.ref b] s) (F0 m 998 ls []) := by
  have hK := hE.1
  have hni : (nI i).toInt = (i : Int) := nI_toInt (by omega)
  refine lv_aload_n hx hb dL_law_998 rfl (lv_at hl 2 rfl) ?_
  refine lv_aload_n hx hb dL_law_999 rfl (lv_at hl 3 rfl) ?_
  refine lv_iload_n hx hb dL_law_1000 rfl (lv_at hl 0 rfl) ?_
  refine lv_iconst (v := 1) hx hb dL_law_1001 (by decide) ?_
  refine lv_iadd hx hb dL_law_1002 ?_
  refine lv_topi (fun z1 ez1 => ?_)
  have fz1 : z1.toInt = (nI i).toInt + 1 := by rw [ez1]; exact tq_add rfl (by decide) (by omega)
  refine va_sld hx hb hX hbl hbA hS (tq_in rfl (by omega)) dL_law_1003 ?_
  refine lv_topi (fun z2 ez2 => ?_)
  refine ct_callAi (D := D) (wx := wx) (wm := wm) (va_runV (As := [.int z2]) (rest := []) ⟨hx, hb, hml, hown, hts⟩ (k_X11_mend l D G cI cJ cB cZ cO g h0 wx hX0 z2 H.size) (cwV 1 hts gL_law_X11_mend rfl rfl rfl (by decide +kernel) ⟨Nat.le_of_ble_eq_true rfl, Nat.le_of_ble_eq_true rfl⟩) (ct_preA (T := ct_T cI cJ cB cZ cO) (ci := 11) hE hH hP hD hS hA (XOK_at hX0) rfl) rfl rfl hl.1 rfl (lv_room (Nat.le_of_ble_eq_true rfl)) dL_law_1004 ⟨Nat.le_of_ble_eq_true rfl, Nat.le_of_ble_eq_true rfl⟩) hP hD hS hA (fun r3 w4 H locs hw hP hD hS => ?_)
  obtain ⟨hk5, hz6⟩ := hw
  refine lv_pop hx hb dL_law_1007 rfl ?_
  refine lv_aload_n hx hb dL_law_1008 rfl (lv_at hl 1 rfl) ?_
  refine lv_aload_n hx hb dL_law_1009 rfl (lv_at hl 3 rfl) ?_
  refine lv_iload_n hx hb dL_law_1010 rfl (lv_at hl 0 rfl) ?_
  refine lv_iconst (v := 1) hx hb dL_law_1011 (by decide) ?_
  refine lv_iadd hx hb dL_law_1012 ?_
  refine lv_topi (fun z7 ez7 => ?_)
  have fz7 : z7.toInt = (nI i).toInt + 1 := by rw [ez7]; exact tq_add rfl (by decide) (by omega)
  refine va_sld hx hb hX hbl hbA hS (tq_in rfl (by omega)) dL_law_1013 ?_
  refine lv_topi (fun z8 ez8 => ?_)
  refine ct_callAi (D := D) (wx := wm) (wm := w4) (va_runV (As := [.int z8]) (rest := []) ⟨hx, hb, hml, hown, hts⟩ (k_X12_mend l D G cI cJ cB cZ cO g h1 wm hM0 z8 H.size) (cwV 1 hts gL_law_X12_mend rfl rfl rfl (by decide +kernel) ⟨Nat.le_of_ble_eq_true rfl, Nat.le_of_ble_eq_true rfl⟩) (ct_preA (T := ct_T cI cJ cB cZ cO) (ci := 12) hE hH hP hD hS hA (MOK_at hM0) rfl) rfl rfl hl.1 rfl (lv_room (Nat.le_of_ble_eq_true rfl)) dL_law_1014 ⟨Nat.le_of_ble_eq_true rfl, Nat.le_of_ble_eq_true rfl⟩) hP hD hS hA (fun r9 w10 H locs hw hP hD hS => ?_)
  obtain ⟨hk11, hz12⟩ := hw
  refine lv_pop hx hb dL_law_1017 rfl ?_
  refine lv_goto (tgt := 2162) hx hb dL_law_1018 (by decide) ?_
  exact kk _ w4 w10 H locs ls hk5 hk11 hP hD hS (lv_sub hl [0, 1, 2, 3] rfl)
set_option maxHeartbeats 8000000 in
set_option maxRecDepth 100000 in
theorem law_c25 {p : Program} {l : Launch} {e : Env} {s : State} {m : MethodId} {below : List Frame} {meth : Method} {c : Code} {A : Nat → Prop} {b L : Nat} {xs : Nat → Int32} (hx : p.tables.exec = Jvm.exec) (hb : c.code = code) (hml : c.maxLocals = 4) (hr : meth.sig.returnType = ret) (hlocks : meth.locks = false) (hX : va_X b L xs s s.heap) (hbl : b < s.heap.size) (hbA : ¬ A b) (hA : ∀ q : Nat, s.heap.size ≤ q → A q) (hAf : ∀ q : Nat, A q → s.heap.size ≤ q) (D : va_G) (G : ct_G) (cI cJ cB cZ cO : ClassId) (g : Gh) (h0 h1 : Nat) (hown : s.vm.findClass RL = some m.cls) (hts : ∀ w ∈ wsL_law, w.before #[Value.ref b] s = true) (hE : ct_E D (ct_T cI cJ cB cZ cO) G s) (hH : ct_H G A s s.heap) (hL : L ≤ 3072) (i : Nat) (hi : i + 6 ≤ L) (wx wm : va_W) (hX0 : XOK cI cJ cB cZ cO g h0 wx) (hM0 : MOK cI cJ cB cZ cO g h1 wm) {H : Heap} {locs : List Loc} (hP : va_P D vwCl (wx ++ wm) H) (hD : va_D A (wx ++ wm)) (hS : va_S A s.heap H locs) {ls : Array Slot} (hl : lv_has ls 4 [(3, .int (nI i)), (2, .ref h1), (1, .ref h0), (0, .ref b)]) (kk : ∀ (g : Gh) (wx wm : va_W) (H : Heap) (locs : List Loc) (ls : Array Slot), XOK cI cJ cB cZ cO g h0 wx → MOK cI cJ cB cZ cO g h1 wm → va_P D vwCl (wx ++ wm) H → va_D A (wx ++ wm) → va_S A s.heap H locs → lv_has ls 4 [(3, .int (nI i)), (2, .ref h1), (1, .ref h0), (0, .ref b)] → W p l e room_1 s m #[Value.ref b] below meth c H locs 107 36842 (lw_Z below #[Value.ref b] s) (F0 m 2162 ls [])) : W p l e room_1 s m #[Value.ref b] below meth c H locs 107 36842 (lw_Z below #[Value.ref b] s) (F0 m 1021 ls []) := by
  have hK := hE.1
  have hni : (nI i).toInt = (i : Int) := nI_toInt (by omega)
  refine lv_aload_n hx hb dL_law_1021 rfl (lv_at hl 2 rfl) ?_
  refine lv_aload_n hx hb dL_law_1022 rfl (lv_at hl 3 rfl) ?_
  refine lv_iload_n hx hb dL_law_1023 rfl (lv_at hl 0 rfl) ?_
  refine lv_iconst (v := 1) hx hb dL_law_1024 (by decide) ?_
  refine lv_iadd hx hb dL_law_1025 ?_
  refine lv_topi (fun z1 ez1 => ?_)
  have fz1 : z1.toInt = (nI i).toInt + 1 := by rw [ez1]; exact tq_add rfl (by decide) (by omega)
  refine va_sld hx hb hX hbl hbA hS (tq_in rfl (by omega)) dL_law_1026 ?_
  refine lv_topi (fun z2 ez2 => ?_)
  refine lv_aload_n hx hb dL_law_1027 rfl (lv_at hl 3 rfl) ?_
  refine lv_iload_n hx hb dL_law_1028 rfl (lv_at hl 0 rfl) ?_
  refine lv_iconst (v := 2) hx hb dL_law_1029 (by decide) ?_
  refine lv_iadd hx hb dL_law_1030 ?_
  refine lv_topi (fun z3 ez3 => ?_)
  have fz3 : z3.toInt = (nI i).toInt + 2 := by rw [ez3]; exact tq_add rfl (by decide) (by omega)
  refine va_sld hx hb hX hbl hbA hS (tq_in rfl (by omega)) dL_law_1031 ?_
  refine lv_topi (fun z4 ez4 => ?_)
  refine ct_callAi (D := D) (wx := wx) (wm := wm) (va_runV (As := [.int z2, .int z4]) (rest := []) ⟨hx, hb, hml, hown, hts⟩ (k_X11_mended l D G cI cJ cB cZ cO g h0 wx hX0 z2 z4 H.size) (cwV 2 hts gL_law_X11_mended rfl rfl rfl (by decide +kernel) ⟨Nat.le_of_ble_eq_true rfl, Nat.le_of_ble_eq_true rfl⟩) (ct_preA (T := ct_T cI cJ cB cZ cO) (ci := 11) hE hH hP hD hS hA (XOK_at hX0) rfl) rfl rfl hl.1 rfl (lv_room (Nat.le_of_ble_eq_true rfl)) dL_law_1032 ⟨Nat.le_of_ble_eq_true rfl, Nat.le_of_ble_eq_true rfl⟩) hP hD hS hA (fun r5 w6 H locs hw hP hD hS => ?_)
  obtain ⟨hk7, hz8⟩ := hw
  refine lv_pop hx hb dL_law_1035 rfl ?_
  refine lv_aload_n hx hb dL_law_1036 rfl (lv_at hl 1 rfl) ?_
  refine lv_aload_n hx hb dL_law_1037 rfl (lv_at hl 3 rfl) ?_
  refine lv_iload_n hx hb dL_law_1038 rfl (lv_at hl 0 rfl) ?_
  refine lv_iconst (v := 1) hx hb dL_law_1039 (by decide) ?_
  refine lv_iadd hx hb dL_law_1040 ?_
  refine lv_topi (fun z9 ez9 => ?_)
  have fz9 : z9.toInt = (nI i).toInt + 1 := by rw [ez9]; exact tq_add rfl (by decide) (by omega)
  refine va_sld hx hb hX hbl hbA hS (tq_in rfl (by omega)) dL_law_1041 ?_
  refine lv_topi (fun z10 ez10 => ?_)
  refine lv_aload_n hx hb dL_law_1042 rfl (lv_at hl 3 rfl) ?_
  refine lv_iload_n hx hb dL_law_1043 rfl (lv_at hl 0 rfl) ?_
  refine lv_iconst (v := 2) hx hb dL_law_1044 (by decide) ?_
  refine lv_iadd hx hb dL_law_1045 ?_
  refine lv_topi (fun z11 ez11 => ?_)
  have fz11 : z11.toInt = (nI i).toInt + 2 := by rw [ez11]; exact tq_add rfl (by decide) (by omega)
  refine va_sld hx hb hX hbl hbA hS (tq_in rfl (by omega)) dL_law_1046 ?_
  refine lv_topi (fun z12 ez12 => ?_)
  refine ct_callAi (D := D) (wx := wm) (wm := w6) (va_runV (As := [.int z10, .int z12]) (rest := []) ⟨hx, hb, hml, hown, hts⟩ (k_X12_mended l D G cI cJ cB cZ cO g h1 wm hM0 z10 z12 H.size) (cwV 2 hts gL_law_X12_mended rfl rfl rfl (by decide +kernel) ⟨Nat.le_of_ble_eq_true rfl, Nat.le_of_ble_eq_true rfl⟩) (ct_preA (T := ct_T cI cJ cB cZ cO) (ci := 12) hE hH hP hD hS hA (MOK_at hM0) rfl) rfl rfl hl.1 rfl (lv_room (Nat.le_of_ble_eq_true rfl)) dL_law_1047 ⟨Nat.le_of_ble_eq_true rfl, Nat.le_of_ble_eq_true rfl⟩) hP hD hS hA (fun r13 w14 H locs hw hP hD hS => ?_)
  obtain ⟨hk15, hz16⟩ := hw
  refine lv_pop hx hb dL_law_1050 rfl ?_
  refine lv_goto (tgt := 2162) hx hb dL_law_1051 (by decide) ?_
  exact kk _ w6 w14 H locs ls hk7 hk15 hP hD hS (lv_sub hl [0, 1, 2, 3] rfl)
set_option maxHeartbeats 8000000 in
set_option maxRecDepth 100000 in
theorem law_c26 {p : Program} {l : Launch} {e : Env} {s : State} {m : MethodId} {below : List Frame} {meth : Method} {c : Code} {A : Nat → Prop} {b L : Nat} {xs : Nat → Int32} (hx : p.tables.exec = Jvm.exec) (hb : c.code = code) (hml : c.maxLocals = 4) (hr : meth.sig.returnType = ret) (hlocks : meth.locks = false) (hX : va_X b L xs s s.heap) (hbl : b < s.heap.size) (hbA : ¬ A b) (hA : ∀ q : Nat, s.heap.size ≤ q → A q) (hAf : ∀ q : Nat, A q → s.heap.size ≤ q) (D : va_G) (G : ct_G) (cI cJ cB cZ cO : ClassId) (g : Gh) (h0 h1 : Nat) (hown : s.vm.findClass RL = some m.cls) (hts : ∀ w ∈ wsL_law, w.before #[Value.ref b] s = true) (hE : ct_E D (ct_T cI cJ cB cZ cO) G s) (hH : ct_H G A s s.heap) (hL : L ≤ 3072) (i : Nat) (hi : i + 6 ≤ L) (wx wm : va_W) (hX0 : XOK cI cJ cB cZ cO g h0 wx) (hM0 : MOK cI cJ cB cZ cO g h1 wm) {H : Heap} {locs : List Loc} (hP : va_P D vwCl (wx ++ wm) H) (hD : va_D A (wx ++ wm)) (hS : va_S A s.heap H locs) {ls : Array Slot} (hl : lv_has ls 4 [(3, .int (nI i)), (2, .ref h1), (1, .ref h0), (0, .ref b)]) (kk : ∀ (g : Gh) (wx wm : va_W) (H : Heap) (locs : List Loc) (ls : Array Slot), XOK cI cJ cB cZ cO g h0 wx → MOK cI cJ cB cZ cO g h1 wm → va_P D vwCl (wx ++ wm) H → va_D A (wx ++ wm) → va_S A s.heap H locs → lv_has ls 4 [(3, .int (nI i)), (2, .ref h1), (1, .ref h0), (0, .ref b)] → W p l e room_1 s m #[Value.ref b] below meth c H locs 107 36842 (lw_Z below #[Value.ref b] s) (F0 m 2162 ls [])) : W p l e room_1 s m #[Value.ref b] below meth c H locs 107 36842 (lw_Z below #[Value.ref b] s) (F0 m 1054 ls []) := by
  have hK := hE.1
  have hni : (nI i).toInt = (i : Int) := nI_toInt (by omega)
  refine lv_aload_n hx hb dL_law_1054 rfl (lv_at hl 2 rfl) ?_
  refine lv_aload_n hx hb dL_law_1055 rfl (lv_at hl 3 rfl) ?_
  refine lv_iload_n hx hb dL_law_1056 rfl (lv_at hl 0 rfl) ?_
  refine lv_iconst (v := 1) hx hb dL_law_1057 (by decide) ?_
  refine lv_iadd hx hb dL_law_1058 ?_
  refine lv_topi (fun z1 ez1 => ?_)
  have fz1 : z1.toInt = (nI i).toInt + 1 := by rw [ez1]; exact tq_add rfl (by decide) (by omega)
  refine va_sld hx hb hX hbl hbA hS (tq_in rfl (by omega)) dL_law_1059 ?_
  refine lv_topi (fun z2 ez2 => ?_)
  refine ct_callAi (D := D) (wx := wx) (wm := wm) (va_runV (As := [.int z2]) (rest := []) ⟨hx, hb, hml, hown, hts⟩ (k_X11_stuck l D G cI cJ cB cZ cO g h0 wx hX0 z2 H.size) (cwV 1 hts gL_law_X11_stuck rfl rfl rfl (by decide +kernel) ⟨Nat.le_of_ble_eq_true rfl, Nat.le_of_ble_eq_true rfl⟩) (ct_preA (T := ct_T cI cJ cB cZ cO) (ci := 11) hE hH hP hD hS hA (XOK_at hX0) rfl) rfl rfl hl.1 rfl (lv_room (Nat.le_of_ble_eq_true rfl)) dL_law_1060 ⟨Nat.le_of_ble_eq_true rfl, Nat.le_of_ble_eq_true rfl⟩) hP hD hS hA (fun r3 w4 H locs hw hP hD hS => ?_)
  obtain ⟨hk5, hz6⟩ := hw
  refine lv_pop hx hb dL_law_1063 rfl ?_
  refine lv_aload_n hx hb dL_law_1064 rfl (lv_at hl 1 rfl) ?_
  refine lv_aload_n hx hb dL_law_1065 rfl (lv_at hl 3 rfl) ?_
  refine lv_iload_n hx hb dL_law_1066 rfl (lv_at hl 0 rfl) ?_
  refine lv_iconst (v := 1) hx hb dL_law_1067 (by decide) ?_
  refine lv_iadd hx hb dL_law_1068 ?_
  refine lv_topi (fun z7 ez7 => ?_)
  have fz7 : z7.toInt = (nI i).toInt + 1 := by rw [ez7]; exact tq_add rfl (by decide) (by omega)
  refine va_sld hx hb hX hbl hbA hS (tq_in rfl (by omega)) dL_law_1069 ?_
  refine lv_topi (fun z8 ez8 => ?_)
  refine ct_callAi (D := D) (wx := wm) (wm := w4) (va_runV (As := [.int z8]) (rest := []) ⟨hx, hb, hml, hown, hts⟩ (k_X12_stuck l D G cI cJ cB cZ cO g h1 wm hM0 z8 H.size) (cwV 1 hts gL_law_X12_stuck rfl rfl rfl (by decide +kernel) ⟨Nat.le_of_ble_eq_true rfl, Nat.le_of_ble_eq_true rfl⟩) (ct_preA (T := ct_T cI cJ cB cZ cO) (ci := 12) hE hH hP hD hS hA (MOK_at hM0) rfl) rfl rfl hl.1 rfl (lv_room (Nat.le_of_ble_eq_true rfl)) dL_law_1070 ⟨Nat.le_of_ble_eq_true rfl, Nat.le_of_ble_eq_true rfl⟩) hP hD hS hA (fun r9 w10 H locs hw hP hD hS => ?_)
  obtain ⟨hk11, hz12⟩ := hw
  refine lv_pop hx hb dL_law_1073 rfl ?_
  refine lv_goto (tgt := 2162) hx hb dL_law_1074 (by decide) ?_
  exact kk _ w4 w10 H locs ls hk5 hk11 hP hD hS (lv_sub hl [0, 1, 2, 3] rfl)
set_option maxHeartbeats 8000000 in
set_option maxRecDepth 100000 in
theorem law_c27 {p : Program} {l : Launch} {e : Env} {s : State} {m : MethodId} {below : List Frame} {meth : Method} {c : Code} {A : Nat → Prop} {b L : Nat} {xs : Nat → Int32} (hx : p.tables.exec = Jvm.exec) (hb : c.code = code) (hml : c.maxLocals = 4) (hr : meth.sig.returnType = ret) (hlocks : meth.locks = false) (hX : va_X b L xs s s.heap) (hbl : b < s.heap.size) (hbA : ¬ A b) (hA : ∀ q : Nat, s.heap.size ≤ q → A q) (hAf : ∀ q : Nat, A q → s.heap.size ≤ q) (D : va_G) (G : ct_G) (cI cJ cB cZ cO : ClassId) (g : Gh) (h0 h1 : Nat) (hown : s.vm.findClass RL = some m.cls) (hts : ∀ w ∈ wsL_law, w.before #[Value.ref b] s = true) (hE : ct_E D (ct_T cI cJ cB cZ cO) G s) (hH : ct_H G A s s.heap) (hL : L ≤ 3072) (i : Nat) (hi : i + 6 ≤ L) (wx wm : va_W) (hX0 : XOK cI cJ cB cZ cO g h0 wx) (hM0 : MOK cI cJ cB cZ cO g h1 wm) {H : Heap} {locs : List Loc} (hP : va_P D vwCl (wx ++ wm) H) (hD : va_D A (wx ++ wm)) (hS : va_S A s.heap H locs) {ls : Array Slot} (hl : lv_has ls 4 [(3, .int (nI i)), (2, .ref h1), (1, .ref h0), (0, .ref b)]) (kk : ∀ (g : Gh) (wx wm : va_W) (H : Heap) (locs : List Loc) (ls : Array Slot), XOK cI cJ cB cZ cO g h0 wx → MOK cI cJ cB cZ cO g h1 wm → va_P D vwCl (wx ++ wm) H → va_D A (wx ++ wm) → va_S A s.heap H locs → lv_has ls 4 [(3, .int (nI i)), (2, .ref h1), (1, .ref h0), (0, .ref b)] → W p l e room_1 s m #[Value.ref b] below meth c H locs 107 36842 (lw_Z below #[Value.ref b] s) (F0 m 2162 ls [])) : W p l e room_1 s m #[Value.ref b] below meth c H locs 107 36842 (lw_Z below #[Value.ref b] s) (F0 m 1077 ls []) := by
  have hK := hE.1
  have hni : (nI i).toInt = (i : Int) := nI_toInt (by omega)
  refine lv_aload_n hx hb dL_law_1077 rfl (lv_at hl 2 rfl) ?_
  refine lv_aload_n hx hb dL_law_1078 rfl (lv_at hl 3 rfl) ?_
  refine lv_iload_n hx hb dL_law_1079 rfl (lv_at hl 0 rfl) ?_
  refine lv_iconst (v := 1) hx hb dL_law_1080 (by decide) ?_
  refine lv_iadd hx hb dL_law_1081 ?_
  refine lv_topi (fun z1 ez1 => ?_)
  have fz1 : z1.toInt = (nI i).toInt + 1 := by rw [ez1]; exact tq_add rfl (by decide) (by omega)
  refine va_sld hx hb hX hbl hbA hS (tq_in rfl (by omega)) dL_law_1082 ?_
  refine lv_topi (fun z2 ez2 => ?_)
  refine lv_aload_n hx hb dL_law_1083 rfl (lv_at hl 3 rfl) ?_
  refine lv_iload_n hx hb dL_law_1084 rfl (lv_at hl 0 rfl) ?_
  refine lv_iconst (v := 2) hx hb dL_law_1085 (by decide) ?_
  refine lv_iadd hx hb dL_law_1086 ?_
  refine lv_topi (fun z3 ez3 => ?_)
  have fz3 : z3.toInt = (nI i).toInt + 2 := by rw [ez3]; exact tq_add rfl (by decide) (by omega)
  refine va_sld hx hb hX hbl hbA hS (tq_in rfl (by omega)) dL_law_1087 ?_
  refine lv_topi (fun z4 ez4 => ?_)
  refine ct_callAi (D := D) (wx := wx) (wm := wm) (va_runV (As := [.int z2, .int z4]) (rest := []) ⟨hx, hb, hml, hown, hts⟩ (k_X11_heard l D G cI cJ cB cZ cO g h0 wx hX0 z2 z4 H.size) (cwV 2 hts gL_law_X11_heard rfl rfl rfl (by decide +kernel) ⟨Nat.le_of_ble_eq_true rfl, Nat.le_of_ble_eq_true rfl⟩) (ct_preA (T := ct_T cI cJ cB cZ cO) (ci := 11) hE hH hP hD hS hA (XOK_at hX0) rfl) rfl rfl hl.1 rfl (lv_room (Nat.le_of_ble_eq_true rfl)) dL_law_1088 ⟨Nat.le_of_ble_eq_true rfl, Nat.le_of_ble_eq_true rfl⟩) hP hD hS hA (fun r5 w6 H locs hw hP hD hS => ?_)
  obtain ⟨hk7, hz8⟩ := hw
  refine lv_pop hx hb dL_law_1091 rfl ?_
  refine lv_aload_n hx hb dL_law_1092 rfl (lv_at hl 1 rfl) ?_
  refine lv_aload_n hx hb dL_law_1093 rfl (lv_at hl 3 rfl) ?_
  refine lv_iload_n hx hb dL_law_1094 rfl (lv_at hl 0 rfl) ?_
  refine lv_iconst (v := 1) hx hb dL_law_1095 (by decide) ?_
  refine lv_iadd hx hb dL_law_1096 ?_
  refine lv_topi (fun z9 ez9 => ?_)
  have fz9 : z9.toInt = (nI i).toInt + 1 := by rw [ez9]; exact tq_add rfl (by decide) (by omega)
  refine va_sld hx hb hX hbl hbA hS (tq_in rfl (by omega)) dL_law_1097 ?_
  refine lv_topi (fun z10 ez10 => ?_)
  refine lv_aload_n hx hb dL_law_1098 rfl (lv_at hl 3 rfl) ?_
  refine lv_iload_n hx hb dL_law_1099 rfl (lv_at hl 0 rfl) ?_
  refine lv_iconst (v := 2) hx hb dL_law_1100 (by decide) ?_
  refine lv_iadd hx hb dL_law_1101 ?_
  refine lv_topi (fun z11 ez11 => ?_)
  have fz11 : z11.toInt = (nI i).toInt + 2 := by rw [ez11]; exact tq_add rfl (by decide) (by omega)
  refine va_sld hx hb hX hbl hbA hS (tq_in rfl (by omega)) dL_law_1102 ?_
  refine lv_topi (fun z12 ez12 => ?_)
  refine ct_callAi (D := D) (wx := wm) (wm := w6) (va_runV (As := [.int z10, .int z12]) (rest := []) ⟨hx, hb, hml, hown, hts⟩ (k_X12_heard l D G cI cJ cB cZ cO g h1 wm hM0 z10 z12 H.size) (cwV 2 hts gL_law_X12_heard rfl rfl rfl (by decide +kernel) ⟨Nat.le_of_ble_eq_true rfl, Nat.le_of_ble_eq_true rfl⟩) (ct_preA (T := ct_T cI cJ cB cZ cO) (ci := 12) hE hH hP hD hS hA (MOK_at hM0) rfl) rfl rfl hl.1 rfl (lv_room (Nat.le_of_ble_eq_true rfl)) dL_law_1103 ⟨Nat.le_of_ble_eq_true rfl, Nat.le_of_ble_eq_true rfl⟩) hP hD hS hA (fun r13 w14 H locs hw hP hD hS => ?_)
  obtain ⟨hk15, hz16⟩ := hw
  refine lv_pop hx hb dL_law_1106 rfl ?_
  refine lv_goto (tgt := 2162) hx hb dL_law_1107 (by decide) ?_
  exact kk _ w6 w14 H locs ls hk7 hk15 hP hD hS (lv_sub hl [0, 1, 2, 3] rfl)
set_option maxHeartbeats 8000000 in
set_option maxRecDepth 100000 in
theorem law_c28 {p : Program} {l : Launch} {e : Env} {s : State} {m : MethodId} {below : List Frame} {meth : Method} {c : Code} {A : Nat → Prop} {b L : Nat} {xs : Nat → Int32} (hx : p.tables.exec = Jvm.exec) (hb : c.code = code) (hml : c.maxLocals = 4) (hr : meth.sig.returnType = ret) (hlocks : meth.locks = false) (hX : va_X b L xs s s.heap) (hbl : b < s.heap.size) (hbA : ¬ A b) (hA : ∀ q : Nat, s.heap.size ≤ q → A q) (hAf : ∀ q : Nat, A q → s.heap.size ≤ q) (D : va_G) (G : ct_G) (cI cJ cB cZ cO : ClassId) (g : Gh) (h0 h1 : Nat) (hown : s.vm.findClass RL = some m.cls) (hts : ∀ w ∈ wsL_law, w.before #[Value.ref b] s = true) (hE : ct_E D (ct_T cI cJ cB cZ cO) G s) (hH : ct_H G A s s.heap) (hL : L ≤ 3072) (i : Nat) (hi : i + 6 ≤ L) (wx wm : va_W) (hX0 : XOK cI cJ cB cZ cO g h0 wx) (hM0 : MOK cI cJ cB cZ cO g h1 wm) {H : Heap} {locs : List Loc} (hP : va_P D vwCl (wx ++ wm) H) (hD : va_D A (wx ++ wm)) (hS : va_S A s.heap H locs) {ls : Array Slot} (hl : lv_has ls 4 [(3, .int (nI i)), (2, .ref h1), (1, .ref h0), (0, .ref b)]) (kk : ∀ (g : Gh) (wx wm : va_W) (H : Heap) (locs : List Loc) (ls : Array Slot), XOK cI cJ cB cZ cO g h0 wx → MOK cI cJ cB cZ cO g h1 wm → va_P D vwCl (wx ++ wm) H → va_D A (wx ++ wm) → va_S A s.heap H locs → lv_has ls 4 [(3, .int (nI i)), (2, .ref h1), (1, .ref h0), (0, .ref b)] → W p l e room_1 s m #[Value.ref b] below meth c H locs 107 36842 (lw_Z below #[Value.ref b] s) (F0 m 2162 ls [])) : W p l e room_1 s m #[Value.ref b] below meth c H locs 107 36842 (lw_Z below #[Value.ref b] s) (F0 m 1110 ls []) := by
  have hK := hE.1
  have hni : (nI i).toInt = (i : Int) := nI_toInt (by omega)
  refine lv_aload_n hx hb dL_law_1110 rfl (lv_at hl 2 rfl) ?_
  refine lv_aload_n hx hb dL_law_1111 rfl (lv_at hl 3 rfl) ?_
  refine lv_iload_n hx hb dL_law_1112 rfl (lv_at hl 0 rfl) ?_
  refine lv_iconst (v := 1) hx hb dL_law_1113 (by decide) ?_
  refine lv_iadd hx hb dL_law_1114 ?_
  refine lv_topi (fun z1 ez1 => ?_)
  have fz1 : z1.toInt = (nI i).toInt + 1 := by rw [ez1]; exact tq_add rfl (by decide) (by omega)
  refine va_sld hx hb hX hbl hbA hS (tq_in rfl (by omega)) dL_law_1115 ?_
  refine lv_topi (fun z2 ez2 => ?_)
  refine lv_aload_n hx hb dL_law_1116 rfl (lv_at hl 3 rfl) ?_
  refine lv_iload_n hx hb dL_law_1117 rfl (lv_at hl 0 rfl) ?_
  refine lv_iconst (v := 2) hx hb dL_law_1118 (by decide) ?_
  refine lv_iadd hx hb dL_law_1119 ?_
  refine lv_topi (fun z3 ez3 => ?_)
  have fz3 : z3.toInt = (nI i).toInt + 2 := by rw [ez3]; exact tq_add rfl (by decide) (by omega)
  refine va_sld hx hb hX hbl hbA hS (tq_in rfl (by omega)) dL_law_1120 ?_
  refine lv_topi (fun z4 ez4 => ?_)
  refine ct_callAi (D := D) (wx := wx) (wm := wm) (va_runV (As := [.int z2, .int z4]) (rest := []) ⟨hx, hb, hml, hown, hts⟩ (k_X11_first l D G cI cJ cB cZ cO g h0 wx hX0 z2 z4 H.size) (cwV 2 hts gL_law_X11_first rfl rfl rfl (by decide +kernel) ⟨Nat.le_of_ble_eq_true rfl, Nat.le_of_ble_eq_true rfl⟩) (ct_preA (T := ct_T cI cJ cB cZ cO) (ci := 11) hE hH hP hD hS hA (XOK_at hX0) rfl) rfl rfl hl.1 rfl (lv_room (Nat.le_of_ble_eq_true rfl)) dL_law_1121 ⟨Nat.le_of_ble_eq_true rfl, Nat.le_of_ble_eq_true rfl⟩) hP hD hS hA (fun r5 w6 H locs hw hP hD hS => ?_)
  obtain ⟨hk7, hz8⟩ := hw
  refine lv_pop hx hb dL_law_1124 rfl ?_
  refine lv_aload_n hx hb dL_law_1125 rfl (lv_at hl 1 rfl) ?_
  refine lv_aload_n hx hb dL_law_1126 rfl (lv_at hl 3 rfl) ?_
  refine lv_iload_n hx hb dL_law_1127 rfl (lv_at hl 0 rfl) ?_
  refine lv_iconst (v := 1) hx hb dL_law_1128 (by decide) ?_
  refine lv_iadd hx hb dL_law_1129 ?_
  refine lv_topi (fun z9 ez9 => ?_)
  have fz9 : z9.toInt = (nI i).toInt + 1 := by rw [ez9]; exact tq_add rfl (by decide) (by omega)
  refine va_sld hx hb hX hbl hbA hS (tq_in rfl (by omega)) dL_law_1130 ?_
  refine lv_topi (fun z10 ez10 => ?_)
  refine lv_aload_n hx hb dL_law_1131 rfl (lv_at hl 3 rfl) ?_
  refine lv_iload_n hx hb dL_law_1132 rfl (lv_at hl 0 rfl) ?_
  refine lv_iconst (v := 2) hx hb dL_law_1133 (by decide) ?_
  refine lv_iadd hx hb dL_law_1134 ?_
  refine lv_topi (fun z11 ez11 => ?_)
  have fz11 : z11.toInt = (nI i).toInt + 2 := by rw [ez11]; exact tq_add rfl (by decide) (by omega)
  refine va_sld hx hb hX hbl hbA hS (tq_in rfl (by omega)) dL_law_1135 ?_
  refine lv_topi (fun z12 ez12 => ?_)
  refine ct_callAi (D := D) (wx := wm) (wm := w6) (va_runV (As := [.int z10, .int z12]) (rest := []) ⟨hx, hb, hml, hown, hts⟩ (k_X12_first l D G cI cJ cB cZ cO g h1 wm hM0 z10 z12 H.size) (cwV 2 hts gL_law_X12_first rfl rfl rfl (by decide +kernel) ⟨Nat.le_of_ble_eq_true rfl, Nat.le_of_ble_eq_true rfl⟩) (ct_preA (T := ct_T cI cJ cB cZ cO) (ci := 12) hE hH hP hD hS hA (MOK_at hM0) rfl) rfl rfl hl.1 rfl (lv_room (Nat.le_of_ble_eq_true rfl)) dL_law_1136 ⟨Nat.le_of_ble_eq_true rfl, Nat.le_of_ble_eq_true rfl⟩) hP hD hS hA (fun r13 w14 H locs hw hP hD hS => ?_)
  obtain ⟨hk15, hz16⟩ := hw
  refine lv_pop hx hb dL_law_1139 rfl ?_
  refine lv_goto (tgt := 2162) hx hb dL_law_1140 (by decide) ?_
  exact kk _ w6 w14 H locs ls hk7 hk15 hP hD hS (lv_sub hl [0, 1, 2, 3] rfl)
set_option maxHeartbeats 8000000 in
set_option maxRecDepth 100000 in
theorem law_c29 {p : Program} {l : Launch} {e : Env} {s : State} {m : MethodId} {below : List Frame} {meth : Method} {c : Code} {A : Nat → Prop} {b L : Nat} {xs : Nat → Int32} (hx : p.tables.exec = Jvm.exec) (hb : c.code = code) (hml : c.maxLocals = 4) (hr : meth.sig.returnType = ret) (hlocks : meth.locks = false) (hX : va_X b L xs s s.heap) (hbl : b < s.heap.size) (hbA : ¬ A b) (hA : ∀ q : Nat, s.heap.size ≤ q → A q) (hAf : ∀ q : Nat, A q → s.heap.size ≤ q) (D : va_G) (G : ct_G) (cI cJ cB cZ cO : ClassId) (g : Gh) (h0 h1 : Nat) (hown : s.vm.findClass RL = some m.cls) (hts : ∀ w ∈ wsL_law, w.before #[Value.ref b] s = true) (hE : ct_E D (ct_T cI cJ cB cZ cO) G s) (hH : ct_H G A s s.heap) (hL : L ≤ 3072) (i : Nat) (hi : i + 6 ≤ L) (wx wm : va_W) (hX0 : XOK cI cJ cB cZ cO g h0 wx) (hM0 : MOK cI cJ cB cZ cO g h1 wm) {H : Heap} {locs : List Loc} (hP : va_P D vwCl (wx ++ wm) H) (hD : va_D A (wx ++ wm)) (hS : va_S A s.heap H locs) {ls : Array Slot} (hl : lv_has ls 4 [(3, .int (nI i)), (2, .ref h1), (1, .ref h0), (0, .ref b)]) (kk : ∀ (g : Gh) (wx wm : va_W) (H : Heap) (locs : List Loc) (ls : Array Slot), XOK cI cJ cB cZ cO g h0 wx → MOK cI cJ cB cZ cO g h1 wm → va_P D vwCl (wx ++ wm) H → va_D A (wx ++ wm) → va_S A s.heap H locs → lv_has ls 4 [(3, .int (nI i)), (2, .ref h1), (1, .ref h0), (0, .ref b)] → W p l e room_1 s m #[Value.ref b] below meth c H locs 107 36842 (lw_Z below #[Value.ref b] s) (F0 m 2162 ls [])) : W p l e room_1 s m #[Value.ref b] below meth c H locs 107 36842 (lw_Z below #[Value.ref b] s) (F0 m 1143 ls []) := by
  have hK := hE.1
  have hni : (nI i).toInt = (i : Int) := nI_toInt (by omega)
  refine lv_aload_n hx hb dL_law_1143 rfl (lv_at hl 2 rfl) ?_
  refine lv_aload_n hx hb dL_law_1144 rfl (lv_at hl 3 rfl) ?_
  refine lv_iload_n hx hb dL_law_1145 rfl (lv_at hl 0 rfl) ?_
  refine lv_iconst (v := 1) hx hb dL_law_1146 (by decide) ?_
  refine lv_iadd hx hb dL_law_1147 ?_
  refine lv_topi (fun z1 ez1 => ?_)
  have fz1 : z1.toInt = (nI i).toInt + 1 := by rw [ez1]; exact tq_add rfl (by decide) (by omega)
  refine va_sld hx hb hX hbl hbA hS (tq_in rfl (by omega)) dL_law_1148 ?_
  refine lv_topi (fun z2 ez2 => ?_)
  refine lv_aload_n hx hb dL_law_1149 rfl (lv_at hl 3 rfl) ?_
  refine lv_iload_n hx hb dL_law_1150 rfl (lv_at hl 0 rfl) ?_
  refine lv_iconst (v := 2) hx hb dL_law_1151 (by decide) ?_
  refine lv_iadd hx hb dL_law_1152 ?_
  refine lv_topi (fun z3 ez3 => ?_)
  have fz3 : z3.toInt = (nI i).toInt + 2 := by rw [ez3]; exact tq_add rfl (by decide) (by omega)
  refine va_sld hx hb hX hbl hbA hS (tq_in rfl (by omega)) dL_law_1153 ?_
  refine lv_topi (fun z4 ez4 => ?_)
  refine ct_callAl (D := D) (wx := wx) (wm := wm) (va_runV (As := [.int z2, .int z4]) (rest := []) ⟨hx, hb, hml, hown, hts⟩ (k_X11_when l D G cI cJ cB cZ cO g h0 wx hX0 z2 z4 H.size) (cwV 2 hts gL_law_X11_when rfl rfl rfl (by decide +kernel) ⟨Nat.le_of_ble_eq_true rfl, Nat.le_of_ble_eq_true rfl⟩) (ct_preA (T := ct_T cI cJ cB cZ cO) (ci := 11) hE hH hP hD hS hA (XOK_at hX0) rfl) rfl rfl hl.1 rfl (lv_room (Nat.le_of_ble_eq_true rfl)) dL_law_1154 ⟨Nat.le_of_ble_eq_true rfl, Nat.le_of_ble_eq_true rfl⟩) hP hD hS hA (fun r5 w6 H locs hw hP hD hS => ?_)
  obtain ⟨hk7, hz8⟩ := hw
  refine lv_pop2_2 hx hb dL_law_1157 rfl ?_
  refine lv_aload_n hx hb dL_law_1158 rfl (lv_at hl 1 rfl) ?_
  refine lv_aload_n hx hb dL_law_1159 rfl (lv_at hl 3 rfl) ?_
  refine lv_iload_n hx hb dL_law_1160 rfl (lv_at hl 0 rfl) ?_
  refine lv_iconst (v := 1) hx hb dL_law_1161 (by decide) ?_
  refine lv_iadd hx hb dL_law_1162 ?_
  refine lv_topi (fun z9 ez9 => ?_)
  have fz9 : z9.toInt = (nI i).toInt + 1 := by rw [ez9]; exact tq_add rfl (by decide) (by omega)
  refine va_sld hx hb hX hbl hbA hS (tq_in rfl (by omega)) dL_law_1163 ?_
  refine lv_topi (fun z10 ez10 => ?_)
  refine lv_aload_n hx hb dL_law_1164 rfl (lv_at hl 3 rfl) ?_
  refine lv_iload_n hx hb dL_law_1165 rfl (lv_at hl 0 rfl) ?_
  refine lv_iconst (v := 2) hx hb dL_law_1166 (by decide) ?_
  refine lv_iadd hx hb dL_law_1167 ?_
  refine lv_topi (fun z11 ez11 => ?_)
  have fz11 : z11.toInt = (nI i).toInt + 2 := by rw [ez11]; exact tq_add rfl (by decide) (by omega)
  refine va_sld hx hb hX hbl hbA hS (tq_in rfl (by omega)) dL_law_1168 ?_
  refine lv_topi (fun z12 ez12 => ?_)
  refine ct_callAl (D := D) (wx := wm) (wm := w6) (va_runV (As := [.int z10, .int z12]) (rest := []) ⟨hx, hb, hml, hown, hts⟩ (k_X12_when l D G cI cJ cB cZ cO g h1 wm hM0 z10 z12 H.size) (cwV 2 hts gL_law_X12_when rfl rfl rfl (by decide +kernel) ⟨Nat.le_of_ble_eq_true rfl, Nat.le_of_ble_eq_true rfl⟩) (ct_preA (T := ct_T cI cJ cB cZ cO) (ci := 12) hE hH hP hD hS hA (MOK_at hM0) rfl) rfl rfl hl.1 rfl (lv_room (Nat.le_of_ble_eq_true rfl)) dL_law_1169 ⟨Nat.le_of_ble_eq_true rfl, Nat.le_of_ble_eq_true rfl⟩) hP hD hS hA (fun r13 w14 H locs hw hP hD hS => ?_)
  obtain ⟨hk15, hz16⟩ := hw
  refine lv_pop2_2 hx hb dL_law_1172 rfl ?_
  refine lv_goto (tgt := 2162) hx hb dL_law_1173 (by decide) ?_
  exact kk _ w6 w14 H locs ls hk7 hk15 hP hD hS (lv_sub hl [0, 1, 2, 3] rfl)
set_option maxHeartbeats 8000000 in
set_option maxRecDepth 100000 in
theorem law_c30 {p : Program} {l : Launch} {e : Env} {s : State} {m : MethodId} {below : List Frame} {meth : Method} {c : Code} {A : Nat → Prop} {b L : Nat} {xs : Nat → Int32} (hx : p.tables.exec = Jvm.exec) (hb : c.code = code) (hml : c.maxLocals = 4) (hr : meth.sig.returnType = ret) (hlocks : meth.locks = false) (hX : va_X b L xs s s.heap) (hbl : b < s.heap.size) (hbA : ¬ A b) (hA : ∀ q : Nat, s.heap.size ≤ q → A q) (hAf : ∀ q : Nat, A q → s.heap.size ≤ q) (D : va_G) (G : ct_G) (cI cJ cB cZ cO : ClassId) (g : Gh) (h0 h1 : Nat) (hown : s.vm.findClass RL = some m.cls) (hts : ∀ w ∈ wsL_law, w.before #[Value.ref b] s = true) (hE : ct_E D (ct_T cI cJ cB cZ cO) G s) (hH : ct_H G A s s.heap) (hL : L ≤ 3072) (i : Nat) (hi : i + 6 ≤ L) (wx wm : va_W) (hX0 : XOK cI cJ cB cZ cO g h0 wx) (hM0 : MOK cI cJ cB cZ cO g h1 wm) {H : Heap} {locs : List Loc} (hP : va_P D vwCl (wx ++ wm) H) (hD : va_D A (wx ++ wm)) (hS : va_S A s.heap H locs) {ls : Array Slot} (hl : lv_has ls 4 [(3, .int (nI i)), (2, .ref h1), (1, .ref h0), (0, .ref b)]) (kk : ∀ (g : Gh) (wx wm : va_W) (H : Heap) (locs : List Loc) (ls : Array Slot), XOK cI cJ cB cZ cO g h0 wx → MOK cI cJ cB cZ cO g h1 wm → va_P D vwCl (wx ++ wm) H → va_D A (wx ++ wm) → va_S A s.heap H locs → lv_has ls 4 [(3, .int (nI i)), (2, .ref h1), (1, .ref h0), (0, .ref b)] → W p l e room_1 s m #[Value.ref b] below meth c H locs 107 36842 (lw_Z below #[Value.ref b] s) (F0 m 2162 ls [])) : W p l e room_1 s m #[Value.ref b] below meth c H locs 107 36842 (lw_Z below #[Value.ref b] s) (F0 m 1176 ls []) := by
  have hK := hE.1
  have hni : (nI i).toInt = (i : Int) := nI_toInt (by omega)
  refine lv_aload_n hx hb dL_law_1176 rfl (lv_at hl 2 rfl) ?_
  refine lv_aload_n hx hb dL_law_1177 rfl (lv_at hl 3 rfl) ?_
  refine lv_iload_n hx hb dL_law_1178 rfl (lv_at hl 0 rfl) ?_
  refine lv_iconst (v := 1) hx hb dL_law_1179 (by decide) ?_
  refine lv_iadd hx hb dL_law_1180 ?_
  refine lv_topi (fun z1 ez1 => ?_)
  have fz1 : z1.toInt = (nI i).toInt + 1 := by rw [ez1]; exact tq_add rfl (by decide) (by omega)
  refine va_sld hx hb hX hbl hbA hS (tq_in rfl (by omega)) dL_law_1181 ?_
  refine lv_topi (fun z2 ez2 => ?_)
  refine lv_aload_n hx hb dL_law_1182 rfl (lv_at hl 3 rfl) ?_
  refine lv_iload_n hx hb dL_law_1183 rfl (lv_at hl 0 rfl) ?_
  refine lv_iconst (v := 2) hx hb dL_law_1184 (by decide) ?_
  refine lv_iadd hx hb dL_law_1185 ?_
  refine lv_topi (fun z3 ez3 => ?_)
  have fz3 : z3.toInt = (nI i).toInt + 2 := by rw [ez3]; exact tq_add rfl (by decide) (by omega)
  refine va_sld hx hb hX hbl hbA hS (tq_in rfl (by omega)) dL_law_1186 ?_
  refine lv_topi (fun z4 ez4 => ?_)
  refine ct_callAi (D := D) (wx := wx) (wm := wm) (va_runV (As := [.int z2, .int z4]) (rest := []) ⟨hx, hb, hml, hown, hts⟩ (k_X11_listen l D G cI cJ cB cZ cO g h0 wx hX0 z2 z4 H.size) (cwV 2 hts gL_law_X11_listen rfl rfl rfl (by decide +kernel) ⟨Nat.le_of_ble_eq_true rfl, Nat.le_of_ble_eq_true rfl⟩) (ct_preA (T := ct_T cI cJ cB cZ cO) (ci := 11) hE hH hP hD hS hA (XOK_at hX0) rfl) rfl rfl hl.1 rfl (lv_room (Nat.le_of_ble_eq_true rfl)) dL_law_1187 ⟨Nat.le_of_ble_eq_true rfl, Nat.le_of_ble_eq_true rfl⟩) hP hD hS hA (fun r5 w6 H locs hw hP hD hS => ?_)
  obtain ⟨hk7, hz8⟩ := hw
  refine lv_pop hx hb dL_law_1190 rfl ?_
  refine lv_aload_n hx hb dL_law_1191 rfl (lv_at hl 1 rfl) ?_
  refine lv_aload_n hx hb dL_law_1192 rfl (lv_at hl 3 rfl) ?_
  refine lv_iload_n hx hb dL_law_1193 rfl (lv_at hl 0 rfl) ?_
  refine lv_iconst (v := 1) hx hb dL_law_1194 (by decide) ?_
  refine lv_iadd hx hb dL_law_1195 ?_
  refine lv_topi (fun z9 ez9 => ?_)
  have fz9 : z9.toInt = (nI i).toInt + 1 := by rw [ez9]; exact tq_add rfl (by decide) (by omega)
  refine va_sld hx hb hX hbl hbA hS (tq_in rfl (by omega)) dL_law_1196 ?_
  refine lv_topi (fun z10 ez10 => ?_)
  refine lv_aload_n hx hb dL_law_1197 rfl (lv_at hl 3 rfl) ?_
  refine lv_iload_n hx hb dL_law_1198 rfl (lv_at hl 0 rfl) ?_
  refine lv_iconst (v := 2) hx hb dL_law_1199 (by decide) ?_
  refine lv_iadd hx hb dL_law_1200 ?_
  refine lv_topi (fun z11 ez11 => ?_)
  have fz11 : z11.toInt = (nI i).toInt + 2 := by rw [ez11]; exact tq_add rfl (by decide) (by omega)
  refine va_sld hx hb hX hbl hbA hS (tq_in rfl (by omega)) dL_law_1201 ?_
  refine lv_topi (fun z12 ez12 => ?_)
  refine ct_callAi (D := D) (wx := wm) (wm := w6) (va_runV (As := [.int z10, .int z12]) (rest := []) ⟨hx, hb, hml, hown, hts⟩ (k_X12_listen l D G cI cJ cB cZ cO g h1 wm hM0 z10 z12 H.size) (cwV 2 hts gL_law_X12_listen rfl rfl rfl (by decide +kernel) ⟨Nat.le_of_ble_eq_true rfl, Nat.le_of_ble_eq_true rfl⟩) (ct_preA (T := ct_T cI cJ cB cZ cO) (ci := 12) hE hH hP hD hS hA (MOK_at hM0) rfl) rfl rfl hl.1 rfl (lv_room (Nat.le_of_ble_eq_true rfl)) dL_law_1202 ⟨Nat.le_of_ble_eq_true rfl, Nat.le_of_ble_eq_true rfl⟩) hP hD hS hA (fun r13 w14 H locs hw hP hD hS => ?_)
  obtain ⟨hk15, hz16⟩ := hw
  refine lv_pop hx hb dL_law_1205 rfl ?_
  refine lv_goto (tgt := 2162) hx hb dL_law_1206 (by decide) ?_
  exact kk _ w6 w14 H locs ls hk7 hk15 hP hD hS (lv_sub hl [0, 1, 2, 3] rfl)
set_option maxHeartbeats 8000000 in
set_option maxRecDepth 100000 in
theorem law_c31 {p : Program} {l : Launch} {e : Env} {s : State} {m : MethodId} {below : List Frame} {meth : Method} {c : Code} {A : Nat → Prop} {b L : Nat} {xs : Nat → Int32} (hx : p.tables.exec = Jvm.exec) (hb : c.code = code) (hml : c.maxLocals = 4) (hr : meth.sig.returnType = ret) (hlocks : meth.locks = false) (hX : va_X b L xs s s.heap) (hbl : b < s.heap.size) (hbA : ¬ A b) (hA : ∀ q : Nat, s.heap.size ≤ q → A q) (hAf : ∀ q : Nat, A q → s.heap.size ≤ q) (D : va_G) (G : ct_G) (cI cJ cB cZ cO : ClassId) (g : Gh) (h0 h1 : Nat) (hown : s.vm.findClass RL = some m.cls) (hts : ∀ w ∈ wsL_law, w.before #[Value.ref b] s = true) (hE : ct_E D (ct_T cI cJ cB cZ cO) G s) (hH : ct_H G A s s.heap) (hL : L ≤ 3072) (i : Nat) (hi : i + 6 ≤ L) (wx wm : va_W) (hX0 : XOK cI cJ cB cZ cO g h0 wx) (hM0 : MOK cI cJ cB cZ cO g h1 wm) {H : Heap} {locs : List Loc} (hP : va_P D vwCl (wx ++ wm) H) (hD : va_D A (wx ++ wm)) (hS : va_S A s.heap H locs) {ls : Array Slot} (hl : lv_has ls 4 [(3, .int (nI i)), (2, .ref h1), (1, .ref h0), (0, .ref b)]) (kk : ∀ (g : Gh) (wx wm : va_W) (H : Heap) (locs : List Loc) (ls : Array Slot), XOK cI cJ cB cZ cO g h0 wx → MOK cI cJ cB cZ cO g h1 wm → va_P D vwCl (wx ++ wm) H → va_D A (wx ++ wm) → va_S A s.heap H locs → lv_has ls 4 [(3, .int (nI i)), (2, .ref h1), (1, .ref h0), (0, .ref b)] → W p l e room_1 s m #[Value.ref b] below meth c H locs 107 36842 (lw_Z below #[Value.ref b] s) (F0 m 2162 ls [])) : W p l e room_1 s m #[Value.ref b] below meth c H locs 107 36842 (lw_Z below #[Value.ref b] s) (F0 m 1209 ls []) := by
  have hK := hE.1
  have hni : (nI i).toInt = (i : Int) := nI_toInt (by omega)
  refine lv_aload_n hx hb dL_law_1209 rfl (lv_at hl 2 rfl) ?_
  refine lv_aload_n hx hb dL_law_1210 rfl (lv_at hl 3 rfl) ?_
  refine lv_iload_n hx hb dL_law_1211 rfl (lv_at hl 0 rfl) ?_
  refine lv_iconst (v := 1) hx hb dL_law_1212 (by decide) ?_
  refine lv_iadd hx hb dL_law_1213 ?_
  refine lv_topi (fun z1 ez1 => ?_)
  have fz1 : z1.toInt = (nI i).toInt + 1 := by rw [ez1]; exact tq_add rfl (by decide) (by omega)
  refine va_sld hx hb hX hbl hbA hS (tq_in rfl (by omega)) dL_law_1214 ?_
  refine lv_topi (fun z2 ez2 => ?_)
  refine lv_aload_n hx hb dL_law_1215 rfl (lv_at hl 3 rfl) ?_
  refine lv_iload_n hx hb dL_law_1216 rfl (lv_at hl 0 rfl) ?_
  refine lv_iconst (v := 2) hx hb dL_law_1217 (by decide) ?_
  refine lv_iadd hx hb dL_law_1218 ?_
  refine lv_topi (fun z3 ez3 => ?_)
  have fz3 : z3.toInt = (nI i).toInt + 2 := by rw [ez3]; exact tq_add rfl (by decide) (by omega)
  refine va_sld hx hb hX hbl hbA hS (tq_in rfl (by omega)) dL_law_1219 ?_
  refine lv_topi (fun z4 ez4 => ?_)
  refine ct_callAi (D := D) (wx := wx) (wm := wm) (va_runV (As := [.int z2, .int z4]) (rest := []) ⟨hx, hb, hml, hown, hts⟩ (k_X11_leaves l D G cI cJ cB cZ cO g h0 wx hX0 z2 z4 H.size) (cwV 2 hts gL_law_X11_leaves rfl rfl rfl (by decide +kernel) ⟨Nat.le_of_ble_eq_true rfl, Nat.le_of_ble_eq_true rfl⟩) (ct_preA (T := ct_T cI cJ cB cZ cO) (ci := 11) hE hH hP hD hS hA (XOK_at hX0) rfl) rfl rfl hl.1 rfl (lv_room (Nat.le_of_ble_eq_true rfl)) dL_law_1220 ⟨Nat.le_of_ble_eq_true rfl, Nat.le_of_ble_eq_true rfl⟩) hP hD hS hA (fun r5 w6 H locs hw hP hD hS => ?_)
  obtain ⟨hk7, hz8⟩ := hw
  refine lv_pop hx hb dL_law_1223 rfl ?_
  refine lv_aload_n hx hb dL_law_1224 rfl (lv_at hl 1 rfl) ?_
  refine lv_aload_n hx hb dL_law_1225 rfl (lv_at hl 3 rfl) ?_
  refine lv_iload_n hx hb dL_law_1226 rfl (lv_at hl 0 rfl) ?_
  refine lv_iconst (v := 1) hx hb dL_law_1227 (by decide) ?_
  refine lv_iadd hx hb dL_law_1228 ?_
  refine lv_topi (fun z9 ez9 => ?_)
  have fz9 : z9.toInt = (nI i).toInt + 1 := by rw [ez9]; exact tq_add rfl (by decide) (by omega)
  refine va_sld hx hb hX hbl hbA hS (tq_in rfl (by omega)) dL_law_1229 ?_
  refine lv_topi (fun z10 ez10 => ?_)
  refine lv_aload_n hx hb dL_law_1230 rfl (lv_at hl 3 rfl) ?_
  refine lv_iload_n hx hb dL_law_1231 rfl (lv_at hl 0 rfl) ?_
  refine lv_iconst (v := 2) hx hb dL_law_1232 (by decide) ?_
  refine lv_iadd hx hb dL_law_1233 ?_
  refine lv_topi (fun z11 ez11 => ?_)
  have fz11 : z11.toInt = (nI i).toInt + 2 := by rw [ez11]; exact tq_add rfl (by decide) (by omega)
  refine va_sld hx hb hX hbl hbA hS (tq_in rfl (by omega)) dL_law_1234 ?_
  refine lv_topi (fun z12 ez12 => ?_)
  refine ct_callAi (D := D) (wx := wm) (wm := w6) (va_runV (As := [.int z10, .int z12]) (rest := []) ⟨hx, hb, hml, hown, hts⟩ (k_X12_leaves l D G cI cJ cB cZ cO g h1 wm hM0 z10 z12 H.size) (cwV 2 hts gL_law_X12_leaves rfl rfl rfl (by decide +kernel) ⟨Nat.le_of_ble_eq_true rfl, Nat.le_of_ble_eq_true rfl⟩) (ct_preA (T := ct_T cI cJ cB cZ cO) (ci := 12) hE hH hP hD hS hA (MOK_at hM0) rfl) rfl rfl hl.1 rfl (lv_room (Nat.le_of_ble_eq_true rfl)) dL_law_1235 ⟨Nat.le_of_ble_eq_true rfl, Nat.le_of_ble_eq_true rfl⟩) hP hD hS hA (fun r13 w14 H locs hw hP hD hS => ?_)
  obtain ⟨hk15, hz16⟩ := hw
  refine lv_pop hx hb dL_law_1238 rfl ?_
  refine lv_goto (tgt := 2162) hx hb dL_law_1239 (by decide) ?_
  exact kk _ w6 w14 H locs ls hk7 hk15 hP hD hS (lv_sub hl [0, 1, 2, 3] rfl)
