set_option maxHeartbeats 8000000 in
set_option maxRecDepth 100000 in
theorem law_c32 {p : Program} {l : Launch} {e : Env} {s : State} {m : MethodId} {below : List Frame} {meth : Method} {c : Code} {A : Nat → Prop} {b L : Nat} {xs : Nat → Int32} (hx : p.tables.exec = Jvm.exec) (hb : c.code = code) (hml : c.maxLocals = 4) (hr : meth.sig.returnType = ret) (hlocks : meth.locks = false) (hX : va_X b L xs s s.heap) (hbl : b < s.heap.size) (hbA : ¬ A b) (hA : ∀ q : Nat, s.heap.size ≤ q → A q) (hAf : ∀ q : Nat, A q → s.heap.size ≤ q) (D : va_G) (G : ct_G) (cI cJ cB cZ cO : ClassId) (g : Gh) (h0 h1 : Nat) (hown : s.vm.findClass RL = some m.cls) (hts : ∀ w ∈ wsL_law, w.before #[Value.ref b] s = true) (hE : ct_E D (ct_T cI cJ cB cZ cO) G s) (hH : ct_H G A s s.heap) (hL : L ≤ 3072) (i : Nat) (hi : i + 6 ≤ L) (wx wm : va_W) (hX0 : XOK cI cJ cB cZ cO g h0 wx) (hM0 : MOK cI cJ cB cZ cO g h1 wm) {H : Heap} {locs : List Loc} (hP : va_P D vwCl (wx ++ wm) H) (hD : va_D A (wx ++ wm)) (hS : va_S A s.heap H locs) {ls : Array Slot} (hl : lv_has ls 4 [(3, .int (nI i)), (2, .ref h1), (1, .ref h0), (0, .ref b)]) (kk : ∀ (g : Gh) (wx wm : va_W) (H : Heap) (locs : List Loc) (ls : Array Slot), XOK cI cJ cB cZ cO g h0 wx → MOK cI cJ cB cZ cO g h1 wm → va_P D vwCl (wx ++ wm) H → va_D A (wx ++ wm) → va_S A s.heap H locs → lv_has ls 4 [(3, .int (nI i)), (2, .ref h1), (1, .ref h0), (0, .ref b)] → W p l e room_1 s m #[Value.ref b] below meth c H locs 107 36842 (lw_Z below #[Value.ref b] s) (F0 m 2162 ls [])) : W p l e room_1 s m #[Value.ref b] below meth c H locs 107 36842 (lw_Z below #[Value.ref b] s) (F0 m 1242 ls []) := by
  have hK := hE.1
  have hni : (nI i).toInt = (i : Int) := nI_toInt (by omega)
  refine lv_aload_n hx hb dL_law_1242 rfl (lv_at hl 2 rfl) ?_
  refine lv_aload_n hx hb dL_law_1243 rfl (lv_at hl 3 rfl) ?_
  refine lv_iload_n hx hb dL_law_1244 rfl (lv_at hl 0 rfl) ?_
  refine lv_iconst (v := 1) hx hb dL_law_1245 (by decide) ?_
  refine lv_iadd hx hb dL_law_1246 ?_
  refine lv_topi (fun z1 ez1 => ?_)
  have fz1 : z1.toInt = (nI i).toInt + 1 := by rw [ez1]; exact tq_add rfl (by decide) (by omega)
  refine va_sld hx hb hX hbl hbA hS (tq_in rfl (by omega)) dL_law_1247 ?_
  refine lv_topi (fun z2 ez2 => ?_)
  refine ct_callAi (D := D) (wx := wx) (wm := wm) (va_runV (As := [.int z2]) (rest := []) ⟨hx, hb, hml, hown, hts⟩ (k_X11_crosses l D G cI cJ cB cZ cO g h0 wx hX0 z2 H.size) (cwV 1 hts gL_law_X11_crosses rfl rfl rfl (by decide +kernel) ⟨Nat.le_of_ble_eq_true rfl, Nat.le_of_ble_eq_true rfl⟩) (ct_preA (T := ct_T cI cJ cB cZ cO) (ci := 11) hE hH hP hD hS hA (XOK_at hX0) rfl) rfl rfl hl.1 rfl (lv_room (Nat.le_of_ble_eq_true rfl)) dL_law_1248 ⟨Nat.le_of_ble_eq_true rfl, Nat.le_of_ble_eq_true rfl⟩) hP hD hS hA (fun r3 w4 H locs hw hP hD hS => ?_)
  obtain ⟨hk5, hz6⟩ := hw
  refine lv_pop hx hb dL_law_1251 rfl ?_
  refine lv_aload_n hx hb dL_law_1252 rfl (lv_at hl 1 rfl) ?_
  refine lv_aload_n hx hb dL_law_1253 rfl (lv_at hl 3 rfl) ?_
  refine lv_iload_n hx hb dL_law_1254 rfl (lv_at hl 0 rfl) ?_
  refine lv_iconst (v := 1) hx hb dL_law_1255 (by decide) ?_
  refine lv_iadd hx hb dL_law_1256 ?_
  refine lv_topi (fun z7 ez7 => ?_)
  have fz7 : z7.toInt = (nI i).toInt + 1 := by rw [ez7]; exact tq_add rfl (by decide) (by omega)
  refine va_sld hx hb hX hbl hbA hS (tq_in rfl (by omega)) dL_law_1257 ?_
  refine lv_topi (fun z8 ez8 => ?_)
  refine ct_callAi (D := D) (wx := wm) (wm := w4) (va_runV (As := [.int z8]) (rest := []) ⟨hx, hb, hml, hown, hts⟩ (k_X12_crosses l D G cI cJ cB cZ cO g h1 wm hM0 z8 H.size) (cwV 1 hts gL_law_X12_crosses rfl rfl rfl (by decide +kernel) ⟨Nat.le_of_ble_eq_true rfl, Nat.le_of_ble_eq_true rfl⟩) (ct_preA (T := ct_T cI cJ cB cZ cO) (ci := 12) hE hH hP hD hS hA (MOK_at hM0) rfl) rfl rfl hl.1 rfl (lv_room (Nat.le_of_ble_eq_true rfl)) dL_law_1258 ⟨Nat.le_of_ble_eq_true rfl, Nat.le_of_ble_eq_true rfl⟩) hP hD hS hA (fun r9 w10 H locs hw hP hD hS => ?_)
  obtain ⟨hk11, hz12⟩ := hw
  refine lv_pop hx hb dL_law_1261 rfl ?_
  refine lv_goto (tgt := 2162) hx hb dL_law_1262 (by decide) ?_
  exact kk _ w4 w10 H locs ls hk5 hk11 hP hD hS (lv_sub hl [0, 1, 2, 3] rfl)
set_option maxHeartbeats 8000000 in
set_option maxRecDepth 100000 in
theorem law_c33 {p : Program} {l : Launch} {e : Env} {s : State} {m : MethodId} {below : List Frame} {meth : Method} {c : Code} {A : Nat → Prop} {b L : Nat} {xs : Nat → Int32} (hx : p.tables.exec = Jvm.exec) (hb : c.code = code) (hml : c.maxLocals = 4) (hr : meth.sig.returnType = ret) (hlocks : meth.locks = false) (hX : va_X b L xs s s.heap) (hbl : b < s.heap.size) (hbA : ¬ A b) (hA : ∀ q : Nat, s.heap.size ≤ q → A q) (hAf : ∀ q : Nat, A q → s.heap.size ≤ q) (D : va_G) (G : ct_G) (cI cJ cB cZ cO : ClassId) (g : Gh) (h0 h1 : Nat) (hown : s.vm.findClass RL = some m.cls) (hts : ∀ w ∈ wsL_law, w.before #[Value.ref b] s = true) (hE : ct_E D (ct_T cI cJ cB cZ cO) G s) (hH : ct_H G A s s.heap) (hL : L ≤ 3072) (i : Nat) (hi : i + 6 ≤ L) (wx wm : va_W) (hX0 : XOK cI cJ cB cZ cO g h0 wx) (hM0 : MOK cI cJ cB cZ cO g h1 wm) {H : Heap} {locs : List Loc} (hP : va_P D vwCl (wx ++ wm) H) (hD : va_D A (wx ++ wm)) (hS : va_S A s.heap H locs) {ls : Array Slot} (hl : lv_has ls 4 [(3, .int (nI i)), (2, .ref h1), (1, .ref h0), (0, .ref b)]) (kk : ∀ (g : Gh) (wx wm : va_W) (H : Heap) (locs : List Loc) (ls : Array Slot), XOK cI cJ cB cZ cO g h0 wx → MOK cI cJ cB cZ cO g h1 wm → va_P D vwCl (wx ++ wm) H → va_D A (wx ++ wm) → va_S A s.heap H locs → lv_has ls 4 [(3, .int (nI i)), (2, .ref h1), (1, .ref h0), (0, .ref b)] → W p l e room_1 s m #[Value.ref b] below meth c H locs 107 36842 (lw_Z below #[Value.ref b] s) (F0 m 2162 ls [])) : W p l e room_1 s m #[Value.ref b] below meth c H locs 107 36842 (lw_Z below #[Value.ref b] s) (F0 m 1265 ls []) := by
  have hK := hE.1
  have hni : (nI i).toInt = (i : Int) := nI_toInt (by omega)
  refine lv_aload_n hx hb dL_law_1265 rfl (lv_at hl 2 rfl) ?_
  refine lv_aload_n hx hb dL_law_1266 rfl (lv_at hl 3 rfl) ?_
  refine lv_iload_n hx hb dL_law_1267 rfl (lv_at hl 0 rfl) ?_
  refine lv_iconst (v := 1) hx hb dL_law_1268 (by decide) ?_
  refine lv_iadd hx hb dL_law_1269 ?_
  refine lv_topi (fun z1 ez1 => ?_)
  have fz1 : z1.toInt = (nI i).toInt + 1 := by rw [ez1]; exact tq_add rfl (by decide) (by omega)
  refine va_sld hx hb hX hbl hbA hS (tq_in rfl (by omega)) dL_law_1270 ?_
  refine lv_topi (fun z2 ez2 => ?_)
  refine ct_callAi (D := D) (wx := wx) (wm := wm) (va_runV (As := [.int z2]) (rest := []) ⟨hx, hb, hml, hown, hts⟩ (k_X11_returns l D G cI cJ cB cZ cO g h0 wx hX0 z2 H.size) (cwV 1 hts gL_law_X11_returns rfl rfl rfl (by decide +kernel) ⟨Nat.le_of_ble_eq_true rfl, Nat.le_of_ble_eq_true rfl⟩) (ct_preA (T := ct_T cI cJ cB cZ cO) (ci := 11) hE hH hP hD hS hA (XOK_at hX0) rfl) rfl rfl hl.1 rfl (lv_room (Nat.le_of_ble_eq_true rfl)) dL_law_1271 ⟨Nat.le_of_ble_eq_true rfl, Nat.le_of_ble_eq_true rfl⟩) hP hD hS hA (fun r3 w4 H locs hw hP hD hS => ?_)
  obtain ⟨hk5, hz6⟩ := hw
  refine lv_pop hx hb dL_law_1274 rfl ?_
  refine lv_aload_n hx hb dL_law_1275 rfl (lv_at hl 1 rfl) ?_
  refine lv_aload_n hx hb dL_law_1276 rfl (lv_at hl 3 rfl) ?_
  refine lv_iload_n hx hb dL_law_1277 rfl (lv_at hl 0 rfl) ?_
  refine lv_iconst (v := 1) hx hb dL_law_1278 (by decide) ?_
  refine lv_iadd hx hb dL_law_1279 ?_
  refine lv_topi (fun z7 ez7 => ?_)
  have fz7 : z7.toInt = (nI i).toInt + 1 := by rw [ez7]; exact tq_add rfl (by decide) (by omega)
  refine va_sld hx hb hX hbl hbA hS (tq_in rfl (by omega)) dL_law_1280 ?_
  refine lv_topi (fun z8 ez8 => ?_)
  refine ct_callAi (D := D) (wx := wm) (wm := w4) (va_runV (As := [.int z8]) (rest := []) ⟨hx, hb, hml, hown, hts⟩ (k_X12_returns l D G cI cJ cB cZ cO g h1 wm hM0 z8 H.size) (cwV 1 hts gL_law_X12_returns rfl rfl rfl (by decide +kernel) ⟨Nat.le_of_ble_eq_true rfl, Nat.le_of_ble_eq_true rfl⟩) (ct_preA (T := ct_T cI cJ cB cZ cO) (ci := 12) hE hH hP hD hS hA (MOK_at hM0) rfl) rfl rfl hl.1 rfl (lv_room (Nat.le_of_ble_eq_true rfl)) dL_law_1281 ⟨Nat.le_of_ble_eq_true rfl, Nat.le_of_ble_eq_true rfl⟩) hP hD hS hA (fun r9 w10 H locs hw hP hD hS => ?_)
  obtain ⟨hk11, hz12⟩ := hw
  refine lv_pop hx hb dL_law_1284 rfl ?_
  refine lv_goto (tgt := 2162) hx hb dL_law_1285 (by decide) ?_
  exact kk _ w4 w10 H locs ls hk5 hk11 hP hD hS (lv_sub hl [0, 1, 2, 3] rfl)
set_option maxHeartbeats 8000000 in
set_option maxRecDepth 100000 in
theorem law_c34 {p : Program} {l : Launch} {e : Env} {s : State} {m : MethodId} {below : List Frame} {meth : Method} {c : Code} {A : Nat → Prop} {b L : Nat} {xs : Nat → Int32} (hx : p.tables.exec = Jvm.exec) (hb : c.code = code) (hml : c.maxLocals = 4) (hr : meth.sig.returnType = ret) (hlocks : meth.locks = false) (hX : va_X b L xs s s.heap) (hbl : b < s.heap.size) (hbA : ¬ A b) (hA : ∀ q : Nat, s.heap.size ≤ q → A q) (hAf : ∀ q : Nat, A q → s.heap.size ≤ q) (D : va_G) (G : ct_G) (cI cJ cB cZ cO : ClassId) (g : Gh) (h0 h1 : Nat) (hown : s.vm.findClass RL = some m.cls) (hts : ∀ w ∈ wsL_law, w.before #[Value.ref b] s = true) (hE : ct_E D (ct_T cI cJ cB cZ cO) G s) (hH : ct_H G A s s.heap) (hL : L ≤ 3072) (i : Nat) (hi : i + 6 ≤ L) (wx wm : va_W) (hX0 : XOK cI cJ cB cZ cO g h0 wx) (hM0 : MOK cI cJ cB cZ cO g h1 wm) {H : Heap} {locs : List Loc} (hP : va_P D vwCl (wx ++ wm) H) (hD : va_D A (wx ++ wm)) (hS : va_S A s.heap H locs) {ls : Array Slot} (hl : lv_has ls 4 [(3, .int (nI i)), (2, .ref h1), (1, .ref h0), (0, .ref b)]) (kk : ∀ (g : Gh) (wx wm : va_W) (H : Heap) (locs : List Loc) (ls : Array Slot), XOK cI cJ cB cZ cO g h0 wx → MOK cI cJ cB cZ cO g h1 wm → va_P D vwCl (wx ++ wm) H → va_D A (wx ++ wm) → va_S A s.heap H locs → lv_has ls 4 [(3, .int (nI i)), (2, .ref h1), (1, .ref h0), (0, .ref b)] → W p l e room_1 s m #[Value.ref b] below meth c H locs 107 36842 (lw_Z below #[Value.ref b] s) (F0 m 2162 ls [])) : W p l e room_1 s m #[Value.ref b] below meth c H locs 107 36842 (lw_Z below #[Value.ref b] s) (F0 m 1288 ls []) := by
  have hK := hE.1
  have hni : (nI i).toInt = (i : Int) := nI_toInt (by omega)
  refine lv_aload_n hx hb dL_law_1288 rfl (lv_at hl 2 rfl) ?_
  refine lv_aload_n hx hb dL_law_1289 rfl (lv_at hl 3 rfl) ?_
  refine lv_iload_n hx hb dL_law_1290 rfl (lv_at hl 0 rfl) ?_
  refine lv_iconst (v := 1) hx hb dL_law_1291 (by decide) ?_
  refine lv_iadd hx hb dL_law_1292 ?_
  refine lv_topi (fun z1 ez1 => ?_)
  have fz1 : z1.toInt = (nI i).toInt + 1 := by rw [ez1]; exact tq_add rfl (by decide) (by omega)
  refine va_sld hx hb hX hbl hbA hS (tq_in rfl (by omega)) dL_law_1293 ?_
  refine lv_topi (fun z2 ez2 => ?_)
  refine lv_aload_n hx hb dL_law_1294 rfl (lv_at hl 3 rfl) ?_
  refine lv_iload_n hx hb dL_law_1295 rfl (lv_at hl 0 rfl) ?_
  refine lv_iconst (v := 2) hx hb dL_law_1296 (by decide) ?_
  refine lv_iadd hx hb dL_law_1297 ?_
  refine lv_topi (fun z3 ez3 => ?_)
  have fz3 : z3.toInt = (nI i).toInt + 2 := by rw [ez3]; exact tq_add rfl (by decide) (by omega)
  refine va_sld hx hb hX hbl hbA hS (tq_in rfl (by omega)) dL_law_1298 ?_
  refine lv_topi (fun z4 ez4 => ?_)
  refine ct_callAi (D := D) (wx := wx) (wm := wm) (va_runV (As := [.int z2, .int z4]) (rest := []) ⟨hx, hb, hml, hown, hts⟩ (k_X11_meet l D G cI cJ cB cZ cO g h0 wx hX0 z2 z4 H.size) (cwV 2 hts gL_law_X11_meet rfl rfl rfl (by decide +kernel) ⟨Nat.le_of_ble_eq_true rfl, Nat.le_of_ble_eq_true rfl⟩) (ct_preA (T := ct_T cI cJ cB cZ cO) (ci := 11) hE hH hP hD hS hA (XOK_at hX0) rfl) rfl rfl hl.1 rfl (lv_room (Nat.le_of_ble_eq_true rfl)) dL_law_1299 ⟨Nat.le_of_ble_eq_true rfl, Nat.le_of_ble_eq_true rfl⟩) hP hD hS hA (fun r5 w6 H locs hw hP hD hS => ?_)
  obtain ⟨hk7, hz8⟩ := hw
  refine lv_pop hx hb dL_law_1302 rfl ?_
  refine lv_aload_n hx hb dL_law_1303 rfl (lv_at hl 1 rfl) ?_
  refine lv_aload_n hx hb dL_law_1304 rfl (lv_at hl 3 rfl) ?_
  refine lv_iload_n hx hb dL_law_1305 rfl (lv_at hl 0 rfl) ?_
  refine lv_iconst (v := 1) hx hb dL_law_1306 (by decide) ?_
  refine lv_iadd hx hb dL_law_1307 ?_
  refine lv_topi (fun z9 ez9 => ?_)
  have fz9 : z9.toInt = (nI i).toInt + 1 := by rw [ez9]; exact tq_add rfl (by decide) (by omega)
  refine va_sld hx hb hX hbl hbA hS (tq_in rfl (by omega)) dL_law_1308 ?_
  refine lv_topi (fun z10 ez10 => ?_)
  refine lv_aload_n hx hb dL_law_1309 rfl (lv_at hl 3 rfl) ?_
  refine lv_iload_n hx hb dL_law_1310 rfl (lv_at hl 0 rfl) ?_
  refine lv_iconst (v := 2) hx hb dL_law_1311 (by decide) ?_
  refine lv_iadd hx hb dL_law_1312 ?_
  refine lv_topi (fun z11 ez11 => ?_)
  have fz11 : z11.toInt = (nI i).toInt + 2 := by rw [ez11]; exact tq_add rfl (by decide) (by omega)
  refine va_sld hx hb hX hbl hbA hS (tq_in rfl (by omega)) dL_law_1313 ?_
  refine lv_topi (fun z12 ez12 => ?_)
  refine ct_callAi (D := D) (wx := wm) (wm := w6) (va_runV (As := [.int z10, .int z12]) (rest := []) ⟨hx, hb, hml, hown, hts⟩ (k_X12_meet l D G cI cJ cB cZ cO g h1 wm hM0 z10 z12 H.size) (cwV 2 hts gL_law_X12_meet rfl rfl rfl (by decide +kernel) ⟨Nat.le_of_ble_eq_true rfl, Nat.le_of_ble_eq_true rfl⟩) (ct_preA (T := ct_T cI cJ cB cZ cO) (ci := 12) hE hH hP hD hS hA (MOK_at hM0) rfl) rfl rfl hl.1 rfl (lv_room (Nat.le_of_ble_eq_true rfl)) dL_law_1314 ⟨Nat.le_of_ble_eq_true rfl, Nat.le_of_ble_eq_true rfl⟩) hP hD hS hA (fun r13 w14 H locs hw hP hD hS => ?_)
  obtain ⟨hk15, hz16⟩ := hw
  refine lv_pop hx hb dL_law_1317 rfl ?_
  refine lv_goto (tgt := 2162) hx hb dL_law_1318 (by decide) ?_
  exact kk _ w6 w14 H locs ls hk7 hk15 hP hD hS (lv_sub hl [0, 1, 2, 3] rfl)
set_option maxHeartbeats 8000000 in
set_option maxRecDepth 100000 in
theorem law_c35 {p : Program} {l : Launch} {e : Env} {s : State} {m : MethodId} {below : List Frame} {meth : Method} {c : Code} {A : Nat → Prop} {b L : Nat} {xs : Nat → Int32} (hx : p.tables.exec = Jvm.exec) (hb : c.code = code) (hml : c.maxLocals = 4) (hr : meth.sig.returnType = ret) (hlocks : meth.locks = false) (hX : va_X b L xs s s.heap) (hbl : b < s.heap.size) (hbA : ¬ A b) (hA : ∀ q : Nat, s.heap.size ≤ q → A q) (hAf : ∀ q : Nat, A q → s.heap.size ≤ q) (D : va_G) (G : ct_G) (cI cJ cB cZ cO : ClassId) (g : Gh) (h0 h1 : Nat) (hown : s.vm.findClass RL = some m.cls) (hts : ∀ w ∈ wsL_law, w.before #[Value.ref b] s = true) (hE : ct_E D (ct_T cI cJ cB cZ cO) G s) (hH : ct_H G A s s.heap) (hL : L ≤ 3072) (i : Nat) (hi : i + 6 ≤ L) (wx wm : va_W) (hX0 : XOK cI cJ cB cZ cO g h0 wx) (hM0 : MOK cI cJ cB cZ cO g h1 wm) {H : Heap} {locs : List Loc} (hP : va_P D vwCl (wx ++ wm) H) (hD : va_D A (wx ++ wm)) (hS : va_S A s.heap H locs) {ls : Array Slot} (hl : lv_has ls 4 [(3, .int (nI i)), (2, .ref h1), (1, .ref h0), (0, .ref b)]) (kk : ∀ (g : Gh) (wx wm : va_W) (H : Heap) (locs : List Loc) (ls : Array Slot), XOK cI cJ cB cZ cO g h0 wx → MOK cI cJ cB cZ cO g h1 wm → va_P D vwCl (wx ++ wm) H → va_D A (wx ++ wm) → va_S A s.heap H locs → lv_has ls 4 [(3, .int (nI i)), (2, .ref h1), (1, .ref h0), (0, .ref b)] → W p l e room_1 s m #[Value.ref b] below meth c H locs 107 36842 (lw_Z below #[Value.ref b] s) (F0 m 2162 ls [])) : W p l e room_1 s m #[Value.ref b] below meth c H locs 107 36842 (lw_Z below #[Value.ref b] s) (F0 m 1321 ls []) := by
  have hK := hE.1
  have hni : (nI i).toInt = (i : Int) := nI_toInt (by omega)
  refine lv_aload_n hx hb dL_law_1321 rfl (lv_at hl 2 rfl) ?_
  refine lv_aload_n hx hb dL_law_1322 rfl (lv_at hl 3 rfl) ?_
  refine lv_iload_n hx hb dL_law_1323 rfl (lv_at hl 0 rfl) ?_
  refine lv_iconst (v := 1) hx hb dL_law_1324 (by decide) ?_
  refine lv_iadd hx hb dL_law_1325 ?_
  refine lv_topi (fun z1 ez1 => ?_)
  have fz1 : z1.toInt = (nI i).toInt + 1 := by rw [ez1]; exact tq_add rfl (by decide) (by omega)
  refine va_sld hx hb hX hbl hbA hS (tq_in rfl (by omega)) dL_law_1326 ?_
  refine lv_topi (fun z2 ez2 => ?_)
  refine lv_aload_n hx hb dL_law_1327 rfl (lv_at hl 3 rfl) ?_
  refine lv_iload_n hx hb dL_law_1328 rfl (lv_at hl 0 rfl) ?_
  refine lv_iconst (v := 2) hx hb dL_law_1329 (by decide) ?_
  refine lv_iadd hx hb dL_law_1330 ?_
  refine lv_topi (fun z3 ez3 => ?_)
  have fz3 : z3.toInt = (nI i).toInt + 2 := by rw [ez3]; exact tq_add rfl (by decide) (by omega)
  refine va_sld hx hb hX hbl hbA hS (tq_in rfl (by omega)) dL_law_1331 ?_
  refine lv_topi (fun z4 ez4 => ?_)
  refine ct_callAi (D := D) (wx := wx) (wm := wm) (va_runV (As := [.int z2, .int z4]) (rest := []) ⟨hx, hb, hml, hown, hts⟩ (k_X11_cell l D G cI cJ cB cZ cO g h0 wx hX0 z2 z4 H.size) (cwV 2 hts gL_law_X11_cell rfl rfl rfl (by decide +kernel) ⟨Nat.le_of_ble_eq_true rfl, Nat.le_of_ble_eq_true rfl⟩) (ct_preA (T := ct_T cI cJ cB cZ cO) (ci := 11) hE hH hP hD hS hA (XOK_at hX0) rfl) rfl rfl hl.1 rfl (lv_room (Nat.le_of_ble_eq_true rfl)) dL_law_1332 ⟨Nat.le_of_ble_eq_true rfl, Nat.le_of_ble_eq_true rfl⟩) hP hD hS hA (fun r5 w6 H locs hw hP hD hS => ?_)
  obtain ⟨hk7, hz8⟩ := hw
  refine lv_pop hx hb dL_law_1335 rfl ?_
  refine lv_aload_n hx hb dL_law_1336 rfl (lv_at hl 1 rfl) ?_
  refine lv_aload_n hx hb dL_law_1337 rfl (lv_at hl 3 rfl) ?_
  refine lv_iload_n hx hb dL_law_1338 rfl (lv_at hl 0 rfl) ?_
  refine lv_iconst (v := 1) hx hb dL_law_1339 (by decide) ?_
  refine lv_iadd hx hb dL_law_1340 ?_
  refine lv_topi (fun z9 ez9 => ?_)
  have fz9 : z9.toInt = (nI i).toInt + 1 := by rw [ez9]; exact tq_add rfl (by decide) (by omega)
  refine va_sld hx hb hX hbl hbA hS (tq_in rfl (by omega)) dL_law_1341 ?_
  refine lv_topi (fun z10 ez10 => ?_)
  refine lv_aload_n hx hb dL_law_1342 rfl (lv_at hl 3 rfl) ?_
  refine lv_iload_n hx hb dL_law_1343 rfl (lv_at hl 0 rfl) ?_
  refine lv_iconst (v := 2) hx hb dL_law_1344 (by decide) ?_
  refine lv_iadd hx hb dL_law_1345 ?_
  refine lv_topi (fun z11 ez11 => ?_)
  have fz11 : z11.toInt = (nI i).toInt + 2 := by rw [ez11]; exact tq_add rfl (by decide) (by omega)
  refine va_sld hx hb hX hbl hbA hS (tq_in rfl (by omega)) dL_law_1346 ?_
  refine lv_topi (fun z12 ez12 => ?_)
  refine ct_callAi (D := D) (wx := wm) (wm := w6) (va_runV (As := [.int z10, .int z12]) (rest := []) ⟨hx, hb, hml, hown, hts⟩ (k_X12_cell l D G cI cJ cB cZ cO g h1 wm hM0 z10 z12 H.size) (cwV 2 hts gL_law_X12_cell rfl rfl rfl (by decide +kernel) ⟨Nat.le_of_ble_eq_true rfl, Nat.le_of_ble_eq_true rfl⟩) (ct_preA (T := ct_T cI cJ cB cZ cO) (ci := 12) hE hH hP hD hS hA (MOK_at hM0) rfl) rfl rfl hl.1 rfl (lv_room (Nat.le_of_ble_eq_true rfl)) dL_law_1347 ⟨Nat.le_of_ble_eq_true rfl, Nat.le_of_ble_eq_true rfl⟩) hP hD hS hA (fun r13 w14 H locs hw hP hD hS => ?_)
  obtain ⟨hk15, hz16⟩ := hw
  refine lv_pop hx hb dL_law_1350 rfl ?_
  refine lv_goto (tgt := 2162) hx hb dL_law_1351 (by decide) ?_
  exact kk _ w6 w14 H locs ls hk7 hk15 hP hD hS (lv_sub hl [0, 1, 2, 3] rfl)
set_option maxHeartbeats 8000000 in
set_option maxRecDepth 100000 in
theorem law_c36 {p : Program} {l : Launch} {e : Env} {s : State} {m : MethodId} {below : List Frame} {meth : Method} {c : Code} {A : Nat → Prop} {b L : Nat} {xs : Nat → Int32} (hx : p.tables.exec = Jvm.exec) (hb : c.code = code) (hml : c.maxLocals = 4) (hr : meth.sig.returnType = ret) (hlocks : meth.locks = false) (hX : va_X b L xs s s.heap) (hbl : b < s.heap.size) (hbA : ¬ A b) (hA : ∀ q : Nat, s.heap.size ≤ q → A q) (hAf : ∀ q : Nat, A q → s.heap.size ≤ q) (D : va_G) (G : ct_G) (cI cJ cB cZ cO : ClassId) (g : Gh) (h0 h1 : Nat) (hown : s.vm.findClass RL = some m.cls) (hts : ∀ w ∈ wsL_law, w.before #[Value.ref b] s = true) (hE : ct_E D (ct_T cI cJ cB cZ cO) G s) (hH : ct_H G A s s.heap) (hL : L ≤ 3072) (i : Nat) (hi : i + 6 ≤ L) (wx wm : va_W) (hX0 : XOK cI cJ cB cZ cO g h0 wx) (hM0 : MOK cI cJ cB cZ cO g h1 wm) {H : Heap} {locs : List Loc} (hP : va_P D vwCl (wx ++ wm) H) (hD : va_D A (wx ++ wm)) (hS : va_S A s.heap H locs) {ls : Array Slot} (hl : lv_has ls 4 [(3, .int (nI i)), (2, .ref h1), (1, .ref h0), (0, .ref b)]) (kk : ∀ (g : Gh) (wx wm : va_W) (H : Heap) (locs : List Loc) (ls : Array Slot), XOK cI cJ cB cZ cO g h0 wx → MOK cI cJ cB cZ cO g h1 wm → va_P D vwCl (wx ++ wm) H → va_D A (wx ++ wm) → va_S A s.heap H locs → lv_has ls 4 [(3, .int (nI i)), (2, .ref h1), (1, .ref h0), (0, .ref b)] → W p l e room_1 s m #[Value.ref b] below meth c H locs 107 36842 (lw_Z below #[Value.ref b] s) (F0 m 2162 ls [])) : W p l e room_1 s m #[Value.ref b] below meth c H locs 107 36842 (lw_Z below #[Value.ref b] s) (F0 m 1354 ls []) := by
  have hK := hE.1
  have hni : (nI i).toInt = (i : Int) := nI_toInt (by omega)
  refine lv_aload_n hx hb dL_law_1354 rfl (lv_at hl 2 rfl) ?_
  refine ct_callAi (D := D) (wx := wx) (wm := wm) (va_runV (As := []) (rest := []) ⟨hx, hb, hml, hown, hts⟩ (k_X11_longest l D G cI cJ cB cZ cO g h0 wx hX0  H.size) (cwV 0 hts gL_law_X11_longest rfl rfl rfl (by decide +kernel) ⟨Nat.le_of_ble_eq_true rfl, Nat.le_of_ble_eq_true rfl⟩) (ct_preA (T := ct_T cI cJ cB cZ cO) (ci := 11) hE hH hP hD hS hA (XOK_at hX0) rfl) rfl rfl hl.1 rfl (lv_room (Nat.le_of_ble_eq_true rfl)) dL_law_1355 ⟨Nat.le_of_ble_eq_true rfl, Nat.le_of_ble_eq_true rfl⟩) hP hD hS hA (fun r1 w2 H locs hw hP hD hS => ?_)
  obtain ⟨hk3, hz4⟩ := hw
  refine lv_pop hx hb dL_law_1358 rfl ?_
  refine lv_aload_n hx hb dL_law_1359 rfl (lv_at hl 1 rfl) ?_
  refine ct_callAi (D := D) (wx := wm) (wm := w2) (va_runV (As := []) (rest := []) ⟨hx, hb, hml, hown, hts⟩ (k_X12_longest l D G cI cJ cB cZ cO g h1 wm hM0  H.size) (cwV 0 hts gL_law_X12_longest rfl rfl rfl (by decide +kernel) ⟨Nat.le_of_ble_eq_true rfl, Nat.le_of_ble_eq_true rfl⟩) (ct_preA (T := ct_T cI cJ cB cZ cO) (ci := 12) hE hH hP hD hS hA (MOK_at hM0) rfl) rfl rfl hl.1 rfl (lv_room (Nat.le_of_ble_eq_true rfl)) dL_law_1360 ⟨Nat.le_of_ble_eq_true rfl, Nat.le_of_ble_eq_true rfl⟩) hP hD hS hA (fun r5 w6 H locs hw hP hD hS => ?_)
  obtain ⟨hk7, hz8⟩ := hw
  refine lv_pop hx hb dL_law_1363 rfl ?_
  refine lv_goto (tgt := 2162) hx hb dL_law_1364 (by decide) ?_
  exact kk _ w2 w6 H locs ls hk3 hk7 hP hD hS (lv_sub hl [0, 1, 2, 3] rfl)
set_option maxHeartbeats 8000000 in
set_option maxRecDepth 100000 in
theorem law_c37 {p : Program} {l : Launch} {e : Env} {s : State} {m : MethodId} {below : List Frame} {meth : Method} {c : Code} {A : Nat → Prop} {b L : Nat} {xs : Nat → Int32} (hx : p.tables.exec = Jvm.exec) (hb : c.code = code) (hml : c.maxLocals = 4) (hr : meth.sig.returnType = ret) (hlocks : meth.locks = false) (hX : va_X b L xs s s.heap) (hbl : b < s.heap.size) (hbA : ¬ A b) (hA : ∀ q : Nat, s.heap.size ≤ q → A q) (hAf : ∀ q : Nat, A q → s.heap.size ≤ q) (D : va_G) (G : ct_G) (cI cJ cB cZ cO : ClassId) (g : Gh) (h0 h1 : Nat) (hown : s.vm.findClass RL = some m.cls) (hts : ∀ w ∈ wsL_law, w.before #[Value.ref b] s = true) (hE : ct_E D (ct_T cI cJ cB cZ cO) G s) (hH : ct_H G A s s.heap) (hL : L ≤ 3072) (i : Nat) (hi : i + 6 ≤ L) (wx wm : va_W) (hX0 : XOK cI cJ cB cZ cO g h0 wx) (hM0 : MOK cI cJ cB cZ cO g h1 wm) {H : Heap} {locs : List Loc} (hP : va_P D vwCl (wx ++ wm) H) (hD : va_D A (wx ++ wm)) (hS : va_S A s.heap H locs) {ls : Array Slot} (hl : lv_has ls 4 [(3, .int (nI i)), (2, .ref h1), (1, .ref h0), (0, .ref b)]) (kk : ∀ (g : Gh) (wx wm : va_W) (H : Heap) (locs : List Loc) (ls : Array Slot), XOK cI cJ cB cZ cO g h0 wx → MOK cI cJ cB cZ cO g h1 wm → va_P D vwCl (wx ++ wm) H → va_D A (wx ++ wm) → va_S A s.heap H locs → lv_has ls 4 [(3, .int (nI i)), (2, .ref h1), (1, .ref h0), (0, .ref b)] → W p l e room_1 s m #[Value.ref b] below meth c H locs 107 36842 (lw_Z below #[Value.ref b] s) (F0 m 2162 ls [])) : W p l e room_1 s m #[Value.ref b] below meth c H locs 107 36842 (lw_Z below #[Value.ref b] s) (F0 m 1367 ls []) := by
  have hK := hE.1
  have hni : (nI i).toInt = (i : Int) := nI_toInt (by omega)
  refine lv_aload_n hx hb dL_law_1367 rfl (lv_at hl 2 rfl) ?_
  refine lv_aload_n hx hb dL_law_1368 rfl (lv_at hl 3 rfl) ?_
  refine lv_iload_n hx hb dL_law_1369 rfl (lv_at hl 0 rfl) ?_
  refine lv_iconst (v := 1) hx hb dL_law_1370 (by decide) ?_
  refine lv_iadd hx hb dL_law_1371 ?_
  refine lv_topi (fun z1 ez1 => ?_)
  have fz1 : z1.toInt = (nI i).toInt + 1 := by rw [ez1]; exact tq_add rfl (by decide) (by omega)
  refine va_sld hx hb hX hbl hbA hS (tq_in rfl (by omega)) dL_law_1372 ?_
  refine lv_topi (fun z2 ez2 => ?_)
  refine ct_callAi (D := D) (wx := wx) (wm := wm) (va_runV (As := [.int z2]) (rest := []) ⟨hx, hb, hml, hown, hts⟩ (k_X11_half l D G cI cJ cB cZ cO g h0 wx hX0 z2 H.size) (cwV 1 hts gL_law_X11_half rfl rfl rfl (by decide +kernel) ⟨Nat.le_of_ble_eq_true rfl, Nat.le_of_ble_eq_true rfl⟩) (ct_preA (T := ct_T cI cJ cB cZ cO) (ci := 11) hE hH hP hD hS hA (XOK_at hX0) rfl) rfl rfl hl.1 rfl (lv_room (Nat.le_of_ble_eq_true rfl)) dL_law_1373 ⟨Nat.le_of_ble_eq_true rfl, Nat.le_of_ble_eq_true rfl⟩) hP hD hS hA (fun r3 w4 H locs hw hP hD hS => ?_)
  obtain ⟨hk5, hz6⟩ := hw
  refine lv_pop hx hb dL_law_1376 rfl ?_
  refine lv_aload_n hx hb dL_law_1377 rfl (lv_at hl 1 rfl) ?_
  refine lv_aload_n hx hb dL_law_1378 rfl (lv_at hl 3 rfl) ?_
  refine lv_iload_n hx hb dL_law_1379 rfl (lv_at hl 0 rfl) ?_
  refine lv_iconst (v := 1) hx hb dL_law_1380 (by decide) ?_
  refine lv_iadd hx hb dL_law_1381 ?_
  refine lv_topi (fun z7 ez7 => ?_)
  have fz7 : z7.toInt = (nI i).toInt + 1 := by rw [ez7]; exact tq_add rfl (by decide) (by omega)
  refine va_sld hx hb hX hbl hbA hS (tq_in rfl (by omega)) dL_law_1382 ?_
  refine lv_topi (fun z8 ez8 => ?_)
  refine ct_callAi (D := D) (wx := wm) (wm := w4) (va_runV (As := [.int z8]) (rest := []) ⟨hx, hb, hml, hown, hts⟩ (k_X12_half l D G cI cJ cB cZ cO g h1 wm hM0 z8 H.size) (cwV 1 hts gL_law_X12_half rfl rfl rfl (by decide +kernel) ⟨Nat.le_of_ble_eq_true rfl, Nat.le_of_ble_eq_true rfl⟩) (ct_preA (T := ct_T cI cJ cB cZ cO) (ci := 12) hE hH hP hD hS hA (MOK_at hM0) rfl) rfl rfl hl.1 rfl (lv_room (Nat.le_of_ble_eq_true rfl)) dL_law_1383 ⟨Nat.le_of_ble_eq_true rfl, Nat.le_of_ble_eq_true rfl⟩) hP hD hS hA (fun r9 w10 H locs hw hP hD hS => ?_)
  obtain ⟨hk11, hz12⟩ := hw
  refine lv_pop hx hb dL_law_1386 rfl ?_
  refine lv_goto (tgt := 2162) hx hb dL_law_1387 (by decide) ?_
  exact kk _ w4 w10 H locs ls hk5 hk11 hP hD hS (lv_sub hl [0, 1, 2, 3] rfl)
set_option maxHeartbeats 8000000 in
set_option maxRecDepth 100000 in
theorem law_c38 {p : Program} {l : Launch} {e : Env} {s : State} {m : MethodId} {below : List Frame} {meth : Method} {c : Code} {A : Nat → Prop} {b L : Nat} {xs : Nat → Int32} (hx : p.tables.exec = Jvm.exec) (hb : c.code = code) (hml : c.maxLocals = 4) (hr : meth.sig.returnType = ret) (hlocks : meth.locks = false) (hX : va_X b L xs s s.heap) (hbl : b < s.heap.size) (hbA : ¬ A b) (hA : ∀ q : Nat, s.heap.size ≤ q → A q) (hAf : ∀ q : Nat, A q → s.heap.size ≤ q) (D : va_G) (G : ct_G) (cI cJ cB cZ cO : ClassId) (g : Gh) (h0 h1 : Nat) (hown : s.vm.findClass RL = some m.cls) (hts : ∀ w ∈ wsL_law, w.before #[Value.ref b] s = true) (hE : ct_E D (ct_T cI cJ cB cZ cO) G s) (hH : ct_H G A s s.heap) (hL : L ≤ 3072) (i : Nat) (hi : i + 6 ≤ L) (wx wm : va_W) (hX0 : XOK cI cJ cB cZ cO g h0 wx) (hM0 : MOK cI cJ cB cZ cO g h1 wm) {H : Heap} {locs : List Loc} (hP : va_P D vwCl (wx ++ wm) H) (hD : va_D A (wx ++ wm)) (hS : va_S A s.heap H locs) {ls : Array Slot} (hl : lv_has ls 4 [(3, .int (nI i)), (2, .ref h1), (1, .ref h0), (0, .ref b)]) (kk : ∀ (g : Gh) (wx wm : va_W) (H : Heap) (locs : List Loc) (ls : Array Slot), XOK cI cJ cB cZ cO g h0 wx → MOK cI cJ cB cZ cO g h1 wm → va_P D vwCl (wx ++ wm) H → va_D A (wx ++ wm) → va_S A s.heap H locs → lv_has ls 4 [(3, .int (nI i)), (2, .ref h1), (1, .ref h0), (0, .ref b)] → W p l e room_1 s m #[Value.ref b] below meth c H locs 107 36842 (lw_Z below #[Value.ref b] s) (F0 m 2162 ls [])) : W p l e room_1 s m #[Value.ref b] below meth c H locs 107 36842 (lw_Z below #[Value.ref b] s) (F0 m 1390 ls []) := by
  have hK := hE.1
  have hni : (nI i).toInt = (i : Int) := nI_toInt (by omega)
  refine lv_aload_n hx hb dL_law_1390 rfl (lv_at hl 2 rfl) ?_
  refine lv_aload_n hx hb dL_law_1391 rfl (lv_at hl 3 rfl) ?_
  refine lv_iload_n hx hb dL_law_1392 rfl (lv_at hl 0 rfl) ?_
  refine lv_iconst (v := 1) hx hb dL_law_1393 (by decide) ?_
  refine lv_iadd hx hb dL_law_1394 ?_
  refine lv_topi (fun z1 ez1 => ?_)
  have fz1 : z1.toInt = (nI i).toInt + 1 := by rw [ez1]; exact tq_add rfl (by decide) (by omega)
  refine va_sld hx hb hX hbl hbA hS (tq_in rfl (by omega)) dL_law_1395 ?_
  refine lv_topi (fun z2 ez2 => ?_)
  refine lv_aload_n hx hb dL_law_1396 rfl (lv_at hl 3 rfl) ?_
  refine lv_iload_n hx hb dL_law_1397 rfl (lv_at hl 0 rfl) ?_
  refine lv_iconst (v := 2) hx hb dL_law_1398 (by decide) ?_
  refine lv_iadd hx hb dL_law_1399 ?_
  refine lv_topi (fun z3 ez3 => ?_)
  have fz3 : z3.toInt = (nI i).toInt + 2 := by rw [ez3]; exact tq_add rfl (by decide) (by omega)
  refine va_sld hx hb hX hbl hbA hS (tq_in rfl (by omega)) dL_law_1400 ?_
  refine lv_topi (fun z4 ez4 => ?_)
  refine ct_callAi (D := D) (wx := wx) (wm := wm) (va_runV (As := [.int z2, .int z4]) (rest := []) ⟨hx, hb, hml, hown, hts⟩ (k_X11_fills l D G cI cJ cB cZ cO g h0 wx hX0 z2 z4 H.size) (cwV 2 hts gL_law_X11_fills rfl rfl rfl (by decide +kernel) ⟨Nat.le_of_ble_eq_true rfl, Nat.le_of_ble_eq_true rfl⟩) (ct_preA (T := ct_T cI cJ cB cZ cO) (ci := 11) hE hH hP hD hS hA (XOK_at hX0) rfl) rfl rfl hl.1 rfl (lv_room (Nat.le_of_ble_eq_true rfl)) dL_law_1401 ⟨Nat.le_of_ble_eq_true rfl, Nat.le_of_ble_eq_true rfl⟩) hP hD hS hA (fun r5 w6 H locs hw hP hD hS => ?_)
  obtain ⟨hk7, hz8⟩ := hw
  refine lv_pop hx hb dL_law_1404 rfl ?_
  refine lv_aload_n hx hb dL_law_1405 rfl (lv_at hl 1 rfl) ?_
  refine lv_aload_n hx hb dL_law_1406 rfl (lv_at hl 3 rfl) ?_
  refine lv_iload_n hx hb dL_law_1407 rfl (lv_at hl 0 rfl) ?_
  refine lv_iconst (v := 1) hx hb dL_law_1408 (by decide) ?_
  refine lv_iadd hx hb dL_law_1409 ?_
  refine lv_topi (fun z9 ez9 => ?_)
  have fz9 : z9.toInt = (nI i).toInt + 1 := by rw [ez9]; exact tq_add rfl (by decide) (by omega)
  refine va_sld hx hb hX hbl hbA hS (tq_in rfl (by omega)) dL_law_1410 ?_
  refine lv_topi (fun z10 ez10 => ?_)
  refine lv_aload_n hx hb dL_law_1411 rfl (lv_at hl 3 rfl) ?_
  refine lv_iload_n hx hb dL_law_1412 rfl (lv_at hl 0 rfl) ?_
  refine lv_iconst (v := 2) hx hb dL_law_1413 (by decide) ?_
  refine lv_iadd hx hb dL_law_1414 ?_
  refine lv_topi (fun z11 ez11 => ?_)
  have fz11 : z11.toInt = (nI i).toInt + 2 := by rw [ez11]; exact tq_add rfl (by decide) (by omega)
  refine va_sld hx hb hX hbl hbA hS (tq_in rfl (by omega)) dL_law_1415 ?_
  refine lv_topi (fun z12 ez12 => ?_)
  refine ct_callAi (D := D) (wx := wm) (wm := w6) (va_runV (As := [.int z10, .int z12]) (rest := []) ⟨hx, hb, hml, hown, hts⟩ (k_X12_fills l D G cI cJ cB cZ cO g h1 wm hM0 z10 z12 H.size) (cwV 2 hts gL_law_X12_fills rfl rfl rfl (by decide +kernel) ⟨Nat.le_of_ble_eq_true rfl, Nat.le_of_ble_eq_true rfl⟩) (ct_preA (T := ct_T cI cJ cB cZ cO) (ci := 12) hE hH hP hD hS hA (MOK_at hM0) rfl) rfl rfl hl.1 rfl (lv_room (Nat.le_of_ble_eq_true rfl)) dL_law_1416 ⟨Nat.le_of_ble_eq_true rfl, Nat.le_of_ble_eq_true rfl⟩) hP hD hS hA (fun r13 w14 H locs hw hP hD hS => ?_)
  obtain ⟨hk15, hz16⟩ := hw
  refine lv_pop hx hb dL_law_1419 rfl ?_
  refine lv_goto (tgt := 2162) hx hb dL_law_1420 (by decide) ?_
  exact kk _ w6 w14 H locs ls hk7 hk15 hP hD hS (lv_sub hl [0, 1, 2, 3] rfl)
set_option maxHeartbeats 8000000 in
set_option maxRecDepth 100000 in
theorem law_c39 {p : Program} {l : Launch} {e : Env} {s : State} {m : MethodId} {below : List Frame} {meth : Method} {c : Code} {A : Nat → Prop} {b L : Nat} {xs : Nat → Int32} (hx : p.tables.exec = Jvm.exec) (hb : c.code = code) (hml : c.maxLocals = 4) (hr : meth.sig.returnType = ret) (hlocks : meth.locks = false) (hX : va_X b L xs s s.heap) (hbl : b < s.heap.size) (hbA : ¬ A b) (hA : ∀ q : Nat, s.heap.size ≤ q → A q) (hAf : ∀ q : Nat, A q → s.heap.size ≤ q) (D : va_G) (G : ct_G) (cI cJ cB cZ cO : ClassId) (g : Gh) (h0 h1 : Nat) (hown : s.vm.findClass RL = some m.cls) (hts : ∀ w ∈ wsL_law, w.before #[Value.ref b] s = true) (hE : ct_E D (ct_T cI cJ cB cZ cO) G s) (hH : ct_H G A s s.heap) (hL : L ≤ 3072) (i : Nat) (hi : i + 6 ≤ L) (wx wm : va_W) (hX0 : XOK cI cJ cB cZ cO g h0 wx) (hM0 : MOK cI cJ cB cZ cO g h1 wm) {H : Heap} {locs : List Loc} (hP : va_P D vwCl (wx ++ wm) H) (hD : va_D A (wx ++ wm)) (hS : va_S A s.heap H locs) {ls : Array Slot} (hl : lv_has ls 4 [(3, .int (nI i)), (2, .ref h1), (1, .ref h0), (0, .ref b)]) (kk : ∀ (g : Gh) (wx wm : va_W) (H : Heap) (locs : List Loc) (ls : Array Slot), XOK cI cJ cB cZ cO g h0 wx → MOK cI cJ cB cZ cO g h1 wm → va_P D vwCl (wx ++ wm) H → va_D A (wx ++ wm) → va_S A s.heap H locs → lv_has ls 4 [(3, .int (nI i)), (2, .ref h1), (1, .ref h0), (0, .ref b)] → W p l e room_1 s m #[Value.ref b] below meth c H locs 107 36842 (lw_Z below #[Value.ref b] s) (F0 m 2162 ls [])) : W p l e room_1 s m #[Value.ref b] below meth c H locs 107 36842 (lw_Z below #[Value.ref b] s) (F0 m 1423 ls []) := by
  have hK := hE.1
  have hni : (nI i).toInt = (i : Int) := nI_toInt (by omega)
  refine lv_aload_n hx hb dL_law_1423 rfl (lv_at hl 2 rfl) ?_
  refine lv_aload_n hx hb dL_law_1424 rfl (lv_at hl 3 rfl) ?_
  refine lv_iload_n hx hb dL_law_1425 rfl (lv_at hl 0 rfl) ?_
  refine lv_iconst (v := 1) hx hb dL_law_1426 (by decide) ?_
  refine lv_iadd hx hb dL_law_1427 ?_
  refine lv_topi (fun z1 ez1 => ?_)
  have fz1 : z1.toInt = (nI i).toInt + 1 := by rw [ez1]; exact tq_add rfl (by decide) (by omega)
  refine va_sld hx hb hX hbl hbA hS (tq_in rfl (by omega)) dL_law_1428 ?_
  refine lv_topi (fun z2 ez2 => ?_)
  refine ct_callAi (D := D) (wx := wx) (wm := wm) (va_runV (As := [.int z2]) (rest := []) ⟨hx, hb, hml, hown, hts⟩ (k_X11_open l D G cI cJ cB cZ cO g h0 wx hX0 z2 H.size) (cwV 1 hts gL_law_X11_open rfl rfl rfl (by decide +kernel) ⟨Nat.le_of_ble_eq_true rfl, Nat.le_of_ble_eq_true rfl⟩) (ct_preA (T := ct_T cI cJ cB cZ cO) (ci := 11) hE hH hP hD hS hA (XOK_at hX0) rfl) rfl rfl hl.1 rfl (lv_room (Nat.le_of_ble_eq_true rfl)) dL_law_1429 ⟨Nat.le_of_ble_eq_true rfl, Nat.le_of_ble_eq_true rfl⟩) hP hD hS hA (fun r3 w4 H locs hw hP hD hS => ?_)
  obtain ⟨hk5, hz6⟩ := hw
  refine lv_aload_n hx hb dL_law_1432 rfl (lv_at hl 1 rfl) ?_
  refine lv_aload_n hx hb dL_law_1433 rfl (lv_at hl 3 rfl) ?_
  refine lv_iload_n hx hb dL_law_1434 rfl (lv_at hl 0 rfl) ?_
  refine lv_iconst (v := 1) hx hb dL_law_1435 (by decide) ?_
  refine lv_iadd hx hb dL_law_1436 ?_
  refine lv_topi (fun z7 ez7 => ?_)
  have fz7 : z7.toInt = (nI i).toInt + 1 := by rw [ez7]; exact tq_add rfl (by decide) (by omega)
  refine va_sld hx hb hX hbl hbA hS (tq_in rfl (by omega)) dL_law_1437 ?_
  refine lv_topi (fun z8 ez8 => ?_)
  refine ct_callAi (D := D) (wx := wm) (wm := w4) (va_runV (As := [.int z8]) (rest := [.int r3]) ⟨hx, hb, hml, hown, hts⟩ (k_X12_open l D G cI cJ cB cZ cO g h1 wm hM0 z8 H.size) (cwV 1 hts gL_law_X12_open rfl rfl rfl (by decide +kernel) ⟨Nat.le_of_ble_eq_true rfl, Nat.le_of_ble_eq_true rfl⟩) (ct_preA (T := ct_T cI cJ cB cZ cO) (ci := 12) hE hH hP hD hS hA (MOK_at hM0) rfl) rfl rfl hl.1 rfl (lv_room (Nat.le_of_ble_eq_true rfl)) dL_law_1438 ⟨Nat.le_of_ble_eq_true rfl, Nat.le_of_ble_eq_true rfl⟩) hP hD hS hA (fun r9 w10 H locs hw hP hD hS => ?_)
  obtain ⟨hk11, hz12⟩ := hw
  obtain rfl : z8 = z2 := by rw [ez8, ez2]; exact congrArg xs (show z7.toInt.toNat = z1.toInt.toNat by omega)
  refine lv_icmp_eq (tgt := 2162) hx hb dL_law_1441 (by decide) (fun hc => ?_) (fun hc => ?_)
  · exact kk _ w4 w10 H locs ls hk5 hk11 hP hD hS (lv_sub hl [0, 1, 2, 3] rfl)
  · exact absurd (tq_of (rfP_one OQ_one hz6 hz12) rfl) hc
set_option maxHeartbeats 8000000 in
set_option maxRecDepth 100000 in
theorem law_c40 {p : Program} {l : Launch} {e : Env} {s : State} {m : MethodId} {below : List Frame} {meth : Method} {c : Code} {A : Nat → Prop} {b L : Nat} {xs : Nat → Int32} (hx : p.tables.exec = Jvm.exec) (hb : c.code = code) (hml : c.maxLocals = 4) (hr : meth.sig.returnType = ret) (hlocks : meth.locks = false) (hX : va_X b L xs s s.heap) (hbl : b < s.heap.size) (hbA : ¬ A b) (hA : ∀ q : Nat, s.heap.size ≤ q → A q) (hAf : ∀ q : Nat, A q → s.heap.size ≤ q) (D : va_G) (G : ct_G) (cI cJ cB cZ cO : ClassId) (g : Gh) (h0 h1 : Nat) (hown : s.vm.findClass RL = some m.cls) (hts : ∀ w ∈ wsL_law, w.before #[Value.ref b] s = true) (hE : ct_E D (ct_T cI cJ cB cZ cO) G s) (hH : ct_H G A s s.heap) (hL : L ≤ 3072) (i : Nat) (hi : i + 6 ≤ L) (wx wm : va_W) (hX0 : XOK cI cJ cB cZ cO g h0 wx) (hM0 : MOK cI cJ cB cZ cO g h1 wm) {H : Heap} {locs : List Loc} (hP : va_P D vwCl (wx ++ wm) H) (hD : va_D A (wx ++ wm)) (hS : va_S A s.heap H locs) {ls : Array Slot} (hl : lv_has ls 4 [(3, .int (nI i)), (2, .ref h1), (1, .ref h0), (0, .ref b)]) (kk : ∀ (g : Gh) (wx wm : va_W) (H : Heap) (locs : List Loc) (ls : Array Slot), XOK cI cJ cB cZ cO g h0 wx → MOK cI cJ cB cZ cO g h1 wm → va_P D vwCl (wx ++ wm) H → va_D A (wx ++ wm) → va_S A s.heap H locs → lv_has ls 4 [(3, .int (nI i)), (2, .ref h1), (1, .ref h0), (0, .ref b)] → W p l e room_1 s m #[Value.ref b] below meth c H locs 107 36842 (lw_Z below #[Value.ref b] s) (F0 m 2162 ls [])) : W p l e room_1 s m #[Value.ref b] below meth c H locs 107 36842 (lw_Z below #[Value.ref b] s) (F0 m 1446 ls []) := by
  have hK := hE.1
  have hni : (nI i).toInt = (i : Int) := nI_toInt (by omega)
  refine lv_aload_n hx hb dL_law_1446 rfl (lv_at hl 2 rfl) ?_
  refine lv_aload_n hx hb dL_law_1447 rfl (lv_at hl 3 rfl) ?_
  refine lv_iload_n hx hb dL_law_1448 rfl (lv_at hl 0 rfl) ?_
  refine lv_iconst (v := 1) hx hb dL_law_1449 (by decide) ?_
  refine lv_iadd hx hb dL_law_1450 ?_
  refine lv_topi (fun z1 ez1 => ?_)
  have fz1 : z1.toInt = (nI i).toInt + 1 := by rw [ez1]; exact tq_add rfl (by decide) (by omega)
  refine va_sld hx hb hX hbl hbA hS (tq_in rfl (by omega)) dL_law_1451 ?_
  refine lv_topi (fun z2 ez2 => ?_)
  refine lv_aload_n hx hb dL_law_1452 rfl (lv_at hl 3 rfl) ?_
  refine lv_iload_n hx hb dL_law_1453 rfl (lv_at hl 0 rfl) ?_
  refine lv_iconst (v := 2) hx hb dL_law_1454 (by decide) ?_
  refine lv_iadd hx hb dL_law_1455 ?_
  refine lv_topi (fun z3 ez3 => ?_)
  have fz3 : z3.toInt = (nI i).toInt + 2 := by rw [ez3]; exact tq_add rfl (by decide) (by omega)
  refine va_sld hx hb hX hbl hbA hS (tq_in rfl (by omega)) dL_law_1456 ?_
  refine lv_topi (fun z4 ez4 => ?_)
  refine ct_callAl (D := D) (wx := wx) (wm := wm) (va_runV (As := [.int z2, .int z4]) (rest := []) ⟨hx, hb, hml, hown, hts⟩ (k_X11_together l D G cI cJ cB cZ cO g h0 wx hX0 z2 z4 H.size) (cwV 2 hts gL_law_X11_together rfl rfl rfl (by decide +kernel) ⟨Nat.le_of_ble_eq_true rfl, Nat.le_of_ble_eq_true rfl⟩) (ct_preA (T := ct_T cI cJ cB cZ cO) (ci := 11) hE hH hP hD hS hA (XOK_at hX0) rfl) rfl rfl hl.1 rfl (lv_room (Nat.le_of_ble_eq_true rfl)) dL_law_1457 ⟨Nat.le_of_ble_eq_true rfl, Nat.le_of_ble_eq_true rfl⟩) hP hD hS hA (fun r5 w6 H locs hw hP hD hS => ?_)
  obtain ⟨hk7, hz8⟩ := hw
  refine lv_pop2_2 hx hb dL_law_1460 rfl ?_
  refine lv_aload_n hx hb dL_law_1461 rfl (lv_at hl 1 rfl) ?_
  refine lv_aload_n hx hb dL_law_1462 rfl (lv_at hl 3 rfl) ?_
  refine lv_iload_n hx hb dL_law_1463 rfl (lv_at hl 0 rfl) ?_
  refine lv_iconst (v := 1) hx hb dL_law_1464 (by decide) ?_
  refine lv_iadd hx hb dL_law_1465 ?_
  refine lv_topi (fun z9 ez9 => ?_)
  have fz9 : z9.toInt = (nI i).toInt + 1 := by rw [ez9]; exact tq_add rfl (by decide) (by omega)
  refine va_sld hx hb hX hbl hbA hS (tq_in rfl (by omega)) dL_law_1466 ?_
  refine lv_topi (fun z10 ez10 => ?_)
  refine lv_aload_n hx hb dL_law_1467 rfl (lv_at hl 3 rfl) ?_
  refine lv_iload_n hx hb dL_law_1468 rfl (lv_at hl 0 rfl) ?_
  refine lv_iconst (v := 2) hx hb dL_law_1469 (by decide) ?_
  refine lv_iadd hx hb dL_law_1470 ?_
  refine lv_topi (fun z11 ez11 => ?_)
  have fz11 : z11.toInt = (nI i).toInt + 2 := by rw [ez11]; exact tq_add rfl (by decide) (by omega)
  refine va_sld hx hb hX hbl hbA hS (tq_in rfl (by omega)) dL_law_1471 ?_
  refine lv_topi (fun z12 ez12 => ?_)
  refine ct_callAl (D := D) (wx := wm) (wm := w6) (va_runV (As := [.int z10, .int z12]) (rest := []) ⟨hx, hb, hml, hown, hts⟩ (k_X12_together l D G cI cJ cB cZ cO g h1 wm hM0 z10 z12 H.size) (cwV 2 hts gL_law_X12_together rfl rfl rfl (by decide +kernel) ⟨Nat.le_of_ble_eq_true rfl, Nat.le_of_ble_eq_true rfl⟩) (ct_preA (T := ct_T cI cJ cB cZ cO) (ci := 12) hE hH hP hD hS hA (MOK_at hM0) rfl) rfl rfl hl.1 rfl (lv_room (Nat.le_of_ble_eq_true rfl)) dL_law_1472 ⟨Nat.le_of_ble_eq_true rfl, Nat.le_of_ble_eq_true rfl⟩) hP hD hS hA (fun r13 w14 H locs hw hP hD hS => ?_)
  obtain ⟨hk15, hz16⟩ := hw
  refine lv_pop2_2 hx hb dL_law_1475 rfl ?_
  refine lv_goto (tgt := 2162) hx hb dL_law_1476 (by decide) ?_
  exact kk _ w6 w14 H locs ls hk7 hk15 hP hD hS (lv_sub hl [0, 1, 2, 3] rfl)
set_option maxHeartbeats 8000000 in
set_option maxRecDepth 100000 in
theorem law_c41 {p : Program} {l : Launch} {e : Env} {s : State} {m : MethodId} {below : List Frame} {meth : Method} {c : Code} {A : Nat → Prop} {b L : Nat} {xs : Nat → Int32} (hx : p.tables.exec = Jvm.exec) (hb : c.code = code) (hml : c.maxLocals = 4) (hr : meth.sig.returnType = ret) (hlocks : meth.locks = false) (hX : va_X b L xs s s.heap) (hbl : b < s.heap.size) (hbA : ¬ A b) (hA : ∀ q : Nat, s.heap.size ≤ q → A q) (hAf : ∀ q : Nat, A q → s.heap.size ≤ q) (D : va_G) (G : ct_G) (cI cJ cB cZ cO : ClassId) (g : Gh) (h0 h1 : Nat) (hown : s.vm.findClass RL = some m.cls) (hts : ∀ w ∈ wsL_law, w.before #[Value.ref b] s = true) (hE : ct_E D (ct_T cI cJ cB cZ cO) G s) (hH : ct_H G A s s.heap) (hL : L ≤ 3072) (i : Nat) (hi : i + 6 ≤ L) (wx wm : va_W) (hX0 : XOK cI cJ cB cZ cO g h0 wx) (hM0 : MOK cI cJ cB cZ cO g h1 wm) {H : Heap} {locs : List Loc} (hP : va_P D vwCl (wx ++ wm) H) (hD : va_D A (wx ++ wm)) (hS : va_S A s.heap H locs) {ls : Array Slot} (hl : lv_has ls 4 [(3, .int (nI i)), (2, .ref h1), (1, .ref h0), (0, .ref b)]) (kk : ∀ (g : Gh) (wx wm : va_W) (H : Heap) (locs : List Loc) (ls : Array Slot), XOK cI cJ cB cZ cO g h0 wx → MOK cI cJ cB cZ cO g h1 wm → va_P D vwCl (wx ++ wm) H → va_D A (wx ++ wm) → va_S A s.heap H locs → lv_has ls 4 [(3, .int (nI i)), (2, .ref h1), (1, .ref h0), (0, .ref b)] → W p l e room_1 s m #[Value.ref b] below meth c H locs 107 36842 (lw_Z below #[Value.ref b] s) (F0 m 2162 ls [])) : W p l e room_1 s m #[Value.ref b] below meth c H locs 107 36842 (lw_Z below #[Value.ref b] s) (F0 m 1479 ls []) := by
  have hK := hE.1
  have hni : (nI i).toInt = (i : Int) := nI_toInt (by omega)
  refine lv_aload_n hx hb dL_law_1479 rfl (lv_at hl 2 rfl) ?_
  refine lv_aload_n hx hb dL_law_1480 rfl (lv_at hl 3 rfl) ?_
  refine lv_iload_n hx hb dL_law_1481 rfl (lv_at hl 0 rfl) ?_
  refine lv_iconst (v := 1) hx hb dL_law_1482 (by decide) ?_
  refine lv_iadd hx hb dL_law_1483 ?_
  refine lv_topi (fun z1 ez1 => ?_)
  have fz1 : z1.toInt = (nI i).toInt + 1 := by rw [ez1]; exact tq_add rfl (by decide) (by omega)
  refine va_sld hx hb hX hbl hbA hS (tq_in rfl (by omega)) dL_law_1484 ?_
  refine lv_topi (fun z2 ez2 => ?_)
  refine ct_callAl (D := D) (wx := wx) (wm := wm) (va_runV (As := [.int z2]) (rest := []) ⟨hx, hb, hml, hown, hts⟩ (k_X11_again l D G cI cJ cB cZ cO g h0 wx hX0 z2 H.size) (cwV 1 hts gL_law_X11_again rfl rfl rfl (by decide +kernel) ⟨Nat.le_of_ble_eq_true rfl, Nat.le_of_ble_eq_true rfl⟩) (ct_preA (T := ct_T cI cJ cB cZ cO) (ci := 11) hE hH hP hD hS hA (XOK_at hX0) rfl) rfl rfl hl.1 rfl (lv_room (Nat.le_of_ble_eq_true rfl)) dL_law_1485 ⟨Nat.le_of_ble_eq_true rfl, Nat.le_of_ble_eq_true rfl⟩) hP hD hS hA (fun r3 w4 H locs hw hP hD hS => ?_)
  obtain ⟨hk5, hz6⟩ := hw
  refine lv_pop2_2 hx hb dL_law_1488 rfl ?_
  refine lv_aload_n hx hb dL_law_1489 rfl (lv_at hl 1 rfl) ?_
  refine lv_aload_n hx hb dL_law_1490 rfl (lv_at hl 3 rfl) ?_
  refine lv_iload_n hx hb dL_law_1491 rfl (lv_at hl 0 rfl) ?_
  refine lv_iconst (v := 1) hx hb dL_law_1492 (by decide) ?_
  refine lv_iadd hx hb dL_law_1493 ?_
  refine lv_topi (fun z7 ez7 => ?_)
  have fz7 : z7.toInt = (nI i).toInt + 1 := by rw [ez7]; exact tq_add rfl (by decide) (by omega)
  refine va_sld hx hb hX hbl hbA hS (tq_in rfl (by omega)) dL_law_1494 ?_
  refine lv_topi (fun z8 ez8 => ?_)
  refine ct_callAl (D := D) (wx := wm) (wm := w4) (va_runV (As := [.int z8]) (rest := []) ⟨hx, hb, hml, hown, hts⟩ (k_X12_again l D G cI cJ cB cZ cO g h1 wm hM0 z8 H.size) (cwV 1 hts gL_law_X12_again rfl rfl rfl (by decide +kernel) ⟨Nat.le_of_ble_eq_true rfl, Nat.le_of_ble_eq_true rfl⟩) (ct_preA (T := ct_T cI cJ cB cZ cO) (ci := 12) hE hH hP hD hS hA (MOK_at hM0) rfl) rfl rfl hl.1 rfl (lv_room (Nat.le_of_ble_eq_true rfl)) dL_law_1495 ⟨Nat.le_of_ble_eq_true rfl, Nat.le_of_ble_eq_true rfl⟩) hP hD hS hA (fun r9 w10 H locs hw hP hD hS => ?_)
  obtain ⟨hk11, hz12⟩ := hw
  refine lv_pop2_2 hx hb dL_law_1498 rfl ?_
  refine lv_goto (tgt := 2162) hx hb dL_law_1499 (by decide) ?_
  exact kk _ w4 w10 H locs ls hk5 hk11 hP hD hS (lv_sub hl [0, 1, 2, 3] rfl)
set_option maxHeartbeats 8000000 in
set_option maxRecDepth 100000 in
theorem law_c42 {p : Program} {l : Launch} {e : Env} {s : State} {m : MethodId} {below : List Frame} {meth : Method} {c : Code} {A : Nat → Prop} {b L : Nat} {xs : Nat → Int32} (hx : p.tables.exec = Jvm.exec) (hb : c.code = code) (hml : c.maxLocals = 4) (hr : meth.sig.returnType = ret) (hlocks : meth.locks = false) (hX : va_X b L xs s s.heap) (hbl : b < s.heap.size) (hbA : ¬ A b) (hA : ∀ q : Nat, s.heap.size ≤ q → A q) (hAf : ∀ q : Nat, A q → s.heap.size ≤ q) (D : va_G) (G : ct_G) (cI cJ cB cZ cO : ClassId) (g : Gh) (h0 h1 : Nat) (hown : s.vm.findClass RL = some m.cls) (hts : ∀ w ∈ wsL_law, w.before #[Value.ref b] s = true) (hE : ct_E D (ct_T cI cJ cB cZ cO) G s) (hH : ct_H G A s s.heap) (hL : L ≤ 3072) (i : Nat) (hi : i + 6 ≤ L) (wx wm : va_W) (hX0 : XOK cI cJ cB cZ cO g h0 wx) (hM0 : MOK cI cJ cB cZ cO g h1 wm) {H : Heap} {locs : List Loc} (hP : va_P D vwCl (wx ++ wm) H) (hD : va_D A (wx ++ wm)) (hS : va_S A s.heap H locs) {ls : Array Slot} (hl : lv_has ls 4 [(3, .int (nI i)), (2, .ref h1), (1, .ref h0), (0, .ref b)]) (kk : ∀ (g : Gh) (wx wm : va_W) (H : Heap) (locs : List Loc) (ls : Array Slot), XOK cI cJ cB cZ cO g h0 wx → MOK cI cJ cB cZ cO g h1 wm → va_P D vwCl (wx ++ wm) H → va_D A (wx ++ wm) → va_S A s.heap H locs → lv_has ls 4 [(3, .int (nI i)), (2, .ref h1), (1, .ref h0), (0, .ref b)] → W p l e room_1 s m #[Value.ref b] below meth c H locs 107 36842 (lw_Z below #[Value.ref b] s) (F0 m 2162 ls [])) : W p l e room_1 s m #[Value.ref b] below meth c H locs 107 36842 (lw_Z below #[Value.ref b] s) (F0 m 1502 ls []) := by
  have hK := hE.1
  have hni : (nI i).toInt = (i : Int) := nI_toInt (by omega)
  refine lv_aload_n hx hb dL_law_1502 rfl (lv_at hl 2 rfl) ?_
  refine ct_callAi (D := D) (wx := wx) (wm := wm) (va_runV (As := []) (rest := []) ⟨hx, hb, hml, hown, hts⟩ (k_X11_most l D G cI cJ cB cZ cO g h0 wx hX0  H.size) (cwV 0 hts gL_law_X11_most rfl rfl rfl (by decide +kernel) ⟨Nat.le_of_ble_eq_true rfl, Nat.le_of_ble_eq_true rfl⟩) (ct_preA (T := ct_T cI cJ cB cZ cO) (ci := 11) hE hH hP hD hS hA (XOK_at hX0) rfl) rfl rfl hl.1 rfl (lv_room (Nat.le_of_ble_eq_true rfl)) dL_law_1503 ⟨Nat.le_of_ble_eq_true rfl, Nat.le_of_ble_eq_true rfl⟩) hP hD hS hA (fun r1 w2 H locs hw hP hD hS => ?_)
  obtain ⟨hk3, hz4⟩ := hw
  refine lv_pop hx hb dL_law_1506 rfl ?_
  refine lv_aload_n hx hb dL_law_1507 rfl (lv_at hl 1 rfl) ?_
  refine ct_callAi (D := D) (wx := wm) (wm := w2) (va_runV (As := []) (rest := []) ⟨hx, hb, hml, hown, hts⟩ (k_X12_most l D G cI cJ cB cZ cO g h1 wm hM0  H.size) (cwV 0 hts gL_law_X12_most rfl rfl rfl (by decide +kernel) ⟨Nat.le_of_ble_eq_true rfl, Nat.le_of_ble_eq_true rfl⟩) (ct_preA (T := ct_T cI cJ cB cZ cO) (ci := 12) hE hH hP hD hS hA (MOK_at hM0) rfl) rfl rfl hl.1 rfl (lv_room (Nat.le_of_ble_eq_true rfl)) dL_law_1508 ⟨Nat.le_of_ble_eq_true rfl, Nat.le_of_ble_eq_true rfl⟩) hP hD hS hA (fun r5 w6 H locs hw hP hD hS => ?_)
  obtain ⟨hk7, hz8⟩ := hw
  refine lv_pop hx hb dL_law_1511 rfl ?_
  refine lv_goto (tgt := 2162) hx hb dL_law_1512 (by decide) ?_
  exact kk _ w2 w6 H locs ls hk3 hk7 hP hD hS (lv_sub hl [0, 1, 2, 3] rfl)
set_option maxHeartbeats 8000000 in
set_option maxRecDepth 100000 in
theorem law_c43 {p : Program} {l : Launch} {e : Env} {s : State} {m : MethodId} {below : List Frame} {meth : Method} {c : Code} {A : Nat → Prop} {b L : Nat} {xs : Nat → Int32} (hx : p.tables.exec = Jvm.exec) (hb : c.code = code) (hml : c.maxLocals = 4) (hr : meth.sig.returnType = ret) (hlocks : meth.locks = false) (hX : va_X b L xs s s.heap) (hbl : b < s.heap.size) (hbA : ¬ A b) (hA : ∀ q : Nat, s.heap.size ≤ q → A q) (hAf : ∀ q : Nat, A q → s.heap.size ≤ q) (D : va_G) (G : ct_G) (cI cJ cB cZ cO : ClassId) (g : Gh) (h0 h1 : Nat) (hown : s.vm.findClass RL = some m.cls) (hts : ∀ w ∈ wsL_law, w.before #[Value.ref b] s = true) (hE : ct_E D (ct_T cI cJ cB cZ cO) G s) (hH : ct_H G A s s.heap) (hL : L ≤ 3072) (i : Nat) (hi : i + 6 ≤ L) (wx wm : va_W) (hX0 : XOK cI cJ cB cZ cO g h0 wx) (hM0 : MOK cI cJ cB cZ cO g h1 wm) {H : Heap} {locs : List Loc} (hP : va_P D vwCl (wx ++ wm) H) (hD : va_D A (wx ++ wm)) (hS : va_S A s.heap H locs) {ls : Array Slot} (hl : lv_has ls 4 [(3, .int (nI i)), (2, .ref h1), (1, .ref h0), (0, .ref b)]) (kk : ∀ (g : Gh) (wx wm : va_W) (H : Heap) (locs : List Loc) (ls : Array Slot), XOK cI cJ cB cZ cO g h0 wx → MOK cI cJ cB cZ cO g h1 wm → va_P D vwCl (wx ++ wm) H → va_D A (wx ++ wm) → va_S A s.heap H locs → lv_has ls 4 [(3, .int (nI i)), (2, .ref h1), (1, .ref h0), (0, .ref b)] → W p l e room_1 s m #[Value.ref b] below meth c H locs 107 36842 (lw_Z below #[Value.ref b] s) (F0 m 2162 ls [])) : W p l e room_1 s m #[Value.ref b] below meth c H locs 107 36842 (lw_Z below #[Value.ref b] s) (F0 m 1515 ls []) := by
  have hK := hE.1
  have hni : (nI i).toInt = (i : Int) := nI_toInt (by omega)
  refine lv_aload_n hx hb dL_law_1515 rfl (lv_at hl 2 rfl) ?_
  refine ct_callAi (D := D) (wx := wx) (wm := wm) (va_runV (As := []) (rest := []) ⟨hx, hb, hml, hown, hts⟩ (k_X11_chorus l D G cI cJ cB cZ cO g h0 wx hX0  H.size) (cwV 0 hts gL_law_X11_chorus rfl rfl rfl (by decide +kernel) ⟨Nat.le_of_ble_eq_true rfl, Nat.le_of_ble_eq_true rfl⟩) (ct_preA (T := ct_T cI cJ cB cZ cO) (ci := 11) hE hH hP hD hS hA (XOK_at hX0) rfl) rfl rfl hl.1 rfl (lv_room (Nat.le_of_ble_eq_true rfl)) dL_law_1516 ⟨Nat.le_of_ble_eq_true rfl, Nat.le_of_ble_eq_true rfl⟩) hP hD hS hA (fun r1 w2 H locs hw hP hD hS => ?_)
  obtain ⟨hk3, hz4⟩ := hw
  refine lv_pop hx hb dL_law_1519 rfl ?_
  refine lv_aload_n hx hb dL_law_1520 rfl (lv_at hl 1 rfl) ?_
  refine ct_callAi (D := D) (wx := wm) (wm := w2) (va_runV (As := []) (rest := []) ⟨hx, hb, hml, hown, hts⟩ (k_X12_chorus l D G cI cJ cB cZ cO g h1 wm hM0  H.size) (cwV 0 hts gL_law_X12_chorus rfl rfl rfl (by decide +kernel) ⟨Nat.le_of_ble_eq_true rfl, Nat.le_of_ble_eq_true rfl⟩) (ct_preA (T := ct_T cI cJ cB cZ cO) (ci := 12) hE hH hP hD hS hA (MOK_at hM0) rfl) rfl rfl hl.1 rfl (lv_room (Nat.le_of_ble_eq_true rfl)) dL_law_1521 ⟨Nat.le_of_ble_eq_true rfl, Nat.le_of_ble_eq_true rfl⟩) hP hD hS hA (fun r5 w6 H locs hw hP hD hS => ?_)
  obtain ⟨hk7, hz8⟩ := hw
  refine lv_pop hx hb dL_law_1524 rfl ?_
  refine lv_goto (tgt := 2162) hx hb dL_law_1525 (by decide) ?_
  exact kk _ w2 w6 H locs ls hk3 hk7 hP hD hS (lv_sub hl [0, 1, 2, 3] rfl)
set_option maxHeartbeats 8000000 in
set_option maxRecDepth 100000 in
theorem law_c44 {p : Program} {l : Launch} {e : Env} {s : State} {m : MethodId} {below : List Frame} {meth : Method} {c : Code} {A : Nat → Prop} {b L : Nat} {xs : Nat → Int32} (hx : p.tables.exec = Jvm.exec) (hb : c.code = code) (hml : c.maxLocals = 4) (hr : meth.sig.returnType = ret) (hlocks : meth.locks = false) (hX : va_X b L xs s s.heap) (hbl : b < s.heap.size) (hbA : ¬ A b) (hA : ∀ q : Nat, s.heap.size ≤ q → A q) (hAf : ∀ q : Nat, A q → s.heap.size ≤ q) (D : va_G) (G : ct_G) (cI cJ cB cZ cO : ClassId) (g : Gh) (h0 h1 : Nat) (hown : s.vm.findClass RL = some m.cls) (hts : ∀ w ∈ wsL_law, w.before #[Value.ref b] s = true) (hE : ct_E D (ct_T cI cJ cB cZ cO) G s) (hH : ct_H G A s s.heap) (hL : L ≤ 3072) (i : Nat) (hi : i + 6 ≤ L) (wx wm : va_W) (hX0 : XOK cI cJ cB cZ cO g h0 wx) (hM0 : MOK cI cJ cB cZ cO g h1 wm) {H : Heap} {locs : List Loc} (hP : va_P D vwCl (wx ++ wm) H) (hD : va_D A (wx ++ wm)) (hS : va_S A s.heap H locs) {ls : Array Slot} (hl : lv_has ls 4 [(3, .int (nI i)), (2, .ref h1), (1, .ref h0), (0, .ref b)]) (kk : ∀ (g : Gh) (wx wm : va_W) (H : Heap) (locs : List Loc) (ls : Array Slot), XOK cI cJ cB cZ cO g h0 wx → MOK cI cJ cB cZ cO g h1 wm → va_P D vwCl (wx ++ wm) H → va_D A (wx ++ wm) → va_S A s.heap H locs → lv_has ls 4 [(3, .int (nI i)), (2, .ref h1), (1, .ref h0), (0, .ref b)] → W p l e room_1 s m #[Value.ref b] below meth c H locs 107 36842 (lw_Z below #[Value.ref b] s) (F0 m 2162 ls [])) : W p l e room_1 s m #[Value.ref b] below meth c H locs 107 36842 (lw_Z below #[Value.ref b] s) (F0 m 1528 ls []) := by
  have hK := hE.1
  have hni : (nI i).toInt = (i : Int) := nI_toInt (by omega)
  refine lv_aload_n hx hb dL_law_1528 rfl (lv_at hl 2 rfl) ?_
  refine ct_callAi (D := D) (wx := wx) (wm := wm) (va_runV (As := []) (rest := []) ⟨hx, hb, hml, hown, hts⟩ (k_X11_treaties l D G cI cJ cB cZ cO g h0 wx hX0  H.size) (cwV 0 hts gL_law_X11_treaties rfl rfl rfl (by decide +kernel) ⟨Nat.le_of_ble_eq_true rfl, Nat.le_of_ble_eq_true rfl⟩) (ct_preA (T := ct_T cI cJ cB cZ cO) (ci := 11) hE hH hP hD hS hA (XOK_at hX0) rfl) rfl rfl hl.1 rfl (lv_room (Nat.le_of_ble_eq_true rfl)) dL_law_1529 ⟨Nat.le_of_ble_eq_true rfl, Nat.le_of_ble_eq_true rfl⟩) hP hD hS hA (fun r1 w2 H locs hw hP hD hS => ?_)
  obtain ⟨hk3, hz4⟩ := hw
  refine lv_pop hx hb dL_law_1532 rfl ?_
  refine lv_aload_n hx hb dL_law_1533 rfl (lv_at hl 1 rfl) ?_
  refine ct_callAi (D := D) (wx := wm) (wm := w2) (va_runV (As := []) (rest := []) ⟨hx, hb, hml, hown, hts⟩ (k_X12_treaties l D G cI cJ cB cZ cO g h1 wm hM0  H.size) (cwV 0 hts gL_law_X12_treaties rfl rfl rfl (by decide +kernel) ⟨Nat.le_of_ble_eq_true rfl, Nat.le_of_ble_eq_true rfl⟩) (ct_preA (T := ct_T cI cJ cB cZ cO) (ci := 12) hE hH hP hD hS hA (MOK_at hM0) rfl) rfl rfl hl.1 rfl (lv_room (Nat.le_of_ble_eq_true rfl)) dL_law_1534 ⟨Nat.le_of_ble_eq_true rfl, Nat.le_of_ble_eq_true rfl⟩) hP hD hS hA (fun r5 w6 H locs hw hP hD hS => ?_)
  obtain ⟨hk7, hz8⟩ := hw
  refine lv_pop hx hb dL_law_1537 rfl ?_
  refine lv_goto (tgt := 2162) hx hb dL_law_1538 (by decide) ?_
  exact kk _ w2 w6 H locs ls hk3 hk7 hP hD hS (lv_sub hl [0, 1, 2, 3] rfl)
set_option maxHeartbeats 8000000 in
set_option maxRecDepth 100000 in
theorem law_c45 {p : Program} {l : Launch} {e : Env} {s : State} {m : MethodId} {below : List Frame} {meth : Method} {c : Code} {A : Nat → Prop} {b L : Nat} {xs : Nat → Int32} (hx : p.tables.exec = Jvm.exec) (hb : c.code = code) (hml : c.maxLocals = 4) (hr : meth.sig.returnType = ret) (hlocks : meth.locks = false) (hX : va_X b L xs s s.heap) (hbl : b < s.heap.size) (hbA : ¬ A b) (hA : ∀ q : Nat, s.heap.size ≤ q → A q) (hAf : ∀ q : Nat, A q → s.heap.size ≤ q) (D : va_G) (G : ct_G) (cI cJ cB cZ cO : ClassId) (g : Gh) (h0 h1 : Nat) (hown : s.vm.findClass RL = some m.cls) (hts : ∀ w ∈ wsL_law, w.before #[Value.ref b] s = true) (hE : ct_E D (ct_T cI cJ cB cZ cO) G s) (hH : ct_H G A s s.heap) (hL : L ≤ 3072) (i : Nat) (hi : i + 6 ≤ L) (wx wm : va_W) (hX0 : XOK cI cJ cB cZ cO g h0 wx) (hM0 : MOK cI cJ cB cZ cO g h1 wm) {H : Heap} {locs : List Loc} (hP : va_P D vwCl (wx ++ wm) H) (hD : va_D A (wx ++ wm)) (hS : va_S A s.heap H locs) {ls : Array Slot} (hl : lv_has ls 4 [(3, .int (nI i)), (2, .ref h1), (1, .ref h0), (0, .ref b)]) (kk : ∀ (g : Gh) (wx wm : va_W) (H : Heap) (locs : List Loc) (ls : Array Slot), XOK cI cJ cB cZ cO g h0 wx → MOK cI cJ cB cZ cO g h1 wm → va_P D vwCl (wx ++ wm) H → va_D A (wx ++ wm) → va_S A s.heap H locs → lv_has ls 4 [(3, .int (nI i)), (2, .ref h1), (1, .ref h0), (0, .ref b)] → W p l e room_1 s m #[Value.ref b] below meth c H locs 107 36842 (lw_Z below #[Value.ref b] s) (F0 m 2162 ls [])) : W p l e room_1 s m #[Value.ref b] below meth c H locs 107 36842 (lw_Z below #[Value.ref b] s) (F0 m 1541 ls []) := by
  have hK := hE.1
  have hni : (nI i).toInt = (i : Int) := nI_toInt (by omega)
  refine lv_aload_n hx hb dL_law_1541 rfl (lv_at hl 2 rfl) ?_
  refine lv_aload_n hx hb dL_law_1542 rfl (lv_at hl 3 rfl) ?_
  refine lv_iload_n hx hb dL_law_1543 rfl (lv_at hl 0 rfl) ?_
  refine lv_iconst (v := 1) hx hb dL_law_1544 (by decide) ?_
  refine lv_iadd hx hb dL_law_1545 ?_
  refine lv_topi (fun z1 ez1 => ?_)
  have fz1 : z1.toInt = (nI i).toInt + 1 := by rw [ez1]; exact tq_add rfl (by decide) (by omega)
  refine va_sld hx hb hX hbl hbA hS (tq_in rfl (by omega)) dL_law_1546 ?_
  refine lv_topi (fun z2 ez2 => ?_)
  refine ct_callAi (D := D) (wx := wx) (wm := wm) (va_runV (As := [.int z2]) (rest := []) ⟨hx, hb, hml, hown, hts⟩ (k_X11_leads l D G cI cJ cB cZ cO g h0 wx hX0 z2 H.size) (cwV 1 hts gL_law_X11_leads rfl rfl rfl (by decide +kernel) ⟨Nat.le_of_ble_eq_true rfl, Nat.le_of_ble_eq_true rfl⟩) (ct_preA (T := ct_T cI cJ cB cZ cO) (ci := 11) hE hH hP hD hS hA (XOK_at hX0) rfl) rfl rfl hl.1 rfl (lv_room (Nat.le_of_ble_eq_true rfl)) dL_law_1547 ⟨Nat.le_of_ble_eq_true rfl, Nat.le_of_ble_eq_true rfl⟩) hP hD hS hA (fun r3 w4 H locs hw hP hD hS => ?_)
  obtain ⟨hk5, hz6⟩ := hw
  refine lv_pop hx hb dL_law_1550 rfl ?_
  refine lv_aload_n hx hb dL_law_1551 rfl (lv_at hl 1 rfl) ?_
  refine lv_aload_n hx hb dL_law_1552 rfl (lv_at hl 3 rfl) ?_
  refine lv_iload_n hx hb dL_law_1553 rfl (lv_at hl 0 rfl) ?_
  refine lv_iconst (v := 1) hx hb dL_law_1554 (by decide) ?_
  refine lv_iadd hx hb dL_law_1555 ?_
  refine lv_topi (fun z7 ez7 => ?_)
  have fz7 : z7.toInt = (nI i).toInt + 1 := by rw [ez7]; exact tq_add rfl (by decide) (by omega)
  refine va_sld hx hb hX hbl hbA hS (tq_in rfl (by omega)) dL_law_1556 ?_
  refine lv_topi (fun z8 ez8 => ?_)
  refine ct_callAi (D := D) (wx := wm) (wm := w4) (va_runV (As := [.int z8]) (rest := []) ⟨hx, hb, hml, hown, hts⟩ (k_X12_leads l D G cI cJ cB cZ cO g h1 wm hM0 z8 H.size) (cwV 1 hts gL_law_X12_leads rfl rfl rfl (by decide +kernel) ⟨Nat.le_of_ble_eq_true rfl, Nat.le_of_ble_eq_true rfl⟩) (ct_preA (T := ct_T cI cJ cB cZ cO) (ci := 12) hE hH hP hD hS hA (MOK_at hM0) rfl) rfl rfl hl.1 rfl (lv_room (Nat.le_of_ble_eq_true rfl)) dL_law_1557 ⟨Nat.le_of_ble_eq_true rfl, Nat.le_of_ble_eq_true rfl⟩) hP hD hS hA (fun r9 w10 H locs hw hP hD hS => ?_)
  obtain ⟨hk11, hz12⟩ := hw
  refine lv_pop hx hb dL_law_1560 rfl ?_
  refine lv_goto (tgt := 2162) hx hb dL_law_1561 (by decide) ?_
  exact kk _ w4 w10 H locs ls hk5 hk11 hP hD hS (lv_sub hl [0, 1, 2, 3] rfl)
set_option maxHeartbeats 8000000 in
set_option maxRecDepth 100000 in
theorem law_c46 {p : Program} {l : Launch} {e : Env} {s : State} {m : MethodId} {below : List Frame} {meth : Method} {c : Code} {A : Nat → Prop} {b L : Nat} {xs : Nat → Int32} (hx : p.tables.exec = Jvm.exec) (hb : c.code = code) (hml : c.maxLocals = 4) (hr : meth.sig.returnType = ret) (hlocks : meth.locks = false) (hX : va_X b L xs s s.heap) (hbl : b < s.heap.size) (hbA : ¬ A b) (hA : ∀ q : Nat, s.heap.size ≤ q → A q) (hAf : ∀ q : Nat, A q → s.heap.size ≤ q) (D : va_G) (G : ct_G) (cI cJ cB cZ cO : ClassId) (g : Gh) (h0 h1 : Nat) (hown : s.vm.findClass RL = some m.cls) (hts : ∀ w ∈ wsL_law, w.before #[Value.ref b] s = true) (hE : ct_E D (ct_T cI cJ cB cZ cO) G s) (hH : ct_H G A s s.heap) (hL : L ≤ 3072) (i : Nat) (hi : i + 6 ≤ L) (wx wm : va_W) (hX0 : XOK cI cJ cB cZ cO g h0 wx) (hM0 : MOK cI cJ cB cZ cO g h1 wm) {H : Heap} {locs : List Loc} (hP : va_P D vwCl (wx ++ wm) H) (hD : va_D A (wx ++ wm)) (hS : va_S A s.heap H locs) {ls : Array Slot} (hl : lv_has ls 4 [(3, .int (nI i)), (2, .ref h1), (1, .ref h0), (0, .ref b)]) (kk : ∀ (g : Gh) (wx wm : va_W) (H : Heap) (locs : List Loc) (ls : Array Slot), XOK cI cJ cB cZ cO g h0 wx → MOK cI cJ cB cZ cO g h1 wm → va_P D vwCl (wx ++ wm) H → va_D A (wx ++ wm) → va_S A s.heap H locs → lv_has ls 4 [(3, .int (nI i)), (2, .ref h1), (1, .ref h0), (0, .ref b)] → W p l e room_1 s m #[Value.ref b] below meth c H locs 107 36842 (lw_Z below #[Value.ref b] s) (F0 m 2162 ls [])) : W p l e room_1 s m #[Value.ref b] below meth c H locs 107 36842 (lw_Z below #[Value.ref b] s) (F0 m 1564 ls []) := by
  have hK := hE.1
  have hni : (nI i).toInt = (i : Int) := nI_toInt (by omega)
  refine lv_aload_n hx hb dL_law_1564 rfl (lv_at hl 2 rfl) ?_
  refine lv_aload_n hx hb dL_law_1565 rfl (lv_at hl 3 rfl) ?_
  refine lv_iload_n hx hb dL_law_1566 rfl (lv_at hl 0 rfl) ?_
  refine lv_iconst (v := 1) hx hb dL_law_1567 (by decide) ?_
  refine lv_iadd hx hb dL_law_1568 ?_
  refine lv_topi (fun z1 ez1 => ?_)
  have fz1 : z1.toInt = (nI i).toInt + 1 := by rw [ez1]; exact tq_add rfl (by decide) (by omega)
  refine va_sld hx hb hX hbl hbA hS (tq_in rfl (by omega)) dL_law_1569 ?_
  refine lv_topi (fun z2 ez2 => ?_)
  refine ct_callAi (D := D) (wx := wx) (wm := wm) (va_runV (As := [.int z2]) (rest := []) ⟨hx, hb, hml, hown, hts⟩ (k_X11_game l D G cI cJ cB cZ cO g h0 wx hX0 z2 H.size) (cwV 1 hts gL_law_X11_game rfl rfl rfl (by decide +kernel) ⟨Nat.le_of_ble_eq_true rfl, Nat.le_of_ble_eq_true rfl⟩) (ct_preA (T := ct_T cI cJ cB cZ cO) (ci := 11) hE hH hP hD hS hA (XOK_at hX0) rfl) rfl rfl hl.1 rfl (lv_room (Nat.le_of_ble_eq_true rfl)) dL_law_1570 ⟨Nat.le_of_ble_eq_true rfl, Nat.le_of_ble_eq_true rfl⟩) hP hD hS hA (fun r3 w4 H locs hw hP hD hS => ?_)
  obtain ⟨hk5, hz6⟩ := hw
  refine lv_pop hx hb dL_law_1573 rfl ?_
  refine lv_aload_n hx hb dL_law_1574 rfl (lv_at hl 1 rfl) ?_
  refine lv_aload_n hx hb dL_law_1575 rfl (lv_at hl 3 rfl) ?_
  refine lv_iload_n hx hb dL_law_1576 rfl (lv_at hl 0 rfl) ?_
  refine lv_iconst (v := 1) hx hb dL_law_1577 (by decide) ?_
  refine lv_iadd hx hb dL_law_1578 ?_
  refine lv_topi (fun z7 ez7 => ?_)
  have fz7 : z7.toInt = (nI i).toInt + 1 := by rw [ez7]; exact tq_add rfl (by decide) (by omega)
  refine va_sld hx hb hX hbl hbA hS (tq_in rfl (by omega)) dL_law_1579 ?_
  refine lv_topi (fun z8 ez8 => ?_)
  refine ct_callAi (D := D) (wx := wm) (wm := w4) (va_runV (As := [.int z8]) (rest := []) ⟨hx, hb, hml, hown, hts⟩ (k_X12_game l D G cI cJ cB cZ cO g h1 wm hM0 z8 H.size) (cwV 1 hts gL_law_X12_game rfl rfl rfl (by decide +kernel) ⟨Nat.le_of_ble_eq_true rfl, Nat.le_of_ble_eq_true rfl⟩) (ct_preA (T := ct_T cI cJ cB cZ cO) (ci := 12) hE hH hP hD hS hA (MOK_at hM0) rfl) rfl rfl hl.1 rfl (lv_room (Nat.le_of_ble_eq_true rfl)) dL_law_1580 ⟨Nat.le_of_ble_eq_true rfl, Nat.le_of_ble_eq_true rfl⟩) hP hD hS hA (fun r9 w10 H locs hw hP hD hS => ?_)
  obtain ⟨hk11, hz12⟩ := hw
  refine lv_pop hx hb dL_law_1583 rfl ?_
  refine lv_goto (tgt := 2162) hx hb dL_law_1584 (by decide) ?_
  exact kk _ w4 w10 H locs ls hk5 hk11 hP hD hS (lv_sub hl [0, 1, 2, 3] rfl)
set_option maxHeartbeats 8000000 in
set_option maxRecDepth 100000 in
theorem law_c47 {p : Program} {l : Launch} {e : Env} {s : State} {m : MethodId} {below : List Frame} {meth : Method} {c : Code} {A : Nat → Prop} {b L : Nat} {xs : Nat → Int32} (hx : p.tables.exec = Jvm.exec) (hb : c.code = code) (hml : c.maxLocals = 4) (hr : meth.sig.returnType = ret) (hlocks : meth.locks = false) (hX : va_X b L xs s s.heap) (hbl : b < s.heap.size) (hbA : ¬ A b) (hA : ∀ q : Nat, s.heap.size ≤ q → A q) (hAf : ∀ q : Nat, A q → s.heap.size ≤ q) (D : va_G) (G : ct_G) (cI cJ cB cZ cO : ClassId) (g : Gh) (h0 h1 : Nat) (hown : s.vm.findClass RL = some m.cls) (hts : ∀ w ∈ wsL_law, w.before #[Value.ref b] s = true) (hE : ct_E D (ct_T cI cJ cB cZ cO) G s) (hH : ct_H G A s s.heap) (hL : L ≤ 3072) (i : Nat) (hi : i + 6 ≤ L) (wx wm : va_W) (hX0 : XOK cI cJ cB cZ cO g h0 wx) (hM0 : MOK cI cJ cB cZ cO g h1 wm) {H : Heap} {locs : List Loc} (hP : va_P D vwCl (wx ++ wm) H) (hD : va_D A (wx ++ wm)) (hS : va_S A s.heap H locs) {ls : Array Slot} (hl : lv_has ls 4 [(3, .int (nI i)), (2, .ref h1), (1, .ref h0), (0, .ref b)]) (kk : ∀ (g : Gh) (wx wm : va_W) (H : Heap) (locs : List Loc) (ls : Array Slot), XOK cI cJ cB cZ cO g h0 wx → MOK cI cJ cB cZ cO g h1 wm → va_P D vwCl (wx ++ wm) H → va_D A (wx ++ wm) → va_S A s.heap H locs → lv_has ls 4 [(3, .int (nI i)), (2, .ref h1), (1, .ref h0), (0, .ref b)] → W p l e room_1 s m #[Value.ref b] below meth c H locs 107 36842 (lw_Z below #[Value.ref b] s) (F0 m 2162 ls [])) : W p l e room_1 s m #[Value.ref b] below meth c H locs 107 36842 (lw_Z below #[Value.ref b] s) (F0 m 1587 ls []) := by
  have hK := hE.1
  have hni : (nI i).toInt = (i : Int) := nI_toInt (by omega)
  refine lv_aload_n hx hb dL_law_1587 rfl (lv_at hl 2 rfl) ?_
  refine lv_aload_n hx hb dL_law_1588 rfl (lv_at hl 3 rfl) ?_
  refine lv_iload_n hx hb dL_law_1589 rfl (lv_at hl 0 rfl) ?_
  refine lv_iconst (v := 1) hx hb dL_law_1590 (by decide) ?_
  refine lv_iadd hx hb dL_law_1591 ?_
  refine lv_topi (fun z1 ez1 => ?_)
  have fz1 : z1.toInt = (nI i).toInt + 1 := by rw [ez1]; exact tq_add rfl (by decide) (by omega)
  refine va_sld hx hb hX hbl hbA hS (tq_in rfl (by omega)) dL_law_1592 ?_
  refine lv_topi (fun z2 ez2 => ?_)
  refine ct_callAi (D := D) (wx := wx) (wm := wm) (va_runV (As := [.int z2]) (rest := []) ⟨hx, hb, hml, hown, hts⟩ (k_X11_plays l D G cI cJ cB cZ cO g h0 wx hX0 z2 H.size) (cwV 1 hts gL_law_X11_plays rfl rfl rfl (by decide +kernel) ⟨Nat.le_of_ble_eq_true rfl, Nat.le_of_ble_eq_true rfl⟩) (ct_preA (T := ct_T cI cJ cB cZ cO) (ci := 11) hE hH hP hD hS hA (XOK_at hX0) rfl) rfl rfl hl.1 rfl (lv_room (Nat.le_of_ble_eq_true rfl)) dL_law_1593 ⟨Nat.le_of_ble_eq_true rfl, Nat.le_of_ble_eq_true rfl⟩) hP hD hS hA (fun r3 w4 H locs hw hP hD hS => ?_)
  obtain ⟨hk5, hz6⟩ := hw
  refine lv_pop hx hb dL_law_1596 rfl ?_
  refine lv_aload_n hx hb dL_law_1597 rfl (lv_at hl 1 rfl) ?_
  refine lv_aload_n hx hb dL_law_1598 rfl (lv_at hl 3 rfl) ?_
  refine lv_iload_n hx hb dL_law_1599 rfl (lv_at hl 0 rfl) ?_
  refine lv_iconst (v := 1) hx hb dL_law_1600 (by decide) ?_
  refine lv_iadd hx hb dL_law_1601 ?_
  refine lv_topi (fun z7 ez7 => ?_)
  have fz7 : z7.toInt = (nI i).toInt + 1 := by rw [ez7]; exact tq_add rfl (by decide) (by omega)
  refine va_sld hx hb hX hbl hbA hS (tq_in rfl (by omega)) dL_law_1602 ?_
  refine lv_topi (fun z8 ez8 => ?_)
  refine ct_callAi (D := D) (wx := wm) (wm := w4) (va_runV (As := [.int z8]) (rest := []) ⟨hx, hb, hml, hown, hts⟩ (k_X12_plays l D G cI cJ cB cZ cO g h1 wm hM0 z8 H.size) (cwV 1 hts gL_law_X12_plays rfl rfl rfl (by decide +kernel) ⟨Nat.le_of_ble_eq_true rfl, Nat.le_of_ble_eq_true rfl⟩) (ct_preA (T := ct_T cI cJ cB cZ cO) (ci := 12) hE hH hP hD hS hA (MOK_at hM0) rfl) rfl rfl hl.1 rfl (lv_room (Nat.le_of_ble_eq_true rfl)) dL_law_1603 ⟨Nat.le_of_ble_eq_true rfl, Nat.le_of_ble_eq_true rfl⟩) hP hD hS hA (fun r9 w10 H locs hw hP hD hS => ?_)
  obtain ⟨hk11, hz12⟩ := hw
  refine lv_pop hx hb dL_law_1606 rfl ?_
  refine lv_goto (tgt := 2162) hx hb dL_law_1607 (by decide) ?_
  exact kk _ w4 w10 H locs ls hk5 hk11 hP hD hS (lv_sub hl [0, 1, 2, 3] rfl)
