set_option maxHeartbeats 8000000 in
set_option maxRecDepth 100000 in
theorem law_c0 {p : Program} {l : Launch} {e : Env} {s : State} {m : MethodId} {below : List Frame} {meth : Method} {c : Code} {A : Nat → Prop} {b L : Nat} {xs : Nat → Int32} (hx : p.tables.exec = Jvm.exec) (hb : c.code = code) (hml : c.maxLocals = 4) (hr : meth.sig.returnType = ret) (hlocks : meth.locks = false) (hX : va_X b L xs s s.heap) (hbl : b < s.heap.size) (hbA : ¬ A b) (hA : ∀ q : Nat, s.heap.size ≤ q → A q) (hAf : ∀ q : Nat, A q → s.heap.size ≤ q) (D : va_G) (G : ct_G) (cI cJ cB cZ cO : ClassId) (g : Gh) (h0 h1 : Nat) (hown : s.vm.findClass RL = some m.cls) (hts : ∀ w ∈ wsL_law, w.before #[Value.ref b] s = true) (hE : ct_E D (ct_T cI cJ cB cZ cO) G s) (hH : ct_H G A s s.heap) (hL : L ≤ 3072) (i : Nat) (hi : i + 6 ≤ L) (wx wm : va_W) (hX0 : XOK cI cJ cB cZ cO g h0 wx) (hM0 : MOK cI cJ cB cZ cO g h1 wm) {H : Heap} {locs : List Loc} (hP : va_P D vwCl (wx ++ wm) H) (hD : va_D A (wx ++ wm)) (hS : va_S A s.heap H locs) {ls : Array Slot} (hl : lv_has ls 4 [(3, .int (nI i)), (2, .ref h1), (1, .ref h0), (0, .ref b)]) (kk : ∀ (g : Gh) (wx wm : va_W) (H : Heap) (locs : List Loc) (ls : Array Slot), XOK cI cJ cB cZ cO g h0 wx → MOK cI cJ cB cZ cO g h1 wm → va_P D vwCl (wx ++ wm) H → va_D A (wx ++ wm) → va_S A s.heap H locs → lv_has ls 4 [(3, .int (nI i)), (2, .ref h1), (1, .ref h0), (0, .ref b)] → W p l e room_1 s m #[Value.ref b] below meth c H locs 107 36842 (lw_Z below #[Value.ref b] s) (F0 m 2162 ls [])) : W p l e room_1 s m #[Value.ref b] below meth c H locs 107 36842 (lw_Z below #[Value.ref b] s) (F0 m 296 ls []) := by
  have hK := hE.1
  have hni : (nI i).toInt = (i : Int) := nI_toInt (by omega)
  refine lv_aload_n hx hb dL_law_296 rfl (lv_at hl 2 rfl) ?_
  refine lv_aload_n hx hb dL_law_297 rfl (lv_at hl 3 rfl) ?_
  refine lv_iload_n hx hb dL_law_298 rfl (lv_at hl 0 rfl) ?_
  refine lv_iconst (v := 1) hx hb dL_law_299 (by decide) ?_
  refine lv_iadd hx hb dL_law_300 ?_
  refine lv_topi (fun z1 ez1 => ?_)
  have fz1 : z1.toInt = (nI i).toInt + 1 := by rw [ez1]; exact tq_add rfl (by decide) (by omega)
  refine va_sld hx hb hX hbl hbA hS (tq_in rfl (by omega)) dL_law_301 ?_
  refine lv_topi (fun z2 ez2 => ?_)
  refine lv_aload_n hx hb dL_law_302 rfl (lv_at hl 3 rfl) ?_
  refine lv_iload_n hx hb dL_law_303 rfl (lv_at hl 0 rfl) ?_
  refine lv_iconst (v := 2) hx hb dL_law_304 (by decide) ?_
  refine lv_iadd hx hb dL_law_305 ?_
  refine lv_topi (fun z3 ez3 => ?_)
  have fz3 : z3.toInt = (nI i).toInt + 2 := by rw [ez3]; exact tq_add rfl (by decide) (by omega)
  refine va_sld hx hb hX hbl hbA hS (tq_in rfl (by omega)) dL_law_306 ?_
  refine lv_topi (fun z4 ez4 => ?_)
  refine lv_aload_n hx hb dL_law_307 rfl (lv_at hl 3 rfl) ?_
  refine lv_iload_n hx hb dL_law_308 rfl (lv_at hl 0 rfl) ?_
  refine lv_iconst (v := 3) hx hb dL_law_309 (by decide) ?_
  refine lv_iadd hx hb dL_law_310 ?_
  refine lv_topi (fun z5 ez5 => ?_)
  have fz5 : z5.toInt = (nI i).toInt + 3 := by rw [ez5]; exact tq_add rfl (by decide) (by omega)
  refine va_sld hx hb hX hbl hbA hS (tq_in rfl (by omega)) dL_law_311 ?_
  refine lv_topi (fun z6 ez6 => ?_)
  refine lv_aload_n hx hb dL_law_312 rfl (lv_at hl 3 rfl) ?_
  refine lv_iload_n hx hb dL_law_313 rfl (lv_at hl 0 rfl) ?_
  refine lv_iconst (v := 4) hx hb dL_law_314 (by decide) ?_
  refine lv_iadd hx hb dL_law_315 ?_
  refine lv_topi (fun z7 ez7 => ?_)
  have fz7 : z7.toInt = (nI i).toInt + 4 := by rw [ez7]; exact tq_add rfl (by decide) (by omega)
  refine va_sld hx hb hX hbl hbA hS (tq_in rfl (by omega)) dL_law_316 ?_
  refine lv_topi (fun z8 ez8 => ?_)
  refine lv_aload_n hx hb dL_law_317 rfl (lv_at hl 3 rfl) ?_
  refine lv_iload_n hx hb dL_law_318 rfl (lv_at hl 0 rfl) ?_
  refine lv_iconst (v := 5) hx hb dL_law_319 (by decide) ?_
  refine lv_iadd hx hb dL_law_320 ?_
  refine lv_topi (fun z9 ez9 => ?_)
  have fz9 : z9.toInt = (nI i).toInt + 5 := by rw [ez9]; exact tq_add rfl (by decide) (by omega)
  refine va_sld hx hb hX hbl hbA hS (tq_in rfl (by omega)) dL_law_321 ?_
  refine lv_topi (fun z10 ez10 => ?_)
  refine ct_callAi (D := D) (wx := wx) (wm := wm) (va_runV (As := [.int z2, .int z4, .int z6, .int z8, .int z10]) (rest := []) ⟨hx, hb, hml, hown, hts⟩ (k_X11_feed l D G cI cJ cB cZ cO g h0 wx hX0 z2 z4 z6 z8 z10 H.size) (cwV 5 hts gL_law_X11_feed rfl rfl rfl (by decide +kernel) ⟨Nat.le_of_ble_eq_true rfl, Nat.le_of_ble_eq_true rfl⟩) (ct_preA (T := ct_T cI cJ cB cZ cO) (ci := 11) hE hH hP hD hS hA (XOK_at hX0) rfl) rfl rfl hl.1 rfl (lv_room (Nat.le_of_ble_eq_true rfl)) dL_law_322 ⟨Nat.le_of_ble_eq_true rfl, Nat.le_of_ble_eq_true rfl⟩) hP hD hS hA (fun r11 w12 H locs hw hP hD hS => ?_)
  obtain ⟨hk13, hz14⟩ := hw
  refine lv_pop hx hb dL_law_325 rfl ?_
  refine lv_aload_n hx hb dL_law_326 rfl (lv_at hl 1 rfl) ?_
  refine lv_aload_n hx hb dL_law_327 rfl (lv_at hl 3 rfl) ?_
  refine lv_iload_n hx hb dL_law_328 rfl (lv_at hl 0 rfl) ?_
  refine lv_iconst (v := 1) hx hb dL_law_329 (by decide) ?_
  refine lv_iadd hx hb dL_law_330 ?_
  refine lv_topi (fun z15 ez15 => ?_)
  have fz15 : z15.toInt = (nI i).toInt + 1 := by rw [ez15]; exact tq_add rfl (by decide) (by omega)
  refine va_sld hx hb hX hbl hbA hS (tq_in rfl (by omega)) dL_law_331 ?_
  refine lv_topi (fun z16 ez16 => ?_)
  refine lv_aload_n hx hb dL_law_332 rfl (lv_at hl 3 rfl) ?_
  refine lv_iload_n hx hb dL_law_333 rfl (lv_at hl 0 rfl) ?_
  refine lv_iconst (v := 2) hx hb dL_law_334 (by decide) ?_
  refine lv_iadd hx hb dL_law_335 ?_
  refine lv_topi (fun z17 ez17 => ?_)
  have fz17 : z17.toInt = (nI i).toInt + 2 := by rw [ez17]; exact tq_add rfl (by decide) (by omega)
  refine va_sld hx hb hX hbl hbA hS (tq_in rfl (by omega)) dL_law_336 ?_
  refine lv_topi (fun z18 ez18 => ?_)
  refine lv_aload_n hx hb dL_law_337 rfl (lv_at hl 3 rfl) ?_
  refine lv_iload_n hx hb dL_law_338 rfl (lv_at hl 0 rfl) ?_
  refine lv_iconst (v := 3) hx hb dL_law_339 (by decide) ?_
  refine lv_iadd hx hb dL_law_340 ?_
  refine lv_topi (fun z19 ez19 => ?_)
  have fz19 : z19.toInt = (nI i).toInt + 3 := by rw [ez19]; exact tq_add rfl (by decide) (by omega)
  refine va_sld hx hb hX hbl hbA hS (tq_in rfl (by omega)) dL_law_341 ?_
  refine lv_topi (fun z20 ez20 => ?_)
  refine lv_aload_n hx hb dL_law_342 rfl (lv_at hl 3 rfl) ?_
  refine lv_iload_n hx hb dL_law_343 rfl (lv_at hl 0 rfl) ?_
  refine lv_iconst (v := 4) hx hb dL_law_344 (by decide) ?_
  refine lv_iadd hx hb dL_law_345 ?_
  refine lv_topi (fun z21 ez21 => ?_)
  have fz21 : z21.toInt = (nI i).toInt + 4 := by rw [ez21]; exact tq_add rfl (by decide) (by omega)
  refine va_sld hx hb hX hbl hbA hS (tq_in rfl (by omega)) dL_law_346 ?_
  refine lv_topi (fun z22 ez22 => ?_)
  refine lv_aload_n hx hb dL_law_347 rfl (lv_at hl 3 rfl) ?_
  refine lv_iload_n hx hb dL_law_348 rfl (lv_at hl 0 rfl) ?_
  refine lv_iconst (v := 5) hx hb dL_law_349 (by decide) ?_
  refine lv_iadd hx hb dL_law_350 ?_
  refine lv_topi (fun z23 ez23 => ?_)
  have fz23 : z23.toInt = (nI i).toInt + 5 := by rw [ez23]; exact tq_add rfl (by decide) (by omega)
  refine va_sld hx hb hX hbl hbA hS (tq_in rfl (by omega)) dL_law_351 ?_
  refine lv_topi (fun z24 ez24 => ?_)
  refine ct_callAi (D := D) (wx := wm) (wm := w12) (va_runV (As := [.int z16, .int z18, .int z20, .int z22, .int z24]) (rest := []) ⟨hx, hb, hml, hown, hts⟩ (k_X12_feed l D G cI cJ cB cZ cO g h1 wm hM0 z16 z18 z20 z22 z24 H.size) (cwV 5 hts gL_law_X12_feed rfl rfl rfl (by decide +kernel) ⟨Nat.le_of_ble_eq_true rfl, Nat.le_of_ble_eq_true rfl⟩) (ct_preA (T := ct_T cI cJ cB cZ cO) (ci := 12) hE hH hP hD hS hA (MOK_at hM0) rfl) rfl rfl hl.1 rfl (lv_room (Nat.le_of_ble_eq_true rfl)) dL_law_352 ⟨Nat.le_of_ble_eq_true rfl, Nat.le_of_ble_eq_true rfl⟩) hP hD hS hA (fun r25 w26 H locs hw hP hD hS => ?_)
  obtain ⟨hk27, hz28⟩ := hw
  refine lv_pop hx hb dL_law_355 rfl ?_
  refine lv_goto (tgt := 2162) hx hb dL_law_356 (by decide) ?_
  exact kk _ w12 w26 H locs ls hk13 hk27 hP hD hS (lv_sub hl [0, 1, 2, 3] rfl)
set_option maxHeartbeats 8000000 in
set_option maxRecDepth 100000 in
theorem law_c1 {p : Program} {l : Launch} {e : Env} {s : State} {m : MethodId} {below : List Frame} {meth : Method} {c : Code} {A : Nat → Prop} {b L : Nat} {xs : Nat → Int32} (hx : p.tables.exec = Jvm.exec) (hb : c.code = code) (hml : c.maxLocals = 4) (hr : meth.sig.returnType = ret) (hlocks : meth.locks = false) (hX : va_X b L xs s s.heap) (hbl : b < s.heap.size) (hbA : ¬ A b) (hA : ∀ q : Nat, s.heap.size ≤ q → A q) (hAf : ∀ q : Nat, A q → s.heap.size ≤ q) (D : va_G) (G : ct_G) (cI cJ cB cZ cO : ClassId) (g : Gh) (h0 h1 : Nat) (hown : s.vm.findClass RL = some m.cls) (hts : ∀ w ∈ wsL_law, w.before #[Value.ref b] s = true) (hE : ct_E D (ct_T cI cJ cB cZ cO) G s) (hH : ct_H G A s s.heap) (hL : L ≤ 3072) (i : Nat) (hi : i + 6 ≤ L) (wx wm : va_W) (hX0 : XOK cI cJ cB cZ cO g h0 wx) (hM0 : MOK cI cJ cB cZ cO g h1 wm) {H : Heap} {locs : List Loc} (hP : va_P D vwCl (wx ++ wm) H) (hD : va_D A (wx ++ wm)) (hS : va_S A s.heap H locs) {ls : Array Slot} (hl : lv_has ls 4 [(3, .int (nI i)), (2, .ref h1), (1, .ref h0), (0, .ref b)]) (kk : ∀ (g : Gh) (wx wm : va_W) (H : Heap) (locs : List Loc) (ls : Array Slot), XOK cI cJ cB cZ cO g h0 wx → MOK cI cJ cB cZ cO g h1 wm → va_P D vwCl (wx ++ wm) H → va_D A (wx ++ wm) → va_S A s.heap H locs → lv_has ls 4 [(3, .int (nI i)), (2, .ref h1), (1, .ref h0), (0, .ref b)] → W p l e room_1 s m #[Value.ref b] below meth c H locs 107 36842 (lw_Z below #[Value.ref b] s) (F0 m 2162 ls [])) : W p l e room_1 s m #[Value.ref b] below meth c H locs 107 36842 (lw_Z below #[Value.ref b] s) (F0 m 359 ls []) := by
  have hK := hE.1
  have hni : (nI i).toInt = (i : Int) := nI_toInt (by omega)
  refine lv_aload_n hx hb dL_law_359 rfl (lv_at hl 2 rfl) ?_
  refine lv_aload_n hx hb dL_law_360 rfl (lv_at hl 3 rfl) ?_
  refine lv_iload_n hx hb dL_law_361 rfl (lv_at hl 0 rfl) ?_
  refine lv_iconst (v := 1) hx hb dL_law_362 (by decide) ?_
  refine lv_iadd hx hb dL_law_363 ?_
  refine lv_topi (fun z1 ez1 => ?_)
  have fz1 : z1.toInt = (nI i).toInt + 1 := by rw [ez1]; exact tq_add rfl (by decide) (by omega)
  refine va_sld hx hb hX hbl hbA hS (tq_in rfl (by omega)) dL_law_364 ?_
  refine lv_topi (fun z2 ez2 => ?_)
  refine ct_callAi (D := D) (wx := wx) (wm := wm) (va_runV (As := [.int z2]) (rest := []) ⟨hx, hb, hml, hown, hts⟩ (k_X11_end l D G cI cJ cB cZ cO g h0 wx hX0 z2 H.size) (cwV 1 hts gL_law_X11_end rfl rfl rfl (by decide +kernel) ⟨Nat.le_of_ble_eq_true rfl, Nat.le_of_ble_eq_true rfl⟩) (ct_preA (T := ct_T cI cJ cB cZ cO) (ci := 11) hE hH hP hD hS hA (XOK_at hX0) rfl) rfl rfl hl.1 rfl (lv_room (Nat.le_of_ble_eq_true rfl)) dL_law_365 ⟨Nat.le_of_ble_eq_true rfl, Nat.le_of_ble_eq_true rfl⟩) hP hD hS hA (fun r3 w4 H locs hw hP hD hS => ?_)
  obtain ⟨hk5, hz6⟩ := hw
  refine lv_pop hx hb dL_law_368 rfl ?_
  refine lv_aload_n hx hb dL_law_369 rfl (lv_at hl 1 rfl) ?_
  refine lv_aload_n hx hb dL_law_370 rfl (lv_at hl 3 rfl) ?_
  refine lv_iload_n hx hb dL_law_371 rfl (lv_at hl 0 rfl) ?_
  refine lv_iconst (v := 1) hx hb dL_law_372 (by decide) ?_
  refine lv_iadd hx hb dL_law_373 ?_
  refine lv_topi (fun z7 ez7 => ?_)
  have fz7 : z7.toInt = (nI i).toInt + 1 := by rw [ez7]; exact tq_add rfl (by decide) (by omega)
  refine va_sld hx hb hX hbl hbA hS (tq_in rfl (by omega)) dL_law_374 ?_
  refine lv_topi (fun z8 ez8 => ?_)
  refine ct_callAi (D := D) (wx := wm) (wm := w4) (va_runV (As := [.int z8]) (rest := []) ⟨hx, hb, hml, hown, hts⟩ (k_X12_end l D G cI cJ cB cZ cO g h1 wm hM0 z8 H.size) (cwV 1 hts gL_law_X12_end rfl rfl rfl (by decide +kernel) ⟨Nat.le_of_ble_eq_true rfl, Nat.le_of_ble_eq_true rfl⟩) (ct_preA (T := ct_T cI cJ cB cZ cO) (ci := 12) hE hH hP hD hS hA (MOK_at hM0) rfl) rfl rfl hl.1 rfl (lv_room (Nat.le_of_ble_eq_true rfl)) dL_law_375 ⟨Nat.le_of_ble_eq_true rfl, Nat.le_of_ble_eq_true rfl⟩) hP hD hS hA (fun r9 w10 H locs hw hP hD hS => ?_)
  obtain ⟨hk11, hz12⟩ := hw
  refine lv_pop hx hb dL_law_378 rfl ?_
  refine lv_goto (tgt := 2162) hx hb dL_law_379 (by decide) ?_
  exact kk _ w4 w10 H locs ls hk5 hk11 hP hD hS (lv_sub hl [0, 1, 2, 3] rfl)
set_option maxHeartbeats 8000000 in
set_option maxRecDepth 100000 in
theorem law_c2 {p : Program} {l : Launch} {e : Env} {s : State} {m : MethodId} {below : List Frame} {meth : Method} {c : Code} {A : Nat → Prop} {b L : Nat} {xs : Nat → Int32} (hx : p.tables.exec = Jvm.exec) (hb : c.code = code) (hml : c.maxLocals = 4) (hr : meth.sig.returnType = ret) (hlocks : meth.locks = false) (hX : va_X b L xs s s.heap) (hbl : b < s.heap.size) (hbA : ¬ A b) (hA : ∀ q : Nat, s.heap.size ≤ q → A q) (hAf : ∀ q : Nat, A q → s.heap.size ≤ q) (D : va_G) (G : ct_G) (cI cJ cB cZ cO : ClassId) (g : Gh) (h0 h1 : Nat) (hown : s.vm.findClass RL = some m.cls) (hts : ∀ w ∈ wsL_law, w.before #[Value.ref b] s = true) (hE : ct_E D (ct_T cI cJ cB cZ cO) G s) (hH : ct_H G A s s.heap) (hL : L ≤ 3072) (i : Nat) (hi : i + 6 ≤ L) (wx wm : va_W) (hX0 : XOK cI cJ cB cZ cO g h0 wx) (hM0 : MOK cI cJ cB cZ cO g h1 wm) {H : Heap} {locs : List Loc} (hP : va_P D vwCl (wx ++ wm) H) (hD : va_D A (wx ++ wm)) (hS : va_S A s.heap H locs) {ls : Array Slot} (hl : lv_has ls 4 [(3, .int (nI i)), (2, .ref h1), (1, .ref h0), (0, .ref b)]) (kk : ∀ (g : Gh) (wx wm : va_W) (H : Heap) (locs : List Loc) (ls : Array Slot), XOK cI cJ cB cZ cO g h0 wx → MOK cI cJ cB cZ cO g h1 wm → va_P D vwCl (wx ++ wm) H → va_D A (wx ++ wm) → va_S A s.heap H locs → lv_has ls 4 [(3, .int (nI i)), (2, .ref h1), (1, .ref h0), (0, .ref b)] → W p l e room_1 s m #[Value.ref b] below meth c H locs 107 36842 (lw_Z below #[Value.ref b] s) (F0 m 2162 ls [])) : W p l e room_1 s m #[Value.ref b] below meth c H locs 107 36842 (lw_Z below #[Value.ref b] s) (F0 m 382 ls []) := by
  have hK := hE.1
  have hni : (nI i).toInt = (i : Int) := nI_toInt (by omega)
  refine lv_aload_n hx hb dL_law_382 rfl (lv_at hl 2 rfl) ?_
  refine ct_callAi (D := D) (wx := wx) (wm := wm) (va_runV (As := []) (rest := []) ⟨hx, hb, hml, hown, hts⟩ (k_X11_dance l D G cI cJ cB cZ cO g h0 wx hX0  H.size) (cwV 0 hts gL_law_X11_dance rfl rfl rfl (by decide +kernel) ⟨Nat.le_of_ble_eq_true rfl, Nat.le_of_ble_eq_true rfl⟩) (ct_preA (T := ct_T cI cJ cB cZ cO) (ci := 11) hE hH hP hD hS hA (XOK_at hX0) rfl) rfl rfl hl.1 rfl (lv_room (Nat.le_of_ble_eq_true rfl)) dL_law_383 ⟨Nat.le_of_ble_eq_true rfl, Nat.le_of_ble_eq_true rfl⟩) hP hD hS hA (fun r1 w2 H locs hw hP hD hS => ?_)
  obtain ⟨hk3, hz4⟩ := hw
  refine lv_pop hx hb dL_law_386 rfl ?_
  refine lv_aload_n hx hb dL_law_387 rfl (lv_at hl 1 rfl) ?_
  refine ct_callAi (D := D) (wx := wm) (wm := w2) (va_runV (As := []) (rest := []) ⟨hx, hb, hml, hown, hts⟩ (k_X12_dance l D G cI cJ cB cZ cO g h1 wm hM0  H.size) (cwV 0 hts gL_law_X12_dance rfl rfl rfl (by decide +kernel) ⟨Nat.le_of_ble_eq_true rfl, Nat.le_of_ble_eq_true rfl⟩) (ct_preA (T := ct_T cI cJ cB cZ cO) (ci := 12) hE hH hP hD hS hA (MOK_at hM0) rfl) rfl rfl hl.1 rfl (lv_room (Nat.le_of_ble_eq_true rfl)) dL_law_388 ⟨Nat.le_of_ble_eq_true rfl, Nat.le_of_ble_eq_true rfl⟩) hP hD hS hA (fun r5 w6 H locs hw hP hD hS => ?_)
  obtain ⟨hk7, hz8⟩ := hw
  refine lv_pop hx hb dL_law_391 rfl ?_
  refine lv_goto (tgt := 2162) hx hb dL_law_392 (by decide) ?_
  exact kk _ w2 w6 H locs ls hk3 hk7 hP hD hS (lv_sub hl [0, 1, 2, 3] rfl)
set_option maxHeartbeats 8000000 in
set_option maxRecDepth 100000 in
theorem law_c3 {p : Program} {l : Launch} {e : Env} {s : State} {m : MethodId} {below : List Frame} {meth : Method} {c : Code} {A : Nat → Prop} {b L : Nat} {xs : Nat → Int32} (hx : p.tables.exec = Jvm.exec) (hb : c.code = code) (hml : c.maxLocals = 4) (hr : meth.sig.returnType = ret) (hlocks : meth.locks = false) (hX : va_X b L xs s s.heap) (hbl : b < s.heap.size) (hbA : ¬ A b) (hA : ∀ q : Nat, s.heap.size ≤ q → A q) (hAf : ∀ q : Nat, A q → s.heap.size ≤ q) (D : va_G) (G : ct_G) (cI cJ cB cZ cO : ClassId) (g : Gh) (h0 h1 : Nat) (hown : s.vm.findClass RL = some m.cls) (hts : ∀ w ∈ wsL_law, w.before #[Value.ref b] s = true) (hE : ct_E D (ct_T cI cJ cB cZ cO) G s) (hH : ct_H G A s s.heap) (hL : L ≤ 3072) (i : Nat) (hi : i + 6 ≤ L) (wx wm : va_W) (hX0 : XOK cI cJ cB cZ cO g h0 wx) (hM0 : MOK cI cJ cB cZ cO g h1 wm) {H : Heap} {locs : List Loc} (hP : va_P D vwCl (wx ++ wm) H) (hD : va_D A (wx ++ wm)) (hS : va_S A s.heap H locs) {ls : Array Slot} (hl : lv_has ls 4 [(3, .int (nI i)), (2, .ref h1), (1, .ref h0), (0, .ref b)]) (kk : ∀ (g : Gh) (wx wm : va_W) (H : Heap) (locs : List Loc) (ls : Array Slot), XOK cI cJ cB cZ cO g h0 wx → MOK cI cJ cB cZ cO g h1 wm → va_P D vwCl (wx ++ wm) H → va_D A (wx ++ wm) → va_S A s.heap H locs → lv_has ls 4 [(3, .int (nI i)), (2, .ref h1), (1, .ref h0), (0, .ref b)] → W p l e room_1 s m #[Value.ref b] below meth c H locs 107 36842 (lw_Z below #[Value.ref b] s) (F0 m 2162 ls [])) : W p l e room_1 s m #[Value.ref b] below meth c H locs 107 36842 (lw_Z below #[Value.ref b] s) (F0 m 395 ls []) := by
  have hK := hE.1
  have hni : (nI i).toInt = (i : Int) := nI_toInt (by omega)
  refine lv_aload_n hx hb dL_law_395 rfl (lv_at hl 2 rfl) ?_
  refine lv_aload_n hx hb dL_law_396 rfl (lv_at hl 3 rfl) ?_
  refine lv_iload_n hx hb dL_law_397 rfl (lv_at hl 0 rfl) ?_
  refine lv_iconst (v := 1) hx hb dL_law_398 (by decide) ?_
  refine lv_iadd hx hb dL_law_399 ?_
  refine lv_topi (fun z1 ez1 => ?_)
  have fz1 : z1.toInt = (nI i).toInt + 1 := by rw [ez1]; exact tq_add rfl (by decide) (by omega)
  refine va_sld hx hb hX hbl hbA hS (tq_in rfl (by omega)) dL_law_400 ?_
  refine lv_topi (fun z2 ez2 => ?_)
  refine ct_callAi (D := D) (wx := wx) (wm := wm) (va_runV (As := [.int z2]) (rest := []) ⟨hx, hb, hml, hown, hts⟩ (k_X11_fault l D G cI cJ cB cZ cO g h0 wx hX0 z2 H.size) (cwV 1 hts gL_law_X11_fault rfl rfl rfl (by decide +kernel) ⟨Nat.le_of_ble_eq_true rfl, Nat.le_of_ble_eq_true rfl⟩) (ct_preA (T := ct_T cI cJ cB cZ cO) (ci := 11) hE hH hP hD hS hA (XOK_at hX0) rfl) rfl rfl hl.1 rfl (lv_room (Nat.le_of_ble_eq_true rfl)) dL_law_401 ⟨Nat.le_of_ble_eq_true rfl, Nat.le_of_ble_eq_true rfl⟩) hP hD hS hA (fun r3 w4 H locs hw hP hD hS => ?_)
  obtain ⟨hk5, hz6⟩ := hw
  refine lv_pop hx hb dL_law_404 rfl ?_
  refine lv_aload_n hx hb dL_law_405 rfl (lv_at hl 1 rfl) ?_
  refine lv_aload_n hx hb dL_law_406 rfl (lv_at hl 3 rfl) ?_
  refine lv_iload_n hx hb dL_law_407 rfl (lv_at hl 0 rfl) ?_
  refine lv_iconst (v := 1) hx hb dL_law_408 (by decide) ?_
  refine lv_iadd hx hb dL_law_409 ?_
  refine lv_topi (fun z7 ez7 => ?_)
  have fz7 : z7.toInt = (nI i).toInt + 1 := by rw [ez7]; exact tq_add rfl (by decide) (by omega)
  refine va_sld hx hb hX hbl hbA hS (tq_in rfl (by omega)) dL_law_410 ?_
  refine lv_topi (fun z8 ez8 => ?_)
  refine ct_callAi (D := D) (wx := wm) (wm := w4) (va_runV (As := [.int z8]) (rest := []) ⟨hx, hb, hml, hown, hts⟩ (k_X12_fault l D G cI cJ cB cZ cO g h1 wm hM0 z8 H.size) (cwV 1 hts gL_law_X12_fault rfl rfl rfl (by decide +kernel) ⟨Nat.le_of_ble_eq_true rfl, Nat.le_of_ble_eq_true rfl⟩) (ct_preA (T := ct_T cI cJ cB cZ cO) (ci := 12) hE hH hP hD hS hA (MOK_at hM0) rfl) rfl rfl hl.1 rfl (lv_room (Nat.le_of_ble_eq_true rfl)) dL_law_411 ⟨Nat.le_of_ble_eq_true rfl, Nat.le_of_ble_eq_true rfl⟩) hP hD hS hA (fun r9 w10 H locs hw hP hD hS => ?_)
  obtain ⟨hk11, hz12⟩ := hw
  refine lv_pop hx hb dL_law_414 rfl ?_
  refine lv_goto (tgt := 2162) hx hb dL_law_415 (by decide) ?_
  exact kk _ w4 w10 H locs ls hk5 hk11 hP hD hS (lv_sub hl [0, 1, 2, 3] rfl)
set_option maxHeartbeats 8000000 in
set_option maxRecDepth 100000 in
theorem law_c4 {p : Program} {l : Launch} {e : Env} {s : State} {m : MethodId} {below : List Frame} {meth : Method} {c : Code} {A : Nat → Prop} {b L : Nat} {xs : Nat → Int32} (hx : p.tables.exec = Jvm.exec) (hb : c.code = code) (hml : c.maxLocals = 4) (hr : meth.sig.returnType = ret) (hlocks : meth.locks = false) (hX : va_X b L xs s s.heap) (hbl : b < s.heap.size) (hbA : ¬ A b) (hA : ∀ q : Nat, s.heap.size ≤ q → A q) (hAf : ∀ q : Nat, A q → s.heap.size ≤ q) (D : va_G) (G : ct_G) (cI cJ cB cZ cO : ClassId) (g : Gh) (h0 h1 : Nat) (hown : s.vm.findClass RL = some m.cls) (hts : ∀ w ∈ wsL_law, w.before #[Value.ref b] s = true) (hE : ct_E D (ct_T cI cJ cB cZ cO) G s) (hH : ct_H G A s s.heap) (hL : L ≤ 3072) (i : Nat) (hi : i + 6 ≤ L) (wx wm : va_W) (hX0 : XOK cI cJ cB cZ cO g h0 wx) (hM0 : MOK cI cJ cB cZ cO g h1 wm) {H : Heap} {locs : List Loc} (hP : va_P D vwCl (wx ++ wm) H) (hD : va_D A (wx ++ wm)) (hS : va_S A s.heap H locs) {ls : Array Slot} (hl : lv_has ls 4 [(3, .int (nI i)), (2, .ref h1), (1, .ref h0), (0, .ref b)]) (kk : ∀ (g : Gh) (wx wm : va_W) (H : Heap) (locs : List Loc) (ls : Array Slot), XOK cI cJ cB cZ cO g h0 wx → MOK cI cJ cB cZ cO g h1 wm → va_P D vwCl (wx ++ wm) H → va_D A (wx ++ wm) → va_S A s.heap H locs → lv_has ls 4 [(3, .int (nI i)), (2, .ref h1), (1, .ref h0), (0, .ref b)] → W p l e room_1 s m #[Value.ref b] below meth c H locs 107 36842 (lw_Z below #[Value.ref b] s) (F0 m 2162 ls [])) : W p l e room_1 s m #[Value.ref b] below meth c H locs 107 36842 (lw_Z below #[Value.ref b] s) (F0 m 418 ls []) := by
  have hK := hE.1
  have hni : (nI i).toInt = (i : Int) := nI_toInt (by omega)
  refine lv_aload_n hx hb dL_law_418 rfl (lv_at hl 2 rfl) ?_
  refine lv_aload_n hx hb dL_law_419 rfl (lv_at hl 3 rfl) ?_
  refine lv_iload_n hx hb dL_law_420 rfl (lv_at hl 0 rfl) ?_
  refine lv_iconst (v := 1) hx hb dL_law_421 (by decide) ?_
  refine lv_iadd hx hb dL_law_422 ?_
  refine lv_topi (fun z1 ez1 => ?_)
  have fz1 : z1.toInt = (nI i).toInt + 1 := by rw [ez1]; exact tq_add rfl (by decide) (by omega)
  refine va_sld hx hb hX hbl hbA hS (tq_in rfl (by omega)) dL_law_423 ?_
  refine lv_topi (fun z2 ez2 => ?_)
  refine lv_aload_n hx hb dL_law_424 rfl (lv_at hl 3 rfl) ?_
  refine lv_iload_n hx hb dL_law_425 rfl (lv_at hl 0 rfl) ?_
  refine lv_iconst (v := 2) hx hb dL_law_426 (by decide) ?_
  refine lv_iadd hx hb dL_law_427 ?_
  refine lv_topi (fun z3 ez3 => ?_)
  have fz3 : z3.toInt = (nI i).toInt + 2 := by rw [ez3]; exact tq_add rfl (by decide) (by omega)
  refine va_sld hx hb hX hbl hbA hS (tq_in rfl (by omega)) dL_law_428 ?_
  refine lv_topi (fun z4 ez4 => ?_)
  refine ct_callAi (D := D) (wx := wx) (wm := wm) (va_runV (As := [.int z2, .int z4]) (rest := []) ⟨hx, hb, hml, hown, hts⟩ (k_X11_step l D G cI cJ cB cZ cO g h0 wx hX0 z2 z4 H.size) (cwV 2 hts gL_law_X11_step rfl rfl rfl (by decide +kernel) ⟨Nat.le_of_ble_eq_true rfl, Nat.le_of_ble_eq_true rfl⟩) (ct_preA (T := ct_T cI cJ cB cZ cO) (ci := 11) hE hH hP hD hS hA (XOK_at hX0) rfl) rfl rfl hl.1 rfl (lv_room (Nat.le_of_ble_eq_true rfl)) dL_law_429 ⟨Nat.le_of_ble_eq_true rfl, Nat.le_of_ble_eq_true rfl⟩) hP hD hS hA (fun r5 w6 H locs hw hP hD hS => ?_)
  obtain ⟨hk7, hz8⟩ := hw
  refine lv_pop hx hb dL_law_432 rfl ?_
  refine lv_aload_n hx hb dL_law_433 rfl (lv_at hl 1 rfl) ?_
  refine lv_aload_n hx hb dL_law_434 rfl (lv_at hl 3 rfl) ?_
  refine lv_iload_n hx hb dL_law_435 rfl (lv_at hl 0 rfl) ?_
  refine lv_iconst (v := 1) hx hb dL_law_436 (by decide) ?_
  refine lv_iadd hx hb dL_law_437 ?_
  refine lv_topi (fun z9 ez9 => ?_)
  have fz9 : z9.toInt = (nI i).toInt + 1 := by rw [ez9]; exact tq_add rfl (by decide) (by omega)
  refine va_sld hx hb hX hbl hbA hS (tq_in rfl (by omega)) dL_law_438 ?_
  refine lv_topi (fun z10 ez10 => ?_)
  refine lv_aload_n hx hb dL_law_439 rfl (lv_at hl 3 rfl) ?_
  refine lv_iload_n hx hb dL_law_440 rfl (lv_at hl 0 rfl) ?_
  refine lv_iconst (v := 2) hx hb dL_law_441 (by decide) ?_
  refine lv_iadd hx hb dL_law_442 ?_
  refine lv_topi (fun z11 ez11 => ?_)
  have fz11 : z11.toInt = (nI i).toInt + 2 := by rw [ez11]; exact tq_add rfl (by decide) (by omega)
  refine va_sld hx hb hX hbl hbA hS (tq_in rfl (by omega)) dL_law_443 ?_
  refine lv_topi (fun z12 ez12 => ?_)
  refine ct_callAi (D := D) (wx := wm) (wm := w6) (va_runV (As := [.int z10, .int z12]) (rest := []) ⟨hx, hb, hml, hown, hts⟩ (k_X12_step l D G cI cJ cB cZ cO g h1 wm hM0 z10 z12 H.size) (cwV 2 hts gL_law_X12_step rfl rfl rfl (by decide +kernel) ⟨Nat.le_of_ble_eq_true rfl, Nat.le_of_ble_eq_true rfl⟩) (ct_preA (T := ct_T cI cJ cB cZ cO) (ci := 12) hE hH hP hD hS hA (MOK_at hM0) rfl) rfl rfl hl.1 rfl (lv_room (Nat.le_of_ble_eq_true rfl)) dL_law_444 ⟨Nat.le_of_ble_eq_true rfl, Nat.le_of_ble_eq_true rfl⟩) hP hD hS hA (fun r13 w14 H locs hw hP hD hS => ?_)
  obtain ⟨hk15, hz16⟩ := hw
  refine lv_pop hx hb dL_law_447 rfl ?_
  refine lv_goto (tgt := 2162) hx hb dL_law_448 (by decide) ?_
  exact kk _ w6 w14 H locs ls hk7 hk15 hP hD hS (lv_sub hl [0, 1, 2, 3] rfl)
set_option maxHeartbeats 8000000 in
set_option maxRecDepth 100000 in
theorem law_c5 {p : Program} {l : Launch} {e : Env} {s : State} {m : MethodId} {below : List Frame} {meth : Method} {c : Code} {A : Nat → Prop} {b L : Nat} {xs : Nat → Int32} (hx : p.tables.exec = Jvm.exec) (hb : c.code = code) (hml : c.maxLocals = 4) (hr : meth.sig.returnType = ret) (hlocks : meth.locks = false) (hX : va_X b L xs s s.heap) (hbl : b < s.heap.size) (hbA : ¬ A b) (hA : ∀ q : Nat, s.heap.size ≤ q → A q) (hAf : ∀ q : Nat, A q → s.heap.size ≤ q) (D : va_G) (G : ct_G) (cI cJ cB cZ cO : ClassId) (g : Gh) (h0 h1 : Nat) (hown : s.vm.findClass RL = some m.cls) (hts : ∀ w ∈ wsL_law, w.before #[Value.ref b] s = true) (hE : ct_E D (ct_T cI cJ cB cZ cO) G s) (hH : ct_H G A s s.heap) (hL : L ≤ 3072) (i : Nat) (hi : i + 6 ≤ L) (wx wm : va_W) (hX0 : XOK cI cJ cB cZ cO g h0 wx) (hM0 : MOK cI cJ cB cZ cO g h1 wm) {H : Heap} {locs : List Loc} (hP : va_P D vwCl (wx ++ wm) H) (hD : va_D A (wx ++ wm)) (hS : va_S A s.heap H locs) {ls : Array Slot} (hl : lv_has ls 4 [(3, .int (nI i)), (2, .ref h1), (1, .ref h0), (0, .ref b)]) (kk : ∀ (g : Gh) (wx wm : va_W) (H : Heap) (locs : List Loc) (ls : Array Slot), XOK cI cJ cB cZ cO g h0 wx → MOK cI cJ cB cZ cO g h1 wm → va_P D vwCl (wx ++ wm) H → va_D A (wx ++ wm) → va_S A s.heap H locs → lv_has ls 4 [(3, .int (nI i)), (2, .ref h1), (1, .ref h0), (0, .ref b)] → W p l e room_1 s m #[Value.ref b] below meth c H locs 107 36842 (lw_Z below #[Value.ref b] s) (F0 m 2162 ls [])) : W p l e room_1 s m #[Value.ref b] below meth c H locs 107 36842 (lw_Z below #[Value.ref b] s) (F0 m 451 ls []) := by
  have hK := hE.1
  have hni : (nI i).toInt = (i : Int) := nI_toInt (by omega)
  refine lv_aload_n hx hb dL_law_451 rfl (lv_at hl 2 rfl) ?_
  refine lv_aload_n hx hb dL_law_452 rfl (lv_at hl 3 rfl) ?_
  refine lv_iload_n hx hb dL_law_453 rfl (lv_at hl 0 rfl) ?_
  refine lv_iconst (v := 1) hx hb dL_law_454 (by decide) ?_
  refine lv_iadd hx hb dL_law_455 ?_
  refine lv_topi (fun z1 ez1 => ?_)
  have fz1 : z1.toInt = (nI i).toInt + 1 := by rw [ez1]; exact tq_add rfl (by decide) (by omega)
  refine va_sld hx hb hX hbl hbA hS (tq_in rfl (by omega)) dL_law_456 ?_
  refine lv_topi (fun z2 ez2 => ?_)
  refine ct_callAi (D := D) (wx := wx) (wm := wm) (va_runV (As := [.int z2]) (rest := []) ⟨hx, hb, hml, hown, hts⟩ (k_X11_answers l D G cI cJ cB cZ cO g h0 wx hX0 z2 H.size) (cwV 1 hts gL_law_X11_answers rfl rfl rfl (by decide +kernel) ⟨Nat.le_of_ble_eq_true rfl, Nat.le_of_ble_eq_true rfl⟩) (ct_preA (T := ct_T cI cJ cB cZ cO) (ci := 11) hE hH hP hD hS hA (XOK_at hX0) rfl) rfl rfl hl.1 rfl (lv_room (Nat.le_of_ble_eq_true rfl)) dL_law_457 ⟨Nat.le_of_ble_eq_true rfl, Nat.le_of_ble_eq_true rfl⟩) hP hD hS hA (fun r3 w4 H locs hw hP hD hS => ?_)
  obtain ⟨hk5, hz6⟩ := hw
  refine lv_pop hx hb dL_law_460 rfl ?_
  refine lv_aload_n hx hb dL_law_461 rfl (lv_at hl 1 rfl) ?_
  refine lv_aload_n hx hb dL_law_462 rfl (lv_at hl 3 rfl) ?_
  refine lv_iload_n hx hb dL_law_463 rfl (lv_at hl 0 rfl) ?_
  refine lv_iconst (v := 1) hx hb dL_law_464 (by decide) ?_
  refine lv_iadd hx hb dL_law_465 ?_
  refine lv_topi (fun z7 ez7 => ?_)
  have fz7 : z7.toInt = (nI i).toInt + 1 := by rw [ez7]; exact tq_add rfl (by decide) (by omega)
  refine va_sld hx hb hX hbl hbA hS (tq_in rfl (by omega)) dL_law_466 ?_
  refine lv_topi (fun z8 ez8 => ?_)
  refine ct_callAi (D := D) (wx := wm) (wm := w4) (va_runV (As := [.int z8]) (rest := []) ⟨hx, hb, hml, hown, hts⟩ (k_X12_answers l D G cI cJ cB cZ cO g h1 wm hM0 z8 H.size) (cwV 1 hts gL_law_X12_answers rfl rfl rfl (by decide +kernel) ⟨Nat.le_of_ble_eq_true rfl, Nat.le_of_ble_eq_true rfl⟩) (ct_preA (T := ct_T cI cJ cB cZ cO) (ci := 12) hE hH hP hD hS hA (MOK_at hM0) rfl) rfl rfl hl.1 rfl (lv_room (Nat.le_of_ble_eq_true rfl)) dL_law_467 ⟨Nat.le_of_ble_eq_true rfl, Nat.le_of_ble_eq_true rfl⟩) hP hD hS hA (fun r9 w10 H locs hw hP hD hS => ?_)
  obtain ⟨hk11, hz12⟩ := hw
  refine lv_pop hx hb dL_law_470 rfl ?_
  refine lv_goto (tgt := 2162) hx hb dL_law_471 (by decide) ?_
  exact kk _ w4 w10 H locs ls hk5 hk11 hP hD hS (lv_sub hl [0, 1, 2, 3] rfl)
set_option maxHeartbeats 8000000 in
set_option maxRecDepth 100000 in
theorem law_c6 {p : Program} {l : Launch} {e : Env} {s : State} {m : MethodId} {below : List Frame} {meth : Method} {c : Code} {A : Nat → Prop} {b L : Nat} {xs : Nat → Int32} (hx : p.tables.exec = Jvm.exec) (hb : c.code = code) (hml : c.maxLocals = 4) (hr : meth.sig.returnType = ret) (hlocks : meth.locks = false) (hX : va_X b L xs s s.heap) (hbl : b < s.heap.size) (hbA : ¬ A b) (hA : ∀ q : Nat, s.heap.size ≤ q → A q) (hAf : ∀ q : Nat, A q → s.heap.size ≤ q) (D : va_G) (G : ct_G) (cI cJ cB cZ cO : ClassId) (g : Gh) (h0 h1 : Nat) (hown : s.vm.findClass RL = some m.cls) (hts : ∀ w ∈ wsL_law, w.before #[Value.ref b] s = true) (hE : ct_E D (ct_T cI cJ cB cZ cO) G s) (hH : ct_H G A s s.heap) (hL : L ≤ 3072) (i : Nat) (hi : i + 6 ≤ L) (wx wm : va_W) (hX0 : XOK cI cJ cB cZ cO g h0 wx) (hM0 : MOK cI cJ cB cZ cO g h1 wm) {H : Heap} {locs : List Loc} (hP : va_P D vwCl (wx ++ wm) H) (hD : va_D A (wx ++ wm)) (hS : va_S A s.heap H locs) {ls : Array Slot} (hl : lv_has ls 4 [(3, .int (nI i)), (2, .ref h1), (1, .ref h0), (0, .ref b)]) (kk : ∀ (g : Gh) (wx wm : va_W) (H : Heap) (locs : List Loc) (ls : Array Slot), XOK cI cJ cB cZ cO g h0 wx → MOK cI cJ cB cZ cO g h1 wm → va_P D vwCl (wx ++ wm) H → va_D A (wx ++ wm) → va_S A s.heap H locs → lv_has ls 4 [(3, .int (nI i)), (2, .ref h1), (1, .ref h0), (0, .ref b)] → W p l e room_1 s m #[Value.ref b] below meth c H locs 107 36842 (lw_Z below #[Value.ref b] s) (F0 m 2162 ls [])) : W p l e room_1 s m #[Value.ref b] below meth c H locs 107 36842 (lw_Z below #[Value.ref b] s) (F0 m 474 ls []) := by
  have hK := hE.1
  have hni : (nI i).toInt = (i : Int) := nI_toInt (by omega)
  refine lv_aload_n hx hb dL_law_474 rfl (lv_at hl 2 rfl) ?_
  refine lv_aload_n hx hb dL_law_475 rfl (lv_at hl 3 rfl) ?_
  refine lv_iload_n hx hb dL_law_476 rfl (lv_at hl 0 rfl) ?_
  refine lv_iconst (v := 1) hx hb dL_law_477 (by decide) ?_
  refine lv_iadd hx hb dL_law_478 ?_
  refine lv_topi (fun z1 ez1 => ?_)
  have fz1 : z1.toInt = (nI i).toInt + 1 := by rw [ez1]; exact tq_add rfl (by decide) (by omega)
  refine va_sld hx hb hX hbl hbA hS (tq_in rfl (by omega)) dL_law_479 ?_
  refine lv_topi (fun z2 ez2 => ?_)
  refine lv_aload_n hx hb dL_law_480 rfl (lv_at hl 3 rfl) ?_
  refine lv_iload_n hx hb dL_law_481 rfl (lv_at hl 0 rfl) ?_
  refine lv_iconst (v := 2) hx hb dL_law_482 (by decide) ?_
  refine lv_iadd hx hb dL_law_483 ?_
  refine lv_topi (fun z3 ez3 => ?_)
  have fz3 : z3.toInt = (nI i).toInt + 2 := by rw [ez3]; exact tq_add rfl (by decide) (by omega)
  refine va_sld hx hb hX hbl hbA hS (tq_in rfl (by omega)) dL_law_484 ?_
  refine lv_topi (fun z4 ez4 => ?_)
  refine ct_callAi (D := D) (wx := wx) (wm := wm) (va_runV (As := [.int z2, .int z4]) (rest := []) ⟨hx, hb, hml, hown, hts⟩ (k_X11_stumbled l D G cI cJ cB cZ cO g h0 wx hX0 z2 z4 H.size) (cwV 2 hts gL_law_X11_stumbled rfl rfl rfl (by decide +kernel) ⟨Nat.le_of_ble_eq_true rfl, Nat.le_of_ble_eq_true rfl⟩) (ct_preA (T := ct_T cI cJ cB cZ cO) (ci := 11) hE hH hP hD hS hA (XOK_at hX0) rfl) rfl rfl hl.1 rfl (lv_room (Nat.le_of_ble_eq_true rfl)) dL_law_485 ⟨Nat.le_of_ble_eq_true rfl, Nat.le_of_ble_eq_true rfl⟩) hP hD hS hA (fun r5 w6 H locs hw hP hD hS => ?_)
  obtain ⟨hk7, hz8⟩ := hw
  refine lv_pop hx hb dL_law_488 rfl ?_
  refine lv_aload_n hx hb dL_law_489 rfl (lv_at hl 1 rfl) ?_
  refine lv_aload_n hx hb dL_law_490 rfl (lv_at hl 3 rfl) ?_
  refine lv_iload_n hx hb dL_law_491 rfl (lv_at hl 0 rfl) ?_
  refine lv_iconst (v := 1) hx hb dL_law_492 (by decide) ?_
  refine lv_iadd hx hb dL_law_493 ?_
  refine lv_topi (fun z9 ez9 => ?_)
  have fz9 : z9.toInt = (nI i).toInt + 1 := by rw [ez9]; exact tq_add rfl (by decide) (by omega)
  refine va_sld hx hb hX hbl hbA hS (tq_in rfl (by omega)) dL_law_494 ?_
  refine lv_topi (fun z10 ez10 => ?_)
  refine lv_aload_n hx hb dL_law_495 rfl (lv_at hl 3 rfl) ?_
  refine lv_iload_n hx hb dL_law_496 rfl (lv_at hl 0 rfl) ?_
  refine lv_iconst (v := 2) hx hb dL_law_497 (by decide) ?_
  refine lv_iadd hx hb dL_law_498 ?_
  refine lv_topi (fun z11 ez11 => ?_)
  have fz11 : z11.toInt = (nI i).toInt + 2 := by rw [ez11]; exact tq_add rfl (by decide) (by omega)
  refine va_sld hx hb hX hbl hbA hS (tq_in rfl (by omega)) dL_law_499 ?_
  refine lv_topi (fun z12 ez12 => ?_)
  refine ct_callAi (D := D) (wx := wm) (wm := w6) (va_runV (As := [.int z10, .int z12]) (rest := []) ⟨hx, hb, hml, hown, hts⟩ (k_X12_stumbled l D G cI cJ cB cZ cO g h1 wm hM0 z10 z12 H.size) (cwV 2 hts gL_law_X12_stumbled rfl rfl rfl (by decide +kernel) ⟨Nat.le_of_ble_eq_true rfl, Nat.le_of_ble_eq_true rfl⟩) (ct_preA (T := ct_T cI cJ cB cZ cO) (ci := 12) hE hH hP hD hS hA (MOK_at hM0) rfl) rfl rfl hl.1 rfl (lv_room (Nat.le_of_ble_eq_true rfl)) dL_law_500 ⟨Nat.le_of_ble_eq_true rfl, Nat.le_of_ble_eq_true rfl⟩) hP hD hS hA (fun r13 w14 H locs hw hP hD hS => ?_)
  obtain ⟨hk15, hz16⟩ := hw
  refine lv_pop hx hb dL_law_503 rfl ?_
  refine lv_goto (tgt := 2162) hx hb dL_law_504 (by decide) ?_
  exact kk _ w6 w14 H locs ls hk7 hk15 hP hD hS (lv_sub hl [0, 1, 2, 3] rfl)
set_option maxHeartbeats 8000000 in
set_option maxRecDepth 100000 in
theorem law_c7 {p : Program} {l : Launch} {e : Env} {s : State} {m : MethodId} {below : List Frame} {meth : Method} {c : Code} {A : Nat → Prop} {b L : Nat} {xs : Nat → Int32} (hx : p.tables.exec = Jvm.exec) (hb : c.code = code) (hml : c.maxLocals = 4) (hr : meth.sig.returnType = ret) (hlocks : meth.locks = false) (hX : va_X b L xs s s.heap) (hbl : b < s.heap.size) (hbA : ¬ A b) (hA : ∀ q : Nat, s.heap.size ≤ q → A q) (hAf : ∀ q : Nat, A q → s.heap.size ≤ q) (D : va_G) (G : ct_G) (cI cJ cB cZ cO : ClassId) (g : Gh) (h0 h1 : Nat) (hown : s.vm.findClass RL = some m.cls) (hts : ∀ w ∈ wsL_law, w.before #[Value.ref b] s = true) (hE : ct_E D (ct_T cI cJ cB cZ cO) G s) (hH : ct_H G A s s.heap) (hL : L ≤ 3072) (i : Nat) (hi : i + 6 ≤ L) (wx wm : va_W) (hX0 : XOK cI cJ cB cZ cO g h0 wx) (hM0 : MOK cI cJ cB cZ cO g h1 wm) {H : Heap} {locs : List Loc} (hP : va_P D vwCl (wx ++ wm) H) (hD : va_D A (wx ++ wm)) (hS : va_S A s.heap H locs) {ls : Array Slot} (hl : lv_has ls 4 [(3, .int (nI i)), (2, .ref h1), (1, .ref h0), (0, .ref b)]) (kk : ∀ (g : Gh) (wx wm : va_W) (H : Heap) (locs : List Loc) (ls : Array Slot), XOK cI cJ cB cZ cO g h0 wx → MOK cI cJ cB cZ cO g h1 wm → va_P D vwCl (wx ++ wm) H → va_D A (wx ++ wm) → va_S A s.heap H locs → lv_has ls 4 [(3, .int (nI i)), (2, .ref h1), (1, .ref h0), (0, .ref b)] → W p l e room_1 s m #[Value.ref b] below meth c H locs 107 36842 (lw_Z below #[Value.ref b] s) (F0 m 2162 ls [])) : W p l e room_1 s m #[Value.ref b] below meth c H locs 107 36842 (lw_Z below #[Value.ref b] s) (F0 m 507 ls []) := by
  have hK := hE.1
  have hni : (nI i).toInt = (i : Int) := nI_toInt (by omega)
  refine lv_aload_n hx hb dL_law_507 rfl (lv_at hl 2 rfl) ?_
  refine lv_aload_n hx hb dL_law_508 rfl (lv_at hl 3 rfl) ?_
  refine lv_iload_n hx hb dL_law_509 rfl (lv_at hl 0 rfl) ?_
  refine lv_iconst (v := 1) hx hb dL_law_510 (by decide) ?_
  refine lv_iadd hx hb dL_law_511 ?_
  refine lv_topi (fun z1 ez1 => ?_)
  have fz1 : z1.toInt = (nI i).toInt + 1 := by rw [ez1]; exact tq_add rfl (by decide) (by omega)
  refine va_sld hx hb hX hbl hbA hS (tq_in rfl (by omega)) dL_law_512 ?_
  refine lv_topi (fun z2 ez2 => ?_)
  refine ct_callAi (D := D) (wx := wx) (wm := wm) (va_runV (As := [.int z2]) (rest := []) ⟨hx, hb, hml, hown, hts⟩ (k_X11_muddy l D G cI cJ cB cZ cO g h0 wx hX0 z2 H.size) (cwV 1 hts gL_law_X11_muddy rfl rfl rfl (by decide +kernel) ⟨Nat.le_of_ble_eq_true rfl, Nat.le_of_ble_eq_true rfl⟩) (ct_preA (T := ct_T cI cJ cB cZ cO) (ci := 11) hE hH hP hD hS hA (XOK_at hX0) rfl) rfl rfl hl.1 rfl (lv_room (Nat.le_of_ble_eq_true rfl)) dL_law_513 ⟨Nat.le_of_ble_eq_true rfl, Nat.le_of_ble_eq_true rfl⟩) hP hD hS hA (fun r3 w4 H locs hw hP hD hS => ?_)
  obtain ⟨hk5, hz6⟩ := hw
  refine lv_pop hx hb dL_law_516 rfl ?_
  refine lv_aload_n hx hb dL_law_517 rfl (lv_at hl 1 rfl) ?_
  refine lv_aload_n hx hb dL_law_518 rfl (lv_at hl 3 rfl) ?_
  refine lv_iload_n hx hb dL_law_519 rfl (lv_at hl 0 rfl) ?_
  refine lv_iconst (v := 1) hx hb dL_law_520 (by decide) ?_
  refine lv_iadd hx hb dL_law_521 ?_
  refine lv_topi (fun z7 ez7 => ?_)
  have fz7 : z7.toInt = (nI i).toInt + 1 := by rw [ez7]; exact tq_add rfl (by decide) (by omega)
  refine va_sld hx hb hX hbl hbA hS (tq_in rfl (by omega)) dL_law_522 ?_
  refine lv_topi (fun z8 ez8 => ?_)
  refine ct_callAi (D := D) (wx := wm) (wm := w4) (va_runV (As := [.int z8]) (rest := []) ⟨hx, hb, hml, hown, hts⟩ (k_X12_muddy l D G cI cJ cB cZ cO g h1 wm hM0 z8 H.size) (cwV 1 hts gL_law_X12_muddy rfl rfl rfl (by decide +kernel) ⟨Nat.le_of_ble_eq_true rfl, Nat.le_of_ble_eq_true rfl⟩) (ct_preA (T := ct_T cI cJ cB cZ cO) (ci := 12) hE hH hP hD hS hA (MOK_at hM0) rfl) rfl rfl hl.1 rfl (lv_room (Nat.le_of_ble_eq_true rfl)) dL_law_523 ⟨Nat.le_of_ble_eq_true rfl, Nat.le_of_ble_eq_true rfl⟩) hP hD hS hA (fun r9 w10 H locs hw hP hD hS => ?_)
  obtain ⟨hk11, hz12⟩ := hw
  refine lv_pop hx hb dL_law_526 rfl ?_
  refine lv_goto (tgt := 2162) hx hb dL_law_527 (by decide) ?_
  exact kk _ w4 w10 H locs ls hk5 hk11 hP hD hS (lv_sub hl [0, 1, 2, 3] rfl)
set_option maxHeartbeats 8000000 in
set_option maxRecDepth 100000 in
theorem law_c8 {p : Program} {l : Launch} {e : Env} {s : State} {m : MethodId} {below : List Frame} {meth : Method} {c : Code} {A : Nat → Prop} {b L : Nat} {xs : Nat → Int32} (hx : p.tables.exec = Jvm.exec) (hb : c.code = code) (hml : c.maxLocals = 4) (hr : meth.sig.returnType = ret) (hlocks : meth.locks = false) (hX : va_X b L xs s s.heap) (hbl : b < s.heap.size) (hbA : ¬ A b) (hA : ∀ q : Nat, s.heap.size ≤ q → A q) (hAf : ∀ q : Nat, A q → s.heap.size ≤ q) (D : va_G) (G : ct_G) (cI cJ cB cZ cO : ClassId) (g : Gh) (h0 h1 : Nat) (hown : s.vm.findClass RL = some m.cls) (hts : ∀ w ∈ wsL_law, w.before #[Value.ref b] s = true) (hE : ct_E D (ct_T cI cJ cB cZ cO) G s) (hH : ct_H G A s s.heap) (hL : L ≤ 3072) (i : Nat) (hi : i + 6 ≤ L) (wx wm : va_W) (hX0 : XOK cI cJ cB cZ cO g h0 wx) (hM0 : MOK cI cJ cB cZ cO g h1 wm) {H : Heap} {locs : List Loc} (hP : va_P D vwCl (wx ++ wm) H) (hD : va_D A (wx ++ wm)) (hS : va_S A s.heap H locs) {ls : Array Slot} (hl : lv_has ls 4 [(3, .int (nI i)), (2, .ref h1), (1, .ref h0), (0, .ref b)]) (kk : ∀ (g : Gh) (wx wm : va_W) (H : Heap) (locs : List Loc) (ls : Array Slot), XOK cI cJ cB cZ cO g h0 wx → MOK cI cJ cB cZ cO g h1 wm → va_P D vwCl (wx ++ wm) H → va_D A (wx ++ wm) → va_S A s.heap H locs → lv_has ls 4 [(3, .int (nI i)), (2, .ref h1), (1, .ref h0), (0, .ref b)] → W p l e room_1 s m #[Value.ref b] below meth c H locs 107 36842 (lw_Z below #[Value.ref b] s) (F0 m 2162 ls [])) : W p l e room_1 s m #[Value.ref b] below meth c H locs 107 36842 (lw_Z below #[Value.ref b] s) (F0 m 530 ls []) := by
  have hK := hE.1
  have hni : (nI i).toInt = (i : Int) := nI_toInt (by omega)
  refine lv_aload_n hx hb dL_law_530 rfl (lv_at hl 2 rfl) ?_
  refine lv_aload_n hx hb dL_law_531 rfl (lv_at hl 3 rfl) ?_
  refine lv_iload_n hx hb dL_law_532 rfl (lv_at hl 0 rfl) ?_
  refine lv_iconst (v := 1) hx hb dL_law_533 (by decide) ?_
  refine lv_iadd hx hb dL_law_534 ?_
  refine lv_topi (fun z1 ez1 => ?_)
  have fz1 : z1.toInt = (nI i).toInt + 1 := by rw [ez1]; exact tq_add rfl (by decide) (by omega)
  refine va_sld hx hb hX hbl hbA hS (tq_in rfl (by omega)) dL_law_535 ?_
  refine lv_topi (fun z2 ez2 => ?_)
  refine lv_aload_n hx hb dL_law_536 rfl (lv_at hl 3 rfl) ?_
  refine lv_iload_n hx hb dL_law_537 rfl (lv_at hl 0 rfl) ?_
  refine lv_iconst (v := 2) hx hb dL_law_538 (by decide) ?_
  refine lv_iadd hx hb dL_law_539 ?_
  refine lv_topi (fun z3 ez3 => ?_)
  have fz3 : z3.toInt = (nI i).toInt + 2 := by rw [ez3]; exact tq_add rfl (by decide) (by omega)
  refine va_sld hx hb hX hbl hbA hS (tq_in rfl (by omega)) dL_law_540 ?_
  refine lv_topi (fun z4 ez4 => ?_)
  refine ct_callAi (D := D) (wx := wx) (wm := wm) (va_runV (As := [.int z2, .int z4]) (rest := []) ⟨hx, hb, hml, hown, hts⟩ (k_X11_place l D G cI cJ cB cZ cO g h0 wx hX0 z2 z4 H.size) (cwV 2 hts gL_law_X11_place rfl rfl rfl (by decide +kernel) ⟨Nat.le_of_ble_eq_true rfl, Nat.le_of_ble_eq_true rfl⟩) (ct_preA (T := ct_T cI cJ cB cZ cO) (ci := 11) hE hH hP hD hS hA (XOK_at hX0) rfl) rfl rfl hl.1 rfl (lv_room (Nat.le_of_ble_eq_true rfl)) dL_law_541 ⟨Nat.le_of_ble_eq_true rfl, Nat.le_of_ble_eq_true rfl⟩) hP hD hS hA (fun r5 w6 H locs hw hP hD hS => ?_)
  obtain ⟨hk7, hz8⟩ := hw
  refine lv_pop hx hb dL_law_544 rfl ?_
  refine lv_aload_n hx hb dL_law_545 rfl (lv_at hl 1 rfl) ?_
  refine lv_aload_n hx hb dL_law_546 rfl (lv_at hl 3 rfl) ?_
  refine lv_iload_n hx hb dL_law_547 rfl (lv_at hl 0 rfl) ?_
  refine lv_iconst (v := 1) hx hb dL_law_548 (by decide) ?_
  refine lv_iadd hx hb dL_law_549 ?_
  refine lv_topi (fun z9 ez9 => ?_)
  have fz9 : z9.toInt = (nI i).toInt + 1 := by rw [ez9]; exact tq_add rfl (by decide) (by omega)
  refine va_sld hx hb hX hbl hbA hS (tq_in rfl (by omega)) dL_law_550 ?_
  refine lv_topi (fun z10 ez10 => ?_)
  refine lv_aload_n hx hb dL_law_551 rfl (lv_at hl 3 rfl) ?_
  refine lv_iload_n hx hb dL_law_552 rfl (lv_at hl 0 rfl) ?_
  refine lv_iconst (v := 2) hx hb dL_law_553 (by decide) ?_
  refine lv_iadd hx hb dL_law_554 ?_
  refine lv_topi (fun z11 ez11 => ?_)
  have fz11 : z11.toInt = (nI i).toInt + 2 := by rw [ez11]; exact tq_add rfl (by decide) (by omega)
  refine va_sld hx hb hX hbl hbA hS (tq_in rfl (by omega)) dL_law_555 ?_
  refine lv_topi (fun z12 ez12 => ?_)
  refine ct_callAi (D := D) (wx := wm) (wm := w6) (va_runV (As := [.int z10, .int z12]) (rest := []) ⟨hx, hb, hml, hown, hts⟩ (k_X12_place l D G cI cJ cB cZ cO g h1 wm hM0 z10 z12 H.size) (cwV 2 hts gL_law_X12_place rfl rfl rfl (by decide +kernel) ⟨Nat.le_of_ble_eq_true rfl, Nat.le_of_ble_eq_true rfl⟩) (ct_preA (T := ct_T cI cJ cB cZ cO) (ci := 12) hE hH hP hD hS hA (MOK_at hM0) rfl) rfl rfl hl.1 rfl (lv_room (Nat.le_of_ble_eq_true rfl)) dL_law_556 ⟨Nat.le_of_ble_eq_true rfl, Nat.le_of_ble_eq_true rfl⟩) hP hD hS hA (fun r13 w14 H locs hw hP hD hS => ?_)
  obtain ⟨hk15, hz16⟩ := hw
  refine lv_pop hx hb dL_law_559 rfl ?_
  refine lv_goto (tgt := 2162) hx hb dL_law_560 (by decide) ?_
  exact kk _ w6 w14 H locs ls hk7 hk15 hP hD hS (lv_sub hl [0, 1, 2, 3] rfl)
set_option maxHeartbeats 8000000 in
set_option maxRecDepth 100000 in
theorem law_c9 {p : Program} {l : Launch} {e : Env} {s : State} {m : MethodId} {below : List Frame} {meth : Method} {c : Code} {A : Nat → Prop} {b L : Nat} {xs : Nat → Int32} (hx : p.tables.exec = Jvm.exec) (hb : c.code = code) (hml : c.maxLocals = 4) (hr : meth.sig.returnType = ret) (hlocks : meth.locks = false) (hX : va_X b L xs s s.heap) (hbl : b < s.heap.size) (hbA : ¬ A b) (hA : ∀ q : Nat, s.heap.size ≤ q → A q) (hAf : ∀ q : Nat, A q → s.heap.size ≤ q) (D : va_G) (G : ct_G) (cI cJ cB cZ cO : ClassId) (g : Gh) (h0 h1 : Nat) (hown : s.vm.findClass RL = some m.cls) (hts : ∀ w ∈ wsL_law, w.before #[Value.ref b] s = true) (hE : ct_E D (ct_T cI cJ cB cZ cO) G s) (hH : ct_H G A s s.heap) (hL : L ≤ 3072) (i : Nat) (hi : i + 6 ≤ L) (wx wm : va_W) (hX0 : XOK cI cJ cB cZ cO g h0 wx) (hM0 : MOK cI cJ cB cZ cO g h1 wm) {H : Heap} {locs : List Loc} (hP : va_P D vwCl (wx ++ wm) H) (hD : va_D A (wx ++ wm)) (hS : va_S A s.heap H locs) {ls : Array Slot} (hl : lv_has ls 4 [(3, .int (nI i)), (2, .ref h1), (1, .ref h0), (0, .ref b)]) (kk : ∀ (g : Gh) (wx wm : va_W) (H : Heap) (locs : List Loc) (ls : Array Slot), XOK cI cJ cB cZ cO g h0 wx → MOK cI cJ cB cZ cO g h1 wm → va_P D vwCl (wx ++ wm) H → va_D A (wx ++ wm) → va_S A s.heap H locs → lv_has ls 4 [(3, .int (nI i)), (2, .ref h1), (1, .ref h0), (0, .ref b)] → W p l e room_1 s m #[Value.ref b] below meth c H locs 107 36842 (lw_Z below #[Value.ref b] s) (F0 m 2162 ls [])) : W p l e room_1 s m #[Value.ref b] below meth c H locs 107 36842 (lw_Z below #[Value.ref b] s) (F0 m 563 ls []) := by
  have hK := hE.1
  have hni : (nI i).toInt = (i : Int) := nI_toInt (by omega)
  refine lv_aload_n hx hb dL_law_563 rfl (lv_at hl 2 rfl) ?_
  refine lv_aload_n hx hb dL_law_564 rfl (lv_at hl 3 rfl) ?_
  refine lv_iload_n hx hb dL_law_565 rfl (lv_at hl 0 rfl) ?_
  refine lv_iconst (v := 1) hx hb dL_law_566 (by decide) ?_
  refine lv_iadd hx hb dL_law_567 ?_
  refine lv_topi (fun z1 ez1 => ?_)
  have fz1 : z1.toInt = (nI i).toInt + 1 := by rw [ez1]; exact tq_add rfl (by decide) (by omega)
  refine va_sld hx hb hX hbl hbA hS (tq_in rfl (by omega)) dL_law_568 ?_
  refine lv_topi (fun z2 ez2 => ?_)
  refine lv_aload_n hx hb dL_law_569 rfl (lv_at hl 3 rfl) ?_
  refine lv_iload_n hx hb dL_law_570 rfl (lv_at hl 0 rfl) ?_
  refine lv_iconst (v := 2) hx hb dL_law_571 (by decide) ?_
  refine lv_iadd hx hb dL_law_572 ?_
  refine lv_topi (fun z3 ez3 => ?_)
  have fz3 : z3.toInt = (nI i).toInt + 2 := by rw [ez3]; exact tq_add rfl (by decide) (by omega)
  refine va_sld hx hb hX hbl hbA hS (tq_in rfl (by omega)) dL_law_573 ?_
  refine lv_topi (fun z4 ez4 => ?_)
  refine ct_callAi (D := D) (wx := wx) (wm := wm) (va_runV (As := [.int z2, .int z4]) (rest := []) ⟨hx, hb, hml, hown, hts⟩ (k_X11_danced l D G cI cJ cB cZ cO g h0 wx hX0 z2 z4 H.size) (cwV 2 hts gL_law_X11_danced rfl rfl rfl (by decide +kernel) ⟨Nat.le_of_ble_eq_true rfl, Nat.le_of_ble_eq_true rfl⟩) (ct_preA (T := ct_T cI cJ cB cZ cO) (ci := 11) hE hH hP hD hS hA (XOK_at hX0) rfl) rfl rfl hl.1 rfl (lv_room (Nat.le_of_ble_eq_true rfl)) dL_law_574 ⟨Nat.le_of_ble_eq_true rfl, Nat.le_of_ble_eq_true rfl⟩) hP hD hS hA (fun r5 w6 H locs hw hP hD hS => ?_)
  obtain ⟨hk7, hz8⟩ := hw
  refine lv_pop hx hb dL_law_577 rfl ?_
  refine lv_aload_n hx hb dL_law_578 rfl (lv_at hl 1 rfl) ?_
  refine lv_aload_n hx hb dL_law_579 rfl (lv_at hl 3 rfl) ?_
  refine lv_iload_n hx hb dL_law_580 rfl (lv_at hl 0 rfl) ?_
  refine lv_iconst (v := 1) hx hb dL_law_581 (by decide) ?_
  refine lv_iadd hx hb dL_law_582 ?_
  refine lv_topi (fun z9 ez9 => ?_)
  have fz9 : z9.toInt = (nI i).toInt + 1 := by rw [ez9]; exact tq_add rfl (by decide) (by omega)
  refine va_sld hx hb hX hbl hbA hS (tq_in rfl (by omega)) dL_law_583 ?_
  refine lv_topi (fun z10 ez10 => ?_)
  refine lv_aload_n hx hb dL_law_584 rfl (lv_at hl 3 rfl) ?_
  refine lv_iload_n hx hb dL_law_585 rfl (lv_at hl 0 rfl) ?_
  refine lv_iconst (v := 2) hx hb dL_law_586 (by decide) ?_
  refine lv_iadd hx hb dL_law_587 ?_
  refine lv_topi (fun z11 ez11 => ?_)
  have fz11 : z11.toInt = (nI i).toInt + 2 := by rw [ez11]; exact tq_add rfl (by decide) (by omega)
  refine va_sld hx hb hX hbl hbA hS (tq_in rfl (by omega)) dL_law_588 ?_
  refine lv_topi (fun z12 ez12 => ?_)
  refine ct_callAi (D := D) (wx := wm) (wm := w6) (va_runV (As := [.int z10, .int z12]) (rest := []) ⟨hx, hb, hml, hown, hts⟩ (k_X12_danced l D G cI cJ cB cZ cO g h1 wm hM0 z10 z12 H.size) (cwV 2 hts gL_law_X12_danced rfl rfl rfl (by decide +kernel) ⟨Nat.le_of_ble_eq_true rfl, Nat.le_of_ble_eq_true rfl⟩) (ct_preA (T := ct_T cI cJ cB cZ cO) (ci := 12) hE hH hP hD hS hA (MOK_at hM0) rfl) rfl rfl hl.1 rfl (lv_room (Nat.le_of_ble_eq_true rfl)) dL_law_589 ⟨Nat.le_of_ble_eq_true rfl, Nat.le_of_ble_eq_true rfl⟩) hP hD hS hA (fun r13 w14 H locs hw hP hD hS => ?_)
  obtain ⟨hk15, hz16⟩ := hw
  refine lv_pop hx hb dL_law_592 rfl ?_
  refine lv_goto (tgt := 2162) hx hb dL_law_593 (by decide) ?_
  exact kk _ w6 w14 H locs ls hk7 hk15 hP hD hS (lv_sub hl [0, 1, 2, 3] rfl)
set_option maxHeartbeats 8000000 in
set_option maxRecDepth 100000 in
theorem law_c10 {p : Program} {l : Launch} {e : Env} {s : State} {m : MethodId} {below : List Frame} {meth : Method} {c : Code} {A : Nat → Prop} {b L : Nat} {xs : Nat → Int32} (hx : p.tables.exec = Jvm.exec) (hb : c.code = code) (hml : c.maxLocals = 4) (hr : meth.sig.returnType = ret) (hlocks : meth.locks = false) (hX : va_X b L xs s s.heap) (hbl : b < s.heap.size) (hbA : ¬ A b) (hA : ∀ q : Nat, s.heap.size ≤ q → A q) (hAf : ∀ q : Nat, A q → s.heap.size ≤ q) (D : va_G) (G : ct_G) (cI cJ cB cZ cO : ClassId) (g : Gh) (h0 h1 : Nat) (hown : s.vm.findClass RL = some m.cls) (hts : ∀ w ∈ wsL_law, w.before #[Value.ref b] s = true) (hE : ct_E D (ct_T cI cJ cB cZ cO) G s) (hH : ct_H G A s s.heap) (hL : L ≤ 3072) (i : Nat) (hi : i + 6 ≤ L) (wx wm : va_W) (hX0 : XOK cI cJ cB cZ cO g h0 wx) (hM0 : MOK cI cJ cB cZ cO g h1 wm) {H : Heap} {locs : List Loc} (hP : va_P D vwCl (wx ++ wm) H) (hD : va_D A (wx ++ wm)) (hS : va_S A s.heap H locs) {ls : Array Slot} (hl : lv_has ls 4 [(3, .int (nI i)), (2, .ref h1), (1, .ref h0), (0, .ref b)]) (kk : ∀ (g : Gh) (wx wm : va_W) (H : Heap) (locs : List Loc) (ls : Array Slot), XOK cI cJ cB cZ cO g h0 wx → MOK cI cJ cB cZ cO g h1 wm → va_P D vwCl (wx ++ wm) H → va_D A (wx ++ wm) → va_S A s.heap H locs → lv_has ls 4 [(3, .int (nI i)), (2, .ref h1), (1, .ref h0), (0, .ref b)] → W p l e room_1 s m #[Value.ref b] below meth c H locs 107 36842 (lw_Z below #[Value.ref b] s) (F0 m 2162 ls [])) : W p l e room_1 s m #[Value.ref b] below meth c H locs 107 36842 (lw_Z below #[Value.ref b] s) (F0 m 596 ls []) := by
  have hK := hE.1
  have hni : (nI i).toInt = (i : Int) := nI_toInt (by omega)
  refine lv_aload_n hx hb dL_law_596 rfl (lv_at hl 2 rfl) ?_
  refine lv_aload_n hx hb dL_law_597 rfl (lv_at hl 3 rfl) ?_
  refine lv_iload_n hx hb dL_law_598 rfl (lv_at hl 0 rfl) ?_
  refine lv_iconst (v := 1) hx hb dL_law_599 (by decide) ?_
  refine lv_iadd hx hb dL_law_600 ?_
  refine lv_topi (fun z1 ez1 => ?_)
  have fz1 : z1.toInt = (nI i).toInt + 1 := by rw [ez1]; exact tq_add rfl (by decide) (by omega)
  refine va_sld hx hb hX hbl hbA hS (tq_in rfl (by omega)) dL_law_601 ?_
  refine lv_topi (fun z2 ez2 => ?_)
  refine lv_aload_n hx hb dL_law_602 rfl (lv_at hl 3 rfl) ?_
  refine lv_iload_n hx hb dL_law_603 rfl (lv_at hl 0 rfl) ?_
  refine lv_iconst (v := 2) hx hb dL_law_604 (by decide) ?_
  refine lv_iadd hx hb dL_law_605 ?_
  refine lv_topi (fun z3 ez3 => ?_)
  have fz3 : z3.toInt = (nI i).toInt + 2 := by rw [ez3]; exact tq_add rfl (by decide) (by omega)
  refine va_sld hx hb hX hbl hbA hS (tq_in rfl (by omega)) dL_law_606 ?_
  refine lv_topi (fun z4 ez4 => ?_)
  refine ct_callAi (D := D) (wx := wx) (wm := wm) (va_runV (As := [.int z2, .int z4]) (rest := []) ⟨hx, hb, hml, hown, hts⟩ (k_X11_hears l D G cI cJ cB cZ cO g h0 wx hX0 z2 z4 H.size) (cwV 2 hts gL_law_X11_hears rfl rfl rfl (by decide +kernel) ⟨Nat.le_of_ble_eq_true rfl, Nat.le_of_ble_eq_true rfl⟩) (ct_preA (T := ct_T cI cJ cB cZ cO) (ci := 11) hE hH hP hD hS hA (XOK_at hX0) rfl) rfl rfl hl.1 rfl (lv_room (Nat.le_of_ble_eq_true rfl)) dL_law_607 ⟨Nat.le_of_ble_eq_true rfl, Nat.le_of_ble_eq_true rfl⟩) hP hD hS hA (fun r5 w6 H locs hw hP hD hS => ?_)
  obtain ⟨hk7, hz8⟩ := hw
  refine lv_pop hx hb dL_law_610 rfl ?_
  refine lv_aload_n hx hb dL_law_611 rfl (lv_at hl 1 rfl) ?_
  refine lv_aload_n hx hb dL_law_612 rfl (lv_at hl 3 rfl) ?_
  refine lv_iload_n hx hb dL_law_613 rfl (lv_at hl 0 rfl) ?_
  refine lv_iconst (v := 1) hx hb dL_law_614 (by decide) ?_
  refine lv_iadd hx hb dL_law_615 ?_
  refine lv_topi (fun z9 ez9 => ?_)
  have fz9 : z9.toInt = (nI i).toInt + 1 := by rw [ez9]; exact tq_add rfl (by decide) (by omega)
  refine va_sld hx hb hX hbl hbA hS (tq_in rfl (by omega)) dL_law_616 ?_
  refine lv_topi (fun z10 ez10 => ?_)
  refine lv_aload_n hx hb dL_law_617 rfl (lv_at hl 3 rfl) ?_
  refine lv_iload_n hx hb dL_law_618 rfl (lv_at hl 0 rfl) ?_
  refine lv_iconst (v := 2) hx hb dL_law_619 (by decide) ?_
  refine lv_iadd hx hb dL_law_620 ?_
  refine lv_topi (fun z11 ez11 => ?_)
  have fz11 : z11.toInt = (nI i).toInt + 2 := by rw [ez11]; exact tq_add rfl (by decide) (by omega)
  refine va_sld hx hb hX hbl hbA hS (tq_in rfl (by omega)) dL_law_621 ?_
  refine lv_topi (fun z12 ez12 => ?_)
  refine ct_callAi (D := D) (wx := wm) (wm := w6) (va_runV (As := [.int z10, .int z12]) (rest := []) ⟨hx, hb, hml, hown, hts⟩ (k_X12_hears l D G cI cJ cB cZ cO g h1 wm hM0 z10 z12 H.size) (cwV 2 hts gL_law_X12_hears rfl rfl rfl (by decide +kernel) ⟨Nat.le_of_ble_eq_true rfl, Nat.le_of_ble_eq_true rfl⟩) (ct_preA (T := ct_T cI cJ cB cZ cO) (ci := 12) hE hH hP hD hS hA (MOK_at hM0) rfl) rfl rfl hl.1 rfl (lv_room (Nat.le_of_ble_eq_true rfl)) dL_law_622 ⟨Nat.le_of_ble_eq_true rfl, Nat.le_of_ble_eq_true rfl⟩) hP hD hS hA (fun r13 w14 H locs hw hP hD hS => ?_)
  obtain ⟨hk15, hz16⟩ := hw
  refine lv_pop hx hb dL_law_625 rfl ?_
  refine lv_goto (tgt := 2162) hx hb dL_law_626 (by decide) ?_
  exact kk _ w6 w14 H locs ls hk7 hk15 hP hD hS (lv_sub hl [0, 1, 2, 3] rfl)
set_option maxHeartbeats 8000000 in
set_option maxRecDepth 100000 in
theorem law_c11 {p : Program} {l : Launch} {e : Env} {s : State} {m : MethodId} {below : List Frame} {meth : Method} {c : Code} {A : Nat → Prop} {b L : Nat} {xs : Nat → Int32} (hx : p.tables.exec = Jvm.exec) (hb : c.code = code) (hml : c.maxLocals = 4) (hr : meth.sig.returnType = ret) (hlocks : meth.locks = false) (hX : va_X b L xs s s.heap) (hbl : b < s.heap.size) (hbA : ¬ A b) (hA : ∀ q : Nat, s.heap.size ≤ q → A q) (hAf : ∀ q : Nat, A q → s.heap.size ≤ q) (D : va_G) (G : ct_G) (cI cJ cB cZ cO : ClassId) (g : Gh) (h0 h1 : Nat) (hown : s.vm.findClass RL = some m.cls) (hts : ∀ w ∈ wsL_law, w.before #[Value.ref b] s = true) (hE : ct_E D (ct_T cI cJ cB cZ cO) G s) (hH : ct_H G A s s.heap) (hL : L ≤ 3072) (i : Nat) (hi : i + 6 ≤ L) (wx wm : va_W) (hX0 : XOK cI cJ cB cZ cO g h0 wx) (hM0 : MOK cI cJ cB cZ cO g h1 wm) {H : Heap} {locs : List Loc} (hP : va_P D vwCl (wx ++ wm) H) (hD : va_D A (wx ++ wm)) (hS : va_S A s.heap H locs) {ls : Array Slot} (hl : lv_has ls 4 [(3, .int (nI i)), (2, .ref h1), (1, .ref h0), (0, .ref b)]) (kk : ∀ (g : Gh) (wx wm : va_W) (H : Heap) (locs : List Loc) (ls : Array Slot), XOK cI cJ cB cZ cO g h0 wx → MOK cI cJ cB cZ cO g h1 wm → va_P D vwCl (wx ++ wm) H → va_D A (wx ++ wm) → va_S A s.heap H locs → lv_has ls 4 [(3, .int (nI i)), (2, .ref h1), (1, .ref h0), (0, .ref b)] → W p l e room_1 s m #[Value.ref b] below meth c H locs 107 36842 (lw_Z below #[Value.ref b] s) (F0 m 2162 ls [])) : W p l e room_1 s m #[Value.ref b] below meth c H locs 107 36842 (lw_Z below #[Value.ref b] s) (F0 m 629 ls []) := by
  have hK := hE.1
  have hni : (nI i).toInt = (i : Int) := nI_toInt (by omega)
  refine lv_aload_n hx hb dL_law_629 rfl (lv_at hl 2 rfl) ?_
  refine lv_aload_n hx hb dL_law_630 rfl (lv_at hl 3 rfl) ?_
  refine lv_iload_n hx hb dL_law_631 rfl (lv_at hl 0 rfl) ?_
  refine lv_iconst (v := 1) hx hb dL_law_632 (by decide) ?_
  refine lv_iadd hx hb dL_law_633 ?_
  refine lv_topi (fun z1 ez1 => ?_)
  have fz1 : z1.toInt = (nI i).toInt + 1 := by rw [ez1]; exact tq_add rfl (by decide) (by omega)
  refine va_sld hx hb hX hbl hbA hS (tq_in rfl (by omega)) dL_law_634 ?_
  refine lv_topi (fun z2 ez2 => ?_)
  refine lv_aload_n hx hb dL_law_635 rfl (lv_at hl 3 rfl) ?_
  refine lv_iload_n hx hb dL_law_636 rfl (lv_at hl 0 rfl) ?_
  refine lv_iconst (v := 2) hx hb dL_law_637 (by decide) ?_
  refine lv_iadd hx hb dL_law_638 ?_
  refine lv_topi (fun z3 ez3 => ?_)
  have fz3 : z3.toInt = (nI i).toInt + 2 := by rw [ez3]; exact tq_add rfl (by decide) (by omega)
  refine va_sld hx hb hX hbl hbA hS (tq_in rfl (by omega)) dL_law_639 ?_
  refine lv_topi (fun z4 ez4 => ?_)
  refine ct_callAi (D := D) (wx := wx) (wm := wm) (va_runV (As := [.int z2, .int z4]) (rest := []) ⟨hx, hb, hml, hown, hts⟩ (k_X11_late l D G cI cJ cB cZ cO g h0 wx hX0 z2 z4 H.size) (cwV 2 hts gL_law_X11_late rfl rfl rfl (by decide +kernel) ⟨Nat.le_of_ble_eq_true rfl, Nat.le_of_ble_eq_true rfl⟩) (ct_preA (T := ct_T cI cJ cB cZ cO) (ci := 11) hE hH hP hD hS hA (XOK_at hX0) rfl) rfl rfl hl.1 rfl (lv_room (Nat.le_of_ble_eq_true rfl)) dL_law_640 ⟨Nat.le_of_ble_eq_true rfl, Nat.le_of_ble_eq_true rfl⟩) hP hD hS hA (fun r5 w6 H locs hw hP hD hS => ?_)
  obtain ⟨hk7, hz8⟩ := hw
  refine lv_pop hx hb dL_law_643 rfl ?_
  refine lv_aload_n hx hb dL_law_644 rfl (lv_at hl 1 rfl) ?_
  refine lv_aload_n hx hb dL_law_645 rfl (lv_at hl 3 rfl) ?_
  refine lv_iload_n hx hb dL_law_646 rfl (lv_at hl 0 rfl) ?_
  refine lv_iconst (v := 1) hx hb dL_law_647 (by decide) ?_
  refine lv_iadd hx hb dL_law_648 ?_
  refine lv_topi (fun z9 ez9 => ?_)
  have fz9 : z9.toInt = (nI i).toInt + 1 := by rw [ez9]; exact tq_add rfl (by decide) (by omega)
  refine va_sld hx hb hX hbl hbA hS (tq_in rfl (by omega)) dL_law_649 ?_
  refine lv_topi (fun z10 ez10 => ?_)
  refine lv_aload_n hx hb dL_law_650 rfl (lv_at hl 3 rfl) ?_
  refine lv_iload_n hx hb dL_law_651 rfl (lv_at hl 0 rfl) ?_
  refine lv_iconst (v := 2) hx hb dL_law_652 (by decide) ?_
  refine lv_iadd hx hb dL_law_653 ?_
  refine lv_topi (fun z11 ez11 => ?_)
  have fz11 : z11.toInt = (nI i).toInt + 2 := by rw [ez11]; exact tq_add rfl (by decide) (by omega)
  refine va_sld hx hb hX hbl hbA hS (tq_in rfl (by omega)) dL_law_654 ?_
  refine lv_topi (fun z12 ez12 => ?_)
  refine ct_callAi (D := D) (wx := wm) (wm := w6) (va_runV (As := [.int z10, .int z12]) (rest := []) ⟨hx, hb, hml, hown, hts⟩ (k_X12_late l D G cI cJ cB cZ cO g h1 wm hM0 z10 z12 H.size) (cwV 2 hts gL_law_X12_late rfl rfl rfl (by decide +kernel) ⟨Nat.le_of_ble_eq_true rfl, Nat.le_of_ble_eq_true rfl⟩) (ct_preA (T := ct_T cI cJ cB cZ cO) (ci := 12) hE hH hP hD hS hA (MOK_at hM0) rfl) rfl rfl hl.1 rfl (lv_room (Nat.le_of_ble_eq_true rfl)) dL_law_655 ⟨Nat.le_of_ble_eq_true rfl, Nat.le_of_ble_eq_true rfl⟩) hP hD hS hA (fun r13 w14 H locs hw hP hD hS => ?_)
  obtain ⟨hk15, hz16⟩ := hw
  refine lv_pop hx hb dL_law_658 rfl ?_
  refine lv_goto (tgt := 2162) hx hb dL_law_659 (by decide) ?_
  exact kk _ w6 w14 H locs ls hk7 hk15 hP hD hS (lv_sub hl [0, 1, 2, 3] rfl)
set_option maxHeartbeats 8000000 in
set_option maxRecDepth 100000 in
theorem law_c12 {p : Program} {l : Launch} {e : Env} {s : State} {m : MethodId} {below : List Frame} {meth : Method} {c : Code} {A : Nat → Prop} {b L : Nat} {xs : Nat → Int32} (hx : p.tables.exec = Jvm.exec) (hb : c.code = code) (hml : c.maxLocals = 4) (hr : meth.sig.returnType = ret) (hlocks : meth.locks = false) (hX : va_X b L xs s s.heap) (hbl : b < s.heap.size) (hbA : ¬ A b) (hA : ∀ q : Nat, s.heap.size ≤ q → A q) (hAf : ∀ q : Nat, A q → s.heap.size ≤ q) (D : va_G) (G : ct_G) (cI cJ cB cZ cO : ClassId) (g : Gh) (h0 h1 : Nat) (hown : s.vm.findClass RL = some m.cls) (hts : ∀ w ∈ wsL_law, w.before #[Value.ref b] s = true) (hE : ct_E D (ct_T cI cJ cB cZ cO) G s) (hH : ct_H G A s s.heap) (hL : L ≤ 3072) (i : Nat) (hi : i + 6 ≤ L) (wx wm : va_W) (hX0 : XOK cI cJ cB cZ cO g h0 wx) (hM0 : MOK cI cJ cB cZ cO g h1 wm) {H : Heap} {locs : List Loc} (hP : va_P D vwCl (wx ++ wm) H) (hD : va_D A (wx ++ wm)) (hS : va_S A s.heap H locs) {ls : Array Slot} (hl : lv_has ls 4 [(3, .int (nI i)), (2, .ref h1), (1, .ref h0), (0, .ref b)]) (kk : ∀ (g : Gh) (wx wm : va_W) (H : Heap) (locs : List Loc) (ls : Array Slot), XOK cI cJ cB cZ cO g h0 wx → MOK cI cJ cB cZ cO g h1 wm → va_P D vwCl (wx ++ wm) H → va_D A (wx ++ wm) → va_S A s.heap H locs → lv_has ls 4 [(3, .int (nI i)), (2, .ref h1), (1, .ref h0), (0, .ref b)] → W p l e room_1 s m #[Value.ref b] below meth c H locs 107 36842 (lw_Z below #[Value.ref b] s) (F0 m 2162 ls [])) : W p l e room_1 s m #[Value.ref b] below meth c H locs 107 36842 (lw_Z below #[Value.ref b] s) (F0 m 662 ls []) := by
  have hK := hE.1
  have hni : (nI i).toInt = (i : Int) := nI_toInt (by omega)
  refine lv_aload_n hx hb dL_law_662 rfl (lv_at hl 2 rfl) ?_
  refine lv_aload_n hx hb dL_law_663 rfl (lv_at hl 3 rfl) ?_
  refine lv_iload_n hx hb dL_law_664 rfl (lv_at hl 0 rfl) ?_
  refine lv_iconst (v := 1) hx hb dL_law_665 (by decide) ?_
  refine lv_iadd hx hb dL_law_666 ?_
  refine lv_topi (fun z1 ez1 => ?_)
  have fz1 : z1.toInt = (nI i).toInt + 1 := by rw [ez1]; exact tq_add rfl (by decide) (by omega)
  refine va_sld hx hb hX hbl hbA hS (tq_in rfl (by omega)) dL_law_667 ?_
  refine lv_topi (fun z2 ez2 => ?_)
  refine lv_aload_n hx hb dL_law_668 rfl (lv_at hl 3 rfl) ?_
  refine lv_iload_n hx hb dL_law_669 rfl (lv_at hl 0 rfl) ?_
  refine lv_iconst (v := 2) hx hb dL_law_670 (by decide) ?_
  refine lv_iadd hx hb dL_law_671 ?_
  refine lv_topi (fun z3 ez3 => ?_)
  have fz3 : z3.toInt = (nI i).toInt + 2 := by rw [ez3]; exact tq_add rfl (by decide) (by omega)
  refine va_sld hx hb hX hbl hbA hS (tq_in rfl (by omega)) dL_law_672 ?_
  refine lv_topi (fun z4 ez4 => ?_)
  refine ct_callAi (D := D) (wx := wx) (wm := wm) (va_runV (As := [.int z2, .int z4]) (rest := []) ⟨hx, hb, hml, hown, hts⟩ (k_X11_hole l D G cI cJ cB cZ cO g h0 wx hX0 z2 z4 H.size) (cwV 2 hts gL_law_X11_hole rfl rfl rfl (by decide +kernel) ⟨Nat.le_of_ble_eq_true rfl, Nat.le_of_ble_eq_true rfl⟩) (ct_preA (T := ct_T cI cJ cB cZ cO) (ci := 11) hE hH hP hD hS hA (XOK_at hX0) rfl) rfl rfl hl.1 rfl (lv_room (Nat.le_of_ble_eq_true rfl)) dL_law_673 ⟨Nat.le_of_ble_eq_true rfl, Nat.le_of_ble_eq_true rfl⟩) hP hD hS hA (fun r5 w6 H locs hw hP hD hS => ?_)
  obtain ⟨hk7, hz8⟩ := hw
  refine lv_pop hx hb dL_law_676 rfl ?_
  refine lv_aload_n hx hb dL_law_677 rfl (lv_at hl 1 rfl) ?_
  refine lv_aload_n hx hb dL_law_678 rfl (lv_at hl 3 rfl) ?_
  refine lv_iload_n hx hb dL_law_679 rfl (lv_at hl 0 rfl) ?_
  refine lv_iconst (v := 1) hx hb dL_law_680 (by decide) ?_
  refine lv_iadd hx hb dL_law_681 ?_
  refine lv_topi (fun z9 ez9 => ?_)
  have fz9 : z9.toInt = (nI i).toInt + 1 := by rw [ez9]; exact tq_add rfl (by decide) (by omega)
  refine va_sld hx hb hX hbl hbA hS (tq_in rfl (by omega)) dL_law_682 ?_
  refine lv_topi (fun z10 ez10 => ?_)
  refine lv_aload_n hx hb dL_law_683 rfl (lv_at hl 3 rfl) ?_
  refine lv_iload_n hx hb dL_law_684 rfl (lv_at hl 0 rfl) ?_
  refine lv_iconst (v := 2) hx hb dL_law_685 (by decide) ?_
  refine lv_iadd hx hb dL_law_686 ?_
  refine lv_topi (fun z11 ez11 => ?_)
  have fz11 : z11.toInt = (nI i).toInt + 2 := by rw [ez11]; exact tq_add rfl (by decide) (by omega)
  refine va_sld hx hb hX hbl hbA hS (tq_in rfl (by omega)) dL_law_687 ?_
  refine lv_topi (fun z12 ez12 => ?_)
  refine ct_callAi (D := D) (wx := wm) (wm := w6) (va_runV (As := [.int z10, .int z12]) (rest := []) ⟨hx, hb, hml, hown, hts⟩ (k_X12_hole l D G cI cJ cB cZ cO g h1 wm hM0 z10 z12 H.size) (cwV 2 hts gL_law_X12_hole rfl rfl rfl (by decide +kernel) ⟨Nat.le_of_ble_eq_true rfl, Nat.le_of_ble_eq_true rfl⟩) (ct_preA (T := ct_T cI cJ cB cZ cO) (ci := 12) hE hH hP hD hS hA (MOK_at hM0) rfl) rfl rfl hl.1 rfl (lv_room (Nat.le_of_ble_eq_true rfl)) dL_law_688 ⟨Nat.le_of_ble_eq_true rfl, Nat.le_of_ble_eq_true rfl⟩) hP hD hS hA (fun r13 w14 H locs hw hP hD hS => ?_)
  obtain ⟨hk15, hz16⟩ := hw
  refine lv_pop hx hb dL_law_691 rfl ?_
  refine lv_goto (tgt := 2162) hx hb dL_law_692 (by decide) ?_
  exact kk _ w6 w14 H locs ls hk7 hk15 hP hD hS (lv_sub hl [0, 1, 2, 3] rfl)
set_option maxHeartbeats 8000000 in
set_option maxRecDepth 100000 in
theorem law_c13 {p : Program} {l : Launch} {e : Env} {s : State} {m : MethodId} {below : List Frame} {meth : Method} {c : Code} {A : Nat → Prop} {b L : Nat} {xs : Nat → Int32} (hx : p.tables.exec = Jvm.exec) (hb : c.code = code) (hml : c.maxLocals = 4) (hr : meth.sig.returnType = ret) (hlocks : meth.locks = false) (hX : va_X b L xs s s.heap) (hbl : b < s.heap.size) (hbA : ¬ A b) (hA : ∀ q : Nat, s.heap.size ≤ q → A q) (hAf : ∀ q : Nat, A q → s.heap.size ≤ q) (D : va_G) (G : ct_G) (cI cJ cB cZ cO : ClassId) (g : Gh) (h0 h1 : Nat) (hown : s.vm.findClass RL = some m.cls) (hts : ∀ w ∈ wsL_law, w.before #[Value.ref b] s = true) (hE : ct_E D (ct_T cI cJ cB cZ cO) G s) (hH : ct_H G A s s.heap) (hL : L ≤ 3072) (i : Nat) (hi : i + 6 ≤ L) (wx wm : va_W) (hX0 : XOK cI cJ cB cZ cO g h0 wx) (hM0 : MOK cI cJ cB cZ cO g h1 wm) {H : Heap} {locs : List Loc} (hP : va_P D vwCl (wx ++ wm) H) (hD : va_D A (wx ++ wm)) (hS : va_S A s.heap H locs) {ls : Array Slot} (hl : lv_has ls 4 [(3, .int (nI i)), (2, .ref h1), (1, .ref h0), (0, .ref b)]) (kk : ∀ (g : Gh) (wx wm : va_W) (H : Heap) (locs : List Loc) (ls : Array Slot), XOK cI cJ cB cZ cO g h0 wx → MOK cI cJ cB cZ cO g h1 wm → va_P D vwCl (wx ++ wm) H → va_D A (wx ++ wm) → va_S A s.heap H locs → lv_has ls 4 [(3, .int (nI i)), (2, .ref h1), (1, .ref h0), (0, .ref b)] → W p l e room_1 s m #[Value.ref b] below meth c H locs 107 36842 (lw_Z below #[Value.ref b] s) (F0 m 2162 ls [])) : W p l e room_1 s m #[Value.ref b] below meth c H locs 107 36842 (lw_Z below #[Value.ref b] s) (F0 m 695 ls []) := by
  have hK := hE.1
  have hni : (nI i).toInt = (i : Int) := nI_toInt (by omega)
  refine lv_aload_n hx hb dL_law_695 rfl (lv_at hl 2 rfl) ?_
  refine lv_aload_n hx hb dL_law_696 rfl (lv_at hl 3 rfl) ?_
  refine lv_iload_n hx hb dL_law_697 rfl (lv_at hl 0 rfl) ?_
  refine lv_iconst (v := 1) hx hb dL_law_698 (by decide) ?_
  refine lv_iadd hx hb dL_law_699 ?_
  refine lv_topi (fun z1 ez1 => ?_)
  have fz1 : z1.toInt = (nI i).toInt + 1 := by rw [ez1]; exact tq_add rfl (by decide) (by omega)
  refine va_sld hx hb hX hbl hbA hS (tq_in rfl (by omega)) dL_law_700 ?_
  refine lv_topi (fun z2 ez2 => ?_)
  refine lv_aload_n hx hb dL_law_701 rfl (lv_at hl 3 rfl) ?_
  refine lv_iload_n hx hb dL_law_702 rfl (lv_at hl 0 rfl) ?_
  refine lv_iconst (v := 2) hx hb dL_law_703 (by decide) ?_
  refine lv_iadd hx hb dL_law_704 ?_
  refine lv_topi (fun z3 ez3 => ?_)
  have fz3 : z3.toInt = (nI i).toInt + 2 := by rw [ez3]; exact tq_add rfl (by decide) (by omega)
  refine va_sld hx hb hX hbl hbA hS (tq_in rfl (by omega)) dL_law_705 ?_
  refine lv_topi (fun z4 ez4 => ?_)
  refine ct_callAi (D := D) (wx := wx) (wm := wm) (va_runV (As := [.int z2, .int z4]) (rest := []) ⟨hx, hb, hml, hown, hts⟩ (k_X11_next l D G cI cJ cB cZ cO g h0 wx hX0 z2 z4 H.size) (cwV 2 hts gL_law_X11_next rfl rfl rfl (by decide +kernel) ⟨Nat.le_of_ble_eq_true rfl, Nat.le_of_ble_eq_true rfl⟩) (ct_preA (T := ct_T cI cJ cB cZ cO) (ci := 11) hE hH hP hD hS hA (XOK_at hX0) rfl) rfl rfl hl.1 rfl (lv_room (Nat.le_of_ble_eq_true rfl)) dL_law_706 ⟨Nat.le_of_ble_eq_true rfl, Nat.le_of_ble_eq_true rfl⟩) hP hD hS hA (fun r5 w6 H locs hw hP hD hS => ?_)
  obtain ⟨hk7, hz8⟩ := hw
  refine lv_pop hx hb dL_law_709 rfl ?_
  refine lv_aload_n hx hb dL_law_710 rfl (lv_at hl 1 rfl) ?_
  refine lv_aload_n hx hb dL_law_711 rfl (lv_at hl 3 rfl) ?_
  refine lv_iload_n hx hb dL_law_712 rfl (lv_at hl 0 rfl) ?_
  refine lv_iconst (v := 1) hx hb dL_law_713 (by decide) ?_
  refine lv_iadd hx hb dL_law_714 ?_
  refine lv_topi (fun z9 ez9 => ?_)
  have fz9 : z9.toInt = (nI i).toInt + 1 := by rw [ez9]; exact tq_add rfl (by decide) (by omega)
  refine va_sld hx hb hX hbl hbA hS (tq_in rfl (by omega)) dL_law_715 ?_
  refine lv_topi (fun z10 ez10 => ?_)
  refine lv_aload_n hx hb dL_law_716 rfl (lv_at hl 3 rfl) ?_
  refine lv_iload_n hx hb dL_law_717 rfl (lv_at hl 0 rfl) ?_
  refine lv_iconst (v := 2) hx hb dL_law_718 (by decide) ?_
  refine lv_iadd hx hb dL_law_719 ?_
  refine lv_topi (fun z11 ez11 => ?_)
  have fz11 : z11.toInt = (nI i).toInt + 2 := by rw [ez11]; exact tq_add rfl (by decide) (by omega)
  refine va_sld hx hb hX hbl hbA hS (tq_in rfl (by omega)) dL_law_720 ?_
  refine lv_topi (fun z12 ez12 => ?_)
  refine ct_callAi (D := D) (wx := wm) (wm := w6) (va_runV (As := [.int z10, .int z12]) (rest := []) ⟨hx, hb, hml, hown, hts⟩ (k_X12_next_ l D G cI cJ cB cZ cO g h1 wm hM0 z10 z12 H.size) (cwV 2 hts gL_law_X12_next_ rfl rfl rfl (by decide +kernel) ⟨Nat.le_of_ble_eq_true rfl, Nat.le_of_ble_eq_true rfl⟩) (ct_preA (T := ct_T cI cJ cB cZ cO) (ci := 12) hE hH hP hD hS hA (MOK_at hM0) rfl) rfl rfl hl.1 rfl (lv_room (Nat.le_of_ble_eq_true rfl)) dL_law_721 ⟨Nat.le_of_ble_eq_true rfl, Nat.le_of_ble_eq_true rfl⟩) hP hD hS hA (fun r13 w14 H locs hw hP hD hS => ?_)
  obtain ⟨hk15, hz16⟩ := hw
  refine lv_pop hx hb dL_law_724 rfl ?_
  refine lv_goto (tgt := 2162) hx hb dL_law_725 (by decide) ?_
  exact kk _ w6 w14 H locs ls hk7 hk15 hP hD hS (lv_sub hl [0, 1, 2, 3] rfl)
set_option maxHeartbeats 8000000 in
set_option maxRecDepth 100000 in
theorem law_c14 {p : Program} {l : Launch} {e : Env} {s : State} {m : MethodId} {below : List Frame} {meth : Method} {c : Code} {A : Nat → Prop} {b L : Nat} {xs : Nat → Int32} (hx : p.tables.exec = Jvm.exec) (hb : c.code = code) (hml : c.maxLocals = 4) (hr : meth.sig.returnType = ret) (hlocks : meth.locks = false) (hX : va_X b L xs s s.heap) (hbl : b < s.heap.size) (hbA : ¬ A b) (hA : ∀ q : Nat, s.heap.size ≤ q → A q) (hAf : ∀ q : Nat, A q → s.heap.size ≤ q) (D : va_G) (G : ct_G) (cI cJ cB cZ cO : ClassId) (g : Gh) (h0 h1 : Nat) (hown : s.vm.findClass RL = some m.cls) (hts : ∀ w ∈ wsL_law, w.before #[Value.ref b] s = true) (hE : ct_E D (ct_T cI cJ cB cZ cO) G s) (hH : ct_H G A s s.heap) (hL : L ≤ 3072) (i : Nat) (hi : i + 6 ≤ L) (wx wm : va_W) (hX0 : XOK cI cJ cB cZ cO g h0 wx) (hM0 : MOK cI cJ cB cZ cO g h1 wm) {H : Heap} {locs : List Loc} (hP : va_P D vwCl (wx ++ wm) H) (hD : va_D A (wx ++ wm)) (hS : va_S A s.heap H locs) {ls : Array Slot} (hl : lv_has ls 4 [(3, .int (nI i)), (2, .ref h1), (1, .ref h0), (0, .ref b)]) (kk : ∀ (g : Gh) (wx wm : va_W) (H : Heap) (locs : List Loc) (ls : Array Slot), XOK cI cJ cB cZ cO g h0 wx → MOK cI cJ cB cZ cO g h1 wm → va_P D vwCl (wx ++ wm) H → va_D A (wx ++ wm) → va_S A s.heap H locs → lv_has ls 4 [(3, .int (nI i)), (2, .ref h1), (1, .ref h0), (0, .ref b)] → W p l e room_1 s m #[Value.ref b] below meth c H locs 107 36842 (lw_Z below #[Value.ref b] s) (F0 m 2162 ls [])) : W p l e room_1 s m #[Value.ref b] below meth c H locs 107 36842 (lw_Z below #[Value.ref b] s) (F0 m 728 ls []) := by
  have hK := hE.1
  have hni : (nI i).toInt = (i : Int) := nI_toInt (by omega)
  refine lv_aload_n hx hb dL_law_728 rfl (lv_at hl 2 rfl) ?_
  refine lv_aload_n hx hb dL_law_729 rfl (lv_at hl 3 rfl) ?_
  refine lv_iload_n hx hb dL_law_730 rfl (lv_at hl 0 rfl) ?_
  refine lv_iconst (v := 1) hx hb dL_law_731 (by decide) ?_
  refine lv_iadd hx hb dL_law_732 ?_
  refine lv_topi (fun z1 ez1 => ?_)
  have fz1 : z1.toInt = (nI i).toInt + 1 := by rw [ez1]; exact tq_add rfl (by decide) (by omega)
  refine va_sld hx hb hX hbl hbA hS (tq_in rfl (by omega)) dL_law_733 ?_
  refine lv_topi (fun z2 ez2 => ?_)
  refine lv_aload_n hx hb dL_law_734 rfl (lv_at hl 3 rfl) ?_
  refine lv_iload_n hx hb dL_law_735 rfl (lv_at hl 0 rfl) ?_
  refine lv_iconst (v := 2) hx hb dL_law_736 (by decide) ?_
  refine lv_iadd hx hb dL_law_737 ?_
  refine lv_topi (fun z3 ez3 => ?_)
  have fz3 : z3.toInt = (nI i).toInt + 2 := by rw [ez3]; exact tq_add rfl (by decide) (by omega)
  refine va_sld hx hb hX hbl hbA hS (tq_in rfl (by omega)) dL_law_738 ?_
  refine lv_topi (fun z4 ez4 => ?_)
  refine lv_aload_n hx hb dL_law_739 rfl (lv_at hl 3 rfl) ?_
  refine lv_iload_n hx hb dL_law_740 rfl (lv_at hl 0 rfl) ?_
  refine lv_iconst (v := 3) hx hb dL_law_741 (by decide) ?_
  refine lv_iadd hx hb dL_law_742 ?_
  refine lv_topi (fun z5 ez5 => ?_)
  have fz5 : z5.toInt = (nI i).toInt + 3 := by rw [ez5]; exact tq_add rfl (by decide) (by omega)
  refine va_sld hx hb hX hbl hbA hS (tq_in rfl (by omega)) dL_law_743 ?_
  refine lv_topi (fun z6 ez6 => ?_)
  refine ct_callAi (D := D) (wx := wx) (wm := wm) (va_runV (As := [.int z2, .int z4, .int z6]) (rest := []) ⟨hx, hb, hml, hown, hts⟩ (k_X11_holes l D G cI cJ cB cZ cO g h0 wx hX0 z2 z4 z6 H.size) (cwV 3 hts gL_law_X11_holes rfl rfl rfl (by decide +kernel) ⟨Nat.le_of_ble_eq_true rfl, Nat.le_of_ble_eq_true rfl⟩) (ct_preA (T := ct_T cI cJ cB cZ cO) (ci := 11) hE hH hP hD hS hA (XOK_at hX0) rfl) rfl rfl hl.1 rfl (lv_room (Nat.le_of_ble_eq_true rfl)) dL_law_744 ⟨Nat.le_of_ble_eq_true rfl, Nat.le_of_ble_eq_true rfl⟩) hP hD hS hA (fun r7 w8 H locs hw hP hD hS => ?_)
  obtain ⟨hk9, hz10⟩ := hw
  refine lv_pop hx hb dL_law_747 rfl ?_
  refine lv_aload_n hx hb dL_law_748 rfl (lv_at hl 1 rfl) ?_
  refine lv_aload_n hx hb dL_law_749 rfl (lv_at hl 3 rfl) ?_
  refine lv_iload_n hx hb dL_law_750 rfl (lv_at hl 0 rfl) ?_
  refine lv_iconst (v := 1) hx hb dL_law_751 (by decide) ?_
  refine lv_iadd hx hb dL_law_752 ?_
  refine lv_topi (fun z11 ez11 => ?_)
  have fz11 : z11.toInt = (nI i).toInt + 1 := by rw [ez11]; exact tq_add rfl (by decide) (by omega)
  refine va_sld hx hb hX hbl hbA hS (tq_in rfl (by omega)) dL_law_753 ?_
  refine lv_topi (fun z12 ez12 => ?_)
  refine lv_aload_n hx hb dL_law_754 rfl (lv_at hl 3 rfl) ?_
  refine lv_iload_n hx hb dL_law_755 rfl (lv_at hl 0 rfl) ?_
  refine lv_iconst (v := 2) hx hb dL_law_756 (by decide) ?_
  refine lv_iadd hx hb dL_law_757 ?_
  refine lv_topi (fun z13 ez13 => ?_)
  have fz13 : z13.toInt = (nI i).toInt + 2 := by rw [ez13]; exact tq_add rfl (by decide) (by omega)
  refine va_sld hx hb hX hbl hbA hS (tq_in rfl (by omega)) dL_law_758 ?_
  refine lv_topi (fun z14 ez14 => ?_)
  refine lv_aload_n hx hb dL_law_759 rfl (lv_at hl 3 rfl) ?_
  refine lv_iload_n hx hb dL_law_760 rfl (lv_at hl 0 rfl) ?_
  refine lv_iconst (v := 3) hx hb dL_law_761 (by decide) ?_
  refine lv_iadd hx hb dL_law_762 ?_
  refine lv_topi (fun z15 ez15 => ?_)
  have fz15 : z15.toInt = (nI i).toInt + 3 := by rw [ez15]; exact tq_add rfl (by decide) (by omega)
  refine va_sld hx hb hX hbl hbA hS (tq_in rfl (by omega)) dL_law_763 ?_
  refine lv_topi (fun z16 ez16 => ?_)
  refine ct_callAi (D := D) (wx := wm) (wm := w8) (va_runV (As := [.int z12, .int z14, .int z16]) (rest := []) ⟨hx, hb, hml, hown, hts⟩ (k_X12_holes l D G cI cJ cB cZ cO g h1 wm hM0 z12 z14 z16 H.size) (cwV 3 hts gL_law_X12_holes rfl rfl rfl (by decide +kernel) ⟨Nat.le_of_ble_eq_true rfl, Nat.le_of_ble_eq_true rfl⟩) (ct_preA (T := ct_T cI cJ cB cZ cO) (ci := 12) hE hH hP hD hS hA (MOK_at hM0) rfl) rfl rfl hl.1 rfl (lv_room (Nat.le_of_ble_eq_true rfl)) dL_law_764 ⟨Nat.le_of_ble_eq_true rfl, Nat.le_of_ble_eq_true rfl⟩) hP hD hS hA (fun r17 w18 H locs hw hP hD hS => ?_)
  obtain ⟨hk19, hz20⟩ := hw
  refine lv_pop hx hb dL_law_767 rfl ?_
  refine lv_goto (tgt := 2162) hx hb dL_law_768 (by decide) ?_
  exact kk _ w8 w18 H locs ls hk9 hk19 hP hD hS (lv_sub hl [0, 1, 2, 3] rfl)
set_option maxHeartbeats 8000000 in
set_option maxRecDepth 100000 in
theorem law_c15 {p : Program} {l : Launch} {e : Env} {s : State} {m : MethodId} {below : List Frame} {meth : Method} {c : Code} {A : Nat → Prop} {b L : Nat} {xs : Nat → Int32} (hx : p.tables.exec = Jvm.exec) (hb : c.code = code) (hml : c.maxLocals = 4) (hr : meth.sig.returnType = ret) (hlocks : meth.locks = false) (hX : va_X b L xs s s.heap) (hbl : b < s.heap.size) (hbA : ¬ A b) (hA : ∀ q : Nat, s.heap.size ≤ q → A q) (hAf : ∀ q : Nat, A q → s.heap.size ≤ q) (D : va_G) (G : ct_G) (cI cJ cB cZ cO : ClassId) (g : Gh) (h0 h1 : Nat) (hown : s.vm.findClass RL = some m.cls) (hts : ∀ w ∈ wsL_law, w.before #[Value.ref b] s = true) (hE : ct_E D (ct_T cI cJ cB cZ cO) G s) (hH : ct_H G A s s.heap) (hL : L ≤ 3072) (i : Nat) (hi : i + 6 ≤ L) (wx wm : va_W) (hX0 : XOK cI cJ cB cZ cO g h0 wx) (hM0 : MOK cI cJ cB cZ cO g h1 wm) {H : Heap} {locs : List Loc} (hP : va_P D vwCl (wx ++ wm) H) (hD : va_D A (wx ++ wm)) (hS : va_S A s.heap H locs) {ls : Array Slot} (hl : lv_has ls 4 [(3, .int (nI i)), (2, .ref h1), (1, .ref h0), (0, .ref b)]) (kk : ∀ (g : Gh) (wx wm : va_W) (H : Heap) (locs : List Loc) (ls : Array Slot), XOK cI cJ cB cZ cO g h0 wx → MOK cI cJ cB cZ cO g h1 wm → va_P D vwCl (wx ++ wm) H → va_D A (wx ++ wm) → va_S A s.heap H locs → lv_has ls 4 [(3, .int (nI i)), (2, .ref h1), (1, .ref h0), (0, .ref b)] → W p l e room_1 s m #[Value.ref b] below meth c H locs 107 36842 (lw_Z below #[Value.ref b] s) (F0 m 2162 ls [])) : W p l e room_1 s m #[Value.ref b] below meth c H locs 107 36842 (lw_Z below #[Value.ref b] s) (F0 m 771 ls []) := by
  have hK := hE.1
  have hni : (nI i).toInt = (i : Int) := nI_toInt (by omega)
  refine lv_aload_n hx hb dL_law_771 rfl (lv_at hl 2 rfl) ?_
  refine lv_aload_n hx hb dL_law_772 rfl (lv_at hl 3 rfl) ?_
  refine lv_iload_n hx hb dL_law_773 rfl (lv_at hl 0 rfl) ?_
  refine lv_iconst (v := 1) hx hb dL_law_774 (by decide) ?_
  refine lv_iadd hx hb dL_law_775 ?_
  refine lv_topi (fun z1 ez1 => ?_)
  have fz1 : z1.toInt = (nI i).toInt + 1 := by rw [ez1]; exact tq_add rfl (by decide) (by omega)
  refine va_sld hx hb hX hbl hbA hS (tq_in rfl (by omega)) dL_law_776 ?_
  refine lv_topi (fun z2 ez2 => ?_)
  refine lv_aload_n hx hb dL_law_777 rfl (lv_at hl 3 rfl) ?_
  refine lv_iload_n hx hb dL_law_778 rfl (lv_at hl 0 rfl) ?_
  refine lv_iconst (v := 2) hx hb dL_law_779 (by decide) ?_
  refine lv_iadd hx hb dL_law_780 ?_
  refine lv_topi (fun z3 ez3 => ?_)
  have fz3 : z3.toInt = (nI i).toInt + 2 := by rw [ez3]; exact tq_add rfl (by decide) (by omega)
  refine va_sld hx hb hX hbl hbA hS (tq_in rfl (by omega)) dL_law_781 ?_
  refine lv_topi (fun z4 ez4 => ?_)
  refine ct_callAi (D := D) (wx := wx) (wm := wm) (va_runV (As := [.int z2, .int z4]) (rest := []) ⟨hx, hb, hml, hown, hts⟩ (k_X11_run l D G cI cJ cB cZ cO g h0 wx hX0 z2 z4 H.size) (cwV 2 hts gL_law_X11_run rfl rfl rfl (by decide +kernel) ⟨Nat.le_of_ble_eq_true rfl, Nat.le_of_ble_eq_true rfl⟩) (ct_preA (T := ct_T cI cJ cB cZ cO) (ci := 11) hE hH hP hD hS hA (XOK_at hX0) rfl) rfl rfl hl.1 rfl (lv_room (Nat.le_of_ble_eq_true rfl)) dL_law_782 ⟨Nat.le_of_ble_eq_true rfl, Nat.le_of_ble_eq_true rfl⟩) hP hD hS hA (fun r5 w6 H locs hw hP hD hS => ?_)
  obtain ⟨hk7, hz8⟩ := hw
  refine lv_pop hx hb dL_law_785 rfl ?_
  refine lv_aload_n hx hb dL_law_786 rfl (lv_at hl 1 rfl) ?_
  refine lv_aload_n hx hb dL_law_787 rfl (lv_at hl 3 rfl) ?_
  refine lv_iload_n hx hb dL_law_788 rfl (lv_at hl 0 rfl) ?_
  refine lv_iconst (v := 1) hx hb dL_law_789 (by decide) ?_
  refine lv_iadd hx hb dL_law_790 ?_
  refine lv_topi (fun z9 ez9 => ?_)
  have fz9 : z9.toInt = (nI i).toInt + 1 := by rw [ez9]; exact tq_add rfl (by decide) (by omega)
  refine va_sld hx hb hX hbl hbA hS (tq_in rfl (by omega)) dL_law_791 ?_
  refine lv_topi (fun z10 ez10 => ?_)
  refine lv_aload_n hx hb dL_law_792 rfl (lv_at hl 3 rfl) ?_
  refine lv_iload_n hx hb dL_law_793 rfl (lv_at hl 0 rfl) ?_
  refine lv_iconst (v := 2) hx hb dL_law_794 (by decide) ?_
  refine lv_iadd hx hb dL_law_795 ?_
  refine lv_topi (fun z11 ez11 => ?_)
  have fz11 : z11.toInt = (nI i).toInt + 2 := by rw [ez11]; exact tq_add rfl (by decide) (by omega)
  refine va_sld hx hb hX hbl hbA hS (tq_in rfl (by omega)) dL_law_796 ?_
  refine lv_topi (fun z12 ez12 => ?_)
  refine ct_callAi (D := D) (wx := wm) (wm := w6) (va_runV (As := [.int z10, .int z12]) (rest := []) ⟨hx, hb, hml, hown, hts⟩ (k_X12_run l D G cI cJ cB cZ cO g h1 wm hM0 z10 z12 H.size) (cwV 2 hts gL_law_X12_run rfl rfl rfl (by decide +kernel) ⟨Nat.le_of_ble_eq_true rfl, Nat.le_of_ble_eq_true rfl⟩) (ct_preA (T := ct_T cI cJ cB cZ cO) (ci := 12) hE hH hP hD hS hA (MOK_at hM0) rfl) rfl rfl hl.1 rfl (lv_room (Nat.le_of_ble_eq_true rfl)) dL_law_797 ⟨Nat.le_of_ble_eq_true rfl, Nat.le_of_ble_eq_true rfl⟩) hP hD hS hA (fun r13 w14 H locs hw hP hD hS => ?_)
  obtain ⟨hk15, hz16⟩ := hw
  refine lv_pop hx hb dL_law_800 rfl ?_
  refine lv_goto (tgt := 2162) hx hb dL_law_801 (by decide) ?_
  exact kk _ w6 w14 H locs ls hk7 hk15 hP hD hS (lv_sub hl [0, 1, 2, 3] rfl)
