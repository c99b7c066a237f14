set_option maxHeartbeats 4000000 in
set_option maxRecDepth 100000 in
theorem law_c0 {p : Program} {l : Launch} {e : Env} {s : State} {m : MethodId} {below : List Frame} {meth : Method} {c : Code} {A : Nat → Prop} {b : Nat} {xs : Nat → Int32} (hx : p.tables.exec = Jvm.exec) (hb : c.code = code) (hml : c.maxLocals = 4) (hr : meth.sig.returnType = ret) (hlocks : meth.locks = false) (hX : va_X b 6 xs s s.heap) (hbl : b < s.heap.size) (hbA : ¬ A b) (hA : ∀ q : Nat, s.heap.size ≤ q → A q) (hAf : ∀ q : Nat, A q → s.heap.size ≤ q) (D : va_G) (cI cJ cB cZ cO : ClassId) (h0 h1 : Nat) (u v : Nat → Nat) (hown : s.vm.findClass RL = some m.cls) (hts : ∀ w ∈ wsL_law, w.before #[Value.ref b] s = true) (hE : ct_E D (ct_T cI cJ cB cZ cO) s) {H : Heap} {locs : List Loc} (hP : va_P D vwCl (LW cI cJ cB cZ cO h0 h1 u v) H) (hD : va_D A (LW cI cJ cB cZ cO h0 h1 u v)) (hS : va_S A s.heap H locs) {ls : Array Slot} (hl : lv_has ls 4 [(3, .int 0), (2, .ref h1), (1, .ref h0), (0, .ref b)]) : W p l e room_1 s m #[Value.ref b] below meth c H locs 107 36842 (lw_Z below #[Value.ref b] s) (F0 m 296 ls []) := by
  have hK := hE.1
  refine lv_aload_n hx hb dL_law_296 rfl (lv_at hl 2 rfl) ?_
  refine lv_aload_n hx hb dL_law_297 rfl (lv_at hl 3 rfl) ?_
  refine lv_iload_n hx hb dL_law_298 rfl (lv_at hl 0 rfl) ?_
  refine lv_iconst (v := 1) hx hb dL_law_299 (by decide) ?_
  refine lv_iadd hx hb dL_law_300 ?_
  refine lv_topi (fun z569 ez569 => ?_)
  obtain rfl : z569 = 1 := ez569.trans (by decide)
  refine va_sld hx hb hX hbl hbA hS (tq_in (a := 1) (by decide) (by omega)) dL_law_301 ?_
  refine lv_aload_n hx hb dL_law_302 rfl (lv_at hl 3 rfl) ?_
  refine lv_iload_n hx hb dL_law_303 rfl (lv_at hl 0 rfl) ?_
  refine lv_iconst (v := 2) hx hb dL_law_304 (by decide) ?_
  refine lv_iadd hx hb dL_law_305 ?_
  refine lv_topi (fun z570 ez570 => ?_)
  obtain rfl : z570 = 2 := ez570.trans (by decide)
  refine va_sld hx hb hX hbl hbA hS (tq_in (a := 2) (by decide) (by omega)) dL_law_306 ?_
  refine lv_aload_n hx hb dL_law_307 rfl (lv_at hl 3 rfl) ?_
  refine lv_iload_n hx hb dL_law_308 rfl (lv_at hl 0 rfl) ?_
  refine lv_iconst (v := 3) hx hb dL_law_309 (by decide) ?_
  refine lv_iadd hx hb dL_law_310 ?_
  refine lv_topi (fun z571 ez571 => ?_)
  obtain rfl : z571 = 3 := ez571.trans (by decide)
  refine va_sld hx hb hX hbl hbA hS (tq_in (a := 3) (by decide) (by omega)) dL_law_311 ?_
  refine lv_aload_n hx hb dL_law_312 rfl (lv_at hl 3 rfl) ?_
  refine lv_iload_n hx hb dL_law_313 rfl (lv_at hl 0 rfl) ?_
  refine lv_iconst (v := 4) hx hb dL_law_314 (by decide) ?_
  refine lv_iadd hx hb dL_law_315 ?_
  refine lv_topi (fun z572 ez572 => ?_)
  obtain rfl : z572 = 4 := ez572.trans (by decide)
  refine va_sld hx hb hX hbl hbA hS (tq_in (a := 4) (by decide) (by omega)) dL_law_316 ?_
  refine lv_aload_n hx hb dL_law_317 rfl (lv_at hl 3 rfl) ?_
  refine lv_iload_n hx hb dL_law_318 rfl (lv_at hl 0 rfl) ?_
  refine lv_iconst (v := 5) hx hb dL_law_319 (by decide) ?_
  refine lv_iadd hx hb dL_law_320 ?_
  refine lv_topi (fun z573 ez573 => ?_)
  obtain rfl : z573 = 5 := ez573.trans (by decide)
  refine va_sld hx hb hX hbl hbA hS (tq_in (a := 5) (by decide) (by omega)) dL_law_321 ?_
  refine ct_calli (D := D) (wc := (w_c_X11_feed cI cJ cB cZ cO h0 u)) (wr := [mo h1 v 0 0, ((v 1), .inl (cI, 4, .inl (szf))), ((v 2), .inl (cI, 4, .inl (fun _ => 0))), ((v 3), .inl (cJ, 240, .inr (.inl (fun _ => 0)))), ((v 5), .inl (cB, 1200, .inl (fun _ => 0))), ((v 25), .inl (cZ, 3, .inl (fun _ => 0))), ((v 16), .inl (cI, 5, .inl (fun _ => 0))), ((v 17), .inl (cI, 55, .inl (fun _ => 0))), ((v 18), .inl (cI, 120, .inl (fun _ => 0))), ((v 19), .inl (cI, 30, .inl (fun _ => 0))), ((v 20), .inl (cI, 160, .inl (fun _ => 0))), ((v 21), .inl (cZ, 1000, .inl (fun _ => 0))), ((v 22), .inl (cI, 120, .inl (fun _ => 0))), ((v 23), .inl (cI, 50, .inl (fun _ => 0))), ((v 24), .inl (cI, 800, .inl (fun _ => 0)))]) (va_runV (As := [.int (xs (1 : Int32).toNatClampNeg), .int (xs (2 : Int32).toNatClampNeg), .int (xs (3 : Int32).toNatClampNeg), .int (xs (4 : Int32).toNatClampNeg), .int (xs (5 : Int32).toNatClampNeg)]) (rest := []) ⟨hx, hb, hml, hown, hts⟩ (c_X11_feed l D cI cJ cB cZ cO h0 u ((xs (1 : Int32).toNatClampNeg)) ((xs (2 : Int32).toNatClampNeg)) ((xs (3 : Int32).toNatClampNeg)) ((xs (4 : Int32).toNatClampNeg)) ((xs (5 : Int32).toNatClampNeg)) H.size) (cwV 5 hts gL_law_X11_feed rfl rfl rfl (by decide +kernel) ⟨Nat.le_of_ble_eq_true rfl, Nat.le_of_ble_eq_true rfl⟩) (ct_preV (T := ct_T cI cJ cB cZ cO) (ci := 11) (q0 := 0) hE hP hD [0, 2, 3] (by decide) rfl rfl rfl) rfl rfl hl.1 rfl (lv_room (Nat.le_of_ble_eq_true rfl)) dL_law_322 ⟨Nat.le_of_ble_eq_true rfl, Nat.le_of_ble_eq_true rfl⟩) hP hD hS hA [0, 2, 3] [55, 56, 57, 58, 59, 60, 61, 62, 63, 64, 65, 66, 67, 68, 69] rfl rfl (by decide) (by decide) (fun rz u H locs hw hP hD hS => ?_)
  have hP : va_P D vwCl [mo h1 v 0 0, ((v 1), .inl (cI, 4, .inl (szf))), ((v 2), .inl (cI, 4, .inl (fun _ => 0))), ((v 3), .inl (cJ, 240, .inr (.inl (fun _ => 0)))), ((v 5), .inl (cB, 1200, .inl (fun _ => 0))), ((v 25), .inl (cZ, 3, .inl (fun _ => 0))), ((v 16), .inl (cI, 5, .inl (fun _ => 0))), ((v 17), .inl (cI, 55, .inl (fun _ => 0))), ((v 18), .inl (cI, 120, .inl (fun _ => 0))), ((v 19), .inl (cI, 30, .inl (fun _ => 0))), ((v 20), .inl (cI, 160, .inl (fun _ => 0))), ((v 21), .inl (cZ, 1000, .inl (fun _ => 0))), ((v 22), .inl (cI, 120, .inl (fun _ => 0))), ((v 23), .inl (cI, 50, .inl (fun _ => 0))), ((v 24), .inl (cI, 800, .inl (fun _ => 0)))] H := hP
  have hD : va_D A [mo h1 v 0 0, ((v 1), .inl (cI, 4, .inl (szf))), ((v 2), .inl (cI, 4, .inl (fun _ => 0))), ((v 3), .inl (cJ, 240, .inr (.inl (fun _ => 0)))), ((v 5), .inl (cB, 1200, .inl (fun _ => 0))), ((v 25), .inl (cZ, 3, .inl (fun _ => 0))), ((v 16), .inl (cI, 5, .inl (fun _ => 0))), ((v 17), .inl (cI, 55, .inl (fun _ => 0))), ((v 18), .inl (cI, 120, .inl (fun _ => 0))), ((v 19), .inl (cI, 30, .inl (fun _ => 0))), ((v 20), .inl (cI, 160, .inl (fun _ => 0))), ((v 21), .inl (cZ, 1000, .inl (fun _ => 0))), ((v 22), .inl (cI, 120, .inl (fun _ => 0))), ((v 23), .inl (cI, 50, .inl (fun _ => 0))), ((v 24), .inl (cI, 800, .inl (fun _ => 0)))] := hD
  obtain ⟨rfl, hq574⟩ := hw
  refine lv_aload_n hx hb dL_law_325 rfl (lv_at hl 1 rfl) ?_
  refine lv_aload_n hx hb dL_law_326 rfl (lv_at hl 3 rfl) ?_
  refine lv_iload_n hx hb dL_law_327 rfl (lv_at hl 0 rfl) ?_
  refine lv_iconst (v := 1) hx hb dL_law_328 (by decide) ?_
  refine lv_iadd hx hb dL_law_329 ?_
  refine lv_topi (fun z575 ez575 => ?_)
  obtain rfl : z575 = 1 := ez575.trans (by decide)
  refine va_sld hx hb hX hbl hbA hS (tq_in (a := 1) (by decide) (by omega)) dL_law_330 ?_
  refine lv_aload_n hx hb dL_law_331 rfl (lv_at hl 3 rfl) ?_
  refine lv_iload_n hx hb dL_law_332 rfl (lv_at hl 0 rfl) ?_
  refine lv_iconst (v := 2) hx hb dL_law_333 (by decide) ?_
  refine lv_iadd hx hb dL_law_334 ?_
  refine lv_topi (fun z576 ez576 => ?_)
  obtain rfl : z576 = 2 := ez576.trans (by decide)
  refine va_sld hx hb hX hbl hbA hS (tq_in (a := 2) (by decide) (by omega)) dL_law_335 ?_
  refine lv_aload_n hx hb dL_law_336 rfl (lv_at hl 3 rfl) ?_
  refine lv_iload_n hx hb dL_law_337 rfl (lv_at hl 0 rfl) ?_
  refine lv_iconst (v := 3) hx hb dL_law_338 (by decide) ?_
  refine lv_iadd hx hb dL_law_339 ?_
  refine lv_topi (fun z577 ez577 => ?_)
  obtain rfl : z577 = 3 := ez577.trans (by decide)
  refine va_sld hx hb hX hbl hbA hS (tq_in (a := 3) (by decide) (by omega)) dL_law_340 ?_
  refine lv_aload_n hx hb dL_law_341 rfl (lv_at hl 3 rfl) ?_
  refine lv_iload_n hx hb dL_law_342 rfl (lv_at hl 0 rfl) ?_
  refine lv_iconst (v := 4) hx hb dL_law_343 (by decide) ?_
  refine lv_iadd hx hb dL_law_344 ?_
  refine lv_topi (fun z578 ez578 => ?_)
  obtain rfl : z578 = 4 := ez578.trans (by decide)
  refine va_sld hx hb hX hbl hbA hS (tq_in (a := 4) (by decide) (by omega)) dL_law_345 ?_
  refine lv_aload_n hx hb dL_law_346 rfl (lv_at hl 3 rfl) ?_
  refine lv_iload_n hx hb dL_law_347 rfl (lv_at hl 0 rfl) ?_
  refine lv_iconst (v := 5) hx hb dL_law_348 (by decide) ?_
  refine lv_iadd hx hb dL_law_349 ?_
  refine lv_topi (fun z579 ez579 => ?_)
  obtain rfl : z579 = 5 := ez579.trans (by decide)
  refine va_sld hx hb hX hbl hbA hS (tq_in (a := 5) (by decide) (by omega)) dL_law_350 ?_
  refine ct_calli (D := D) (wc := (w_c_X12_feed cI cJ cB cZ cO h1 v)) (wr := [((v 1), .inl (cI, 4, .inl (szf))), ((v 2), .inl (cI, 4, .inl (fun _ => 0))), ((v 3), .inl (cJ, 240, .inr (.inl (fun _ => 0)))), ((v 25), .inl (cZ, 3, .inl (fun _ => 0))), ((v 16), .inl (cI, 5, .inl (fun _ => 0))), ((v 17), .inl (cI, 55, .inl (fun _ => 0))), ((v 18), .inl (cI, 120, .inl (fun _ => 0))), ((v 19), .inl (cI, 30, .inl (fun _ => 0))), ((v 20), .inl (cI, 160, .inl (fun _ => 0))), ((v 21), .inl (cZ, 1000, .inl (fun _ => 0))), ((v 22), .inl (cI, 120, .inl (fun _ => 0))), ((v 23), .inl (cI, 50, .inl (fun _ => 0))), ((v 24), .inl (cI, 800, .inl (fun _ => 0)))]) (va_runV (As := [.int (xs (1 : Int32).toNatClampNeg), .int (xs (2 : Int32).toNatClampNeg), .int (xs (3 : Int32).toNatClampNeg), .int (xs (4 : Int32).toNatClampNeg), .int (xs (5 : Int32).toNatClampNeg)]) (rest := [.int 20]) ⟨hx, hb, hml, hown, hts⟩ (c_X12_feed l D cI cJ cB cZ cO h1 v ((xs (1 : Int32).toNatClampNeg)) ((xs (2 : Int32).toNatClampNeg)) ((xs (3 : Int32).toNatClampNeg)) ((xs (4 : Int32).toNatClampNeg)) ((xs (5 : Int32).toNatClampNeg)) H.size) (cwV 5 hts gL_law_X12_feed rfl rfl rfl (by decide +kernel) ⟨Nat.le_of_ble_eq_true rfl, Nat.le_of_ble_eq_true rfl⟩) (ct_preV (T := ct_T cI cJ cB cZ cO) (ci := 12) (q0 := 0) hE hP hD [0, 4] (by decide) rfl rfl rfl) rfl rfl hl.1 rfl (lv_room (Nat.le_of_ble_eq_true rfl)) dL_law_351 ⟨Nat.le_of_ble_eq_true rfl, Nat.le_of_ble_eq_true rfl⟩) hP hD hS hA [0, 4] [1, 2, 3, 5, 6, 7, 8, 9, 10, 11, 12, 13, 14] rfl rfl (by decide) (by decide) (fun rz u H locs hw hP hD hS => ?_)
  have hP : va_P D vwCl [((v 1), .inl (cI, 4, .inl (szf))), ((v 2), .inl (cI, 4, .inl (fun _ => 0))), ((v 3), .inl (cJ, 240, .inr (.inl (fun _ => 0)))), ((v 25), .inl (cZ, 3, .inl (fun _ => 0))), ((v 16), .inl (cI, 5, .inl (fun _ => 0))), ((v 17), .inl (cI, 55, .inl (fun _ => 0))), ((v 18), .inl (cI, 120, .inl (fun _ => 0))), ((v 19), .inl (cI, 30, .inl (fun _ => 0))), ((v 20), .inl (cI, 160, .inl (fun _ => 0))), ((v 21), .inl (cZ, 1000, .inl (fun _ => 0))), ((v 22), .inl (cI, 120, .inl (fun _ => 0))), ((v 23), .inl (cI, 50, .inl (fun _ => 0))), ((v 24), .inl (cI, 800, .inl (fun _ => 0)))] H := hP
  have hD : va_D A [((v 1), .inl (cI, 4, .inl (szf))), ((v 2), .inl (cI, 4, .inl (fun _ => 0))), ((v 3), .inl (cJ, 240, .inr (.inl (fun _ => 0)))), ((v 25), .inl (cZ, 3, .inl (fun _ => 0))), ((v 16), .inl (cI, 5, .inl (fun _ => 0))), ((v 17), .inl (cI, 55, .inl (fun _ => 0))), ((v 18), .inl (cI, 120, .inl (fun _ => 0))), ((v 19), .inl (cI, 30, .inl (fun _ => 0))), ((v 20), .inl (cI, 160, .inl (fun _ => 0))), ((v 21), .inl (cZ, 1000, .inl (fun _ => 0))), ((v 22), .inl (cI, 120, .inl (fun _ => 0))), ((v 23), .inl (cI, 50, .inl (fun _ => 0))), ((v 24), .inl (cI, 800, .inl (fun _ => 0)))] := hD
  obtain ⟨rfl, hq580⟩ := hw
  refine lv_icmp_eq (tgt := 2167) hx hb dL_law_354 (by decide) (fun _ => ?_) (fun hc => absurd hc (by decide))
  refine W.widen (k := 107) (n := 36842) (Nat.le_of_ble_eq_true rfl) (Nat.le_of_ble_eq_true rfl) ?_
  exact law_tail hx hb hml hr hlocks hX hbl hbA hA hAf hS (lv_sub hl [0, 1, 2, 3] rfl)
set_option maxHeartbeats 4000000 in
set_option maxRecDepth 100000 in
theorem law_c1 {p : Program} {l : Launch} {e : Env} {s : State} {m : MethodId} {below : List Frame} {meth : Method} {c : Code} {A : Nat → Prop} {b : Nat} {xs : Nat → Int32} (hx : p.tables.exec = Jvm.exec) (hb : c.code = code) (hml : c.maxLocals = 4) (hr : meth.sig.returnType = ret) (hlocks : meth.locks = false) (hX : va_X b 6 xs s s.heap) (hbl : b < s.heap.size) (hbA : ¬ A b) (hA : ∀ q : Nat, s.heap.size ≤ q → A q) (hAf : ∀ q : Nat, A q → s.heap.size ≤ q) (D : va_G) (cI cJ cB cZ cO : ClassId) (h0 h1 : Nat) (u v : Nat → Nat) (hown : s.vm.findClass RL = some m.cls) (hts : ∀ w ∈ wsL_law, w.before #[Value.ref b] s = true) (hE : ct_E D (ct_T cI cJ cB cZ cO) s) {H : Heap} {locs : List Loc} (hP : va_P D vwCl (LW cI cJ cB cZ cO h0 h1 u v) H) (hD : va_D A (LW cI cJ cB cZ cO h0 h1 u v)) (hS : va_S A s.heap H locs) {ls : Array Slot} (hl : lv_has ls 4 [(3, .int 0), (2, .ref h1), (1, .ref h0), (0, .ref b)]) : W p l e room_1 s m #[Value.ref b] below meth c H locs 107 36842 (lw_Z below #[Value.ref b] s) (F0 m 359 ls []) := by
  have hK := hE.1
  refine lv_aload_n hx hb dL_law_359 rfl (lv_at hl 2 rfl) ?_
  refine lv_aload_n hx hb dL_law_360 rfl (lv_at hl 3 rfl) ?_
  refine lv_iload_n hx hb dL_law_361 rfl (lv_at hl 0 rfl) ?_
  refine lv_iconst (v := 1) hx hb dL_law_362 (by decide) ?_
  refine lv_iadd hx hb dL_law_363 ?_
  refine lv_topi (fun z581 ez581 => ?_)
  obtain rfl : z581 = 1 := ez581.trans (by decide)
  refine va_sld hx hb hX hbl hbA hS (tq_in (a := 1) (by decide) (by omega)) dL_law_364 ?_
  refine ct_calli (D := D) (wc := (w_c_X11_end cI cJ cB cZ cO h0 u)) (wr := [mo h1 v 0 0, ((v 1), .inl (cI, 4, .inl (szf))), ((v 2), .inl (cI, 4, .inl (fun _ => 0))), ((v 3), .inl (cJ, 240, .inr (.inl (fun _ => 0)))), ((v 5), .inl (cB, 1200, .inl (fun _ => 0))), ((v 25), .inl (cZ, 3, .inl (fun _ => 0))), ((v 16), .inl (cI, 5, .inl (fun _ => 0))), ((v 17), .inl (cI, 55, .inl (fun _ => 0))), ((v 18), .inl (cI, 120, .inl (fun _ => 0))), ((v 19), .inl (cI, 30, .inl (fun _ => 0))), ((v 20), .inl (cI, 160, .inl (fun _ => 0))), ((v 21), .inl (cZ, 1000, .inl (fun _ => 0))), ((v 22), .inl (cI, 120, .inl (fun _ => 0))), ((v 23), .inl (cI, 50, .inl (fun _ => 0))), ((v 24), .inl (cI, 800, .inl (fun _ => 0)))]) (va_runV (As := [.int (xs (1 : Int32).toNatClampNeg)]) (rest := []) ⟨hx, hb, hml, hown, hts⟩ (c_X11_end l D cI cJ cB cZ cO h0 u ((xs (1 : Int32).toNatClampNeg)) H.size) (cwV 1 hts gL_law_X11_end rfl rfl rfl (by decide +kernel) ⟨Nat.le_of_ble_eq_true rfl, Nat.le_of_ble_eq_true rfl⟩) (ct_preV (T := ct_T cI cJ cB cZ cO) (ci := 11) (q0 := 0) hE hP hD [0, 2] (by decide) rfl rfl rfl) rfl rfl hl.1 rfl (lv_room (Nat.le_of_ble_eq_true rfl)) dL_law_365 ⟨Nat.le_of_ble_eq_true rfl, Nat.le_of_ble_eq_true rfl⟩) hP hD hS hA [0, 2] [55, 56, 57, 58, 59, 60, 61, 62, 63, 64, 65, 66, 67, 68, 69] rfl rfl (by decide) (by decide) (fun rz u H locs hw hP hD hS => ?_)
  have hP : va_P D vwCl [mo h1 v 0 0, ((v 1), .inl (cI, 4, .inl (szf))), ((v 2), .inl (cI, 4, .inl (fun _ => 0))), ((v 3), .inl (cJ, 240, .inr (.inl (fun _ => 0)))), ((v 5), .inl (cB, 1200, .inl (fun _ => 0))), ((v 25), .inl (cZ, 3, .inl (fun _ => 0))), ((v 16), .inl (cI, 5, .inl (fun _ => 0))), ((v 17), .inl (cI, 55, .inl (fun _ => 0))), ((v 18), .inl (cI, 120, .inl (fun _ => 0))), ((v 19), .inl (cI, 30, .inl (fun _ => 0))), ((v 20), .inl (cI, 160, .inl (fun _ => 0))), ((v 21), .inl (cZ, 1000, .inl (fun _ => 0))), ((v 22), .inl (cI, 120, .inl (fun _ => 0))), ((v 23), .inl (cI, 50, .inl (fun _ => 0))), ((v 24), .inl (cI, 800, .inl (fun _ => 0)))] H := hP
  have hD : va_D A [mo h1 v 0 0, ((v 1), .inl (cI, 4, .inl (szf))), ((v 2), .inl (cI, 4, .inl (fun _ => 0))), ((v 3), .inl (cJ, 240, .inr (.inl (fun _ => 0)))), ((v 5), .inl (cB, 1200, .inl (fun _ => 0))), ((v 25), .inl (cZ, 3, .inl (fun _ => 0))), ((v 16), .inl (cI, 5, .inl (fun _ => 0))), ((v 17), .inl (cI, 55, .inl (fun _ => 0))), ((v 18), .inl (cI, 120, .inl (fun _ => 0))), ((v 19), .inl (cI, 30, .inl (fun _ => 0))), ((v 20), .inl (cI, 160, .inl (fun _ => 0))), ((v 21), .inl (cZ, 1000, .inl (fun _ => 0))), ((v 22), .inl (cI, 120, .inl (fun _ => 0))), ((v 23), .inl (cI, 50, .inl (fun _ => 0))), ((v 24), .inl (cI, 800, .inl (fun _ => 0)))] := hD
  rcases hw with ⟨rfl, hq582⟩ | ⟨rfl, hq582⟩
  · refine lv_aload_n hx hb dL_law_368 rfl (lv_at hl 1 rfl) ?_
    refine lv_aload_n hx hb dL_law_369 rfl (lv_at hl 3 rfl) ?_
    refine lv_iload_n hx hb dL_law_370 rfl (lv_at hl 0 rfl) ?_
    refine lv_iconst (v := 1) hx hb dL_law_371 (by decide) ?_
    refine lv_iadd hx hb dL_law_372 ?_
    refine lv_topi (fun z583 ez583 => ?_)
    obtain rfl : z583 = 1 := ez583.trans (by decide)
    refine va_sld hx hb hX hbl hbA hS (tq_in (a := 1) (by decide) (by omega)) dL_law_373 ?_
    refine ct_calli (D := D) (wc := (w_c_X12_end cI cJ cB cZ cO h1 v)) (wr := [((v 1), .inl (cI, 4, .inl (szf))), ((v 2), .inl (cI, 4, .inl (fun _ => 0))), ((v 3), .inl (cJ, 240, .inr (.inl (fun _ => 0)))), ((v 5), .inl (cB, 1200, .inl (fun _ => 0))), ((v 25), .inl (cZ, 3, .inl (fun _ => 0))), ((v 16), .inl (cI, 5, .inl (fun _ => 0))), ((v 17), .inl (cI, 55, .inl (fun _ => 0))), ((v 18), .inl (cI, 120, .inl (fun _ => 0))), ((v 19), .inl (cI, 30, .inl (fun _ => 0))), ((v 20), .inl (cI, 160, .inl (fun _ => 0))), ((v 21), .inl (cZ, 1000, .inl (fun _ => 0))), ((v 22), .inl (cI, 120, .inl (fun _ => 0))), ((v 23), .inl (cI, 50, .inl (fun _ => 0))), ((v 24), .inl (cI, 800, .inl (fun _ => 0)))]) (va_runV (As := [.int (xs (1 : Int32).toNatClampNeg)]) (rest := [.int 0]) ⟨hx, hb, hml, hown, hts⟩ (c_X12_end l D cI cJ cB cZ cO h1 v ((xs (1 : Int32).toNatClampNeg)) H.size) (cwV 1 hts gL_law_X12_end rfl rfl rfl (by decide +kernel) ⟨Nat.le_of_ble_eq_true rfl, Nat.le_of_ble_eq_true rfl⟩) (ct_preV (T := ct_T cI cJ cB cZ cO) (ci := 12) (q0 := 0) hE hP hD [0] (by decide) rfl rfl rfl) rfl rfl hl.1 rfl (lv_room (Nat.le_of_ble_eq_true rfl)) dL_law_374 ⟨Nat.le_of_ble_eq_true rfl, Nat.le_of_ble_eq_true rfl⟩) hP hD hS hA [0] [1, 2, 3, 4, 5, 6, 7, 8, 9, 10, 11, 12, 13, 14] rfl rfl (by decide) (by decide) (fun rz u H locs hw hP hD hS => ?_)
    have hP : va_P D vwCl [((v 1), .inl (cI, 4, .inl (szf))), ((v 2), .inl (cI, 4, .inl (fun _ => 0))), ((v 3), .inl (cJ, 240, .inr (.inl (fun _ => 0)))), ((v 5), .inl (cB, 1200, .inl (fun _ => 0))), ((v 25), .inl (cZ, 3, .inl (fun _ => 0))), ((v 16), .inl (cI, 5, .inl (fun _ => 0))), ((v 17), .inl (cI, 55, .inl (fun _ => 0))), ((v 18), .inl (cI, 120, .inl (fun _ => 0))), ((v 19), .inl (cI, 30, .inl (fun _ => 0))), ((v 20), .inl (cI, 160, .inl (fun _ => 0))), ((v 21), .inl (cZ, 1000, .inl (fun _ => 0))), ((v 22), .inl (cI, 120, .inl (fun _ => 0))), ((v 23), .inl (cI, 50, .inl (fun _ => 0))), ((v 24), .inl (cI, 800, .inl (fun _ => 0)))] H := hP
    have hD : va_D A [((v 1), .inl (cI, 4, .inl (szf))), ((v 2), .inl (cI, 4, .inl (fun _ => 0))), ((v 3), .inl (cJ, 240, .inr (.inl (fun _ => 0)))), ((v 5), .inl (cB, 1200, .inl (fun _ => 0))), ((v 25), .inl (cZ, 3, .inl (fun _ => 0))), ((v 16), .inl (cI, 5, .inl (fun _ => 0))), ((v 17), .inl (cI, 55, .inl (fun _ => 0))), ((v 18), .inl (cI, 120, .inl (fun _ => 0))), ((v 19), .inl (cI, 30, .inl (fun _ => 0))), ((v 20), .inl (cI, 160, .inl (fun _ => 0))), ((v 21), .inl (cZ, 1000, .inl (fun _ => 0))), ((v 22), .inl (cI, 120, .inl (fun _ => 0))), ((v 23), .inl (cI, 50, .inl (fun _ => 0))), ((v 24), .inl (cI, 800, .inl (fun _ => 0)))] := hD
    rcases hw with ⟨rfl, hq584⟩ | ⟨rfl, hq584⟩
    · refine lv_icmp_eq (tgt := 2167) hx hb dL_law_377 (by decide) (fun _ => ?_) (fun hc => absurd hc (by decide))
      refine W.widen (k := 107) (n := 36842) (Nat.le_of_ble_eq_true rfl) (Nat.le_of_ble_eq_true rfl) ?_
      exact law_tail hx hb hml hr hlocks hX hbl hbA hA hAf hS (lv_sub hl [0, 1, 2, 3] rfl)
    · exfalso
      omega
  · refine lv_aload_n hx hb dL_law_368 rfl (lv_at hl 1 rfl) ?_
    refine lv_aload_n hx hb dL_law_369 rfl (lv_at hl 3 rfl) ?_
    refine lv_iload_n hx hb dL_law_370 rfl (lv_at hl 0 rfl) ?_
    refine lv_iconst (v := 1) hx hb dL_law_371 (by decide) ?_
    refine lv_iadd hx hb dL_law_372 ?_
    refine lv_topi (fun z585 ez585 => ?_)
    obtain rfl : z585 = 1 := ez585.trans (by decide)
    refine va_sld hx hb hX hbl hbA hS (tq_in (a := 1) (by decide) (by omega)) dL_law_373 ?_
    refine ct_calli (D := D) (wc := (w_c_X12_end cI cJ cB cZ cO h1 v)) (wr := [((v 1), .inl (cI, 4, .inl (szf))), ((v 2), .inl (cI, 4, .inl (fun _ => 0))), ((v 3), .inl (cJ, 240, .inr (.inl (fun _ => 0)))), ((v 5), .inl (cB, 1200, .inl (fun _ => 0))), ((v 25), .inl (cZ, 3, .inl (fun _ => 0))), ((v 16), .inl (cI, 5, .inl (fun _ => 0))), ((v 17), .inl (cI, 55, .inl (fun _ => 0))), ((v 18), .inl (cI, 120, .inl (fun _ => 0))), ((v 19), .inl (cI, 30, .inl (fun _ => 0))), ((v 20), .inl (cI, 160, .inl (fun _ => 0))), ((v 21), .inl (cZ, 1000, .inl (fun _ => 0))), ((v 22), .inl (cI, 120, .inl (fun _ => 0))), ((v 23), .inl (cI, 50, .inl (fun _ => 0))), ((v 24), .inl (cI, 800, .inl (fun _ => 0)))]) (va_runV (As := [.int (xs (1 : Int32).toNatClampNeg)]) (rest := [.int (-1)]) ⟨hx, hb, hml, hown, hts⟩ (c_X12_end l D cI cJ cB cZ cO h1 v ((xs (1 : Int32).toNatClampNeg)) H.size) (cwV 1 hts gL_law_X12_end rfl rfl rfl (by decide +kernel) ⟨Nat.le_of_ble_eq_true rfl, Nat.le_of_ble_eq_true rfl⟩) (ct_preV (T := ct_T cI cJ cB cZ cO) (ci := 12) (q0 := 0) hE hP hD [0] (by decide) rfl rfl rfl) rfl rfl hl.1 rfl (lv_room (Nat.le_of_ble_eq_true rfl)) dL_law_374 ⟨Nat.le_of_ble_eq_true rfl, Nat.le_of_ble_eq_true rfl⟩) hP hD hS hA [0] [1, 2, 3, 4, 5, 6, 7, 8, 9, 10, 11, 12, 13, 14] rfl rfl (by decide) (by decide) (fun rz u H locs hw hP hD hS => ?_)
    have hP : va_P D vwCl [((v 1), .inl (cI, 4, .inl (szf))), ((v 2), .inl (cI, 4, .inl (fun _ => 0))), ((v 3), .inl (cJ, 240, .inr (.inl (fun _ => 0)))), ((v 5), .inl (cB, 1200, .inl (fun _ => 0))), ((v 25), .inl (cZ, 3, .inl (fun _ => 0))), ((v 16), .inl (cI, 5, .inl (fun _ => 0))), ((v 17), .inl (cI, 55, .inl (fun _ => 0))), ((v 18), .inl (cI, 120, .inl (fun _ => 0))), ((v 19), .inl (cI, 30, .inl (fun _ => 0))), ((v 20), .inl (cI, 160, .inl (fun _ => 0))), ((v 21), .inl (cZ, 1000, .inl (fun _ => 0))), ((v 22), .inl (cI, 120, .inl (fun _ => 0))), ((v 23), .inl (cI, 50, .inl (fun _ => 0))), ((v 24), .inl (cI, 800, .inl (fun _ => 0)))] H := hP
    have hD : va_D A [((v 1), .inl (cI, 4, .inl (szf))), ((v 2), .inl (cI, 4, .inl (fun _ => 0))), ((v 3), .inl (cJ, 240, .inr (.inl (fun _ => 0)))), ((v 5), .inl (cB, 1200, .inl (fun _ => 0))), ((v 25), .inl (cZ, 3, .inl (fun _ => 0))), ((v 16), .inl (cI, 5, .inl (fun _ => 0))), ((v 17), .inl (cI, 55, .inl (fun _ => 0))), ((v 18), .inl (cI, 120, .inl (fun _ => 0))), ((v 19), .inl (cI, 30, .inl (fun _ => 0))), ((v 20), .inl (cI, 160, .inl (fun _ => 0))), ((v 21), .inl (cZ, 1000, .inl (fun _ => 0))), ((v 22), .inl (cI, 120, .inl (fun _ => 0))), ((v 23), .inl (cI, 50, .inl (fun _ => 0))), ((v 24), .inl (cI, 800, .inl (fun _ => 0)))] := hD
    rcases hw with ⟨rfl, hq586⟩ | ⟨rfl, hq586⟩
    · exfalso
      omega
    · refine lv_icmp_eq (tgt := 2167) hx hb dL_law_377 (by decide) (fun _ => ?_) (fun hc => absurd hc (by decide))
      refine W.widen (k := 107) (n := 36842) (Nat.le_of_ble_eq_true rfl) (Nat.le_of_ble_eq_true rfl) ?_
      exact law_tail hx hb hml hr hlocks hX hbl hbA hA hAf hS (lv_sub hl [0, 1, 2, 3] rfl)
set_option maxHeartbeats 4000000 in
set_option maxRecDepth 100000 in
theorem law_c2 {p : Program} {l : Launch} {e : Env} {s : State} {m : MethodId} {below : List Frame} {meth : Method} {c : Code} {A : Nat → Prop} {b : Nat} {xs : Nat → Int32} (hx : p.tables.exec = Jvm.exec) (hb : c.code = code) (hml : c.maxLocals = 4) (hr : meth.sig.returnType = ret) (hlocks : meth.locks = false) (hX : va_X b 6 xs s s.heap) (hbl : b < s.heap.size) (hbA : ¬ A b) (hA : ∀ q : Nat, s.heap.size ≤ q → A q) (hAf : ∀ q : Nat, A q → s.heap.size ≤ q) (D : va_G) (cI cJ cB cZ cO : ClassId) (h0 h1 : Nat) (u v : Nat → Nat) (hown : s.vm.findClass RL = some m.cls) (hts : ∀ w ∈ wsL_law, w.before #[Value.ref b] s = true) (hE : ct_E D (ct_T cI cJ cB cZ cO) s) {H : Heap} {locs : List Loc} (hP : va_P D vwCl (LW cI cJ cB cZ cO h0 h1 u v) H) (hD : va_D A (LW cI cJ cB cZ cO h0 h1 u v)) (hS : va_S A s.heap H locs) {ls : Array Slot} (hl : lv_has ls 4 [(3, .int 0), (2, .ref h1), (1, .ref h0), (0, .ref b)]) : W p l e room_1 s m #[Value.ref b] below meth c H locs 107 36842 (lw_Z below #[Value.ref b] s) (F0 m 382 ls []) := by
  have hK := hE.1
  refine lv_aload_n hx hb dL_law_382 rfl (lv_at hl 2 rfl) ?_
  refine ct_calli (D := D) (wc := (w_c_X11_dance cI cJ cB cZ cO h0 u)) (wr := [mo h1 v 0 0, ((v 1), .inl (cI, 4, .inl (szf))), ((v 2), .inl (cI, 4, .inl (fun _ => 0))), ((v 3), .inl (cJ, 240, .inr (.inl (fun _ => 0)))), ((v 5), .inl (cB, 1200, .inl (fun _ => 0))), ((v 25), .inl (cZ, 3, .inl (fun _ => 0))), ((v 16), .inl (cI, 5, .inl (fun _ => 0))), ((v 17), .inl (cI, 55, .inl (fun _ => 0))), ((v 18), .inl (cI, 120, .inl (fun _ => 0))), ((v 19), .inl (cI, 30, .inl (fun _ => 0))), ((v 20), .inl (cI, 160, .inl (fun _ => 0))), ((v 21), .inl (cZ, 1000, .inl (fun _ => 0))), ((v 22), .inl (cI, 120, .inl (fun _ => 0))), ((v 23), .inl (cI, 50, .inl (fun _ => 0))), ((v 24), .inl (cI, 800, .inl (fun _ => 0)))]) (va_runV (As := []) (rest := []) ⟨hx, hb, hml, hown, hts⟩ (c_X11_dance l D cI cJ cB cZ cO h0 u H.size) (cwV 0 hts gL_law_X11_dance rfl rfl rfl (by decide +kernel) ⟨Nat.le_of_ble_eq_true rfl, Nat.le_of_ble_eq_true rfl⟩) (ct_preV (T := ct_T cI cJ cB cZ cO) (ci := 11) (q0 := 0) hE hP hD [0, 1, 2, 14, 15, 16, 17, 18] (by decide) rfl rfl rfl) rfl rfl hl.1 rfl (lv_room (Nat.le_of_ble_eq_true rfl)) dL_law_383 ⟨Nat.le_of_ble_eq_true rfl, Nat.le_of_ble_eq_true rfl⟩) hP hD hS hA [0, 1, 2, 14, 15, 16, 17, 18] [55, 56, 57, 58, 59, 60, 61, 62, 63, 64, 65, 66, 67, 68, 69] rfl rfl (by decide) (by decide) (fun rz u H locs hw hP hD hS => ?_)
  have hP : va_P D vwCl [mo h1 v 0 0, ((v 1), .inl (cI, 4, .inl (szf))), ((v 2), .inl (cI, 4, .inl (fun _ => 0))), ((v 3), .inl (cJ, 240, .inr (.inl (fun _ => 0)))), ((v 5), .inl (cB, 1200, .inl (fun _ => 0))), ((v 25), .inl (cZ, 3, .inl (fun _ => 0))), ((v 16), .inl (cI, 5, .inl (fun _ => 0))), ((v 17), .inl (cI, 55, .inl (fun _ => 0))), ((v 18), .inl (cI, 120, .inl (fun _ => 0))), ((v 19), .inl (cI, 30, .inl (fun _ => 0))), ((v 20), .inl (cI, 160, .inl (fun _ => 0))), ((v 21), .inl (cZ, 1000, .inl (fun _ => 0))), ((v 22), .inl (cI, 120, .inl (fun _ => 0))), ((v 23), .inl (cI, 50, .inl (fun _ => 0))), ((v 24), .inl (cI, 800, .inl (fun _ => 0)))] H := hP
  have hD : va_D A [mo h1 v 0 0, ((v 1), .inl (cI, 4, .inl (szf))), ((v 2), .inl (cI, 4, .inl (fun _ => 0))), ((v 3), .inl (cJ, 240, .inr (.inl (fun _ => 0)))), ((v 5), .inl (cB, 1200, .inl (fun _ => 0))), ((v 25), .inl (cZ, 3, .inl (fun _ => 0))), ((v 16), .inl (cI, 5, .inl (fun _ => 0))), ((v 17), .inl (cI, 55, .inl (fun _ => 0))), ((v 18), .inl (cI, 120, .inl (fun _ => 0))), ((v 19), .inl (cI, 30, .inl (fun _ => 0))), ((v 20), .inl (cI, 160, .inl (fun _ => 0))), ((v 21), .inl (cZ, 1000, .inl (fun _ => 0))), ((v 22), .inl (cI, 120, .inl (fun _ => 0))), ((v 23), .inl (cI, 50, .inl (fun _ => 0))), ((v 24), .inl (cI, 800, .inl (fun _ => 0)))] := hD
  obtain ⟨rfl, hq587⟩ := hw
  refine lv_aload_n hx hb dL_law_386 rfl (lv_at hl 1 rfl) ?_
  refine ct_calli (D := D) (wc := (w_c_X12_dance cI cJ cB cZ cO h1 v)) (wr := [((v 1), .inl (cI, 4, .inl (szf))), ((v 2), .inl (cI, 4, .inl (fun _ => 0))), ((v 3), .inl (cJ, 240, .inr (.inl (fun _ => 0)))), ((v 5), .inl (cB, 1200, .inl (fun _ => 0))), ((v 25), .inl (cZ, 3, .inl (fun _ => 0)))]) (va_runV (As := []) (rest := [.int 0]) ⟨hx, hb, hml, hown, hts⟩ (c_X12_dance l D cI cJ cB cZ cO h1 v H.size) (cwV 0 hts gL_law_X12_dance rfl rfl rfl (by decide +kernel) ⟨Nat.le_of_ble_eq_true rfl, Nat.le_of_ble_eq_true rfl⟩) (ct_preV (T := ct_T cI cJ cB cZ cO) (ci := 12) (q0 := 0) hE hP hD [0, 6, 7, 8, 9, 10, 11, 12, 13, 14] (by decide) rfl rfl rfl) rfl rfl hl.1 rfl (lv_room (Nat.le_of_ble_eq_true rfl)) dL_law_387 ⟨Nat.le_of_ble_eq_true rfl, Nat.le_of_ble_eq_true rfl⟩) hP hD hS hA [0, 6, 7, 8, 9, 10, 11, 12, 13, 14] [1, 2, 3, 4, 5] rfl rfl (by decide) (by decide) (fun rz u H locs hw hP hD hS => ?_)
  have hP : va_P D vwCl [((v 1), .inl (cI, 4, .inl (szf))), ((v 2), .inl (cI, 4, .inl (fun _ => 0))), ((v 3), .inl (cJ, 240, .inr (.inl (fun _ => 0)))), ((v 5), .inl (cB, 1200, .inl (fun _ => 0))), ((v 25), .inl (cZ, 3, .inl (fun _ => 0)))] H := hP
  have hD : va_D A [((v 1), .inl (cI, 4, .inl (szf))), ((v 2), .inl (cI, 4, .inl (fun _ => 0))), ((v 3), .inl (cJ, 240, .inr (.inl (fun _ => 0)))), ((v 5), .inl (cB, 1200, .inl (fun _ => 0))), ((v 25), .inl (cZ, 3, .inl (fun _ => 0)))] := hD
  obtain ⟨rfl, hq588⟩ := hw
  refine lv_icmp_eq (tgt := 2167) hx hb dL_law_390 (by decide) (fun _ => ?_) (fun hc => absurd hc (by decide))
  refine W.widen (k := 107) (n := 36842) (Nat.le_of_ble_eq_true rfl) (Nat.le_of_ble_eq_true rfl) ?_
  exact law_tail hx hb hml hr hlocks hX hbl hbA hA hAf hS (lv_sub hl [0, 1, 2, 3] rfl)
set_option maxHeartbeats 4000000 in
set_option maxRecDepth 100000 in
theorem law_c3 {p : Program} {l : Launch} {e : Env} {s : State} {m : MethodId} {below : List Frame} {meth : Method} {c : Code} {A : Nat → Prop} {b : Nat} {xs : Nat → Int32} (hx : p.tables.exec = Jvm.exec) (hb : c.code = code) (hml : c.maxLocals = 4) (hr : meth.sig.returnType = ret) (hlocks : meth.locks = false) (hX : va_X b 6 xs s s.heap) (hbl : b < s.heap.size) (hbA : ¬ A b) (hA : ∀ q : Nat, s.heap.size ≤ q → A q) (hAf : ∀ q : Nat, A q → s.heap.size ≤ q) (D : va_G) (cI cJ cB cZ cO : ClassId) (h0 h1 : Nat) (u v : Nat → Nat) (hown : s.vm.findClass RL = some m.cls) (hts : ∀ w ∈ wsL_law, w.before #[Value.ref b] s = true) (hE : ct_E D (ct_T cI cJ cB cZ cO) s) {H : Heap} {locs : List Loc} (hP : va_P D vwCl (LW cI cJ cB cZ cO h0 h1 u v) H) (hD : va_D A (LW cI cJ cB cZ cO h0 h1 u v)) (hS : va_S A s.heap H locs) {ls : Array Slot} (hl : lv_has ls 4 [(3, .int 0), (2, .ref h1), (1, .ref h0), (0, .ref b)]) : W p l e room_1 s m #[Value.ref b] below meth c H locs 107 36842 (lw_Z below #[Value.ref b] s) (F0 m 395 ls []) := by
  have hK := hE.1
  refine lv_aload_n hx hb dL_law_395 rfl (lv_at hl 2 rfl) ?_
  refine lv_aload_n hx hb dL_law_396 rfl (lv_at hl 3 rfl) ?_
  refine lv_iload_n hx hb dL_law_397 rfl (lv_at hl 0 rfl) ?_
  refine lv_iconst (v := 1) hx hb dL_law_398 (by decide) ?_
  refine lv_iadd hx hb dL_law_399 ?_
  refine lv_topi (fun z589 ez589 => ?_)
  obtain rfl : z589 = 1 := ez589.trans (by decide)
  refine va_sld hx hb hX hbl hbA hS (tq_in (a := 1) (by decide) (by omega)) dL_law_400 ?_
  refine ct_calli (D := D) (wc := (w_c_X11_fault cI cJ cB cZ cO h0 u)) (wr := [mo h1 v 0 0, ((v 1), .inl (cI, 4, .inl (szf))), ((v 2), .inl (cI, 4, .inl (fun _ => 0))), ((v 3), .inl (cJ, 240, .inr (.inl (fun _ => 0)))), ((v 5), .inl (cB, 1200, .inl (fun _ => 0))), ((v 25), .inl (cZ, 3, .inl (fun _ => 0))), ((v 16), .inl (cI, 5, .inl (fun _ => 0))), ((v 17), .inl (cI, 55, .inl (fun _ => 0))), ((v 18), .inl (cI, 120, .inl (fun _ => 0))), ((v 19), .inl (cI, 30, .inl (fun _ => 0))), ((v 20), .inl (cI, 160, .inl (fun _ => 0))), ((v 21), .inl (cZ, 1000, .inl (fun _ => 0))), ((v 22), .inl (cI, 120, .inl (fun _ => 0))), ((v 23), .inl (cI, 50, .inl (fun _ => 0))), ((v 24), .inl (cI, 800, .inl (fun _ => 0)))]) (va_runV (As := [.int (xs (1 : Int32).toNatClampNeg)]) (rest := []) ⟨hx, hb, hml, hown, hts⟩ (c_X11_fault l D cI cJ cB cZ cO h0 u ((xs (1 : Int32).toNatClampNeg)) H.size) (cwV 1 hts gL_law_X11_fault rfl rfl rfl (by decide +kernel) ⟨Nat.le_of_ble_eq_true rfl, Nat.le_of_ble_eq_true rfl⟩) (ct_preV (T := ct_T cI cJ cB cZ cO) (ci := 11) (q0 := 0) hE hP hD [0, 1] (by decide) rfl rfl rfl) rfl rfl hl.1 rfl (lv_room (Nat.le_of_ble_eq_true rfl)) dL_law_401 ⟨Nat.le_of_ble_eq_true rfl, Nat.le_of_ble_eq_true rfl⟩) hP hD hS hA [0, 1] [55, 56, 57, 58, 59, 60, 61, 62, 63, 64, 65, 66, 67, 68, 69] rfl rfl (by decide) (by decide) (fun rz u H locs hw hP hD hS => ?_)
  have hP : va_P D vwCl [mo h1 v 0 0, ((v 1), .inl (cI, 4, .inl (szf))), ((v 2), .inl (cI, 4, .inl (fun _ => 0))), ((v 3), .inl (cJ, 240, .inr (.inl (fun _ => 0)))), ((v 5), .inl (cB, 1200, .inl (fun _ => 0))), ((v 25), .inl (cZ, 3, .inl (fun _ => 0))), ((v 16), .inl (cI, 5, .inl (fun _ => 0))), ((v 17), .inl (cI, 55, .inl (fun _ => 0))), ((v 18), .inl (cI, 120, .inl (fun _ => 0))), ((v 19), .inl (cI, 30, .inl (fun _ => 0))), ((v 20), .inl (cI, 160, .inl (fun _ => 0))), ((v 21), .inl (cZ, 1000, .inl (fun _ => 0))), ((v 22), .inl (cI, 120, .inl (fun _ => 0))), ((v 23), .inl (cI, 50, .inl (fun _ => 0))), ((v 24), .inl (cI, 800, .inl (fun _ => 0)))] H := hP
  have hD : va_D A [mo h1 v 0 0, ((v 1), .inl (cI, 4, .inl (szf))), ((v 2), .inl (cI, 4, .inl (fun _ => 0))), ((v 3), .inl (cJ, 240, .inr (.inl (fun _ => 0)))), ((v 5), .inl (cB, 1200, .inl (fun _ => 0))), ((v 25), .inl (cZ, 3, .inl (fun _ => 0))), ((v 16), .inl (cI, 5, .inl (fun _ => 0))), ((v 17), .inl (cI, 55, .inl (fun _ => 0))), ((v 18), .inl (cI, 120, .inl (fun _ => 0))), ((v 19), .inl (cI, 30, .inl (fun _ => 0))), ((v 20), .inl (cI, 160, .inl (fun _ => 0))), ((v 21), .inl (cZ, 1000, .inl (fun _ => 0))), ((v 22), .inl (cI, 120, .inl (fun _ => 0))), ((v 23), .inl (cI, 50, .inl (fun _ => 0))), ((v 24), .inl (cI, 800, .inl (fun _ => 0)))] := hD
  rcases hw with ⟨rfl, hq590⟩ | ⟨rfl, hq590⟩
  · refine lv_aload_n hx hb dL_law_404 rfl (lv_at hl 1 rfl) ?_
    refine lv_aload_n hx hb dL_law_405 rfl (lv_at hl 3 rfl) ?_
    refine lv_iload_n hx hb dL_law_406 rfl (lv_at hl 0 rfl) ?_
    refine lv_iconst (v := 1) hx hb dL_law_407 (by decide) ?_
    refine lv_iadd hx hb dL_law_408 ?_
    refine lv_topi (fun z591 ez591 => ?_)
    obtain rfl : z591 = 1 := ez591.trans (by decide)
    refine va_sld hx hb hX hbl hbA hS (tq_in (a := 1) (by decide) (by omega)) dL_law_409 ?_
    refine ct_calli (D := D) (wc := (w_c_X12_fault cI cJ cB cZ cO h1 v)) (wr := [((v 1), .inl (cI, 4, .inl (szf))), ((v 2), .inl (cI, 4, .inl (fun _ => 0))), ((v 3), .inl (cJ, 240, .inr (.inl (fun _ => 0)))), ((v 5), .inl (cB, 1200, .inl (fun _ => 0))), ((v 25), .inl (cZ, 3, .inl (fun _ => 0))), ((v 16), .inl (cI, 5, .inl (fun _ => 0))), ((v 17), .inl (cI, 55, .inl (fun _ => 0))), ((v 18), .inl (cI, 120, .inl (fun _ => 0))), ((v 19), .inl (cI, 30, .inl (fun _ => 0))), ((v 20), .inl (cI, 160, .inl (fun _ => 0))), ((v 21), .inl (cZ, 1000, .inl (fun _ => 0))), ((v 22), .inl (cI, 120, .inl (fun _ => 0))), ((v 23), .inl (cI, 50, .inl (fun _ => 0))), ((v 24), .inl (cI, 800, .inl (fun _ => 0)))]) (va_runV (As := [.int (xs (1 : Int32).toNatClampNeg)]) (rest := [.int 0]) ⟨hx, hb, hml, hown, hts⟩ (c_X12_fault l D cI cJ cB cZ cO h1 v ((xs (1 : Int32).toNatClampNeg)) H.size) (cwV 1 hts gL_law_X12_fault rfl rfl rfl (by decide +kernel) ⟨Nat.le_of_ble_eq_true rfl, Nat.le_of_ble_eq_true rfl⟩) (ct_preV (T := ct_T cI cJ cB cZ cO) (ci := 12) (q0 := 0) hE hP hD [0] (by decide) rfl rfl rfl) rfl rfl hl.1 rfl (lv_room (Nat.le_of_ble_eq_true rfl)) dL_law_410 ⟨Nat.le_of_ble_eq_true rfl, Nat.le_of_ble_eq_true rfl⟩) hP hD hS hA [0] [1, 2, 3, 4, 5, 6, 7, 8, 9, 10, 11, 12, 13, 14] rfl rfl (by decide) (by decide) (fun rz u H locs hw hP hD hS => ?_)
    have hP : va_P D vwCl [((v 1), .inl (cI, 4, .inl (szf))), ((v 2), .inl (cI, 4, .inl (fun _ => 0))), ((v 3), .inl (cJ, 240, .inr (.inl (fun _ => 0)))), ((v 5), .inl (cB, 1200, .inl (fun _ => 0))), ((v 25), .inl (cZ, 3, .inl (fun _ => 0))), ((v 16), .inl (cI, 5, .inl (fun _ => 0))), ((v 17), .inl (cI, 55, .inl (fun _ => 0))), ((v 18), .inl (cI, 120, .inl (fun _ => 0))), ((v 19), .inl (cI, 30, .inl (fun _ => 0))), ((v 20), .inl (cI, 160, .inl (fun _ => 0))), ((v 21), .inl (cZ, 1000, .inl (fun _ => 0))), ((v 22), .inl (cI, 120, .inl (fun _ => 0))), ((v 23), .inl (cI, 50, .inl (fun _ => 0))), ((v 24), .inl (cI, 800, .inl (fun _ => 0)))] H := hP
    have hD : va_D A [((v 1), .inl (cI, 4, .inl (szf))), ((v 2), .inl (cI, 4, .inl (fun _ => 0))), ((v 3), .inl (cJ, 240, .inr (.inl (fun _ => 0)))), ((v 5), .inl (cB, 1200, .inl (fun _ => 0))), ((v 25), .inl (cZ, 3, .inl (fun _ => 0))), ((v 16), .inl (cI, 5, .inl (fun _ => 0))), ((v 17), .inl (cI, 55, .inl (fun _ => 0))), ((v 18), .inl (cI, 120, .inl (fun _ => 0))), ((v 19), .inl (cI, 30, .inl (fun _ => 0))), ((v 20), .inl (cI, 160, .inl (fun _ => 0))), ((v 21), .inl (cZ, 1000, .inl (fun _ => 0))), ((v 22), .inl (cI, 120, .inl (fun _ => 0))), ((v 23), .inl (cI, 50, .inl (fun _ => 0))), ((v 24), .inl (cI, 800, .inl (fun _ => 0)))] := hD
    rcases hw with ⟨rfl, hq592⟩ | ⟨rfl, hq592⟩
    · refine lv_icmp_eq (tgt := 2167) hx hb dL_law_413 (by decide) (fun _ => ?_) (fun hc => absurd hc (by decide))
      refine W.widen (k := 107) (n := 36842) (Nat.le_of_ble_eq_true rfl) (Nat.le_of_ble_eq_true rfl) ?_
      exact law_tail hx hb hml hr hlocks hX hbl hbA hA hAf hS (lv_sub hl [0, 1, 2, 3] rfl)
    · exfalso
      omega
  · refine lv_aload_n hx hb dL_law_404 rfl (lv_at hl 1 rfl) ?_
    refine lv_aload_n hx hb dL_law_405 rfl (lv_at hl 3 rfl) ?_
    refine lv_iload_n hx hb dL_law_406 rfl (lv_at hl 0 rfl) ?_
    refine lv_iconst (v := 1) hx hb dL_law_407 (by decide) ?_
    refine lv_iadd hx hb dL_law_408 ?_
    refine lv_topi (fun z593 ez593 => ?_)
    obtain rfl : z593 = 1 := ez593.trans (by decide)
    refine va_sld hx hb hX hbl hbA hS (tq_in (a := 1) (by decide) (by omega)) dL_law_409 ?_
    refine ct_calli (D := D) (wc := (w_c_X12_fault cI cJ cB cZ cO h1 v)) (wr := [((v 1), .inl (cI, 4, .inl (szf))), ((v 2), .inl (cI, 4, .inl (fun _ => 0))), ((v 3), .inl (cJ, 240, .inr (.inl (fun _ => 0)))), ((v 5), .inl (cB, 1200, .inl (fun _ => 0))), ((v 25), .inl (cZ, 3, .inl (fun _ => 0))), ((v 16), .inl (cI, 5, .inl (fun _ => 0))), ((v 17), .inl (cI, 55, .inl (fun _ => 0))), ((v 18), .inl (cI, 120, .inl (fun _ => 0))), ((v 19), .inl (cI, 30, .inl (fun _ => 0))), ((v 20), .inl (cI, 160, .inl (fun _ => 0))), ((v 21), .inl (cZ, 1000, .inl (fun _ => 0))), ((v 22), .inl (cI, 120, .inl (fun _ => 0))), ((v 23), .inl (cI, 50, .inl (fun _ => 0))), ((v 24), .inl (cI, 800, .inl (fun _ => 0)))]) (va_runV (As := [.int (xs (1 : Int32).toNatClampNeg)]) (rest := [.int (-1)]) ⟨hx, hb, hml, hown, hts⟩ (c_X12_fault l D cI cJ cB cZ cO h1 v ((xs (1 : Int32).toNatClampNeg)) H.size) (cwV 1 hts gL_law_X12_fault rfl rfl rfl (by decide +kernel) ⟨Nat.le_of_ble_eq_true rfl, Nat.le_of_ble_eq_true rfl⟩) (ct_preV (T := ct_T cI cJ cB cZ cO) (ci := 12) (q0 := 0) hE hP hD [0] (by decide) rfl rfl rfl) rfl rfl hl.1 rfl (lv_room (Nat.le_of_ble_eq_true rfl)) dL_law_410 ⟨Nat.le_of_ble_eq_true rfl, Nat.le_of_ble_eq_true rfl⟩) hP hD hS hA [0] [1, 2, 3, 4, 5, 6, 7, 8, 9, 10, 11, 12, 13, 14] rfl rfl (by decide) (by decide) (fun rz u H locs hw hP hD hS => ?_)
    have hP : va_P D vwCl [((v 1), .inl (cI, 4, .inl (szf))), ((v 2), .inl (cI, 4, .inl (fun _ => 0))), ((v 3), .inl (cJ, 240, .inr (.inl (fun _ => 0)))), ((v 5), .inl (cB, 1200, .inl (fun _ => 0))), ((v 25), .inl (cZ, 3, .inl (fun _ => 0))), ((v 16), .inl (cI, 5, .inl (fun _ => 0))), ((v 17), .inl (cI, 55, .inl (fun _ => 0))), ((v 18), .inl (cI, 120, .inl (fun _ => 0))), ((v 19), .inl (cI, 30, .inl (fun _ => 0))), ((v 20), .inl (cI, 160, .inl (fun _ => 0))), ((v 21), .inl (cZ, 1000, .inl (fun _ => 0))), ((v 22), .inl (cI, 120, .inl (fun _ => 0))), ((v 23), .inl (cI, 50, .inl (fun _ => 0))), ((v 24), .inl (cI, 800, .inl (fun _ => 0)))] H := hP
    have hD : va_D A [((v 1), .inl (cI, 4, .inl (szf))), ((v 2), .inl (cI, 4, .inl (fun _ => 0))), ((v 3), .inl (cJ, 240, .inr (.inl (fun _ => 0)))), ((v 5), .inl (cB, 1200, .inl (fun _ => 0))), ((v 25), .inl (cZ, 3, .inl (fun _ => 0))), ((v 16), .inl (cI, 5, .inl (fun _ => 0))), ((v 17), .inl (cI, 55, .inl (fun _ => 0))), ((v 18), .inl (cI, 120, .inl (fun _ => 0))), ((v 19), .inl (cI, 30, .inl (fun _ => 0))), ((v 20), .inl (cI, 160, .inl (fun _ => 0))), ((v 21), .inl (cZ, 1000, .inl (fun _ => 0))), ((v 22), .inl (cI, 120, .inl (fun _ => 0))), ((v 23), .inl (cI, 50, .inl (fun _ => 0))), ((v 24), .inl (cI, 800, .inl (fun _ => 0)))] := hD
    rcases hw with ⟨rfl, hq594⟩ | ⟨rfl, hq594⟩
    · exfalso
      omega
    · refine lv_icmp_eq (tgt := 2167) hx hb dL_law_413 (by decide) (fun _ => ?_) (fun hc => absurd hc (by decide))
      refine W.widen (k := 107) (n := 36842) (Nat.le_of_ble_eq_true rfl) (Nat.le_of_ble_eq_true rfl) ?_
      exact law_tail hx hb hml hr hlocks hX hbl hbA hA hAf hS (lv_sub hl [0, 1, 2, 3] rfl)
set_option maxHeartbeats 4000000 in
set_option maxRecDepth 100000 in
theorem law_c4 {p : Program} {l : Launch} {e : Env} {s : State} {m : MethodId} {below : List Frame} {meth : Method} {c : Code} {A : Nat → Prop} {b : Nat} {xs : Nat → Int32} (hx : p.tables.exec = Jvm.exec) (hb : c.code = code) (hml : c.maxLocals = 4) (hr : meth.sig.returnType = ret) (hlocks : meth.locks = false) (hX : va_X b 6 xs s s.heap) (hbl : b < s.heap.size) (hbA : ¬ A b) (hA : ∀ q : Nat, s.heap.size ≤ q → A q) (hAf : ∀ q : Nat, A q → s.heap.size ≤ q) (D : va_G) (cI cJ cB cZ cO : ClassId) (h0 h1 : Nat) (u v : Nat → Nat) (hown : s.vm.findClass RL = some m.cls) (hts : ∀ w ∈ wsL_law, w.before #[Value.ref b] s = true) (hE : ct_E D (ct_T cI cJ cB cZ cO) s) {H : Heap} {locs : List Loc} (hP : va_P D vwCl (LW cI cJ cB cZ cO h0 h1 u v) H) (hD : va_D A (LW cI cJ cB cZ cO h0 h1 u v)) (hS : va_S A s.heap H locs) {ls : Array Slot} (hl : lv_has ls 4 [(3, .int 0), (2, .ref h1), (1, .ref h0), (0, .ref b)]) : W p l e room_1 s m #[Value.ref b] below meth c H locs 107 36842 (lw_Z below #[Value.ref b] s) (F0 m 418 ls []) := by
  have hK := hE.1
  refine lv_aload_n hx hb dL_law_418 rfl (lv_at hl 2 rfl) ?_
  refine lv_aload_n hx hb dL_law_419 rfl (lv_at hl 3 rfl) ?_
  refine lv_iload_n hx hb dL_law_420 rfl (lv_at hl 0 rfl) ?_
  refine lv_iconst (v := 1) hx hb dL_law_421 (by decide) ?_
  refine lv_iadd hx hb dL_law_422 ?_
  refine lv_topi (fun z595 ez595 => ?_)
  obtain rfl : z595 = 1 := ez595.trans (by decide)
  refine va_sld hx hb hX hbl hbA hS (tq_in (a := 1) (by decide) (by omega)) dL_law_423 ?_
  refine lv_aload_n hx hb dL_law_424 rfl (lv_at hl 3 rfl) ?_
  refine lv_iload_n hx hb dL_law_425 rfl (lv_at hl 0 rfl) ?_
  refine lv_iconst (v := 2) hx hb dL_law_426 (by decide) ?_
  refine lv_iadd hx hb dL_law_427 ?_
  refine lv_topi (fun z596 ez596 => ?_)
  obtain rfl : z596 = 2 := ez596.trans (by decide)
  refine va_sld hx hb hX hbl hbA hS (tq_in (a := 2) (by decide) (by omega)) dL_law_428 ?_
  refine ct_calli (D := D) (wc := (w_c_X11_step cI cJ cB cZ cO h0 u)) (wr := [mo h1 v 0 0, ((v 1), .inl (cI, 4, .inl (szf))), ((v 2), .inl (cI, 4, .inl (fun _ => 0))), ((v 3), .inl (cJ, 240, .inr (.inl (fun _ => 0)))), ((v 5), .inl (cB, 1200, .inl (fun _ => 0))), ((v 25), .inl (cZ, 3, .inl (fun _ => 0))), ((v 16), .inl (cI, 5, .inl (fun _ => 0))), ((v 17), .inl (cI, 55, .inl (fun _ => 0))), ((v 18), .inl (cI, 120, .inl (fun _ => 0))), ((v 19), .inl (cI, 30, .inl (fun _ => 0))), ((v 20), .inl (cI, 160, .inl (fun _ => 0))), ((v 21), .inl (cZ, 1000, .inl (fun _ => 0))), ((v 22), .inl (cI, 120, .inl (fun _ => 0))), ((v 23), .inl (cI, 50, .inl (fun _ => 0))), ((v 24), .inl (cI, 800, .inl (fun _ => 0)))]) (va_runV (As := [.int (xs (1 : Int32).toNatClampNeg), .int (xs (2 : Int32).toNatClampNeg)]) (rest := []) ⟨hx, hb, hml, hown, hts⟩ (c_X11_step l D cI cJ cB cZ cO h0 u ((xs (1 : Int32).toNatClampNeg)) ((xs (2 : Int32).toNatClampNeg)) H.size) (cwV 2 hts gL_law_X11_step rfl rfl rfl (by decide +kernel) ⟨Nat.le_of_ble_eq_true rfl, Nat.le_of_ble_eq_true rfl⟩) (ct_preV (T := ct_T cI cJ cB cZ cO) (ci := 11) (q0 := 0) hE hP hD [0, 4] (by decide) rfl rfl rfl) rfl rfl hl.1 rfl (lv_room (Nat.le_of_ble_eq_true rfl)) dL_law_429 ⟨Nat.le_of_ble_eq_true rfl, Nat.le_of_ble_eq_true rfl⟩) hP hD hS hA [0, 4] [55, 56, 57, 58, 59, 60, 61, 62, 63, 64, 65, 66, 67, 68, 69] rfl rfl (by decide) (by decide) (fun rz u H locs hw hP hD hS => ?_)
  have hP : va_P D vwCl [mo h1 v 0 0, ((v 1), .inl (cI, 4, .inl (szf))), ((v 2), .inl (cI, 4, .inl (fun _ => 0))), ((v 3), .inl (cJ, 240, .inr (.inl (fun _ => 0)))), ((v 5), .inl (cB, 1200, .inl (fun _ => 0))), ((v 25), .inl (cZ, 3, .inl (fun _ => 0))), ((v 16), .inl (cI, 5, .inl (fun _ => 0))), ((v 17), .inl (cI, 55, .inl (fun _ => 0))), ((v 18), .inl (cI, 120, .inl (fun _ => 0))), ((v 19), .inl (cI, 30, .inl (fun _ => 0))), ((v 20), .inl (cI, 160, .inl (fun _ => 0))), ((v 21), .inl (cZ, 1000, .inl (fun _ => 0))), ((v 22), .inl (cI, 120, .inl (fun _ => 0))), ((v 23), .inl (cI, 50, .inl (fun _ => 0))), ((v 24), .inl (cI, 800, .inl (fun _ => 0)))] H := hP
  have hD : va_D A [mo h1 v 0 0, ((v 1), .inl (cI, 4, .inl (szf))), ((v 2), .inl (cI, 4, .inl (fun _ => 0))), ((v 3), .inl (cJ, 240, .inr (.inl (fun _ => 0)))), ((v 5), .inl (cB, 1200, .inl (fun _ => 0))), ((v 25), .inl (cZ, 3, .inl (fun _ => 0))), ((v 16), .inl (cI, 5, .inl (fun _ => 0))), ((v 17), .inl (cI, 55, .inl (fun _ => 0))), ((v 18), .inl (cI, 120, .inl (fun _ => 0))), ((v 19), .inl (cI, 30, .inl (fun _ => 0))), ((v 20), .inl (cI, 160, .inl (fun _ => 0))), ((v 21), .inl (cZ, 1000, .inl (fun _ => 0))), ((v 22), .inl (cI, 120, .inl (fun _ => 0))), ((v 23), .inl (cI, 50, .inl (fun _ => 0))), ((v 24), .inl (cI, 800, .inl (fun _ => 0)))] := hD
  obtain ⟨rfl, hq597⟩ := hw
  refine lv_aload_n hx hb dL_law_432 rfl (lv_at hl 1 rfl) ?_
  refine lv_aload_n hx hb dL_law_433 rfl (lv_at hl 3 rfl) ?_
  refine lv_iload_n hx hb dL_law_434 rfl (lv_at hl 0 rfl) ?_
  refine lv_iconst (v := 1) hx hb dL_law_435 (by decide) ?_
  refine lv_iadd hx hb dL_law_436 ?_
  refine lv_topi (fun z598 ez598 => ?_)
  obtain rfl : z598 = 1 := ez598.trans (by decide)
  refine va_sld hx hb hX hbl hbA hS (tq_in (a := 1) (by decide) (by omega)) dL_law_437 ?_
  refine lv_aload_n hx hb dL_law_438 rfl (lv_at hl 3 rfl) ?_
  refine lv_iload_n hx hb dL_law_439 rfl (lv_at hl 0 rfl) ?_
  refine lv_iconst (v := 2) hx hb dL_law_440 (by decide) ?_
  refine lv_iadd hx hb dL_law_441 ?_
  refine lv_topi (fun z599 ez599 => ?_)
  obtain rfl : z599 = 2 := ez599.trans (by decide)
  refine va_sld hx hb hX hbl hbA hS (tq_in (a := 2) (by decide) (by omega)) dL_law_442 ?_
  refine ct_calli (D := D) (wc := (w_c_X12_step cI cJ cB cZ cO h1 v)) (wr := [((v 1), .inl (cI, 4, .inl (szf))), ((v 2), .inl (cI, 4, .inl (fun _ => 0))), ((v 3), .inl (cJ, 240, .inr (.inl (fun _ => 0)))), ((v 5), .inl (cB, 1200, .inl (fun _ => 0))), ((v 25), .inl (cZ, 3, .inl (fun _ => 0))), ((v 17), .inl (cI, 55, .inl (fun _ => 0))), ((v 18), .inl (cI, 120, .inl (fun _ => 0))), ((v 19), .inl (cI, 30, .inl (fun _ => 0))), ((v 20), .inl (cI, 160, .inl (fun _ => 0))), ((v 21), .inl (cZ, 1000, .inl (fun _ => 0))), ((v 22), .inl (cI, 120, .inl (fun _ => 0))), ((v 23), .inl (cI, 50, .inl (fun _ => 0))), ((v 24), .inl (cI, 800, .inl (fun _ => 0)))]) (va_runV (As := [.int (xs (1 : Int32).toNatClampNeg), .int (xs (2 : Int32).toNatClampNeg)]) (rest := [.int (-2)]) ⟨hx, hb, hml, hown, hts⟩ (c_X12_step l D cI cJ cB cZ cO h1 v ((xs (1 : Int32).toNatClampNeg)) ((xs (2 : Int32).toNatClampNeg)) H.size) (cwV 2 hts gL_law_X12_step rfl rfl rfl (by decide +kernel) ⟨Nat.le_of_ble_eq_true rfl, Nat.le_of_ble_eq_true rfl⟩) (ct_preV (T := ct_T cI cJ cB cZ cO) (ci := 12) (q0 := 0) hE hP hD [0, 6] (by decide) rfl rfl rfl) rfl rfl hl.1 rfl (lv_room (Nat.le_of_ble_eq_true rfl)) dL_law_443 ⟨Nat.le_of_ble_eq_true rfl, Nat.le_of_ble_eq_true rfl⟩) hP hD hS hA [0, 6] [1, 2, 3, 4, 5, 7, 8, 9, 10, 11, 12, 13, 14] rfl rfl (by decide) (by decide) (fun rz u H locs hw hP hD hS => ?_)
  have hP : va_P D vwCl [((v 1), .inl (cI, 4, .inl (szf))), ((v 2), .inl (cI, 4, .inl (fun _ => 0))), ((v 3), .inl (cJ, 240, .inr (.inl (fun _ => 0)))), ((v 5), .inl (cB, 1200, .inl (fun _ => 0))), ((v 25), .inl (cZ, 3, .inl (fun _ => 0))), ((v 17), .inl (cI, 55, .inl (fun _ => 0))), ((v 18), .inl (cI, 120, .inl (fun _ => 0))), ((v 19), .inl (cI, 30, .inl (fun _ => 0))), ((v 20), .inl (cI, 160, .inl (fun _ => 0))), ((v 21), .inl (cZ, 1000, .inl (fun _ => 0))), ((v 22), .inl (cI, 120, .inl (fun _ => 0))), ((v 23), .inl (cI, 50, .inl (fun _ => 0))), ((v 24), .inl (cI, 800, .inl (fun _ => 0)))] H := hP
  have hD : va_D A [((v 1), .inl (cI, 4, .inl (szf))), ((v 2), .inl (cI, 4, .inl (fun _ => 0))), ((v 3), .inl (cJ, 240, .inr (.inl (fun _ => 0)))), ((v 5), .inl (cB, 1200, .inl (fun _ => 0))), ((v 25), .inl (cZ, 3, .inl (fun _ => 0))), ((v 17), .inl (cI, 55, .inl (fun _ => 0))), ((v 18), .inl (cI, 120, .inl (fun _ => 0))), ((v 19), .inl (cI, 30, .inl (fun _ => 0))), ((v 20), .inl (cI, 160, .inl (fun _ => 0))), ((v 21), .inl (cZ, 1000, .inl (fun _ => 0))), ((v 22), .inl (cI, 120, .inl (fun _ => 0))), ((v 23), .inl (cI, 50, .inl (fun _ => 0))), ((v 24), .inl (cI, 800, .inl (fun _ => 0)))] := hD
  obtain ⟨rfl, hq600⟩ := hw
  refine lv_icmp_eq (tgt := 2167) hx hb dL_law_446 (by decide) (fun _ => ?_) (fun hc => absurd hc (by decide))
  refine W.widen (k := 107) (n := 36842) (Nat.le_of_ble_eq_true rfl) (Nat.le_of_ble_eq_true rfl) ?_
  exact law_tail hx hb hml hr hlocks hX hbl hbA hA hAf hS (lv_sub hl [0, 1, 2, 3] rfl)
set_option maxHeartbeats 4000000 in
set_option maxRecDepth 100000 in
theorem law_c5 {p : Program} {l : Launch} {e : Env} {s : State} {m : MethodId} {below : List Frame} {meth : Method} {c : Code} {A : Nat → Prop} {b : Nat} {xs : Nat → Int32} (hx : p.tables.exec = Jvm.exec) (hb : c.code = code) (hml : c.maxLocals = 4) (hr : meth.sig.returnType = ret) (hlocks : meth.locks = false) (hX : va_X b 6 xs s s.heap) (hbl : b < s.heap.size) (hbA : ¬ A b) (hA : ∀ q : Nat, s.heap.size ≤ q → A q) (hAf : ∀ q : Nat, A q → s.heap.size ≤ q) (D : va_G) (cI cJ cB cZ cO : ClassId) (h0 h1 : Nat) (u v : Nat → Nat) (hown : s.vm.findClass RL = some m.cls) (hts : ∀ w ∈ wsL_law, w.before #[Value.ref b] s = true) (hE : ct_E D (ct_T cI cJ cB cZ cO) s) {H : Heap} {locs : List Loc} (hP : va_P D vwCl (LW cI cJ cB cZ cO h0 h1 u v) H) (hD : va_D A (LW cI cJ cB cZ cO h0 h1 u v)) (hS : va_S A s.heap H locs) {ls : Array Slot} (hl : lv_has ls 4 [(3, .int 0), (2, .ref h1), (1, .ref h0), (0, .ref b)]) : W p l e room_1 s m #[Value.ref b] below meth c H locs 107 36842 (lw_Z below #[Value.ref b] s) (F0 m 451 ls []) := by
  have hK := hE.1
  refine lv_aload_n hx hb dL_law_451 rfl (lv_at hl 2 rfl) ?_
  refine lv_aload_n hx hb dL_law_452 rfl (lv_at hl 3 rfl) ?_
  refine lv_iload_n hx hb dL_law_453 rfl (lv_at hl 0 rfl) ?_
  refine lv_iconst (v := 1) hx hb dL_law_454 (by decide) ?_
  refine lv_iadd hx hb dL_law_455 ?_
  refine lv_topi (fun z601 ez601 => ?_)
  obtain rfl : z601 = 1 := ez601.trans (by decide)
  refine va_sld hx hb hX hbl hbA hS (tq_in (a := 1) (by decide) (by omega)) dL_law_456 ?_
  refine ct_calli (D := D) (wc := (w_c_X11_answers cI cJ cB cZ cO h0 u)) (wr := [mo h1 v 0 0, ((v 1), .inl (cI, 4, .inl (szf))), ((v 2), .inl (cI, 4, .inl (fun _ => 0))), ((v 3), .inl (cJ, 240, .inr (.inl (fun _ => 0)))), ((v 5), .inl (cB, 1200, .inl (fun _ => 0))), ((v 25), .inl (cZ, 3, .inl (fun _ => 0))), ((v 16), .inl (cI, 5, .inl (fun _ => 0))), ((v 17), .inl (cI, 55, .inl (fun _ => 0))), ((v 18), .inl (cI, 120, .inl (fun _ => 0))), ((v 19), .inl (cI, 30, .inl (fun _ => 0))), ((v 20), .inl (cI, 160, .inl (fun _ => 0))), ((v 21), .inl (cZ, 1000, .inl (fun _ => 0))), ((v 22), .inl (cI, 120, .inl (fun _ => 0))), ((v 23), .inl (cI, 50, .inl (fun _ => 0))), ((v 24), .inl (cI, 800, .inl (fun _ => 0)))]) (va_runV (As := [.int (xs (1 : Int32).toNatClampNeg)]) (rest := []) ⟨hx, hb, hml, hown, hts⟩ (c_X11_answers l D cI cJ cB cZ cO h0 u ((xs (1 : Int32).toNatClampNeg)) H.size) (cwV 1 hts gL_law_X11_answers rfl rfl rfl (by decide +kernel) ⟨Nat.le_of_ble_eq_true rfl, Nat.le_of_ble_eq_true rfl⟩) (ct_preV (T := ct_T cI cJ cB cZ cO) (ci := 11) (q0 := 0) hE hP hD [0, 4] (by decide) rfl rfl rfl) rfl rfl hl.1 rfl (lv_room (Nat.le_of_ble_eq_true rfl)) dL_law_457 ⟨Nat.le_of_ble_eq_true rfl, Nat.le_of_ble_eq_true rfl⟩) hP hD hS hA [0, 4] [55, 56, 57, 58, 59, 60, 61, 62, 63, 64, 65, 66, 67, 68, 69] rfl rfl (by decide) (by decide) (fun rz u H locs hw hP hD hS => ?_)
  have hP : va_P D vwCl [mo h1 v 0 0, ((v 1), .inl (cI, 4, .inl (szf))), ((v 2), .inl (cI, 4, .inl (fun _ => 0))), ((v 3), .inl (cJ, 240, .inr (.inl (fun _ => 0)))), ((v 5), .inl (cB, 1200, .inl (fun _ => 0))), ((v 25), .inl (cZ, 3, .inl (fun _ => 0))), ((v 16), .inl (cI, 5, .inl (fun _ => 0))), ((v 17), .inl (cI, 55, .inl (fun _ => 0))), ((v 18), .inl (cI, 120, .inl (fun _ => 0))), ((v 19), .inl (cI, 30, .inl (fun _ => 0))), ((v 20), .inl (cI, 160, .inl (fun _ => 0))), ((v 21), .inl (cZ, 1000, .inl (fun _ => 0))), ((v 22), .inl (cI, 120, .inl (fun _ => 0))), ((v 23), .inl (cI, 50, .inl (fun _ => 0))), ((v 24), .inl (cI, 800, .inl (fun _ => 0)))] H := hP
  have hD : va_D A [mo h1 v 0 0, ((v 1), .inl (cI, 4, .inl (szf))), ((v 2), .inl (cI, 4, .inl (fun _ => 0))), ((v 3), .inl (cJ, 240, .inr (.inl (fun _ => 0)))), ((v 5), .inl (cB, 1200, .inl (fun _ => 0))), ((v 25), .inl (cZ, 3, .inl (fun _ => 0))), ((v 16), .inl (cI, 5, .inl (fun _ => 0))), ((v 17), .inl (cI, 55, .inl (fun _ => 0))), ((v 18), .inl (cI, 120, .inl (fun _ => 0))), ((v 19), .inl (cI, 30, .inl (fun _ => 0))), ((v 20), .inl (cI, 160, .inl (fun _ => 0))), ((v 21), .inl (cZ, 1000, .inl (fun _ => 0))), ((v 22), .inl (cI, 120, .inl (fun _ => 0))), ((v 23), .inl (cI, 50, .inl (fun _ => 0))), ((v 24), .inl (cI, 800, .inl (fun _ => 0)))] := hD
  obtain ⟨rfl, hq602⟩ := hw
  refine lv_aload_n hx hb dL_law_460 rfl (lv_at hl 1 rfl) ?_
  refine lv_aload_n hx hb dL_law_461 rfl (lv_at hl 3 rfl) ?_
  refine lv_iload_n hx hb dL_law_462 rfl (lv_at hl 0 rfl) ?_
  refine lv_iconst (v := 1) hx hb dL_law_463 (by decide) ?_
  refine lv_iadd hx hb dL_law_464 ?_
  refine lv_topi (fun z603 ez603 => ?_)
  obtain rfl : z603 = 1 := ez603.trans (by decide)
  refine va_sld hx hb hX hbl hbA hS (tq_in (a := 1) (by decide) (by omega)) dL_law_465 ?_
  refine ct_calli (D := D) (wc := (w_c_X12_answers cI cJ cB cZ cO h1 v)) (wr := [((v 1), .inl (cI, 4, .inl (szf))), ((v 2), .inl (cI, 4, .inl (fun _ => 0))), ((v 3), .inl (cJ, 240, .inr (.inl (fun _ => 0)))), ((v 5), .inl (cB, 1200, .inl (fun _ => 0))), ((v 25), .inl (cZ, 3, .inl (fun _ => 0))), ((v 17), .inl (cI, 55, .inl (fun _ => 0))), ((v 18), .inl (cI, 120, .inl (fun _ => 0))), ((v 19), .inl (cI, 30, .inl (fun _ => 0))), ((v 20), .inl (cI, 160, .inl (fun _ => 0))), ((v 21), .inl (cZ, 1000, .inl (fun _ => 0))), ((v 22), .inl (cI, 120, .inl (fun _ => 0))), ((v 23), .inl (cI, 50, .inl (fun _ => 0))), ((v 24), .inl (cI, 800, .inl (fun _ => 0)))]) (va_runV (As := [.int (xs (1 : Int32).toNatClampNeg)]) (rest := [.int (-2)]) ⟨hx, hb, hml, hown, hts⟩ (c_X12_answers l D cI cJ cB cZ cO h1 v ((xs (1 : Int32).toNatClampNeg)) H.size) (cwV 1 hts gL_law_X12_answers rfl rfl rfl (by decide +kernel) ⟨Nat.le_of_ble_eq_true rfl, Nat.le_of_ble_eq_true rfl⟩) (ct_preV (T := ct_T cI cJ cB cZ cO) (ci := 12) (q0 := 0) hE hP hD [0, 6] (by decide) rfl rfl rfl) rfl rfl hl.1 rfl (lv_room (Nat.le_of_ble_eq_true rfl)) dL_law_466 ⟨Nat.le_of_ble_eq_true rfl, Nat.le_of_ble_eq_true rfl⟩) hP hD hS hA [0, 6] [1, 2, 3, 4, 5, 7, 8, 9, 10, 11, 12, 13, 14] rfl rfl (by decide) (by decide) (fun rz u H locs hw hP hD hS => ?_)
  have hP : va_P D vwCl [((v 1), .inl (cI, 4, .inl (szf))), ((v 2), .inl (cI, 4, .inl (fun _ => 0))), ((v 3), .inl (cJ, 240, .inr (.inl (fun _ => 0)))), ((v 5), .inl (cB, 1200, .inl (fun _ => 0))), ((v 25), .inl (cZ, 3, .inl (fun _ => 0))), ((v 17), .inl (cI, 55, .inl (fun _ => 0))), ((v 18), .inl (cI, 120, .inl (fun _ => 0))), ((v 19), .inl (cI, 30, .inl (fun _ => 0))), ((v 20), .inl (cI, 160, .inl (fun _ => 0))), ((v 21), .inl (cZ, 1000, .inl (fun _ => 0))), ((v 22), .inl (cI, 120, .inl (fun _ => 0))), ((v 23), .inl (cI, 50, .inl (fun _ => 0))), ((v 24), .inl (cI, 800, .inl (fun _ => 0)))] H := hP
  have hD : va_D A [((v 1), .inl (cI, 4, .inl (szf))), ((v 2), .inl (cI, 4, .inl (fun _ => 0))), ((v 3), .inl (cJ, 240, .inr (.inl (fun _ => 0)))), ((v 5), .inl (cB, 1200, .inl (fun _ => 0))), ((v 25), .inl (cZ, 3, .inl (fun _ => 0))), ((v 17), .inl (cI, 55, .inl (fun _ => 0))), ((v 18), .inl (cI, 120, .inl (fun _ => 0))), ((v 19), .inl (cI, 30, .inl (fun _ => 0))), ((v 20), .inl (cI, 160, .inl (fun _ => 0))), ((v 21), .inl (cZ, 1000, .inl (fun _ => 0))), ((v 22), .inl (cI, 120, .inl (fun _ => 0))), ((v 23), .inl (cI, 50, .inl (fun _ => 0))), ((v 24), .inl (cI, 800, .inl (fun _ => 0)))] := hD
  obtain ⟨rfl, hq604⟩ := hw
  refine lv_icmp_eq (tgt := 2167) hx hb dL_law_469 (by decide) (fun _ => ?_) (fun hc => absurd hc (by decide))
  refine W.widen (k := 107) (n := 36842) (Nat.le_of_ble_eq_true rfl) (Nat.le_of_ble_eq_true rfl) ?_
  exact law_tail hx hb hml hr hlocks hX hbl hbA hA hAf hS (lv_sub hl [0, 1, 2, 3] rfl)
set_option maxHeartbeats 4000000 in
set_option maxRecDepth 100000 in
theorem law_c6 {p : Program} {l : Launch} {e : Env} {s : State} {m : MethodId} {below : List Frame} {meth : Method} {c : Code} {A : Nat → Prop} {b : Nat} {xs : Nat → Int32} (hx : p.tables.exec = Jvm.exec) (hb : c.code = code) (hml : c.maxLocals = 4) (hr : meth.sig.returnType = ret) (hlocks : meth.locks = false) (hX : va_X b 6 xs s s.heap) (hbl : b < s.heap.size) (hbA : ¬ A b) (hA : ∀ q : Nat, s.heap.size ≤ q → A q) (hAf : ∀ q : Nat, A q → s.heap.size ≤ q) (D : va_G) (cI cJ cB cZ cO : ClassId) (h0 h1 : Nat) (u v : Nat → Nat) (hown : s.vm.findClass RL = some m.cls) (hts : ∀ w ∈ wsL_law, w.before #[Value.ref b] s = true) (hE : ct_E D (ct_T cI cJ cB cZ cO) s) {H : Heap} {locs : List Loc} (hP : va_P D vwCl (LW cI cJ cB cZ cO h0 h1 u v) H) (hD : va_D A (LW cI cJ cB cZ cO h0 h1 u v)) (hS : va_S A s.heap H locs) {ls : Array Slot} (hl : lv_has ls 4 [(3, .int 0), (2, .ref h1), (1, .ref h0), (0, .ref b)]) : W p l e room_1 s m #[Value.ref b] below meth c H locs 107 36842 (lw_Z below #[Value.ref b] s) (F0 m 474 ls []) := by
  have hK := hE.1
  refine lv_aload_n hx hb dL_law_474 rfl (lv_at hl 2 rfl) ?_
  refine lv_aload_n hx hb dL_law_475 rfl (lv_at hl 3 rfl) ?_
  refine lv_iload_n hx hb dL_law_476 rfl (lv_at hl 0 rfl) ?_
  refine lv_iconst (v := 1) hx hb dL_law_477 (by decide) ?_
  refine lv_iadd hx hb dL_law_478 ?_
  refine lv_topi (fun z605 ez605 => ?_)
  obtain rfl : z605 = 1 := ez605.trans (by decide)
  refine va_sld hx hb hX hbl hbA hS (tq_in (a := 1) (by decide) (by omega)) dL_law_479 ?_
  refine lv_aload_n hx hb dL_law_480 rfl (lv_at hl 3 rfl) ?_
  refine lv_iload_n hx hb dL_law_481 rfl (lv_at hl 0 rfl) ?_
  refine lv_iconst (v := 2) hx hb dL_law_482 (by decide) ?_
  refine lv_iadd hx hb dL_law_483 ?_
  refine lv_topi (fun z606 ez606 => ?_)
  obtain rfl : z606 = 2 := ez606.trans (by decide)
  refine va_sld hx hb hX hbl hbA hS (tq_in (a := 2) (by decide) (by omega)) dL_law_484 ?_
  refine ct_calli (D := D) (wc := (w_c_X11_stumbled cI cJ cB cZ cO h0 u)) (wr := [mo h1 v 0 0, ((v 1), .inl (cI, 4, .inl (szf))), ((v 2), .inl (cI, 4, .inl (fun _ => 0))), ((v 3), .inl (cJ, 240, .inr (.inl (fun _ => 0)))), ((v 5), .inl (cB, 1200, .inl (fun _ => 0))), ((v 25), .inl (cZ, 3, .inl (fun _ => 0))), ((v 16), .inl (cI, 5, .inl (fun _ => 0))), ((v 17), .inl (cI, 55, .inl (fun _ => 0))), ((v 18), .inl (cI, 120, .inl (fun _ => 0))), ((v 19), .inl (cI, 30, .inl (fun _ => 0))), ((v 20), .inl (cI, 160, .inl (fun _ => 0))), ((v 21), .inl (cZ, 1000, .inl (fun _ => 0))), ((v 22), .inl (cI, 120, .inl (fun _ => 0))), ((v 23), .inl (cI, 50, .inl (fun _ => 0))), ((v 24), .inl (cI, 800, .inl (fun _ => 0)))]) (va_runV (As := [.int (xs (1 : Int32).toNatClampNeg), .int (xs (2 : Int32).toNatClampNeg)]) (rest := []) ⟨hx, hb, hml, hown, hts⟩ (c_X11_stumbled l D cI cJ cB cZ cO h0 u ((xs (1 : Int32).toNatClampNeg)) ((xs (2 : Int32).toNatClampNeg)) H.size) (cwV 2 hts gL_law_X11_stumbled rfl rfl rfl (by decide +kernel) ⟨Nat.le_of_ble_eq_true rfl, Nat.le_of_ble_eq_true rfl⟩) (ct_preV (T := ct_T cI cJ cB cZ cO) (ci := 11) (q0 := 0) hE hP hD [0, 4] (by decide) rfl rfl rfl) rfl rfl hl.1 rfl (lv_room (Nat.le_of_ble_eq_true rfl)) dL_law_485 ⟨Nat.le_of_ble_eq_true rfl, Nat.le_of_ble_eq_true rfl⟩) hP hD hS hA [0, 4] [55, 56, 57, 58, 59, 60, 61, 62, 63, 64, 65, 66, 67, 68, 69] rfl rfl (by decide) (by decide) (fun rz u H locs hw hP hD hS => ?_)
  have hP : va_P D vwCl [mo h1 v 0 0, ((v 1), .inl (cI, 4, .inl (szf))), ((v 2), .inl (cI, 4, .inl (fun _ => 0))), ((v 3), .inl (cJ, 240, .inr (.inl (fun _ => 0)))), ((v 5), .inl (cB, 1200, .inl (fun _ => 0))), ((v 25), .inl (cZ, 3, .inl (fun _ => 0))), ((v 16), .inl (cI, 5, .inl (fun _ => 0))), ((v 17), .inl (cI, 55, .inl (fun _ => 0))), ((v 18), .inl (cI, 120, .inl (fun _ => 0))), ((v 19), .inl (cI, 30, .inl (fun _ => 0))), ((v 20), .inl (cI, 160, .inl (fun _ => 0))), ((v 21), .inl (cZ, 1000, .inl (fun _ => 0))), ((v 22), .inl (cI, 120, .inl (fun _ => 0))), ((v 23), .inl (cI, 50, .inl (fun _ => 0))), ((v 24), .inl (cI, 800, .inl (fun _ => 0)))] H := hP
  have hD : va_D A [mo h1 v 0 0, ((v 1), .inl (cI, 4, .inl (szf))), ((v 2), .inl (cI, 4, .inl (fun _ => 0))), ((v 3), .inl (cJ, 240, .inr (.inl (fun _ => 0)))), ((v 5), .inl (cB, 1200, .inl (fun _ => 0))), ((v 25), .inl (cZ, 3, .inl (fun _ => 0))), ((v 16), .inl (cI, 5, .inl (fun _ => 0))), ((v 17), .inl (cI, 55, .inl (fun _ => 0))), ((v 18), .inl (cI, 120, .inl (fun _ => 0))), ((v 19), .inl (cI, 30, .inl (fun _ => 0))), ((v 20), .inl (cI, 160, .inl (fun _ => 0))), ((v 21), .inl (cZ, 1000, .inl (fun _ => 0))), ((v 22), .inl (cI, 120, .inl (fun _ => 0))), ((v 23), .inl (cI, 50, .inl (fun _ => 0))), ((v 24), .inl (cI, 800, .inl (fun _ => 0)))] := hD
  obtain ⟨rfl, hq607⟩ := hw
  refine lv_aload_n hx hb dL_law_488 rfl (lv_at hl 1 rfl) ?_
  refine lv_aload_n hx hb dL_law_489 rfl (lv_at hl 3 rfl) ?_
  refine lv_iload_n hx hb dL_law_490 rfl (lv_at hl 0 rfl) ?_
  refine lv_iconst (v := 1) hx hb dL_law_491 (by decide) ?_
  refine lv_iadd hx hb dL_law_492 ?_
  refine lv_topi (fun z608 ez608 => ?_)
  obtain rfl : z608 = 1 := ez608.trans (by decide)
  refine va_sld hx hb hX hbl hbA hS (tq_in (a := 1) (by decide) (by omega)) dL_law_493 ?_
  refine lv_aload_n hx hb dL_law_494 rfl (lv_at hl 3 rfl) ?_
  refine lv_iload_n hx hb dL_law_495 rfl (lv_at hl 0 rfl) ?_
  refine lv_iconst (v := 2) hx hb dL_law_496 (by decide) ?_
  refine lv_iadd hx hb dL_law_497 ?_
  refine lv_topi (fun z609 ez609 => ?_)
  obtain rfl : z609 = 2 := ez609.trans (by decide)
  refine va_sld hx hb hX hbl hbA hS (tq_in (a := 2) (by decide) (by omega)) dL_law_498 ?_
  refine ct_calli (D := D) (wc := (w_c_X12_stumbled cI cJ cB cZ cO h1 v)) (wr := [((v 1), .inl (cI, 4, .inl (szf))), ((v 2), .inl (cI, 4, .inl (fun _ => 0))), ((v 3), .inl (cJ, 240, .inr (.inl (fun _ => 0)))), ((v 5), .inl (cB, 1200, .inl (fun _ => 0))), ((v 25), .inl (cZ, 3, .inl (fun _ => 0))), ((v 16), .inl (cI, 5, .inl (fun _ => 0))), ((v 18), .inl (cI, 120, .inl (fun _ => 0))), ((v 19), .inl (cI, 30, .inl (fun _ => 0))), ((v 20), .inl (cI, 160, .inl (fun _ => 0))), ((v 21), .inl (cZ, 1000, .inl (fun _ => 0))), ((v 22), .inl (cI, 120, .inl (fun _ => 0))), ((v 23), .inl (cI, 50, .inl (fun _ => 0))), ((v 24), .inl (cI, 800, .inl (fun _ => 0)))]) (va_runV (As := [.int (xs (1 : Int32).toNatClampNeg), .int (xs (2 : Int32).toNatClampNeg)]) (rest := [.int (-2)]) ⟨hx, hb, hml, hown, hts⟩ (c_X12_stumbled l D cI cJ cB cZ cO h1 v ((xs (1 : Int32).toNatClampNeg)) ((xs (2 : Int32).toNatClampNeg)) H.size) (cwV 2 hts gL_law_X12_stumbled rfl rfl rfl (by decide +kernel) ⟨Nat.le_of_ble_eq_true rfl, Nat.le_of_ble_eq_true rfl⟩) (ct_preV (T := ct_T cI cJ cB cZ cO) (ci := 12) (q0 := 0) hE hP hD [0, 7] (by decide) rfl rfl rfl) rfl rfl hl.1 rfl (lv_room (Nat.le_of_ble_eq_true rfl)) dL_law_499 ⟨Nat.le_of_ble_eq_true rfl, Nat.le_of_ble_eq_true rfl⟩) hP hD hS hA [0, 7] [1, 2, 3, 4, 5, 6, 8, 9, 10, 11, 12, 13, 14] rfl rfl (by decide) (by decide) (fun rz u H locs hw hP hD hS => ?_)
  have hP : va_P D vwCl [((v 1), .inl (cI, 4, .inl (szf))), ((v 2), .inl (cI, 4, .inl (fun _ => 0))), ((v 3), .inl (cJ, 240, .inr (.inl (fun _ => 0)))), ((v 5), .inl (cB, 1200, .inl (fun _ => 0))), ((v 25), .inl (cZ, 3, .inl (fun _ => 0))), ((v 16), .inl (cI, 5, .inl (fun _ => 0))), ((v 18), .inl (cI, 120, .inl (fun _ => 0))), ((v 19), .inl (cI, 30, .inl (fun _ => 0))), ((v 20), .inl (cI, 160, .inl (fun _ => 0))), ((v 21), .inl (cZ, 1000, .inl (fun _ => 0))), ((v 22), .inl (cI, 120, .inl (fun _ => 0))), ((v 23), .inl (cI, 50, .inl (fun _ => 0))), ((v 24), .inl (cI, 800, .inl (fun _ => 0)))] H := hP
  have hD : va_D A [((v 1), .inl (cI, 4, .inl (szf))), ((v 2), .inl (cI, 4, .inl (fun _ => 0))), ((v 3), .inl (cJ, 240, .inr (.inl (fun _ => 0)))), ((v 5), .inl (cB, 1200, .inl (fun _ => 0))), ((v 25), .inl (cZ, 3, .inl (fun _ => 0))), ((v 16), .inl (cI, 5, .inl (fun _ => 0))), ((v 18), .inl (cI, 120, .inl (fun _ => 0))), ((v 19), .inl (cI, 30, .inl (fun _ => 0))), ((v 20), .inl (cI, 160, .inl (fun _ => 0))), ((v 21), .inl (cZ, 1000, .inl (fun _ => 0))), ((v 22), .inl (cI, 120, .inl (fun _ => 0))), ((v 23), .inl (cI, 50, .inl (fun _ => 0))), ((v 24), .inl (cI, 800, .inl (fun _ => 0)))] := hD
  obtain ⟨rfl, hq610⟩ := hw
  refine lv_icmp_eq (tgt := 2167) hx hb dL_law_502 (by decide) (fun _ => ?_) (fun hc => absurd hc (by decide))
  refine W.widen (k := 107) (n := 36842) (Nat.le_of_ble_eq_true rfl) (Nat.le_of_ble_eq_true rfl) ?_
  exact law_tail hx hb hml hr hlocks hX hbl hbA hA hAf hS (lv_sub hl [0, 1, 2, 3] rfl)
set_option maxHeartbeats 4000000 in
set_option maxRecDepth 100000 in
theorem law_c7 {p : Program} {l : Launch} {e : Env} {s : State} {m : MethodId} {below : List Frame} {meth : Method} {c : Code} {A : Nat → Prop} {b : Nat} {xs : Nat → Int32} (hx : p.tables.exec = Jvm.exec) (hb : c.code = code) (hml : c.maxLocals = 4) (hr : meth.sig.returnType = ret) (hlocks : meth.locks = false) (hX : va_X b 6 xs s s.heap) (hbl : b < s.heap.size) (hbA : ¬ A b) (hA : ∀ q : Nat, s.heap.size ≤ q → A q) (hAf : ∀ q : Nat, A q → s.heap.size ≤ q) (D : va_G) (cI cJ cB cZ cO : ClassId) (h0 h1 : Nat) (u v : Nat → Nat) (hown : s.vm.findClass RL = some m.cls) (hts : ∀ w ∈ wsL_law, w.before #[Value.ref b] s = true) (hE : ct_E D (ct_T cI cJ cB cZ cO) s) {H : Heap} {locs : List Loc} (hP : va_P D vwCl (LW cI cJ cB cZ cO h0 h1 u v) H) (hD : va_D A (LW cI cJ cB cZ cO h0 h1 u v)) (hS : va_S A s.heap H locs) {ls : Array Slot} (hl : lv_has ls 4 [(3, .int 0), (2, .ref h1), (1, .ref h0), (0, .ref b)]) : W p l e room_1 s m #[Value.ref b] below meth c H locs 107 36842 (lw_Z below #[Value.ref b] s) (F0 m 507 ls []) := by
  have hK := hE.1
  refine lv_aload_n hx hb dL_law_507 rfl (lv_at hl 2 rfl) ?_
  refine lv_aload_n hx hb dL_law_508 rfl (lv_at hl 3 rfl) ?_
  refine lv_iload_n hx hb dL_law_509 rfl (lv_at hl 0 rfl) ?_
  refine lv_iconst (v := 1) hx hb dL_law_510 (by decide) ?_
  refine lv_iadd hx hb dL_law_511 ?_
  refine lv_topi (fun z611 ez611 => ?_)
  obtain rfl : z611 = 1 := ez611.trans (by decide)
  refine va_sld hx hb hX hbl hbA hS (tq_in (a := 1) (by decide) (by omega)) dL_law_512 ?_
  refine ct_calli (D := D) (wc := (w_c_X11_muddy cI cJ cB cZ cO h0 u)) (wr := [mo h1 v 0 0, ((v 1), .inl (cI, 4, .inl (szf))), ((v 2), .inl (cI, 4, .inl (fun _ => 0))), ((v 3), .inl (cJ, 240, .inr (.inl (fun _ => 0)))), ((v 5), .inl (cB, 1200, .inl (fun _ => 0))), ((v 25), .inl (cZ, 3, .inl (fun _ => 0))), ((v 16), .inl (cI, 5, .inl (fun _ => 0))), ((v 17), .inl (cI, 55, .inl (fun _ => 0))), ((v 18), .inl (cI, 120, .inl (fun _ => 0))), ((v 19), .inl (cI, 30, .inl (fun _ => 0))), ((v 20), .inl (cI, 160, .inl (fun _ => 0))), ((v 21), .inl (cZ, 1000, .inl (fun _ => 0))), ((v 22), .inl (cI, 120, .inl (fun _ => 0))), ((v 23), .inl (cI, 50, .inl (fun _ => 0))), ((v 24), .inl (cI, 800, .inl (fun _ => 0)))]) (va_runV (As := [.int (xs (1 : Int32).toNatClampNeg)]) (rest := []) ⟨hx, hb, hml, hown, hts⟩ (c_X11_muddy l D cI cJ cB cZ cO h0 u ((xs (1 : Int32).toNatClampNeg)) H.size) (cwV 1 hts gL_law_X11_muddy rfl rfl rfl (by decide +kernel) ⟨Nat.le_of_ble_eq_true rfl, Nat.le_of_ble_eq_true rfl⟩) (ct_preV (T := ct_T cI cJ cB cZ cO) (ci := 11) (q0 := 0) hE hP hD [0, 4] (by decide) rfl rfl rfl) rfl rfl hl.1 rfl (lv_room (Nat.le_of_ble_eq_true rfl)) dL_law_513 ⟨Nat.le_of_ble_eq_true rfl, Nat.le_of_ble_eq_true rfl⟩) hP hD hS hA [0, 4] [55, 56, 57, 58, 59, 60, 61, 62, 63, 64, 65, 66, 67, 68, 69] rfl rfl (by decide) (by decide) (fun rz u H locs hw hP hD hS => ?_)
  have hP : va_P D vwCl [mo h1 v 0 0, ((v 1), .inl (cI, 4, .inl (szf))), ((v 2), .inl (cI, 4, .inl (fun _ => 0))), ((v 3), .inl (cJ, 240, .inr (.inl (fun _ => 0)))), ((v 5), .inl (cB, 1200, .inl (fun _ => 0))), ((v 25), .inl (cZ, 3, .inl (fun _ => 0))), ((v 16), .inl (cI, 5, .inl (fun _ => 0))), ((v 17), .inl (cI, 55, .inl (fun _ => 0))), ((v 18), .inl (cI, 120, .inl (fun _ => 0))), ((v 19), .inl (cI, 30, .inl (fun _ => 0))), ((v 20), .inl (cI, 160, .inl (fun _ => 0))), ((v 21), .inl (cZ, 1000, .inl (fun _ => 0))), ((v 22), .inl (cI, 120, .inl (fun _ => 0))), ((v 23), .inl (cI, 50, .inl (fun _ => 0))), ((v 24), .inl (cI, 800, .inl (fun _ => 0)))] H := hP
  have hD : va_D A [mo h1 v 0 0, ((v 1), .inl (cI, 4, .inl (szf))), ((v 2), .inl (cI, 4, .inl (fun _ => 0))), ((v 3), .inl (cJ, 240, .inr (.inl (fun _ => 0)))), ((v 5), .inl (cB, 1200, .inl (fun _ => 0))), ((v 25), .inl (cZ, 3, .inl (fun _ => 0))), ((v 16), .inl (cI, 5, .inl (fun _ => 0))), ((v 17), .inl (cI, 55, .inl (fun _ => 0))), ((v 18), .inl (cI, 120, .inl (fun _ => 0))), ((v 19), .inl (cI, 30, .inl (fun _ => 0))), ((v 20), .inl (cI, 160, .inl (fun _ => 0))), ((v 21), .inl (cZ, 1000, .inl (fun _ => 0))), ((v 22), .inl (cI, 120, .inl (fun _ => 0))), ((v 23), .inl (cI, 50, .inl (fun _ => 0))), ((v 24), .inl (cI, 800, .inl (fun _ => 0)))] := hD
  obtain ⟨rfl, hq612⟩ := hw
  refine lv_aload_n hx hb dL_law_516 rfl (lv_at hl 1 rfl) ?_
  refine lv_aload_n hx hb dL_law_517 rfl (lv_at hl 3 rfl) ?_
  refine lv_iload_n hx hb dL_law_518 rfl (lv_at hl 0 rfl) ?_
  refine lv_iconst (v := 1) hx hb dL_law_519 (by decide) ?_
  refine lv_iadd hx hb dL_law_520 ?_
  refine lv_topi (fun z613 ez613 => ?_)
  obtain rfl : z613 = 1 := ez613.trans (by decide)
  refine va_sld hx hb hX hbl hbA hS (tq_in (a := 1) (by decide) (by omega)) dL_law_521 ?_
  refine ct_calli (D := D) (wc := (w_c_X12_muddy cI cJ cB cZ cO h1 v)) (wr := [((v 1), .inl (cI, 4, .inl (szf))), ((v 2), .inl (cI, 4, .inl (fun _ => 0))), ((v 3), .inl (cJ, 240, .inr (.inl (fun _ => 0)))), ((v 5), .inl (cB, 1200, .inl (fun _ => 0))), ((v 25), .inl (cZ, 3, .inl (fun _ => 0))), ((v 17), .inl (cI, 55, .inl (fun _ => 0))), ((v 18), .inl (cI, 120, .inl (fun _ => 0))), ((v 19), .inl (cI, 30, .inl (fun _ => 0))), ((v 20), .inl (cI, 160, .inl (fun _ => 0))), ((v 21), .inl (cZ, 1000, .inl (fun _ => 0))), ((v 22), .inl (cI, 120, .inl (fun _ => 0))), ((v 23), .inl (cI, 50, .inl (fun _ => 0))), ((v 24), .inl (cI, 800, .inl (fun _ => 0)))]) (va_runV (As := [.int (xs (1 : Int32).toNatClampNeg)]) (rest := [.int (-2)]) ⟨hx, hb, hml, hown, hts⟩ (c_X12_muddy l D cI cJ cB cZ cO h1 v ((xs (1 : Int32).toNatClampNeg)) H.size) (cwV 1 hts gL_law_X12_muddy rfl rfl rfl (by decide +kernel) ⟨Nat.le_of_ble_eq_true rfl, Nat.le_of_ble_eq_true rfl⟩) (ct_preV (T := ct_T cI cJ cB cZ cO) (ci := 12) (q0 := 0) hE hP hD [0, 6] (by decide) rfl rfl rfl) rfl rfl hl.1 rfl (lv_room (Nat.le_of_ble_eq_true rfl)) dL_law_522 ⟨Nat.le_of_ble_eq_true rfl, Nat.le_of_ble_eq_true rfl⟩) hP hD hS hA [0, 6] [1, 2, 3, 4, 5, 7, 8, 9, 10, 11, 12, 13, 14] rfl rfl (by decide) (by decide) (fun rz u H locs hw hP hD hS => ?_)
  have hP : va_P D vwCl [((v 1), .inl (cI, 4, .inl (szf))), ((v 2), .inl (cI, 4, .inl (fun _ => 0))), ((v 3), .inl (cJ, 240, .inr (.inl (fun _ => 0)))), ((v 5), .inl (cB, 1200, .inl (fun _ => 0))), ((v 25), .inl (cZ, 3, .inl (fun _ => 0))), ((v 17), .inl (cI, 55, .inl (fun _ => 0))), ((v 18), .inl (cI, 120, .inl (fun _ => 0))), ((v 19), .inl (cI, 30, .inl (fun _ => 0))), ((v 20), .inl (cI, 160, .inl (fun _ => 0))), ((v 21), .inl (cZ, 1000, .inl (fun _ => 0))), ((v 22), .inl (cI, 120, .inl (fun _ => 0))), ((v 23), .inl (cI, 50, .inl (fun _ => 0))), ((v 24), .inl (cI, 800, .inl (fun _ => 0)))] H := hP
  have hD : va_D A [((v 1), .inl (cI, 4, .inl (szf))), ((v 2), .inl (cI, 4, .inl (fun _ => 0))), ((v 3), .inl (cJ, 240, .inr (.inl (fun _ => 0)))), ((v 5), .inl (cB, 1200, .inl (fun _ => 0))), ((v 25), .inl (cZ, 3, .inl (fun _ => 0))), ((v 17), .inl (cI, 55, .inl (fun _ => 0))), ((v 18), .inl (cI, 120, .inl (fun _ => 0))), ((v 19), .inl (cI, 30, .inl (fun _ => 0))), ((v 20), .inl (cI, 160, .inl (fun _ => 0))), ((v 21), .inl (cZ, 1000, .inl (fun _ => 0))), ((v 22), .inl (cI, 120, .inl (fun _ => 0))), ((v 23), .inl (cI, 50, .inl (fun _ => 0))), ((v 24), .inl (cI, 800, .inl (fun _ => 0)))] := hD
  obtain ⟨rfl, hq614⟩ := hw
  refine lv_icmp_eq (tgt := 2167) hx hb dL_law_525 (by decide) (fun _ => ?_) (fun hc => absurd hc (by decide))
  refine W.widen (k := 107) (n := 36842) (Nat.le_of_ble_eq_true rfl) (Nat.le_of_ble_eq_true rfl) ?_
  exact law_tail hx hb hml hr hlocks hX hbl hbA hA hAf hS (lv_sub hl [0, 1, 2, 3] rfl)
set_option maxHeartbeats 4000000 in
set_option maxRecDepth 100000 in
theorem law_c8 {p : Program} {l : Launch} {e : Env} {s : State} {m : MethodId} {below : List Frame} {meth : Method} {c : Code} {A : Nat → Prop} {b : Nat} {xs : Nat → Int32} (hx : p.tables.exec = Jvm.exec) (hb : c.code = code) (hml : c.maxLocals = 4) (hr : meth.sig.returnType = ret) (hlocks : meth.locks = false) (hX : va_X b 6 xs s s.heap) (hbl : b < s.heap.size) (hbA : ¬ A b) (hA : ∀ q : Nat, s.heap.size ≤ q → A q) (hAf : ∀ q : Nat, A q → s.heap.size ≤ q) (D : va_G) (cI cJ cB cZ cO : ClassId) (h0 h1 : Nat) (u v : Nat → Nat) (hown : s.vm.findClass RL = some m.cls) (hts : ∀ w ∈ wsL_law, w.before #[Value.ref b] s = true) (hE : ct_E D (ct_T cI cJ cB cZ cO) s) {H : Heap} {locs : List Loc} (hP : va_P D vwCl (LW cI cJ cB cZ cO h0 h1 u v) H) (hD : va_D A (LW cI cJ cB cZ cO h0 h1 u v)) (hS : va_S A s.heap H locs) {ls : Array Slot} (hl : lv_has ls 4 [(3, .int 0), (2, .ref h1), (1, .ref h0), (0, .ref b)]) : W p l e room_1 s m #[Value.ref b] below meth c H locs 107 36842 (lw_Z below #[Value.ref b] s) (F0 m 530 ls []) := by
  have hK := hE.1
  refine lv_aload_n hx hb dL_law_530 rfl (lv_at hl 2 rfl) ?_
  refine lv_aload_n hx hb dL_law_531 rfl (lv_at hl 3 rfl) ?_
  refine lv_iload_n hx hb dL_law_532 rfl (lv_at hl 0 rfl) ?_
  refine lv_iconst (v := 1) hx hb dL_law_533 (by decide) ?_
  refine lv_iadd hx hb dL_law_534 ?_
  refine lv_topi (fun z615 ez615 => ?_)
  obtain rfl : z615 = 1 := ez615.trans (by decide)
  refine va_sld hx hb hX hbl hbA hS (tq_in (a := 1) (by decide) (by omega)) dL_law_535 ?_
  refine lv_aload_n hx hb dL_law_536 rfl (lv_at hl 3 rfl) ?_
  refine lv_iload_n hx hb dL_law_537 rfl (lv_at hl 0 rfl) ?_
  refine lv_iconst (v := 2) hx hb dL_law_538 (by decide) ?_
  refine lv_iadd hx hb dL_law_539 ?_
  refine lv_topi (fun z616 ez616 => ?_)
  obtain rfl : z616 = 2 := ez616.trans (by decide)
  refine va_sld hx hb hX hbl hbA hS (tq_in (a := 2) (by decide) (by omega)) dL_law_540 ?_
  refine ct_calli (D := D) (wc := (w_c_X11_place cI cJ cB cZ cO h0 u)) (wr := [mo h1 v 0 0, ((v 1), .inl (cI, 4, .inl (szf))), ((v 2), .inl (cI, 4, .inl (fun _ => 0))), ((v 3), .inl (cJ, 240, .inr (.inl (fun _ => 0)))), ((v 5), .inl (cB, 1200, .inl (fun _ => 0))), ((v 25), .inl (cZ, 3, .inl (fun _ => 0))), ((v 16), .inl (cI, 5, .inl (fun _ => 0))), ((v 17), .inl (cI, 55, .inl (fun _ => 0))), ((v 18), .inl (cI, 120, .inl (fun _ => 0))), ((v 19), .inl (cI, 30, .inl (fun _ => 0))), ((v 20), .inl (cI, 160, .inl (fun _ => 0))), ((v 21), .inl (cZ, 1000, .inl (fun _ => 0))), ((v 22), .inl (cI, 120, .inl (fun _ => 0))), ((v 23), .inl (cI, 50, .inl (fun _ => 0))), ((v 24), .inl (cI, 800, .inl (fun _ => 0)))]) (va_runV (As := [.int (xs (1 : Int32).toNatClampNeg), .int (xs (2 : Int32).toNatClampNeg)]) (rest := []) ⟨hx, hb, hml, hown, hts⟩ (c_X11_place l D cI cJ cB cZ cO h0 u ((xs (1 : Int32).toNatClampNeg)) ((xs (2 : Int32).toNatClampNeg)) H.size) (cwV 2 hts gL_law_X11_place rfl rfl rfl (by decide +kernel) ⟨Nat.le_of_ble_eq_true rfl, Nat.le_of_ble_eq_true rfl⟩) (ct_preV (T := ct_T cI cJ cB cZ cO) (ci := 11) (q0 := 0) hE hP hD [0, 4] (by decide) rfl rfl rfl) rfl rfl hl.1 rfl (lv_room (Nat.le_of_ble_eq_true rfl)) dL_law_541 ⟨Nat.le_of_ble_eq_true rfl, Nat.le_of_ble_eq_true rfl⟩) hP hD hS hA [0, 4] [55, 56, 57, 58, 59, 60, 61, 62, 63, 64, 65, 66, 67, 68, 69] rfl rfl (by decide) (by decide) (fun rz u H locs hw hP hD hS => ?_)
  have hP : va_P D vwCl [mo h1 v 0 0, ((v 1), .inl (cI, 4, .inl (szf))), ((v 2), .inl (cI, 4, .inl (fun _ => 0))), ((v 3), .inl (cJ, 240, .inr (.inl (fun _ => 0)))), ((v 5), .inl (cB, 1200, .inl (fun _ => 0))), ((v 25), .inl (cZ, 3, .inl (fun _ => 0))), ((v 16), .inl (cI, 5, .inl (fun _ => 0))), ((v 17), .inl (cI, 55, .inl (fun _ => 0))), ((v 18), .inl (cI, 120, .inl (fun _ => 0))), ((v 19), .inl (cI, 30, .inl (fun _ => 0))), ((v 20), .inl (cI, 160, .inl (fun _ => 0))), ((v 21), .inl (cZ, 1000, .inl (fun _ => 0))), ((v 22), .inl (cI, 120, .inl (fun _ => 0))), ((v 23), .inl (cI, 50, .inl (fun _ => 0))), ((v 24), .inl (cI, 800, .inl (fun _ => 0)))] H := hP
  have hD : va_D A [mo h1 v 0 0, ((v 1), .inl (cI, 4, .inl (szf))), ((v 2), .inl (cI, 4, .inl (fun _ => 0))), ((v 3), .inl (cJ, 240, .inr (.inl (fun _ => 0)))), ((v 5), .inl (cB, 1200, .inl (fun _ => 0))), ((v 25), .inl (cZ, 3, .inl (fun _ => 0))), ((v 16), .inl (cI, 5, .inl (fun _ => 0))), ((v 17), .inl (cI, 55, .inl (fun _ => 0))), ((v 18), .inl (cI, 120, .inl (fun _ => 0))), ((v 19), .inl (cI, 30, .inl (fun _ => 0))), ((v 20), .inl (cI, 160, .inl (fun _ => 0))), ((v 21), .inl (cZ, 1000, .inl (fun _ => 0))), ((v 22), .inl (cI, 120, .inl (fun _ => 0))), ((v 23), .inl (cI, 50, .inl (fun _ => 0))), ((v 24), .inl (cI, 800, .inl (fun _ => 0)))] := hD
  obtain ⟨rfl, hq617⟩ := hw
  refine lv_aload_n hx hb dL_law_544 rfl (lv_at hl 1 rfl) ?_
  refine lv_aload_n hx hb dL_law_545 rfl (lv_at hl 3 rfl) ?_
  refine lv_iload_n hx hb dL_law_546 rfl (lv_at hl 0 rfl) ?_
  refine lv_iconst (v := 1) hx hb dL_law_547 (by decide) ?_
  refine lv_iadd hx hb dL_law_548 ?_
  refine lv_topi (fun z618 ez618 => ?_)
  obtain rfl : z618 = 1 := ez618.trans (by decide)
  refine va_sld hx hb hX hbl hbA hS (tq_in (a := 1) (by decide) (by omega)) dL_law_549 ?_
  refine lv_aload_n hx hb dL_law_550 rfl (lv_at hl 3 rfl) ?_
  refine lv_iload_n hx hb dL_law_551 rfl (lv_at hl 0 rfl) ?_
  refine lv_iconst (v := 2) hx hb dL_law_552 (by decide) ?_
  refine lv_iadd hx hb dL_law_553 ?_
  refine lv_topi (fun z619 ez619 => ?_)
  obtain rfl : z619 = 2 := ez619.trans (by decide)
  refine va_sld hx hb hX hbl hbA hS (tq_in (a := 2) (by decide) (by omega)) dL_law_554 ?_
  refine ct_calli (D := D) (wc := (w_c_X12_place cI cJ cB cZ cO h1 v)) (wr := [((v 1), .inl (cI, 4, .inl (szf))), ((v 2), .inl (cI, 4, .inl (fun _ => 0))), ((v 3), .inl (cJ, 240, .inr (.inl (fun _ => 0)))), ((v 5), .inl (cB, 1200, .inl (fun _ => 0))), ((v 25), .inl (cZ, 3, .inl (fun _ => 0))), ((v 17), .inl (cI, 55, .inl (fun _ => 0))), ((v 18), .inl (cI, 120, .inl (fun _ => 0))), ((v 19), .inl (cI, 30, .inl (fun _ => 0))), ((v 20), .inl (cI, 160, .inl (fun _ => 0))), ((v 21), .inl (cZ, 1000, .inl (fun _ => 0))), ((v 22), .inl (cI, 120, .inl (fun _ => 0))), ((v 23), .inl (cI, 50, .inl (fun _ => 0))), ((v 24), .inl (cI, 800, .inl (fun _ => 0)))]) (va_runV (As := [.int (xs (1 : Int32).toNatClampNeg), .int (xs (2 : Int32).toNatClampNeg)]) (rest := [.int (-2)]) ⟨hx, hb, hml, hown, hts⟩ (c_X12_place l D cI cJ cB cZ cO h1 v ((xs (1 : Int32).toNatClampNeg)) ((xs (2 : Int32).toNatClampNeg)) H.size) (cwV 2 hts gL_law_X12_place rfl rfl rfl (by decide +kernel) ⟨Nat.le_of_ble_eq_true rfl, Nat.le_of_ble_eq_true rfl⟩) (ct_preV (T := ct_T cI cJ cB cZ cO) (ci := 12) (q0 := 0) hE hP hD [0, 6] (by decide) rfl rfl rfl) rfl rfl hl.1 rfl (lv_room (Nat.le_of_ble_eq_true rfl)) dL_law_555 ⟨Nat.le_of_ble_eq_true rfl, Nat.le_of_ble_eq_true rfl⟩) hP hD hS hA [0, 6] [1, 2, 3, 4, 5, 7, 8, 9, 10, 11, 12, 13, 14] rfl rfl (by decide) (by decide) (fun rz u H locs hw hP hD hS => ?_)
  have hP : va_P D vwCl [((v 1), .inl (cI, 4, .inl (szf))), ((v 2), .inl (cI, 4, .inl (fun _ => 0))), ((v 3), .inl (cJ, 240, .inr (.inl (fun _ => 0)))), ((v 5), .inl (cB, 1200, .inl (fun _ => 0))), ((v 25), .inl (cZ, 3, .inl (fun _ => 0))), ((v 17), .inl (cI, 55, .inl (fun _ => 0))), ((v 18), .inl (cI, 120, .inl (fun _ => 0))), ((v 19), .inl (cI, 30, .inl (fun _ => 0))), ((v 20), .inl (cI, 160, .inl (fun _ => 0))), ((v 21), .inl (cZ, 1000, .inl (fun _ => 0))), ((v 22), .inl (cI, 120, .inl (fun _ => 0))), ((v 23), .inl (cI, 50, .inl (fun _ => 0))), ((v 24), .inl (cI, 800, .inl (fun _ => 0)))] H := hP
  have hD : va_D A [((v 1), .inl (cI, 4, .inl (szf))), ((v 2), .inl (cI, 4, .inl (fun _ => 0))), ((v 3), .inl (cJ, 240, .inr (.inl (fun _ => 0)))), ((v 5), .inl (cB, 1200, .inl (fun _ => 0))), ((v 25), .inl (cZ, 3, .inl (fun _ => 0))), ((v 17), .inl (cI, 55, .inl (fun _ => 0))), ((v 18), .inl (cI, 120, .inl (fun _ => 0))), ((v 19), .inl (cI, 30, .inl (fun _ => 0))), ((v 20), .inl (cI, 160, .inl (fun _ => 0))), ((v 21), .inl (cZ, 1000, .inl (fun _ => 0))), ((v 22), .inl (cI, 120, .inl (fun _ => 0))), ((v 23), .inl (cI, 50, .inl (fun _ => 0))), ((v 24), .inl (cI, 800, .inl (fun _ => 0)))] := hD
  obtain ⟨rfl, hq620⟩ := hw
  refine lv_icmp_eq (tgt := 2167) hx hb dL_law_558 (by decide) (fun _ => ?_) (fun hc => absurd hc (by decide))
  refine W.widen (k := 107) (n := 36842) (Nat.le_of_ble_eq_true rfl) (Nat.le_of_ble_eq_true rfl) ?_
  exact law_tail hx hb hml hr hlocks hX hbl hbA hA hAf hS (lv_sub hl [0, 1, 2, 3] rfl)
set_option maxHeartbeats 4000000 in
set_option maxRecDepth 100000 in
theorem law_c9 {p : Program} {l : Launch} {e : Env} {s : State} {m : MethodId} {below : List Frame} {meth : Method} {c : Code} {A : Nat → Prop} {b : Nat} {xs : Nat → Int32} (hx : p.tables.exec = Jvm.exec) (hb : c.code = code) (hml : c.maxLocals = 4) (hr : meth.sig.returnType = ret) (hlocks : meth.locks = false) (hX : va_X b 6 xs s s.heap) (hbl : b < s.heap.size) (hbA : ¬ A b) (hA : ∀ q : Nat, s.heap.size ≤ q → A q) (hAf : ∀ q : Nat, A q → s.heap.size ≤ q) (D : va_G) (cI cJ cB cZ cO : ClassId) (h0 h1 : Nat) (u v : Nat → Nat) (hown : s.vm.findClass RL = some m.cls) (hts : ∀ w ∈ wsL_law, w.before #[Value.ref b] s = true) (hE : ct_E D (ct_T cI cJ cB cZ cO) s) {H : Heap} {locs : List Loc} (hP : va_P D vwCl (LW cI cJ cB cZ cO h0 h1 u v) H) (hD : va_D A (LW cI cJ cB cZ cO h0 h1 u v)) (hS : va_S A s.heap H locs) {ls : Array Slot} (hl : lv_has ls 4 [(3, .int 0), (2, .ref h1), (1, .ref h0), (0, .ref b)]) : W p l e room_1 s m #[Value.ref b] below meth c H locs 107 36842 (lw_Z below #[Value.ref b] s) (F0 m 563 ls []) := by
  have hK := hE.1
  refine lv_aload_n hx hb dL_law_563 rfl (lv_at hl 2 rfl) ?_
  refine lv_aload_n hx hb dL_law_564 rfl (lv_at hl 3 rfl) ?_
  refine lv_iload_n hx hb dL_law_565 rfl (lv_at hl 0 rfl) ?_
  refine lv_iconst (v := 1) hx hb dL_law_566 (by decide) ?_
  refine lv_iadd hx hb dL_law_567 ?_
  refine lv_topi (fun z621 ez621 => ?_)
  obtain rfl : z621 = 1 := ez621.trans (by decide)
  refine va_sld hx hb hX hbl hbA hS (tq_in (a := 1) (by decide) (by omega)) dL_law_568 ?_
  refine lv_aload_n hx hb dL_law_569 rfl (lv_at hl 3 rfl) ?_
  refine lv_iload_n hx hb dL_law_570 rfl (lv_at hl 0 rfl) ?_
  refine lv_iconst (v := 2) hx hb dL_law_571 (by decide) ?_
  refine lv_iadd hx hb dL_law_572 ?_
  refine lv_topi (fun z622 ez622 => ?_)
  obtain rfl : z622 = 2 := ez622.trans (by decide)
  refine va_sld hx hb hX hbl hbA hS (tq_in (a := 2) (by decide) (by omega)) dL_law_573 ?_
  refine ct_calli (D := D) (wc := (w_c_X11_danced cI cJ cB cZ cO h0 u)) (wr := [mo h1 v 0 0, ((v 1), .inl (cI, 4, .inl (szf))), ((v 2), .inl (cI, 4, .inl (fun _ => 0))), ((v 3), .inl (cJ, 240, .inr (.inl (fun _ => 0)))), ((v 5), .inl (cB, 1200, .inl (fun _ => 0))), ((v 25), .inl (cZ, 3, .inl (fun _ => 0))), ((v 16), .inl (cI, 5, .inl (fun _ => 0))), ((v 17), .inl (cI, 55, .inl (fun _ => 0))), ((v 18), .inl (cI, 120, .inl (fun _ => 0))), ((v 19), .inl (cI, 30, .inl (fun _ => 0))), ((v 20), .inl (cI, 160, .inl (fun _ => 0))), ((v 21), .inl (cZ, 1000, .inl (fun _ => 0))), ((v 22), .inl (cI, 120, .inl (fun _ => 0))), ((v 23), .inl (cI, 50, .inl (fun _ => 0))), ((v 24), .inl (cI, 800, .inl (fun _ => 0)))]) (va_runV (As := [.int (xs (1 : Int32).toNatClampNeg), .int (xs (2 : Int32).toNatClampNeg)]) (rest := []) ⟨hx, hb, hml, hown, hts⟩ (c_X11_danced l D cI cJ cB cZ cO h0 u ((xs (1 : Int32).toNatClampNeg)) ((xs (2 : Int32).toNatClampNeg)) H.size) (cwV 2 hts gL_law_X11_danced rfl rfl rfl (by decide +kernel) ⟨Nat.le_of_ble_eq_true rfl, Nat.le_of_ble_eq_true rfl⟩) (ct_preV (T := ct_T cI cJ cB cZ cO) (ci := 11) (q0 := 0) hE hP hD [0, 4] (by decide) rfl rfl rfl) rfl rfl hl.1 rfl (lv_room (Nat.le_of_ble_eq_true rfl)) dL_law_574 ⟨Nat.le_of_ble_eq_true rfl, Nat.le_of_ble_eq_true rfl⟩) hP hD hS hA [0, 4] [55, 56, 57, 58, 59, 60, 61, 62, 63, 64, 65, 66, 67, 68, 69] rfl rfl (by decide) (by decide) (fun rz u H locs hw hP hD hS => ?_)
  have hP : va_P D vwCl [mo h1 v 0 0, ((v 1), .inl (cI, 4, .inl (szf))), ((v 2), .inl (cI, 4, .inl (fun _ => 0))), ((v 3), .inl (cJ, 240, .inr (.inl (fun _ => 0)))), ((v 5), .inl (cB, 1200, .inl (fun _ => 0))), ((v 25), .inl (cZ, 3, .inl (fun _ => 0))), ((v 16), .inl (cI, 5, .inl (fun _ => 0))), ((v 17), .inl (cI, 55, .inl (fun _ => 0))), ((v 18), .inl (cI, 120, .inl (fun _ => 0))), ((v 19), .inl (cI, 30, .inl (fun _ => 0))), ((v 20), .inl (cI, 160, .inl (fun _ => 0))), ((v 21), .inl (cZ, 1000, .inl (fun _ => 0))), ((v 22), .inl (cI, 120, .inl (fun _ => 0))), ((v 23), .inl (cI, 50, .inl (fun _ => 0))), ((v 24), .inl (cI, 800, .inl (fun _ => 0)))] H := hP
  have hD : va_D A [mo h1 v 0 0, ((v 1), .inl (cI, 4, .inl (szf))), ((v 2), .inl (cI, 4, .inl (fun _ => 0))), ((v 3), .inl (cJ, 240, .inr (.inl (fun _ => 0)))), ((v 5), .inl (cB, 1200, .inl (fun _ => 0))), ((v 25), .inl (cZ, 3, .inl (fun _ => 0))), ((v 16), .inl (cI, 5, .inl (fun _ => 0))), ((v 17), .inl (cI, 55, .inl (fun _ => 0))), ((v 18), .inl (cI, 120, .inl (fun _ => 0))), ((v 19), .inl (cI, 30, .inl (fun _ => 0))), ((v 20), .inl (cI, 160, .inl (fun _ => 0))), ((v 21), .inl (cZ, 1000, .inl (fun _ => 0))), ((v 22), .inl (cI, 120, .inl (fun _ => 0))), ((v 23), .inl (cI, 50, .inl (fun _ => 0))), ((v 24), .inl (cI, 800, .inl (fun _ => 0)))] := hD
  obtain ⟨rfl, hq623⟩ := hw
  refine lv_aload_n hx hb dL_law_577 rfl (lv_at hl 1 rfl) ?_
  refine lv_aload_n hx hb dL_law_578 rfl (lv_at hl 3 rfl) ?_
  refine lv_iload_n hx hb dL_law_579 rfl (lv_at hl 0 rfl) ?_
  refine lv_iconst (v := 1) hx hb dL_law_580 (by decide) ?_
  refine lv_iadd hx hb dL_law_581 ?_
  refine lv_topi (fun z624 ez624 => ?_)
  obtain rfl : z624 = 1 := ez624.trans (by decide)
  refine va_sld hx hb hX hbl hbA hS (tq_in (a := 1) (by decide) (by omega)) dL_law_582 ?_
  refine lv_aload_n hx hb dL_law_583 rfl (lv_at hl 3 rfl) ?_
  refine lv_iload_n hx hb dL_law_584 rfl (lv_at hl 0 rfl) ?_
  refine lv_iconst (v := 2) hx hb dL_law_585 (by decide) ?_
  refine lv_iadd hx hb dL_law_586 ?_
  refine lv_topi (fun z625 ez625 => ?_)
  obtain rfl : z625 = 2 := ez625.trans (by decide)
  refine va_sld hx hb hX hbl hbA hS (tq_in (a := 2) (by decide) (by omega)) dL_law_587 ?_
  refine ct_calli (D := D) (wc := (w_c_X12_danced cI cJ cB cZ cO h1 v)) (wr := [((v 1), .inl (cI, 4, .inl (szf))), ((v 2), .inl (cI, 4, .inl (fun _ => 0))), ((v 3), .inl (cJ, 240, .inr (.inl (fun _ => 0)))), ((v 5), .inl (cB, 1200, .inl (fun _ => 0))), ((v 25), .inl (cZ, 3, .inl (fun _ => 0))), ((v 17), .inl (cI, 55, .inl (fun _ => 0))), ((v 18), .inl (cI, 120, .inl (fun _ => 0))), ((v 19), .inl (cI, 30, .inl (fun _ => 0))), ((v 20), .inl (cI, 160, .inl (fun _ => 0))), ((v 21), .inl (cZ, 1000, .inl (fun _ => 0))), ((v 22), .inl (cI, 120, .inl (fun _ => 0))), ((v 23), .inl (cI, 50, .inl (fun _ => 0))), ((v 24), .inl (cI, 800, .inl (fun _ => 0)))]) (va_runV (As := [.int (xs (1 : Int32).toNatClampNeg), .int (xs (2 : Int32).toNatClampNeg)]) (rest := [.int (-2)]) ⟨hx, hb, hml, hown, hts⟩ (c_X12_danced l D cI cJ cB cZ cO h1 v ((xs (1 : Int32).toNatClampNeg)) ((xs (2 : Int32).toNatClampNeg)) H.size) (cwV 2 hts gL_law_X12_danced rfl rfl rfl (by decide +kernel) ⟨Nat.le_of_ble_eq_true rfl, Nat.le_of_ble_eq_true rfl⟩) (ct_preV (T := ct_T cI cJ cB cZ cO) (ci := 12) (q0 := 0) hE hP hD [0, 6] (by decide) rfl rfl rfl) rfl rfl hl.1 rfl (lv_room (Nat.le_of_ble_eq_true rfl)) dL_law_588 ⟨Nat.le_of_ble_eq_true rfl, Nat.le_of_ble_eq_true rfl⟩) hP hD hS hA [0, 6] [1, 2, 3, 4, 5, 7, 8, 9, 10, 11, 12, 13, 14] rfl rfl (by decide) (by decide) (fun rz u H locs hw hP hD hS => ?_)
  have hP : va_P D vwCl [((v 1), .inl (cI, 4, .inl (szf))), ((v 2), .inl (cI, 4, .inl (fun _ => 0))), ((v 3), .inl (cJ, 240, .inr (.inl (fun _ => 0)))), ((v 5), .inl (cB, 1200, .inl (fun _ => 0))), ((v 25), .inl (cZ, 3, .inl (fun _ => 0))), ((v 17), .inl (cI, 55, .inl (fun _ => 0))), ((v 18), .inl (cI, 120, .inl (fun _ => 0))), ((v 19), .inl (cI, 30, .inl (fun _ => 0))), ((v 20), .inl (cI, 160, .inl (fun _ => 0))), ((v 21), .inl (cZ, 1000, .inl (fun _ => 0))), ((v 22), .inl (cI, 120, .inl (fun _ => 0))), ((v 23), .inl (cI, 50, .inl (fun _ => 0))), ((v 24), .inl (cI, 800, .inl (fun _ => 0)))] H := hP
  have hD : va_D A [((v 1), .inl (cI, 4, .inl (szf))), ((v 2), .inl (cI, 4, .inl (fun _ => 0))), ((v 3), .inl (cJ, 240, .inr (.inl (fun _ => 0)))), ((v 5), .inl (cB, 1200, .inl (fun _ => 0))), ((v 25), .inl (cZ, 3, .inl (fun _ => 0))), ((v 17), .inl (cI, 55, .inl (fun _ => 0))), ((v 18), .inl (cI, 120, .inl (fun _ => 0))), ((v 19), .inl (cI, 30, .inl (fun _ => 0))), ((v 20), .inl (cI, 160, .inl (fun _ => 0))), ((v 21), .inl (cZ, 1000, .inl (fun _ => 0))), ((v 22), .inl (cI, 120, .inl (fun _ => 0))), ((v 23), .inl (cI, 50, .inl (fun _ => 0))), ((v 24), .inl (cI, 800, .inl (fun _ => 0)))] := hD
  obtain ⟨rfl, hq626⟩ := hw
  refine lv_icmp_eq (tgt := 2167) hx hb dL_law_591 (by decide) (fun _ => ?_) (fun hc => absurd hc (by decide))
  refine W.widen (k := 107) (n := 36842) (Nat.le_of_ble_eq_true rfl) (Nat.le_of_ble_eq_true rfl) ?_
  exact law_tail hx hb hml hr hlocks hX hbl hbA hA hAf hS (lv_sub hl [0, 1, 2, 3] rfl)
set_option maxHeartbeats 4000000 in
set_option maxRecDepth 100000 in
theorem law_c10 {p : Program} {l : Launch} {e : Env} {s : State} {m : MethodId} {below : List Frame} {meth : Method} {c : Code} {A : Nat → Prop} {b : Nat} {xs : Nat → Int32} (hx : p.tables.exec = Jvm.exec) (hb : c.code = code) (hml : c.maxLocals = 4) (hr : meth.sig.returnType = ret) (hlocks : meth.locks = false) (hX : va_X b 6 xs s s.heap) (hbl : b < s.heap.size) (hbA : ¬ A b) (hA : ∀ q : Nat, s.heap.size ≤ q → A q) (hAf : ∀ q : Nat, A q → s.heap.size ≤ q) (D : va_G) (cI cJ cB cZ cO : ClassId) (h0 h1 : Nat) (u v : Nat → Nat) (hown : s.vm.findClass RL = some m.cls) (hts : ∀ w ∈ wsL_law, w.before #[Value.ref b] s = true) (hE : ct_E D (ct_T cI cJ cB cZ cO) s) {H : Heap} {locs : List Loc} (hP : va_P D vwCl (LW cI cJ cB cZ cO h0 h1 u v) H) (hD : va_D A (LW cI cJ cB cZ cO h0 h1 u v)) (hS : va_S A s.heap H locs) {ls : Array Slot} (hl : lv_has ls 4 [(3, .int 0), (2, .ref h1), (1, .ref h0), (0, .ref b)]) : W p l e room_1 s m #[Value.ref b] below meth c H locs 107 36842 (lw_Z below #[Value.ref b] s) (F0 m 596 ls []) := by
  have hK := hE.1
  refine lv_aload_n hx hb dL_law_596 rfl (lv_at hl 2 rfl) ?_
  refine lv_aload_n hx hb dL_law_597 rfl (lv_at hl 3 rfl) ?_
  refine lv_iload_n hx hb dL_law_598 rfl (lv_at hl 0 rfl) ?_
  refine lv_iconst (v := 1) hx hb dL_law_599 (by decide) ?_
  refine lv_iadd hx hb dL_law_600 ?_
  refine lv_topi (fun z627 ez627 => ?_)
  obtain rfl : z627 = 1 := ez627.trans (by decide)
  refine va_sld hx hb hX hbl hbA hS (tq_in (a := 1) (by decide) (by omega)) dL_law_601 ?_
  refine lv_aload_n hx hb dL_law_602 rfl (lv_at hl 3 rfl) ?_
  refine lv_iload_n hx hb dL_law_603 rfl (lv_at hl 0 rfl) ?_
  refine lv_iconst (v := 2) hx hb dL_law_604 (by decide) ?_
  refine lv_iadd hx hb dL_law_605 ?_
  refine lv_topi (fun z628 ez628 => ?_)
  obtain rfl : z628 = 2 := ez628.trans (by decide)
  refine va_sld hx hb hX hbl hbA hS (tq_in (a := 2) (by decide) (by omega)) dL_law_606 ?_
  refine ct_calli (D := D) (wc := (w_c_X11_hears cI cJ cB cZ cO h0 u)) (wr := [mo h1 v 0 0, ((v 1), .inl (cI, 4, .inl (szf))), ((v 2), .inl (cI, 4, .inl (fun _ => 0))), ((v 3), .inl (cJ, 240, .inr (.inl (fun _ => 0)))), ((v 5), .inl (cB, 1200, .inl (fun _ => 0))), ((v 25), .inl (cZ, 3, .inl (fun _ => 0))), ((v 16), .inl (cI, 5, .inl (fun _ => 0))), ((v 17), .inl (cI, 55, .inl (fun _ => 0))), ((v 18), .inl (cI, 120, .inl (fun _ => 0))), ((v 19), .inl (cI, 30, .inl (fun _ => 0))), ((v 20), .inl (cI, 160, .inl (fun _ => 0))), ((v 21), .inl (cZ, 1000, .inl (fun _ => 0))), ((v 22), .inl (cI, 120, .inl (fun _ => 0))), ((v 23), .inl (cI, 50, .inl (fun _ => 0))), ((v 24), .inl (cI, 800, .inl (fun _ => 0)))]) (va_runV (As := [.int (xs (1 : Int32).toNatClampNeg), .int (xs (2 : Int32).toNatClampNeg)]) (rest := []) ⟨hx, hb, hml, hown, hts⟩ (c_X11_hears l D cI cJ cB cZ cO h0 u ((xs (1 : Int32).toNatClampNeg)) ((xs (2 : Int32).toNatClampNeg)) H.size) (cwV 2 hts gL_law_X11_hears rfl rfl rfl (by decide +kernel) ⟨Nat.le_of_ble_eq_true rfl, Nat.le_of_ble_eq_true rfl⟩) (ct_preV (T := ct_T cI cJ cB cZ cO) (ci := 11) (q0 := 0) hE hP hD [0, 4] (by decide) rfl rfl rfl) rfl rfl hl.1 rfl (lv_room (Nat.le_of_ble_eq_true rfl)) dL_law_607 ⟨Nat.le_of_ble_eq_true rfl, Nat.le_of_ble_eq_true rfl⟩) hP hD hS hA [0, 4] [55, 56, 57, 58, 59, 60, 61, 62, 63, 64, 65, 66, 67, 68, 69] rfl rfl (by decide) (by decide) (fun rz u H locs hw hP hD hS => ?_)
  have hP : va_P D vwCl [mo h1 v 0 0, ((v 1), .inl (cI, 4, .inl (szf))), ((v 2), .inl (cI, 4, .inl (fun _ => 0))), ((v 3), .inl (cJ, 240, .inr (.inl (fun _ => 0)))), ((v 5), .inl (cB, 1200, .inl (fun _ => 0))), ((v 25), .inl (cZ, 3, .inl (fun _ => 0))), ((v 16), .inl (cI, 5, .inl (fun _ => 0))), ((v 17), .inl (cI, 55, .inl (fun _ => 0))), ((v 18), .inl (cI, 120, .inl (fun _ => 0))), ((v 19), .inl (cI, 30, .inl (fun _ => 0))), ((v 20), .inl (cI, 160, .inl (fun _ => 0))), ((v 21), .inl (cZ, 1000, .inl (fun _ => 0))), ((v 22), .inl (cI, 120, .inl (fun _ => 0))), ((v 23), .inl (cI, 50, .inl (fun _ => 0))), ((v 24), .inl (cI, 800, .inl (fun _ => 0)))] H := hP
  have hD : va_D A [mo h1 v 0 0, ((v 1), .inl (cI, 4, .inl (szf))), ((v 2), .inl (cI, 4, .inl (fun _ => 0))), ((v 3), .inl (cJ, 240, .inr (.inl (fun _ => 0)))), ((v 5), .inl (cB, 1200, .inl (fun _ => 0))), ((v 25), .inl (cZ, 3, .inl (fun _ => 0))), ((v 16), .inl (cI, 5, .inl (fun _ => 0))), ((v 17), .inl (cI, 55, .inl (fun _ => 0))), ((v 18), .inl (cI, 120, .inl (fun _ => 0))), ((v 19), .inl (cI, 30, .inl (fun _ => 0))), ((v 20), .inl (cI, 160, .inl (fun _ => 0))), ((v 21), .inl (cZ, 1000, .inl (fun _ => 0))), ((v 22), .inl (cI, 120, .inl (fun _ => 0))), ((v 23), .inl (cI, 50, .inl (fun _ => 0))), ((v 24), .inl (cI, 800, .inl (fun _ => 0)))] := hD
  obtain ⟨rfl, hq629⟩ := hw
  refine lv_aload_n hx hb dL_law_610 rfl (lv_at hl 1 rfl) ?_
  refine lv_aload_n hx hb dL_law_611 rfl (lv_at hl 3 rfl) ?_
  refine lv_iload_n hx hb dL_law_612 rfl (lv_at hl 0 rfl) ?_
  refine lv_iconst (v := 1) hx hb dL_law_613 (by decide) ?_
  refine lv_iadd hx hb dL_law_614 ?_
  refine lv_topi (fun z630 ez630 => ?_)
  obtain rfl : z630 = 1 := ez630.trans (by decide)
  refine va_sld hx hb hX hbl hbA hS (tq_in (a := 1) (by decide) (by omega)) dL_law_615 ?_
  refine lv_aload_n hx hb dL_law_616 rfl (lv_at hl 3 rfl) ?_
  refine lv_iload_n hx hb dL_law_617 rfl (lv_at hl 0 rfl) ?_
  refine lv_iconst (v := 2) hx hb dL_law_618 (by decide) ?_
  refine lv_iadd hx hb dL_law_619 ?_
  refine lv_topi (fun z631 ez631 => ?_)
  obtain rfl : z631 = 2 := ez631.trans (by decide)
  refine va_sld hx hb hX hbl hbA hS (tq_in (a := 2) (by decide) (by omega)) dL_law_620 ?_
  refine ct_calli (D := D) (wc := (w_c_X12_hears cI cJ cB cZ cO h1 v)) (wr := [((v 1), .inl (cI, 4, .inl (szf))), ((v 2), .inl (cI, 4, .inl (fun _ => 0))), ((v 3), .inl (cJ, 240, .inr (.inl (fun _ => 0)))), ((v 5), .inl (cB, 1200, .inl (fun _ => 0))), ((v 25), .inl (cZ, 3, .inl (fun _ => 0))), ((v 17), .inl (cI, 55, .inl (fun _ => 0))), ((v 18), .inl (cI, 120, .inl (fun _ => 0))), ((v 19), .inl (cI, 30, .inl (fun _ => 0))), ((v 20), .inl (cI, 160, .inl (fun _ => 0))), ((v 21), .inl (cZ, 1000, .inl (fun _ => 0))), ((v 22), .inl (cI, 120, .inl (fun _ => 0))), ((v 23), .inl (cI, 50, .inl (fun _ => 0))), ((v 24), .inl (cI, 800, .inl (fun _ => 0)))]) (va_runV (As := [.int (xs (1 : Int32).toNatClampNeg), .int (xs (2 : Int32).toNatClampNeg)]) (rest := [.int (-2)]) ⟨hx, hb, hml, hown, hts⟩ (c_X12_hears l D cI cJ cB cZ cO h1 v ((xs (1 : Int32).toNatClampNeg)) ((xs (2 : Int32).toNatClampNeg)) H.size) (cwV 2 hts gL_law_X12_hears rfl rfl rfl (by decide +kernel) ⟨Nat.le_of_ble_eq_true rfl, Nat.le_of_ble_eq_true rfl⟩) (ct_preV (T := ct_T cI cJ cB cZ cO) (ci := 12) (q0 := 0) hE hP hD [0, 6] (by decide) rfl rfl rfl) rfl rfl hl.1 rfl (lv_room (Nat.le_of_ble_eq_true rfl)) dL_law_621 ⟨Nat.le_of_ble_eq_true rfl, Nat.le_of_ble_eq_true rfl⟩) hP hD hS hA [0, 6] [1, 2, 3, 4, 5, 7, 8, 9, 10, 11, 12, 13, 14] rfl rfl (by decide) (by decide) (fun rz u H locs hw hP hD hS => ?_)
  have hP : va_P D vwCl [((v 1), .inl (cI, 4, .inl (szf))), ((v 2), .inl (cI, 4, .inl (fun _ => 0))), ((v 3), .inl (cJ, 240, .inr (.inl (fun _ => 0)))), ((v 5), .inl (cB, 1200, .inl (fun _ => 0))), ((v 25), .inl (cZ, 3, .inl (fun _ => 0))), ((v 17), .inl (cI, 55, .inl (fun _ => 0))), ((v 18), .inl (cI, 120, .inl (fun _ => 0))), ((v 19), .inl (cI, 30, .inl (fun _ => 0))), ((v 20), .inl (cI, 160, .inl (fun _ => 0))), ((v 21), .inl (cZ, 1000, .inl (fun _ => 0))), ((v 22), .inl (cI, 120, .inl (fun _ => 0))), ((v 23), .inl (cI, 50, .inl (fun _ => 0))), ((v 24), .inl (cI, 800, .inl (fun _ => 0)))] H := hP
  have hD : va_D A [((v 1), .inl (cI, 4, .inl (szf))), ((v 2), .inl (cI, 4, .inl (fun _ => 0))), ((v 3), .inl (cJ, 240, .inr (.inl (fun _ => 0)))), ((v 5), .inl (cB, 1200, .inl (fun _ => 0))), ((v 25), .inl (cZ, 3, .inl (fun _ => 0))), ((v 17), .inl (cI, 55, .inl (fun _ => 0))), ((v 18), .inl (cI, 120, .inl (fun _ => 0))), ((v 19), .inl (cI, 30, .inl (fun _ => 0))), ((v 20), .inl (cI, 160, .inl (fun _ => 0))), ((v 21), .inl (cZ, 1000, .inl (fun _ => 0))), ((v 22), .inl (cI, 120, .inl (fun _ => 0))), ((v 23), .inl (cI, 50, .inl (fun _ => 0))), ((v 24), .inl (cI, 800, .inl (fun _ => 0)))] := hD
  obtain ⟨rfl, hq632⟩ := hw
  refine lv_icmp_eq (tgt := 2167) hx hb dL_law_624 (by decide) (fun _ => ?_) (fun hc => absurd hc (by decide))
  refine W.widen (k := 107) (n := 36842) (Nat.le_of_ble_eq_true rfl) (Nat.le_of_ble_eq_true rfl) ?_
  exact law_tail hx hb hml hr hlocks hX hbl hbA hA hAf hS (lv_sub hl [0, 1, 2, 3] rfl)
set_option maxHeartbeats 4000000 in
set_option maxRecDepth 100000 in
theorem law_c11 {p : Program} {l : Launch} {e : Env} {s : State} {m : MethodId} {below : List Frame} {meth : Method} {c : Code} {A : Nat → Prop} {b : Nat} {xs : Nat → Int32} (hx : p.tables.exec = Jvm.exec) (hb : c.code = code) (hml : c.maxLocals = 4) (hr : meth.sig.returnType = ret) (hlocks : meth.locks = false) (hX : va_X b 6 xs s s.heap) (hbl : b < s.heap.size) (hbA : ¬ A b) (hA : ∀ q : Nat, s.heap.size ≤ q → A q) (hAf : ∀ q : Nat, A q → s.heap.size ≤ q) (D : va_G) (cI cJ cB cZ cO : ClassId) (h0 h1 : Nat) (u v : Nat → Nat) (hown : s.vm.findClass RL = some m.cls) (hts : ∀ w ∈ wsL_law, w.before #[Value.ref b] s = true) (hE : ct_E D (ct_T cI cJ cB cZ cO) s) {H : Heap} {locs : List Loc} (hP : va_P D vwCl (LW cI cJ cB cZ cO h0 h1 u v) H) (hD : va_D A (LW cI cJ cB cZ cO h0 h1 u v)) (hS : va_S A s.heap H locs) {ls : Array Slot} (hl : lv_has ls 4 [(3, .int 0), (2, .ref h1), (1, .ref h0), (0, .ref b)]) : W p l e room_1 s m #[Value.ref b] below meth c H locs 107 36842 (lw_Z below #[Value.ref b] s) (F0 m 629 ls []) := by
  have hK := hE.1
  refine lv_aload_n hx hb dL_law_629 rfl (lv_at hl 2 rfl) ?_
  refine lv_aload_n hx hb dL_law_630 rfl (lv_at hl 3 rfl) ?_
  refine lv_iload_n hx hb dL_law_631 rfl (lv_at hl 0 rfl) ?_
  refine lv_iconst (v := 1) hx hb dL_law_632 (by decide) ?_
  refine lv_iadd hx hb dL_law_633 ?_
  refine lv_topi (fun z633 ez633 => ?_)
  obtain rfl : z633 = 1 := ez633.trans (by decide)
  refine va_sld hx hb hX hbl hbA hS (tq_in (a := 1) (by decide) (by omega)) dL_law_634 ?_
  refine lv_aload_n hx hb dL_law_635 rfl (lv_at hl 3 rfl) ?_
  refine lv_iload_n hx hb dL_law_636 rfl (lv_at hl 0 rfl) ?_
  refine lv_iconst (v := 2) hx hb dL_law_637 (by decide) ?_
  refine lv_iadd hx hb dL_law_638 ?_
  refine lv_topi (fun z634 ez634 => ?_)
  obtain rfl : z634 = 2 := ez634.trans (by decide)
  refine va_sld hx hb hX hbl hbA hS (tq_in (a := 2) (by decide) (by omega)) dL_law_639 ?_
  refine ct_calli (D := D) (wc := (w_c_X11_late cI cJ cB cZ cO h0 u)) (wr := [mo h1 v 0 0, ((v 1), .inl (cI, 4, .inl (szf))), ((v 2), .inl (cI, 4, .inl (fun _ => 0))), ((v 3), .inl (cJ, 240, .inr (.inl (fun _ => 0)))), ((v 5), .inl (cB, 1200, .inl (fun _ => 0))), ((v 25), .inl (cZ, 3, .inl (fun _ => 0))), ((v 16), .inl (cI, 5, .inl (fun _ => 0))), ((v 17), .inl (cI, 55, .inl (fun _ => 0))), ((v 18), .inl (cI, 120, .inl (fun _ => 0))), ((v 19), .inl (cI, 30, .inl (fun _ => 0))), ((v 20), .inl (cI, 160, .inl (fun _ => 0))), ((v 21), .inl (cZ, 1000, .inl (fun _ => 0))), ((v 22), .inl (cI, 120, .inl (fun _ => 0))), ((v 23), .inl (cI, 50, .inl (fun _ => 0))), ((v 24), .inl (cI, 800, .inl (fun _ => 0)))]) (va_runV (As := [.int (xs (1 : Int32).toNatClampNeg), .int (xs (2 : Int32).toNatClampNeg)]) (rest := []) ⟨hx, hb, hml, hown, hts⟩ (c_X11_late l D cI cJ cB cZ cO h0 u ((xs (1 : Int32).toNatClampNeg)) ((xs (2 : Int32).toNatClampNeg)) H.size) (cwV 2 hts gL_law_X11_late rfl rfl rfl (by decide +kernel) ⟨Nat.le_of_ble_eq_true rfl, Nat.le_of_ble_eq_true rfl⟩) (ct_preV (T := ct_T cI cJ cB cZ cO) (ci := 11) (q0 := 0) hE hP hD [0, 4] (by decide) rfl rfl rfl) rfl rfl hl.1 rfl (lv_room (Nat.le_of_ble_eq_true rfl)) dL_law_640 ⟨Nat.le_of_ble_eq_true rfl, Nat.le_of_ble_eq_true rfl⟩) hP hD hS hA [0, 4] [55, 56, 57, 58, 59, 60, 61, 62, 63, 64, 65, 66, 67, 68, 69] rfl rfl (by decide) (by decide) (fun rz u H locs hw hP hD hS => ?_)
  have hP : va_P D vwCl [mo h1 v 0 0, ((v 1), .inl (cI, 4, .inl (szf))), ((v 2), .inl (cI, 4, .inl (fun _ => 0))), ((v 3), .inl (cJ, 240, .inr (.inl (fun _ => 0)))), ((v 5), .inl (cB, 1200, .inl (fun _ => 0))), ((v 25), .inl (cZ, 3, .inl (fun _ => 0))), ((v 16), .inl (cI, 5, .inl (fun _ => 0))), ((v 17), .inl (cI, 55, .inl (fun _ => 0))), ((v 18), .inl (cI, 120, .inl (fun _ => 0))), ((v 19), .inl (cI, 30, .inl (fun _ => 0))), ((v 20), .inl (cI, 160, .inl (fun _ => 0))), ((v 21), .inl (cZ, 1000, .inl (fun _ => 0))), ((v 22), .inl (cI, 120, .inl (fun _ => 0))), ((v 23), .inl (cI, 50, .inl (fun _ => 0))), ((v 24), .inl (cI, 800, .inl (fun _ => 0)))] H := hP
  have hD : va_D A [mo h1 v 0 0, ((v 1), .inl (cI, 4, .inl (szf))), ((v 2), .inl (cI, 4, .inl (fun _ => 0))), ((v 3), .inl (cJ, 240, .inr (.inl (fun _ => 0)))), ((v 5), .inl (cB, 1200, .inl (fun _ => 0))), ((v 25), .inl (cZ, 3, .inl (fun _ => 0))), ((v 16), .inl (cI, 5, .inl (fun _ => 0))), ((v 17), .inl (cI, 55, .inl (fun _ => 0))), ((v 18), .inl (cI, 120, .inl (fun _ => 0))), ((v 19), .inl (cI, 30, .inl (fun _ => 0))), ((v 20), .inl (cI, 160, .inl (fun _ => 0))), ((v 21), .inl (cZ, 1000, .inl (fun _ => 0))), ((v 22), .inl (cI, 120, .inl (fun _ => 0))), ((v 23), .inl (cI, 50, .inl (fun _ => 0))), ((v 24), .inl (cI, 800, .inl (fun _ => 0)))] := hD
  obtain ⟨rfl, hq635⟩ := hw
  refine lv_aload_n hx hb dL_law_643 rfl (lv_at hl 1 rfl) ?_
  refine lv_aload_n hx hb dL_law_644 rfl (lv_at hl 3 rfl) ?_
  refine lv_iload_n hx hb dL_law_645 rfl (lv_at hl 0 rfl) ?_
  refine lv_iconst (v := 1) hx hb dL_law_646 (by decide) ?_
  refine lv_iadd hx hb dL_law_647 ?_
  refine lv_topi (fun z636 ez636 => ?_)
  obtain rfl : z636 = 1 := ez636.trans (by decide)
  refine va_sld hx hb hX hbl hbA hS (tq_in (a := 1) (by decide) (by omega)) dL_law_648 ?_
  refine lv_aload_n hx hb dL_law_649 rfl (lv_at hl 3 rfl) ?_
  refine lv_iload_n hx hb dL_law_650 rfl (lv_at hl 0 rfl) ?_
  refine lv_iconst (v := 2) hx hb dL_law_651 (by decide) ?_
  refine lv_iadd hx hb dL_law_652 ?_
  refine lv_topi (fun z637 ez637 => ?_)
  obtain rfl : z637 = 2 := ez637.trans (by decide)
  refine va_sld hx hb hX hbl hbA hS (tq_in (a := 2) (by decide) (by omega)) dL_law_653 ?_
  refine ct_calli (D := D) (wc := (w_c_X12_late cI cJ cB cZ cO h1 v)) (wr := [((v 1), .inl (cI, 4, .inl (szf))), ((v 2), .inl (cI, 4, .inl (fun _ => 0))), ((v 3), .inl (cJ, 240, .inr (.inl (fun _ => 0)))), ((v 5), .inl (cB, 1200, .inl (fun _ => 0))), ((v 25), .inl (cZ, 3, .inl (fun _ => 0))), ((v 17), .inl (cI, 55, .inl (fun _ => 0))), ((v 18), .inl (cI, 120, .inl (fun _ => 0))), ((v 19), .inl (cI, 30, .inl (fun _ => 0))), ((v 20), .inl (cI, 160, .inl (fun _ => 0))), ((v 21), .inl (cZ, 1000, .inl (fun _ => 0))), ((v 22), .inl (cI, 120, .inl (fun _ => 0))), ((v 23), .inl (cI, 50, .inl (fun _ => 0))), ((v 24), .inl (cI, 800, .inl (fun _ => 0)))]) (va_runV (As := [.int (xs (1 : Int32).toNatClampNeg), .int (xs (2 : Int32).toNatClampNeg)]) (rest := [.int (-2)]) ⟨hx, hb, hml, hown, hts⟩ (c_X12_late l D cI cJ cB cZ cO h1 v ((xs (1 : Int32).toNatClampNeg)) ((xs (2 : Int32).toNatClampNeg)) H.size) (cwV 2 hts gL_law_X12_late rfl rfl rfl (by decide +kernel) ⟨Nat.le_of_ble_eq_true rfl, Nat.le_of_ble_eq_true rfl⟩) (ct_preV (T := ct_T cI cJ cB cZ cO) (ci := 12) (q0 := 0) hE hP hD [0, 6] (by decide) rfl rfl rfl) rfl rfl hl.1 rfl (lv_room (Nat.le_of_ble_eq_true rfl)) dL_law_654 ⟨Nat.le_of_ble_eq_true rfl, Nat.le_of_ble_eq_true rfl⟩) hP hD hS hA [0, 6] [1, 2, 3, 4, 5, 7, 8, 9, 10, 11, 12, 13, 14] rfl rfl (by decide) (by decide) (fun rz u H locs hw hP hD hS => ?_)
  have hP : va_P D vwCl [((v 1), .inl (cI, 4, .inl (szf))), ((v 2), .inl (cI, 4, .inl (fun _ => 0))), ((v 3), .inl (cJ, 240, .inr (.inl (fun _ => 0)))), ((v 5), .inl (cB, 1200, .inl (fun _ => 0))), ((v 25), .inl (cZ, 3, .inl (fun _ => 0))), ((v 17), .inl (cI, 55, .inl (fun _ => 0))), ((v 18), .inl (cI, 120, .inl (fun _ => 0))), ((v 19), .inl (cI, 30, .inl (fun _ => 0))), ((v 20), .inl (cI, 160, .inl (fun _ => 0))), ((v 21), .inl (cZ, 1000, .inl (fun _ => 0))), ((v 22), .inl (cI, 120, .inl (fun _ => 0))), ((v 23), .inl (cI, 50, .inl (fun _ => 0))), ((v 24), .inl (cI, 800, .inl (fun _ => 0)))] H := hP
  have hD : va_D A [((v 1), .inl (cI, 4, .inl (szf))), ((v 2), .inl (cI, 4, .inl (fun _ => 0))), ((v 3), .inl (cJ, 240, .inr (.inl (fun _ => 0)))), ((v 5), .inl (cB, 1200, .inl (fun _ => 0))), ((v 25), .inl (cZ, 3, .inl (fun _ => 0))), ((v 17), .inl (cI, 55, .inl (fun _ => 0))), ((v 18), .inl (cI, 120, .inl (fun _ => 0))), ((v 19), .inl (cI, 30, .inl (fun _ => 0))), ((v 20), .inl (cI, 160, .inl (fun _ => 0))), ((v 21), .inl (cZ, 1000, .inl (fun _ => 0))), ((v 22), .inl (cI, 120, .inl (fun _ => 0))), ((v 23), .inl (cI, 50, .inl (fun _ => 0))), ((v 24), .inl (cI, 800, .inl (fun _ => 0)))] := hD
  obtain ⟨rfl, hq638⟩ := hw
  refine lv_icmp_eq (tgt := 2167) hx hb dL_law_657 (by decide) (fun _ => ?_) (fun hc => absurd hc (by decide))
  refine W.widen (k := 107) (n := 36842) (Nat.le_of_ble_eq_true rfl) (Nat.le_of_ble_eq_true rfl) ?_
  exact law_tail hx hb hml hr hlocks hX hbl hbA hA hAf hS (lv_sub hl [0, 1, 2, 3] rfl)
set_option maxHeartbeats 4000000 in
set_option maxRecDepth 100000 in
theorem law_c12 {p : Program} {l : Launch} {e : Env} {s : State} {m : MethodId} {below : List Frame} {meth : Method} {c : Code} {A : Nat → Prop} {b : Nat} {xs : Nat → Int32} (hx : p.tables.exec = Jvm.exec) (hb : c.code = code) (hml : c.maxLocals = 4) (hr : meth.sig.returnType = ret) (hlocks : meth.locks = false) (hX : va_X b 6 xs s s.heap) (hbl : b < s.heap.size) (hbA : ¬ A b) (hA : ∀ q : Nat, s.heap.size ≤ q → A q) (hAf : ∀ q : Nat, A q → s.heap.size ≤ q) (D : va_G) (cI cJ cB cZ cO : ClassId) (h0 h1 : Nat) (u v : Nat → Nat) (hown : s.vm.findClass RL = some m.cls) (hts : ∀ w ∈ wsL_law, w.before #[Value.ref b] s = true) (hE : ct_E D (ct_T cI cJ cB cZ cO) s) {H : Heap} {locs : List Loc} (hP : va_P D vwCl (LW cI cJ cB cZ cO h0 h1 u v) H) (hD : va_D A (LW cI cJ cB cZ cO h0 h1 u v)) (hS : va_S A s.heap H locs) {ls : Array Slot} (hl : lv_has ls 4 [(3, .int 0), (2, .ref h1), (1, .ref h0), (0, .ref b)]) : W p l e room_1 s m #[Value.ref b] below meth c H locs 107 36842 (lw_Z below #[Value.ref b] s) (F0 m 662 ls []) := by
  have hK := hE.1
  refine lv_aload_n hx hb dL_law_662 rfl (lv_at hl 2 rfl) ?_
  refine lv_aload_n hx hb dL_law_663 rfl (lv_at hl 3 rfl) ?_
  refine lv_iload_n hx hb dL_law_664 rfl (lv_at hl 0 rfl) ?_
  refine lv_iconst (v := 1) hx hb dL_law_665 (by decide) ?_
  refine lv_iadd hx hb dL_law_666 ?_
  refine lv_topi (fun z639 ez639 => ?_)
  obtain rfl : z639 = 1 := ez639.trans (by decide)
  refine va_sld hx hb hX hbl hbA hS (tq_in (a := 1) (by decide) (by omega)) dL_law_667 ?_
  refine lv_aload_n hx hb dL_law_668 rfl (lv_at hl 3 rfl) ?_
  refine lv_iload_n hx hb dL_law_669 rfl (lv_at hl 0 rfl) ?_
  refine lv_iconst (v := 2) hx hb dL_law_670 (by decide) ?_
  refine lv_iadd hx hb dL_law_671 ?_
  refine lv_topi (fun z640 ez640 => ?_)
  obtain rfl : z640 = 2 := ez640.trans (by decide)
  refine va_sld hx hb hX hbl hbA hS (tq_in (a := 2) (by decide) (by omega)) dL_law_672 ?_
  refine ct_calli (D := D) (wc := (w_c_X11_hole cI cJ cB cZ cO h0 u)) (wr := [mo h1 v 0 0, ((v 1), .inl (cI, 4, .inl (szf))), ((v 2), .inl (cI, 4, .inl (fun _ => 0))), ((v 3), .inl (cJ, 240, .inr (.inl (fun _ => 0)))), ((v 5), .inl (cB, 1200, .inl (fun _ => 0))), ((v 25), .inl (cZ, 3, .inl (fun _ => 0))), ((v 16), .inl (cI, 5, .inl (fun _ => 0))), ((v 17), .inl (cI, 55, .inl (fun _ => 0))), ((v 18), .inl (cI, 120, .inl (fun _ => 0))), ((v 19), .inl (cI, 30, .inl (fun _ => 0))), ((v 20), .inl (cI, 160, .inl (fun _ => 0))), ((v 21), .inl (cZ, 1000, .inl (fun _ => 0))), ((v 22), .inl (cI, 120, .inl (fun _ => 0))), ((v 23), .inl (cI, 50, .inl (fun _ => 0))), ((v 24), .inl (cI, 800, .inl (fun _ => 0)))]) (va_runV (As := [.int (xs (1 : Int32).toNatClampNeg), .int (xs (2 : Int32).toNatClampNeg)]) (rest := []) ⟨hx, hb, hml, hown, hts⟩ (c_X11_hole l D cI cJ cB cZ cO h0 u ((xs (1 : Int32).toNatClampNeg)) ((xs (2 : Int32).toNatClampNeg)) H.size) (cwV 2 hts gL_law_X11_hole rfl rfl rfl (by decide +kernel) ⟨Nat.le_of_ble_eq_true rfl, Nat.le_of_ble_eq_true rfl⟩) (ct_preV (T := ct_T cI cJ cB cZ cO) (ci := 11) (q0 := 0) hE hP hD [0, 4] (by decide) rfl rfl rfl) rfl rfl hl.1 rfl (lv_room (Nat.le_of_ble_eq_true rfl)) dL_law_673 ⟨Nat.le_of_ble_eq_true rfl, Nat.le_of_ble_eq_true rfl⟩) hP hD hS hA [0, 4] [55, 56, 57, 58, 59, 60, 61, 62, 63, 64, 65, 66, 67, 68, 69] rfl rfl (by decide) (by decide) (fun rz u H locs hw hP hD hS => ?_)
  have hP : va_P D vwCl [mo h1 v 0 0, ((v 1), .inl (cI, 4, .inl (szf))), ((v 2), .inl (cI, 4, .inl (fun _ => 0))), ((v 3), .inl (cJ, 240, .inr (.inl (fun _ => 0)))), ((v 5), .inl (cB, 1200, .inl (fun _ => 0))), ((v 25), .inl (cZ, 3, .inl (fun _ => 0))), ((v 16), .inl (cI, 5, .inl (fun _ => 0))), ((v 17), .inl (cI, 55, .inl (fun _ => 0))), ((v 18), .inl (cI, 120, .inl (fun _ => 0))), ((v 19), .inl (cI, 30, .inl (fun _ => 0))), ((v 20), .inl (cI, 160, .inl (fun _ => 0))), ((v 21), .inl (cZ, 1000, .inl (fun _ => 0))), ((v 22), .inl (cI, 120, .inl (fun _ => 0))), ((v 23), .inl (cI, 50, .inl (fun _ => 0))), ((v 24), .inl (cI, 800, .inl (fun _ => 0)))] H := hP
  have hD : va_D A [mo h1 v 0 0, ((v 1), .inl (cI, 4, .inl (szf))), ((v 2), .inl (cI, 4, .inl (fun _ => 0))), ((v 3), .inl (cJ, 240, .inr (.inl (fun _ => 0)))), ((v 5), .inl (cB, 1200, .inl (fun _ => 0))), ((v 25), .inl (cZ, 3, .inl (fun _ => 0))), ((v 16), .inl (cI, 5, .inl (fun _ => 0))), ((v 17), .inl (cI, 55, .inl (fun _ => 0))), ((v 18), .inl (cI, 120, .inl (fun _ => 0))), ((v 19), .inl (cI, 30, .inl (fun _ => 0))), ((v 20), .inl (cI, 160, .inl (fun _ => 0))), ((v 21), .inl (cZ, 1000, .inl (fun _ => 0))), ((v 22), .inl (cI, 120, .inl (fun _ => 0))), ((v 23), .inl (cI, 50, .inl (fun _ => 0))), ((v 24), .inl (cI, 800, .inl (fun _ => 0)))] := hD
  obtain ⟨rfl, hq641⟩ := hw
  refine lv_aload_n hx hb dL_law_676 rfl (lv_at hl 1 rfl) ?_
  refine lv_aload_n hx hb dL_law_677 rfl (lv_at hl 3 rfl) ?_
  refine lv_iload_n hx hb dL_law_678 rfl (lv_at hl 0 rfl) ?_
  refine lv_iconst (v := 1) hx hb dL_law_679 (by decide) ?_
  refine lv_iadd hx hb dL_law_680 ?_
  refine lv_topi (fun z642 ez642 => ?_)
  obtain rfl : z642 = 1 := ez642.trans (by decide)
  refine va_sld hx hb hX hbl hbA hS (tq_in (a := 1) (by decide) (by omega)) dL_law_681 ?_
  refine lv_aload_n hx hb dL_law_682 rfl (lv_at hl 3 rfl) ?_
  refine lv_iload_n hx hb dL_law_683 rfl (lv_at hl 0 rfl) ?_
  refine lv_iconst (v := 2) hx hb dL_law_684 (by decide) ?_
  refine lv_iadd hx hb dL_law_685 ?_
  refine lv_topi (fun z643 ez643 => ?_)
  obtain rfl : z643 = 2 := ez643.trans (by decide)
  refine va_sld hx hb hX hbl hbA hS (tq_in (a := 2) (by decide) (by omega)) dL_law_686 ?_
  refine ct_calli (D := D) (wc := (w_c_X12_hole cI cJ cB cZ cO h1 v)) (wr := [((v 1), .inl (cI, 4, .inl (szf))), ((v 2), .inl (cI, 4, .inl (fun _ => 0))), ((v 3), .inl (cJ, 240, .inr (.inl (fun _ => 0)))), ((v 5), .inl (cB, 1200, .inl (fun _ => 0))), ((v 25), .inl (cZ, 3, .inl (fun _ => 0))), ((v 17), .inl (cI, 55, .inl (fun _ => 0))), ((v 18), .inl (cI, 120, .inl (fun _ => 0))), ((v 19), .inl (cI, 30, .inl (fun _ => 0))), ((v 20), .inl (cI, 160, .inl (fun _ => 0))), ((v 21), .inl (cZ, 1000, .inl (fun _ => 0))), ((v 22), .inl (cI, 120, .inl (fun _ => 0))), ((v 23), .inl (cI, 50, .inl (fun _ => 0))), ((v 24), .inl (cI, 800, .inl (fun _ => 0)))]) (va_runV (As := [.int (xs (1 : Int32).toNatClampNeg), .int (xs (2 : Int32).toNatClampNeg)]) (rest := [.int (-2)]) ⟨hx, hb, hml, hown, hts⟩ (c_X12_hole l D cI cJ cB cZ cO h1 v ((xs (1 : Int32).toNatClampNeg)) ((xs (2 : Int32).toNatClampNeg)) H.size) (cwV 2 hts gL_law_X12_hole rfl rfl rfl (by decide +kernel) ⟨Nat.le_of_ble_eq_true rfl, Nat.le_of_ble_eq_true rfl⟩) (ct_preV (T := ct_T cI cJ cB cZ cO) (ci := 12) (q0 := 0) hE hP hD [0, 6] (by decide) rfl rfl rfl) rfl rfl hl.1 rfl (lv_room (Nat.le_of_ble_eq_true rfl)) dL_law_687 ⟨Nat.le_of_ble_eq_true rfl, Nat.le_of_ble_eq_true rfl⟩) hP hD hS hA [0, 6] [1, 2, 3, 4, 5, 7, 8, 9, 10, 11, 12, 13, 14] rfl rfl (by decide) (by decide) (fun rz u H locs hw hP hD hS => ?_)
  have hP : va_P D vwCl [((v 1), .inl (cI, 4, .inl (szf))), ((v 2), .inl (cI, 4, .inl (fun _ => 0))), ((v 3), .inl (cJ, 240, .inr (.inl (fun _ => 0)))), ((v 5), .inl (cB, 1200, .inl (fun _ => 0))), ((v 25), .inl (cZ, 3, .inl (fun _ => 0))), ((v 17), .inl (cI, 55, .inl (fun _ => 0))), ((v 18), .inl (cI, 120, .inl (fun _ => 0))), ((v 19), .inl (cI, 30, .inl (fun _ => 0))), ((v 20), .inl (cI, 160, .inl (fun _ => 0))), ((v 21), .inl (cZ, 1000, .inl (fun _ => 0))), ((v 22), .inl (cI, 120, .inl (fun _ => 0))), ((v 23), .inl (cI, 50, .inl (fun _ => 0))), ((v 24), .inl (cI, 800, .inl (fun _ => 0)))] H := hP
  have hD : va_D A [((v 1), .inl (cI, 4, .inl (szf))), ((v 2), .inl (cI, 4, .inl (fun _ => 0))), ((v 3), .inl (cJ, 240, .inr (.inl (fun _ => 0)))), ((v 5), .inl (cB, 1200, .inl (fun _ => 0))), ((v 25), .inl (cZ, 3, .inl (fun _ => 0))), ((v 17), .inl (cI, 55, .inl (fun _ => 0))), ((v 18), .inl (cI, 120, .inl (fun _ => 0))), ((v 19), .inl (cI, 30, .inl (fun _ => 0))), ((v 20), .inl (cI, 160, .inl (fun _ => 0))), ((v 21), .inl (cZ, 1000, .inl (fun _ => 0))), ((v 22), .inl (cI, 120, .inl (fun _ => 0))), ((v 23), .inl (cI, 50, .inl (fun _ => 0))), ((v 24), .inl (cI, 800, .inl (fun _ => 0)))] := hD
  obtain ⟨rfl, hq644⟩ := hw
  refine lv_icmp_eq (tgt := 2167) hx hb dL_law_690 (by decide) (fun _ => ?_) (fun hc => absurd hc (by decide))
  refine W.widen (k := 107) (n := 36842) (Nat.le_of_ble_eq_true rfl) (Nat.le_of_ble_eq_true rfl) ?_
  exact law_tail hx hb hml hr hlocks hX hbl hbA hA hAf hS (lv_sub hl [0, 1, 2, 3] rfl)
set_option maxHeartbeats 4000000 in
set_option maxRecDepth 100000 in
theorem law_c13 {p : Program} {l : Launch} {e : Env} {s : State} {m : MethodId} {below : List Frame} {meth : Method} {c : Code} {A : Nat → Prop} {b : Nat} {xs : Nat → Int32} (hx : p.tables.exec = Jvm.exec) (hb : c.code = code) (hml : c.maxLocals = 4) (hr : meth.sig.returnType = ret) (hlocks : meth.locks = false) (hX : va_X b 6 xs s s.heap) (hbl : b < s.heap.size) (hbA : ¬ A b) (hA : ∀ q : Nat, s.heap.size ≤ q → A q) (hAf : ∀ q : Nat, A q → s.heap.size ≤ q) (D : va_G) (cI cJ cB cZ cO : ClassId) (h0 h1 : Nat) (u v : Nat → Nat) (hown : s.vm.findClass RL = some m.cls) (hts : ∀ w ∈ wsL_law, w.before #[Value.ref b] s = true) (hE : ct_E D (ct_T cI cJ cB cZ cO) s) {H : Heap} {locs : List Loc} (hP : va_P D vwCl (LW cI cJ cB cZ cO h0 h1 u v) H) (hD : va_D A (LW cI cJ cB cZ cO h0 h1 u v)) (hS : va_S A s.heap H locs) {ls : Array Slot} (hl : lv_has ls 4 [(3, .int 0), (2, .ref h1), (1, .ref h0), (0, .ref b)]) : W p l e room_1 s m #[Value.ref b] below meth c H locs 107 36842 (lw_Z below #[Value.ref b] s) (F0 m 695 ls []) := by
  have hK := hE.1
  refine lv_aload_n hx hb dL_law_695 rfl (lv_at hl 2 rfl) ?_
  refine lv_aload_n hx hb dL_law_696 rfl (lv_at hl 3 rfl) ?_
  refine lv_iload_n hx hb dL_law_697 rfl (lv_at hl 0 rfl) ?_
  refine lv_iconst (v := 1) hx hb dL_law_698 (by decide) ?_
  refine lv_iadd hx hb dL_law_699 ?_
  refine lv_topi (fun z645 ez645 => ?_)
  obtain rfl : z645 = 1 := ez645.trans (by decide)
  refine va_sld hx hb hX hbl hbA hS (tq_in (a := 1) (by decide) (by omega)) dL_law_700 ?_
  refine lv_aload_n hx hb dL_law_701 rfl (lv_at hl 3 rfl) ?_
  refine lv_iload_n hx hb dL_law_702 rfl (lv_at hl 0 rfl) ?_
  refine lv_iconst (v := 2) hx hb dL_law_703 (by decide) ?_
  refine lv_iadd hx hb dL_law_704 ?_
  refine lv_topi (fun z646 ez646 => ?_)
  obtain rfl : z646 = 2 := ez646.trans (by decide)
  refine va_sld hx hb hX hbl hbA hS (tq_in (a := 2) (by decide) (by omega)) dL_law_705 ?_
  refine ct_calli (D := D) (wc := (w_c_X11_next cI cJ cB cZ cO h0 u)) (wr := [mo h1 v 0 0, ((v 1), .inl (cI, 4, .inl (szf))), ((v 2), .inl (cI, 4, .inl (fun _ => 0))), ((v 3), .inl (cJ, 240, .inr (.inl (fun _ => 0)))), ((v 5), .inl (cB, 1200, .inl (fun _ => 0))), ((v 25), .inl (cZ, 3, .inl (fun _ => 0))), ((v 16), .inl (cI, 5, .inl (fun _ => 0))), ((v 17), .inl (cI, 55, .inl (fun _ => 0))), ((v 18), .inl (cI, 120, .inl (fun _ => 0))), ((v 19), .inl (cI, 30, .inl (fun _ => 0))), ((v 20), .inl (cI, 160, .inl (fun _ => 0))), ((v 21), .inl (cZ, 1000, .inl (fun _ => 0))), ((v 22), .inl (cI, 120, .inl (fun _ => 0))), ((v 23), .inl (cI, 50, .inl (fun _ => 0))), ((v 24), .inl (cI, 800, .inl (fun _ => 0)))]) (va_runV (As := [.int (xs (1 : Int32).toNatClampNeg), .int (xs (2 : Int32).toNatClampNeg)]) (rest := []) ⟨hx, hb, hml, hown, hts⟩ (c_X11_next l D cI cJ cB cZ cO h0 u ((xs (1 : Int32).toNatClampNeg)) ((xs (2 : Int32).toNatClampNeg)) H.size) (cwV 2 hts gL_law_X11_next rfl rfl rfl (by decide +kernel) ⟨Nat.le_of_ble_eq_true rfl, Nat.le_of_ble_eq_true rfl⟩) (ct_preV (T := ct_T cI cJ cB cZ cO) (ci := 11) (q0 := 0) hE hP hD [0, 4] (by decide) rfl rfl rfl) rfl rfl hl.1 rfl (lv_room (Nat.le_of_ble_eq_true rfl)) dL_law_706 ⟨Nat.le_of_ble_eq_true rfl, Nat.le_of_ble_eq_true rfl⟩) hP hD hS hA [0, 4] [55, 56, 57, 58, 59, 60, 61, 62, 63, 64, 65, 66, 67, 68, 69] rfl rfl (by decide) (by decide) (fun rz u H locs hw hP hD hS => ?_)
  have hP : va_P D vwCl [mo h1 v 0 0, ((v 1), .inl (cI, 4, .inl (szf))), ((v 2), .inl (cI, 4, .inl (fun _ => 0))), ((v 3), .inl (cJ, 240, .inr (.inl (fun _ => 0)))), ((v 5), .inl (cB, 1200, .inl (fun _ => 0))), ((v 25), .inl (cZ, 3, .inl (fun _ => 0))), ((v 16), .inl (cI, 5, .inl (fun _ => 0))), ((v 17), .inl (cI, 55, .inl (fun _ => 0))), ((v 18), .inl (cI, 120, .inl (fun _ => 0))), ((v 19), .inl (cI, 30, .inl (fun _ => 0))), ((v 20), .inl (cI, 160, .inl (fun _ => 0))), ((v 21), .inl (cZ, 1000, .inl (fun _ => 0))), ((v 22), .inl (cI, 120, .inl (fun _ => 0))), ((v 23), .inl (cI, 50, .inl (fun _ => 0))), ((v 24), .inl (cI, 800, .inl (fun _ => 0)))] H := hP
  have hD : va_D A [mo h1 v 0 0, ((v 1), .inl (cI, 4, .inl (szf))), ((v 2), .inl (cI, 4, .inl (fun _ => 0))), ((v 3), .inl (cJ, 240, .inr (.inl (fun _ => 0)))), ((v 5), .inl (cB, 1200, .inl (fun _ => 0))), ((v 25), .inl (cZ, 3, .inl (fun _ => 0))), ((v 16), .inl (cI, 5, .inl (fun _ => 0))), ((v 17), .inl (cI, 55, .inl (fun _ => 0))), ((v 18), .inl (cI, 120, .inl (fun _ => 0))), ((v 19), .inl (cI, 30, .inl (fun _ => 0))), ((v 20), .inl (cI, 160, .inl (fun _ => 0))), ((v 21), .inl (cZ, 1000, .inl (fun _ => 0))), ((v 22), .inl (cI, 120, .inl (fun _ => 0))), ((v 23), .inl (cI, 50, .inl (fun _ => 0))), ((v 24), .inl (cI, 800, .inl (fun _ => 0)))] := hD
  obtain ⟨rfl, hq647⟩ := hw
  refine lv_aload_n hx hb dL_law_709 rfl (lv_at hl 1 rfl) ?_
  refine lv_aload_n hx hb dL_law_710 rfl (lv_at hl 3 rfl) ?_
  refine lv_iload_n hx hb dL_law_711 rfl (lv_at hl 0 rfl) ?_
  refine lv_iconst (v := 1) hx hb dL_law_712 (by decide) ?_
  refine lv_iadd hx hb dL_law_713 ?_
  refine lv_topi (fun z648 ez648 => ?_)
  obtain rfl : z648 = 1 := ez648.trans (by decide)
  refine va_sld hx hb hX hbl hbA hS (tq_in (a := 1) (by decide) (by omega)) dL_law_714 ?_
  refine lv_aload_n hx hb dL_law_715 rfl (lv_at hl 3 rfl) ?_
  refine lv_iload_n hx hb dL_law_716 rfl (lv_at hl 0 rfl) ?_
  refine lv_iconst (v := 2) hx hb dL_law_717 (by decide) ?_
  refine lv_iadd hx hb dL_law_718 ?_
  refine lv_topi (fun z649 ez649 => ?_)
  obtain rfl : z649 = 2 := ez649.trans (by decide)
  refine va_sld hx hb hX hbl hbA hS (tq_in (a := 2) (by decide) (by omega)) dL_law_719 ?_
  refine ct_calli (D := D) (wc := (w_c_X12_next_ cI cJ cB cZ cO h1 v)) (wr := [((v 1), .inl (cI, 4, .inl (szf))), ((v 2), .inl (cI, 4, .inl (fun _ => 0))), ((v 3), .inl (cJ, 240, .inr (.inl (fun _ => 0)))), ((v 5), .inl (cB, 1200, .inl (fun _ => 0))), ((v 25), .inl (cZ, 3, .inl (fun _ => 0))), ((v 17), .inl (cI, 55, .inl (fun _ => 0))), ((v 18), .inl (cI, 120, .inl (fun _ => 0))), ((v 19), .inl (cI, 30, .inl (fun _ => 0))), ((v 20), .inl (cI, 160, .inl (fun _ => 0))), ((v 21), .inl (cZ, 1000, .inl (fun _ => 0))), ((v 22), .inl (cI, 120, .inl (fun _ => 0))), ((v 23), .inl (cI, 50, .inl (fun _ => 0))), ((v 24), .inl (cI, 800, .inl (fun _ => 0)))]) (va_runV (As := [.int (xs (1 : Int32).toNatClampNeg), .int (xs (2 : Int32).toNatClampNeg)]) (rest := [.int (-2)]) ⟨hx, hb, hml, hown, hts⟩ (c_X12_next_ l D cI cJ cB cZ cO h1 v ((xs (1 : Int32).toNatClampNeg)) ((xs (2 : Int32).toNatClampNeg)) H.size) (cwV 2 hts gL_law_X12_next_ rfl rfl rfl (by decide +kernel) ⟨Nat.le_of_ble_eq_true rfl, Nat.le_of_ble_eq_true rfl⟩) (ct_preV (T := ct_T cI cJ cB cZ cO) (ci := 12) (q0 := 0) hE hP hD [0, 6] (by decide) rfl rfl rfl) rfl rfl hl.1 rfl (lv_room (Nat.le_of_ble_eq_true rfl)) dL_law_720 ⟨Nat.le_of_ble_eq_true rfl, Nat.le_of_ble_eq_true rfl⟩) hP hD hS hA [0, 6] [1, 2, 3, 4, 5, 7, 8, 9, 10, 11, 12, 13, 14] rfl rfl (by decide) (by decide) (fun rz u H locs hw hP hD hS => ?_)
  have hP : va_P D vwCl [((v 1), .inl (cI, 4, .inl (szf))), ((v 2), .inl (cI, 4, .inl (fun _ => 0))), ((v 3), .inl (cJ, 240, .inr (.inl (fun _ => 0)))), ((v 5), .inl (cB, 1200, .inl (fun _ => 0))), ((v 25), .inl (cZ, 3, .inl (fun _ => 0))), ((v 17), .inl (cI, 55, .inl (fun _ => 0))), ((v 18), .inl (cI, 120, .inl (fun _ => 0))), ((v 19), .inl (cI, 30, .inl (fun _ => 0))), ((v 20), .inl (cI, 160, .inl (fun _ => 0))), ((v 21), .inl (cZ, 1000, .inl (fun _ => 0))), ((v 22), .inl (cI, 120, .inl (fun _ => 0))), ((v 23), .inl (cI, 50, .inl (fun _ => 0))), ((v 24), .inl (cI, 800, .inl (fun _ => 0)))] H := hP
  have hD : va_D A [((v 1), .inl (cI, 4, .inl (szf))), ((v 2), .inl (cI, 4, .inl (fun _ => 0))), ((v 3), .inl (cJ, 240, .inr (.inl (fun _ => 0)))), ((v 5), .inl (cB, 1200, .inl (fun _ => 0))), ((v 25), .inl (cZ, 3, .inl (fun _ => 0))), ((v 17), .inl (cI, 55, .inl (fun _ => 0))), ((v 18), .inl (cI, 120, .inl (fun _ => 0))), ((v 19), .inl (cI, 30, .inl (fun _ => 0))), ((v 20), .inl (cI, 160, .inl (fun _ => 0))), ((v 21), .inl (cZ, 1000, .inl (fun _ => 0))), ((v 22), .inl (cI, 120, .inl (fun _ => 0))), ((v 23), .inl (cI, 50, .inl (fun _ => 0))), ((v 24), .inl (cI, 800, .inl (fun _ => 0)))] := hD
  obtain ⟨rfl, hq650⟩ := hw
  refine lv_icmp_eq (tgt := 2167) hx hb dL_law_723 (by decide) (fun _ => ?_) (fun hc => absurd hc (by decide))
  refine W.widen (k := 107) (n := 36842) (Nat.le_of_ble_eq_true rfl) (Nat.le_of_ble_eq_true rfl) ?_
  exact law_tail hx hb hml hr hlocks hX hbl hbA hA hAf hS (lv_sub hl [0, 1, 2, 3] rfl)
set_option maxHeartbeats 4000000 in
set_option maxRecDepth 100000 in
theorem law_c14 {p : Program} {l : Launch} {e : Env} {s : State} {m : MethodId} {below : List Frame} {meth : Method} {c : Code} {A : Nat → Prop} {b : Nat} {xs : Nat → Int32} (hx : p.tables.exec = Jvm.exec) (hb : c.code = code) (hml : c.maxLocals = 4) (hr : meth.sig.returnType = ret) (hlocks : meth.locks = false) (hX : va_X b 6 xs s s.heap) (hbl : b < s.heap.size) (hbA : ¬ A b) (hA : ∀ q : Nat, s.heap.size ≤ q → A q) (hAf : ∀ q : Nat, A q → s.heap.size ≤ q) (D : va_G) (cI cJ cB cZ cO : ClassId) (h0 h1 : Nat) (u v : Nat → Nat) (hown : s.vm.findClass RL = some m.cls) (hts : ∀ w ∈ wsL_law, w.before #[Value.ref b] s = true) (hE : ct_E D (ct_T cI cJ cB cZ cO) s) {H : Heap} {locs : List Loc} (hP : va_P D vwCl (LW cI cJ cB cZ cO h0 h1 u v) H) (hD : va_D A (LW cI cJ cB cZ cO h0 h1 u v)) (hS : va_S A s.heap H locs) {ls : Array Slot} (hl : lv_has ls 4 [(3, .int 0), (2, .ref h1), (1, .ref h0), (0, .ref b)]) : W p l e room_1 s m #[Value.ref b] below meth c H locs 107 36842 (lw_Z below #[Value.ref b] s) (F0 m 728 ls []) := by
  have hK := hE.1
  refine lv_aload_n hx hb dL_law_728 rfl (lv_at hl 2 rfl) ?_
  refine lv_aload_n hx hb dL_law_729 rfl (lv_at hl 3 rfl) ?_
  refine lv_iload_n hx hb dL_law_730 rfl (lv_at hl 0 rfl) ?_
  refine lv_iconst (v := 1) hx hb dL_law_731 (by decide) ?_
  refine lv_iadd hx hb dL_law_732 ?_
  refine lv_topi (fun z651 ez651 => ?_)
  obtain rfl : z651 = 1 := ez651.trans (by decide)
  refine va_sld hx hb hX hbl hbA hS (tq_in (a := 1) (by decide) (by omega)) dL_law_733 ?_
  refine lv_aload_n hx hb dL_law_734 rfl (lv_at hl 3 rfl) ?_
  refine lv_iload_n hx hb dL_law_735 rfl (lv_at hl 0 rfl) ?_
  refine lv_iconst (v := 2) hx hb dL_law_736 (by decide) ?_
  refine lv_iadd hx hb dL_law_737 ?_
  refine lv_topi (fun z652 ez652 => ?_)
  obtain rfl : z652 = 2 := ez652.trans (by decide)
  refine va_sld hx hb hX hbl hbA hS (tq_in (a := 2) (by decide) (by omega)) dL_law_738 ?_
  refine lv_aload_n hx hb dL_law_739 rfl (lv_at hl 3 rfl) ?_
  refine lv_iload_n hx hb dL_law_740 rfl (lv_at hl 0 rfl) ?_
  refine lv_iconst (v := 3) hx hb dL_law_741 (by decide) ?_
  refine lv_iadd hx hb dL_law_742 ?_
  refine lv_topi (fun z653 ez653 => ?_)
  obtain rfl : z653 = 3 := ez653.trans (by decide)
  refine va_sld hx hb hX hbl hbA hS (tq_in (a := 3) (by decide) (by omega)) dL_law_743 ?_
  refine ct_calli (D := D) (wc := (w_c_X11_holes cI cJ cB cZ cO h0 u)) (wr := [mo h1 v 0 0, ((v 1), .inl (cI, 4, .inl (szf))), ((v 2), .inl (cI, 4, .inl (fun _ => 0))), ((v 3), .inl (cJ, 240, .inr (.inl (fun _ => 0)))), ((v 5), .inl (cB, 1200, .inl (fun _ => 0))), ((v 25), .inl (cZ, 3, .inl (fun _ => 0))), ((v 16), .inl (cI, 5, .inl (fun _ => 0))), ((v 17), .inl (cI, 55, .inl (fun _ => 0))), ((v 18), .inl (cI, 120, .inl (fun _ => 0))), ((v 19), .inl (cI, 30, .inl (fun _ => 0))), ((v 20), .inl (cI, 160, .inl (fun _ => 0))), ((v 21), .inl (cZ, 1000, .inl (fun _ => 0))), ((v 22), .inl (cI, 120, .inl (fun _ => 0))), ((v 23), .inl (cI, 50, .inl (fun _ => 0))), ((v 24), .inl (cI, 800, .inl (fun _ => 0)))]) (va_runV (As := [.int (xs (1 : Int32).toNatClampNeg), .int (xs (2 : Int32).toNatClampNeg), .int (xs (3 : Int32).toNatClampNeg)]) (rest := []) ⟨hx, hb, hml, hown, hts⟩ (c_X11_holes l D cI cJ cB cZ cO h0 u ((xs (1 : Int32).toNatClampNeg)) ((xs (2 : Int32).toNatClampNeg)) ((xs (3 : Int32).toNatClampNeg)) H.size) (cwV 3 hts gL_law_X11_holes rfl rfl rfl (by decide +kernel) ⟨Nat.le_of_ble_eq_true rfl, Nat.le_of_ble_eq_true rfl⟩) (ct_preV (T := ct_T cI cJ cB cZ cO) (ci := 11) (q0 := 0) hE hP hD [0, 4] (by decide) rfl rfl rfl) rfl rfl hl.1 rfl (lv_room (Nat.le_of_ble_eq_true rfl)) dL_law_744 ⟨Nat.le_of_ble_eq_true rfl, Nat.le_of_ble_eq_true rfl⟩) hP hD hS hA [0, 4] [55, 56, 57, 58, 59, 60, 61, 62, 63, 64, 65, 66, 67, 68, 69] rfl rfl (by decide) (by decide) (fun rz u H locs hw hP hD hS => ?_)
  have hP : va_P D vwCl [mo h1 v 0 0, ((v 1), .inl (cI, 4, .inl (szf))), ((v 2), .inl (cI, 4, .inl (fun _ => 0))), ((v 3), .inl (cJ, 240, .inr (.inl (fun _ => 0)))), ((v 5), .inl (cB, 1200, .inl (fun _ => 0))), ((v 25), .inl (cZ, 3, .inl (fun _ => 0))), ((v 16), .inl (cI, 5, .inl (fun _ => 0))), ((v 17), .inl (cI, 55, .inl (fun _ => 0))), ((v 18), .inl (cI, 120, .inl (fun _ => 0))), ((v 19), .inl (cI, 30, .inl (fun _ => 0))), ((v 20), .inl (cI, 160, .inl (fun _ => 0))), ((v 21), .inl (cZ, 1000, .inl (fun _ => 0))), ((v 22), .inl (cI, 120, .inl (fun _ => 0))), ((v 23), .inl (cI, 50, .inl (fun _ => 0))), ((v 24), .inl (cI, 800, .inl (fun _ => 0)))] H := hP
  have hD : va_D A [mo h1 v 0 0, ((v 1), .inl (cI, 4, .inl (szf))), ((v 2), .inl (cI, 4, .inl (fun _ => 0))), ((v 3), .inl (cJ, 240, .inr (.inl (fun _ => 0)))), ((v 5), .inl (cB, 1200, .inl (fun _ => 0))), ((v 25), .inl (cZ, 3, .inl (fun _ => 0))), ((v 16), .inl (cI, 5, .inl (fun _ => 0))), ((v 17), .inl (cI, 55, .inl (fun _ => 0))), ((v 18), .inl (cI, 120, .inl (fun _ => 0))), ((v 19), .inl (cI, 30, .inl (fun _ => 0))), ((v 20), .inl (cI, 160, .inl (fun _ => 0))), ((v 21), .inl (cZ, 1000, .inl (fun _ => 0))), ((v 22), .inl (cI, 120, .inl (fun _ => 0))), ((v 23), .inl (cI, 50, .inl (fun _ => 0))), ((v 24), .inl (cI, 800, .inl (fun _ => 0)))] := hD
  obtain ⟨rfl, hq654⟩ := hw
  refine lv_aload_n hx hb dL_law_747 rfl (lv_at hl 1 rfl) ?_
  refine lv_aload_n hx hb dL_law_748 rfl (lv_at hl 3 rfl) ?_
  refine lv_iload_n hx hb dL_law_749 rfl (lv_at hl 0 rfl) ?_
  refine lv_iconst (v := 1) hx hb dL_law_750 (by decide) ?_
  refine lv_iadd hx hb dL_law_751 ?_
  refine lv_topi (fun z655 ez655 => ?_)
  obtain rfl : z655 = 1 := ez655.trans (by decide)
  refine va_sld hx hb hX hbl hbA hS (tq_in (a := 1) (by decide) (by omega)) dL_law_752 ?_
  refine lv_aload_n hx hb dL_law_753 rfl (lv_at hl 3 rfl) ?_
  refine lv_iload_n hx hb dL_law_754 rfl (lv_at hl 0 rfl) ?_
  refine lv_iconst (v := 2) hx hb dL_law_755 (by decide) ?_
  refine lv_iadd hx hb dL_law_756 ?_
  refine lv_topi (fun z656 ez656 => ?_)
  obtain rfl : z656 = 2 := ez656.trans (by decide)
  refine va_sld hx hb hX hbl hbA hS (tq_in (a := 2) (by decide) (by omega)) dL_law_757 ?_
  refine lv_aload_n hx hb dL_law_758 rfl (lv_at hl 3 rfl) ?_
  refine lv_iload_n hx hb dL_law_759 rfl (lv_at hl 0 rfl) ?_
  refine lv_iconst (v := 3) hx hb dL_law_760 (by decide) ?_
  refine lv_iadd hx hb dL_law_761 ?_
  refine lv_topi (fun z657 ez657 => ?_)
  obtain rfl : z657 = 3 := ez657.trans (by decide)
  refine va_sld hx hb hX hbl hbA hS (tq_in (a := 3) (by decide) (by omega)) dL_law_762 ?_
  refine ct_calli (D := D) (wc := (w_c_X12_holes cI cJ cB cZ cO h1 v)) (wr := [((v 1), .inl (cI, 4, .inl (szf))), ((v 2), .inl (cI, 4, .inl (fun _ => 0))), ((v 3), .inl (cJ, 240, .inr (.inl (fun _ => 0)))), ((v 5), .inl (cB, 1200, .inl (fun _ => 0))), ((v 25), .inl (cZ, 3, .inl (fun _ => 0))), ((v 17), .inl (cI, 55, .inl (fun _ => 0))), ((v 18), .inl (cI, 120, .inl (fun _ => 0))), ((v 19), .inl (cI, 30, .inl (fun _ => 0))), ((v 20), .inl (cI, 160, .inl (fun _ => 0))), ((v 21), .inl (cZ, 1000, .inl (fun _ => 0))), ((v 22), .inl (cI, 120, .inl (fun _ => 0))), ((v 23), .inl (cI, 50, .inl (fun _ => 0))), ((v 24), .inl (cI, 800, .inl (fun _ => 0)))]) (va_runV (As := [.int (xs (1 : Int32).toNatClampNeg), .int (xs (2 : Int32).toNatClampNeg), .int (xs (3 : Int32).toNatClampNeg)]) (rest := [.int (-2)]) ⟨hx, hb, hml, hown, hts⟩ (c_X12_holes l D cI cJ cB cZ cO h1 v ((xs (1 : Int32).toNatClampNeg)) ((xs (2 : Int32).toNatClampNeg)) ((xs (3 : Int32).toNatClampNeg)) H.size) (cwV 3 hts gL_law_X12_holes rfl rfl rfl (by decide +kernel) ⟨Nat.le_of_ble_eq_true rfl, Nat.le_of_ble_eq_true rfl⟩) (ct_preV (T := ct_T cI cJ cB cZ cO) (ci := 12) (q0 := 0) hE hP hD [0, 6] (by decide) rfl rfl rfl) rfl rfl hl.1 rfl (lv_room (Nat.le_of_ble_eq_true rfl)) dL_law_763 ⟨Nat.le_of_ble_eq_true rfl, Nat.le_of_ble_eq_true rfl⟩) hP hD hS hA [0, 6] [1, 2, 3, 4, 5, 7, 8, 9, 10, 11, 12, 13, 14] rfl rfl (by decide) (by decide) (fun rz u H locs hw hP hD hS => ?_)
  have hP : va_P D vwCl [((v 1), .inl (cI, 4, .inl (szf))), ((v 2), .inl (cI, 4, .inl (fun _ => 0))), ((v 3), .inl (cJ, 240, .inr (.inl (fun _ => 0)))), ((v 5), .inl (cB, 1200, .inl (fun _ => 0))), ((v 25), .inl (cZ, 3, .inl (fun _ => 0))), ((v 17), .inl (cI, 55, .inl (fun _ => 0))), ((v 18), .inl (cI, 120, .inl (fun _ => 0))), ((v 19), .inl (cI, 30, .inl (fun _ => 0))), ((v 20), .inl (cI, 160, .inl (fun _ => 0))), ((v 21), .inl (cZ, 1000, .inl (fun _ => 0))), ((v 22), .inl (cI, 120, .inl (fun _ => 0))), ((v 23), .inl (cI, 50, .inl (fun _ => 0))), ((v 24), .inl (cI, 800, .inl (fun _ => 0)))] H := hP
  have hD : va_D A [((v 1), .inl (cI, 4, .inl (szf))), ((v 2), .inl (cI, 4, .inl (fun _ => 0))), ((v 3), .inl (cJ, 240, .inr (.inl (fun _ => 0)))), ((v 5), .inl (cB, 1200, .inl (fun _ => 0))), ((v 25), .inl (cZ, 3, .inl (fun _ => 0))), ((v 17), .inl (cI, 55, .inl (fun _ => 0))), ((v 18), .inl (cI, 120, .inl (fun _ => 0))), ((v 19), .inl (cI, 30, .inl (fun _ => 0))), ((v 20), .inl (cI, 160, .inl (fun _ => 0))), ((v 21), .inl (cZ, 1000, .inl (fun _ => 0))), ((v 22), .inl (cI, 120, .inl (fun _ => 0))), ((v 23), .inl (cI, 50, .inl (fun _ => 0))), ((v 24), .inl (cI, 800, .inl (fun _ => 0)))] := hD
  obtain ⟨rfl, hq658⟩ := hw
  refine lv_icmp_eq (tgt := 2167) hx hb dL_law_766 (by decide) (fun _ => ?_) (fun hc => absurd hc (by decide))
  refine W.widen (k := 107) (n := 36842) (Nat.le_of_ble_eq_true rfl) (Nat.le_of_ble_eq_true rfl) ?_
  exact law_tail hx hb hml hr hlocks hX hbl hbA hA hAf hS (lv_sub hl [0, 1, 2, 3] rfl)
set_option maxHeartbeats 4000000 in
set_option maxRecDepth 100000 in
theorem law_c15 {p : Program} {l : Launch} {e : Env} {s : State} {m : MethodId} {below : List Frame} {meth : Method} {c : Code} {A : Nat → Prop} {b : Nat} {xs : Nat → Int32} (hx : p.tables.exec = Jvm.exec) (hb : c.code = code) (hml : c.maxLocals = 4) (hr : meth.sig.returnType = ret) (hlocks : meth.locks = false) (hX : va_X b 6 xs s s.heap) (hbl : b < s.heap.size) (hbA : ¬ A b) (hA : ∀ q : Nat, s.heap.size ≤ q → A q) (hAf : ∀ q : Nat, A q → s.heap.size ≤ q) (D : va_G) (cI cJ cB cZ cO : ClassId) (h0 h1 : Nat) (u v : Nat → Nat) (hown : s.vm.findClass RL = some m.cls) (hts : ∀ w ∈ wsL_law, w.before #[Value.ref b] s = true) (hE : ct_E D (ct_T cI cJ cB cZ cO) s) {H : Heap} {locs : List Loc} (hP : va_P D vwCl (LW cI cJ cB cZ cO h0 h1 u v) H) (hD : va_D A (LW cI cJ cB cZ cO h0 h1 u v)) (hS : va_S A s.heap H locs) {ls : Array Slot} (hl : lv_has ls 4 [(3, .int 0), (2, .ref h1), (1, .ref h0), (0, .ref b)]) : W p l e room_1 s m #[Value.ref b] below meth c H locs 107 36842 (lw_Z below #[Value.ref b] s) (F0 m 771 ls []) := by
  have hK := hE.1
  refine lv_aload_n hx hb dL_law_771 rfl (lv_at hl 2 rfl) ?_
  refine lv_aload_n hx hb dL_law_772 rfl (lv_at hl 3 rfl) ?_
  refine lv_iload_n hx hb dL_law_773 rfl (lv_at hl 0 rfl) ?_
  refine lv_iconst (v := 1) hx hb dL_law_774 (by decide) ?_
  refine lv_iadd hx hb dL_law_775 ?_
  refine lv_topi (fun z659 ez659 => ?_)
  obtain rfl : z659 = 1 := ez659.trans (by decide)
  refine va_sld hx hb hX hbl hbA hS (tq_in (a := 1) (by decide) (by omega)) dL_law_776 ?_
  refine lv_aload_n hx hb dL_law_777 rfl (lv_at hl 3 rfl) ?_
  refine lv_iload_n hx hb dL_law_778 rfl (lv_at hl 0 rfl) ?_
  refine lv_iconst (v := 2) hx hb dL_law_779 (by decide) ?_
  refine lv_iadd hx hb dL_law_780 ?_
  refine lv_topi (fun z660 ez660 => ?_)
  obtain rfl : z660 = 2 := ez660.trans (by decide)
  refine va_sld hx hb hX hbl hbA hS (tq_in (a := 2) (by decide) (by omega)) dL_law_781 ?_
  refine ct_calli (D := D) (wc := (w_c_X11_run cI cJ cB cZ cO h0 u)) (wr := [mo h1 v 0 0, ((v 1), .inl (cI, 4, .inl (szf))), ((v 2), .inl (cI, 4, .inl (fun _ => 0))), ((v 3), .inl (cJ, 240, .inr (.inl (fun _ => 0)))), ((v 5), .inl (cB, 1200, .inl (fun _ => 0))), ((v 25), .inl (cZ, 3, .inl (fun _ => 0))), ((v 16), .inl (cI, 5, .inl (fun _ => 0))), ((v 17), .inl (cI, 55, .inl (fun _ => 0))), ((v 18), .inl (cI, 120, .inl (fun _ => 0))), ((v 19), .inl (cI, 30, .inl (fun _ => 0))), ((v 20), .inl (cI, 160, .inl (fun _ => 0))), ((v 21), .inl (cZ, 1000, .inl (fun _ => 0))), ((v 22), .inl (cI, 120, .inl (fun _ => 0))), ((v 23), .inl (cI, 50, .inl (fun _ => 0))), ((v 24), .inl (cI, 800, .inl (fun _ => 0)))]) (va_runV (As := [.int (xs (1 : Int32).toNatClampNeg), .int (xs (2 : Int32).toNatClampNeg)]) (rest := []) ⟨hx, hb, hml, hown, hts⟩ (c_X11_run l D cI cJ cB cZ cO h0 u ((xs (1 : Int32).toNatClampNeg)) ((xs (2 : Int32).toNatClampNeg)) H.size) (cwV 2 hts gL_law_X11_run rfl rfl rfl (by decide +kernel) ⟨Nat.le_of_ble_eq_true rfl, Nat.le_of_ble_eq_true rfl⟩) (ct_preV (T := ct_T cI cJ cB cZ cO) (ci := 11) (q0 := 0) hE hP hD [0, 4] (by decide) rfl rfl rfl) rfl rfl hl.1 rfl (lv_room (Nat.le_of_ble_eq_true rfl)) dL_law_782 ⟨Nat.le_of_ble_eq_true rfl, Nat.le_of_ble_eq_true rfl⟩) hP hD hS hA [0, 4] [55, 56, 57, 58, 59, 60, 61, 62, 63, 64, 65, 66, 67, 68, 69] rfl rfl (by decide) (by decide) (fun rz u H locs hw hP hD hS => ?_)
  have hP : va_P D vwCl [mo h1 v 0 0, ((v 1), .inl (cI, 4, .inl (szf))), ((v 2), .inl (cI, 4, .inl (fun _ => 0))), ((v 3), .inl (cJ, 240, .inr (.inl (fun _ => 0)))), ((v 5), .inl (cB, 1200, .inl (fun _ => 0))), ((v 25), .inl (cZ, 3, .inl (fun _ => 0))), ((v 16), .inl (cI, 5, .inl (fun _ => 0))), ((v 17), .inl (cI, 55, .inl (fun _ => 0))), ((v 18), .inl (cI, 120, .inl (fun _ => 0))), ((v 19), .inl (cI, 30, .inl (fun _ => 0))), ((v 20), .inl (cI, 160, .inl (fun _ => 0))), ((v 21), .inl (cZ, 1000, .inl (fun _ => 0))), ((v 22), .inl (cI, 120, .inl (fun _ => 0))), ((v 23), .inl (cI, 50, .inl (fun _ => 0))), ((v 24), .inl (cI, 800, .inl (fun _ => 0)))] H := hP
  have hD : va_D A [mo h1 v 0 0, ((v 1), .inl (cI, 4, .inl (szf))), ((v 2), .inl (cI, 4, .inl (fun _ => 0))), ((v 3), .inl (cJ, 240, .inr (.inl (fun _ => 0)))), ((v 5), .inl (cB, 1200, .inl (fun _ => 0))), ((v 25), .inl (cZ, 3, .inl (fun _ => 0))), ((v 16), .inl (cI, 5, .inl (fun _ => 0))), ((v 17), .inl (cI, 55, .inl (fun _ => 0))), ((v 18), .inl (cI, 120, .inl (fun _ => 0))), ((v 19), .inl (cI, 30, .inl (fun _ => 0))), ((v 20), .inl (cI, 160, .inl (fun _ => 0))), ((v 21), .inl (cZ, 1000, .inl (fun _ => 0))), ((v 22), .inl (cI, 120, .inl (fun _ => 0))), ((v 23), .inl (cI, 50, .inl (fun _ => 0))), ((v 24), .inl (cI, 800, .inl (fun _ => 0)))] := hD
  obtain ⟨rfl, hq661⟩ := hw
  refine lv_aload_n hx hb dL_law_785 rfl (lv_at hl 1 rfl) ?_
  refine lv_aload_n hx hb dL_law_786 rfl (lv_at hl 3 rfl) ?_
  refine lv_iload_n hx hb dL_law_787 rfl (lv_at hl 0 rfl) ?_
  refine lv_iconst (v := 1) hx hb dL_law_788 (by decide) ?_
  refine lv_iadd hx hb dL_law_789 ?_
  refine lv_topi (fun z662 ez662 => ?_)
  obtain rfl : z662 = 1 := ez662.trans (by decide)
  refine va_sld hx hb hX hbl hbA hS (tq_in (a := 1) (by decide) (by omega)) dL_law_790 ?_
  refine lv_aload_n hx hb dL_law_791 rfl (lv_at hl 3 rfl) ?_
  refine lv_iload_n hx hb dL_law_792 rfl (lv_at hl 0 rfl) ?_
  refine lv_iconst (v := 2) hx hb dL_law_793 (by decide) ?_
  refine lv_iadd hx hb dL_law_794 ?_
  refine lv_topi (fun z663 ez663 => ?_)
  obtain rfl : z663 = 2 := ez663.trans (by decide)
  refine va_sld hx hb hX hbl hbA hS (tq_in (a := 2) (by decide) (by omega)) dL_law_795 ?_
  refine ct_calli (D := D) (wc := (w_c_X12_run cI cJ cB cZ cO h1 v)) (wr := [((v 1), .inl (cI, 4, .inl (szf))), ((v 2), .inl (cI, 4, .inl (fun _ => 0))), ((v 3), .inl (cJ, 240, .inr (.inl (fun _ => 0)))), ((v 5), .inl (cB, 1200, .inl (fun _ => 0))), ((v 25), .inl (cZ, 3, .inl (fun _ => 0))), ((v 17), .inl (cI, 55, .inl (fun _ => 0))), ((v 18), .inl (cI, 120, .inl (fun _ => 0))), ((v 19), .inl (cI, 30, .inl (fun _ => 0))), ((v 20), .inl (cI, 160, .inl (fun _ => 0))), ((v 21), .inl (cZ, 1000, .inl (fun _ => 0))), ((v 22), .inl (cI, 120, .inl (fun _ => 0))), ((v 23), .inl (cI, 50, .inl (fun _ => 0))), ((v 24), .inl (cI, 800, .inl (fun _ => 0)))]) (va_runV (As := [.int (xs (1 : Int32).toNatClampNeg), .int (xs (2 : Int32).toNatClampNeg)]) (rest := [.int (-2)]) ⟨hx, hb, hml, hown, hts⟩ (c_X12_run l D cI cJ cB cZ cO h1 v ((xs (1 : Int32).toNatClampNeg)) ((xs (2 : Int32).toNatClampNeg)) H.size) (cwV 2 hts gL_law_X12_run rfl rfl rfl (by decide +kernel) ⟨Nat.le_of_ble_eq_true rfl, Nat.le_of_ble_eq_true rfl⟩) (ct_preV (T := ct_T cI cJ cB cZ cO) (ci := 12) (q0 := 0) hE hP hD [0, 6] (by decide) rfl rfl rfl) rfl rfl hl.1 rfl (lv_room (Nat.le_of_ble_eq_true rfl)) dL_law_796 ⟨Nat.le_of_ble_eq_true rfl, Nat.le_of_ble_eq_true rfl⟩) hP hD hS hA [0, 6] [1, 2, 3, 4, 5, 7, 8, 9, 10, 11, 12, 13, 14] rfl rfl (by decide) (by decide) (fun rz u H locs hw hP hD hS => ?_)
  have hP : va_P D vwCl [((v 1), .inl (cI, 4, .inl (szf))), ((v 2), .inl (cI, 4, .inl (fun _ => 0))), ((v 3), .inl (cJ, 240, .inr (.inl (fun _ => 0)))), ((v 5), .inl (cB, 1200, .inl (fun _ => 0))), ((v 25), .inl (cZ, 3, .inl (fun _ => 0))), ((v 17), .inl (cI, 55, .inl (fun _ => 0))), ((v 18), .inl (cI, 120, .inl (fun _ => 0))), ((v 19), .inl (cI, 30, .inl (fun _ => 0))), ((v 20), .inl (cI, 160, .inl (fun _ => 0))), ((v 21), .inl (cZ, 1000, .inl (fun _ => 0))), ((v 22), .inl (cI, 120, .inl (fun _ => 0))), ((v 23), .inl (cI, 50, .inl (fun _ => 0))), ((v 24), .inl (cI, 800, .inl (fun _ => 0)))] H := hP
  have hD : va_D A [((v 1), .inl (cI, 4, .inl (szf))), ((v 2), .inl (cI, 4, .inl (fun _ => 0))), ((v 3), .inl (cJ, 240, .inr (.inl (fun _ => 0)))), ((v 5), .inl (cB, 1200, .inl (fun _ => 0))), ((v 25), .inl (cZ, 3, .inl (fun _ => 0))), ((v 17), .inl (cI, 55, .inl (fun _ => 0))), ((v 18), .inl (cI, 120, .inl (fun _ => 0))), ((v 19), .inl (cI, 30, .inl (fun _ => 0))), ((v 20), .inl (cI, 160, .inl (fun _ => 0))), ((v 21), .inl (cZ, 1000, .inl (fun _ => 0))), ((v 22), .inl (cI, 120, .inl (fun _ => 0))), ((v 23), .inl (cI, 50, .inl (fun _ => 0))), ((v 24), .inl (cI, 800, .inl (fun _ => 0)))] := hD
  obtain ⟨rfl, hq664⟩ := hw
  refine lv_icmp_eq (tgt := 2167) hx hb dL_law_799 (by decide) (fun _ => ?_) (fun hc => absurd hc (by decide))
  refine W.widen (k := 107) (n := 36842) (Nat.le_of_ble_eq_true rfl) (Nat.le_of_ble_eq_true rfl) ?_
  exact law_tail hx hb hml hr hlocks hX hbl hbA hA hAf hS (lv_sub hl [0, 1, 2, 3] rfl)
