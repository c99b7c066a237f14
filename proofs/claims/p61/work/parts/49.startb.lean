theorem ar_zero {los his : List Int} (h : 0 < los.length ∧ ∀ q, q < los.length → los.getD q 0 ≤ 0 ∧ 0 ≤ his.getD q 0) : ar_ok los his (fun _ => 0) := fun j => by
  have h2 := h.2 (j % los.length) (Nat.mod_lt _ h.1)
  have e : (0 : Int32).toInt = 0 := by decide
  rw [e]; exact h2
theorem rf_c_0 (fc : Nat → Int32) : rf_c (fun _ => 0) fc := fun w hw c hc => by
  have e : (0 : Int32).toInt = 0 := by decide
  have hc2 : (c : Int) < (0 : Int32).toInt := hc
  omega
theorem rf_t_0 (fc : Nat → Int32) : rf_t (fun _ => 0) fc := fun w hw c hc => by
  have e : (0 : Int32).toInt = 0 := by decide
  have hc2 : (c : Int) < (0 : Int32).toInt := hc
  omega
theorem rf_g_0 (fg : Nat → Int32) : rf_g (fun _ => 0) fg := fun w hw => by
  refine ⟨fun q hq => ?_, ?_⟩
  · have e : (0 : Int32).toInt = 0 := by decide
    have hc2 : (q : Int) < (0 : Int32).toInt := hq
    omega
  · show ((rg_n fg (40 * w) (0 : Int32).toInt.toNat : Nat) : Int) ≤ (0 : Int32).toInt
    rw [show (0 : Int32).toInt = 0 from by decide]
    exact Int.le_refl 0
theorem sm_ex : ∀ i, i < 16 → Cond.exactly (Term.string RX5 (ct_sx.getD i (0, "")).1) "java/lang/String" ∈ (flatC (Jvm.Cond.and given_1 narrow_1)) := by decide +kernel
theorem sm_co : ∀ i, i < 16 → Cond.eq (.field (Term.string RX5 (ct_sx.getD i (0, "")).1) "java/lang/String" "coder" "B") (.int 0) ∈ (flatC (Jvm.Cond.and given_1 narrow_1)) := by decide +kernel
theorem sm_ar : ∀ i, i < 16 → Cond.arrayOf (.field (Term.string RX5 (ct_sx.getD i (0, "")).1) "java/lang/String" "value" "[B") .byte ∈ (flatC (Jvm.Cond.and given_1 narrow_1)) := by decide +kernel
theorem sm_le : ∀ i, i < 16 → Cond.eq (.length (.field (Term.string RX5 (ct_sx.getD i (0, "")).1) "java/lang/String" "value" "[B")) (.int (Int32.ofNat (ct_len.getD i 0))) ∈ (flatC (Jvm.Cond.and given_1 narrow_1)) := by decide +kernel
theorem sm_el : ∀ i, i < 16 → ∀ j, j < ct_len.getD i 0 → Cond.eq (.elem (.field (Term.string RX5 (ct_sx.getD i (0, "")).1) "java/lang/String" "value" "[B") (.int (Int32.ofNat j))) (.int ((ct_byt.getD i []).getD j 0)) ∈ (flatC (Jvm.Cond.and given_1 narrow_1)) := by decide +kernel
theorem sm_ne : ∀ i, i < 16 → ∀ j, j < 16 → i ≠ j → (Cond.not (Cond.eq (Term.string RX5 (ct_sx.getD i (0, "")).1) (Term.string RX5 (ct_sx.getD j (0, "")).1)) ∈ (flatC (Jvm.Cond.and given_1 narrow_1)) ∨ Cond.not (Cond.eq (Term.string RX5 (ct_sx.getD j (0, "")).1) (Term.string RX5 (ct_sx.getD i (0, "")).1)) ∈ (flatC (Jvm.Cond.and given_1 narrow_1))) := by decide +kernel
theorem sm_rf : ∀ i, i < 16 → Cond.stringRef RX5 (ct_sx.getD i (0, "")).1 (ct_sx.getD i (0, "")).2 ∈ lw_tbl := by decide +kernel
theorem sm_pa : Cond.arrayOf (Term.static RX2 "POWERS" "[I") .int ∈ (flatC (Jvm.Cond.and given_1 narrow_1)) := by decide +kernel
theorem sm_pl : Cond.eq (.length (Term.static RX2 "POWERS" "[I")) (.int (Int32.ofNat 6)) ∈ (flatC (Jvm.Cond.and given_1 narrow_1)) := by decide +kernel
theorem sm_pe : ∀ j, j < 6 → Cond.eq (.elem (Term.static RX2 "POWERS" "[I") (.int (Int32.ofNat j))) (.int (ct_pw.getD j 0)) ∈ (flatC (Jvm.Cond.and given_1 narrow_1)) := by decide +kernel
theorem sm_cs : Cond.eq (.static "java/lang/String" "COMPACT_STRINGS" "Z") (.int 1) ∈ (flatC (Jvm.Cond.and given_1 narrow_1)) := by decide +kernel
theorem sm_sf : Cond.isRef (.static "jdk/internal/util/Preconditions" "SIOOBE_FORMATTER" "Ljava/util/function/BiFunction;") ∈ (flatC (Jvm.Cond.and given_1 narrow_1)) := by decide +kernel
theorem sm_t1 : Cond.laysStatic "java/lang/String" "COMPACT_STRINGS" "Z" ∈ lw_tbl := by decide +kernel
theorem sm_t2 : Cond.initialized "java/lang/String" ∈ lw_tbl := by decide +kernel
theorem sm_t3 : Cond.laysStatic RX2 "POWERS" "[I" ∈ lw_tbl := by decide +kernel
theorem sm_t4 : Cond.initialized RX2 ∈ lw_tbl := by decide +kernel
theorem sm_t5 : Cond.laysStatic "jdk/internal/util/Preconditions" "SIOOBE_FORMATTER" "Ljava/util/function/BiFunction;" ∈ lw_tbl := by decide +kernel
theorem sm_t6 : Cond.initialized "jdk/internal/util/Preconditions" ∈ lw_tbl := by decide +kernel
theorem st_H {args : Array Value} {s : State} {A : Nat → Prop} (hs : ∀ c ∈ (flatC (Jvm.Cond.and given_1 narrow_1)), c.before args s = true) (ht : ∀ w ∈ lw_tbl, w.before args s = true) (hA : ∀ a : Nat, a < s.heap.size → ¬ A a) : ∃ G : ct_G, ct_H G A s s.heap ∧ ∀ i : Nat, i < 16 → vk_R RX5 (ct_sx.getD i (0, "")).1 (ct_sx.getD i (0, "")).2 (G.1 i) s := by
  obtain ⟨adK, adV, hS, hK⟩ := vk_Sof (args := args) (s := s) (N := 16) (tm := fun i => (Term.string RX5 (ct_sx.getD i (0, "")).1)) (len := ct_len) (byt := ct_byt) (A := A) (by decide) (fun i hi => hs _ (sm_ex i hi)) (fun i hi => hs _ (sm_co i hi)) (fun i hi => hs _ (sm_ar i hi)) (fun i hi => hs _ (sm_le i hi)) (fun i hi j hj => hs _ (sm_el i hi j hj)) (fun i j hi hj hij => (sm_ne i hi j hj hij).imp (hs _) (hs _)) hA
  obtain ⟨tP, hPe, hPT⟩ := va_Tof (args := args) (s := s) (tm := (Term.static RX2 "POWERS" "[I")) (ty := .int) (N := 6) (f := fun j => .int (ct_pw.getD j 0)) (A := A) (by decide) (hs _ sm_pa) (va_eqt (hs _ sm_pl)) (fun j hj => va_eqt (hs _ (sm_pe j hj))) hA
  refine ⟨(adK, adV, tP), ⟨hS, va_Zof (ht _ sm_t1) (ht _ sm_t2) (va_eqt (hs _ sm_cs)) hA, va_Zof (ht _ sm_t3) (ht _ sm_t4) hPe hA, hPT, va_Zqof (ht _ sm_t5) (ht _ sm_t6) (hs _ sm_sf) hA⟩, fun i hi => vk_R.of (ht _ (sm_rf i hi)) (hK i hi)⟩
theorem ct_nl_in : ∀ q ∈ ct_nl, Cond.methodLinkNest q.1 q.2.1 q.2.2.1 q.2.2.2 ∈ lw_tbl := by decide +kernel
set_option maxHeartbeats 8000000 in
set_option maxRecDepth 100000 in
theorem whole_start {p : Program} {e : Env} {s : State} {m : MethodId} {below : List Frame} {meth : Method} {c : Code} (l : Launch) (hflags : l.flags = flags0) {b L : Nat} {xs : Nat → Int32} (hL : L ≤ 3072) (C0 : lw_At p s m meth c b L xs) : W p l e room_1 s m #[Value.ref b] below meth c s.heap [] 0 0 (lw_Z below #[Value.ref b] s) (entryFrame m ([Value.ref b] : List Value).toArray 4) := by
  obtain ⟨hx, hb, hr, hml, hown0, hts0, hX, hbl, hlocks, hgv⟩ := id C0
  have hown : s.vm.findClass RL = some m.cls := hown0
  have hts : ∀ w ∈ wsL_law, w.before #[Value.ref b] s = true := fun w h => hts0 w (wsL_law_in w h)
  obtain ⟨c0, iS0, hKn0⟩ := u_known (C := RX0) (T := TX0) (N := 17) (n := 17) hts0 inX0 (hts0 (.instantiable RX0 17) (by decide +kernel))
  obtain ⟨c1, iS1, hKn1⟩ := u_known (C := RX1) (T := TX1) (N := 6) (n := 6) hts0 inX1 (hts0 (.instantiable RX1 6) (by decide +kernel))
  obtain ⟨c2, iS2, hKn2⟩ := u_known (C := RX2) (T := TX2) (N := 1) (n := 1) hts0 inX2 (hts0 (.instantiable RX2 1) (by decide +kernel))
  obtain ⟨c3, iS3, hKn3⟩ := u_known (C := RX3) (T := TX3) (N := 12) (n := 12) hts0 inX3 (hts0 (.instantiable RX3 12) (by decide +kernel))
  obtain ⟨c4, iS4, hKn4⟩ := u_known (C := RX4) (T := TX4) (N := 7) (n := 7) hts0 inX4 (hts0 (.instantiable RX4 7) (by decide +kernel))
  obtain ⟨c5, iS5, hKn5⟩ := u_known (C := RX5) (T := TX5) (N := 4) (n := 4) hts0 inX5 (hts0 (.instantiable RX5 4) (by decide +kernel))
  obtain ⟨c6, iS6, hKn6⟩ := u_known (C := RX6) (T := TX6) (N := 1) (n := 1) hts0 inX6 (hts0 (.instantiable RX6 1) (by decide +kernel))
  obtain ⟨c7, iS7, hKn7⟩ := u_known (C := RX7) (T := TX7) (N := 3) (n := 3) hts0 inX7 (hts0 (.instantiable RX7 3) (by decide +kernel))
  obtain ⟨c8, iS8, hKn8⟩ := u_known (C := RX8) (T := TX8) (N := 6) (n := 6) hts0 inX8 (hts0 (.instantiable RX8 6) (by decide +kernel))
  obtain ⟨c9, iS9, hKn9⟩ := u_known (C := RX9) (T := TX9) (N := 2) (n := 2) hts0 inX9 (hts0 (.instantiable RX9 2) (by decide +kernel))
  obtain ⟨c10, iS10, hKn10⟩ := u_known (C := RX10) (T := TX10) (N := 3) (n := 3) hts0 inX10 (hts0 (.instantiable RX10 3) (by decide +kernel))
  obtain ⟨c11, iS11, hKn11⟩ := u_known (C := RX11) (T := TX11) (N := 16) (n := 16) hts0 inX11 (hts0 (.instantiable RX11 16) (by decide +kernel))
  obtain ⟨c12, iS12, hKn12⟩ := u_known (C := RX12) (T := TX12) (N := 45) (n := 45) hts0 inX12 (hts0 (.instantiable RX12 45) (by decide +kernel))
  obtain ⟨cI, aI, fI⟩ := ct_arr (hts0 (.arrayClass .int) (by decide +kernel))
  obtain ⟨cJ, aJ, fJ⟩ := ct_arr (hts0 (.arrayClass .long) (by decide +kernel))
  obtain ⟨cB, aB, fB⟩ := ct_arr (hts0 (.arrayClass .byte) (by decide +kernel))
  obtain ⟨cZ, aZ, fZ⟩ := ct_arr (hts0 (.arrayClass .boolean) (by decide +kernel))
  have hAO : va_AO RX0 s := va_AO.of (hts0 (.arrayOver (.object RX0)) (by decide +kernel))
  obtain ⟨cO, aO, fO⟩ := ct_arrq hAO
  obtain ⟨A, hAe⟩ : ∃ A : Nat → Prop, A = fun q => s.heap.size ≤ q := ⟨_, rfl⟩
  have hA : ∀ q : Nat, s.heap.size ≤ q → A q := fun q h => by rw [hAe]; exact h
  have hAf : ∀ q : Nat, A q → s.heap.size ≤ q := fun q h => by rw [hAe] at h; exact h
  have hbA : ¬ A b := fun h => absurd (hAf b h) (Nat.not_le.mpr hbl)
  obtain ⟨G, hH, hGr⟩ := st_H (A := A) (flat_of_before _ hgv) hts0 (fun a ha h => absurd (hAf a h) (Nat.not_le.mpr ha))
  obtain ⟨D, hE⟩ : ∃ D : va_G, ct_E D (ct_T cI cJ cB cZ cO) G s := by
    refine ⟨(fun k => match k with | 0 => c0 | 1 => c1 | 2 => c2 | 3 => c3 | 4 => c4 | 5 => c5 | 6 => c6 | 7 => c7 | 8 => c8 | 9 => c9 | 10 => c10 | 11 => c11 | _ => c12, fun k => match k with | 0 => iS0 | 1 => iS1 | 2 => iS2 | 3 => iS3 | 4 => iS4 | 5 => iS5 | 6 => iS6 | 7 => iS7 | 8 => iS8 | 9 => iS9 | 10 => iS10 | 11 => iS11 | _ => iS12), ⟨?_, ?_⟩, fun q hq => va_Nw.of rfl (hts0 _ (ct_nl_in q hq)), hAO, hGr⟩
    · intro k q hq
      match k, hq with
      | 0, hq => cases hq; exact hKn0
      | 1, hq => cases hq; exact hKn1
      | 2, hq => cases hq; exact hKn2
      | 3, hq => cases hq; exact hKn3
      | 4, hq => cases hq; exact hKn4
      | 5, hq => cases hq; exact hKn5
      | 6, hq => cases hq; exact hKn6
      | 7, hq => cases hq; exact hKn7
      | 8, hq => cases hq; exact hKn8
      | 9, hq => cases hq; exact hKn9
      | 10, hq => cases hq; exact hKn10
      | 11, hq => cases hq; exact hKn11
      | 12, hq => cases hq; exact hKn12
      | k + 13, hq => simp [vwCl] at hq
    · intro k q hq
      match k, hq with
      | 0, hq => cases hq; exact ⟨aI, fI⟩
      | 1, hq => cases hq; exact ⟨aJ, fJ⟩
      | 2, hq => cases hq; exact ⟨aB, fB⟩
      | 3, hq => cases hq; exact ⟨aZ, fZ⟩
      | 4, hq => cases hq; exact ⟨aO, fO⟩
      | k + 5, hq => simp [ct_T] at hq
  have hK := hE.1
  have hP : va_P D vwCl [] s.heap := fun k q h => by simp at h
  have hD : va_D A [] := ⟨fun i j p q h => by simp at h, fun k q h => by simp at h⟩
  have hi11 : ∀ w ∈ u_ws RX11 TX11 16, w ∈ wsL_law := inlX11
  have hi12 : ∀ w ∈ u_ws RX12 TX12 45, w ∈ wsL_law := inlX12
  have hl := lv_entry ([.ref b]) (n := 4) (Nat.le_of_ble_eq_true rfl)
  rw [lg_entry_eq]
  generalize (lg_sl ([.ref b]) ++ List.replicate (4 - (lg_sl ([.ref b])).length) Slot.unset).toArray = ls at hl ⊢
  have hl : lv_has ls 4 [(0, .ref b)] := hl
  obtain ⟨H, hHe⟩ : ∃ H : Heap, H = s.heap := ⟨_, rfl⟩
  rw [← hHe] at hP
  have hS : va_S A s.heap H [] := by rw [hHe]; exact va_S.rf
  refine ct_start hHe ?_
  refine va_new (ci := 11) (fs := [.null, .null, .null, .null, .null, .null, .null, .null, .int 0, .null, .null, .null, .null, .null, .null, .null]) (C := RX11) (T := TX11) (N := 16) hx hb hts hi11 tyX11 tyX11_ok hown (hts (.classLink RL 7 RX11) (by decide +kernel)) (hts (.instantiable RX11 16) (by decide +kernel)) (hts (.initialized RX11) (by decide +kernel)) hK hP hD hS hA rfl ct_df11 (Nat.le_of_ble_eq_true rfl) (Nat.le_of_ble_eq_true rfl) dL_law_0 (fun q1 H hP hD hS => ?_)
  obtain ⟨hP, hD⟩ : ct_B D A H [(q1, .inr (11, [.null, .null, .null, .null, .null, .null, .null, .null, .int 0, .null, .null, .null, .null, .null, .null, .null]))] := ⟨hP, hD⟩
  refine W.widen (k := 1) (n := 16) (Nat.le_of_ble_eq_true rfl) (Nat.le_of_ble_eq_true rfl) ?_
  refine lv_dup hx hb dL_law_3 rfl ?_
  refine ct_callv (D := D) (wc := (w_c_X11_init cI cJ cB cZ cO q1)) (wr := []) (va_runI (As := []) (rest := [.ref q1]) ⟨hx, hb, hml, hown, hts⟩ (c_X11_init l D G cI cJ cB cZ cO q1 H.size) (cwI 0 hts gL_law_X11_init rfl rfl rfl (hts (.initialized RX11) (by decide +kernel)) (hts (.methodLink RL 9 yX11_init) (by decide +kernel)) (hts (.instanceMethod yX11_init) (by decide +kernel)) rfl (by decide +kernel) ⟨Nat.le_of_ble_eq_true rfl, Nat.le_of_ble_eq_true rfl⟩) (ct_preS (T := ct_T cI cJ cB cZ cO) hE hH hP hD hS hA [0] (by decide) rfl) rfl rfl hl.1 rfl (lv_room (Nat.le_of_ble_eq_true rfl)) dL_law_4 ⟨Nat.le_of_ble_eq_true rfl, Nat.le_of_ble_eq_true rfl⟩) hP hD hS hA [0] [] rfl rfl (by decide) (by decide) (fun u H locs hw hP hD hS => ?_)
  obtain ⟨u2, rfl⟩ : ∃ z, z = u := ⟨_, rfl⟩
  obtain ⟨hP, hD⟩ : ct_B D A H (oo q1 (u2 0) (u2 1) (u2 3) (u2 13) (u2 23) (u2 24) (u2 25) (u2 29) 0 (u2 33) (u2 35) (u2 42) (u2 44) (u2 45) (u2 47) (u2 50) :: ((u2 0), .inr (5, [.ref (u2 1), .int 0, .int 0, .int (-1)])) :: ((u2 1), .inr (8, [.ref (u2 2), .int 0, .int 0, .int 0, .int 0, .int 0])) :: ((u2 2), .inl (cB, 1200, .inl (fun _ => 0))) :: dn (u2 3) 0 0 0 0 (u2 4) (u2 5) (u2 6) (u2 7) (u2 8) 0 (u2 9) (u2 10) 0 (u2 11) 0 (u2 12) 0 :: ((u2 4), .inl (cI, 24, .inl (fun _ => 0))) :: ((u2 5), .inl (cI, 2, .inl (fun _ => 0))) :: ((u2 6), .inl (cI, 2, .inl (fun _ => 0))) :: ((u2 7), .inl (cI, 6, .inl (fun _ => 0))) :: ((u2 8), .inl (cI, 32, .inl (fun _ => 0))) :: ((u2 9), .inl (cI, 200, .inl (fun _ => 0))) :: ((u2 10), .inl (cI, 24, .inl (fun _ => 0))) :: ((u2 11), .inl (cI, 10, .inl (fun _ => 0))) :: ((u2 12), .inl (cI, 120, .inl (fun _ => 0))) :: dn (u2 13) 0 0 0 0 (u2 14) (u2 15) (u2 16) (u2 17) (u2 18) 0 (u2 19) (u2 20) 0 (u2 21) 0 (u2 22) 0 :: ((u2 14), .inl (cI, 24, .inl (fun _ => 0))) :: ((u2 15), .inl (cI, 2, .inl (fun _ => 0))) :: ((u2 16), .inl (cI, 2, .inl (fun _ => 0))) :: ((u2 17), .inl (cI, 6, .inl (fun _ => 0))) :: ((u2 18), .inl (cI, 32, .inl (fun _ => 0))) :: ((u2 19), .inl (cI, 200, .inl (fun _ => 0))) :: ((u2 20), .inl (cI, 24, .inl (fun _ => 0))) :: ((u2 21), .inl (cI, 10, .inl (fun _ => 0))) :: ((u2 22), .inl (cI, 120, .inl (fun _ => 0))) :: ((u2 23), .inl (cO, 3, .inr (.inr (.inr (.inr (va_up (va_up (va_up (fun _ => none) 0 (some (u2 54))) 1 (some (u2 64))) 2 (some (u2 74)))))))) :: ((u2 24), .inl (cI, 3, .inl (fun _ => 0))) :: fo (u2 25) (u2 26) (u2 27) (u2 28) 0 0 0 :: ((u2 26), .inl (cI, 400, .inl (fun _ => 0))) :: ((u2 27), .inl (cI, 400, .inl (fun _ => 0))) :: ((u2 28), .inl (cI, 200, .inl (fun _ => 0))) :: fo (u2 29) (u2 30) (u2 31) (u2 32) 0 0 0 :: ((u2 30), .inl (cI, 400, .inl (fun _ => 0))) :: ((u2 31), .inl (cI, 400, .inl (fun _ => 0))) :: ((u2 32), .inl (cI, 200, .inl (fun _ => 0))) :: ((u2 33), .inr (6, [.ref (u2 34)])) :: ((u2 34), .inl (cI, 12, .inl (fun _ => 0))) :: gu (u2 35) 0 0 (u2 36) 0 0 (u2 37) (u2 38) (u2 39) (u2 40) (u2 41) 0 0 :: ((u2 36), .inl (cI, 12, .inl (fun _ => 0))) :: ((u2 37), .inl (cI, 10, .inl (fun _ => 0))) :: ((u2 38), .inl (cI, 200, .inl (fun _ => 0))) :: ((u2 39), .inl (cI, 60, .inl (fun _ => 0))) :: ((u2 40), .inl (cI, 10, .inl (fun _ => 0))) :: ((u2 41), .inl (cI, 6, .inl (fun _ => 0))) :: ((u2 42), .inr (10, [.ref (u2 43), .int 0, .int 0])) :: ((u2 43), .inl (cI, 24, .inl (fun _ => 0))) :: ((u2 44), .inr (9, [.long 0, .long 0])) :: ((u2 45), .inr (2, [.ref (u2 46)])) :: ((u2 46), .inl (cI, 729, .inl (fun _ => 0))) :: ((u2 47), .inr (4, [.ref (u2 48), .ref (u2 49), .long 0, .int 0, .int 0, .int 0, .int 0])) :: ((u2 48), .inl (cI, 200, .inl (fun _ => 0))) :: ((u2 49), .inl (cI, 2, .inl (fun _ => 0))) :: ((u2 50), .inr (7, [.ref (u2 51), .ref (u2 52), .ref (u2 53)])) :: ((u2 51), .inl (cI, 4, .inl (fun _ => 0))) :: ((u2 52), .inl (cI, 4, .inl (upd (upd (upd (upd (fun _ => 0) 0 (-1)) 1 (-1)) 2 (-1)) 3 (-1)))) :: ((u2 53), .inl (cJ, 240, .inr (.inl (fun _ => 0)))) :: dn (u2 54) 0 0 0 0 (u2 55) (u2 56) (u2 57) (u2 58) (u2 59) 0 (u2 60) (u2 61) 0 (u2 62) 0 (u2 63) 0 :: ((u2 55), .inl (cI, 24, .inl (fun _ => 0))) :: ((u2 56), .inl (cI, 2, .inl (fun _ => 0))) :: ((u2 57), .inl (cI, 2, .inl (fun _ => 0))) :: ((u2 58), .inl (cI, 6, .inl (fun _ => 0))) :: ((u2 59), .inl (cI, 32, .inl (fun _ => 0))) :: ((u2 60), .inl (cI, 200, .inl (fun _ => 0))) :: ((u2 61), .inl (cI, 24, .inl (fun _ => 0))) :: ((u2 62), .inl (cI, 10, .inl (fun _ => 0))) :: ((u2 63), .inl (cI, 120, .inl (fun _ => 0))) :: dn (u2 64) 0 0 0 0 (u2 65) (u2 66) (u2 67) (u2 68) (u2 69) 0 (u2 70) (u2 71) 0 (u2 72) 0 (u2 73) 0 :: ((u2 65), .inl (cI, 24, .inl (fun _ => 0))) :: ((u2 66), .inl (cI, 2, .inl (fun _ => 0))) :: ((u2 67), .inl (cI, 2, .inl (fun _ => 0))) :: ((u2 68), .inl (cI, 6, .inl (fun _ => 0))) :: ((u2 69), .inl (cI, 32, .inl (fun _ => 0))) :: ((u2 70), .inl (cI, 200, .inl (fun _ => 0))) :: ((u2 71), .inl (cI, 24, .inl (fun _ => 0))) :: ((u2 72), .inl (cI, 10, .inl (fun _ => 0))) :: ((u2 73), .inl (cI, 120, .inl (fun _ => 0))) :: dn (u2 74) 0 0 0 0 (u2 75) (u2 76) (u2 77) (u2 78) (u2 79) 0 (u2 80) (u2 81) 0 (u2 82) 0 (u2 83) 0 :: ((u2 75), .inl (cI, 24, .inl (fun _ => 0))) :: ((u2 76), .inl (cI, 2, .inl (fun _ => 0))) :: ((u2 77), .inl (cI, 2, .inl (fun _ => 0))) :: ((u2 78), .inl (cI, 6, .inl (fun _ => 0))) :: ((u2 79), .inl (cI, 32, .inl (fun _ => 0))) :: ((u2 80), .inl (cI, 200, .inl (fun _ => 0))) :: ((u2 81), .inl (cI, 24, .inl (fun _ => 0))) :: ((u2 82), .inl (cI, 10, .inl (fun _ => 0))) :: ((u2 83), .inl (cI, 120, .inl (fun _ => 0))) :: []) := ⟨hP, hD⟩
  refine W.widen (k := 85) (n := 6971) (Nat.le_of_ble_eq_true rfl) (Nat.le_of_ble_eq_true rfl) ?_
  refine lv_astore_n (lv' := [(1, .ref q1), (0, .ref b)]) hx hb dL_law_7 rfl hl (by decide) rfl (fun ls hl => ?_)
  refine va_new (ci := 12) (fs := [.int 0, .null, .null, .null, .null, .null, .int 0, .int 0, .int 0, .int 0, .int 0, .long 0, .int 0, .int 0, .int 0, .int 0, .null, .null, .null, .null, .null, .null, .null, .null, .null, .null, .null, .null, .null, .int 0, .int 0, .null, .int 0, .int 0, .long 0, .int 0, .null, .int 0, .int 0, .null, .int 0, .int 0, .int 0, .int 0, .long 0]) (C := RX12) (T := TX12) (N := 45) hx hb hts hi12 tyX12 tyX12_ok hown (hts (.classLink RL 10 RX12) (by decide +kernel)) (hts (.instantiable RX12 45) (by decide +kernel)) (hts (.initialized RX12) (by decide +kernel)) hK hP hD hS hA rfl ct_df12 (Nat.le_of_ble_eq_true rfl) (Nat.le_of_ble_eq_true rfl) dL_law_8 (fun q3 H hP hD hS => ?_)
  obtain ⟨hP, hD⟩ : ct_B D A H (oo q1 (u2 0) (u2 1) (u2 3) (u2 13) (u2 23) (u2 24) (u2 25) (u2 29) 0 (u2 33) (u2 35) (u2 42) (u2 44) (u2 45) (u2 47) (u2 50) :: ((u2 0), .inr (5, [.ref (u2 1), .int 0, .int 0, .int (-1)])) :: ((u2 1), .inr (8, [.ref (u2 2), .int 0, .int 0, .int 0, .int 0, .int 0])) :: ((u2 2), .inl (cB, 1200, .inl (fun _ => 0))) :: dn (u2 3) 0 0 0 0 (u2 4) (u2 5) (u2 6) (u2 7) (u2 8) 0 (u2 9) (u2 10) 0 (u2 11) 0 (u2 12) 0 :: ((u2 4), .inl (cI, 24, .inl (fun _ => 0))) :: ((u2 5), .inl (cI, 2, .inl (fun _ => 0))) :: ((u2 6), .inl (cI, 2, .inl (fun _ => 0))) :: ((u2 7), .inl (cI, 6, .inl (fun _ => 0))) :: ((u2 8), .inl (cI, 32, .inl (fun _ => 0))) :: ((u2 9), .inl (cI, 200, .inl (fun _ => 0))) :: ((u2 10), .inl (cI, 24, .inl (fun _ => 0))) :: ((u2 11), .inl (cI, 10, .inl (fun _ => 0))) :: ((u2 12), .inl (cI, 120, .inl (fun _ => 0))) :: dn (u2 13) 0 0 0 0 (u2 14) (u2 15) (u2 16) (u2 17) (u2 18) 0 (u2 19) (u2 20) 0 (u2 21) 0 (u2 22) 0 :: ((u2 14), .inl (cI, 24, .inl (fun _ => 0))) :: ((u2 15), .inl (cI, 2, .inl (fun _ => 0))) :: ((u2 16), .inl (cI, 2, .inl (fun _ => 0))) :: ((u2 17), .inl (cI, 6, .inl (fun _ => 0))) :: ((u2 18), .inl (cI, 32, .inl (fun _ => 0))) :: ((u2 19), .inl (cI, 200, .inl (fun _ => 0))) :: ((u2 20), .inl (cI, 24, .inl (fun _ => 0))) :: ((u2 21), .inl (cI, 10, .inl (fun _ => 0))) :: ((u2 22), .inl (cI, 120, .inl (fun _ => 0))) :: ((u2 23), .inl (cO, 3, .inr (.inr (.inr (.inr (va_up (va_up (va_up (fun _ => none) 0 (some (u2 54))) 1 (some (u2 64))) 2 (some (u2 74)))))))) :: ((u2 24), .inl (cI, 3, .inl (fun _ => 0))) :: fo (u2 25) (u2 26) (u2 27) (u2 28) 0 0 0 :: ((u2 26), .inl (cI, 400, .inl (fun _ => 0))) :: ((u2 27), .inl (cI, 400, .inl (fun _ => 0))) :: ((u2 28), .inl (cI, 200, .inl (fun _ => 0))) :: fo (u2 29) (u2 30) (u2 31) (u2 32) 0 0 0 :: ((u2 30), .inl (cI, 400, .inl (fun _ => 0))) :: ((u2 31), .inl (cI, 400, .inl (fun _ => 0))) :: ((u2 32), .inl (cI, 200, .inl (fun _ => 0))) :: ((u2 33), .inr (6, [.ref (u2 34)])) :: ((u2 34), .inl (cI, 12, .inl (fun _ => 0))) :: gu (u2 35) 0 0 (u2 36) 0 0 (u2 37) (u2 38) (u2 39) (u2 40) (u2 41) 0 0 :: ((u2 36), .inl (cI, 12, .inl (fun _ => 0))) :: ((u2 37), .inl (cI, 10, .inl (fun _ => 0))) :: ((u2 38), .inl (cI, 200, .inl (fun _ => 0))) :: ((u2 39), .inl (cI, 60, .inl (fun _ => 0))) :: ((u2 40), .inl (cI, 10, .inl (fun _ => 0))) :: ((u2 41), .inl (cI, 6, .inl (fun _ => 0))) :: ((u2 42), .inr (10, [.ref (u2 43), .int 0, .int 0])) :: ((u2 43), .inl (cI, 24, .inl (fun _ => 0))) :: ((u2 44), .inr (9, [.long 0, .long 0])) :: ((u2 45), .inr (2, [.ref (u2 46)])) :: ((u2 46), .inl (cI, 729, .inl (fun _ => 0))) :: ((u2 47), .inr (4, [.ref (u2 48), .ref (u2 49), .long 0, .int 0, .int 0, .int 0, .int 0])) :: ((u2 48), .inl (cI, 200, .inl (fun _ => 0))) :: ((u2 49), .inl (cI, 2, .inl (fun _ => 0))) :: ((u2 50), .inr (7, [.ref (u2 51), .ref (u2 52), .ref (u2 53)])) :: ((u2 51), .inl (cI, 4, .inl (fun _ => 0))) :: ((u2 52), .inl (cI, 4, .inl (upd (upd (upd (upd (fun _ => 0) 0 (-1)) 1 (-1)) 2 (-1)) 3 (-1)))) :: ((u2 53), .inl (cJ, 240, .inr (.inl (fun _ => 0)))) :: dn (u2 54) 0 0 0 0 (u2 55) (u2 56) (u2 57) (u2 58) (u2 59) 0 (u2 60) (u2 61) 0 (u2 62) 0 (u2 63) 0 :: ((u2 55), .inl (cI, 24, .inl (fun _ => 0))) :: ((u2 56), .inl (cI, 2, .inl (fun _ => 0))) :: ((u2 57), .inl (cI, 2, .inl (fun _ => 0))) :: ((u2 58), .inl (cI, 6, .inl (fun _ => 0))) :: ((u2 59), .inl (cI, 32, .inl (fun _ => 0))) :: ((u2 60), .inl (cI, 200, .inl (fun _ => 0))) :: ((u2 61), .inl (cI, 24, .inl (fun _ => 0))) :: ((u2 62), .inl (cI, 10, .inl (fun _ => 0))) :: ((u2 63), .inl (cI, 120, .inl (fun _ => 0))) :: dn (u2 64) 0 0 0 0 (u2 65) (u2 66) (u2 67) (u2 68) (u2 69) 0 (u2 70) (u2 71) 0 (u2 72) 0 (u2 73) 0 :: ((u2 65), .inl (cI, 24, .inl (fun _ => 0))) :: ((u2 66), .inl (cI, 2, .inl (fun _ => 0))) :: ((u2 67), .inl (cI, 2, .inl (fun _ => 0))) :: ((u2 68), .inl (cI, 6, .inl (fun _ => 0))) :: ((u2 69), .inl (cI, 32, .inl (fun _ => 0))) :: ((u2 70), .inl (cI, 200, .inl (fun _ => 0))) :: ((u2 71), .inl (cI, 24, .inl (fun _ => 0))) :: ((u2 72), .inl (cI, 10, .inl (fun _ => 0))) :: ((u2 73), .inl (cI, 120, .inl (fun _ => 0))) :: dn (u2 74) 0 0 0 0 (u2 75) (u2 76) (u2 77) (u2 78) (u2 79) 0 (u2 80) (u2 81) 0 (u2 82) 0 (u2 83) 0 :: ((u2 75), .inl (cI, 24, .inl (fun _ => 0))) :: ((u2 76), .inl (cI, 2, .inl (fun _ => 0))) :: ((u2 77), .inl (cI, 2, .inl (fun _ => 0))) :: ((u2 78), .inl (cI, 6, .inl (fun _ => 0))) :: ((u2 79), .inl (cI, 32, .inl (fun _ => 0))) :: ((u2 80), .inl (cI, 200, .inl (fun _ => 0))) :: ((u2 81), .inl (cI, 24, .inl (fun _ => 0))) :: ((u2 82), .inl (cI, 10, .inl (fun _ => 0))) :: ((u2 83), .inl (cI, 120, .inl (fun _ => 0))) :: (q3, .inr (12, (.int 0 :: .null :: .null :: .null :: .null :: .null :: .int 0 :: .int 0 :: .int 0 :: .int 0 :: .int 0 :: .long 0 :: .int 0 :: .int 0 :: .int 0 :: .int 0 :: .null :: .null :: .null :: .null :: .null :: .null :: .null :: .null :: .null :: .null :: .null :: .null :: .null :: .int 0 :: .int 0 :: .null :: .int 0 :: .int 0 :: .long 0 :: .int 0 :: .null :: .int 0 :: .int 0 :: .null :: .int 0 :: .int 0 :: .int 0 :: .int 0 :: .long 0 :: []))) :: []) := ⟨hP, hD⟩
  refine W.widen (k := 86) (n := 7016) (Nat.le_of_ble_eq_true rfl) (Nat.le_of_ble_eq_true rfl) ?_
  refine lv_dup hx hb dL_law_11 rfl ?_
  refine ct_callv (D := D) (wc := (w_c_X12_init cI cJ cB cZ cO q3)) (wr := (oo q1 (u2 0) (u2 1) (u2 3) (u2 13) (u2 23) (u2 24) (u2 25) (u2 29) 0 (u2 33) (u2 35) (u2 42) (u2 44) (u2 45) (u2 47) (u2 50) :: ((u2 0), .inr (5, [.ref (u2 1), .int 0, .int 0, .int (-1)])) :: ((u2 1), .inr (8, [.ref (u2 2), .int 0, .int 0, .int 0, .int 0, .int 0])) :: ((u2 2), .inl (cB, 1200, .inl (fun _ => 0))) :: dn (u2 3) 0 0 0 0 (u2 4) (u2 5) (u2 6) (u2 7) (u2 8) 0 (u2 9) (u2 10) 0 (u2 11) 0 (u2 12) 0 :: ((u2 4), .inl (cI, 24, .inl (fun _ => 0))) :: ((u2 5), .inl (cI, 2, .inl (fun _ => 0))) :: ((u2 6), .inl (cI, 2, .inl (fun _ => 0))) :: ((u2 7), .inl (cI, 6, .inl (fun _ => 0))) :: ((u2 8), .inl (cI, 32, .inl (fun _ => 0))) :: ((u2 9), .inl (cI, 200, .inl (fun _ => 0))) :: ((u2 10), .inl (cI, 24, .inl (fun _ => 0))) :: ((u2 11), .inl (cI, 10, .inl (fun _ => 0))) :: ((u2 12), .inl (cI, 120, .inl (fun _ => 0))) :: dn (u2 13) 0 0 0 0 (u2 14) (u2 15) (u2 16) (u2 17) (u2 18) 0 (u2 19) (u2 20) 0 (u2 21) 0 (u2 22) 0 :: ((u2 14), .inl (cI, 24, .inl (fun _ => 0))) :: ((u2 15), .inl (cI, 2, .inl (fun _ => 0))) :: ((u2 16), .inl (cI, 2, .inl (fun _ => 0))) :: ((u2 17), .inl (cI, 6, .inl (fun _ => 0))) :: ((u2 18), .inl (cI, 32, .inl (fun _ => 0))) :: ((u2 19), .inl (cI, 200, .inl (fun _ => 0))) :: ((u2 20), .inl (cI, 24, .inl (fun _ => 0))) :: ((u2 21), .inl (cI, 10, .inl (fun _ => 0))) :: ((u2 22), .inl (cI, 120, .inl (fun _ => 0))) :: ((u2 23), .inl (cO, 3, .inr (.inr (.inr (.inr (va_up (va_up (va_up (fun _ => none) 0 (some (u2 54))) 1 (some (u2 64))) 2 (some (u2 74)))))))) :: ((u2 24), .inl (cI, 3, .inl (fun _ => 0))) :: fo (u2 25) (u2 26) (u2 27) (u2 28) 0 0 0 :: ((u2 26), .inl (cI, 400, .inl (fun _ => 0))) :: ((u2 27), .inl (cI, 400, .inl (fun _ => 0))) :: ((u2 28), .inl (cI, 200, .inl (fun _ => 0))) :: fo (u2 29) (u2 30) (u2 31) (u2 32) 0 0 0 :: ((u2 30), .inl (cI, 400, .inl (fun _ => 0))) :: ((u2 31), .inl (cI, 400, .inl (fun _ => 0))) :: ((u2 32), .inl (cI, 200, .inl (fun _ => 0))) :: ((u2 33), .inr (6, [.ref (u2 34)])) :: ((u2 34), .inl (cI, 12, .inl (fun _ => 0))) :: gu (u2 35) 0 0 (u2 36) 0 0 (u2 37) (u2 38) (u2 39) (u2 40) (u2 41) 0 0 :: ((u2 36), .inl (cI, 12, .inl (fun _ => 0))) :: ((u2 37), .inl (cI, 10, .inl (fun _ => 0))) :: ((u2 38), .inl (cI, 200, .inl (fun _ => 0))) :: ((u2 39), .inl (cI, 60, .inl (fun _ => 0))) :: ((u2 40), .inl (cI, 10, .inl (fun _ => 0))) :: ((u2 41), .inl (cI, 6, .inl (fun _ => 0))) :: ((u2 42), .inr (10, [.ref (u2 43), .int 0, .int 0])) :: ((u2 43), .inl (cI, 24, .inl (fun _ => 0))) :: ((u2 44), .inr (9, [.long 0, .long 0])) :: ((u2 45), .inr (2, [.ref (u2 46)])) :: ((u2 46), .inl (cI, 729, .inl (fun _ => 0))) :: ((u2 47), .inr (4, [.ref (u2 48), .ref (u2 49), .long 0, .int 0, .int 0, .int 0, .int 0])) :: ((u2 48), .inl (cI, 200, .inl (fun _ => 0))) :: ((u2 49), .inl (cI, 2, .inl (fun _ => 0))) :: ((u2 50), .inr (7, [.ref (u2 51), .ref (u2 52), .ref (u2 53)])) :: ((u2 51), .inl (cI, 4, .inl (fun _ => 0))) :: ((u2 52), .inl (cI, 4, .inl (upd (upd (upd (upd (fun _ => 0) 0 (-1)) 1 (-1)) 2 (-1)) 3 (-1)))) :: ((u2 53), .inl (cJ, 240, .inr (.inl (fun _ => 0)))) :: dn (u2 54) 0 0 0 0 (u2 55) (u2 56) (u2 57) (u2 58) (u2 59) 0 (u2 60) (u2 61) 0 (u2 62) 0 (u2 63) 0 :: ((u2 55), .inl (cI, 24, .inl (fun _ => 0))) :: ((u2 56), .inl (cI, 2, .inl (fun _ => 0))) :: ((u2 57), .inl (cI, 2, .inl (fun _ => 0))) :: ((u2 58), .inl (cI, 6, .inl (fun _ => 0))) :: ((u2 59), .inl (cI, 32, .inl (fun _ => 0))) :: ((u2 60), .inl (cI, 200, .inl (fun _ => 0))) :: ((u2 61), .inl (cI, 24, .inl (fun _ => 0))) :: ((u2 62), .inl (cI, 10, .inl (fun _ => 0))) :: ((u2 63), .inl (cI, 120, .inl (fun _ => 0))) :: dn (u2 64) 0 0 0 0 (u2 65) (u2 66) (u2 67) (u2 68) (u2 69) 0 (u2 70) (u2 71) 0 (u2 72) 0 (u2 73) 0 :: ((u2 65), .inl (cI, 24, .inl (fun _ => 0))) :: ((u2 66), .inl (cI, 2, .inl (fun _ => 0))) :: ((u2 67), .inl (cI, 2, .inl (fun _ => 0))) :: ((u2 68), .inl (cI, 6, .inl (fun _ => 0))) :: ((u2 69), .inl (cI, 32, .inl (fun _ => 0))) :: ((u2 70), .inl (cI, 200, .inl (fun _ => 0))) :: ((u2 71), .inl (cI, 24, .inl (fun _ => 0))) :: ((u2 72), .inl (cI, 10, .inl (fun _ => 0))) :: ((u2 73), .inl (cI, 120, .inl (fun _ => 0))) :: dn (u2 74) 0 0 0 0 (u2 75) (u2 76) (u2 77) (u2 78) (u2 79) 0 (u2 80) (u2 81) 0 (u2 82) 0 (u2 83) 0 :: ((u2 75), .inl (cI, 24, .inl (fun _ => 0))) :: ((u2 76), .inl (cI, 2, .inl (fun _ => 0))) :: ((u2 77), .inl (cI, 2, .inl (fun _ => 0))) :: ((u2 78), .inl (cI, 6, .inl (fun _ => 0))) :: ((u2 79), .inl (cI, 32, .inl (fun _ => 0))) :: ((u2 80), .inl (cI, 200, .inl (fun _ => 0))) :: ((u2 81), .inl (cI, 24, .inl (fun _ => 0))) :: ((u2 82), .inl (cI, 10, .inl (fun _ => 0))) :: ((u2 83), .inl (cI, 120, .inl (fun _ => 0))) :: [])) (va_runI (As := []) (rest := [.ref q3]) ⟨hx, hb, hml, hown, hts⟩ (c_X12_init l D G cI cJ cB cZ cO q3 H.size) (cwI 0 hts gL_law_X12_init rfl rfl rfl (hts (.initialized RX12) (by decide +kernel)) (hts (.methodLink RL 12 yX12_init) (by decide +kernel)) (hts (.instanceMethod yX12_init) (by decide +kernel)) rfl (by decide +kernel) ⟨Nat.le_of_ble_eq_true rfl, Nat.le_of_ble_eq_true rfl⟩) (ct_preS (T := ct_T cI cJ cB cZ cO) hE hH hP hD hS hA [85] (by decide) rfl) rfl rfl hl.1 rfl (lv_room (Nat.le_of_ble_eq_true rfl)) dL_law_12 ⟨Nat.le_of_ble_eq_true rfl, Nat.le_of_ble_eq_true rfl⟩) hP hD hS hA [85] [0, 1, 2, 3, 4, 5, 6, 7, 8, 9, 10, 11, 12, 13, 14, 15, 16, 17, 18, 19, 20, 21, 22, 23, 24, 25, 26, 27, 28, 29, 30, 31, 32, 33, 34, 35, 36, 37, 38, 39, 40, 41, 42, 43, 44, 45, 46, 47, 48, 49, 50, 51, 52, 53, 54, 55, 56, 57, 58, 59, 60, 61, 62, 63, 64, 65, 66, 67, 68, 69, 70, 71, 72, 73, 74, 75, 76, 77, 78, 79, 80, 81, 82, 83, 84] rfl rfl (by decide) (by decide) (fun u H locs hw hP hD hS => ?_)
  obtain ⟨u4, rfl⟩ : ∃ z, z = u := ⟨_, rfl⟩
  obtain ⟨hP, hD⟩ : ct_B D A H (oo q1 (u2 0) (u2 1) (u2 3) (u2 13) (u2 23) (u2 24) (u2 25) (u2 29) 0 (u2 33) (u2 35) (u2 42) (u2 44) (u2 45) (u2 47) (u2 50) :: ((u2 0), .inr (5, [.ref (u2 1), .int 0, .int 0, .int (-1)])) :: ((u2 1), .inr (8, [.ref (u2 2), .int 0, .int 0, .int 0, .int 0, .int 0])) :: ((u2 2), .inl (cB, 1200, .inl (fun _ => 0))) :: dn (u2 3) 0 0 0 0 (u2 4) (u2 5) (u2 6) (u2 7) (u2 8) 0 (u2 9) (u2 10) 0 (u2 11) 0 (u2 12) 0 :: ((u2 4), .inl (cI, 24, .inl (fun _ => 0))) :: ((u2 5), .inl (cI, 2, .inl (fun _ => 0))) :: ((u2 6), .inl (cI, 2, .inl (fun _ => 0))) :: ((u2 7), .inl (cI, 6, .inl (fun _ => 0))) :: ((u2 8), .inl (cI, 32, .inl (fun _ => 0))) :: ((u2 9), .inl (cI, 200, .inl (fun _ => 0))) :: ((u2 10), .inl (cI, 24, .inl (fun _ => 0))) :: ((u2 11), .inl (cI, 10, .inl (fun _ => 0))) :: ((u2 12), .inl (cI, 120, .inl (fun _ => 0))) :: dn (u2 13) 0 0 0 0 (u2 14) (u2 15) (u2 16) (u2 17) (u2 18) 0 (u2 19) (u2 20) 0 (u2 21) 0 (u2 22) 0 :: ((u2 14), .inl (cI, 24, .inl (fun _ => 0))) :: ((u2 15), .inl (cI, 2, .inl (fun _ => 0))) :: ((u2 16), .inl (cI, 2, .inl (fun _ => 0))) :: ((u2 17), .inl (cI, 6, .inl (fun _ => 0))) :: ((u2 18), .inl (cI, 32, .inl (fun _ => 0))) :: ((u2 19), .inl (cI, 200, .inl (fun _ => 0))) :: ((u2 20), .inl (cI, 24, .inl (fun _ => 0))) :: ((u2 21), .inl (cI, 10, .inl (fun _ => 0))) :: ((u2 22), .inl (cI, 120, .inl (fun _ => 0))) :: ((u2 23), .inl (cO, 3, .inr (.inr (.inr (.inr (va_up (va_up (va_up (fun _ => none) 0 (some (u2 54))) 1 (some (u2 64))) 2 (some (u2 74)))))))) :: ((u2 24), .inl (cI, 3, .inl (fun _ => 0))) :: fo (u2 25) (u2 26) (u2 27) (u2 28) 0 0 0 :: ((u2 26), .inl (cI, 400, .inl (fun _ => 0))) :: ((u2 27), .inl (cI, 400, .inl (fun _ => 0))) :: ((u2 28), .inl (cI, 200, .inl (fun _ => 0))) :: fo (u2 29) (u2 30) (u2 31) (u2 32) 0 0 0 :: ((u2 30), .inl (cI, 400, .inl (fun _ => 0))) :: ((u2 31), .inl (cI, 400, .inl (fun _ => 0))) :: ((u2 32), .inl (cI, 200, .inl (fun _ => 0))) :: ((u2 33), .inr (6, [.ref (u2 34)])) :: ((u2 34), .inl (cI, 12, .inl (fun _ => 0))) :: gu (u2 35) 0 0 (u2 36) 0 0 (u2 37) (u2 38) (u2 39) (u2 40) (u2 41) 0 0 :: ((u2 36), .inl (cI, 12, .inl (fun _ => 0))) :: ((u2 37), .inl (cI, 10, .inl (fun _ => 0))) :: ((u2 38), .inl (cI, 200, .inl (fun _ => 0))) :: ((u2 39), .inl (cI, 60, .inl (fun _ => 0))) :: ((u2 40), .inl (cI, 10, .inl (fun _ => 0))) :: ((u2 41), .inl (cI, 6, .inl (fun _ => 0))) :: ((u2 42), .inr (10, [.ref (u2 43), .int 0, .int 0])) :: ((u2 43), .inl (cI, 24, .inl (fun _ => 0))) :: ((u2 44), .inr (9, [.long 0, .long 0])) :: ((u2 45), .inr (2, [.ref (u2 46)])) :: ((u2 46), .inl (cI, 729, .inl (fun _ => 0))) :: ((u2 47), .inr (4, [.ref (u2 48), .ref (u2 49), .long 0, .int 0, .int 0, .int 0, .int 0])) :: ((u2 48), .inl (cI, 200, .inl (fun _ => 0))) :: ((u2 49), .inl (cI, 2, .inl (fun _ => 0))) :: ((u2 50), .inr (7, [.ref (u2 51), .ref (u2 52), .ref (u2 53)])) :: ((u2 51), .inl (cI, 4, .inl (fun _ => 0))) :: ((u2 52), .inl (cI, 4, .inl (upd (upd (upd (upd (fun _ => 0) 0 (-1)) 1 (-1)) 2 (-1)) 3 (-1)))) :: ((u2 53), .inl (cJ, 240, .inr (.inl (fun _ => 0)))) :: dn (u2 54) 0 0 0 0 (u2 55) (u2 56) (u2 57) (u2 58) (u2 59) 0 (u2 60) (u2 61) 0 (u2 62) 0 (u2 63) 0 :: ((u2 55), .inl (cI, 24, .inl (fun _ => 0))) :: ((u2 56), .inl (cI, 2, .inl (fun _ => 0))) :: ((u2 57), .inl (cI, 2, .inl (fun _ => 0))) :: ((u2 58), .inl (cI, 6, .inl (fun _ => 0))) :: ((u2 59), .inl (cI, 32, .inl (fun _ => 0))) :: ((u2 60), .inl (cI, 200, .inl (fun _ => 0))) :: ((u2 61), .inl (cI, 24, .inl (fun _ => 0))) :: ((u2 62), .inl (cI, 10, .inl (fun _ => 0))) :: ((u2 63), .inl (cI, 120, .inl (fun _ => 0))) :: dn (u2 64) 0 0 0 0 (u2 65) (u2 66) (u2 67) (u2 68) (u2 69) 0 (u2 70) (u2 71) 0 (u2 72) 0 (u2 73) 0 :: ((u2 65), .inl (cI, 24, .inl (fun _ => 0))) :: ((u2 66), .inl (cI, 2, .inl (fun _ => 0))) :: ((u2 67), .inl (cI, 2, .inl (fun _ => 0))) :: ((u2 68), .inl (cI, 6, .inl (fun _ => 0))) :: ((u2 69), .inl (cI, 32, .inl (fun _ => 0))) :: ((u2 70), .inl (cI, 200, .inl (fun _ => 0))) :: ((u2 71), .inl (cI, 24, .inl (fun _ => 0))) :: ((u2 72), .inl (cI, 10, .inl (fun _ => 0))) :: ((u2 73), .inl (cI, 120, .inl (fun _ => 0))) :: dn (u2 74) 0 0 0 0 (u2 75) (u2 76) (u2 77) (u2 78) (u2 79) 0 (u2 80) (u2 81) 0 (u2 82) 0 (u2 83) 0 :: ((u2 75), .inl (cI, 24, .inl (fun _ => 0))) :: ((u2 76), .inl (cI, 2, .inl (fun _ => 0))) :: ((u2 77), .inl (cI, 2, .inl (fun _ => 0))) :: ((u2 78), .inl (cI, 6, .inl (fun _ => 0))) :: ((u2 79), .inl (cI, 32, .inl (fun _ => 0))) :: ((u2 80), .inl (cI, 200, .inl (fun _ => 0))) :: ((u2 81), .inl (cI, 24, .inl (fun _ => 0))) :: ((u2 82), .inl (cI, 10, .inl (fun _ => 0))) :: ((u2 83), .inl (cI, 120, .inl (fun _ => 0))) :: mo q3 0 (u4 0) (u4 1) (u4 2) (u4 3) (u4 4) 0 0 0 0 0 0 0 0 0 (-1) (u4 5) (u4 6) (u4 7) (u4 8) (u4 9) (u4 10) (u4 11) (u4 12) (u4 13) (u4 14) (u4 15) (u4 16) (u4 17) 0 0 (u4 18) 0 0 0 0 (u4 19) 0 0 (u4 20) 0 0 0 0 0 :: ((u4 0), .inl (cI, 4, .inl (upd (upd (upd (upd (fun _ => 0) 0 (-1)) 1 (-1)) 2 (-1)) 3 (-1)))) :: ((u4 1), .inl (cI, 4, .inl (fun _ => 0))) :: ((u4 2), .inl (cJ, 240, .inr (.inl (fun _ => 0)))) :: ((u4 3), .inl (cJ, 60, .inr (.inl (fun _ => 0)))) :: ((u4 4), .inl (cB, 1200, .inl (fun _ => 0))) :: ((u4 5), .inl (cI, 5, .inl (fun _ => 0))) :: ((u4 6), .inl (cI, 55, .inl (fun _ => 0))) :: ((u4 7), .inl (cI, 120, .inl (fun _ => 0))) :: ((u4 8), .inl (cI, 30, .inl (fun _ => 0))) :: ((u4 9), .inl (cI, 160, .inl (fun _ => 0))) :: ((u4 10), .inl (cZ, 1000, .inl (fun _ => 0))) :: ((u4 11), .inl (cI, 120, .inl (fun _ => 0))) :: ((u4 12), .inl (cI, 50, .inl (fun _ => 0))) :: ((u4 13), .inl (cI, 800, .inl (fun _ => 0))) :: ((u4 14), .inl (cZ, 3, .inl (fun _ => 0))) :: ((u4 15), .inl (cI, 13, .inl (fun _ => 0))) :: ((u4 16), .inl (cI, 402, .inl (fun _ => 0))) :: ((u4 17), .inl (cI, 400, .inl (fun _ => 0))) :: ((u4 18), .inl (cI, 560, .inl (fun _ => 0))) :: ((u4 19), .inl (cI, 24, .inl (fun _ => 0))) :: ((u4 20), .inl (cI, 24576, .inl (fun _ => 0))) :: []) := ⟨hP, hD⟩
  refine W.widen (k := 107) (n := 36842) (Nat.le_of_ble_eq_true rfl) (Nat.le_of_ble_eq_true rfl) ?_
  refine lv_astore_n (lv' := [(2, .ref q3), (1, .ref q1), (0, .ref b)]) hx hb dL_law_15 rfl hl (by decide) rfl (fun ls hl => ?_)
  refine lv_iconst (v := 0) hx hb dL_law_16 (by decide) ?_
  refine lv_istore_n (lv' := [(3, .int 0), (2, .ref q3), (1, .ref q1), (0, .ref b)]) hx hb dL_law_17 rfl hl (by decide) rfl (fun ls hl => ?_)
  have hP9 := hP.sub (ws' := (oo q1 (u2 0) (u2 1) (u2 3) (u2 13) (u2 23) (u2 24) (u2 25) (u2 29) 0 (u2 33) (u2 35) (u2 42) (u2 44) (u2 45) (u2 47) (u2 50) :: ((u2 24), .inl (cI, 3, .inl (fun _ => 0))) :: ((u2 0), .inr (5, [.ref (u2 1), .int 0, .int 0, .int (-1)])) :: ((u2 1), .inr (8, [.ref (u2 2), .int 0, .int 0, .int 0, .int 0, .int 0])) :: ((u2 2), .inl (cB, 1200, .inl (fun _ => 0))) :: dn (u2 3) 0 0 0 0 (u2 4) (u2 5) (u2 6) (u2 7) (u2 8) 0 (u2 9) (u2 10) 0 (u2 11) 0 (u2 12) 0 :: ((u2 4), .inl (cI, 24, .inl (fun _ => 0))) :: ((u2 5), .inl (cI, 2, .inl (fun _ => 0))) :: ((u2 6), .inl (cI, 2, .inl (fun _ => 0))) :: ((u2 7), .inl (cI, 6, .inl (fun _ => 0))) :: ((u2 8), .inl (cI, 32, .inl (fun _ => 0))) :: ((u2 9), .inl (cI, 200, .inl (fun _ => 0))) :: ((u2 10), .inl (cI, 24, .inl (fun _ => 0))) :: ((u2 11), .inl (cI, 10, .inl (fun _ => 0))) :: ((u2 12), .inl (cI, 120, .inl (fun _ => 0))) :: dn (u2 13) 0 0 0 0 (u2 14) (u2 15) (u2 16) (u2 17) (u2 18) 0 (u2 19) (u2 20) 0 (u2 21) 0 (u2 22) 0 :: ((u2 14), .inl (cI, 24, .inl (fun _ => 0))) :: ((u2 15), .inl (cI, 2, .inl (fun _ => 0))) :: ((u2 16), .inl (cI, 2, .inl (fun _ => 0))) :: ((u2 17), .inl (cI, 6, .inl (fun _ => 0))) :: ((u2 18), .inl (cI, 32, .inl (fun _ => 0))) :: ((u2 19), .inl (cI, 200, .inl (fun _ => 0))) :: ((u2 20), .inl (cI, 24, .inl (fun _ => 0))) :: ((u2 21), .inl (cI, 10, .inl (fun _ => 0))) :: ((u2 22), .inl (cI, 120, .inl (fun _ => 0))) :: fo (u2 25) (u2 26) (u2 27) (u2 28) 0 0 0 :: ((u2 26), .inl (cI, 400, .inl (fun _ => 0))) :: ((u2 27), .inl (cI, 400, .inl (fun _ => 0))) :: ((u2 28), .inl (cI, 200, .inl (fun _ => 0))) :: fo (u2 29) (u2 30) (u2 31) (u2 32) 0 0 0 :: ((u2 30), .inl (cI, 400, .inl (fun _ => 0))) :: ((u2 31), .inl (cI, 400, .inl (fun _ => 0))) :: ((u2 32), .inl (cI, 200, .inl (fun _ => 0))) :: ((u2 33), .inr (6, [.ref (u2 34)])) :: ((u2 34), .inl (cI, 12, .inl (fun _ => 0))) :: gu (u2 35) 0 0 (u2 36) 0 0 (u2 37) (u2 38) (u2 39) (u2 40) (u2 41) 0 0 :: ((u2 36), .inl (cI, 12, .inl (fun _ => 0))) :: ((u2 37), .inl (cI, 10, .inl (fun _ => 0))) :: ((u2 38), .inl (cI, 200, .inl (fun _ => 0))) :: ((u2 39), .inl (cI, 60, .inl (fun _ => 0))) :: ((u2 40), .inl (cI, 10, .inl (fun _ => 0))) :: ((u2 41), .inl (cI, 6, .inl (fun _ => 0))) :: ((u2 42), .inr (10, [.ref (u2 43), .int 0, .int 0])) :: ((u2 43), .inl (cI, 24, .inl (fun _ => 0))) :: ((u2 44), .inr (9, [.long 0, .long 0])) :: ((u2 45), .inr (2, [.ref (u2 46)])) :: ((u2 46), .inl (cI, 729, .inl (fun _ => 0))) :: ((u2 47), .inr (4, [.ref (u2 48), .ref (u2 49), .long 0, .int 0, .int 0, .int 0, .int 0])) :: ((u2 48), .inl (cI, 200, .inl (fun _ => 0))) :: ((u2 49), .inl (cI, 2, .inl (fun _ => 0))) :: ((u2 50), .inr (7, [.ref (u2 51), .ref (u2 52), .ref (u2 53)])) :: ((u2 51), .inl (cI, 4, .inl (fun _ => 0))) :: ((u2 52), .inl (cI, 4, .inl (upd (upd (upd (upd (fun _ => 0) 0 (-1)) 1 (-1)) 2 (-1)) 3 (-1)))) :: ((u2 53), .inl (cJ, 240, .inr (.inl (fun _ => 0)))) :: ((u2 23), .inl (cO, 3, .inr (.inr (.inr (.inr (va_up (va_up (va_up (fun _ => none) 0 (some (u2 54))) 1 (some (u2 64))) 2 (some (u2 74)))))))) :: dn (u2 54) 0 0 0 0 (u2 55) (u2 56) (u2 57) (u2 58) (u2 59) 0 (u2 60) (u2 61) 0 (u2 62) 0 (u2 63) 0 :: ((u2 55), .inl (cI, 24, .inl (fun _ => 0))) :: ((u2 56), .inl (cI, 2, .inl (fun _ => 0))) :: ((u2 57), .inl (cI, 2, .inl (fun _ => 0))) :: ((u2 58), .inl (cI, 6, .inl (fun _ => 0))) :: ((u2 59), .inl (cI, 32, .inl (fun _ => 0))) :: ((u2 60), .inl (cI, 200, .inl (fun _ => 0))) :: ((u2 61), .inl (cI, 24, .inl (fun _ => 0))) :: ((u2 62), .inl (cI, 10, .inl (fun _ => 0))) :: ((u2 63), .inl (cI, 120, .inl (fun _ => 0))) :: dn (u2 64) 0 0 0 0 (u2 65) (u2 66) (u2 67) (u2 68) (u2 69) 0 (u2 70) (u2 71) 0 (u2 72) 0 (u2 73) 0 :: ((u2 65), .inl (cI, 24, .inl (fun _ => 0))) :: ((u2 66), .inl (cI, 2, .inl (fun _ => 0))) :: ((u2 67), .inl (cI, 2, .inl (fun _ => 0))) :: ((u2 68), .inl (cI, 6, .inl (fun _ => 0))) :: ((u2 69), .inl (cI, 32, .inl (fun _ => 0))) :: ((u2 70), .inl (cI, 200, .inl (fun _ => 0))) :: ((u2 71), .inl (cI, 24, .inl (fun _ => 0))) :: ((u2 72), .inl (cI, 10, .inl (fun _ => 0))) :: ((u2 73), .inl (cI, 120, .inl (fun _ => 0))) :: dn (u2 74) 0 0 0 0 (u2 75) (u2 76) (u2 77) (u2 78) (u2 79) 0 (u2 80) (u2 81) 0 (u2 82) 0 (u2 83) 0 :: ((u2 75), .inl (cI, 24, .inl (fun _ => 0))) :: ((u2 76), .inl (cI, 2, .inl (fun _ => 0))) :: ((u2 77), .inl (cI, 2, .inl (fun _ => 0))) :: ((u2 78), .inl (cI, 6, .inl (fun _ => 0))) :: ((u2 79), .inl (cI, 32, .inl (fun _ => 0))) :: ((u2 80), .inl (cI, 200, .inl (fun _ => 0))) :: ((u2 81), .inl (cI, 24, .inl (fun _ => 0))) :: ((u2 82), .inl (cI, 10, .inl (fun _ => 0))) :: ((u2 83), .inl (cI, 120, .inl (fun _ => 0))) :: mo q3 0 (u4 0) (u4 1) (u4 2) (u4 3) (u4 4) 0 0 0 0 0 0 0 0 0 (-1) (u4 5) (u4 6) (u4 7) (u4 8) (u4 9) (u4 10) (u4 11) (u4 12) (u4 13) (u4 14) (u4 15) (u4 16) (u4 17) 0 0 (u4 18) 0 0 0 0 (u4 19) 0 0 (u4 20) 0 0 0 0 0 :: ((u4 0), .inl (cI, 4, .inl (upd (upd (upd (upd (fun _ => 0) 0 (-1)) 1 (-1)) 2 (-1)) 3 (-1)))) :: ((u4 1), .inl (cI, 4, .inl (fun _ => 0))) :: ((u4 2), .inl (cJ, 240, .inr (.inl (fun _ => 0)))) :: ((u4 3), .inl (cJ, 60, .inr (.inl (fun _ => 0)))) :: ((u4 4), .inl (cB, 1200, .inl (fun _ => 0))) :: ((u4 5), .inl (cI, 5, .inl (fun _ => 0))) :: ((u4 6), .inl (cI, 55, .inl (fun _ => 0))) :: ((u4 7), .inl (cI, 120, .inl (fun _ => 0))) :: ((u4 8), .inl (cI, 30, .inl (fun _ => 0))) :: ((u4 9), .inl (cI, 160, .inl (fun _ => 0))) :: ((u4 10), .inl (cZ, 1000, .inl (fun _ => 0))) :: ((u4 11), .inl (cI, 120, .inl (fun _ => 0))) :: ((u4 12), .inl (cI, 50, .inl (fun _ => 0))) :: ((u4 13), .inl (cI, 800, .inl (fun _ => 0))) :: ((u4 14), .inl (cZ, 3, .inl (fun _ => 0))) :: ((u4 15), .inl (cI, 13, .inl (fun _ => 0))) :: ((u4 16), .inl (cI, 402, .inl (fun _ => 0))) :: ((u4 17), .inl (cI, 400, .inl (fun _ => 0))) :: ((u4 18), .inl (cI, 560, .inl (fun _ => 0))) :: ((u4 19), .inl (cI, 24, .inl (fun _ => 0))) :: ((u4 20), .inl (cI, 24576, .inl (fun _ => 0))) :: [])) [0, 25, 1, 2, 3, 4, 5, 6, 7, 8, 9, 10, 11, 12, 13, 14, 15, 16, 17, 18, 19, 20, 21, 22, 23, 26, 27, 28, 29, 30, 31, 32, 33, 34, 35, 36, 37, 38, 39, 40, 41, 42, 43, 44, 45, 46, 47, 48, 49, 50, 51, 52, 53, 54, 24, 55, 56, 57, 58, 59, 60, 61, 62, 63, 64, 65, 66, 67, 68, 69, 70, 71, 72, 73, 74, 75, 76, 77, 78, 79, 80, 81, 82, 83, 84, 85, 86, 87, 88, 89, 90, 91, 92, 93, 94, 95, 96, 97, 98, 99, 100, 101, 102, 103, 104, 105, 106] rfl
  have hD9 := hD.sub (ws' := (oo q1 (u2 0) (u2 1) (u2 3) (u2 13) (u2 23) (u2 24) (u2 25) (u2 29) 0 (u2 33) (u2 35) (u2 42) (u2 44) (u2 45) (u2 47) (u2 50) :: ((u2 24), .inl (cI, 3, .inl (fun _ => 0))) :: ((u2 0), .inr (5, [.ref (u2 1), .int 0, .int 0, .int (-1)])) :: ((u2 1), .inr (8, [.ref (u2 2), .int 0, .int 0, .int 0, .int 0, .int 0])) :: ((u2 2), .inl (cB, 1200, .inl (fun _ => 0))) :: dn (u2 3) 0 0 0 0 (u2 4) (u2 5) (u2 6) (u2 7) (u2 8) 0 (u2 9) (u2 10) 0 (u2 11) 0 (u2 12) 0 :: ((u2 4), .inl (cI, 24, .inl (fun _ => 0))) :: ((u2 5), .inl (cI, 2, .inl (fun _ => 0))) :: ((u2 6), .inl (cI, 2, .inl (fun _ => 0))) :: ((u2 7), .inl (cI, 6, .inl (fun _ => 0))) :: ((u2 8), .inl (cI, 32, .inl (fun _ => 0))) :: ((u2 9), .inl (cI, 200, .inl (fun _ => 0))) :: ((u2 10), .inl (cI, 24, .inl (fun _ => 0))) :: ((u2 11), .inl (cI, 10, .inl (fun _ => 0))) :: ((u2 12), .inl (cI, 120, .inl (fun _ => 0))) :: dn (u2 13) 0 0 0 0 (u2 14) (u2 15) (u2 16) (u2 17) (u2 18) 0 (u2 19) (u2 20) 0 (u2 21) 0 (u2 22) 0 :: ((u2 14), .inl (cI, 24, .inl (fun _ => 0))) :: ((u2 15), .inl (cI, 2, .inl (fun _ => 0))) :: ((u2 16), .inl (cI, 2, .inl (fun _ => 0))) :: ((u2 17), .inl (cI, 6, .inl (fun _ => 0))) :: ((u2 18), .inl (cI, 32, .inl (fun _ => 0))) :: ((u2 19), .inl (cI, 200, .inl (fun _ => 0))) :: ((u2 20), .inl (cI, 24, .inl (fun _ => 0))) :: ((u2 21), .inl (cI, 10, .inl (fun _ => 0))) :: ((u2 22), .inl (cI, 120, .inl (fun _ => 0))) :: fo (u2 25) (u2 26) (u2 27) (u2 28) 0 0 0 :: ((u2 26), .inl (cI, 400, .inl (fun _ => 0))) :: ((u2 27), .inl (cI, 400, .inl (fun _ => 0))) :: ((u2 28), .inl (cI, 200, .inl (fun _ => 0))) :: fo (u2 29) (u2 30) (u2 31) (u2 32) 0 0 0 :: ((u2 30), .inl (cI, 400, .inl (fun _ => 0))) :: ((u2 31), .inl (cI, 400, .inl (fun _ => 0))) :: ((u2 32), .inl (cI, 200, .inl (fun _ => 0))) :: ((u2 33), .inr (6, [.ref (u2 34)])) :: ((u2 34), .inl (cI, 12, .inl (fun _ => 0))) :: gu (u2 35) 0 0 (u2 36) 0 0 (u2 37) (u2 38) (u2 39) (u2 40) (u2 41) 0 0 :: ((u2 36), .inl (cI, 12, .inl (fun _ => 0))) :: ((u2 37), .inl (cI, 10, .inl (fun _ => 0))) :: ((u2 38), .inl (cI, 200, .inl (fun _ => 0))) :: ((u2 39), .inl (cI, 60, .inl (fun _ => 0))) :: ((u2 40), .inl (cI, 10, .inl (fun _ => 0))) :: ((u2 41), .inl (cI, 6, .inl (fun _ => 0))) :: ((u2 42), .inr (10, [.ref (u2 43), .int 0, .int 0])) :: ((u2 43), .inl (cI, 24, .inl (fun _ => 0))) :: ((u2 44), .inr (9, [.long 0, .long 0])) :: ((u2 45), .inr (2, [.ref (u2 46)])) :: ((u2 46), .inl (cI, 729, .inl (fun _ => 0))) :: ((u2 47), .inr (4, [.ref (u2 48), .ref (u2 49), .long 0, .int 0, .int 0, .int 0, .int 0])) :: ((u2 48), .inl (cI, 200, .inl (fun _ => 0))) :: ((u2 49), .inl (cI, 2, .inl (fun _ => 0))) :: ((u2 50), .inr (7, [.ref (u2 51), .ref (u2 52), .ref (u2 53)])) :: ((u2 51), .inl (cI, 4, .inl (fun _ => 0))) :: ((u2 52), .inl (cI, 4, .inl (upd (upd (upd (upd (fun _ => 0) 0 (-1)) 1 (-1)) 2 (-1)) 3 (-1)))) :: ((u2 53), .inl (cJ, 240, .inr (.inl (fun _ => 0)))) :: ((u2 23), .inl (cO, 3, .inr (.inr (.inr (.inr (va_up (va_up (va_up (fun _ => none) 0 (some (u2 54))) 1 (some (u2 64))) 2 (some (u2 74)))))))) :: dn (u2 54) 0 0 0 0 (u2 55) (u2 56) (u2 57) (u2 58) (u2 59) 0 (u2 60) (u2 61) 0 (u2 62) 0 (u2 63) 0 :: ((u2 55), .inl (cI, 24, .inl (fun _ => 0))) :: ((u2 56), .inl (cI, 2, .inl (fun _ => 0))) :: ((u2 57), .inl (cI, 2, .inl (fun _ => 0))) :: ((u2 58), .inl (cI, 6, .inl (fun _ => 0))) :: ((u2 59), .inl (cI, 32, .inl (fun _ => 0))) :: ((u2 60), .inl (cI, 200, .inl (fun _ => 0))) :: ((u2 61), .inl (cI, 24, .inl (fun _ => 0))) :: ((u2 62), .inl (cI, 10, .inl (fun _ => 0))) :: ((u2 63), .inl (cI, 120, .inl (fun _ => 0))) :: dn (u2 64) 0 0 0 0 (u2 65) (u2 66) (u2 67) (u2 68) (u2 69) 0 (u2 70) (u2 71) 0 (u2 72) 0 (u2 73) 0 :: ((u2 65), .inl (cI, 24, .inl (fun _ => 0))) :: ((u2 66), .inl (cI, 2, .inl (fun _ => 0))) :: ((u2 67), .inl (cI, 2, .inl (fun _ => 0))) :: ((u2 68), .inl (cI, 6, .inl (fun _ => 0))) :: ((u2 69), .inl (cI, 32, .inl (fun _ => 0))) :: ((u2 70), .inl (cI, 200, .inl (fun _ => 0))) :: ((u2 71), .inl (cI, 24, .inl (fun _ => 0))) :: ((u2 72), .inl (cI, 10, .inl (fun _ => 0))) :: ((u2 73), .inl (cI, 120, .inl (fun _ => 0))) :: dn (u2 74) 0 0 0 0 (u2 75) (u2 76) (u2 77) (u2 78) (u2 79) 0 (u2 80) (u2 81) 0 (u2 82) 0 (u2 83) 0 :: ((u2 75), .inl (cI, 24, .inl (fun _ => 0))) :: ((u2 76), .inl (cI, 2, .inl (fun _ => 0))) :: ((u2 77), .inl (cI, 2, .inl (fun _ => 0))) :: ((u2 78), .inl (cI, 6, .inl (fun _ => 0))) :: ((u2 79), .inl (cI, 32, .inl (fun _ => 0))) :: ((u2 80), .inl (cI, 200, .inl (fun _ => 0))) :: ((u2 81), .inl (cI, 24, .inl (fun _ => 0))) :: ((u2 82), .inl (cI, 10, .inl (fun _ => 0))) :: ((u2 83), .inl (cI, 120, .inl (fun _ => 0))) :: mo q3 0 (u4 0) (u4 1) (u4 2) (u4 3) (u4 4) 0 0 0 0 0 0 0 0 0 (-1) (u4 5) (u4 6) (u4 7) (u4 8) (u4 9) (u4 10) (u4 11) (u4 12) (u4 13) (u4 14) (u4 15) (u4 16) (u4 17) 0 0 (u4 18) 0 0 0 0 (u4 19) 0 0 (u4 20) 0 0 0 0 0 :: ((u4 0), .inl (cI, 4, .inl (upd (upd (upd (upd (fun _ => 0) 0 (-1)) 1 (-1)) 2 (-1)) 3 (-1)))) :: ((u4 1), .inl (cI, 4, .inl (fun _ => 0))) :: ((u4 2), .inl (cJ, 240, .inr (.inl (fun _ => 0)))) :: ((u4 3), .inl (cJ, 60, .inr (.inl (fun _ => 0)))) :: ((u4 4), .inl (cB, 1200, .inl (fun _ => 0))) :: ((u4 5), .inl (cI, 5, .inl (fun _ => 0))) :: ((u4 6), .inl (cI, 55, .inl (fun _ => 0))) :: ((u4 7), .inl (cI, 120, .inl (fun _ => 0))) :: ((u4 8), .inl (cI, 30, .inl (fun _ => 0))) :: ((u4 9), .inl (cI, 160, .inl (fun _ => 0))) :: ((u4 10), .inl (cZ, 1000, .inl (fun _ => 0))) :: ((u4 11), .inl (cI, 120, .inl (fun _ => 0))) :: ((u4 12), .inl (cI, 50, .inl (fun _ => 0))) :: ((u4 13), .inl (cI, 800, .inl (fun _ => 0))) :: ((u4 14), .inl (cZ, 3, .inl (fun _ => 0))) :: ((u4 15), .inl (cI, 13, .inl (fun _ => 0))) :: ((u4 16), .inl (cI, 402, .inl (fun _ => 0))) :: ((u4 17), .inl (cI, 400, .inl (fun _ => 0))) :: ((u4 18), .inl (cI, 560, .inl (fun _ => 0))) :: ((u4 19), .inl (cI, 24, .inl (fun _ => 0))) :: ((u4 20), .inl (cI, 24576, .inl (fun _ => 0))) :: [])) [0, 25, 1, 2, 3, 4, 5, 6, 7, 8, 9, 10, 11, 12, 13, 14, 15, 16, 17, 18, 19, 20, 21, 22, 23, 26, 27, 28, 29, 30, 31, 32, 33, 34, 35, 36, 37, 38, 39, 40, 41, 42, 43, 44, 45, 46, 47, 48, 49, 50, 51, 52, 53, 54, 24, 55, 56, 57, 58, 59, 60, 61, 62, 63, 64, 65, 66, 67, 68, 69, 70, 71, 72, 73, 74, 75, 76, 77, 78, 79, 80, 81, 82, 83, 84, 85, 86, 87, 88, 89, 90, 91, 92, 93, 94, 95, 96, 97, 98, 99, 100, 101, 102, 103, 104, 105, 106] (by decide) rfl
  have hX0 : XOK cI cJ cB cZ cO q1 (oo q1 (u2 0) (u2 1) (u2 3) (u2 13) (u2 23) (u2 24) (u2 25) (u2 29) 0 (u2 33) (u2 35) (u2 42) (u2 44) (u2 45) (u2 47) (u2 50) :: ((u2 24), .inl (cI, 3, .inl (fun _ => 0))) :: ((u2 0), .inr (5, [.ref (u2 1), .int 0, .int 0, .int (-1)])) :: ((u2 1), .inr (8, [.ref (u2 2), .int 0, .int 0, .int 0, .int 0, .int 0])) :: ((u2 2), .inl (cB, 1200, .inl (fun _ => 0))) :: dn (u2 3) 0 0 0 0 (u2 4) (u2 5) (u2 6) (u2 7) (u2 8) 0 (u2 9) (u2 10) 0 (u2 11) 0 (u2 12) 0 :: ((u2 4), .inl (cI, 24, .inl (fun _ => 0))) :: ((u2 5), .inl (cI, 2, .inl (fun _ => 0))) :: ((u2 6), .inl (cI, 2, .inl (fun _ => 0))) :: ((u2 7), .inl (cI, 6, .inl (fun _ => 0))) :: ((u2 8), .inl (cI, 32, .inl (fun _ => 0))) :: ((u2 9), .inl (cI, 200, .inl (fun _ => 0))) :: ((u2 10), .inl (cI, 24, .inl (fun _ => 0))) :: ((u2 11), .inl (cI, 10, .inl (fun _ => 0))) :: ((u2 12), .inl (cI, 120, .inl (fun _ => 0))) :: dn (u2 13) 0 0 0 0 (u2 14) (u2 15) (u2 16) (u2 17) (u2 18) 0 (u2 19) (u2 20) 0 (u2 21) 0 (u2 22) 0 :: ((u2 14), .inl (cI, 24, .inl (fun _ => 0))) :: ((u2 15), .inl (cI, 2, .inl (fun _ => 0))) :: ((u2 16), .inl (cI, 2, .inl (fun _ => 0))) :: ((u2 17), .inl (cI, 6, .inl (fun _ => 0))) :: ((u2 18), .inl (cI, 32, .inl (fun _ => 0))) :: ((u2 19), .inl (cI, 200, .inl (fun _ => 0))) :: ((u2 20), .inl (cI, 24, .inl (fun _ => 0))) :: ((u2 21), .inl (cI, 10, .inl (fun _ => 0))) :: ((u2 22), .inl (cI, 120, .inl (fun _ => 0))) :: fo (u2 25) (u2 26) (u2 27) (u2 28) 0 0 0 :: ((u2 26), .inl (cI, 400, .inl (fun _ => 0))) :: ((u2 27), .inl (cI, 400, .inl (fun _ => 0))) :: ((u2 28), .inl (cI, 200, .inl (fun _ => 0))) :: fo (u2 29) (u2 30) (u2 31) (u2 32) 0 0 0 :: ((u2 30), .inl (cI, 400, .inl (fun _ => 0))) :: ((u2 31), .inl (cI, 400, .inl (fun _ => 0))) :: ((u2 32), .inl (cI, 200, .inl (fun _ => 0))) :: ((u2 33), .inr (6, [.ref (u2 34)])) :: ((u2 34), .inl (cI, 12, .inl (fun _ => 0))) :: gu (u2 35) 0 0 (u2 36) 0 0 (u2 37) (u2 38) (u2 39) (u2 40) (u2 41) 0 0 :: ((u2 36), .inl (cI, 12, .inl (fun _ => 0))) :: ((u2 37), .inl (cI, 10, .inl (fun _ => 0))) :: ((u2 38), .inl (cI, 200, .inl (fun _ => 0))) :: ((u2 39), .inl (cI, 60, .inl (fun _ => 0))) :: ((u2 40), .inl (cI, 10, .inl (fun _ => 0))) :: ((u2 41), .inl (cI, 6, .inl (fun _ => 0))) :: ((u2 42), .inr (10, [.ref (u2 43), .int 0, .int 0])) :: ((u2 43), .inl (cI, 24, .inl (fun _ => 0))) :: ((u2 44), .inr (9, [.long 0, .long 0])) :: ((u2 45), .inr (2, [.ref (u2 46)])) :: ((u2 46), .inl (cI, 729, .inl (fun _ => 0))) :: ((u2 47), .inr (4, [.ref (u2 48), .ref (u2 49), .long 0, .int 0, .int 0, .int 0, .int 0])) :: ((u2 48), .inl (cI, 200, .inl (fun _ => 0))) :: ((u2 49), .inl (cI, 2, .inl (fun _ => 0))) :: ((u2 50), .inr (7, [.ref (u2 51), .ref (u2 52), .ref (u2 53)])) :: ((u2 51), .inl (cI, 4, .inl (fun _ => 0))) :: ((u2 52), .inl (cI, 4, .inl (upd (upd (upd (upd (fun _ => 0) 0 (-1)) 1 (-1)) 2 (-1)) 3 (-1)))) :: ((u2 53), .inl (cJ, 240, .inr (.inl (fun _ => 0)))) :: ((u2 23), .inl (cO, 3, .inr (.inr (.inr (.inr (va_up (va_up (va_up (fun _ => none) 0 (some (u2 54))) 1 (some (u2 64))) 2 (some (u2 74)))))))) :: dn (u2 54) 0 0 0 0 (u2 55) (u2 56) (u2 57) (u2 58) (u2 59) 0 (u2 60) (u2 61) 0 (u2 62) 0 (u2 63) 0 :: ((u2 55), .inl (cI, 24, .inl (fun _ => 0))) :: ((u2 56), .inl (cI, 2, .inl (fun _ => 0))) :: ((u2 57), .inl (cI, 2, .inl (fun _ => 0))) :: ((u2 58), .inl (cI, 6, .inl (fun _ => 0))) :: ((u2 59), .inl (cI, 32, .inl (fun _ => 0))) :: ((u2 60), .inl (cI, 200, .inl (fun _ => 0))) :: ((u2 61), .inl (cI, 24, .inl (fun _ => 0))) :: ((u2 62), .inl (cI, 10, .inl (fun _ => 0))) :: ((u2 63), .inl (cI, 120, .inl (fun _ => 0))) :: dn (u2 64) 0 0 0 0 (u2 65) (u2 66) (u2 67) (u2 68) (u2 69) 0 (u2 70) (u2 71) 0 (u2 72) 0 (u2 73) 0 :: ((u2 65), .inl (cI, 24, .inl (fun _ => 0))) :: ((u2 66), .inl (cI, 2, .inl (fun _ => 0))) :: ((u2 67), .inl (cI, 2, .inl (fun _ => 0))) :: ((u2 68), .inl (cI, 6, .inl (fun _ => 0))) :: ((u2 69), .inl (cI, 32, .inl (fun _ => 0))) :: ((u2 70), .inl (cI, 200, .inl (fun _ => 0))) :: ((u2 71), .inl (cI, 24, .inl (fun _ => 0))) :: ((u2 72), .inl (cI, 10, .inl (fun _ => 0))) :: ((u2 73), .inl (cI, 120, .inl (fun _ => 0))) :: dn (u2 74) 0 0 0 0 (u2 75) (u2 76) (u2 77) (u2 78) (u2 79) 0 (u2 80) (u2 81) 0 (u2 82) 0 (u2 83) 0 :: ((u2 75), .inl (cI, 24, .inl (fun _ => 0))) :: ((u2 76), .inl (cI, 2, .inl (fun _ => 0))) :: ((u2 77), .inl (cI, 2, .inl (fun _ => 0))) :: ((u2 78), .inl (cI, 6, .inl (fun _ => 0))) :: ((u2 79), .inl (cI, 32, .inl (fun _ => 0))) :: ((u2 80), .inl (cI, 200, .inl (fun _ => 0))) :: ((u2 81), .inl (cI, 24, .inl (fun _ => 0))) :: ((u2 82), .inl (cI, 10, .inl (fun _ => 0))) :: ((u2 83), .inl (cI, 120, .inl (fun _ => 0))) :: []) := ⟨(u2 24), (fun _ => 0), (0 : Int32), (u2 23), (u2 0), (0 : Int32), (0 : Int32), (-1 : Int32), (u2 1), (u2 2), (fun _ => 0), (0 : Int32), (0 : Int32), (0 : Int32), (0 : Int32), (0 : Int32), (u2 3), (0 : Int32), (0 : Int32), (0 : Int32), (0 : Int32), (u2 4), (fun _ => 0), (u2 5), (fun _ => 0), (u2 6), (fun _ => 0), (u2 7), (fun _ => 0), (u2 8), (fun _ => 0), (0 : Int32), (u2 9), (fun _ => 0), (u2 10), (fun _ => 0), (0 : Int32), (u2 11), (fun _ => 0), (0 : Int32), (u2 12), (fun _ => 0), (0 : Int32), (u2 13), (0 : Int32), (0 : Int32), (0 : Int32), (0 : Int32), (u2 14), (fun _ => 0), (u2 15), (fun _ => 0), (u2 16), (fun _ => 0), (u2 17), (fun _ => 0), (u2 18), (fun _ => 0), (0 : Int32), (u2 19), (fun _ => 0), (u2 20), (fun _ => 0), (0 : Int32), (u2 21), (fun _ => 0), (0 : Int32), (u2 22), (fun _ => 0), (0 : Int32), (u2 25), (u2 26), (fun _ => 0), (u2 27), (fun _ => 0), (u2 28), (fun _ => 0), (0 : Int32), (0 : Int32), (0 : Int32), (u2 29), (u2 30), (fun _ => 0), (u2 31), (fun _ => 0), (u2 32), (fun _ => 0), (0 : Int32), (0 : Int32), (0 : Int32), (u2 33), (u2 34), (fun _ => 0), (u2 35), (0 : Int32), (0 : Int32), (u2 36), (fun _ => 0), (0 : Int32), (0 : Int32), (u2 37), (fun _ => 0), (u2 38), (fun _ => 0), (u2 39), (fun _ => 0), (u2 40), (fun _ => 0), (u2 41), (fun _ => 0), (0 : Int32), (0 : Int32), (u2 42), (u2 43), (fun _ => 0), (0 : Int32), (0 : Int32), (u2 44), (0 : Int64), (0 : Int64), (u2 45), (u2 46), (fun _ => 0), (u2 47), (u2 48), (fun _ => 0), (u2 49), (fun _ => 0), (0 : Int64), (0 : Int32), (0 : Int32), (0 : Int32), (0 : Int32), (u2 50), (u2 51), (fun _ => 0), (u2 52), (upd (upd (upd (upd (fun _ => 0) 0 (-1)) 1 (-1)) 2 (-1)) 3 (-1)), (u2 53), (fun _ => 0), (u2 54), (0 : Int32), (0 : Int32), (0 : Int32), (0 : Int32), (u2 55), (fun _ => 0), (u2 56), (fun _ => 0), (u2 57), (fun _ => 0), (u2 58), (fun _ => 0), (u2 59), (fun _ => 0), (0 : Int32), (u2 60), (fun _ => 0), (u2 61), (fun _ => 0), (0 : Int32), (u2 62), (fun _ => 0), (0 : Int32), (u2 63), (fun _ => 0), (0 : Int32), (u2 64), (0 : Int32), (0 : Int32), (0 : Int32), (0 : Int32), (u2 65), (fun _ => 0), (u2 66), (fun _ => 0), (u2 67), (fun _ => 0), (u2 68), (fun _ => 0), (u2 69), (fun _ => 0), (0 : Int32), (u2 70), (fun _ => 0), (u2 71), (fun _ => 0), (0 : Int32), (u2 72), (fun _ => 0), (0 : Int32), (u2 73), (fun _ => 0), (0 : Int32), (u2 74), (0 : Int32), (0 : Int32), (0 : Int32), (0 : Int32), (u2 75), (fun _ => 0), (u2 76), (fun _ => 0), (u2 77), (fun _ => 0), (u2 78), (fun _ => 0), (u2 79), (fun _ => 0), (0 : Int32), (u2 80), (fun _ => 0), (u2 81), (fun _ => 0), (0 : Int32), (u2 82), (fun _ => 0), (0 : Int32), (u2 83), (fun _ => 0), (0 : Int32), (u2 3), (u2 13), (Or.inl ⟨rfl, rfl⟩), (by decide), (by decide), (by decide), (by decide), (ar_zero (by decide)), (ar_zero (by decide)), (ar_zero (by decide)), (ar_zero (by decide)), (by decide), (by decide), (by decide), (by decide), (ch_zero (by decide) (by decide)), (by decide), (ar_zero (by decide)), (ar_zero (by decide)), (ar_zero (by decide)), (ar_zero (by decide)), (by decide), (by decide), (by decide), (by decide), (ch_zero (by decide) (by decide)), (ar_zero (by decide)), (fun _ => Or.inr (by decide)), (by decide), (ar_zero (by decide)), (fun _ => Or.inr (by decide)), (by decide), (by decide), (by decide), (ar_zero (by decide)), (ar_zero (by decide)), (ar_zero (by decide)), (ar_put (ar_put (ar_put (ar_put (ar_zero (by decide)) 0 (-1) (by decide)) 1 (-1) (by decide)) 2 (-1) (by decide)) 3 (-1) (by decide)), (by decide), (ar_zero (by decide)), (ar_zero (by decide)), (ar_zero (by decide)), (ar_zero (by decide)), (by decide), (by decide), (by decide), (by decide), (ch_zero (by decide) (by decide)), (by decide), (ar_zero (by decide)), (ar_zero (by decide)), (ar_zero (by decide)), (ar_zero (by decide)), (by decide), (by decide), (by decide), (by decide), (ch_zero (by decide) (by decide)), (by decide), (ar_zero (by decide)), (ar_zero (by decide)), (ar_zero (by decide)), (ar_zero (by decide)), (by decide), (by decide), (by decide), (by decide), (ch_zero (by decide) (by decide)), rfl⟩
  have hM0 : MOK cI cJ cB cZ cO q3 [mo q3 0 (u4 0) (u4 1) (u4 2) (u4 3) (u4 4) 0 0 0 0 0 0 0 0 0 (-1) (u4 5) (u4 6) (u4 7) (u4 8) (u4 9) (u4 10) (u4 11) (u4 12) (u4 13) (u4 14) (u4 15) (u4 16) (u4 17) 0 0 (u4 18) 0 0 0 0 (u4 19) 0 0 (u4 20) 0 0 0 0 0, ((u4 0), .inl (cI, 4, .inl (upd (upd (upd (upd (fun _ => 0) 0 (-1)) 1 (-1)) 2 (-1)) 3 (-1)))), ((u4 1), .inl (cI, 4, .inl (fun _ => 0))), ((u4 2), .inl (cJ, 240, .inr (.inl (fun _ => 0)))), ((u4 3), .inl (cJ, 60, .inr (.inl (fun _ => 0)))), ((u4 4), .inl (cB, 1200, .inl (fun _ => 0))), ((u4 5), .inl (cI, 5, .inl (fun _ => 0))), ((u4 6), .inl (cI, 55, .inl (fun _ => 0))), ((u4 7), .inl (cI, 120, .inl (fun _ => 0))), ((u4 8), .inl (cI, 30, .inl (fun _ => 0))), ((u4 9), .inl (cI, 160, .inl (fun _ => 0))), ((u4 10), .inl (cZ, 1000, .inl (fun _ => 0))), ((u4 11), .inl (cI, 120, .inl (fun _ => 0))), ((u4 12), .inl (cI, 50, .inl (fun _ => 0))), ((u4 13), .inl (cI, 800, .inl (fun _ => 0))), ((u4 14), .inl (cZ, 3, .inl (fun _ => 0))), ((u4 15), .inl (cI, 13, .inl (fun _ => 0))), ((u4 16), .inl (cI, 402, .inl (fun _ => 0))), ((u4 17), .inl (cI, 400, .inl (fun _ => 0))), ((u4 18), .inl (cI, 560, .inl (fun _ => 0))), ((u4 19), .inl (cI, 24, .inl (fun _ => 0))), ((u4 20), .inl (cI, 24576, .inl (fun _ => 0)))] := ⟨(0 : Int32), (u4 0), (upd (upd (upd (upd (fun _ => 0) 0 (-1)) 1 (-1)) 2 (-1)) 3 (-1)), (u4 1), (fun _ => 0), (u4 2), (fun _ => 0), (u4 3), (fun _ => 0), (u4 4), (fun _ => 0), (0 : Int32), (0 : Int32), (0 : Int32), (0 : Int32), (0 : Int32), (0 : Int64), (0 : Int32), (0 : Int32), (0 : Int32), (-1 : Int32), (u4 5), (fun _ => 0), (u4 6), (fun _ => 0), (u4 7), (fun _ => 0), (u4 8), (fun _ => 0), (u4 9), (fun _ => 0), (u4 10), (fun _ => 0), (u4 11), (fun _ => 0), (u4 12), (fun _ => 0), (u4 13), (fun _ => 0), (u4 14), (fun _ => 0), (u4 15), (fun _ => 0), (u4 16), (fun _ => 0), (u4 17), (fun _ => 0), (0 : Int32), (0 : Int32), (u4 18), (fun _ => 0), (0 : Int32), (0 : Int32), (0 : Int64), (0 : Int32), (u4 19), (fun _ => 0), (0 : Int32), (0 : Int32), (u4 20), (fun _ => 0), (0 : Int32), (0 : Int32), (0 : Int32), (0 : Int32), (0 : Int64), (ar_zero (by decide)), (by decide), (by decide), (by decide), (ar_zero (by decide)), (ar_zero (by decide)), (ar_zero (by decide)), (ar_zero (by decide)), (rf_c_0 _), (rf_t_0 _), (rf_g_0 _), rfl⟩
  obtain ⟨wx, wm, hX0, hM0, hP, hD⟩ : ∃ wx wm : va_W, XOK cI cJ cB cZ cO q1 wx ∧ MOK cI cJ cB cZ cO q3 wm ∧ va_P D vwCl (wx ++ wm) H ∧ va_D A (wx ++ wm) := ⟨_, _, hX0, hM0, hP9, hD9⟩
  have hl : lv_has ls 4 [(3, .int (nI 0)), (2, .ref q3), (1, .ref q1), (0, .ref b)] := hl
  refine W.widen (k := 107) (n := 36842) (Nat.le_of_ble_eq_true rfl) (Nat.le_of_ble_eq_true rfl) ?_
  refine ct_loop (X := Nat × va_W × va_W) (fun x => 3100 - x.1) (fun x H locs ls => x.1 ≤ 3078 ∧ XOK cI cJ cB cZ cO q1 x.2.1 ∧ MOK cI cJ cB cZ cO q3 x.2.2 ∧ va_P D vwCl (x.2.1 ++ x.2.2) H ∧ va_D A (x.2.1 ++ x.2.2) ∧ va_S A s.heap H locs ∧ lv_has ls 4 [(3, .int (nI x.1)), (2, .ref q3), (1, .ref q1), (0, .ref b)]) 18 (0, wx, wm) ⟨by decide, hX0, hM0, hP, hD, hS, hl⟩ (fun x ih H locs ls hI => ?_)
  obtain ⟨i, wx, wm⟩ := x
  obtain ⟨hi0, hX0, hM0, hP, hD, hS, hl⟩ := hI
  have hi0 : i ≤ 3078 := hi0
  have hX0 : XOK cI cJ cB cZ cO q1 wx := hX0
  have hM0 : MOK cI cJ cB cZ cO q3 wm := hM0
  have hP : va_P D vwCl (wx ++ wm) H := hP
  have hD : va_D A (wx ++ wm) := hD
  have hl : lv_has ls 4 [(3, .int (nI i)), (2, .ref q3), (1, .ref q1), (0, .ref b)] := hl
  have hni : (nI i).toInt = (i : Int) := nI_toInt (by omega)
  refine lv_iload_n hx hb dL_law_18 rfl (lv_at hl 0 rfl) ?_
  refine lv_aload_n hx hb dL_law_19 rfl (lv_at hl 3 rfl) ?_
  refine va_slen hx hb hX hbl hbA hS dL_law_20 ?_
  refine lv_topi (fun z5 ez5 => ?_)
  have fz5 : z5.toInt = (L : Int) := by rw [ez5]; exact nI_toInt (by omega)
  refine lv_bipush (v := 6) hx hb dL_law_21 (by decide) ?_
  refine lv_isub hx hb dL_law_23 ?_
  refine lv_topi (fun z6 ez6 => ?_)
  have fz6 : z6.toInt = z5.toInt - 6 := by rw [ez6]; exact tq_subt rfl (by decide) (by omega)
  refine lv_icmp_gt (tgt := 2168) hx hb dL_law_24 (by decide) (fun hc => ?_) (fun hc => ?_)
  · have hq7 : z6.toInt < (nI i).toInt := tq_lt rfl rfl hc
    refine lv_iconst (v := 1) hx hb dL_law_2168 (by decide) ?_
    refine va_forget (fun q hq => hAf _ (hS.2.2 q hq)) ?_
    refine W.widen (k := 600000) (n := 7302250) (Nat.le_of_ble_eq_true rfl) (Nat.le_of_ble_eq_true rfl) ?_
    exact lw_ret hx hb hr hlocks dL_law_2169
  · have hq7 : (nI i).toInt ≤ z6.toInt := tq_nlt rfl rfl hc
    refine lv_aload_n hx hb dL_law_27 rfl (lv_at hl 3 rfl) ?_
    refine lv_iload_n hx hb dL_law_28 rfl (lv_at hl 0 rfl) ?_
    refine va_sld hx hb hX hbl hbA hS (tq_in rfl (by omega)) dL_law_29 ?_
    refine lv_topi (fun z8 ez8 => ?_)
    refine lv_bipush (v := 63) hx hb dL_law_30 (by decide) ?_
    refine lv_iand hx hb dL_law_32 ?_
    refine lv_topi (fun z9 ez9 => ?_)
    have fz9 : 0 ≤ z9.toInt ∧ z9.toInt ≤ 63 := by rw [ez9]; exact tq_and (c := 63) (by decide) (by omega)
    have hi : i + 6 ≤ L := by omega
    have kk : ∀ (wx wm : va_W) (H : Heap) (locs : List Loc) (ls : Array Slot), XOK cI cJ cB cZ cO q1 wx → MOK cI cJ cB cZ cO q3 wm → va_P D vwCl (wx ++ wm) H → va_D A (wx ++ wm) → va_S A s.heap H locs → lv_has ls 4 [(3, .int (nI i)), (2, .ref q3), (1, .ref q1), (0, .ref b)] → W p l e room_1 s m #[Value.ref b] below meth c H locs 107 36842 (lw_Z below #[Value.ref b] s) (F0 m 2162 ls []) := by
      intro wx wm H locs ls hX0 hM0 hP hD hS hl
      refine lv_iinc (v := nI (i + 6)) (lv' := [(3, .int (nI (i + 6))), (2, .ref q3), (1, .ref q1), (0, .ref b)]) hx hb dL_law_2162 hl (k := 0) rfl (tq_of (a := (i : Int) + 6) (by rw [tq_add (a := (i : Int)) (b := 6) hni (by decide) (by omega)]) (by rw [nI_toInt (by omega)]; omega)) (by decide) rfl (fun ls hl => ?_)
      refine lv_goto (tgt := 18) hx hb dL_law_2165 (by decide) ?_
      exact ih (i + 6, wx, wm) _ _ _ (show 3100 - (i + 6) < 3100 - i by omega) ⟨(show i + 6 ≤ 3078 by omega), hX0, hM0, hP, hD, hS, hl⟩
    obtain ⟨j, hj, ej⟩ := pk_andE z8 (m := 63) 6 (by decide)
    have hz : z9.toInt = (j : Int) := by rw [ez9, ej]; exact nI_toInt (by omega)
    clear ej
    match j, hj, hz with
    | 0, _, hz =>
      refine lv_tableIn (tgt := 296) (off := 263) hx hb dL_law_33 (by rw [hz]; decide) (by rw [hz]; decide) (by rw [hz]; decide) (by decide) ?_
      exact law_c0 hx hb hml hr hlocks hX hbl hbA hA hAf D G cI cJ cB cZ cO q1 q3 hown hts hE hH hL i hi wx wm hX0 hM0 hP hD hS hl kk
    | 1, _, hz =>
      refine lv_tableIn (tgt := 359) (off := 326) hx hb dL_law_33 (by rw [hz]; decide) (by rw [hz]; decide) (by rw [hz]; decide) (by decide) ?_
      exact law_c1 hx hb hml hr hlocks hX hbl hbA hA hAf D G cI cJ cB cZ cO q1 q3 hown hts hE hH hL i hi wx wm hX0 hM0 hP hD hS hl kk
    | 2, _, hz =>
      refine lv_tableIn (tgt := 382) (off := 349) hx hb dL_law_33 (by rw [hz]; decide) (by rw [hz]; decide) (by rw [hz]; decide) (by decide) ?_
      exact law_c2 hx hb hml hr hlocks hX hbl hbA hA hAf D G cI cJ cB cZ cO q1 q3 hown hts hE hH hL i hi wx wm hX0 hM0 hP hD hS hl kk
    | 3, _, hz =>
      refine lv_tableIn (tgt := 395) (off := 362) hx hb dL_law_33 (by rw [hz]; decide) (by rw [hz]; decide) (by rw [hz]; decide) (by decide) ?_
      exact law_c3 hx hb hml hr hlocks hX hbl hbA hA hAf D G cI cJ cB cZ cO q1 q3 hown hts hE hH hL i hi wx wm hX0 hM0 hP hD hS hl kk
    | 4, _, hz =>
      refine lv_tableIn (tgt := 418) (off := 385) hx hb dL_law_33 (by rw [hz]; decide) (by rw [hz]; decide) (by rw [hz]; decide) (by decide) ?_
      exact law_c4 hx hb hml hr hlocks hX hbl hbA hA hAf D G cI cJ cB cZ cO q1 q3 hown hts hE hH hL i hi wx wm hX0 hM0 hP hD hS hl kk
    | 5, _, hz =>
      refine lv_tableIn (tgt := 451) (off := 418) hx hb dL_law_33 (by rw [hz]; decide) (by rw [hz]; decide) (by rw [hz]; decide) (by decide) ?_
      exact law_c5 hx hb hml hr hlocks hX hbl hbA hA hAf D G cI cJ cB cZ cO q1 q3 hown hts hE hH hL i hi wx wm hX0 hM0 hP hD hS hl kk
    | 6, _, hz =>
      refine lv_tableIn (tgt := 474) (off := 441) hx hb dL_law_33 (by rw [hz]; decide) (by rw [hz]; decide) (by rw [hz]; decide) (by decide) ?_
      exact law_c6 hx hb hml hr hlocks hX hbl hbA hA hAf D G cI cJ cB cZ cO q1 q3 hown hts hE hH hL i hi wx wm hX0 hM0 hP hD hS hl kk
    | 7, _, hz =>
      refine lv_tableIn (tgt := 507) (off := 474) hx hb dL_law_33 (by rw [hz]; decide) (by rw [hz]; decide) (by rw [hz]; decide) (by decide) ?_
      exact law_c7 hx hb hml hr hlocks hX hbl hbA hA hAf D G cI cJ cB cZ cO q1 q3 hown hts hE hH hL i hi wx wm hX0 hM0 hP hD hS hl kk
    | 8, _, hz =>
      refine lv_tableIn (tgt := 530) (off := 497) hx hb dL_law_33 (by rw [hz]; decide) (by rw [hz]; decide) (by rw [hz]; decide) (by decide) ?_
      exact law_c8 hx hb hml hr hlocks hX hbl hbA hA hAf D G cI cJ cB cZ cO q1 q3 hown hts hE hH hL i hi wx wm hX0 hM0 hP hD hS hl kk
    | 9, _, hz =>
      refine lv_tableIn (tgt := 563) (off := 530) hx hb dL_law_33 (by rw [hz]; decide) (by rw [hz]; decide) (by rw [hz]; decide) (by decide) ?_
      exact law_c9 hx hb hml hr hlocks hX hbl hbA hA hAf D G cI cJ cB cZ cO q1 q3 hown hts hE hH hL i hi wx wm hX0 hM0 hP hD hS hl kk
    | 10, _, hz =>
      refine lv_tableIn (tgt := 596) (off := 563) hx hb dL_law_33 (by rw [hz]; decide) (by rw [hz]; decide) (by rw [hz]; decide) (by decide) ?_
      exact law_c10 hx hb hml hr hlocks hX hbl hbA hA hAf D G cI cJ cB cZ cO q1 q3 hown hts hE hH hL i hi wx wm hX0 hM0 hP hD hS hl kk
    | 11, _, hz =>
      refine lv_tableIn (tgt := 629) (off := 596) hx hb dL_law_33 (by rw [hz]; decide) (by rw [hz]; decide) (by rw [hz]; decide) (by decide) ?_
      exact law_c11 hx hb hml hr hlocks hX hbl hbA hA hAf D G cI cJ cB cZ cO q1 q3 hown hts hE hH hL i hi wx wm hX0 hM0 hP hD hS hl kk
    | 12, _, hz =>
      refine lv_tableIn (tgt := 662) (off := 629) hx hb dL_law_33 (by rw [hz]; decide) (by rw [hz]; decide) (by rw [hz]; decide) (by decide) ?_
      exact law_c12 hx hb hml hr hlocks hX hbl hbA hA hAf D G cI cJ cB cZ cO q1 q3 hown hts hE hH hL i hi wx wm hX0 hM0 hP hD hS hl kk
    | 13, _, hz =>
      refine lv_tableIn (tgt := 695) (off := 662) hx hb dL_law_33 (by rw [hz]; decide) (by rw [hz]; decide) (by rw [hz]; decide) (by decide) ?_
      exact law_c13 hx hb hml hr hlocks hX hbl hbA hA hAf D G cI cJ cB cZ cO q1 q3 hown hts hE hH hL i hi wx wm hX0 hM0 hP hD hS hl kk
    | 14, _, hz =>
      refine lv_tableIn (tgt := 728) (off := 695) hx hb dL_law_33 (by rw [hz]; decide) (by rw [hz]; decide) (by rw [hz]; decide) (by decide) ?_
      exact law_c14 hx hb hml hr hlocks hX hbl hbA hA hAf D G cI cJ cB cZ cO q1 q3 hown hts hE hH hL i hi wx wm hX0 hM0 hP hD hS hl kk
    | 15, _, hz =>
      refine lv_tableIn (tgt := 771) (off := 738) hx hb dL_law_33 (by rw [hz]; decide) (by rw [hz]; decide) (by rw [hz]; decide) (by decide) ?_
      exact law_c15 hx hb hml hr hlocks hX hbl hbA hA hAf D G cI cJ cB cZ cO q1 q3 hown hts hE hH hL i hi wx wm hX0 hM0 hP hD hS hl kk
    | 16, _, hz =>
      refine lv_tableIn (tgt := 804) (off := 771) hx hb dL_law_33 (by rw [hz]; decide) (by rw [hz]; decide) (by rw [hz]; decide) (by decide) ?_
      exact law_c16 hx hb hml hr hlocks hX hbl hbA hA hAf D G cI cJ cB cZ cO q1 q3 hown hts hE hH hL i hi wx wm hX0 hM0 hP hD hS hl kk
    | 17, _, hz =>
      refine lv_tableIn (tgt := 837) (off := 804) hx hb dL_law_33 (by rw [hz]; decide) (by rw [hz]; decide) (by rw [hz]; decide) (by decide) ?_
      exact law_c17 hx hb hml hr hlocks hX hbl hbA hA hAf D G cI cJ cB cZ cO q1 q3 hown hts hE hH hL i hi wx wm hX0 hM0 hP hD hS hl kk
    | 18, _, hz =>
      refine lv_tableIn (tgt := 860) (off := 827) hx hb dL_law_33 (by rw [hz]; decide) (by rw [hz]; decide) (by rw [hz]; decide) (by decide) ?_
      exact law_c18 hx hb hml hr hlocks hX hbl hbA hA hAf D G cI cJ cB cZ cO q1 q3 hown hts hE hH hL i hi wx wm hX0 hM0 hP hD hS hl kk
    | 19, _, hz =>
      refine lv_tableIn (tgt := 893) (off := 860) hx hb dL_law_33 (by rw [hz]; decide) (by rw [hz]; decide) (by rw [hz]; decide) (by decide) ?_
      exact law_c19 hx hb hml hr hlocks hX hbl hbA hA hAf D G cI cJ cB cZ cO q1 q3 hown hts hE hH hL i hi wx wm hX0 hM0 hP hD hS hl kk
    | 20, _, hz =>
      refine lv_tableIn (tgt := 906) (off := 873) hx hb dL_law_33 (by rw [hz]; decide) (by rw [hz]; decide) (by rw [hz]; decide) (by decide) ?_
      exact law_c20 hx hb hml hr hlocks hX hbl hbA hA hAf D G cI cJ cB cZ cO q1 q3 hown hts hE hH hL i hi wx wm hX0 hM0 hP hD hS hl kk
    | 21, _, hz =>
      refine lv_tableIn (tgt := 949) (off := 916) hx hb dL_law_33 (by rw [hz]; decide) (by rw [hz]; decide) (by rw [hz]; decide) (by decide) ?_
      exact law_c21 hx hb hml hr hlocks hX hbl hbA hA hAf D G cI cJ cB cZ cO q1 q3 hown hts hE hH hL i hi wx wm hX0 hM0 hP hD hS hl kk
    | 22, _, hz =>
      refine lv_tableIn (tgt := 972) (off := 939) hx hb dL_law_33 (by rw [hz]; decide) (by rw [hz]; decide) (by rw [hz]; decide) (by decide) ?_
      exact law_c22 hx hb hml hr hlocks hX hbl hbA hA hAf D G cI cJ cB cZ cO q1 q3 hown hts hE hH hL i hi wx wm hX0 hM0 hP hD hS hl kk
    | 23, _, hz =>
      refine lv_tableIn (tgt := 985) (off := 952) hx hb dL_law_33 (by rw [hz]; decide) (by rw [hz]; decide) (by rw [hz]; decide) (by decide) ?_
      exact law_c23 hx hb hml hr hlocks hX hbl hbA hA hAf D G cI cJ cB cZ cO q1 q3 hown hts hE hH hL i hi wx wm hX0 hM0 hP hD hS hl kk
    | 24, _, hz =>
      refine lv_tableIn (tgt := 998) (off := 965) hx hb dL_law_33 (by rw [hz]; decide) (by rw [hz]; decide) (by rw [hz]; decide) (by decide) ?_
      exact law_c24 hx hb hml hr hlocks hX hbl hbA hA hAf D G cI cJ cB cZ cO q1 q3 hown hts hE hH hL i hi wx wm hX0 hM0 hP hD hS hl kk
    | 25, _, hz =>
      refine lv_tableIn (tgt := 1021) (off := 988) hx hb dL_law_33 (by rw [hz]; decide) (by rw [hz]; decide) (by rw [hz]; decide) (by decide) ?_
      exact law_c25 hx hb hml hr hlocks hX hbl hbA hA hAf D G cI cJ cB cZ cO q1 q3 hown hts hE hH hL i hi wx wm hX0 hM0 hP hD hS hl kk
    | 26, _, hz =>
      refine lv_tableIn (tgt := 1054) (off := 1021) hx hb dL_law_33 (by rw [hz]; decide) (by rw [hz]; decide) (by rw [hz]; decide) (by decide) ?_
      exact law_c26 hx hb hml hr hlocks hX hbl hbA hA hAf D G cI cJ cB cZ cO q1 q3 hown hts hE hH hL i hi wx wm hX0 hM0 hP hD hS hl kk
    | 27, _, hz =>
      refine lv_tableIn (tgt := 1077) (off := 1044) hx hb dL_law_33 (by rw [hz]; decide) (by rw [hz]; decide) (by rw [hz]; decide) (by decide) ?_
      exact law_c27 hx hb hml hr hlocks hX hbl hbA hA hAf D G cI cJ cB cZ cO q1 q3 hown hts hE hH hL i hi wx wm hX0 hM0 hP hD hS hl kk
    | 28, _, hz =>
      refine lv_tableIn (tgt := 1110) (off := 1077) hx hb dL_law_33 (by rw [hz]; decide) (by rw [hz]; decide) (by rw [hz]; decide) (by decide) ?_
      exact law_c28 hx hb hml hr hlocks hX hbl hbA hA hAf D G cI cJ cB cZ cO q1 q3 hown hts hE hH hL i hi wx wm hX0 hM0 hP hD hS hl kk
    | 29, _, hz =>
      refine lv_tableIn (tgt := 1143) (off := 1110) hx hb dL_law_33 (by rw [hz]; decide) (by rw [hz]; decide) (by rw [hz]; decide) (by decide) ?_
      exact law_c29 hx hb hml hr hlocks hX hbl hbA hA hAf D G cI cJ cB cZ cO q1 q3 hown hts hE hH hL i hi wx wm hX0 hM0 hP hD hS hl kk
    | 30, _, hz =>
      refine lv_tableIn (tgt := 1176) (off := 1143) hx hb dL_law_33 (by rw [hz]; decide) (by rw [hz]; decide) (by rw [hz]; decide) (by decide) ?_
      exact law_c30 hx hb hml hr hlocks hX hbl hbA hA hAf D G cI cJ cB cZ cO q1 q3 hown hts hE hH hL i hi wx wm hX0 hM0 hP hD hS hl kk
    | 31, _, hz =>
      refine lv_tableIn (tgt := 1209) (off := 1176) hx hb dL_law_33 (by rw [hz]; decide) (by rw [hz]; decide) (by rw [hz]; decide) (by decide) ?_
      exact law_c31 hx hb hml hr hlocks hX hbl hbA hA hAf D G cI cJ cB cZ cO q1 q3 hown hts hE hH hL i hi wx wm hX0 hM0 hP hD hS hl kk
    | 32, _, hz =>
      refine lv_tableIn (tgt := 1242) (off := 1209) hx hb dL_law_33 (by rw [hz]; decide) (by rw [hz]; decide) (by rw [hz]; decide) (by decide) ?_
      exact law_c32 hx hb hml hr hlocks hX hbl hbA hA hAf D G cI cJ cB cZ cO q1 q3 hown hts hE hH hL i hi wx wm hX0 hM0 hP hD hS hl kk
    | 33, _, hz =>
      refine lv_tableIn (tgt := 1265) (off := 1232) hx hb dL_law_33 (by rw [hz]; decide) (by rw [hz]; decide) (by rw [hz]; decide) (by decide) ?_
      exact law_c33 hx hb hml hr hlocks hX hbl hbA hA hAf D G cI cJ cB cZ cO q1 q3 hown hts hE hH hL i hi wx wm hX0 hM0 hP hD hS hl kk
    | 34, _, hz =>
      refine lv_tableIn (tgt := 1288) (off := 1255) hx hb dL_law_33 (by rw [hz]; decide) (by rw [hz]; decide) (by rw [hz]; decide) (by decide) ?_
      exact law_c34 hx hb hml hr hlocks hX hbl hbA hA hAf D G cI cJ cB cZ cO q1 q3 hown hts hE hH hL i hi wx wm hX0 hM0 hP hD hS hl kk
    | 35, _, hz =>
      refine lv_tableIn (tgt := 1321) (off := 1288) hx hb dL_law_33 (by rw [hz]; decide) (by rw [hz]; decide) (by rw [hz]; decide) (by decide) ?_
      exact law_c35 hx hb hml hr hlocks hX hbl hbA hA hAf D G cI cJ cB cZ cO q1 q3 hown hts hE hH hL i hi wx wm hX0 hM0 hP hD hS hl kk
    | 36, _, hz =>
      refine lv_tableIn (tgt := 1354) (off := 1321) hx hb dL_law_33 (by rw [hz]; decide) (by rw [hz]; decide) (by rw [hz]; decide) (by decide) ?_
      exact law_c36 hx hb hml hr hlocks hX hbl hbA hA hAf D G cI cJ cB cZ cO q1 q3 hown hts hE hH hL i hi wx wm hX0 hM0 hP hD hS hl kk
    | 37, _, hz =>
      refine lv_tableIn (tgt := 1367) (off := 1334) hx hb dL_law_33 (by rw [hz]; decide) (by rw [hz]; decide) (by rw [hz]; decide) (by decide) ?_
      exact law_c37 hx hb hml hr hlocks hX hbl hbA hA hAf D G cI cJ cB cZ cO q1 q3 hown hts hE hH hL i hi wx wm hX0 hM0 hP hD hS hl kk
    | 38, _, hz =>
      refine lv_tableIn (tgt := 1390) (off := 1357) hx hb dL_law_33 (by rw [hz]; decide) (by rw [hz]; decide) (by rw [hz]; decide) (by decide) ?_
      exact law_c38 hx hb hml hr hlocks hX hbl hbA hA hAf D G cI cJ cB cZ cO q1 q3 hown hts hE hH hL i hi wx wm hX0 hM0 hP hD hS hl kk
    | 39, _, hz =>
      refine lv_tableIn (tgt := 1423) (off := 1390) hx hb dL_law_33 (by rw [hz]; decide) (by rw [hz]; decide) (by rw [hz]; decide) (by decide) ?_
      exact law_c39 hx hb hml hr hlocks hX hbl hbA hA hAf D G cI cJ cB cZ cO q1 q3 hown hts hE hH hL i hi wx wm hX0 hM0 hP hD hS hl kk
    | 40, _, hz =>
      refine lv_tableIn (tgt := 1446) (off := 1413) hx hb dL_law_33 (by rw [hz]; decide) (by rw [hz]; decide) (by rw [hz]; decide) (by decide) ?_
      exact law_c40 hx hb hml hr hlocks hX hbl hbA hA hAf D G cI cJ cB cZ cO q1 q3 hown hts hE hH hL i hi wx wm hX0 hM0 hP hD hS hl kk
    | 41, _, hz =>
      refine lv_tableIn (tgt := 1479) (off := 1446) hx hb dL_law_33 (by rw [hz]; decide) (by rw [hz]; decide) (by rw [hz]; decide) (by decide) ?_
      exact law_c41 hx hb hml hr hlocks hX hbl hbA hA hAf D G cI cJ cB cZ cO q1 q3 hown hts hE hH hL i hi wx wm hX0 hM0 hP hD hS hl kk
    | 42, _, hz =>
      refine lv_tableIn (tgt := 1502) (off := 1469) hx hb dL_law_33 (by rw [hz]; decide) (by rw [hz]; decide) (by rw [hz]; decide) (by decide) ?_
      exact law_c42 hx hb hml hr hlocks hX hbl hbA hA hAf D G cI cJ cB cZ cO q1 q3 hown hts hE hH hL i hi wx wm hX0 hM0 hP hD hS hl kk
    | 43, _, hz =>
      refine lv_tableIn (tgt := 1515) (off := 1482) hx hb dL_law_33 (by rw [hz]; decide) (by rw [hz]; decide) (by rw [hz]; decide) (by decide) ?_
      exact law_c43 hx hb hml hr hlocks hX hbl hbA hA hAf D G cI cJ cB cZ cO q1 q3 hown hts hE hH hL i hi wx wm hX0 hM0 hP hD hS hl kk
    | 44, _, hz =>
      refine lv_tableIn (tgt := 1528) (off := 1495) hx hb dL_law_33 (by rw [hz]; decide) (by rw [hz]; decide) (by rw [hz]; decide) (by decide) ?_
      exact law_c44 hx hb hml hr hlocks hX hbl hbA hA hAf D G cI cJ cB cZ cO q1 q3 hown hts hE hH hL i hi wx wm hX0 hM0 hP hD hS hl kk
    | 45, _, hz =>
      refine lv_tableIn (tgt := 1541) (off := 1508) hx hb dL_law_33 (by rw [hz]; decide) (by rw [hz]; decide) (by rw [hz]; decide) (by decide) ?_
      exact law_c45 hx hb hml hr hlocks hX hbl hbA hA hAf D G cI cJ cB cZ cO q1 q3 hown hts hE hH hL i hi wx wm hX0 hM0 hP hD hS hl kk
    | 46, _, hz =>
      refine lv_tableIn (tgt := 1564) (off := 1531) hx hb dL_law_33 (by rw [hz]; decide) (by rw [hz]; decide) (by rw [hz]; decide) (by decide) ?_
      exact law_c46 hx hb hml hr hlocks hX hbl hbA hA hAf D G cI cJ cB cZ cO q1 q3 hown hts hE hH hL i hi wx wm hX0 hM0 hP hD hS hl kk
    | 47, _, hz =>
      refine lv_tableIn (tgt := 1587) (off := 1554) hx hb dL_law_33 (by rw [hz]; decide) (by rw [hz]; decide) (by rw [hz]; decide) (by decide) ?_
      exact law_c47 hx hb hml hr hlocks hX hbl hbA hA hAf D G cI cJ cB cZ cO q1 q3 hown hts hE hH hL i hi wx wm hX0 hM0 hP hD hS hl kk
    | 48, _, hz =>
      refine lv_tableIn (tgt := 1610) (off := 1577) hx hb dL_law_33 (by rw [hz]; decide) (by rw [hz]; decide) (by rw [hz]; decide) (by decide) ?_
      exact law_c48 hx hb hml hr hlocks hX hbl hbA hA hAf D G cI cJ cB cZ cO q1 q3 hown hts hE hH hL i hi wx wm hX0 hM0 hP hD hS hl kk
    | 49, _, hz =>
      refine lv_tableIn (tgt := 1643) (off := 1610) hx hb dL_law_33 (by rw [hz]; decide) (by rw [hz]; decide) (by rw [hz]; decide) (by decide) ?_
      exact law_c49 hx hb hml hr hlocks hX hbl hbA hA hAf D G cI cJ cB cZ cO q1 q3 hown hts hE hH hL i hi wx wm hX0 hM0 hP hD hS hl kk
    | 50, _, hz =>
      refine lv_tableIn (tgt := 1686) (off := 1653) hx hb dL_law_33 (by rw [hz]; decide) (by rw [hz]; decide) (by rw [hz]; decide) (by decide) ?_
      exact law_c50 hx hb hml hr hlocks hX hbl hbA hA hAf D G cI cJ cB cZ cO q1 q3 hown hts hE hH hL i hi wx wm hX0 hM0 hP hD hS hl kk
    | 51, _, hz =>
      refine lv_tableIn (tgt := 1729) (off := 1696) hx hb dL_law_33 (by rw [hz]; decide) (by rw [hz]; decide) (by rw [hz]; decide) (by decide) ?_
      exact law_c51 hx hb hml hr hlocks hX hbl hbA hA hAf D G cI cJ cB cZ cO q1 q3 hown hts hE hH hL i hi wx wm hX0 hM0 hP hD hS hl kk
    | 52, _, hz =>
      refine lv_tableIn (tgt := 1772) (off := 1739) hx hb dL_law_33 (by rw [hz]; decide) (by rw [hz]; decide) (by rw [hz]; decide) (by decide) ?_
      exact law_c52 hx hb hml hr hlocks hX hbl hbA hA hAf D G cI cJ cB cZ cO q1 q3 hown hts hE hH hL i hi wx wm hX0 hM0 hP hD hS hl kk
    | 53, _, hz =>
      refine lv_tableIn (tgt := 1825) (off := 1792) hx hb dL_law_33 (by rw [hz]; decide) (by rw [hz]; decide) (by rw [hz]; decide) (by decide) ?_
      exact law_c53 hx hb hml hr hlocks hX hbl hbA hA hAf D G cI cJ cB cZ cO q1 q3 hown hts hE hH hL i hi wx wm hX0 hM0 hP hD hS hl kk
    | 54, _, hz =>
      refine lv_tableIn (tgt := 1858) (off := 1825) hx hb dL_law_33 (by rw [hz]; decide) (by rw [hz]; decide) (by rw [hz]; decide) (by decide) ?_
      exact law_c54 hx hb hml hr hlocks hX hbl hbA hA hAf D G cI cJ cB cZ cO q1 q3 hown hts hE hH hL i hi wx wm hX0 hM0 hP hD hS hl kk
    | 55, _, hz =>
      refine lv_tableIn (tgt := 1901) (off := 1868) hx hb dL_law_33 (by rw [hz]; decide) (by rw [hz]; decide) (by rw [hz]; decide) (by decide) ?_
      exact law_c55 hx hb hml hr hlocks hX hbl hbA hA hAf D G cI cJ cB cZ cO q1 q3 hown hts hE hH hL i hi wx wm hX0 hM0 hP hD hS hl kk
    | 56, _, hz =>
      refine lv_tableIn (tgt := 1914) (off := 1881) hx hb dL_law_33 (by rw [hz]; decide) (by rw [hz]; decide) (by rw [hz]; decide) (by decide) ?_
      exact law_c56 hx hb hml hr hlocks hX hbl hbA hA hAf D G cI cJ cB cZ cO q1 q3 hown hts hE hH hL i hi wx wm hX0 hM0 hP hD hS hl kk
    | 57, _, hz =>
      refine lv_tableIn (tgt := 1937) (off := 1904) hx hb dL_law_33 (by rw [hz]; decide) (by rw [hz]; decide) (by rw [hz]; decide) (by decide) ?_
      exact law_c57 hx hb hml hr hlocks hX hbl hbA hA hAf D G cI cJ cB cZ cO q1 q3 hown hts hE hH hL i hi wx wm hX0 hM0 hP hD hS hl kk
    | 58, _, hz =>
      refine lv_tableIn (tgt := 1960) (off := 1927) hx hb dL_law_33 (by rw [hz]; decide) (by rw [hz]; decide) (by rw [hz]; decide) (by decide) ?_
      exact law_c58 hx hb hml hr hlocks hX hbl hbA hA hAf D G cI cJ cB cZ cO q1 q3 hown hts hE hH hL i hi wx wm hX0 hM0 hP hD hS hl kk
    | 59, _, hz =>
      refine lv_tableIn (tgt := 1983) (off := 1950) hx hb dL_law_33 (by rw [hz]; decide) (by rw [hz]; decide) (by rw [hz]; decide) (by decide) ?_
      exact law_c59 hx hb hml hr hlocks hX hbl hbA hA hAf D G cI cJ cB cZ cO q1 q3 hown hts hE hH hL i hi wx wm hX0 hM0 hP hD hS hl kk
    | 60, _, hz =>
      refine lv_tableIn (tgt := 2026) (off := 1993) hx hb dL_law_33 (by rw [hz]; decide) (by rw [hz]; decide) (by rw [hz]; decide) (by decide) ?_
      exact law_c60 hx hb hml hr hlocks hX hbl hbA hA hAf D G cI cJ cB cZ cO q1 q3 hown hts hE hH hL i hi wx wm hX0 hM0 hP hD hS hl kk
    | 61, _, hz =>
      refine lv_tableIn (tgt := 2099) (off := 2066) hx hb dL_law_33 (by rw [hz]; decide) (by rw [hz]; decide) (by rw [hz]; decide) (by decide) ?_
      exact law_c61 hx hb hml hr hlocks hX hbl hbA hA hAf D G cI cJ cB cZ cO q1 q3 hown hts hE hH hL i hi wx wm hX0 hM0 hP hD hS hl kk
    | 62, _, hz =>
      refine lv_tableOut (tgt := 2162) hx hb dL_law_33 (by rw [hz]; decide) (by decide) ?_
      exact kk wx wm H locs ls hX0 hM0 hP hD hS hl
    | 63, _, hz =>
      refine lv_tableOut (tgt := 2162) hx hb dL_law_33 (by rw [hz]; decide) (by decide) ?_
      exact kk wx wm H locs ls hX0 hM0 hP hD hS hl
    | k + 64, h, _ => exact absurd h (by omega)
set_option maxHeartbeats 4000000 in
theorem lw_walk (l : Launch) (hflags : l.flags = flags0) (b : Addr) (xs : List Int32) : MetFree l x (headSpec (Jvm.Cond.code x code maxLocals ret :: tables_1) room_1) (lw_P b xs) (fun _ _ _ _ _ => True) lw_Q := by
  refine MetFree.of_bodyS (code := code) (maxLocals := maxLocals) (ret := ret) (by decide) ?_ ?_
  · intro args s m h hn
    obtain ⟨meth, c, h1, h2, h3, h4, h5, h6, -, -⟩ := Cond.code_spec hn (atoms_spec (ws := Jvm.Cond.code x code maxLocals ret :: tables_1) h _ List.mem_cons_self)
    exact ⟨meth, c, h1, h2, h3, h4, h5, h6⟩
  · intro p e s m args below meth c s₁ B hml0 hP _
    obtain ⟨rfl, hx, hbd, hgv⟩ := hP
    obtain ⟨scr, harrAt, hlist, hof, hsmall⟩ := hx
    obtain ⟨hcb, hkn, -, -⟩ := State.arrayAt?_spec harrAt
    have hown : s.vm.findClass R_law = some m.cls := findClass_of_methodNamed B.named
    have hts0 : ∀ c ∈ (Jvm.Cond.code x code maxLocals ret :: tables_1), c.before #[Value.ref b] s = true := atoms_spec (ws := Jvm.Cond.code x code maxLocals ret :: tables_1) B.pre
    have hts : ∀ w ∈ lw_tbl, w.before #[Value.ref b] s = true := k2_hts_sels lw_privs (fun w hw => hts0 w (List.mem_cons_of_mem _ hw)) lw_privs_ok
    have hml : c.maxLocals = 4 := B.maxLocals_eq (hts0 _ List.mem_cons_self)
    have X₀ : Stand p l e room_1 s m #[Value.ref b] below meth c s₁ [] 0 0 := Stand.of_body B
    have hh0 : s₁.heap = s.heap := by rw [B.state]; rfl
    have hsz : scr.slots.size = xs.length := by rw [← Array.length_toList, hlist, List.length_map]
    have hval : ∀ j : Nat, j < xs.length → scr.slots[j]? = some (.int (xs.getD j 0)) := fun j hj => by
      rw [← Array.getElem?_toList, hlist]
      simp [hj]
    have hbl : b < s.heap.size := (Array.getElem?_eq_some_iff.mp hcb).1
    have hX : va_X b xs.length (fun j => xs.getD j 0) s s.heap := ⟨scr, hcb, hof, hkn, hsz, hval⟩
    have K : W p l e room_1 s m #[Value.ref b] below meth c s₁.heap [] 0 0 (lw_Z below #[Value.ref b] s) (entryFrame m ([Value.ref b] : List Value).toArray 4) := by
      rw [hh0]
      exact whole_start l hflags hbd ⟨B.exec, B.bytes, B.returns, hml, hown, hts, hX, hbl, B.notSynchronized, hgv⟩
    obtain ⟨t, a1, o, b1, b2, b3⟩ := K s₁ rfl X₀
    exact ⟨t, o, a1, b1, b2, b3⟩
theorem lw_pre_spec {args : Array Value} {s : State} (h : (Jvm.Cond.and given_1 narrow_1).before args s = true) (hr : rest_1_c.before args s = true) : ∃ (b : Addr) (xs : List Int32), lw_P b xs args s := by
  have hs := flat_of_before _ h
  have hq := flat_of_before _ hr
  have hc : (Cond.count 1).before args s = true := hs _ (by decide +kernel)
  have harr : (Cond.arrayOf (.arg 0) .int).before args s = true := hs _ (by decide +kernel)
  have hle : (Cond.le (.length (.arg 0)) (.int 3072)).before args s = true := hs _ (by decide +kernel)
  have hlen : (Cond.isInt (.length (.arg 0))).before args s = true := hq _ (by decide +kernel)
  have hall : (Cond.all (.arg 0) (.isInt (.elem (.arg 0) (.index 0)))).before args s = true := hq _ (by decide +kernel)
  obtain ⟨b, xs, hb, hx⟩ := State.ints_of_pre rfl harr hlen hall
  have hsm : xs.length < 2 ^ 31 := hx.choose_spec.2.2.2
  have hev : (Term.length (.arg 0)).eval args s none [] s = some (.int xs.length.toInt32) := hx.length_eval hb
  have hv := Cond.le_ints hev (show (Term.int 3072).eval args s none [] s = some (.int 3072) from rfl)
  have hd : xs.length.toInt32 ≤ 3072 := by
    simpa [Cond.before, Cond.holds, hv] using hle
  have hN : xs.length ≤ 3072 := (Int32.ofNat_le_ofNat hsm (by decide)).mp (show Int32.ofNat xs.length ≤ Int32.ofNat 3072 from hd)
  exact ⟨b, xs, Cond.one_arg hc (show args[0]? = some (.ref b) from hb), hx, hN, h⟩
theorem lw_comes (l : Launch) (hflags : l.flags = flags0) : Comes l x (Jvm.Cond.code x code maxLocals ret :: tables_1) room_1 (fun tb e args s => Calls_1 tb e args s ∧ rest_1 tb e args s ∧ Pre_1 tb e args s)
    (fun _ _ args s o t => lw_Q args s o t) := by
  intro p e ha hc hk s m args below hf hfit hheap happ hpre
  obtain ⟨b, xs, hP⟩ := lw_pre_spec hpre.2.2 hpre.2.1
  obtain ⟨k, o, h1, h2, h3, hQ⟩ := lw_walk l hflags b xs p e ha hc hk s m args below hf ((Spec.applies_iff_loose hf).mp happ).1 hP trivial
  exact ⟨k, o, h1, h2, h3, hQ⟩
theorem lw_frame {s t : State} {o : Outcome} {args : Array Value} (h : Framed s o t [] 600000 7302250) :
    Framed s o t (fieldLocs frame_1_writes args s ++ arrayLocs frame_1_arrays args s ++ staticLocs frame_1_statics s) 600000 7302250 := h
theorem lw_limb (L : Cond) (hL : ∀ (args : Array Value) (s t : State), L.after args s (.returned (some (.int 1))) t = true) :
    ArmFor flags0 classFile x code maxLocals ret World_1 tables_1 room_1 Calls_1 rest_1 Pre_1
      (fun tb e a s o t => postC L tb e a s o t ∧ Framed s o t (fieldLocs frame_1_writes a s ++ arrayLocs frame_1_arrays a s ++ staticLocs frame_1_statics s) 600000 7302250) := by
  intro l hflags _ _ p e ha hc hk s m args below hf hfit hheap happ hpre
  obtain ⟨k, o, h1, h2, h3, rfl, hF⟩ := lw_comes l hflags p e ha hc hk s m args below hf hfit hheap happ hpre
  exact ⟨k, _, h1, h2, h3, hL args s _, lw_frame hF⟩
theorem i_vc : Claimed_1_1 ∧ Claimed_1_2 := ⟨lw_limb limb_1_1 (fun args s t => by simp [limb_1_1, Cond.after, Cond.holds, Cond.value]), lw_limb limb_1_2 (fun args s t => Cond.after_iff.mpr (by
  first | (rw [show limb_1_2 = Cond.eq .result (.int 1) from rfl, Cond.eq_ints (x := 1) (y := 1) rfl rfl]; simp; done) | (simp [limb_1_2, Cond.value, Term.eval]; done)))⟩

