theorem ct_nl_in : ∀ q ∈ ct_nl, Cond.methodLinkNest q.1 q.2.1 q.2.2.1 q.2.2.2 ∈ lw_tbl := by decide +kernel
set_option maxHeartbeats 4000000 in
set_option maxRecDepth 100000 in
theorem whole_start {p : Program} {e : Env} {s : State} {m : MethodId} {below : List Frame} {meth : Method} {c : Code} (l : Launch) (hflags : l.flags = flags0) {b L : Nat} {xs : Nat → Int32} (hL : L ≤ 6) (C0 : lw_At p s m meth c b L xs) : W p l e room_1 s m #[Value.ref b] below meth c s.heap [] 0 0 (lw_Z below #[Value.ref b] s) (entryFrame m ([Value.ref b] : List Value).toArray 4) := by
  obtain ⟨hx, hb, hr, hml, hown0, hts0, hX, hbl, hlocks, hgv⟩ := id C0
  have hown : s.vm.findClass RL = some m.cls := hown0
  have hts : ∀ w ∈ wsL_law, w.before #[Value.ref b] s = true := fun w h => hts0 w (wsL_law_in w h)
  obtain ⟨c0, iS0, hKn0⟩ := u_known (C := RX0) (T := TX0) (N := 17) (n := 17) hts0 inX0 (hts0 (.instantiable RX0 17) (by decide +kernel))
  obtain ⟨c1, iS1, hKn1⟩ := u_known (C := RX1) (T := TX1) (N := 6) (n := 6) hts0 inX1 (hts0 (.instantiable RX1 6) (by decide +kernel))
  obtain ⟨c2, iS2, hKn2⟩ := u_known (C := RX2) (T := TX2) (N := 1) (n := 1) hts0 inX2 (hts0 (.instantiable RX2 1) (by decide +kernel))
  obtain ⟨c3, iS3, hKn3⟩ := u_known (C := RX3) (T := TX3) (N := 12) (n := 12) hts0 inX3 (hts0 (.instantiable RX3 12) (by decide +kernel))
  obtain ⟨c4, iS4, hKn4⟩ := u_known (C := RX4) (T := TX4) (N := 7) (n := 7) hts0 inX4 (hts0 (.instantiable RX4 7) (by decide +kernel))
  obtain ⟨c5, iS5, hKn5⟩ := u_known (C := RX5) (T := TX5) (N := 4) (n := 4) hts0 inX5 (hts0 (.instantiable RX5 4) (by decide +kernel))
  obtain ⟨c6, iS6, hKn6⟩ := u_known (C := RX6) (T := TX6) (N := 1) (n := 1) hts0 inX6 (hts0 (.instantiable RX6 1) (by decide +kernel))
  obtain ⟨c7, iS7, hKn7⟩ := u_known (C := RX7) (T := TX7) (N := 3) (n := 3) hts0 inX7 (hts0 (.instantiable RX7 3) (by decide +kernel))
  obtain ⟨c8, iS8, hKn8⟩ := u_known (C := RX8) (T := TX8) (N := 6) (n := 6) hts0 inX8 (hts0 (.instantiable RX8 6) (by decide +kernel))
  obtain ⟨c9, iS9, hKn9⟩ := u_known (C := RX9) (T := TX9) (N := 2) (n := 2) hts0 inX9 (hts0 (.instantiable RX9 2) (by decide +kernel))
  obtain ⟨c10, iS10, hKn10⟩ := u_known (C := RX10) (T := TX10) (N := 3) (n := 3) hts0 inX10 (hts0 (.instantiable RX10 3) (by decide +kernel))
  obtain ⟨c11, iS11, hKn11⟩ := u_known (C := RX11) (T := TX11) (N := 16) (n := 16) hts0 inX11 (hts0 (.instantiable RX11 16) (by decide +kernel))
  obtain ⟨c12, iS12, hKn12⟩ := u_known (C := RX12) (T := TX12) (N := 45) (n := 45) hts0 inX12 (hts0 (.instantiable RX12 45) (by decide +kernel))
  obtain ⟨cI, aI, fI⟩ := ct_arr (hts0 (.arrayClass .int) (by decide +kernel))
  obtain ⟨cJ, aJ, fJ⟩ := ct_arr (hts0 (.arrayClass .long) (by decide +kernel))
  obtain ⟨cB, aB, fB⟩ := ct_arr (hts0 (.arrayClass .byte) (by decide +kernel))
  obtain ⟨cZ, aZ, fZ⟩ := ct_arr (hts0 (.arrayClass .boolean) (by decide +kernel))
  have hAO : va_AO RX0 s := va_AO.of (hts0 (.arrayOver (.object RX0)) (by decide +kernel))
  obtain ⟨cO, aO, fO⟩ := ct_arrq hAO
  obtain ⟨D, hE⟩ : ∃ D : va_G, ct_E D (ct_T cI cJ cB cZ cO) s := by
    refine ⟨(fun k => match k with | 0 => c0 | 1 => c1 | 2 => c2 | 3 => c3 | 4 => c4 | 5 => c5 | 6 => c6 | 7 => c7 | 8 => c8 | 9 => c9 | 10 => c10 | 11 => c11 | _ => c12, fun k => match k with | 0 => iS0 | 1 => iS1 | 2 => iS2 | 3 => iS3 | 4 => iS4 | 5 => iS5 | 6 => iS6 | 7 => iS7 | 8 => iS8 | 9 => iS9 | 10 => iS10 | 11 => iS11 | _ => iS12), ⟨?_, ?_⟩, fun q hq => va_Nw.of rfl (hts0 _ (ct_nl_in q hq)), hAO⟩
    · intro k q hq
      match k, hq with
      | 0, hq => cases hq; exact hKn0
      | 1, hq => cases hq; exact hKn1
      | 2, hq => cases hq; exact hKn2
      | 3, hq => cases hq; exact hKn3
      | 4, hq => cases hq; exact hKn4
      | 5, hq => cases hq; exact hKn5
      | 6, hq => cases hq; exact hKn6
      | 7, hq => cases hq; exact hKn7
      | 8, hq => cases hq; exact hKn8
      | 9, hq => cases hq; exact hKn9
      | 10, hq => cases hq; exact hKn10
      | 11, hq => cases hq; exact hKn11
      | 12, hq => cases hq; exact hKn12
      | k + 13, hq => simp [vwCl] at hq
    · intro k q hq
      match k, hq with
      | 0, hq => cases hq; exact ⟨aI, fI⟩
      | 1, hq => cases hq; exact ⟨aJ, fJ⟩
      | 2, hq => cases hq; exact ⟨aB, fB⟩
      | 3, hq => cases hq; exact ⟨aZ, fZ⟩
      | 4, hq => cases hq; exact ⟨aO, fO⟩
      | k + 5, hq => simp [ct_T] at hq
  have hK := hE.1
  obtain ⟨A, hAe⟩ : ∃ A : Nat → Prop, A = fun q => s.heap.size ≤ q := ⟨_, rfl⟩
  have hA : ∀ q : Nat, s.heap.size ≤ q → A q := fun q h => by rw [hAe]; exact h
  have hAf : ∀ q : Nat, A q → s.heap.size ≤ q := fun q h => by rw [hAe] at h; exact h
  have hbA : ¬ A b := fun h => absurd (hAf b h) (Nat.not_le.mpr hbl)
  have hP : va_P D vwCl [] s.heap := fun k q h => by simp at h
  have hD : va_D A [] := ⟨fun i j p q h => by simp at h, fun k q h => by simp at h⟩
  have hi11 : ∀ w ∈ u_ws RX11 TX11 16, w ∈ wsL_law := inlX11
  have hi12 : ∀ w ∈ u_ws RX12 TX12 45, w ∈ wsL_law := inlX12
  have hl := lv_entry ([.ref b]) (n := 4) (Nat.le_of_ble_eq_true rfl)
  rw [lg_entry_eq]
  generalize (lg_sl ([.ref b]) ++ List.replicate (4 - (lg_sl ([.ref b])).length) Slot.unset).toArray = ls at hl ⊢
  have hl : lv_has ls 4 [(0, .ref b)] := hl
  obtain ⟨H, hHe⟩ : ∃ H : Heap, H = s.heap := ⟨_, rfl⟩
  rw [← hHe] at hP
  have hS : va_S A s.heap H [] := by rw [hHe]; exact va_S.rf
  refine ct_start hHe ?_
  refine va_new (ci := 11) (fs := [.null, .null, .null, .null, .null, .null, .null, .null, .int 0, .null, .null, .null, .null, .null, .null, .null]) (C := RX11) (T := TX11) (N := 16) hx hb hts hi11 tyX11 tyX11_ok hown (hts (.classLink RL 7 RX11) (by decide +kernel)) (hts (.instantiable RX11 16) (by decide +kernel)) (hts (.initialized RX11) (by decide +kernel)) hK hP hD hS hA rfl ct_df11 (Nat.le_of_ble_eq_true rfl) (Nat.le_of_ble_eq_true rfl) dL_law_0 (fun q951 H hP hD hS => ?_)
  have hP : va_P D vwCl [(q951, .inr (11, [.null, .null, .null, .null, .null, .null, .null, .null, .int 0, .null, .null, .null, .null, .null, .null, .null]))] H := hP
  have hD : va_D A [(q951, .inr (11, [.null, .null, .null, .null, .null, .null, .null, .null, .int 0, .null, .null, .null, .null, .null, .null, .null]))] := hD
  refine W.widen (k := 1) (n := 16) (Nat.le_of_ble_eq_true rfl) (Nat.le_of_ble_eq_true rfl) ?_
  refine lv_dup hx hb dL_law_3 rfl ?_
  refine ct_callv (D := D) (wc := (w_c_X11_init cI cJ cB cZ cO q951)) (wr := []) (va_runI (As := []) (rest := [.ref q951]) ⟨hx, hb, hml, hown, hts⟩ (c_X11_init l D cI cJ cB cZ cO q951 H.size) (cwI 0 hts gL_law_X11_init rfl rfl rfl (hts (.initialized RX11) (by decide +kernel)) (hts (.methodLink RL 9 yX11_init) (by decide +kernel)) (hts (.instanceMethod yX11_init) (by decide +kernel)) rfl (by decide +kernel) ⟨Nat.le_of_ble_eq_true rfl, Nat.le_of_ble_eq_true rfl⟩) (ct_preS (T := ct_T cI cJ cB cZ cO) hE hP hD [0] (by decide) rfl) rfl rfl hl.1 rfl (lv_room (Nat.le_of_ble_eq_true rfl)) dL_law_4 ⟨Nat.le_of_ble_eq_true rfl, Nat.le_of_ble_eq_true rfl⟩) hP hD hS hA [0] [] rfl rfl (by decide) (by decide) (fun u H locs hw hP hD hS => ?_)
  obtain ⟨u952, rfl⟩ : ∃ z, z = u := ⟨_, rfl⟩
  have hP : va_P D vwCl [oo q951 u952 (u952 2) (u952 3), ((u952 0), .inr (5, [.ref (u952 1), .int 0, .int 0, .int (-1)])), ((u952 1), .inr (8, [.ref (u952 16), .int 0, .int 0, .int 0, .int 0, .int 0])), ((u952 16), .inl (cB, 1200, .inl (fun _ => 0))), dn (u952 2) (u952 24) (u952 25) (u952 26) (u952 27) (u952 28) (u952 30) (u952 31) (u952 33) (u952 35), ((u952 24), .inl (cI, 24, .inl (fun _ => 0))), ((u952 25), .inl (cI, 2, .inl (fun _ => 0))), ((u952 26), .inl (cI, 2, .inl (fun _ => 0))), ((u952 27), .inl (cI, 6, .inl (fun _ => 0))), ((u952 28), .inl (cI, 32, .inl (fun _ => 0))), ((u952 30), .inl (cI, 200, .inl (fun _ => 0))), ((u952 31), .inl (cI, 24, .inl (fun _ => 0))), ((u952 33), .inl (cI, 10, .inl (fun _ => 0))), ((u952 35), .inl (cI, 120, .inl (fun _ => 0))), dn (u952 3) (u952 44) (u952 45) (u952 46) (u952 47) (u952 48) (u952 50) (u952 51) (u952 53) (u952 55), ((u952 45), .inl (cI, 2, .inl (fun _ => 0))), ((u952 46), .inl (cI, 2, .inl (fun _ => 0))), ((u952 47), .inl (cI, 6, .inl (fun _ => 0))), ((u952 50), .inl (cI, 200, .inl (fun _ => 0))), ((u952 4), .inl (cO, 3, .inr (.inr (.inr (.inr (va_up (va_up (va_up (fun _ => none) 0 (some (u952 60))) 1 (some (u952 80))) 2 (some (u952 100)))))))), dn (u952 60) (u952 64) (u952 65) (u952 66) (u952 67) (u952 68) (u952 70) (u952 71) (u952 73) (u952 75), ((u952 64), .inl (cI, 24, .inl (fun _ => 0))), ((u952 65), .inl (cI, 2, .inl (fun _ => 0))), ((u952 66), .inl (cI, 2, .inl (fun _ => 0))), ((u952 67), .inl (cI, 6, .inl (fun _ => 0))), ((u952 68), .inl (cI, 32, .inl (fun _ => 0))), ((u952 70), .inl (cI, 200, .inl (fun _ => 0))), ((u952 71), .inl (cI, 24, .inl (fun _ => 0))), ((u952 73), .inl (cI, 10, .inl (fun _ => 0))), ((u952 75), .inl (cI, 120, .inl (fun _ => 0))), dn (u952 80) (u952 84) (u952 85) (u952 86) (u952 87) (u952 88) (u952 90) (u952 91) (u952 93) (u952 95), ((u952 84), .inl (cI, 24, .inl (fun _ => 0))), ((u952 85), .inl (cI, 2, .inl (fun _ => 0))), ((u952 86), .inl (cI, 2, .inl (fun _ => 0))), ((u952 87), .inl (cI, 6, .inl (fun _ => 0))), ((u952 88), .inl (cI, 32, .inl (fun _ => 0))), ((u952 90), .inl (cI, 200, .inl (fun _ => 0))), ((u952 91), .inl (cI, 24, .inl (fun _ => 0))), ((u952 93), .inl (cI, 10, .inl (fun _ => 0))), ((u952 95), .inl (cI, 120, .inl (fun _ => 0))), dn (u952 100) (u952 104) (u952 105) (u952 106) (u952 107) (u952 108) (u952 110) (u952 111) (u952 113) (u952 115), ((u952 104), .inl (cI, 24, .inl (fun _ => 0))), ((u952 105), .inl (cI, 2, .inl (fun _ => 0))), ((u952 106), .inl (cI, 2, .inl (fun _ => 0))), ((u952 107), .inl (cI, 6, .inl (fun _ => 0))), ((u952 108), .inl (cI, 32, .inl (fun _ => 0))), ((u952 110), .inl (cI, 200, .inl (fun _ => 0))), ((u952 111), .inl (cI, 24, .inl (fun _ => 0))), ((u952 113), .inl (cI, 10, .inl (fun _ => 0))), ((u952 115), .inl (cI, 120, .inl (fun _ => 0))), ((u952 5), .inl (cI, 3, .inl (fun _ => 0))), ((u952 15), .inr (7, [.ref (u952 17), .ref (u952 18), .ref (u952 19)])), ((u952 17), .inl (cI, 4, .inl (fun _ => 0))), ((u952 18), .inl (cI, 4, .inl (szf))), ((u952 19), .inl (cJ, 240, .inr (.inl (fun _ => 0))))] H := hP
  have hD : va_D A [oo q951 u952 (u952 2) (u952 3), ((u952 0), .inr (5, [.ref (u952 1), .int 0, .int 0, .int (-1)])), ((u952 1), .inr (8, [.ref (u952 16), .int 0, .int 0, .int 0, .int 0, .int 0])), ((u952 16), .inl (cB, 1200, .inl (fun _ => 0))), dn (u952 2) (u952 24) (u952 25) (u952 26) (u952 27) (u952 28) (u952 30) (u952 31) (u952 33) (u952 35), ((u952 24), .inl (cI, 24, .inl (fun _ => 0))), ((u952 25), .inl (cI, 2, .inl (fun _ => 0))), ((u952 26), .inl (cI, 2, .inl (fun _ => 0))), ((u952 27), .inl (cI, 6, .inl (fun _ => 0))), ((u952 28), .inl (cI, 32, .inl (fun _ => 0))), ((u952 30), .inl (cI, 200, .inl (fun _ => 0))), ((u952 31), .inl (cI, 24, .inl (fun _ => 0))), ((u952 33), .inl (cI, 10, .inl (fun _ => 0))), ((u952 35), .inl (cI, 120, .inl (fun _ => 0))), dn (u952 3) (u952 44) (u952 45) (u952 46) (u952 47) (u952 48) (u952 50) (u952 51) (u952 53) (u952 55), ((u952 45), .inl (cI, 2, .inl (fun _ => 0))), ((u952 46), .inl (cI, 2, .inl (fun _ => 0))), ((u952 47), .inl (cI, 6, .inl (fun _ => 0))), ((u952 50), .inl (cI, 200, .inl (fun _ => 0))), ((u952 4), .inl (cO, 3, .inr (.inr (.inr (.inr (va_up (va_up (va_up (fun _ => none) 0 (some (u952 60))) 1 (some (u952 80))) 2 (some (u952 100)))))))), dn (u952 60) (u952 64) (u952 65) (u952 66) (u952 67) (u952 68) (u952 70) (u952 71) (u952 73) (u952 75), ((u952 64), .inl (cI, 24, .inl (fun _ => 0))), ((u952 65), .inl (cI, 2, .inl (fun _ => 0))), ((u952 66), .inl (cI, 2, .inl (fun _ => 0))), ((u952 67), .inl (cI, 6, .inl (fun _ => 0))), ((u952 68), .inl (cI, 32, .inl (fun _ => 0))), ((u952 70), .inl (cI, 200, .inl (fun _ => 0))), ((u952 71), .inl (cI, 24, .inl (fun _ => 0))), ((u952 73), .inl (cI, 10, .inl (fun _ => 0))), ((u952 75), .inl (cI, 120, .inl (fun _ => 0))), dn (u952 80) (u952 84) (u952 85) (u952 86) (u952 87) (u952 88) (u952 90) (u952 91) (u952 93) (u952 95), ((u952 84), .inl (cI, 24, .inl (fun _ => 0))), ((u952 85), .inl (cI, 2, .inl (fun _ => 0))), ((u952 86), .inl (cI, 2, .inl (fun _ => 0))), ((u952 87), .inl (cI, 6, .inl (fun _ => 0))), ((u952 88), .inl (cI, 32, .inl (fun _ => 0))), ((u952 90), .inl (cI, 200, .inl (fun _ => 0))), ((u952 91), .inl (cI, 24, .inl (fun _ => 0))), ((u952 93), .inl (cI, 10, .inl (fun _ => 0))), ((u952 95), .inl (cI, 120, .inl (fun _ => 0))), dn (u952 100) (u952 104) (u952 105) (u952 106) (u952 107) (u952 108) (u952 110) (u952 111) (u952 113) (u952 115), ((u952 104), .inl (cI, 24, .inl (fun _ => 0))), ((u952 105), .inl (cI, 2, .inl (fun _ => 0))), ((u952 106), .inl (cI, 2, .inl (fun _ => 0))), ((u952 107), .inl (cI, 6, .inl (fun _ => 0))), ((u952 108), .inl (cI, 32, .inl (fun _ => 0))), ((u952 110), .inl (cI, 200, .inl (fun _ => 0))), ((u952 111), .inl (cI, 24, .inl (fun _ => 0))), ((u952 113), .inl (cI, 10, .inl (fun _ => 0))), ((u952 115), .inl (cI, 120, .inl (fun _ => 0))), ((u952 5), .inl (cI, 3, .inl (fun _ => 0))), ((u952 15), .inr (7, [.ref (u952 17), .ref (u952 18), .ref (u952 19)])), ((u952 17), .inl (cI, 4, .inl (fun _ => 0))), ((u952 18), .inl (cI, 4, .inl (szf))), ((u952 19), .inl (cJ, 240, .inr (.inl (fun _ => 0))))] := hD
  refine W.widen (k := 85) (n := 6971) (Nat.le_of_ble_eq_true rfl) (Nat.le_of_ble_eq_true rfl) ?_
  refine lv_astore_n (lv' := [(1, .ref q951), (0, .ref b)]) hx hb dL_law_7 rfl hl (by decide) rfl (fun ls hl => ?_)
  refine va_new (ci := 12) (fs := [.int 0, .null, .null, .null, .null, .null, .int 0, .int 0, .int 0, .int 0, .int 0, .long 0, .int 0, .int 0, .int 0, .int 0, .null, .null, .null, .null, .null, .null, .null, .null, .null, .null, .null, .null, .null, .int 0, .int 0, .null, .int 0, .int 0, .long 0, .int 0, .null, .int 0, .int 0, .null, .int 0, .int 0, .int 0, .int 0, .long 0]) (C := RX12) (T := TX12) (N := 45) hx hb hts hi12 tyX12 tyX12_ok hown (hts (.classLink RL 10 RX12) (by decide +kernel)) (hts (.instantiable RX12 45) (by decide +kernel)) (hts (.initialized RX12) (by decide +kernel)) hK hP hD hS hA rfl ct_df12 (Nat.le_of_ble_eq_true rfl) (Nat.le_of_ble_eq_true rfl) dL_law_8 (fun q953 H hP hD hS => ?_)
  have hP : va_P D vwCl [oo q951 u952 (u952 2) (u952 3), ((u952 0), .inr (5, [.ref (u952 1), .int 0, .int 0, .int (-1)])), ((u952 1), .inr (8, [.ref (u952 16), .int 0, .int 0, .int 0, .int 0, .int 0])), ((u952 16), .inl (cB, 1200, .inl (fun _ => 0))), dn (u952 2) (u952 24) (u952 25) (u952 26) (u952 27) (u952 28) (u952 30) (u952 31) (u952 33) (u952 35), ((u952 24), .inl (cI, 24, .inl (fun _ => 0))), ((u952 25), .inl (cI, 2, .inl (fun _ => 0))), ((u952 26), .inl (cI, 2, .inl (fun _ => 0))), ((u952 27), .inl (cI, 6, .inl (fun _ => 0))), ((u952 28), .inl (cI, 32, .inl (fun _ => 0))), ((u952 30), .inl (cI, 200, .inl (fun _ => 0))), ((u952 31), .inl (cI, 24, .inl (fun _ => 0))), ((u952 33), .inl (cI, 10, .inl (fun _ => 0))), ((u952 35), .inl (cI, 120, .inl (fun _ => 0))), dn (u952 3) (u952 44) (u952 45) (u952 46) (u952 47) (u952 48) (u952 50) (u952 51) (u952 53) (u952 55), ((u952 45), .inl (cI, 2, .inl (fun _ => 0))), ((u952 46), .inl (cI, 2, .inl (fun _ => 0))), ((u952 47), .inl (cI, 6, .inl (fun _ => 0))), ((u952 50), .inl (cI, 200, .inl (fun _ => 0))), ((u952 4), .inl (cO, 3, .inr (.inr (.inr (.inr (va_up (va_up (va_up (fun _ => none) 0 (some (u952 60))) 1 (some (u952 80))) 2 (some (u952 100)))))))), dn (u952 60) (u952 64) (u952 65) (u952 66) (u952 67) (u952 68) (u952 70) (u952 71) (u952 73) (u952 75), ((u952 64), .inl (cI, 24, .inl (fun _ => 0))), ((u952 65), .inl (cI, 2, .inl (fun _ => 0))), ((u952 66), .inl (cI, 2, .inl (fun _ => 0))), ((u952 67), .inl (cI, 6, .inl (fun _ => 0))), ((u952 68), .inl (cI, 32, .inl (fun _ => 0))), ((u952 70), .inl (cI, 200, .inl (fun _ => 0))), ((u952 71), .inl (cI, 24, .inl (fun _ => 0))), ((u952 73), .inl (cI, 10, .inl (fun _ => 0))), ((u952 75), .inl (cI, 120, .inl (fun _ => 0))), dn (u952 80) (u952 84) (u952 85) (u952 86) (u952 87) (u952 88) (u952 90) (u952 91) (u952 93) (u952 95), ((u952 84), .inl (cI, 24, .inl (fun _ => 0))), ((u952 85), .inl (cI, 2, .inl (fun _ => 0))), ((u952 86), .inl (cI, 2, .inl (fun _ => 0))), ((u952 87), .inl (cI, 6, .inl (fun _ => 0))), ((u952 88), .inl (cI, 32, .inl (fun _ => 0))), ((u952 90), .inl (cI, 200, .inl (fun _ => 0))), ((u952 91), .inl (cI, 24, .inl (fun _ => 0))), ((u952 93), .inl (cI, 10, .inl (fun _ => 0))), ((u952 95), .inl (cI, 120, .inl (fun _ => 0))), dn (u952 100) (u952 104) (u952 105) (u952 106) (u952 107) (u952 108) (u952 110) (u952 111) (u952 113) (u952 115), ((u952 104), .inl (cI, 24, .inl (fun _ => 0))), ((u952 105), .inl (cI, 2, .inl (fun _ => 0))), ((u952 106), .inl (cI, 2, .inl (fun _ => 0))), ((u952 107), .inl (cI, 6, .inl (fun _ => 0))), ((u952 108), .inl (cI, 32, .inl (fun _ => 0))), ((u952 110), .inl (cI, 200, .inl (fun _ => 0))), ((u952 111), .inl (cI, 24, .inl (fun _ => 0))), ((u952 113), .inl (cI, 10, .inl (fun _ => 0))), ((u952 115), .inl (cI, 120, .inl (fun _ => 0))), ((u952 5), .inl (cI, 3, .inl (fun _ => 0))), ((u952 15), .inr (7, [.ref (u952 17), .ref (u952 18), .ref (u952 19)])), ((u952 17), .inl (cI, 4, .inl (fun _ => 0))), ((u952 18), .inl (cI, 4, .inl (szf))), ((u952 19), .inl (cJ, 240, .inr (.inl (fun _ => 0)))), (q953, .inr (12, [.int 0, .null, .null, .null, .null, .null, .int 0, .int 0, .int 0, .int 0, .int 0, .long 0, .int 0, .int 0, .int 0, .int 0, .null, .null, .null, .null, .null, .null, .null, .null, .null, .null, .null, .null, .null, .int 0, .int 0, .null, .int 0, .int 0, .long 0, .int 0, .null, .int 0, .int 0, .null, .int 0, .int 0, .int 0, .int 0, .long 0]))] H := hP
  have hD : va_D A [oo q951 u952 (u952 2) (u952 3), ((u952 0), .inr (5, [.ref (u952 1), .int 0, .int 0, .int (-1)])), ((u952 1), .inr (8, [.ref (u952 16), .int 0, .int 0, .int 0, .int 0, .int 0])), ((u952 16), .inl (cB, 1200, .inl (fun _ => 0))), dn (u952 2) (u952 24) (u952 25) (u952 26) (u952 27) (u952 28) (u952 30) (u952 31) (u952 33) (u952 35), ((u952 24), .inl (cI, 24, .inl (fun _ => 0))), ((u952 25), .inl (cI, 2, .inl (fun _ => 0))), ((u952 26), .inl (cI, 2, .inl (fun _ => 0))), ((u952 27), .inl (cI, 6, .inl (fun _ => 0))), ((u952 28), .inl (cI, 32, .inl (fun _ => 0))), ((u952 30), .inl (cI, 200, .inl (fun _ => 0))), ((u952 31), .inl (cI, 24, .inl (fun _ => 0))), ((u952 33), .inl (cI, 10, .inl (fun _ => 0))), ((u952 35), .inl (cI, 120, .inl (fun _ => 0))), dn (u952 3) (u952 44) (u952 45) (u952 46) (u952 47) (u952 48) (u952 50) (u952 51) (u952 53) (u952 55), ((u952 45), .inl (cI, 2, .inl (fun _ => 0))), ((u952 46), .inl (cI, 2, .inl (fun _ => 0))), ((u952 47), .inl (cI, 6, .inl (fun _ => 0))), ((u952 50), .inl (cI, 200, .inl (fun _ => 0))), ((u952 4), .inl (cO, 3, .inr (.inr (.inr (.inr (va_up (va_up (va_up (fun _ => none) 0 (some (u952 60))) 1 (some (u952 80))) 2 (some (u952 100)))))))), dn (u952 60) (u952 64) (u952 65) (u952 66) (u952 67) (u952 68) (u952 70) (u952 71) (u952 73) (u952 75), ((u952 64), .inl (cI, 24, .inl (fun _ => 0))), ((u952 65), .inl (cI, 2, .inl (fun _ => 0))), ((u952 66), .inl (cI, 2, .inl (fun _ => 0))), ((u952 67), .inl (cI, 6, .inl (fun _ => 0))), ((u952 68), .inl (cI, 32, .inl (fun _ => 0))), ((u952 70), .inl (cI, 200, .inl (fun _ => 0))), ((u952 71), .inl (cI, 24, .inl (fun _ => 0))), ((u952 73), .inl (cI, 10, .inl (fun _ => 0))), ((u952 75), .inl (cI, 120, .inl (fun _ => 0))), dn (u952 80) (u952 84) (u952 85) (u952 86) (u952 87) (u952 88) (u952 90) (u952 91) (u952 93) (u952 95), ((u952 84), .inl (cI, 24, .inl (fun _ => 0))), ((u952 85), .inl (cI, 2, .inl (fun _ => 0))), ((u952 86), .inl (cI, 2, .inl (fun _ => 0))), ((u952 87), .inl (cI, 6, .inl (fun _ => 0))), ((u952 88), .inl (cI, 32, .inl (fun _ => 0))), ((u952 90), .inl (cI, 200, .inl (fun _ => 0))), ((u952 91), .inl (cI, 24, .inl (fun _ => 0))), ((u952 93), .inl (cI, 10, .inl (fun _ => 0))), ((u952 95), .inl (cI, 120, .inl (fun _ => 0))), dn (u952 100) (u952 104) (u952 105) (u952 106) (u952 107) (u952 108) (u952 110) (u952 111) (u952 113) (u952 115), ((u952 104), .inl (cI, 24, .inl (fun _ => 0))), ((u952 105), .inl (cI, 2, .inl (fun _ => 0))), ((u952 106), .inl (cI, 2, .inl (fun _ => 0))), ((u952 107), .inl (cI, 6, .inl (fun _ => 0))), ((u952 108), .inl (cI, 32, .inl (fun _ => 0))), ((u952 110), .inl (cI, 200, .inl (fun _ => 0))), ((u952 111), .inl (cI, 24, .inl (fun _ => 0))), ((u952 113), .inl (cI, 10, .inl (fun _ => 0))), ((u952 115), .inl (cI, 120, .inl (fun _ => 0))), ((u952 5), .inl (cI, 3, .inl (fun _ => 0))), ((u952 15), .inr (7, [.ref (u952 17), .ref (u952 18), .ref (u952 19)])), ((u952 17), .inl (cI, 4, .inl (fun _ => 0))), ((u952 18), .inl (cI, 4, .inl (szf))), ((u952 19), .inl (cJ, 240, .inr (.inl (fun _ => 0)))), (q953, .inr (12, [.int 0, .null, .null, .null, .null, .null, .int 0, .int 0, .int 0, .int 0, .int 0, .long 0, .int 0, .int 0, .int 0, .int 0, .null, .null, .null, .null, .null, .null, .null, .null, .null, .null, .null, .null, .null, .int 0, .int 0, .null, .int 0, .int 0, .long 0, .int 0, .null, .int 0, .int 0, .null, .int 0, .int 0, .int 0, .int 0, .long 0]))] := hD
  refine W.widen (k := 86) (n := 7016) (Nat.le_of_ble_eq_true rfl) (Nat.le_of_ble_eq_true rfl) ?_
  refine lv_dup hx hb dL_law_11 rfl ?_
  refine ct_callv (D := D) (wc := (w_c_X12_init cI cJ cB cZ cO q953)) (wr := [oo q951 u952 (u952 2) (u952 3), ((u952 0), .inr (5, [.ref (u952 1), .int 0, .int 0, .int (-1)])), ((u952 1), .inr (8, [.ref (u952 16), .int 0, .int 0, .int 0, .int 0, .int 0])), ((u952 16), .inl (cB, 1200, .inl (fun _ => 0))), dn (u952 2) (u952 24) (u952 25) (u952 26) (u952 27) (u952 28) (u952 30) (u952 31) (u952 33) (u952 35), ((u952 24), .inl (cI, 24, .inl (fun _ => 0))), ((u952 25), .inl (cI, 2, .inl (fun _ => 0))), ((u952 26), .inl (cI, 2, .inl (fun _ => 0))), ((u952 27), .inl (cI, 6, .inl (fun _ => 0))), ((u952 28), .inl (cI, 32, .inl (fun _ => 0))), ((u952 30), .inl (cI, 200, .inl (fun _ => 0))), ((u952 31), .inl (cI, 24, .inl (fun _ => 0))), ((u952 33), .inl (cI, 10, .inl (fun _ => 0))), ((u952 35), .inl (cI, 120, .inl (fun _ => 0))), dn (u952 3) (u952 44) (u952 45) (u952 46) (u952 47) (u952 48) (u952 50) (u952 51) (u952 53) (u952 55), ((u952 45), .inl (cI, 2, .inl (fun _ => 0))), ((u952 46), .inl (cI, 2, .inl (fun _ => 0))), ((u952 47), .inl (cI, 6, .inl (fun _ => 0))), ((u952 50), .inl (cI, 200, .inl (fun _ => 0))), ((u952 4), .inl (cO, 3, .inr (.inr (.inr (.inr (va_up (va_up (va_up (fun _ => none) 0 (some (u952 60))) 1 (some (u952 80))) 2 (some (u952 100)))))))), dn (u952 60) (u952 64) (u952 65) (u952 66) (u952 67) (u952 68) (u952 70) (u952 71) (u952 73) (u952 75), ((u952 64), .inl (cI, 24, .inl (fun _ => 0))), ((u952 65), .inl (cI, 2, .inl (fun _ => 0))), ((u952 66), .inl (cI, 2, .inl (fun _ => 0))), ((u952 67), .inl (cI, 6, .inl (fun _ => 0))), ((u952 68), .inl (cI, 32, .inl (fun _ => 0))), ((u952 70), .inl (cI, 200, .inl (fun _ => 0))), ((u952 71), .inl (cI, 24, .inl (fun _ => 0))), ((u952 73), .inl (cI, 10, .inl (fun _ => 0))), ((u952 75), .inl (cI, 120, .inl (fun _ => 0))), dn (u952 80) (u952 84) (u952 85) (u952 86) (u952 87) (u952 88) (u952 90) (u952 91) (u952 93) (u952 95), ((u952 84), .inl (cI, 24, .inl (fun _ => 0))), ((u952 85), .inl (cI, 2, .inl (fun _ => 0))), ((u952 86), .inl (cI, 2, .inl (fun _ => 0))), ((u952 87), .inl (cI, 6, .inl (fun _ => 0))), ((u952 88), .inl (cI, 32, .inl (fun _ => 0))), ((u952 90), .inl (cI, 200, .inl (fun _ => 0))), ((u952 91), .inl (cI, 24, .inl (fun _ => 0))), ((u952 93), .inl (cI, 10, .inl (fun _ => 0))), ((u952 95), .inl (cI, 120, .inl (fun _ => 0))), dn (u952 100) (u952 104) (u952 105) (u952 106) (u952 107) (u952 108) (u952 110) (u952 111) (u952 113) (u952 115), ((u952 104), .inl (cI, 24, .inl (fun _ => 0))), ((u952 105), .inl (cI, 2, .inl (fun _ => 0))), ((u952 106), .inl (cI, 2, .inl (fun _ => 0))), ((u952 107), .inl (cI, 6, .inl (fun _ => 0))), ((u952 108), .inl (cI, 32, .inl (fun _ => 0))), ((u952 110), .inl (cI, 200, .inl (fun _ => 0))), ((u952 111), .inl (cI, 24, .inl (fun _ => 0))), ((u952 113), .inl (cI, 10, .inl (fun _ => 0))), ((u952 115), .inl (cI, 120, .inl (fun _ => 0))), ((u952 5), .inl (cI, 3, .inl (fun _ => 0))), ((u952 15), .inr (7, [.ref (u952 17), .ref (u952 18), .ref (u952 19)])), ((u952 17), .inl (cI, 4, .inl (fun _ => 0))), ((u952 18), .inl (cI, 4, .inl (szf))), ((u952 19), .inl (cJ, 240, .inr (.inl (fun _ => 0))))]) (va_runI (As := []) (rest := [.ref q953]) ⟨hx, hb, hml, hown, hts⟩ (c_X12_init l D cI cJ cB cZ cO q953 H.size) (cwI 0 hts gL_law_X12_init rfl rfl rfl (hts (.initialized RX12) (by decide +kernel)) (hts (.methodLink RL 12 yX12_init) (by decide +kernel)) (hts (.instanceMethod yX12_init) (by decide +kernel)) rfl (by decide +kernel) ⟨Nat.le_of_ble_eq_true rfl, Nat.le_of_ble_eq_true rfl⟩) (ct_preS (T := ct_T cI cJ cB cZ cO) hE hP hD [55] (by decide) rfl) rfl rfl hl.1 rfl (lv_room (Nat.le_of_ble_eq_true rfl)) dL_law_12 ⟨Nat.le_of_ble_eq_true rfl, Nat.le_of_ble_eq_true rfl⟩) hP hD hS hA [55] [0, 1, 2, 3, 4, 5, 6, 7, 8, 9, 10, 11, 12, 13, 14, 15, 16, 17, 18, 19, 20, 21, 22, 23, 24, 25, 26, 27, 28, 29, 30, 31, 32, 33, 34, 35, 36, 37, 38, 39, 40, 41, 42, 43, 44, 45, 46, 47, 48, 49, 50, 51, 52, 53, 54] rfl rfl (by decide) (by decide) (fun u H locs hw hP hD hS => ?_)
  obtain ⟨u954, rfl⟩ : ∃ z, z = u := ⟨_, rfl⟩
  have hP : va_P D vwCl [oo q951 u952 (u952 2) (u952 3), ((u952 0), .inr (5, [.ref (u952 1), .int 0, .int 0, .int (-1)])), ((u952 1), .inr (8, [.ref (u952 16), .int 0, .int 0, .int 0, .int 0, .int 0])), ((u952 16), .inl (cB, 1200, .inl (fun _ => 0))), dn (u952 2) (u952 24) (u952 25) (u952 26) (u952 27) (u952 28) (u952 30) (u952 31) (u952 33) (u952 35), ((u952 24), .inl (cI, 24, .inl (fun _ => 0))), ((u952 25), .inl (cI, 2, .inl (fun _ => 0))), ((u952 26), .inl (cI, 2, .inl (fun _ => 0))), ((u952 27), .inl (cI, 6, .inl (fun _ => 0))), ((u952 28), .inl (cI, 32, .inl (fun _ => 0))), ((u952 30), .inl (cI, 200, .inl (fun _ => 0))), ((u952 31), .inl (cI, 24, .inl (fun _ => 0))), ((u952 33), .inl (cI, 10, .inl (fun _ => 0))), ((u952 35), .inl (cI, 120, .inl (fun _ => 0))), dn (u952 3) (u952 44) (u952 45) (u952 46) (u952 47) (u952 48) (u952 50) (u952 51) (u952 53) (u952 55), ((u952 45), .inl (cI, 2, .inl (fun _ => 0))), ((u952 46), .inl (cI, 2, .inl (fun _ => 0))), ((u952 47), .inl (cI, 6, .inl (fun _ => 0))), ((u952 50), .inl (cI, 200, .inl (fun _ => 0))), ((u952 4), .inl (cO, 3, .inr (.inr (.inr (.inr (va_up (va_up (va_up (fun _ => none) 0 (some (u952 60))) 1 (some (u952 80))) 2 (some (u952 100)))))))), dn (u952 60) (u952 64) (u952 65) (u952 66) (u952 67) (u952 68) (u952 70) (u952 71) (u952 73) (u952 75), ((u952 64), .inl (cI, 24, .inl (fun _ => 0))), ((u952 65), .inl (cI, 2, .inl (fun _ => 0))), ((u952 66), .inl (cI, 2, .inl (fun _ => 0))), ((u952 67), .inl (cI, 6, .inl (fun _ => 0))), ((u952 68), .inl (cI, 32, .inl (fun _ => 0))), ((u952 70), .inl (cI, 200, .inl (fun _ => 0))), ((u952 71), .inl (cI, 24, .inl (fun _ => 0))), ((u952 73), .inl (cI, 10, .inl (fun _ => 0))), ((u952 75), .inl (cI, 120, .inl (fun _ => 0))), dn (u952 80) (u952 84) (u952 85) (u952 86) (u952 87) (u952 88) (u952 90) (u952 91) (u952 93) (u952 95), ((u952 84), .inl (cI, 24, .inl (fun _ => 0))), ((u952 85), .inl (cI, 2, .inl (fun _ => 0))), ((u952 86), .inl (cI, 2, .inl (fun _ => 0))), ((u952 87), .inl (cI, 6, .inl (fun _ => 0))), ((u952 88), .inl (cI, 32, .inl (fun _ => 0))), ((u952 90), .inl (cI, 200, .inl (fun _ => 0))), ((u952 91), .inl (cI, 24, .inl (fun _ => 0))), ((u952 93), .inl (cI, 10, .inl (fun _ => 0))), ((u952 95), .inl (cI, 120, .inl (fun _ => 0))), dn (u952 100) (u952 104) (u952 105) (u952 106) (u952 107) (u952 108) (u952 110) (u952 111) (u952 113) (u952 115), ((u952 104), .inl (cI, 24, .inl (fun _ => 0))), ((u952 105), .inl (cI, 2, .inl (fun _ => 0))), ((u952 106), .inl (cI, 2, .inl (fun _ => 0))), ((u952 107), .inl (cI, 6, .inl (fun _ => 0))), ((u952 108), .inl (cI, 32, .inl (fun _ => 0))), ((u952 110), .inl (cI, 200, .inl (fun _ => 0))), ((u952 111), .inl (cI, 24, .inl (fun _ => 0))), ((u952 113), .inl (cI, 10, .inl (fun _ => 0))), ((u952 115), .inl (cI, 120, .inl (fun _ => 0))), ((u952 5), .inl (cI, 3, .inl (fun _ => 0))), ((u952 15), .inr (7, [.ref (u952 17), .ref (u952 18), .ref (u952 19)])), ((u952 17), .inl (cI, 4, .inl (fun _ => 0))), ((u952 18), .inl (cI, 4, .inl (szf))), ((u952 19), .inl (cJ, 240, .inr (.inl (fun _ => 0)))), mo q953 u954 0 0, ((u954 1), .inl (cI, 4, .inl (szf))), ((u954 2), .inl (cI, 4, .inl (fun _ => 0))), ((u954 3), .inl (cJ, 240, .inr (.inl (fun _ => 0)))), ((u954 5), .inl (cB, 1200, .inl (fun _ => 0))), ((u954 25), .inl (cZ, 3, .inl (fun _ => 0))), ((u954 16), .inl (cI, 5, .inl (fun _ => 0))), ((u954 17), .inl (cI, 55, .inl (fun _ => 0))), ((u954 18), .inl (cI, 120, .inl (fun _ => 0))), ((u954 19), .inl (cI, 30, .inl (fun _ => 0))), ((u954 20), .inl (cI, 160, .inl (fun _ => 0))), ((u954 21), .inl (cZ, 1000, .inl (fun _ => 0))), ((u954 22), .inl (cI, 120, .inl (fun _ => 0))), ((u954 23), .inl (cI, 50, .inl (fun _ => 0))), ((u954 24), .inl (cI, 800, .inl (fun _ => 0)))] H := hP
  have hD : va_D A [oo q951 u952 (u952 2) (u952 3), ((u952 0), .inr (5, [.ref (u952 1), .int 0, .int 0, .int (-1)])), ((u952 1), .inr (8, [.ref (u952 16), .int 0, .int 0, .int 0, .int 0, .int 0])), ((u952 16), .inl (cB, 1200, .inl (fun _ => 0))), dn (u952 2) (u952 24) (u952 25) (u952 26) (u952 27) (u952 28) (u952 30) (u952 31) (u952 33) (u952 35), ((u952 24), .inl (cI, 24, .inl (fun _ => 0))), ((u952 25), .inl (cI, 2, .inl (fun _ => 0))), ((u952 26), .inl (cI, 2, .inl (fun _ => 0))), ((u952 27), .inl (cI, 6, .inl (fun _ => 0))), ((u952 28), .inl (cI, 32, .inl (fun _ => 0))), ((u952 30), .inl (cI, 200, .inl (fun _ => 0))), ((u952 31), .inl (cI, 24, .inl (fun _ => 0))), ((u952 33), .inl (cI, 10, .inl (fun _ => 0))), ((u952 35), .inl (cI, 120, .inl (fun _ => 0))), dn (u952 3) (u952 44) (u952 45) (u952 46) (u952 47) (u952 48) (u952 50) (u952 51) (u952 53) (u952 55), ((u952 45), .inl (cI, 2, .inl (fun _ => 0))), ((u952 46), .inl (cI, 2, .inl (fun _ => 0))), ((u952 47), .inl (cI, 6, .inl (fun _ => 0))), ((u952 50), .inl (cI, 200, .inl (fun _ => 0))), ((u952 4), .inl (cO, 3, .inr (.inr (.inr (.inr (va_up (va_up (va_up (fun _ => none) 0 (some (u952 60))) 1 (some (u952 80))) 2 (some (u952 100)))))))), dn (u952 60) (u952 64) (u952 65) (u952 66) (u952 67) (u952 68) (u952 70) (u952 71) (u952 73) (u952 75), ((u952 64), .inl (cI, 24, .inl (fun _ => 0))), ((u952 65), .inl (cI, 2, .inl (fun _ => 0))), ((u952 66), .inl (cI, 2, .inl (fun _ => 0))), ((u952 67), .inl (cI, 6, .inl (fun _ => 0))), ((u952 68), .inl (cI, 32, .inl (fun _ => 0))), ((u952 70), .inl (cI, 200, .inl (fun _ => 0))), ((u952 71), .inl (cI, 24, .inl (fun _ => 0))), ((u952 73), .inl (cI, 10, .inl (fun _ => 0))), ((u952 75), .inl (cI, 120, .inl (fun _ => 0))), dn (u952 80) (u952 84) (u952 85) (u952 86) (u952 87) (u952 88) (u952 90) (u952 91) (u952 93) (u952 95), ((u952 84), .inl (cI, 24, .inl (fun _ => 0))), ((u952 85), .inl (cI, 2, .inl (fun _ => 0))), ((u952 86), .inl (cI, 2, .inl (fun _ => 0))), ((u952 87), .inl (cI, 6, .inl (fun _ => 0))), ((u952 88), .inl (cI, 32, .inl (fun _ => 0))), ((u952 90), .inl (cI, 200, .inl (fun _ => 0))), ((u952 91), .inl (cI, 24, .inl (fun _ => 0))), ((u952 93), .inl (cI, 10, .inl (fun _ => 0))), ((u952 95), .inl (cI, 120, .inl (fun _ => 0))), dn (u952 100) (u952 104) (u952 105) (u952 106) (u952 107) (u952 108) (u952 110) (u952 111) (u952 113) (u952 115), ((u952 104), .inl (cI, 24, .inl (fun _ => 0))), ((u952 105), .inl (cI, 2, .inl (fun _ => 0))), ((u952 106), .inl (cI, 2, .inl (fun _ => 0))), ((u952 107), .inl (cI, 6, .inl (fun _ => 0))), ((u952 108), .inl (cI, 32, .inl (fun _ => 0))), ((u952 110), .inl (cI, 200, .inl (fun _ => 0))), ((u952 111), .inl (cI, 24, .inl (fun _ => 0))), ((u952 113), .inl (cI, 10, .inl (fun _ => 0))), ((u952 115), .inl (cI, 120, .inl (fun _ => 0))), ((u952 5), .inl (cI, 3, .inl (fun _ => 0))), ((u952 15), .inr (7, [.ref (u952 17), .ref (u952 18), .ref (u952 19)])), ((u952 17), .inl (cI, 4, .inl (fun _ => 0))), ((u952 18), .inl (cI, 4, .inl (szf))), ((u952 19), .inl (cJ, 240, .inr (.inl (fun _ => 0)))), mo q953 u954 0 0, ((u954 1), .inl (cI, 4, .inl (szf))), ((u954 2), .inl (cI, 4, .inl (fun _ => 0))), ((u954 3), .inl (cJ, 240, .inr (.inl (fun _ => 0)))), ((u954 5), .inl (cB, 1200, .inl (fun _ => 0))), ((u954 25), .inl (cZ, 3, .inl (fun _ => 0))), ((u954 16), .inl (cI, 5, .inl (fun _ => 0))), ((u954 17), .inl (cI, 55, .inl (fun _ => 0))), ((u954 18), .inl (cI, 120, .inl (fun _ => 0))), ((u954 19), .inl (cI, 30, .inl (fun _ => 0))), ((u954 20), .inl (cI, 160, .inl (fun _ => 0))), ((u954 21), .inl (cZ, 1000, .inl (fun _ => 0))), ((u954 22), .inl (cI, 120, .inl (fun _ => 0))), ((u954 23), .inl (cI, 50, .inl (fun _ => 0))), ((u954 24), .inl (cI, 800, .inl (fun _ => 0)))] := hD
  refine W.widen (k := 107) (n := 36842) (Nat.le_of_ble_eq_true rfl) (Nat.le_of_ble_eq_true rfl) ?_
  refine lv_astore_n (lv' := [(2, .ref q953), (1, .ref q951), (0, .ref b)]) hx hb dL_law_15 rfl hl (by decide) rfl (fun ls hl => ?_)
  refine lv_iconst (v := 0) hx hb dL_law_16 (by decide) ?_
  refine lv_istore_n (lv' := [(3, .int 0), (2, .ref q953), (1, .ref q951), (0, .ref b)]) hx hb dL_law_17 rfl hl (by decide) rfl (fun ls hl => ?_)
  have hl : lv_has ls 4 [(3, .int 0), (2, .ref q953), (1, .ref q951), (0, .ref b)] := hl
  refine W.widen (k := 107) (n := 36842) (Nat.le_of_ble_eq_true rfl) (Nat.le_of_ble_eq_true rfl) ?_
  rcases Nat.lt_or_ge L 6 with hL6 | hL6
  · refine lv_iload_n hx hb dL_law_18 rfl (lv_at hl 0 rfl) ?_
    refine lv_aload_n hx hb dL_law_19 rfl (lv_at hl 3 rfl) ?_
    refine va_slen hx hb hX hbl hbA hS dL_law_20 ?_
    refine W.eq (g2 := F0 m 21 ls [.int (nI L), .int 0]) rfl ?_
    refine lv_bipush (v := 6) hx hb dL_law_21 (by decide) ?_
    refine lv_isub hx hb dL_law_23 ?_
    refine lv_topi (fun z955 ez955 => ?_)
    have fz955 : z955.toInt = ((L : Int) - 6) := by rw [ez955]; exact tq_subt (nI_toInt (by omega)) (by decide) (by omega)
    refine lv_icmp_gt (tgt := 2173) hx hb dL_law_24 (by decide) (fun hc => ?_) (fun hc => ?_)
    · have hq956 : ((L : Int) - 6) < 0 := tq_lt fz955 (by decide) hc
      refine lv_iconst (v := 1) hx hb dL_law_2173 (by decide) ?_
      refine va_forget (fun q hq => hAf _ (hS.2.2 q hq)) ?_
      refine W.widen (k := 600000) (n := 7302250) (Nat.le_of_ble_eq_true rfl) (Nat.le_of_ble_eq_true rfl) ?_
      exact lw_ret hx hb hr hlocks dL_law_2174
    · have hq956 : 0 ≤ ((L : Int) - 6) := tq_nlt fz955 (by decide) hc
      exfalso
      omega
  · obtain rfl : L = 6 := by omega
    refine lv_iload_n hx hb dL_law_18 rfl (lv_at hl 0 rfl) ?_
    refine lv_aload_n hx hb dL_law_19 rfl (lv_at hl 3 rfl) ?_
    refine va_slen hx hb hX hbl hbA hS dL_law_20 ?_
    refine lv_topi (fun z957 ez957 => ?_)
    obtain rfl : z957 = 6 := ez957.trans (by decide)
    refine lv_bipush (v := 6) hx hb dL_law_21 (by decide) ?_
    refine lv_isub hx hb dL_law_23 ?_
    refine lv_topi (fun z958 ez958 => ?_)
    obtain rfl : z958 = 0 := ez958.trans (by decide)
    refine lv_icmp_gt (tgt := 2173) hx hb dL_law_24 (by decide) (fun hc => absurd hc (by decide)) (fun _ => ?_)
    refine lv_aload_n hx hb dL_law_27 rfl (lv_at hl 3 rfl) ?_
    refine lv_iload_n hx hb dL_law_28 rfl (lv_at hl 0 rfl) ?_
    refine va_sld hx hb hX hbl hbA hS (tq_in (a := 0) (by decide) (by omega)) dL_law_29 ?_
    refine lv_bipush (v := 63) hx hb dL_law_30 (by decide) ?_
    refine lv_iand hx hb dL_law_32 ?_
    refine lv_topi (fun z959 ez959 => ?_)
    obtain ⟨j, hj, ej⟩ := pk_andE (xs (0 : Int32).toNatClampNeg) (m := 63) 6 (by decide)
    have hz : z959.toInt = (j : Int) := by rw [ez959, ej]; exact nI_toInt (by omega)
    clear ej
    match j, hj, hz with
    | 0, _, hz =>
      refine lv_tableIn (tgt := 296) (off := 263) hx hb dL_law_33 (by rw [hz]; decide) (by rw [hz]; decide) (by rw [hz]; decide) (by decide) ?_
      exact law_c0 hx hb hml hr hlocks hX hbl hbA hA hAf D cI cJ cB cZ cO q951 q953 u952 u954 hown hts hE hP hD hS hl
    | 1, _, hz =>
      refine lv_tableIn (tgt := 359) (off := 326) hx hb dL_law_33 (by rw [hz]; decide) (by rw [hz]; decide) (by rw [hz]; decide) (by decide) ?_
      exact law_c1 hx hb hml hr hlocks hX hbl hbA hA hAf D cI cJ cB cZ cO q951 q953 u952 u954 hown hts hE hP hD hS hl
    | 2, _, hz =>
      refine lv_tableIn (tgt := 382) (off := 349) hx hb dL_law_33 (by rw [hz]; decide) (by rw [hz]; decide) (by rw [hz]; decide) (by decide) ?_
      exact law_c2 hx hb hml hr hlocks hX hbl hbA hA hAf D cI cJ cB cZ cO q951 q953 u952 u954 hown hts hE hP hD hS hl
    | 3, _, hz =>
      refine lv_tableIn (tgt := 395) (off := 362) hx hb dL_law_33 (by rw [hz]; decide) (by rw [hz]; decide) (by rw [hz]; decide) (by decide) ?_
      exact law_c3 hx hb hml hr hlocks hX hbl hbA hA hAf D cI cJ cB cZ cO q951 q953 u952 u954 hown hts hE hP hD hS hl
    | 4, _, hz =>
      refine lv_tableIn (tgt := 418) (off := 385) hx hb dL_law_33 (by rw [hz]; decide) (by rw [hz]; decide) (by rw [hz]; decide) (by decide) ?_
      exact law_c4 hx hb hml hr hlocks hX hbl hbA hA hAf D cI cJ cB cZ cO q951 q953 u952 u954 hown hts hE hP hD hS hl
    | 5, _, hz =>
      refine lv_tableIn (tgt := 451) (off := 418) hx hb dL_law_33 (by rw [hz]; decide) (by rw [hz]; decide) (by rw [hz]; decide) (by decide) ?_
      exact law_c5 hx hb hml hr hlocks hX hbl hbA hA hAf D cI cJ cB cZ cO q951 q953 u952 u954 hown hts hE hP hD hS hl
    | 6, _, hz =>
      refine lv_tableIn (tgt := 474) (off := 441) hx hb dL_law_33 (by rw [hz]; decide) (by rw [hz]; decide) (by rw [hz]; decide) (by decide) ?_
      exact law_c6 hx hb hml hr hlocks hX hbl hbA hA hAf D cI cJ cB cZ cO q951 q953 u952 u954 hown hts hE hP hD hS hl
    | 7, _, hz =>
      refine lv_tableIn (tgt := 507) (off := 474) hx hb dL_law_33 (by rw [hz]; decide) (by rw [hz]; decide) (by rw [hz]; decide) (by decide) ?_
      exact law_c7 hx hb hml hr hlocks hX hbl hbA hA hAf D cI cJ cB cZ cO q951 q953 u952 u954 hown hts hE hP hD hS hl
    | 8, _, hz =>
      refine lv_tableIn (tgt := 530) (off := 497) hx hb dL_law_33 (by rw [hz]; decide) (by rw [hz]; decide) (by rw [hz]; decide) (by decide) ?_
      exact law_c8 hx hb hml hr hlocks hX hbl hbA hA hAf D cI cJ cB cZ cO q951 q953 u952 u954 hown hts hE hP hD hS hl
    | 9, _, hz =>
      refine lv_tableIn (tgt := 563) (off := 530) hx hb dL_law_33 (by rw [hz]; decide) (by rw [hz]; decide) (by rw [hz]; decide) (by decide) ?_
      exact law_c9 hx hb hml hr hlocks hX hbl hbA hA hAf D cI cJ cB cZ cO q951 q953 u952 u954 hown hts hE hP hD hS hl
    | 10, _, hz =>
      refine lv_tableIn (tgt := 596) (off := 563) hx hb dL_law_33 (by rw [hz]; decide) (by rw [hz]; decide) (by rw [hz]; decide) (by decide) ?_
      exact law_c10 hx hb hml hr hlocks hX hbl hbA hA hAf D cI cJ cB cZ cO q951 q953 u952 u954 hown hts hE hP hD hS hl
    | 11, _, hz =>
      refine lv_tableIn (tgt := 629) (off := 596) hx hb dL_law_33 (by rw [hz]; decide) (by rw [hz]; decide) (by rw [hz]; decide) (by decide) ?_
      exact law_c11 hx hb hml hr hlocks hX hbl hbA hA hAf D cI cJ cB cZ cO q951 q953 u952 u954 hown hts hE hP hD hS hl
    | 12, _, hz =>
      refine lv_tableIn (tgt := 662) (off := 629) hx hb dL_law_33 (by rw [hz]; decide) (by rw [hz]; decide) (by rw [hz]; decide) (by decide) ?_
      exact law_c12 hx hb hml hr hlocks hX hbl hbA hA hAf D cI cJ cB cZ cO q951 q953 u952 u954 hown hts hE hP hD hS hl
    | 13, _, hz =>
      refine lv_tableIn (tgt := 695) (off := 662) hx hb dL_law_33 (by rw [hz]; decide) (by rw [hz]; decide) (by rw [hz]; decide) (by decide) ?_
      exact law_c13 hx hb hml hr hlocks hX hbl hbA hA hAf D cI cJ cB cZ cO q951 q953 u952 u954 hown hts hE hP hD hS hl
    | 14, _, hz =>
      refine lv_tableIn (tgt := 728) (off := 695) hx hb dL_law_33 (by rw [hz]; decide) (by rw [hz]; decide) (by rw [hz]; decide) (by decide) ?_
      exact law_c14 hx hb hml hr hlocks hX hbl hbA hA hAf D cI cJ cB cZ cO q951 q953 u952 u954 hown hts hE hP hD hS hl
    | 15, _, hz =>
      refine lv_tableIn (tgt := 771) (off := 738) hx hb dL_law_33 (by rw [hz]; decide) (by rw [hz]; decide) (by rw [hz]; decide) (by decide) ?_
      exact law_c15 hx hb hml hr hlocks hX hbl hbA hA hAf D cI cJ cB cZ cO q951 q953 u952 u954 hown hts hE hP hD hS hl
    | 16, _, hz =>
      refine lv_tableIn (tgt := 804) (off := 771) hx hb dL_law_33 (by rw [hz]; decide) (by rw [hz]; decide) (by rw [hz]; decide) (by decide) ?_
      exact law_c16 hx hb hml hr hlocks hX hbl hbA hA hAf D cI cJ cB cZ cO q951 q953 u952 u954 hown hts hE hP hD hS hl
    | 17, _, hz =>
      refine lv_tableIn (tgt := 837) (off := 804) hx hb dL_law_33 (by rw [hz]; decide) (by rw [hz]; decide) (by rw [hz]; decide) (by decide) ?_
      exact law_c17 hx hb hml hr hlocks hX hbl hbA hA hAf D cI cJ cB cZ cO q951 q953 u952 u954 hown hts hE hP hD hS hl
    | 18, _, hz =>
      refine lv_tableIn (tgt := 860) (off := 827) hx hb dL_law_33 (by rw [hz]; decide) (by rw [hz]; decide) (by rw [hz]; decide) (by decide) ?_
      exact law_c18 hx hb hml hr hlocks hX hbl hbA hA hAf D cI cJ cB cZ cO q951 q953 u952 u954 hown hts hE hP hD hS hl
    | 19, _, hz =>
      refine lv_tableIn (tgt := 893) (off := 860) hx hb dL_law_33 (by rw [hz]; decide) (by rw [hz]; decide) (by rw [hz]; decide) (by decide) ?_
      exact law_c19 hx hb hml hr hlocks hX hbl hbA hA hAf D cI cJ cB cZ cO q951 q953 u952 u954 hown hts hE hP hD hS hl
    | 20, _, hz =>
      refine lv_tableIn (tgt := 906) (off := 873) hx hb dL_law_33 (by rw [hz]; decide) (by rw [hz]; decide) (by rw [hz]; decide) (by decide) ?_
      exact law_c20 hx hb hml hr hlocks hX hbl hbA hA hAf D cI cJ cB cZ cO q951 q953 u952 u954 hown hts hE hP hD hS hl
    | 21, _, hz =>
      refine lv_tableIn (tgt := 949) (off := 916) hx hb dL_law_33 (by rw [hz]; decide) (by rw [hz]; decide) (by rw [hz]; decide) (by decide) ?_
      exact law_c21 hx hb hml hr hlocks hX hbl hbA hA hAf D cI cJ cB cZ cO q951 q953 u952 u954 hown hts hE hP hD hS hl
    | 22, _, hz =>
      refine lv_tableIn (tgt := 972) (off := 939) hx hb dL_law_33 (by rw [hz]; decide) (by rw [hz]; decide) (by rw [hz]; decide) (by decide) ?_
      exact law_c22 hx hb hml hr hlocks hX hbl hbA hA hAf D cI cJ cB cZ cO q951 q953 u952 u954 hown hts hE hP hD hS hl
    | 23, _, hz =>
      refine lv_tableIn (tgt := 985) (off := 952) hx hb dL_law_33 (by rw [hz]; decide) (by rw [hz]; decide) (by rw [hz]; decide) (by decide) ?_
      exact law_c23 hx hb hml hr hlocks hX hbl hbA hA hAf D cI cJ cB cZ cO q951 q953 u952 u954 hown hts hE hP hD hS hl
    | 24, _, hz =>
      refine lv_tableIn (tgt := 998) (off := 965) hx hb dL_law_33 (by rw [hz]; decide) (by rw [hz]; decide) (by rw [hz]; decide) (by decide) ?_
      exact law_c24 hx hb hml hr hlocks hX hbl hbA hA hAf D cI cJ cB cZ cO q951 q953 u952 u954 hown hts hE hP hD hS hl
    | 25, _, hz =>
      refine lv_tableIn (tgt := 1021) (off := 988) hx hb dL_law_33 (by rw [hz]; decide) (by rw [hz]; decide) (by rw [hz]; decide) (by decide) ?_
      exact law_c25 hx hb hml hr hlocks hX hbl hbA hA hAf D cI cJ cB cZ cO q951 q953 u952 u954 hown hts hE hP hD hS hl
    | 26, _, hz =>
      refine lv_tableIn (tgt := 1054) (off := 1021) hx hb dL_law_33 (by rw [hz]; decide) (by rw [hz]; decide) (by rw [hz]; decide) (by decide) ?_
      exact law_c26 hx hb hml hr hlocks hX hbl hbA hA hAf D cI cJ cB cZ cO q951 q953 u952 u954 hown hts hE hP hD hS hl
    | 27, _, hz =>
      refine lv_tableIn (tgt := 1077) (off := 1044) hx hb dL_law_33 (by rw [hz]; decide) (by rw [hz]; decide) (by rw [hz]; decide) (by decide) ?_
      exact law_c27 hx hb hml hr hlocks hX hbl hbA hA hAf D cI cJ cB cZ cO q951 q953 u952 u954 hown hts hE hP hD hS hl
    | 28, _, hz =>
      refine lv_tableIn (tgt := 1110) (off := 1077) hx hb dL_law_33 (by rw [hz]; decide) (by rw [hz]; decide) (by rw [hz]; decide) (by decide) ?_
      exact law_c28 hx hb hml hr hlocks hX hbl hbA hA hAf D cI cJ cB cZ cO q951 q953 u952 u954 hown hts hE hP hD hS hl
    | 29, _, hz =>
      refine lv_tableIn (tgt := 1143) (off := 1110) hx hb dL_law_33 (by rw [hz]; decide) (by rw [hz]; decide) (by rw [hz]; decide) (by decide) ?_
      exact law_c29 hx hb hml hr hlocks hX hbl hbA hA hAf D cI cJ cB cZ cO q951 q953 u952 u954 hown hts hE hP hD hS hl
    | 30, _, hz =>
      refine lv_tableIn (tgt := 1177) (off := 1144) hx hb dL_law_33 (by rw [hz]; decide) (by rw [hz]; decide) (by rw [hz]; decide) (by decide) ?_
      exact law_c30 hx hb hml hr hlocks hX hbl hbA hA hAf D cI cJ cB cZ cO q951 q953 u952 u954 hown hts hE hP hD hS hl
    | 31, _, hz =>
      refine lv_tableIn (tgt := 1210) (off := 1177) hx hb dL_law_33 (by rw [hz]; decide) (by rw [hz]; decide) (by rw [hz]; decide) (by decide) ?_
      exact law_c31 hx hb hml hr hlocks hX hbl hbA hA hAf D cI cJ cB cZ cO q951 q953 u952 u954 hown hts hE hP hD hS hl
    | 32, _, hz =>
      refine lv_tableIn (tgt := 1243) (off := 1210) hx hb dL_law_33 (by rw [hz]; decide) (by rw [hz]; decide) (by rw [hz]; decide) (by decide) ?_
      exact law_c32 hx hb hml hr hlocks hX hbl hbA hA hAf D cI cJ cB cZ cO q951 q953 u952 u954 hown hts hE hP hD hS hl
    | 33, _, hz =>
      refine lv_tableIn (tgt := 1266) (off := 1233) hx hb dL_law_33 (by rw [hz]; decide) (by rw [hz]; decide) (by rw [hz]; decide) (by decide) ?_
      exact law_c33 hx hb hml hr hlocks hX hbl hbA hA hAf D cI cJ cB cZ cO q951 q953 u952 u954 hown hts hE hP hD hS hl
    | 34, _, hz =>
      refine lv_tableIn (tgt := 1289) (off := 1256) hx hb dL_law_33 (by rw [hz]; decide) (by rw [hz]; decide) (by rw [hz]; decide) (by decide) ?_
      exact law_c34 hx hb hml hr hlocks hX hbl hbA hA hAf D cI cJ cB cZ cO q951 q953 u952 u954 hown hts hE hP hD hS hl
    | 35, _, hz =>
      refine lv_tableIn (tgt := 1322) (off := 1289) hx hb dL_law_33 (by rw [hz]; decide) (by rw [hz]; decide) (by rw [hz]; decide) (by decide) ?_
      exact law_c35 hx hb hml hr hlocks hX hbl hbA hA hAf D cI cJ cB cZ cO q951 q953 u952 u954 hown hts hE hP hD hS hl
    | 36, _, hz =>
      refine lv_tableIn (tgt := 1355) (off := 1322) hx hb dL_law_33 (by rw [hz]; decide) (by rw [hz]; decide) (by rw [hz]; decide) (by decide) ?_
      exact law_c36 hx hb hml hr hlocks hX hbl hbA hA hAf D cI cJ cB cZ cO q951 q953 u952 u954 hown hts hE hP hD hS hl
    | 37, _, hz =>
      refine lv_tableIn (tgt := 1368) (off := 1335) hx hb dL_law_33 (by rw [hz]; decide) (by rw [hz]; decide) (by rw [hz]; decide) (by decide) ?_
      exact law_c37 hx hb hml hr hlocks hX hbl hbA hA hAf D cI cJ cB cZ cO q951 q953 u952 u954 hown hts hE hP hD hS hl
    | 38, _, hz =>
      refine lv_tableIn (tgt := 1391) (off := 1358) hx hb dL_law_33 (by rw [hz]; decide) (by rw [hz]; decide) (by rw [hz]; decide) (by decide) ?_
      exact law_c38 hx hb hml hr hlocks hX hbl hbA hA hAf D cI cJ cB cZ cO q951 q953 u952 u954 hown hts hE hP hD hS hl
    | 39, _, hz =>
      refine lv_tableIn (tgt := 1424) (off := 1391) hx hb dL_law_33 (by rw [hz]; decide) (by rw [hz]; decide) (by rw [hz]; decide) (by decide) ?_
      exact law_c39 hx hb hml hr hlocks hX hbl hbA hA hAf D cI cJ cB cZ cO q951 q953 u952 u954 hown hts hE hP hD hS hl
    | 40, _, hz =>
      refine lv_tableIn (tgt := 1447) (off := 1414) hx hb dL_law_33 (by rw [hz]; decide) (by rw [hz]; decide) (by rw [hz]; decide) (by decide) ?_
      exact law_c40 hx hb hml hr hlocks hX hbl hbA hA hAf D cI cJ cB cZ cO q951 q953 u952 u954 hown hts hE hP hD hS hl
    | 41, _, hz =>
      refine lv_tableIn (tgt := 1481) (off := 1448) hx hb dL_law_33 (by rw [hz]; decide) (by rw [hz]; decide) (by rw [hz]; decide) (by decide) ?_
      exact law_c41 hx hb hml hr hlocks hX hbl hbA hA hAf D cI cJ cB cZ cO q951 q953 u952 u954 hown hts hE hP hD hS hl
    | 42, _, hz =>
      refine lv_tableIn (tgt := 1505) (off := 1472) hx hb dL_law_33 (by rw [hz]; decide) (by rw [hz]; decide) (by rw [hz]; decide) (by decide) ?_
      exact law_c42 hx hb hml hr hlocks hX hbl hbA hA hAf D cI cJ cB cZ cO q951 q953 u952 u954 hown hts hE hP hD hS hl
    | 43, _, hz =>
      refine lv_tableIn (tgt := 1518) (off := 1485) hx hb dL_law_33 (by rw [hz]; decide) (by rw [hz]; decide) (by rw [hz]; decide) (by decide) ?_
      exact law_c43 hx hb hml hr hlocks hX hbl hbA hA hAf D cI cJ cB cZ cO q951 q953 u952 u954 hown hts hE hP hD hS hl
    | 44, _, hz =>
      refine lv_tableIn (tgt := 1531) (off := 1498) hx hb dL_law_33 (by rw [hz]; decide) (by rw [hz]; decide) (by rw [hz]; decide) (by decide) ?_
      exact law_c44 hx hb hml hr hlocks hX hbl hbA hA hAf D cI cJ cB cZ cO q951 q953 u952 u954 hown hts hE hP hD hS hl
    | 45, _, hz =>
      refine lv_tableIn (tgt := 1544) (off := 1511) hx hb dL_law_33 (by rw [hz]; decide) (by rw [hz]; decide) (by rw [hz]; decide) (by decide) ?_
      exact law_c45 hx hb hml hr hlocks hX hbl hbA hA hAf D cI cJ cB cZ cO q951 q953 u952 u954 hown hts hE hP hD hS hl
    | 46, _, hz =>
      refine lv_tableIn (tgt := 1567) (off := 1534) hx hb dL_law_33 (by rw [hz]; decide) (by rw [hz]; decide) (by rw [hz]; decide) (by decide) ?_
      exact law_c46 hx hb hml hr hlocks hX hbl hbA hA hAf D cI cJ cB cZ cO q951 q953 u952 u954 hown hts hE hP hD hS hl
    | 47, _, hz =>
      refine lv_tableIn (tgt := 1590) (off := 1557) hx hb dL_law_33 (by rw [hz]; decide) (by rw [hz]; decide) (by rw [hz]; decide) (by decide) ?_
      exact law_c47 hx hb hml hr hlocks hX hbl hbA hA hAf D cI cJ cB cZ cO q951 q953 u952 u954 hown hts hE hP hD hS hl
    | 48, _, hz =>
      refine lv_tableIn (tgt := 1613) (off := 1580) hx hb dL_law_33 (by rw [hz]; decide) (by rw [hz]; decide) (by rw [hz]; decide) (by decide) ?_
      exact law_c48 hx hb hml hr hlocks hX hbl hbA hA hAf D cI cJ cB cZ cO q951 q953 u952 u954 hown hts hE hP hD hS hl
    | 49, _, hz =>
      refine lv_tableIn (tgt := 1647) (off := 1614) hx hb dL_law_33 (by rw [hz]; decide) (by rw [hz]; decide) (by rw [hz]; decide) (by decide) ?_
      exact law_c49 hx hb hml hr hlocks hX hbl hbA hA hAf D cI cJ cB cZ cO q951 q953 u952 u954 hown hts hE hP hD hS hl
    | 50, _, hz =>
      refine lv_tableIn (tgt := 1691) (off := 1658) hx hb dL_law_33 (by rw [hz]; decide) (by rw [hz]; decide) (by rw [hz]; decide) (by decide) ?_
      exact law_c50 hx hb hml hr hlocks hX hbl hbA hA hAf D cI cJ cB cZ cO q951 q953 u952 u954 hown hts hE hP hD hS hl
    | 51, _, hz =>
      refine lv_tableIn (tgt := 1734) (off := 1701) hx hb dL_law_33 (by rw [hz]; decide) (by rw [hz]; decide) (by rw [hz]; decide) (by decide) ?_
      exact law_c51 hx hb hml hr hlocks hX hbl hbA hA hAf D cI cJ cB cZ cO q951 q953 u952 u954 hown hts hE hP hD hS hl
    | 52, _, hz =>
      refine lv_tableIn (tgt := 1777) (off := 1744) hx hb dL_law_33 (by rw [hz]; decide) (by rw [hz]; decide) (by rw [hz]; decide) (by decide) ?_
      exact law_c52 hx hb hml hr hlocks hX hbl hbA hA hAf D cI cJ cB cZ cO q951 q953 u952 u954 hown hts hE hP hD hS hl
    | 53, _, hz =>
      refine lv_tableIn (tgt := 1830) (off := 1797) hx hb dL_law_33 (by rw [hz]; decide) (by rw [hz]; decide) (by rw [hz]; decide) (by decide) ?_
      exact law_c53 hx hb hml hr hlocks hX hbl hbA hA hAf D cI cJ cB cZ cO q951 q953 u952 u954 hown hts hE hP hD hS hl
    | 54, _, hz =>
      refine lv_tableIn (tgt := 1863) (off := 1830) hx hb dL_law_33 (by rw [hz]; decide) (by rw [hz]; decide) (by rw [hz]; decide) (by decide) ?_
      exact law_c54 hx hb hml hr hlocks hX hbl hbA hA hAf D cI cJ cB cZ cO q951 q953 u952 u954 hown hts hE hP hD hS hl
    | 55, _, hz =>
      refine lv_tableIn (tgt := 1906) (off := 1873) hx hb dL_law_33 (by rw [hz]; decide) (by rw [hz]; decide) (by rw [hz]; decide) (by decide) ?_
      exact law_c55 hx hb hml hr hlocks hX hbl hbA hA hAf D cI cJ cB cZ cO q951 q953 u952 u954 hown hts hE hP hD hS hl
    | 56, _, hz =>
      refine lv_tableIn (tgt := 1919) (off := 1886) hx hb dL_law_33 (by rw [hz]; decide) (by rw [hz]; decide) (by rw [hz]; decide) (by decide) ?_
      exact law_c56 hx hb hml hr hlocks hX hbl hbA hA hAf D cI cJ cB cZ cO q951 q953 u952 u954 hown hts hE hP hD hS hl
    | 57, _, hz =>
      refine lv_tableIn (tgt := 1942) (off := 1909) hx hb dL_law_33 (by rw [hz]; decide) (by rw [hz]; decide) (by rw [hz]; decide) (by decide) ?_
      exact law_c57 hx hb hml hr hlocks hX hbl hbA hA hAf D cI cJ cB cZ cO q951 q953 u952 u954 hown hts hE hP hD hS hl
    | 58, _, hz =>
      refine lv_tableIn (tgt := 1965) (off := 1932) hx hb dL_law_33 (by rw [hz]; decide) (by rw [hz]; decide) (by rw [hz]; decide) (by decide) ?_
      exact law_c58 hx hb hml hr hlocks hX hbl hbA hA hAf D cI cJ cB cZ cO q951 q953 u952 u954 hown hts hE hP hD hS hl
    | 59, _, hz =>
      refine lv_tableIn (tgt := 1988) (off := 1955) hx hb dL_law_33 (by rw [hz]; decide) (by rw [hz]; decide) (by rw [hz]; decide) (by decide) ?_
      exact law_c59 hx hb hml hr hlocks hX hbl hbA hA hAf D cI cJ cB cZ cO q951 q953 u952 u954 hown hts hE hP hD hS hl
    | 60, _, hz =>
      refine lv_tableIn (tgt := 2031) (off := 1998) hx hb dL_law_33 (by rw [hz]; decide) (by rw [hz]; decide) (by rw [hz]; decide) (by decide) ?_
      exact law_c60 hx hb hml hr hlocks hX hbl hbA hA hAf D cI cJ cB cZ cO q951 q953 u952 u954 hown hts hE hP hD hS hl
    | 61, _, hz =>
      refine lv_tableIn (tgt := 2104) (off := 2071) hx hb dL_law_33 (by rw [hz]; decide) (by rw [hz]; decide) (by rw [hz]; decide) (by decide) ?_
      exact law_c61 hx hb hml hr hlocks hX hbl hbA hA hAf D cI cJ cB cZ cO q951 q953 u952 u954 hown hts hE hP hD hS hl
    | 62, _, hz =>
      refine lv_tableOut (tgt := 2167) hx hb dL_law_33 (by rw [hz]; decide) (by decide) ?_
      exact law_tail hx hb hml hr hlocks hX hbl hbA hA hAf hS hl
    | 63, _, hz =>
      refine lv_tableOut (tgt := 2167) hx hb dL_law_33 (by rw [hz]; decide) (by decide) ?_
      exact law_tail hx hb hml hr hlocks hX hbl hbA hA hAf hS hl
    | k + 64, h, _ => exact absurd h (by omega)
set_option maxHeartbeats 4000000 in
theorem lw_walk (l : Launch) (hflags : l.flags = flags0) (b : Addr) (xs : List Int32) : MetFree l x (headSpec (Jvm.Cond.code x code maxLocals ret :: tables_1) room_1) (lw_P b xs) (fun _ _ _ _ _ => True) lw_Q := by
  refine MetFree.of_bodyS (code := code) (maxLocals := maxLocals) (ret := ret) (by decide) ?_ ?_
  · intro args s m h hn
    obtain ⟨meth, c, h1, h2, h3, h4, h5, h6, -, -⟩ := Cond.code_spec hn (atoms_spec (ws := Jvm.Cond.code x code maxLocals ret :: tables_1) h _ List.mem_cons_self)
    exact ⟨meth, c, h1, h2, h3, h4, h5, h6⟩
  · intro p e s m args below meth c s₁ B hml0 hP _
    obtain ⟨rfl, hx, hbd, hgv⟩ := hP
    obtain ⟨scr, harrAt, hlist, hof, hsmall⟩ := hx
    obtain ⟨hcb, hkn, -, -⟩ := State.arrayAt?_spec harrAt
    have hown : s.vm.findClass R_law = some m.cls := findClass_of_methodNamed B.named
    have hts0 : ∀ c ∈ (Jvm.Cond.code x code maxLocals ret :: tables_1), c.before #[Value.ref b] s = true := atoms_spec (ws := Jvm.Cond.code x code maxLocals ret :: tables_1) B.pre
    have hts : ∀ w ∈ lw_tbl, w.before #[Value.ref b] s = true := k2_hts_sels lw_privs (fun w hw => hts0 w (List.mem_cons_of_mem _ hw)) lw_privs_ok
    have hml : c.maxLocals = 4 := B.maxLocals_eq (hts0 _ List.mem_cons_self)
    have X₀ : Stand p l e room_1 s m #[Value.ref b] below meth c s₁ [] 0 0 := Stand.of_body B
    have hh0 : s₁.heap = s.heap := by rw [B.state]; rfl
    have hsz : scr.slots.size = xs.length := by rw [← Array.length_toList, hlist, List.length_map]
    have hval : ∀ j : Nat, j < xs.length → scr.slots[j]? = some (.int (xs.getD j 0)) := fun j hj => by
      rw [← Array.getElem?_toList, hlist]
      simp [hj]
    have hbl : b < s.heap.size := (Array.getElem?_eq_some_iff.mp hcb).1
    have hX : va_X b xs.length (fun j => xs.getD j 0) s s.heap := ⟨scr, hcb, hof, hkn, hsz, hval⟩
    have K : W p l e room_1 s m #[Value.ref b] below meth c s₁.heap [] 0 0 (lw_Z below #[Value.ref b] s) (entryFrame m ([Value.ref b] : List Value).toArray 4) := by
      rw [hh0]
      exact whole_start l hflags hbd ⟨B.exec, B.bytes, B.returns, hml, hown, hts, hX, hbl, B.notSynchronized, hgv⟩
    obtain ⟨t, a1, o, b1, b2, b3⟩ := K s₁ rfl X₀
    exact ⟨t, o, a1, b1, b2, b3⟩
theorem lw_pre_spec {args : Array Value} {s : State} (h : (Jvm.Cond.and given_1 narrow_1).before args s = true) (hr : rest_1_c.before args s = true) : ∃ (b : Addr) (xs : List Int32), lw_P b xs args s := by
  have hs := flat_of_before _ h
  have hq := flat_of_before _ hr
  have hc : (Cond.count 1).before args s = true := hs _ (by decide +kernel)
  have harr : (Cond.arrayOf (.arg 0) .int).before args s = true := hs _ (by decide +kernel)
  have hle : (Cond.le (.length (.arg 0)) (.int 6)).before args s = true := hs _ (by decide +kernel)
  have hlen : (Cond.isInt (.length (.arg 0))).before args s = true := hq _ (by decide +kernel)
  have hall : (Cond.all (.arg 0) (.isInt (.elem (.arg 0) (.index 0)))).before args s = true := hq _ (by decide +kernel)
  obtain ⟨b, xs, hb, hx⟩ := State.ints_of_pre rfl harr hlen hall
  have hsm : xs.length < 2 ^ 31 := hx.choose_spec.2.2.2
  have hev : (Term.length (.arg 0)).eval args s none [] s = some (.int xs.length.toInt32) := hx.length_eval hb
  have hv := Cond.le_ints hev (show (Term.int 6).eval args s none [] s = some (.int 6) from rfl)
  have hd : xs.length.toInt32 ≤ 6 := by
    simpa [Cond.before, Cond.holds, hv] using hle
  have hN : xs.length ≤ 6 := (Int32.ofNat_le_ofNat hsm (by decide)).mp (show Int32.ofNat xs.length ≤ Int32.ofNat 6 from hd)
  exact ⟨b, xs, Cond.one_arg hc (show args[0]? = some (.ref b) from hb), hx, hN, h⟩
theorem lw_comes (l : Launch) (hflags : l.flags = flags0) : Comes l x (Jvm.Cond.code x code maxLocals ret :: tables_1) room_1 (fun tb e args s => Calls_1 tb e args s ∧ rest_1 tb e args s ∧ Pre_1 tb e args s)
    (fun _ _ args s o t => lw_Q args s o t) := by
  intro p e ha hc hk s m args below hf hfit hheap happ hpre
  obtain ⟨b, xs, hP⟩ := lw_pre_spec hpre.2.2 hpre.2.1
  obtain ⟨k, o, h1, h2, h3, hQ⟩ := lw_walk l hflags b xs p e ha hc hk s m args below hf ((Spec.applies_iff_loose hf).mp happ).1 hP trivial
  exact ⟨k, o, h1, h2, h3, hQ⟩
theorem lw_frame {s t : State} {o : Outcome} {args : Array Value} (h : Framed s o t [] 600000 7302250) :
    Framed s o t (fieldLocs frame_1_writes args s ++ arrayLocs frame_1_arrays args s ++ staticLocs frame_1_statics s) 600000 7302250 := h
theorem lw_limb (L : Cond) (hL : ∀ (args : Array Value) (s t : State), L.after args s (.returned (some (.int 1))) t = true) :
    ArmFor flags0 classFile x code maxLocals ret World_1 tables_1 room_1 Calls_1 rest_1 Pre_1
      (fun tb e a s o t => postC L tb e a s o t ∧ Framed s o t (fieldLocs frame_1_writes a s ++ arrayLocs frame_1_arrays a s ++ staticLocs frame_1_statics s) 600000 7302250) := by
  intro l hflags _ _ p e ha hc hk s m args below hf hfit hheap happ hpre
  obtain ⟨k, o, h1, h2, h3, rfl, hF⟩ := lw_comes l hflags p e ha hc hk s m args below hf hfit hheap happ hpre
  exact ⟨k, _, h1, h2, h3, hL args s _, lw_frame hF⟩
theorem i_vc : Claimed_1_1 ∧ Claimed_1_2 := ⟨lw_limb limb_1_1 (fun args s t => by simp [limb_1_1, Cond.after, Cond.holds, Cond.value]), lw_limb limb_1_2 (fun args s t => Cond.after_iff.mpr (by
  first | (rw [show limb_1_2 = Cond.eq .result (.int 1) from rfl, Cond.eq_ints (x := 1) (y := 1) rfl rfl]; simp; done) | (simp [limb_1_2, Cond.value, Term.eval]; done)))⟩

