abbrev w_c_X2_findWinning (cI cJ cB cZ cO : ClassId) (qg : Nat) (qg_winning : Nat) (fg_winning : Nat → Int32) (qd : Nat) (vd_gap : Int32) (vd_odds : Int32) (vd_rain : Int32) (vd_lines : Int32) (qd_steps : Nat) (qd_lengths : Nat) (qd_starts : Nat) (qd_met : Nat) (fd_met : Nat → Int32) (qd_stumbles : Nat) (vd_stumbleCount : Int32) (qd_muds : Nat) (qd_cells : Nat) (vd_cellCount : Int32) (qd_tunes : Nat) (vd_tuneCount : Int32) (qd_changes : Nat) (vd_changeCount : Int32) : va_W := [(qg, .inr (2, [.ref qg_winning])), (qg_winning, .inl (cI, 729, .inl (fg_winning))), dn qd vd_gap vd_odds vd_rain vd_lines qd_steps qd_lengths qd_starts qd_met qd_stumbles vd_stumbleCount qd_muds qd_cells vd_cellCount qd_tunes vd_tuneCount qd_changes vd_changeCount, (qd_met, .inl (cI, 6, .inl (fd_met)))]
set_option maxHeartbeats 4000000 in
set_option maxRecDepth 100000 in
/-- X2 findWinning -/
theorem c_X2_findWinning (l : Launch) (D : va_G) (G : ct_G) (cI cJ cB cZ cO : ClassId) (qg : Nat) (qg_winning : Nat) (fg_winning : Nat → Int32) (qd : Nat) (vd_gap : Int32) (vd_odds : Int32) (vd_rain : Int32) (vd_lines : Int32) (qd_steps : Nat) (qd_lengths : Nat) (qd_starts : Nat) (qd_met : Nat) (fd_met : Nat → Int32) (qd_stumbles : Nat) (vd_stumbleCount : Int32) (qd_muds : Nat) (qd_cells : Nat) (vd_cellCount : Int32) (qd_tunes : Nat) (vd_tuneCount : Int32) (qd_changes : Nat) (vd_changeCount : Int32) (a2 : Int32) (h_vd_gap : 0 ≤ vd_gap.toInt ∧ vd_gap.toInt ≤ 20) (h_vd_stumbleCount : 0 ≤ vd_stumbleCount.toInt ∧ vd_stumbleCount.toInt ≤ 8) (h_vd_cellCount : 0 ≤ vd_cellCount.toInt ∧ vd_cellCount.toInt ≤ 12) (h_vd_tuneCount : 0 ≤ vd_tuneCount.toInt ∧ vd_tuneCount.toInt ≤ 5) (h_vd_changeCount : 0 ≤ vd_changeCount.toInt ∧ vd_changeCount.toInt ≤ 40) (h_a2 : 0 ≤ a2.toInt ∧ a2.toInt ≤ 728) (sz : Nat) : Met l yX2_findWinning wsX2_findWinning ({ frames := 0, cells := 0, slots := 0, locals := 0 }) (va_Pc [.ref qg, .ref qd, .int a2] (ct_P D (ct_T cI cJ cB cZ cO) G (w_c_X2_findWinning cI cJ cB cZ cO qg qg_winning fg_winning qd vd_gap vd_odds vd_rain vd_lines qd_steps qd_lengths qd_starts qd_met fd_met qd_stumbles vd_stumbleCount qd_muds qd_cells vd_cellCount qd_tunes vd_tuneCount qd_changes vd_changeCount) sz)) (va_Qi (fun (rz : Int32) (u : Unit) => True) (fun (u : Unit) t => ct_Q D (va_A (w_c_X2_findWinning cI cJ cB cZ cO qg qg_winning fg_winning qd vd_gap vd_odds vd_rain vd_lines qd_steps qd_lengths qd_starts qd_met fd_met qd_stumbles vd_stumbleCount qd_muds qd_cells vd_cellCount qd_tunes vd_tuneCount qd_changes vd_changeCount) sz) [(qg, .inr (2, [.ref qg_winning])), (qg_winning, .inl (cI, 729, .inl (fg_winning))), dn qd vd_gap vd_odds vd_rain vd_lines qd_steps qd_lengths qd_starts qd_met qd_stumbles vd_stumbleCount qd_muds qd_cells vd_cellCount qd_tunes vd_tuneCount qd_changes vd_changeCount, (qd_met, .inl (cI, 6, .inl (fd_met)))] t) (va_A (w_c_X2_findWinning cI cJ cB cZ cO qg qg_winning fg_winning qd vd_gap vd_odds vd_rain vd_lines qd_steps qd_lengths qd_starts qd_met fd_met qd_stumbles vd_stumbleCount qd_muds qd_cells vd_cellCount qd_tunes vd_tuneCount qd_changes vd_changeCount) sz)) 0 0 (va_A (w_c_X2_findWinning cI cJ cB cZ cO qg qg_winning fg_winning qd vd_gap vd_odds vd_rain vd_lines qd_steps qd_lengths qd_starts qd_met fd_met qd_stumbles vd_stumbleCount qd_muds qd_cells vd_cellCount qd_tunes vd_tuneCount qd_changes vd_changeCount) sz) := by
  refine Met.ofW (cc := cX2_findWinning) (maxL := 6) (ret := (some .int)) (by decide) rfl ?_
  intro p e s m args below meth c s₁ B hml hv
  obtain ⟨rfl, hsz, hP, hE, hD0, hH⟩ := hv
  have hx := B.exec
  have hb := B.bytes
  have hr := B.returns
  have hts := atoms_spec (ws := wsX2_findWinning) B.pre
  have hown : s.vm.findClass RX2 = some m.cls := findClass_of_methodNamed B.named
  have hlocks := B.notSynchronized
  have hK := hE.1
  have hi0 : ∀ w ∈ u_ws RX0 TX0 17, w ∈ wsX2_findWinning := fun w h => List.mem_cons_of_mem _ (List.mem_append_right _ h)
  have hi2 : ∀ w ∈ u_ws RX2 TX2 1, w ∈ wsX2_findWinning := fun w h => List.mem_cons_of_mem _ (List.mem_append_left _ (List.mem_append_right _ h))
  subst hsz
  have hD := hD0.self (sz := s.heap.size)
  generalize hAe : va_A (w_c_X2_findWinning cI cJ cB cZ cO qg qg_winning fg_winning qd vd_gap vd_odds vd_rain vd_lines qd_steps qd_lengths qd_starts qd_met fd_met qd_stumbles vd_stumbleCount qd_muds qd_cells vd_cellCount qd_tunes vd_tuneCount qd_changes vd_changeCount) s.heap.size = A at hD hH ⊢
  have hA : ∀ q : Nat, s.heap.size ≤ q → A q := fun q h => by rw [← hAe]; exact Or.inr h
  have hS : va_S A s.heap s.heap [] := va_S.rf
  obtain ⟨hP, hD⟩ : ct_B D A s.heap [(qg, .inr (2, [.ref qg_winning])), (qg_winning, .inl (cI, 729, .inl (fg_winning))), dn qd vd_gap vd_odds vd_rain vd_lines qd_steps qd_lengths qd_starts qd_met qd_stumbles vd_stumbleCount qd_muds qd_cells vd_cellCount qd_tunes vd_tuneCount qd_changes vd_changeCount, (qd_met, .inl (cI, 6, .inl (fd_met)))] := ⟨hP, hD⟩
  have hl := lv_entry ([.ref qg, .ref qd, .int a2]) (n := 6) (Nat.le_of_ble_eq_true rfl)
  rw [lg_entry_eq]
  generalize (lg_sl ([.ref qg, .ref qd, .int a2]) ++ List.replicate (6 - (lg_sl ([.ref qg, .ref qd, .int a2])).length) Slot.unset).toArray = ls at hl ⊢
  have hl : lv_has ls 6 [(0, .ref qg), (1, .ref qd), (2, .int a2)] := hl
  obtain ⟨H, hHe⟩ : ∃ H : Heap, H = s.heap := ⟨_, rfl⟩
  rw [← hHe] at hP
  have hS : va_S A s.heap H [] := by rw [hHe]; exact va_S.rf
  refine ct_start hHe ?_
  refine lv_iconst (v := 0) hx hb dX2_findWinning_0 (by decide) ?_
  refine lv_istore_n (lv' := [(3, .int 0), (0, .ref qg), (1, .ref qd), (2, .int a2)]) hx hb dX2_findWinning_1 rfl hl (by decide) rfl (fun ls hl => ?_)
  refine lv_iconst (v := 0) hx hb dX2_findWinning_2 (by decide) ?_
  refine lv_istore (lv' := [(4, .int 0), (3, .int 0), (0, .ref qg), (1, .ref qd), (2, .int a2)]) hx hb dX2_findWinning_3 hl (by decide) rfl (fun ls hl => ?_)
  refine ct_loop (X := Int32 × Int32) (fun x => (6 - x.2.toInt).toNat) (fun x H locs ls => ((0 ≤ x.2.toInt ∧ x.2.toInt ≤ 6)) ∧ ct_B D A H [(qg, .inr (2, [.ref qg_winning])), (qg_winning, .inl (cI, 729, .inl (fg_winning))), dn qd vd_gap vd_odds vd_rain vd_lines qd_steps qd_lengths qd_starts qd_met qd_stumbles vd_stumbleCount qd_muds qd_cells vd_cellCount qd_tunes vd_tuneCount qd_changes vd_changeCount, (qd_met, .inl (cI, 6, .inl (fd_met)))] ∧ va_S A s.heap H locs ∧ lv_has ls 6 [(4, .int x.2), (3, .int x.1), (0, .ref qg), (1, .ref qd), (2, .int a2)]) 5 ((0 : Int32), (0 : Int32)) ⟨(show 0 ≤ (0 : Int32).toInt ∧ (0 : Int32).toInt ≤ 6 by decide), ⟨hP, hD⟩, hS, lv_sub hl [0, 1, 2, 3, 4] rfl⟩ (fun x ih278 H locs ls hI => ?_)
  obtain ⟨x276, x277⟩ := x
  obtain ⟨h_x277, ⟨hP, hD⟩, hS, hl⟩ := hI
  have h_x277 : (0 ≤ x277.toInt ∧ x277.toInt ≤ 6) := h_x277
  obtain ⟨hP, hD⟩ : ct_B D A H [(qg, .inr (2, [.ref qg_winning])), (qg_winning, .inl (cI, 729, .inl (fg_winning))), dn qd vd_gap vd_odds vd_rain vd_lines qd_steps qd_lengths qd_starts qd_met qd_stumbles vd_stumbleCount qd_muds qd_cells vd_cellCount qd_tunes vd_tuneCount qd_changes vd_changeCount, (qd_met, .inl (cI, 6, .inl (fd_met)))] := ⟨hP, hD⟩
  have hl : lv_has ls 6 [(4, .int x277), (3, .int x276), (0, .ref qg), (1, .ref qd), (2, .int a2)] := hl
  refine lv_iload hx hb dX2_findWinning_5 (lv_at hl 0 rfl) ?_
  refine lv_bipush (v := 6) hx hb dX2_findWinning_7 (by decide) ?_
  refine lv_icmp_ge (tgt := 75) hx hb dX2_findWinning_9 (by decide) (fun hc => ?_) (fun hc => ?_)
  · have hq279 : 6 ≤ x277.toInt := tq_le (by decide) rfl hc
    refine lv_iload_n hx hb dX2_findWinning_75 rfl (lv_at hl 1 rfl) ?_
    obtain ⟨hP9, hD9⟩ : ct_B D A H [(qg, .inr (2, [.ref qg_winning])), (qg_winning, .inl (cI, 729, .inl (fg_winning))), dn qd vd_gap vd_odds vd_rain vd_lines qd_steps qd_lengths qd_starts qd_met qd_stumbles vd_stumbleCount qd_muds qd_cells vd_cellCount qd_tunes vd_tuneCount qd_changes vd_changeCount, (qd_met, .inl (cI, 6, .inl (fd_met)))] := ⟨hP.sub [0, 1, 2, 3] rfl, hD.sub [0, 1, 2, 3] (by decide) rfl⟩
    exact W.iret (v := x276) hx hb hr (fun t ht hW => ⟨⟨x276, (), rfl, trivial, by rw [ht]; exact hP9, hD9⟩, hS.F ht⟩) hS.2.2 dX2_findWinning_76
  · have hq279 : x277.toInt < 6 := tq_nle (by decide) rfl hc
    rcases (show x277.toInt = 0 ∨ x277.toInt = 1 ∨ x277.toInt = 2 ∨ x277.toInt = 3 ∨ x277.toInt = 4 ∨ x277.toInt = 5 by omega) with hj | hj | hj | hj | hj | hj
    · have hj2 : x277 = 0 := tq_of hj (by decide)
      have hl : lv_has ls 6 [(4, .int 0), (3, .int x276), (0, .ref qg), (1, .ref qd), (2, .int a2)] := by have h9 := hl; rw [hj2] at h9; exact h9
      refine lv_iload_n hx hb dX2_findWinning_12 rfl (lv_at hl 4 rfl) ?_
      refine va_gets hx hb hH.2.2.1 hS hown (hts (.fieldLink RX2 19 "OverHill$Game" "POWERS" "[I") (by decide +kernel)) (fun _ h9 => h9) dX2_findWinning_13 ?_
      refine lv_iload hx hb dX2_findWinning_16 (lv_at hl 0 rfl) ?_
      refine va_ti hx hb hH.2.2.2.1 hS (tq_in (a := 0) (by decide) (by omega)) (v := _) rfl dX2_findWinning_18 ?_
      refine lv_topi (fun z280 ez280 => ?_)
      obtain rfl : z280 = 1 := ez280.trans (by decide)
      refine lv_idiv hx hb dX2_findWinning_19 (by decide) ?_
      refine lv_topi (fun z281 ez281 => ?_)
      have fz281 : z281.toInt = a2.toInt / 1 := by rw [ez281]; exact tq_divc (c := 1) rfl (by decide) (by omega) (by omega)
      refine lv_iconst (v := 3) hx hb dX2_findWinning_20 (by decide) ?_
      refine lv_irem hx hb dX2_findWinning_21 (by decide) ?_
      refine lv_topi (fun z282 ez282 => ?_)
      have fz282 : z282.toInt = z281.toInt % 3 := by rw [ez282]; exact tq_remc (c := 3) rfl (by decide) (by omega) (by omega)
      refine lv_iconst (v := 2) hx hb dX2_findWinning_22 (by decide) ?_
      refine lv_icmp_ge (tgt := 30) hx hb dX2_findWinning_23 (by decide) (fun hc => ?_) (fun hc => ?_)
      · have hq283 : 2 ≤ z282.toInt := tq_le (by decide) rfl hc
        refine lv_iconst (v := 0) hx hb dX2_findWinning_30 (by decide) ?_
        refine lv_istore (lv' := [(5, .int 0), (4, .int 0), (3, .int x276), (0, .ref qg), (1, .ref qd), (2, .int a2)]) hx hb dX2_findWinning_31 hl (by decide) rfl (fun ls hl => ?_)
        refine lv_iload hx hb dX2_findWinning_33 (lv_at hl 0 rfl) ?_
        refine lv_if_eq (tgt := 69) hx hb dX2_findWinning_35 (by decide) (fun _ => ?_) (fun hc => absurd hc (by decide))
        refine lv_iinc (v := 1) (lv' := [(4, .int 1), (5, .int 0), (3, .int x276), (0, .ref qg), (1, .ref qd), (2, .int a2)]) hx hb dX2_findWinning_69 hl (k := 1) rfl (by decide) (by decide) rfl (fun ls hl => ?_)
        refine lv_goto (tgt := 5) hx hb dX2_findWinning_72 (by decide) ?_
        have hk284 : (1 : Int32).toInt = 1 := by decide
        exact ih278 (x276, (1 : Int32)) _ _ _ (show (6 - (1 : Int32).toInt).toNat < (6 - x277.toInt).toNat by omega) ⟨(show 0 ≤ (1 : Int32).toInt ∧ (1 : Int32).toInt ≤ 6 by decide), ⟨hP, hD⟩, hS, lv_sub hl [0, 2, 3, 4, 5] rfl⟩
      · have hq283 : z282.toInt < 2 := tq_nle (by decide) rfl hc
        refine lv_iconst (v := 1) hx hb dX2_findWinning_26 (by decide) ?_
        refine lv_goto (tgt := 31) hx hb dX2_findWinning_27 (by decide) ?_
        refine lv_istore (lv' := [(5, .int 1), (4, .int 0), (3, .int x276), (0, .ref qg), (1, .ref qd), (2, .int a2)]) hx hb dX2_findWinning_31 hl (by decide) rfl (fun ls hl => ?_)
        refine lv_iload hx hb dX2_findWinning_33 (lv_at hl 0 rfl) ?_
        refine lv_if_eq (tgt := 69) hx hb dX2_findWinning_35 (by decide) (fun hc => absurd hc (by decide)) (fun _ => ?_)
        refine lv_aload_n hx hb dX2_findWinning_38 rfl (lv_at hl 3 rfl) ?_
        refine va_get (D := D) (ci := 2) (v := .ref qg_winning) (C := RX2) (T := TX2) (N := 1) hx hb hts hi2 hown hK hP 0 rfl rfl 0 (by decide) (hts (.fieldLink RX2 11 "OverHill$Game" "winning" "[I") (by decide +kernel)) (fun _ h9 => h9) rfl dX2_findWinning_39 ?_
        refine lv_iload_n hx hb dX2_findWinning_42 rfl (lv_at hl 5 rfl) ?_
        refine va_gets hx hb hH.2.2.1 hS hown (hts (.fieldLink RX2 19 "OverHill$Game" "POWERS" "[I") (by decide +kernel)) (fun _ h9 => h9) dX2_findWinning_43 ?_
        refine lv_iload hx hb dX2_findWinning_46 (lv_at hl 1 rfl) ?_
        refine va_ti hx hb hH.2.2.2.1 hS (tq_in (a := 0) (by decide) (by omega)) (v := _) rfl dX2_findWinning_48 ?_
        refine lv_topi (fun z285 ez285 => ?_)
        obtain rfl : z285 = 1 := ez285.trans (by decide)
        refine lv_iadd hx hb dX2_findWinning_49 ?_
        refine lv_topi (fun z286 ez286 => ?_)
        have fz286 : z286.toInt = a2.toInt + 1 := by rw [ez286]; exact tq_add rfl (by decide) (by omega)
        refine va_iald (D := D) hx hb hK hP 1 0 rfl rfl (tq_in rfl (by omega)) dX2_findWinning_50 ?_
        refine lv_topi (fun z287 ez287 => ?_)
        refine lv_aload_n hx hb dX2_findWinning_51 rfl (lv_at hl 4 rfl) ?_
        refine va_get (D := D) (ci := 0) (v := .ref qd_met) (C := RX0) (T := TX0) (N := 17) hx hb hts hi0 hown hK hP 2 rfl rfl 7 (by decide) (hts (.fieldLink RX2 22 "OverHill$Dance" "met" "[I") (by decide +kernel)) (fun _ h9 => h9) rfl dX2_findWinning_52 ?_
        refine lv_iload hx hb dX2_findWinning_55 (lv_at hl 1 rfl) ?_
        refine va_iald (D := D) hx hb hK hP 3 0 rfl rfl (tq_in (a := 0) (by decide) (by omega)) dX2_findWinning_57 ?_
        refine lv_topi (fun z288 ez288 => ?_)
        refine lv_iand hx hb dX2_findWinning_58 ?_
        refine lv_topi (fun z289 ez289 => ?_)
        refine lv_if_ne (tgt := 69) hx hb dX2_findWinning_59 (by decide) (fun hc => ?_) (fun hc => ?_)
        · have hq290 : z289.toInt ≠ 0 := tq_ne rfl (by decide) hc
          have hb291 := tq_lo z289
          refine lv_iinc (v := 1) (lv' := [(4, .int 1), (5, .int 1), (3, .int x276), (0, .ref qg), (1, .ref qd), (2, .int a2)]) hx hb dX2_findWinning_69 hl (k := 1) rfl (by decide) (by decide) rfl (fun ls hl => ?_)
          refine lv_goto (tgt := 5) hx hb dX2_findWinning_72 (by decide) ?_
          have hk292 : (1 : Int32).toInt = 1 := by decide
          exact ih278 (x276, (1 : Int32)) _ _ _ (show (6 - (1 : Int32).toInt).toNat < (6 - x277.toInt).toNat by omega) ⟨(show 0 ≤ (1 : Int32).toInt ∧ (1 : Int32).toInt ≤ 6 by decide), ⟨hP, hD⟩, hS, lv_sub hl [0, 2, 3, 4, 5] rfl⟩
        · have hq290 : z289.toInt = 0 := tq_eq rfl (by decide) hc
          have hb293 := tq_lo z289
          refine lv_iload_n hx hb dX2_findWinning_62 rfl (lv_at hl 2 rfl) ?_
          refine lv_iconst (v := 1) hx hb dX2_findWinning_63 (by decide) ?_
          refine lv_iload hx hb dX2_findWinning_64 (lv_at hl 1 rfl) ?_
          refine lv_ishl hx hb dX2_findWinning_66 ?_
          refine lv_topi (fun z294 ez294 => ?_)
          obtain rfl : z294 = 1 := ez294.trans (by decide)
          refine lv_ior hx hb dX2_findWinning_67 ?_
          refine lv_topi (fun z295 ez295 => ?_)
          refine lv_istore_n (lv' := [(3, .int z295), (5, .int 1), (4, .int 0), (0, .ref qg), (1, .ref qd), (2, .int a2)]) hx hb dX2_findWinning_68 rfl hl (by decide) rfl (fun ls hl => ?_)
          refine lv_iinc (v := 1) (lv' := [(4, .int 1), (3, .int z295), (5, .int 1), (0, .ref qg), (1, .ref qd), (2, .int a2)]) hx hb dX2_findWinning_69 hl (k := 2) rfl (by decide) (by decide) rfl (fun ls hl => ?_)
          refine lv_goto (tgt := 5) hx hb dX2_findWinning_72 (by decide) ?_
          have hk296 : (1 : Int32).toInt = 1 := by decide
          exact ih278 (z295, (1 : Int32)) _ _ _ (show (6 - (1 : Int32).toInt).toNat < (6 - x277.toInt).toNat by omega) ⟨(show 0 ≤ (1 : Int32).toInt ∧ (1 : Int32).toInt ≤ 6 by decide), ⟨hP, hD⟩, hS, lv_sub hl [0, 1, 3, 4, 5] rfl⟩
    · have hj2 : x277 = 1 := tq_of hj (by decide)
      have hl : lv_has ls 6 [(4, .int 1), (3, .int x276), (0, .ref qg), (1, .ref qd), (2, .int a2)] := by have h9 := hl; rw [hj2] at h9; exact h9
      refine lv_iload_n hx hb dX2_findWinning_12 rfl (lv_at hl 4 rfl) ?_
      refine va_gets hx hb hH.2.2.1 hS hown (hts (.fieldLink RX2 19 "OverHill$Game" "POWERS" "[I") (by decide +kernel)) (fun _ h9 => h9) dX2_findWinning_13 ?_
      refine lv_iload hx hb dX2_findWinning_16 (lv_at hl 0 rfl) ?_
      refine va_ti hx hb hH.2.2.2.1 hS (tq_in (a := 1) (by decide) (by omega)) (v := _) rfl dX2_findWinning_18 ?_
      refine lv_topi (fun z297 ez297 => ?_)
      obtain rfl : z297 = 3 := ez297.trans (by decide)
      refine lv_idiv hx hb dX2_findWinning_19 (by decide) ?_
      refine lv_topi (fun z298 ez298 => ?_)
      have fz298 : z298.toInt = a2.toInt / 3 := by rw [ez298]; exact tq_divc (c := 3) rfl (by decide) (by omega) (by omega)
      refine lv_iconst (v := 3) hx hb dX2_findWinning_20 (by decide) ?_
      refine lv_irem hx hb dX2_findWinning_21 (by decide) ?_
      refine lv_topi (fun z299 ez299 => ?_)
      have fz299 : z299.toInt = z298.toInt % 3 := by rw [ez299]; exact tq_remc (c := 3) rfl (by decide) (by omega) (by omega)
      refine lv_iconst (v := 2) hx hb dX2_findWinning_22 (by decide) ?_
      refine lv_icmp_ge (tgt := 30) hx hb dX2_findWinning_23 (by decide) (fun hc => ?_) (fun hc => ?_)
      · have hq300 : 2 ≤ z299.toInt := tq_le (by decide) rfl hc
        refine lv_iconst (v := 0) hx hb dX2_findWinning_30 (by decide) ?_
        refine lv_istore (lv' := [(5, .int 0), (4, .int 1), (3, .int x276), (0, .ref qg), (1, .ref qd), (2, .int a2)]) hx hb dX2_findWinning_31 hl (by decide) rfl (fun ls hl => ?_)
        refine lv_iload hx hb dX2_findWinning_33 (lv_at hl 0 rfl) ?_
        refine lv_if_eq (tgt := 69) hx hb dX2_findWinning_35 (by decide) (fun _ => ?_) (fun hc => absurd hc (by decide))
        refine lv_iinc (v := 2) (lv' := [(4, .int 2), (5, .int 0), (3, .int x276), (0, .ref qg), (1, .ref qd), (2, .int a2)]) hx hb dX2_findWinning_69 hl (k := 1) rfl (by decide) (by decide) rfl (fun ls hl => ?_)
        refine lv_goto (tgt := 5) hx hb dX2_findWinning_72 (by decide) ?_
        have hk301 : (2 : Int32).toInt = 2 := by decide
        exact ih278 (x276, (2 : Int32)) _ _ _ (show (6 - (2 : Int32).toInt).toNat < (6 - x277.toInt).toNat by omega) ⟨(show 0 ≤ (2 : Int32).toInt ∧ (2 : Int32).toInt ≤ 6 by decide), ⟨hP, hD⟩, hS, lv_sub hl [0, 2, 3, 4, 5] rfl⟩
      · have hq300 : z299.toInt < 2 := tq_nle (by decide) rfl hc
        refine lv_iconst (v := 1) hx hb dX2_findWinning_26 (by decide) ?_
        refine lv_goto (tgt := 31) hx hb dX2_findWinning_27 (by decide) ?_
        refine lv_istore (lv' := [(5, .int 1), (4, .int 1), (3, .int x276), (0, .ref qg), (1, .ref qd), (2, .int a2)]) hx hb dX2_findWinning_31 hl (by decide) rfl (fun ls hl => ?_)
        refine lv_iload hx hb dX2_findWinning_33 (lv_at hl 0 rfl) ?_
        refine lv_if_eq (tgt := 69) hx hb dX2_findWinning_35 (by decide) (fun hc => absurd hc (by decide)) (fun _ => ?_)
        refine lv_aload_n hx hb dX2_findWinning_38 rfl (lv_at hl 3 rfl) ?_
        refine va_get (D := D) (ci := 2) (v := .ref qg_winning) (C := RX2) (T := TX2) (N := 1) hx hb hts hi2 hown hK hP 0 rfl rfl 0 (by decide) (hts (.fieldLink RX2 11 "OverHill$Game" "winning" "[I") (by decide +kernel)) (fun _ h9 => h9) rfl dX2_findWinning_39 ?_
        refine lv_iload_n hx hb dX2_findWinning_42 rfl (lv_at hl 5 rfl) ?_
        refine va_gets hx hb hH.2.2.1 hS hown (hts (.fieldLink RX2 19 "OverHill$Game" "POWERS" "[I") (by decide +kernel)) (fun _ h9 => h9) dX2_findWinning_43 ?_
        refine lv_iload hx hb dX2_findWinning_46 (lv_at hl 1 rfl) ?_
        refine va_ti hx hb hH.2.2.2.1 hS (tq_in (a := 1) (by decide) (by omega)) (v := _) rfl dX2_findWinning_48 ?_
        refine lv_topi (fun z302 ez302 => ?_)
        obtain rfl : z302 = 3 := ez302.trans (by decide)
        refine lv_iadd hx hb dX2_findWinning_49 ?_
        refine lv_topi (fun z303 ez303 => ?_)
        have fz303 : z303.toInt = a2.toInt + 3 := by rw [ez303]; exact tq_add rfl (by decide) (by omega)
        refine va_iald (D := D) hx hb hK hP 1 0 rfl rfl (tq_in rfl (by omega)) dX2_findWinning_50 ?_
        refine lv_topi (fun z304 ez304 => ?_)
        refine lv_aload_n hx hb dX2_findWinning_51 rfl (lv_at hl 4 rfl) ?_
        refine va_get (D := D) (ci := 0) (v := .ref qd_met) (C := RX0) (T := TX0) (N := 17) hx hb hts hi0 hown hK hP 2 rfl rfl 7 (by decide) (hts (.fieldLink RX2 22 "OverHill$Dance" "met" "[I") (by decide +kernel)) (fun _ h9 => h9) rfl dX2_findWinning_52 ?_
        refine lv_iload hx hb dX2_findWinning_55 (lv_at hl 1 rfl) ?_
        refine va_iald (D := D) hx hb hK hP 3 0 rfl rfl (tq_in (a := 1) (by decide) (by omega)) dX2_findWinning_57 ?_
        refine lv_topi (fun z305 ez305 => ?_)
        refine lv_iand hx hb dX2_findWinning_58 ?_
        refine lv_topi (fun z306 ez306 => ?_)
        refine lv_if_ne (tgt := 69) hx hb dX2_findWinning_59 (by decide) (fun hc => ?_) (fun hc => ?_)
        · have hq307 : z306.toInt ≠ 0 := tq_ne rfl (by decide) hc
          have hb308 := tq_lo z306
          refine lv_iinc (v := 2) (lv' := [(4, .int 2), (5, .int 1), (3, .int x276), (0, .ref qg), (1, .ref qd), (2, .int a2)]) hx hb dX2_findWinning_69 hl (k := 1) rfl (by decide) (by decide) rfl (fun ls hl => ?_)
          refine lv_goto (tgt := 5) hx hb dX2_findWinning_72 (by decide) ?_
          have hk309 : (2 : Int32).toInt = 2 := by decide
          exact ih278 (x276, (2 : Int32)) _ _ _ (show (6 - (2 : Int32).toInt).toNat < (6 - x277.toInt).toNat by omega) ⟨(show 0 ≤ (2 : Int32).toInt ∧ (2 : Int32).toInt ≤ 6 by decide), ⟨hP, hD⟩, hS, lv_sub hl [0, 2, 3, 4, 5] rfl⟩
        · have hq307 : z306.toInt = 0 := tq_eq rfl (by decide) hc
          have hb310 := tq_lo z306
          refine lv_iload_n hx hb dX2_findWinning_62 rfl (lv_at hl 2 rfl) ?_
          refine lv_iconst (v := 1) hx hb dX2_findWinning_63 (by decide) ?_
          refine lv_iload hx hb dX2_findWinning_64 (lv_at hl 1 rfl) ?_
          refine lv_ishl hx hb dX2_findWinning_66 ?_
          refine lv_topi (fun z311 ez311 => ?_)
          obtain rfl : z311 = 2 := ez311.trans (by decide)
          refine lv_ior hx hb dX2_findWinning_67 ?_
          refine lv_topi (fun z312 ez312 => ?_)
          refine lv_istore_n (lv' := [(3, .int z312), (5, .int 1), (4, .int 1), (0, .ref qg), (1, .ref qd), (2, .int a2)]) hx hb dX2_findWinning_68 rfl hl (by decide) rfl (fun ls hl => ?_)
          refine lv_iinc (v := 2) (lv' := [(4, .int 2), (3, .int z312), (5, .int 1), (0, .ref qg), (1, .ref qd), (2, .int a2)]) hx hb dX2_findWinning_69 hl (k := 2) rfl (by decide) (by decide) rfl (fun ls hl => ?_)
          refine lv_goto (tgt := 5) hx hb dX2_findWinning_72 (by decide) ?_
          have hk313 : (2 : Int32).toInt = 2 := by decide
          exact ih278 (z312, (2 : Int32)) _ _ _ (show (6 - (2 : Int32).toInt).toNat < (6 - x277.toInt).toNat by omega) ⟨(show 0 ≤ (2 : Int32).toInt ∧ (2 : Int32).toInt ≤ 6 by decide), ⟨hP, hD⟩, hS, lv_sub hl [0, 1, 3, 4, 5] rfl⟩
    · have hj2 : x277 = 2 := tq_of hj (by decide)
      have hl : lv_has ls 6 [(4, .int 2), (3, .int x276), (0, .ref qg), (1, .ref qd), (2, .int a2)] := by have h9 := hl; rw [hj2] at h9; exact h9
      refine lv_iload_n hx hb dX2_findWinning_12 rfl (lv_at hl 4 rfl) ?_
      refine va_gets hx hb hH.2.2.1 hS hown (hts (.fieldLink RX2 19 "OverHill$Game" "POWERS" "[I") (by decide +kernel)) (fun _ h9 => h9) dX2_findWinning_13 ?_
      refine lv_iload hx hb dX2_findWinning_16 (lv_at hl 0 rfl) ?_
      refine va_ti hx hb hH.2.2.2.1 hS (tq_in (a := 2) (by decide) (by omega)) (v := _) rfl dX2_findWinning_18 ?_
      refine lv_topi (fun z314 ez314 => ?_)
      obtain rfl : z314 = 9 := ez314.trans (by decide)
      refine lv_idiv hx hb dX2_findWinning_19 (by decide) ?_
      refine lv_topi (fun z315 ez315 => ?_)
      have fz315 : z315.toInt = a2.toInt / 9 := by rw [ez315]; exact tq_divc (c := 9) rfl (by decide) (by omega) (by omega)
      refine lv_iconst (v := 3) hx hb dX2_findWinning_20 (by decide) ?_
      refine lv_irem hx hb dX2_findWinning_21 (by decide) ?_
      refine lv_topi (fun z316 ez316 => ?_)
      have fz316 : z316.toInt = z315.toInt % 3 := by rw [ez316]; exact tq_remc (c := 3) rfl (by decide) (by omega) (by omega)
      refine lv_iconst (v := 2) hx hb dX2_findWinning_22 (by decide) ?_
      refine lv_icmp_ge (tgt := 30) hx hb dX2_findWinning_23 (by decide) (fun hc => ?_) (fun hc => ?_)
      · have hq317 : 2 ≤ z316.toInt := tq_le (by decide) rfl hc
        refine lv_iconst (v := 0) hx hb dX2_findWinning_30 (by decide) ?_
        refine lv_istore (lv' := [(5, .int 0), (4, .int 2), (3, .int x276), (0, .ref qg), (1, .ref qd), (2, .int a2)]) hx hb dX2_findWinning_31 hl (by decide) rfl (fun ls hl => ?_)
        refine lv_iload hx hb dX2_findWinning_33 (lv_at hl 0 rfl) ?_
        refine lv_if_eq (tgt := 69) hx hb dX2_findWinning_35 (by decide) (fun _ => ?_) (fun hc => absurd hc (by decide))
        refine lv_iinc (v := 3) (lv' := [(4, .int 3), (5, .int 0), (3, .int x276), (0, .ref qg), (1, .ref qd), (2, .int a2)]) hx hb dX2_findWinning_69 hl (k := 1) rfl (by decide) (by decide) rfl (fun ls hl => ?_)
        refine lv_goto (tgt := 5) hx hb dX2_findWinning_72 (by decide) ?_
        have hk318 : (3 : Int32).toInt = 3 := by decide
        exact ih278 (x276, (3 : Int32)) _ _ _ (show (6 - (3 : Int32).toInt).toNat < (6 - x277.toInt).toNat by omega) ⟨(show 0 ≤ (3 : Int32).toInt ∧ (3 : Int32).toInt ≤ 6 by decide), ⟨hP, hD⟩, hS, lv_sub hl [0, 2, 3, 4, 5] rfl⟩
      · have hq317 : z316.toInt < 2 := tq_nle (by decide) rfl hc
        refine lv_iconst (v := 1) hx hb dX2_findWinning_26 (by decide) ?_
        refine lv_goto (tgt := 31) hx hb dX2_findWinning_27 (by decide) ?_
        refine lv_istore (lv' := [(5, .int 1), (4, .int 2), (3, .int x276), (0, .ref qg), (1, .ref qd), (2, .int a2)]) hx hb dX2_findWinning_31 hl (by decide) rfl (fun ls hl => ?_)
        refine lv_iload hx hb dX2_findWinning_33 (lv_at hl 0 rfl) ?_
        refine lv_if_eq (tgt := 69) hx hb dX2_findWinning_35 (by decide) (fun hc => absurd hc (by decide)) (fun _ => ?_)
        refine lv_aload_n hx hb dX2_findWinning_38 rfl (lv_at hl 3 rfl) ?_
        refine va_get (D := D) (ci := 2) (v := .ref qg_winning) (C := RX2) (T := TX2) (N := 1) hx hb hts hi2 hown hK hP 0 rfl rfl 0 (by decide) (hts (.fieldLink RX2 11 "OverHill$Game" "winning" "[I") (by decide +kernel)) (fun _ h9 => h9) rfl dX2_findWinning_39 ?_
        refine lv_iload_n hx hb dX2_findWinning_42 rfl (lv_at hl 5 rfl) ?_
        refine va_gets hx hb hH.2.2.1 hS hown (hts (.fieldLink RX2 19 "OverHill$Game" "POWERS" "[I") (by decide +kernel)) (fun _ h9 => h9) dX2_findWinning_43 ?_
        refine lv_iload hx hb dX2_findWinning_46 (lv_at hl 1 rfl) ?_
        refine va_ti hx hb hH.2.2.2.1 hS (tq_in (a := 2) (by decide) (by omega)) (v := _) rfl dX2_findWinning_48 ?_
        refine lv_topi (fun z319 ez319 => ?_)
        obtain rfl : z319 = 9 := ez319.trans (by decide)
        refine lv_iadd hx hb dX2_findWinning_49 ?_
        refine lv_topi (fun z320 ez320 => ?_)
        have fz320 : z320.toInt = a2.toInt + 9 := by rw [ez320]; exact tq_add rfl (by decide) (by omega)
        refine va_iald (D := D) hx hb hK hP 1 0 rfl rfl (tq_in rfl (by omega)) dX2_findWinning_50 ?_
        refine lv_topi (fun z321 ez321 => ?_)
        refine lv_aload_n hx hb dX2_findWinning_51 rfl (lv_at hl 4 rfl) ?_
        refine va_get (D := D) (ci := 0) (v := .ref qd_met) (C := RX0) (T := TX0) (N := 17) hx hb hts hi0 hown hK hP 2 rfl rfl 7 (by decide) (hts (.fieldLink RX2 22 "OverHill$Dance" "met" "[I") (by decide +kernel)) (fun _ h9 => h9) rfl dX2_findWinning_52 ?_
        refine lv_iload hx hb dX2_findWinning_55 (lv_at hl 1 rfl) ?_
        refine va_iald (D := D) hx hb hK hP 3 0 rfl rfl (tq_in (a := 2) (by decide) (by omega)) dX2_findWinning_57 ?_
        refine lv_topi (fun z322 ez322 => ?_)
        refine lv_iand hx hb dX2_findWinning_58 ?_
        refine lv_topi (fun z323 ez323 => ?_)
        refine lv_if_ne (tgt := 69) hx hb dX2_findWinning_59 (by decide) (fun hc => ?_) (fun hc => ?_)
        · have hq324 : z323.toInt ≠ 0 := tq_ne rfl (by decide) hc
          have hb325 := tq_lo z323
          refine lv_iinc (v := 3) (lv' := [(4, .int 3), (5, .int 1), (3, .int x276), (0, .ref qg), (1, .ref qd), (2, .int a2)]) hx hb dX2_findWinning_69 hl (k := 1) rfl (by decide) (by decide) rfl (fun ls hl => ?_)
          refine lv_goto (tgt := 5) hx hb dX2_findWinning_72 (by decide) ?_
          have hk326 : (3 : Int32).toInt = 3 := by decide
          exact ih278 (x276, (3 : Int32)) _ _ _ (show (6 - (3 : Int32).toInt).toNat < (6 - x277.toInt).toNat by omega) ⟨(show 0 ≤ (3 : Int32).toInt ∧ (3 : Int32).toInt ≤ 6 by decide), ⟨hP, hD⟩, hS, lv_sub hl [0, 2, 3, 4, 5] rfl⟩
        · have hq324 : z323.toInt = 0 := tq_eq rfl (by decide) hc
          have hb327 := tq_lo z323
          refine lv_iload_n hx hb dX2_findWinning_62 rfl (lv_at hl 2 rfl) ?_
          refine lv_iconst (v := 1) hx hb dX2_findWinning_63 (by decide) ?_
          refine lv_iload hx hb dX2_findWinning_64 (lv_at hl 1 rfl) ?_
          refine lv_ishl hx hb dX2_findWinning_66 ?_
          refine lv_topi (fun z328 ez328 => ?_)
          obtain rfl : z328 = 4 := ez328.trans (by decide)
          refine lv_ior hx hb dX2_findWinning_67 ?_
          refine lv_topi (fun z329 ez329 => ?_)
          refine lv_istore_n (lv' := [(3, .int z329), (5, .int 1), (4, .int 2), (0, .ref qg), (1, .ref qd), (2, .int a2)]) hx hb dX2_findWinning_68 rfl hl (by decide) rfl (fun ls hl => ?_)
          refine lv_iinc (v := 3) (lv' := [(4, .int 3), (3, .int z329), (5, .int 1), (0, .ref qg), (1, .ref qd), (2, .int a2)]) hx hb dX2_findWinning_69 hl (k := 2) rfl (by decide) (by decide) rfl (fun ls hl => ?_)
          refine lv_goto (tgt := 5) hx hb dX2_findWinning_72 (by decide) ?_
          have hk330 : (3 : Int32).toInt = 3 := by decide
          exact ih278 (z329, (3 : Int32)) _ _ _ (show (6 - (3 : Int32).toInt).toNat < (6 - x277.toInt).toNat by omega) ⟨(show 0 ≤ (3 : Int32).toInt ∧ (3 : Int32).toInt ≤ 6 by decide), ⟨hP, hD⟩, hS, lv_sub hl [0, 1, 3, 4, 5] rfl⟩
    · have hj2 : x277 = 3 := tq_of hj (by decide)
      have hl : lv_has ls 6 [(4, .int 3), (3, .int x276), (0, .ref qg), (1, .ref qd), (2, .int a2)] := by have h9 := hl; rw [hj2] at h9; exact h9
      refine lv_iload_n hx hb dX2_findWinning_12 rfl (lv_at hl 4 rfl) ?_
      refine va_gets hx hb hH.2.2.1 hS hown (hts (.fieldLink RX2 19 "OverHill$Game" "POWERS" "[I") (by decide +kernel)) (fun _ h9 => h9) dX2_findWinning_13 ?_
      refine lv_iload hx hb dX2_findWinning_16 (lv_at hl 0 rfl) ?_
      refine va_ti hx hb hH.2.2.2.1 hS (tq_in (a := 3) (by decide) (by omega)) (v := _) rfl dX2_findWinning_18 ?_
      refine lv_topi (fun z331 ez331 => ?_)
      obtain rfl : z331 = 27 := ez331.trans (by decide)
      refine lv_idiv hx hb dX2_findWinning_19 (by decide) ?_
      refine lv_topi (fun z332 ez332 => ?_)
      have fz332 : z332.toInt = a2.toInt / 27 := by rw [ez332]; exact tq_divc (c := 27) rfl (by decide) (by omega) (by omega)
      refine lv_iconst (v := 3) hx hb dX2_findWinning_20 (by decide) ?_
      refine lv_irem hx hb dX2_findWinning_21 (by decide) ?_
      refine lv_topi (fun z333 ez333 => ?_)
      have fz333 : z333.toInt = z332.toInt % 3 := by rw [ez333]; exact tq_remc (c := 3) rfl (by decide) (by omega) (by omega)
      refine lv_iconst (v := 2) hx hb dX2_findWinning_22 (by decide) ?_
      refine lv_icmp_ge (tgt := 30) hx hb dX2_findWinning_23 (by decide) (fun hc => ?_) (fun hc => ?_)
      · have hq334 : 2 ≤ z333.toInt := tq_le (by decide) rfl hc
        refine lv_iconst (v := 0) hx hb dX2_findWinning_30 (by decide) ?_
        refine lv_istore (lv' := [(5, .int 0), (4, .int 3), (3, .int x276), (0, .ref qg), (1, .ref qd), (2, .int a2)]) hx hb dX2_findWinning_31 hl (by decide) rfl (fun ls hl => ?_)
        refine lv_iload hx hb dX2_findWinning_33 (lv_at hl 0 rfl) ?_
        refine lv_if_eq (tgt := 69) hx hb dX2_findWinning_35 (by decide) (fun _ => ?_) (fun hc => absurd hc (by decide))
        refine lv_iinc (v := 4) (lv' := [(4, .int 4), (5, .int 0), (3, .int x276), (0, .ref qg), (1, .ref qd), (2, .int a2)]) hx hb dX2_findWinning_69 hl (k := 1) rfl (by decide) (by decide) rfl (fun ls hl => ?_)
        refine lv_goto (tgt := 5) hx hb dX2_findWinning_72 (by decide) ?_
        have hk335 : (4 : Int32).toInt = 4 := by decide
        exact ih278 (x276, (4 : Int32)) _ _ _ (show (6 - (4 : Int32).toInt).toNat < (6 - x277.toInt).toNat by omega) ⟨(show 0 ≤ (4 : Int32).toInt ∧ (4 : Int32).toInt ≤ 6 by decide), ⟨hP, hD⟩, hS, lv_sub hl [0, 2, 3, 4, 5] rfl⟩
      · have hq334 : z333.toInt < 2 := tq_nle (by decide) rfl hc
        refine lv_iconst (v := 1) hx hb dX2_findWinning_26 (by decide) ?_
        refine lv_goto (tgt := 31) hx hb dX2_findWinning_27 (by decide) ?_
        refine lv_istore (lv' := [(5, .int 1), (4, .int 3), (3, .int x276), (0, .ref qg), (1, .ref qd), (2, .int a2)]) hx hb dX2_findWinning_31 hl (by decide) rfl (fun ls hl => ?_)
        refine lv_iload hx hb dX2_findWinning_33 (lv_at hl 0 rfl) ?_
        refine lv_if_eq (tgt := 69) hx hb dX2_findWinning_35 (by decide) (fun hc => absurd hc (by decide)) (fun _ => ?_)
        refine lv_aload_n hx hb dX2_findWinning_38 rfl (lv_at hl 3 rfl) ?_
        refine va_get (D := D) (ci := 2) (v := .ref qg_winning) (C := RX2) (T := TX2) (N := 1) hx hb hts hi2 hown hK hP 0 rfl rfl 0 (by decide) (hts (.fieldLink RX2 11 "OverHill$Game" "winning" "[I") (by decide +kernel)) (fun _ h9 => h9) rfl dX2_findWinning_39 ?_
        refine lv_iload_n hx hb dX2_findWinning_42 rfl (lv_at hl 5 rfl) ?_
        refine va_gets hx hb hH.2.2.1 hS hown (hts (.fieldLink RX2 19 "OverHill$Game" "POWERS" "[I") (by decide +kernel)) (fun _ h9 => h9) dX2_findWinning_43 ?_
        refine lv_iload hx hb dX2_findWinning_46 (lv_at hl 1 rfl) ?_
        refine va_ti hx hb hH.2.2.2.1 hS (tq_in (a := 3) (by decide) (by omega)) (v := _) rfl dX2_findWinning_48 ?_
        refine lv_topi (fun z336 ez336 => ?_)
        obtain rfl : z336 = 27 := ez336.trans (by decide)
        refine lv_iadd hx hb dX2_findWinning_49 ?_
        refine lv_topi (fun z337 ez337 => ?_)
        have fz337 : z337.toInt = a2.toInt + 27 := by rw [ez337]; exact tq_add rfl (by decide) (by omega)
        refine va_iald (D := D) hx hb hK hP 1 0 rfl rfl (tq_in rfl (by omega)) dX2_findWinning_50 ?_
        refine lv_topi (fun z338 ez338 => ?_)
        refine lv_aload_n hx hb dX2_findWinning_51 rfl (lv_at hl 4 rfl) ?_
        refine va_get (D := D) (ci := 0) (v := .ref qd_met) (C := RX0) (T := TX0) (N := 17) hx hb hts hi0 hown hK hP 2 rfl rfl 7 (by decide) (hts (.fieldLink RX2 22 "OverHill$Dance" "met" "[I") (by decide +kernel)) (fun _ h9 => h9) rfl dX2_findWinning_52 ?_
        refine lv_iload hx hb dX2_findWinning_55 (lv_at hl 1 rfl) ?_
        refine va_iald (D := D) hx hb hK hP 3 0 rfl rfl (tq_in (a := 3) (by decide) (by omega)) dX2_findWinning_57 ?_
        refine lv_topi (fun z339 ez339 => ?_)
        refine lv_iand hx hb dX2_findWinning_58 ?_
        refine lv_topi (fun z340 ez340 => ?_)
        refine lv_if_ne (tgt := 69) hx hb dX2_findWinning_59 (by decide) (fun hc => ?_) (fun hc => ?_)
        · have hq341 : z340.toInt ≠ 0 := tq_ne rfl (by decide) hc
          have hb342 := tq_lo z340
          refine lv_iinc (v := 4) (lv' := [(4, .int 4), (5, .int 1), (3, .int x276), (0, .ref qg), (1, .ref qd), (2, .int a2)]) hx hb dX2_findWinning_69 hl (k := 1) rfl (by decide) (by decide) rfl (fun ls hl => ?_)
          refine lv_goto (tgt := 5) hx hb dX2_findWinning_72 (by decide) ?_
          have hk343 : (4 : Int32).toInt = 4 := by decide
          exact ih278 (x276, (4 : Int32)) _ _ _ (show (6 - (4 : Int32).toInt).toNat < (6 - x277.toInt).toNat by omega) ⟨(show 0 ≤ (4 : Int32).toInt ∧ (4 : Int32).toInt ≤ 6 by decide), ⟨hP, hD⟩, hS, lv_sub hl [0, 2, 3, 4, 5] rfl⟩
        · have hq341 : z340.toInt = 0 := tq_eq rfl (by decide) hc
          have hb344 := tq_lo z340
          refine lv_iload_n hx hb dX2_findWinning_62 rfl (lv_at hl 2 rfl) ?_
          refine lv_iconst (v := 1) hx hb dX2_findWinning_63 (by decide) ?_
          refine lv_iload hx hb dX2_findWinning_64 (lv_at hl 1 rfl) ?_
          refine lv_ishl hx hb dX2_findWinning_66 ?_
          refine lv_topi (fun z345 ez345 => ?_)
          obtain rfl : z345 = 8 := ez345.trans (by decide)
          refine lv_ior hx hb dX2_findWinning_67 ?_
          refine lv_topi (fun z346 ez346 => ?_)
          refine lv_istore_n (lv' := [(3, .int z346), (5, .int 1), (4, .int 3), (0, .ref qg), (1, .ref qd), (2, .int a2)]) hx hb dX2_findWinning_68 rfl hl (by decide) rfl (fun ls hl => ?_)
          refine lv_iinc (v := 4) (lv' := [(4, .int 4), (3, .int z346), (5, .int 1), (0, .ref qg), (1, .ref qd), (2, .int a2)]) hx hb dX2_findWinning_69 hl (k := 2) rfl (by decide) (by decide) rfl (fun ls hl => ?_)
          refine lv_goto (tgt := 5) hx hb dX2_findWinning_72 (by decide) ?_
          have hk347 : (4 : Int32).toInt = 4 := by decide
          exact ih278 (z346, (4 : Int32)) _ _ _ (show (6 - (4 : Int32).toInt).toNat < (6 - x277.toInt).toNat by omega) ⟨(show 0 ≤ (4 : Int32).toInt ∧ (4 : Int32).toInt ≤ 6 by decide), ⟨hP, hD⟩, hS, lv_sub hl [0, 1, 3, 4, 5] rfl⟩
    · have hj2 : x277 = 4 := tq_of hj (by decide)
      have hl : lv_has ls 6 [(4, .int 4), (3, .int x276), (0, .ref qg), (1, .ref qd), (2, .int a2)] := by have h9 := hl; rw [hj2] at h9; exact h9
      refine lv_iload_n hx hb dX2_findWinning_12 rfl (lv_at hl 4 rfl) ?_
      refine va_gets hx hb hH.2.2.1 hS hown (hts (.fieldLink RX2 19 "OverHill$Game" "POWERS" "[I") (by decide +kernel)) (fun _ h9 => h9) dX2_findWinning_13 ?_
      refine lv_iload hx hb dX2_findWinning_16 (lv_at hl 0 rfl) ?_
      refine va_ti hx hb hH.2.2.2.1 hS (tq_in (a := 4) (by decide) (by omega)) (v := _) rfl dX2_findWinning_18 ?_
      refine lv_topi (fun z348 ez348 => ?_)
      obtain rfl : z348 = 81 := ez348.trans (by decide)
      refine lv_idiv hx hb dX2_findWinning_19 (by decide) ?_
      refine lv_topi (fun z349 ez349 => ?_)
      have fz349 : z349.toInt = a2.toInt / 81 := by rw [ez349]; exact tq_divc (c := 81) rfl (by decide) (by omega) (by omega)
      refine lv_iconst (v := 3) hx hb dX2_findWinning_20 (by decide) ?_
      refine lv_irem hx hb dX2_findWinning_21 (by decide) ?_
      refine lv_topi (fun z350 ez350 => ?_)
      have fz350 : z350.toInt = z349.toInt % 3 := by rw [ez350]; exact tq_remc (c := 3) rfl (by decide) (by omega) (by omega)
      refine lv_iconst (v := 2) hx hb dX2_findWinning_22 (by decide) ?_
      refine lv_icmp_ge (tgt := 30) hx hb dX2_findWinning_23 (by decide) (fun hc => ?_) (fun hc => ?_)
      · have hq351 : 2 ≤ z350.toInt := tq_le (by decide) rfl hc
        refine lv_iconst (v := 0) hx hb dX2_findWinning_30 (by decide) ?_
        refine lv_istore (lv' := [(5, .int 0), (4, .int 4), (3, .int x276), (0, .ref qg), (1, .ref qd), (2, .int a2)]) hx hb dX2_findWinning_31 hl (by decide) rfl (fun ls hl => ?_)
        refine lv_iload hx hb dX2_findWinning_33 (lv_at hl 0 rfl) ?_
        refine lv_if_eq (tgt := 69) hx hb dX2_findWinning_35 (by decide) (fun _ => ?_) (fun hc => absurd hc (by decide))
        refine lv_iinc (v := 5) (lv' := [(4, .int 5), (5, .int 0), (3, .int x276), (0, .ref qg), (1, .ref qd), (2, .int a2)]) hx hb dX2_findWinning_69 hl (k := 1) rfl (by decide) (by decide) rfl (fun ls hl => ?_)
        refine lv_goto (tgt := 5) hx hb dX2_findWinning_72 (by decide) ?_
        have hk352 : (5 : Int32).toInt = 5 := by decide
        exact ih278 (x276, (5 : Int32)) _ _ _ (show (6 - (5 : Int32).toInt).toNat < (6 - x277.toInt).toNat by omega) ⟨(show 0 ≤ (5 : Int32).toInt ∧ (5 : Int32).toInt ≤ 6 by decide), ⟨hP, hD⟩, hS, lv_sub hl [0, 2, 3, 4, 5] rfl⟩
      · have hq351 : z350.toInt < 2 := tq_nle (by decide) rfl hc
        refine lv_iconst (v := 1) hx hb dX2_findWinning_26 (by decide) ?_
        refine lv_goto (tgt := 31) hx hb dX2_findWinning_27 (by decide) ?_
        refine lv_istore (lv' := [(5, .int 1), (4, .int 4), (3, .int x276), (0, .ref qg), (1, .ref qd), (2, .int a2)]) hx hb dX2_findWinning_31 hl (by decide) rfl (fun ls hl => ?_)
        refine lv_iload hx hb dX2_findWinning_33 (lv_at hl 0 rfl) ?_
        refine lv_if_eq (tgt := 69) hx hb dX2_findWinning_35 (by decide) (fun hc => absurd hc (by decide)) (fun _ => ?_)
        refine lv_aload_n hx hb dX2_findWinning_38 rfl (lv_at hl 3 rfl) ?_
        refine va_get (D := D) (ci := 2) (v := .ref qg_winning) (C := RX2) (T := TX2) (N := 1) hx hb hts hi2 hown hK hP 0 rfl rfl 0 (by decide) (hts (.fieldLink RX2 11 "OverHill$Game" "winning" "[I") (by decide +kernel)) (fun _ h9 => h9) rfl dX2_findWinning_39 ?_
        refine lv_iload_n hx hb dX2_findWinning_42 rfl (lv_at hl 5 rfl) ?_
        refine va_gets hx hb hH.2.2.1 hS hown (hts (.fieldLink RX2 19 "OverHill$Game" "POWERS" "[I") (by decide +kernel)) (fun _ h9 => h9) dX2_findWinning_43 ?_
        refine lv_iload hx hb dX2_findWinning_46 (lv_at hl 1 rfl) ?_
        refine va_ti hx hb hH.2.2.2.1 hS (tq_in (a := 4) (by decide) (by omega)) (v := _) rfl dX2_findWinning_48 ?_
        refine lv_topi (fun z353 ez353 => ?_)
        obtain rfl : z353 = 81 := ez353.trans (by decide)
        refine lv_iadd hx hb dX2_findWinning_49 ?_
        refine lv_topi (fun z354 ez354 => ?_)
        have fz354 : z354.toInt = a2.toInt + 81 := by rw [ez354]; exact tq_add rfl (by decide) (by omega)
        refine va_iald (D := D) hx hb hK hP 1 0 rfl rfl (tq_in rfl (by omega)) dX2_findWinning_50 ?_
        refine lv_topi (fun z355 ez355 => ?_)
        refine lv_aload_n hx hb dX2_findWinning_51 rfl (lv_at hl 4 rfl) ?_
        refine va_get (D := D) (ci := 0) (v := .ref qd_met) (C := RX0) (T := TX0) (N := 17) hx hb hts hi0 hown hK hP 2 rfl rfl 7 (by decide) (hts (.fieldLink RX2 22 "OverHill$Dance" "met" "[I") (by decide +kernel)) (fun _ h9 => h9) rfl dX2_findWinning_52 ?_
        refine lv_iload hx hb dX2_findWinning_55 (lv_at hl 1 rfl) ?_
        refine va_iald (D := D) hx hb hK hP 3 0 rfl rfl (tq_in (a := 4) (by decide) (by omega)) dX2_findWinning_57 ?_
        refine lv_topi (fun z356 ez356 => ?_)
        refine lv_iand hx hb dX2_findWinning_58 ?_
        refine lv_topi (fun z357 ez357 => ?_)
        refine lv_if_ne (tgt := 69) hx hb dX2_findWinning_59 (by decide) (fun hc => ?_) (fun hc => ?_)
        · have hq358 : z357.toInt ≠ 0 := tq_ne rfl (by decide) hc
          have hb359 := tq_lo z357
          refine lv_iinc (v := 5) (lv' := [(4, .int 5), (5, .int 1), (3, .int x276), (0, .ref qg), (1, .ref qd), (2, .int a2)]) hx hb dX2_findWinning_69 hl (k := 1) rfl (by decide) (by decide) rfl (fun ls hl => ?_)
          refine lv_goto (tgt := 5) hx hb dX2_findWinning_72 (by decide) ?_
          have hk360 : (5 : Int32).toInt = 5 := by decide
          exact ih278 (x276, (5 : Int32)) _ _ _ (show (6 - (5 : Int32).toInt).toNat < (6 - x277.toInt).toNat by omega) ⟨(show 0 ≤ (5 : Int32).toInt ∧ (5 : Int32).toInt ≤ 6 by decide), ⟨hP, hD⟩, hS, lv_sub hl [0, 2, 3, 4, 5] rfl⟩
        · have hq358 : z357.toInt = 0 := tq_eq rfl (by decide) hc
          have hb361 := tq_lo z357
          refine lv_iload_n hx hb dX2_findWinning_62 rfl (lv_at hl 2 rfl) ?_
          refine lv_iconst (v := 1) hx hb dX2_findWinning_63 (by decide) ?_
          refine lv_iload hx hb dX2_findWinning_64 (lv_at hl 1 rfl) ?_
          refine lv_ishl hx hb dX2_findWinning_66 ?_
          refine lv_topi (fun z362 ez362 => ?_)
          obtain rfl : z362 = 16 := ez362.trans (by decide)
          refine lv_ior hx hb dX2_findWinning_67 ?_
          refine lv_topi (fun z363 ez363 => ?_)
          refine lv_istore_n (lv' := [(3, .int z363), (5, .int 1), (4, .int 4), (0, .ref qg), (1, .ref qd), (2, .int a2)]) hx hb dX2_findWinning_68 rfl hl (by decide) rfl (fun ls hl => ?_)
          refine lv_iinc (v := 5) (lv' := [(4, .int 5), (3, .int z363), (5, .int 1), (0, .ref qg), (1, .ref qd), (2, .int a2)]) hx hb dX2_findWinning_69 hl (k := 2) rfl (by decide) (by decide) rfl (fun ls hl => ?_)
          refine lv_goto (tgt := 5) hx hb dX2_findWinning_72 (by decide) ?_
          have hk364 : (5 : Int32).toInt = 5 := by decide
          exact ih278 (z363, (5 : Int32)) _ _ _ (show (6 - (5 : Int32).toInt).toNat < (6 - x277.toInt).toNat by omega) ⟨(show 0 ≤ (5 : Int32).toInt ∧ (5 : Int32).toInt ≤ 6 by decide), ⟨hP, hD⟩, hS, lv_sub hl [0, 1, 3, 4, 5] rfl⟩
    · have hj2 : x277 = 5 := tq_of hj (by decide)
      have hl : lv_has ls 6 [(4, .int 5), (3, .int x276), (0, .ref qg), (1, .ref qd), (2, .int a2)] := by have h9 := hl; rw [hj2] at h9; exact h9
      refine lv_iload_n hx hb dX2_findWinning_12 rfl (lv_at hl 4 rfl) ?_
      refine va_gets hx hb hH.2.2.1 hS hown (hts (.fieldLink RX2 19 "OverHill$Game" "POWERS" "[I") (by decide +kernel)) (fun _ h9 => h9) dX2_findWinning_13 ?_
      refine lv_iload hx hb dX2_findWinning_16 (lv_at hl 0 rfl) ?_
      refine va_ti hx hb hH.2.2.2.1 hS (tq_in (a := 5) (by decide) (by omega)) (v := _) rfl dX2_findWinning_18 ?_
      refine lv_topi (fun z365 ez365 => ?_)
      obtain rfl : z365 = 243 := ez365.trans (by decide)
      refine lv_idiv hx hb dX2_findWinning_19 (by decide) ?_
      refine lv_topi (fun z366 ez366 => ?_)
      have fz366 : z366.toInt = a2.toInt / 243 := by rw [ez366]; exact tq_divc (c := 243) rfl (by decide) (by omega) (by omega)
      refine lv_iconst (v := 3) hx hb dX2_findWinning_20 (by decide) ?_
      refine lv_irem hx hb dX2_findWinning_21 (by decide) ?_
      refine lv_topi (fun z367 ez367 => ?_)
      have fz367 : z367.toInt = z366.toInt % 3 := by rw [ez367]; exact tq_remc (c := 3) rfl (by decide) (by omega) (by omega)
      refine lv_iconst (v := 2) hx hb dX2_findWinning_22 (by decide) ?_
      refine lv_icmp_ge (tgt := 30) hx hb dX2_findWinning_23 (by decide) (fun hc => ?_) (fun hc => ?_)
      · have hq368 : 2 ≤ z367.toInt := tq_le (by decide) rfl hc
        refine lv_iconst (v := 0) hx hb dX2_findWinning_30 (by decide) ?_
        refine lv_istore (lv' := [(5, .int 0), (4, .int 5), (3, .int x276), (0, .ref qg), (1, .ref qd), (2, .int a2)]) hx hb dX2_findWinning_31 hl (by decide) rfl (fun ls hl => ?_)
        refine lv_iload hx hb dX2_findWinning_33 (lv_at hl 0 rfl) ?_
        refine lv_if_eq (tgt := 69) hx hb dX2_findWinning_35 (by decide) (fun _ => ?_) (fun hc => absurd hc (by decide))
        refine lv_iinc (v := 6) (lv' := [(4, .int 6), (5, .int 0), (3, .int x276), (0, .ref qg), (1, .ref qd), (2, .int a2)]) hx hb dX2_findWinning_69 hl (k := 1) rfl (by decide) (by decide) rfl (fun ls hl => ?_)
        refine lv_goto (tgt := 5) hx hb dX2_findWinning_72 (by decide) ?_
        have hk369 : (6 : Int32).toInt = 6 := by decide
        exact ih278 (x276, (6 : Int32)) _ _ _ (show (6 - (6 : Int32).toInt).toNat < (6 - x277.toInt).toNat by omega) ⟨(show 0 ≤ (6 : Int32).toInt ∧ (6 : Int32).toInt ≤ 6 by decide), ⟨hP, hD⟩, hS, lv_sub hl [0, 2, 3, 4, 5] rfl⟩
      · have hq368 : z367.toInt < 2 := tq_nle (by decide) rfl hc
        refine lv_iconst (v := 1) hx hb dX2_findWinning_26 (by decide) ?_
        refine lv_goto (tgt := 31) hx hb dX2_findWinning_27 (by decide) ?_
        refine lv_istore (lv' := [(5, .int 1), (4, .int 5), (3, .int x276), (0, .ref qg), (1, .ref qd), (2, .int a2)]) hx hb dX2_findWinning_31 hl (by decide) rfl (fun ls hl => ?_)
        refine lv_iload hx hb dX2_findWinning_33 (lv_at hl 0 rfl) ?_
        refine lv_if_eq (tgt := 69) hx hb dX2_findWinning_35 (by decide) (fun hc => absurd hc (by decide)) (fun _ => ?_)
        refine lv_aload_n hx hb dX2_findWinning_38 rfl (lv_at hl 3 rfl) ?_
        refine va_get (D := D) (ci := 2) (v := .ref qg_winning) (C := RX2) (T := TX2) (N := 1) hx hb hts hi2 hown hK hP 0 rfl rfl 0 (by decide) (hts (.fieldLink RX2 11 "OverHill$Game" "winning" "[I") (by decide +kernel)) (fun _ h9 => h9) rfl dX2_findWinning_39 ?_
        refine lv_iload_n hx hb dX2_findWinning_42 rfl (lv_at hl 5 rfl) ?_
        refine va_gets hx hb hH.2.2.1 hS hown (hts (.fieldLink RX2 19 "OverHill$Game" "POWERS" "[I") (by decide +kernel)) (fun _ h9 => h9) dX2_findWinning_43 ?_
        refine lv_iload hx hb dX2_findWinning_46 (lv_at hl 1 rfl) ?_
        refine va_ti hx hb hH.2.2.2.1 hS (tq_in (a := 5) (by decide) (by omega)) (v := _) rfl dX2_findWinning_48 ?_
        refine lv_topi (fun z370 ez370 => ?_)
        obtain rfl : z370 = 243 := ez370.trans (by decide)
        refine lv_iadd hx hb dX2_findWinning_49 ?_
        refine lv_topi (fun z371 ez371 => ?_)
        have fz371 : z371.toInt = a2.toInt + 243 := by rw [ez371]; exact tq_add rfl (by decide) (by omega)
        refine va_iald (D := D) hx hb hK hP 1 0 rfl rfl (tq_in rfl (by omega)) dX2_findWinning_50 ?_
        refine lv_topi (fun z372 ez372 => ?_)
        refine lv_aload_n hx hb dX2_findWinning_51 rfl (lv_at hl 4 rfl) ?_
        refine va_get (D := D) (ci := 0) (v := .ref qd_met) (C := RX0) (T := TX0) (N := 17) hx hb hts hi0 hown hK hP 2 rfl rfl 7 (by decide) (hts (.fieldLink RX2 22 "OverHill$Dance" "met" "[I") (by decide +kernel)) (fun _ h9 => h9) rfl dX2_findWinning_52 ?_
        refine lv_iload hx hb dX2_findWinning_55 (lv_at hl 1 rfl) ?_
        refine va_iald (D := D) hx hb hK hP 3 0 rfl rfl (tq_in (a := 5) (by decide) (by omega)) dX2_findWinning_57 ?_
        refine lv_topi (fun z373 ez373 => ?_)
        refine lv_iand hx hb dX2_findWinning_58 ?_
        refine lv_topi (fun z374 ez374 => ?_)
        refine lv_if_ne (tgt := 69) hx hb dX2_findWinning_59 (by decide) (fun hc => ?_) (fun hc => ?_)
        · have hq375 : z374.toInt ≠ 0 := tq_ne rfl (by decide) hc
          have hb376 := tq_lo z374
          refine lv_iinc (v := 6) (lv' := [(4, .int 6), (5, .int 1), (3, .int x276), (0, .ref qg), (1, .ref qd), (2, .int a2)]) hx hb dX2_findWinning_69 hl (k := 1) rfl (by decide) (by decide) rfl (fun ls hl => ?_)
          refine lv_goto (tgt := 5) hx hb dX2_findWinning_72 (by decide) ?_
          have hk377 : (6 : Int32).toInt = 6 := by decide
          exact ih278 (x276, (6 : Int32)) _ _ _ (show (6 - (6 : Int32).toInt).toNat < (6 - x277.toInt).toNat by omega) ⟨(show 0 ≤ (6 : Int32).toInt ∧ (6 : Int32).toInt ≤ 6 by decide), ⟨hP, hD⟩, hS, lv_sub hl [0, 2, 3, 4, 5] rfl⟩
        · have hq375 : z374.toInt = 0 := tq_eq rfl (by decide) hc
          have hb378 := tq_lo z374
          refine lv_iload_n hx hb dX2_findWinning_62 rfl (lv_at hl 2 rfl) ?_
          refine lv_iconst (v := 1) hx hb dX2_findWinning_63 (by decide) ?_
          refine lv_iload hx hb dX2_findWinning_64 (lv_at hl 1 rfl) ?_
          refine lv_ishl hx hb dX2_findWinning_66 ?_
          refine lv_topi (fun z379 ez379 => ?_)
          obtain rfl : z379 = 32 := ez379.trans (by decide)
          refine lv_ior hx hb dX2_findWinning_67 ?_
          refine lv_topi (fun z380 ez380 => ?_)
          refine lv_istore_n (lv' := [(3, .int z380), (5, .int 1), (4, .int 5), (0, .ref qg), (1, .ref qd), (2, .int a2)]) hx hb dX2_findWinning_68 rfl hl (by decide) rfl (fun ls hl => ?_)
          refine lv_iinc (v := 6) (lv' := [(4, .int 6), (3, .int z380), (5, .int 1), (0, .ref qg), (1, .ref qd), (2, .int a2)]) hx hb dX2_findWinning_69 hl (k := 2) rfl (by decide) (by decide) rfl (fun ls hl => ?_)
          refine lv_goto (tgt := 5) hx hb dX2_findWinning_72 (by decide) ?_
          have hk381 : (6 : Int32).toInt = 6 := by decide
          exact ih278 (z380, (6 : Int32)) _ _ _ (show (6 - (6 : Int32).toInt).toNat < (6 - x277.toInt).toNat by omega) ⟨(show 0 ≤ (6 : Int32).toInt ∧ (6 : Int32).toInt ≤ 6 by decide), ⟨hP, hD⟩, hS, lv_sub hl [0, 1, 3, 4, 5] rfl⟩
abbrev w_c_X2_winningStep (cI cJ cB cZ cO : ClassId) (qg : Nat) (qg_winning : Nat) (fg_winning : Nat → Int32) (qd : Nat) (vd_gap : Int32) (vd_odds : Int32) (vd_rain : Int32) (vd_lines : Int32) (qd_steps : Nat) (qd_lengths : Nat) (qd_starts : Nat) (qd_met : Nat) (fd_met : Nat → Int32) (qd_stumbles : Nat) (vd_stumbleCount : Int32) (qd_muds : Nat) (qd_cells : Nat) (vd_cellCount : Int32) (qd_tunes : Nat) (vd_tuneCount : Int32) (qd_changes : Nat) (vd_changeCount : Int32) : va_W := [(qg, .inr (2, [.ref qg_winning])), (qg_winning, .inl (cI, 729, .inl (fg_winning))), dn qd vd_gap vd_odds vd_rain vd_lines qd_steps qd_lengths qd_starts qd_met qd_stumbles vd_stumbleCount qd_muds qd_cells vd_cellCount qd_tunes vd_tuneCount qd_changes vd_changeCount, (qd_met, .inl (cI, 6, .inl (fd_met)))]
set_option maxHeartbeats 4000000 in
set_option maxRecDepth 100000 in
/-- X2 winningStep -/
theorem c_X2_winningStep (l : Launch) (D : va_G) (G : ct_G) (cI cJ cB cZ cO : ClassId) (qg : Nat) (qg_winning : Nat) (fg_winning : Nat → Int32) (qd : Nat) (vd_gap : Int32) (vd_odds : Int32) (vd_rain : Int32) (vd_lines : Int32) (qd_steps : Nat) (qd_lengths : Nat) (qd_starts : Nat) (qd_met : Nat) (fd_met : Nat → Int32) (qd_stumbles : Nat) (vd_stumbleCount : Int32) (qd_muds : Nat) (qd_cells : Nat) (vd_cellCount : Int32) (qd_tunes : Nat) (vd_tuneCount : Int32) (qd_changes : Nat) (vd_changeCount : Int32) (a2 : Int32) (h_vd_gap : 0 ≤ vd_gap.toInt ∧ vd_gap.toInt ≤ 20) (h_vd_stumbleCount : 0 ≤ vd_stumbleCount.toInt ∧ vd_stumbleCount.toInt ≤ 8) (h_vd_cellCount : 0 ≤ vd_cellCount.toInt ∧ vd_cellCount.toInt ≤ 12) (h_vd_tuneCount : 0 ≤ vd_tuneCount.toInt ∧ vd_tuneCount.toInt ≤ 5) (h_vd_changeCount : 0 ≤ vd_changeCount.toInt ∧ vd_changeCount.toInt ≤ 40) (h_a2 : 0 ≤ a2.toInt ∧ a2.toInt ≤ 5) (sz : Nat) : Met l yX2_winningStep wsX2_winningStep ({ frames := 1, cells := 0, slots := 0, locals := 25 }) (va_Pc [.ref qg, .ref qd, .int a2] (ct_P D (ct_T cI cJ cB cZ cO) G (w_c_X2_winningStep cI cJ cB cZ cO qg qg_winning fg_winning qd vd_gap vd_odds vd_rain vd_lines qd_steps qd_lengths qd_starts qd_met fd_met qd_stumbles vd_stumbleCount qd_muds qd_cells vd_cellCount qd_tunes vd_tuneCount qd_changes vd_changeCount) sz)) (va_Qi (fun (rz : Int32) (u : (Nat → Int32)) => True) (fun (u : (Nat → Int32)) t => ct_Q D (va_A (w_c_X2_winningStep cI cJ cB cZ cO qg qg_winning fg_winning qd vd_gap vd_odds vd_rain vd_lines qd_steps qd_lengths qd_starts qd_met fd_met qd_stumbles vd_stumbleCount qd_muds qd_cells vd_cellCount qd_tunes vd_tuneCount qd_changes vd_changeCount) sz) [(qg, .inr (2, [.ref qg_winning])), (qg_winning, .inl (cI, 729, .inl (u))), dn qd vd_gap vd_odds vd_rain vd_lines qd_steps qd_lengths qd_starts qd_met qd_stumbles vd_stumbleCount qd_muds qd_cells vd_cellCount qd_tunes vd_tuneCount qd_changes vd_changeCount, (qd_met, .inl (cI, 6, .inl (fd_met)))] t) (va_A (w_c_X2_winningStep cI cJ cB cZ cO qg qg_winning fg_winning qd vd_gap vd_odds vd_rain vd_lines qd_steps qd_lengths qd_starts qd_met fd_met qd_stumbles vd_stumbleCount qd_muds qd_cells vd_cellCount qd_tunes vd_tuneCount qd_changes vd_changeCount) sz)) 0 0 (va_A (w_c_X2_winningStep cI cJ cB cZ cO qg qg_winning fg_winning qd vd_gap vd_odds vd_rain vd_lines qd_steps qd_lengths qd_starts qd_met fd_met qd_stumbles vd_stumbleCount qd_muds qd_cells vd_cellCount qd_tunes vd_tuneCount qd_changes vd_changeCount) sz) := by
  refine Met.ofW (cc := cX2_winningStep) (maxL := 4) (ret := (some .int)) (by decide) rfl ?_
  intro p e s m args below meth c s₁ B hml hv
  obtain ⟨rfl, hsz, hP, hE, hD0, hH⟩ := hv
  have hx := B.exec
  have hb := B.bytes
  have hr := B.returns
  have hts := atoms_spec (ws := wsX2_winningStep) B.pre
  have hown : s.vm.findClass RX2 = some m.cls := findClass_of_methodNamed B.named
  have hlocks := B.notSynchronized
  have hK := hE.1
  have hi0 : ∀ w ∈ u_ws RX0 TX0 17, w ∈ wsX2_winningStep := fun w h => List.mem_cons_of_mem _ (List.mem_append_right _ h)
  have hi2 : ∀ w ∈ u_ws RX2 TX2 1, w ∈ wsX2_winningStep := fun w h => List.mem_cons_of_mem _ (List.mem_append_left _ (List.mem_append_right _ h))
  subst hsz
  have hD := hD0.self (sz := s.heap.size)
  generalize hAe : va_A (w_c_X2_winningStep cI cJ cB cZ cO qg qg_winning fg_winning qd vd_gap vd_odds vd_rain vd_lines qd_steps qd_lengths qd_starts qd_met fd_met qd_stumbles vd_stumbleCount qd_muds qd_cells vd_cellCount qd_tunes vd_tuneCount qd_changes vd_changeCount) s.heap.size = A at hD hH ⊢
  have hA : ∀ q : Nat, s.heap.size ≤ q → A q := fun q h => by rw [← hAe]; exact Or.inr h
  have hS : va_S A s.heap s.heap [] := va_S.rf
  obtain ⟨hP, hD⟩ : ct_B D A s.heap [(qg, .inr (2, [.ref qg_winning])), (qg_winning, .inl (cI, 729, .inl (fg_winning))), dn qd vd_gap vd_odds vd_rain vd_lines qd_steps qd_lengths qd_starts qd_met qd_stumbles vd_stumbleCount qd_muds qd_cells vd_cellCount qd_tunes vd_tuneCount qd_changes vd_changeCount, (qd_met, .inl (cI, 6, .inl (fd_met)))] := ⟨hP, hD⟩
  have hl := lv_entry ([.ref qg, .ref qd, .int a2]) (n := 4) (Nat.le_of_ble_eq_true rfl)
  rw [lg_entry_eq]
  generalize (lg_sl ([.ref qg, .ref qd, .int a2]) ++ List.replicate (4 - (lg_sl ([.ref qg, .ref qd, .int a2])).length) Slot.unset).toArray = ls at hl ⊢
  have hl : lv_has ls 4 [(0, .ref qg), (1, .ref qd), (2, .int a2)] := hl
  obtain ⟨H, hHe⟩ : ∃ H : Heap, H = s.heap := ⟨_, rfl⟩
  rw [← hHe] at hP
  have hS : va_S A s.heap H [] := by rw [hHe]; exact va_S.rf
  refine ct_start hHe ?_
  refine lv_sipush (v := 728) hx hb dX2_winningStep_0 (by decide) ?_
  refine lv_istore_n (lv' := [(3, .int 728), (0, .ref qg), (1, .ref qd), (2, .int a2)]) hx hb dX2_winningStep_3 rfl hl (by decide) rfl (fun ls hl => ?_)
  refine ct_loop (X := (Nat → Int32) × Int32) (fun x => (x.2.toInt + 2).toNat) (fun x H locs ls => (((-1) ≤ x.2.toInt ∧ x.2.toInt ≤ 728)) ∧ ct_B D A H [(qg, .inr (2, [.ref qg_winning])), (qg_winning, .inl (cI, 729, .inl (x.1))), dn qd vd_gap vd_odds vd_rain vd_lines qd_steps qd_lengths qd_starts qd_met qd_stumbles vd_stumbleCount qd_muds qd_cells vd_cellCount qd_tunes vd_tuneCount qd_changes vd_changeCount, (qd_met, .inl (cI, 6, .inl (fd_met)))] ∧ va_S A s.heap H locs ∧ lv_has ls 4 [(3, .int x.2), (0, .ref qg), (1, .ref qd), (2, .int a2)]) 4 (fg_winning, (728 : Int32)) ⟨(show (-1) ≤ (728 : Int32).toInt ∧ (728 : Int32).toInt ≤ 728 by decide), ⟨hP, hD⟩, hS, lv_sub hl [0, 1, 2, 3] rfl⟩ (fun x ih117 H locs ls hI => ?_)
  obtain ⟨g115, x116⟩ := x
  obtain ⟨h_x116, ⟨hP, hD⟩, hS, hl⟩ := hI
  have h_x116 : ((-1) ≤ x116.toInt ∧ x116.toInt ≤ 728) := h_x116
  obtain ⟨hP, hD⟩ : ct_B D A H [(qg, .inr (2, [.ref qg_winning])), (qg_winning, .inl (cI, 729, .inl (g115))), dn qd vd_gap vd_odds vd_rain vd_lines qd_steps qd_lengths qd_starts qd_met qd_stumbles vd_stumbleCount qd_muds qd_cells vd_cellCount qd_tunes vd_tuneCount qd_changes vd_changeCount, (qd_met, .inl (cI, 6, .inl (fd_met)))] := ⟨hP, hD⟩
  have hl : lv_has ls 4 [(3, .int x116), (0, .ref qg), (1, .ref qd), (2, .int a2)] := hl
  refine lv_iload_n hx hb dX2_winningStep_4 rfl (lv_at hl 0 rfl) ?_
  refine lv_if_lt (tgt := 26) hx hb dX2_winningStep_5 (by decide) (fun hc => ?_) (fun hc => ?_)
  · have hq118 : x116.toInt < 0 := tq_lt rfl (by decide) hc
    refine lv_aload_n hx hb dX2_winningStep_26 rfl (lv_at hl 1 rfl) ?_
    refine va_get (D := D) (ci := 2) (v := .ref qg_winning) (C := RX2) (T := TX2) (N := 1) hx hb hts hi2 hown hK hP 0 rfl rfl 0 (by decide) (hts (.fieldLink RX2 11 "OverHill$Game" "winning" "[I") (by decide +kernel)) (fun _ h9 => h9) rfl dX2_winningStep_27 ?_
    refine va_gets hx hb hH.2.2.1 hS hown (hts (.fieldLink RX2 19 "OverHill$Game" "POWERS" "[I") (by decide +kernel)) (fun _ h9 => h9) dX2_winningStep_30 ?_
    refine lv_iload_n hx hb dX2_winningStep_33 rfl (lv_at hl 3 rfl) ?_
    refine va_ti hx hb hH.2.2.2.1 hS (tq_in rfl (by omega)) (v := _) rfl dX2_winningStep_34 ?_
    refine lv_topi (fun z119 ez119 => ?_)
    have fz119 : 1 ≤ z119.toInt ∧ z119.toInt ≤ 243 := by rw [ez119]; exact ct_pw_ok a2 (by omega) (by omega)
    refine va_iald (D := D) hx hb hK hP 1 0 rfl rfl (tq_in rfl (by omega)) dX2_winningStep_35 ?_
    refine lv_topi (fun z120 ez120 => ?_)
    refine lv_aload_n hx hb dX2_winningStep_36 rfl (lv_at hl 2 rfl) ?_
    refine va_get (D := D) (ci := 0) (v := .ref qd_met) (C := RX0) (T := TX0) (N := 17) hx hb hts hi0 hown hK hP 2 rfl rfl 7 (by decide) (hts (.fieldLink RX2 22 "OverHill$Dance" "met" "[I") (by decide +kernel)) (fun _ h9 => h9) rfl dX2_winningStep_37 ?_
    refine lv_iload_n hx hb dX2_winningStep_40 rfl (lv_at hl 3 rfl) ?_
    refine va_iald (D := D) hx hb hK hP 3 0 rfl rfl (tq_in rfl (by omega)) dX2_winningStep_41 ?_
    refine lv_topi (fun z121 ez121 => ?_)
    refine lv_iand hx hb dX2_winningStep_42 ?_
    refine lv_topi (fun z122 ez122 => ?_)
    refine lv_istore_n (lv' := [(3, .int z122), (0, .ref qg), (1, .ref qd), (2, .int a2)]) hx hb dX2_winningStep_43 rfl hl (by decide) rfl (fun ls hl => ?_)
    refine lv_iload_n hx hb dX2_winningStep_44 rfl (lv_at hl 0 rfl) ?_
    refine lv_if_ne (tgt := 52) hx hb dX2_winningStep_45 (by decide) (fun hc => ?_) (fun hc => ?_)
    · have hq123 : z122.toInt ≠ 0 := tq_ne rfl (by decide) hc
      have hb124 := tq_lo z122
      refine lv_iload_n hx hb dX2_winningStep_52 rfl (lv_at hl 0 rfl) ?_
      refine ct_calli (D := D) (wr := [(qg, .inr (2, [.ref qg_winning])), (qg_winning, .inl (cI, 729, .inl (g115))), dn qd vd_gap vd_odds vd_rain vd_lines qd_steps qd_lengths qd_starts qd_met qd_stumbles vd_stumbleCount qd_muds qd_cells vd_cellCount qd_tunes vd_tuneCount qd_changes vd_changeCount, (qd_met, .inl (cI, 6, .inl (fd_met)))]) (va_runS (As := [.int z122]) (rest := []) ⟨hx, hb, hml, hown, hts⟩ (c_J6_numberOfTrailingZeros_0f7a4 l D G cI cJ cB cZ cO z122  H.size) (va_cwS 1 hts gX2_winningStep_J6_numberOfTrailingZeros_0f7a4 rfl rfl rfl (by decide +kernel) ⟨Nat.le_of_ble_eq_true rfl, Nat.le_of_ble_eq_true rfl⟩) (ct_preS (T := ct_T cI cJ cB cZ cO) hE hH hP hD hS hA [] (by decide) rfl) rfl rfl hl.1 rfl (lv_room (Nat.le_of_ble_eq_true rfl)) dX2_winningStep_53 ⟨Nat.le_of_ble_eq_true rfl, Nat.le_of_ble_eq_true rfl⟩) hP hD hS hA [] [0, 1, 2, 3] rfl rfl (by decide) (by decide) (fun r125 u H locs hw hP hD hS => ?_)
      obtain ⟨hP, hD⟩ : ct_B D A H [(qg, .inr (2, [.ref qg_winning])), (qg_winning, .inl (cI, 729, .inl (g115))), dn qd vd_gap vd_odds vd_rain vd_lines qd_steps qd_lengths qd_starts qd_met qd_stumbles vd_stumbleCount qd_muds qd_cells vd_cellCount qd_tunes vd_tuneCount qd_changes vd_changeCount, (qd_met, .inl (cI, 6, .inl (fd_met)))] := ⟨hP, hD⟩
      obtain ⟨hP9, hD9⟩ : ct_B D A H [(qg, .inr (2, [.ref qg_winning])), (qg_winning, .inl (cI, 729, .inl (g115))), dn qd vd_gap vd_odds vd_rain vd_lines qd_steps qd_lengths qd_starts qd_met qd_stumbles vd_stumbleCount qd_muds qd_cells vd_cellCount qd_tunes vd_tuneCount qd_changes vd_changeCount, (qd_met, .inl (cI, 6, .inl (fd_met)))] := ⟨hP.sub [0, 1, 2, 3] rfl, hD.sub [0, 1, 2, 3] (by decide) rfl⟩
      exact W.iret (v := r125) hx hb hr (fun t ht hW => ⟨⟨r125, g115, rfl, trivial, by rw [ht]; exact hP9, hD9⟩, hS.F ht⟩) hS.2.2 dX2_winningStep_56
    · have hq123 : z122.toInt = 0 := tq_eq rfl (by decide) hc
      have hb126 := tq_lo z122
      refine lv_iconst (v := (-1)) hx hb dX2_winningStep_48 (by decide) ?_
      refine lv_goto (tgt := 56) hx hb dX2_winningStep_49 (by decide) ?_
      obtain ⟨hP9, hD9⟩ : ct_B D A H [(qg, .inr (2, [.ref qg_winning])), (qg_winning, .inl (cI, 729, .inl (g115))), dn qd vd_gap vd_odds vd_rain vd_lines qd_steps qd_lengths qd_starts qd_met qd_stumbles vd_stumbleCount qd_muds qd_cells vd_cellCount qd_tunes vd_tuneCount qd_changes vd_changeCount, (qd_met, .inl (cI, 6, .inl (fd_met)))] := ⟨hP.sub [0, 1, 2, 3] rfl, hD.sub [0, 1, 2, 3] (by decide) rfl⟩
      exact W.iret (v := (-1)) hx hb hr (fun t ht hW => ⟨⟨(-1), g115, rfl, trivial, by rw [ht]; exact hP9, hD9⟩, hS.F ht⟩) hS.2.2 dX2_winningStep_56
  · have hq118 : 0 ≤ x116.toInt := tq_nlt rfl (by decide) hc
    refine lv_aload_n hx hb dX2_winningStep_8 rfl (lv_at hl 1 rfl) ?_
    refine va_get (D := D) (ci := 2) (v := .ref qg_winning) (C := RX2) (T := TX2) (N := 1) hx hb hts hi2 hown hK hP 0 rfl rfl 0 (by decide) (hts (.fieldLink RX2 11 "OverHill$Game" "winning" "[I") (by decide +kernel)) (fun _ h9 => h9) rfl dX2_winningStep_9 ?_
    refine lv_iload_n hx hb dX2_winningStep_12 rfl (lv_at hl 0 rfl) ?_
    refine lv_aload_n hx hb dX2_winningStep_13 rfl (lv_at hl 1 rfl) ?_
    refine lv_aload_n hx hb dX2_winningStep_14 rfl (lv_at hl 2 rfl) ?_
    refine lv_iload_n hx hb dX2_winningStep_15 rfl (lv_at hl 0 rfl) ?_
    refine ct_calli (D := D) (wr := []) (va_runV (As := [.ref qd, .int x116]) (rest := [.int x116, .ref qg_winning]) ⟨hx, hb, hml, hown, hts⟩ (c_X2_findWinning l D G cI cJ cB cZ cO qg qg_winning g115 qd vd_gap vd_odds vd_rain vd_lines qd_steps qd_lengths qd_starts qd_met fd_met qd_stumbles vd_stumbleCount qd_muds qd_cells vd_cellCount qd_tunes vd_tuneCount qd_changes vd_changeCount x116 h_vd_gap h_vd_stumbleCount h_vd_cellCount h_vd_tuneCount h_vd_changeCount (by omega) H.size) (cwV 2 hts gX2_winningStep_X2_findWinning rfl rfl rfl (by decide +kernel) ⟨Nat.le_of_ble_eq_true rfl, Nat.le_of_ble_eq_true rfl⟩) (ct_preV (T := ct_T cI cJ cB cZ cO) (ci := 2) (q0 := 0) hE hH hP hD hS hA [0, 1, 2, 3] (by decide) rfl rfl rfl) rfl rfl hl.1 rfl (lv_room (Nat.le_of_ble_eq_true rfl)) dX2_winningStep_16 ⟨Nat.le_of_ble_eq_true rfl, Nat.le_of_ble_eq_true rfl⟩) hP hD hS hA [0, 1, 2, 3] [] rfl rfl (by decide) (by decide) (fun r127 u H locs hw hP hD hS => ?_)
    obtain ⟨hP, hD⟩ : ct_B D A H [(qg, .inr (2, [.ref qg_winning])), (qg_winning, .inl (cI, 729, .inl (g115))), dn qd vd_gap vd_odds vd_rain vd_lines qd_steps qd_lengths qd_starts qd_met qd_stumbles vd_stumbleCount qd_muds qd_cells vd_cellCount qd_tunes vd_tuneCount qd_changes vd_changeCount, (qd_met, .inl (cI, 6, .inl (fd_met)))] := ⟨hP, hD⟩
    refine va_iast (D := D) hx hb hK hP hD hS 1 0 rfl rfl (tq_in rfl (by omega)) dX2_winningStep_19 (fun H locs hP hD hS => ?_)
    obtain ⟨g128, hP, hD⟩ : ∃ g128 : Nat → Int32, ct_B D A H [(qg, .inr (2, [.ref qg_winning])), (qg_winning, .inl (cI, 729, .inl (g128))), dn qd vd_gap vd_odds vd_rain vd_lines qd_steps qd_lengths qd_starts qd_met qd_stumbles vd_stumbleCount qd_muds qd_cells vd_cellCount qd_tunes vd_tuneCount qd_changes vd_changeCount, (qd_met, .inl (cI, 6, .inl (fd_met)))] := ⟨_, hP, hD⟩
    obtain ⟨z129, ez129⟩ : ∃ z : Int32, z = x116 + (-1) := ⟨_, rfl⟩
    have fz129 : z129.toInt = x116.toInt + (-1) := by rw [ez129]; exact tq_add rfl (by decide) (by omega)
    refine lv_iinc (v := z129) (lv' := [(3, .int z129), (0, .ref qg), (1, .ref qd), (2, .int a2)]) hx hb dX2_winningStep_20 hl (k := 0) rfl ez129.symm (by decide) rfl (fun ls hl => ?_)
    refine lv_goto (tgt := 4) hx hb dX2_winningStep_23 (by decide) ?_
    exact ih117 (g128, z129) _ _ _ (show (z129.toInt + 2).toNat < (x116.toInt + 2).toNat by omega) ⟨(show (-1) ≤ z129.toInt ∧ z129.toInt ≤ 728 by omega), ⟨hP, hD⟩, hS, lv_sub hl [0, 1, 2, 3] rfl⟩
