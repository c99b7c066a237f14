abbrev ct_nl : List (String × Nat × MethodName × String) := [(RX11, 9, yX5_init, "OverHill"), (RX5, 11, yX8_init, "OverHill"), (RX11, 23, yX0_init, "OverHill"), (RX11, 41, yX1_init, "OverHill"), (RX11, 55, yX6_init, "OverHill"), (RX11, 62, yX3_init, "OverHill"), (RX11, 69, yX10_init, "OverHill"), (RX11, 76, yX9_init, "OverHill"), (RX11, 83, yX2_init, "OverHill"), (RX11, 90, yX4_init, "OverHill"), (RX11, 97, yX7_init, "OverHill"), (RX0, 76, yX11_isWithin, "OverHill"), (RX1, 61, yX11_wrap, "OverHill"), (RX6, 20, yX11_commonMultiple, "OverHill"), (RX6, 78, yX11_wrap, "OverHill"), (RX7, 22, yX11_isWithin, "OverHill"), (RX3, 71, yX11_wrap, "OverHill"), (RX10, 24, yX11_wrap, "OverHill"), (RX7, 66, yX11_wrap, "OverHill"), (RX9, 34, yX11_commonMultiple, "OverHill"), (RX4, 66, yX11_wrap, "OverHill")]
abbrev ct_sx : List (Nat × String) := [(46, "dance"), (95, "gap"), (107, "odds"), (111, "rain"), (62, "round"), (115, "of"), (128, "begins"), (67, "answers"), (72, "stumble"), (145, "at"), (150, "does"), (152, "lag"), (77, "mud"), (82, "wood"), (164, "every"), (87, "tune")]
abbrev ct_len : List Nat := [5, 3, 4, 4, 5, 2, 6, 7, 7, 2, 4, 3, 3, 4, 5, 4]
abbrev ct_byt : List (List Int32) := [[100, 97, 110, 99, 101], [103, 97, 112], [111, 100, 100, 115], [114, 97, 105, 110], [114, 111, 117, 110, 100], [111, 102], [98, 101, 103, 105, 110, 115], [97, 110, 115, 119, 101, 114, 115], [115, 116, 117, 109, 98, 108, 101], [97, 116], [100, 111, 101, 115], [108, 97, 103], [109, 117, 100], [119, 111, 111, 100], [101, 118, 101, 114, 121], [116, 117, 110, 101]]
abbrev ct_pw : List Int32 := [1, 3, 9, 27, 81, 243]
/-! what every contract of this claim stands on: the environment (tables, nest mates), a start, an end, a call -/
abbrev ct_T (cI cJ cB cZ cO : ClassId) : List (ClassId × FieldType) := [(cI, .int), (cJ, .long), (cB, .byte), (cZ, .boolean), (cO, .object RX0)]
abbrev ct_G : Type := (Nat → Nat) × (Nat → Nat) × Nat
def ct_E (D : va_G) (T : List (ClassId × FieldType)) (G : ct_G) (U : State) : Prop := va_K D vwCl T U ∧ (∀ q ∈ ct_nl, va_Nw (.methodLinkNest q.1 q.2.1 q.2.2.1 q.2.2.2) U) ∧ va_AO RX0 U ∧ ∀ i : Nat, i < 16 → vk_R RX5 (ct_sx.getD i (0, "")).1 (ct_sx.getD i (0, "")).2 (G.1 i) U
def ct_H (G : ct_G) (A : Nat → Prop) (U : State) (H : Heap) : Prop := vk_S 16 ct_len ct_byt G.1 G.2.1 A U H ∧ va_Z "java/lang/String" "COMPACT_STRINGS" "Z" (.int 1) A U H ∧ va_Z RX2 "POWERS" "[I" (.ref G.2.2) A U H ∧ va_T .int G.2.2 6 (fun j => .int (ct_pw.getD j 0)) A U H ∧ va_Zq "jdk/internal/util/Preconditions" "SIOOBE_FORMATTER" "Ljava/util/function/BiFunction;" A U H
theorem ct_H.moved {G : ct_G} {A : Nat → Prop} {u U : State} {H : Heap} (hvm : u.vm.Alike U.vm) (h : ct_H G A u H) : ct_H G A U H := ⟨vk_S.moved hvm h.1, va_Z.moved hvm h.2.1, va_Z.moved hvm h.2.2.1, va_T.moved hvm h.2.2.2.1, va_Zq.moved hvm h.2.2.2.2⟩
theorem ct_H.kept {G : ct_G} {A : Nat → Prop} {U : State} {H H1 : Heap} (h : ct_H G A U H) (hq : ∀ a : Nat, a < H.size → ¬ A a → H1[a]? = H[a]?) : ct_H G A U H1 := ⟨h.1.kept hq, h.2.1.kept hq, h.2.2.1.kept hq, h.2.2.2.1.kept hq, h.2.2.2.2.kept hq⟩
theorem ct_H.narrow {G : ct_G} {A B : Nat → Prop} {U : State} {H : Heap} (h : ct_H G A U H) (hAB : ∀ q, B q → A q) : ct_H G B U H := ⟨h.1.narrow hAB, h.2.1.narrow hAB, h.2.2.1.narrow hAB, h.2.2.2.1.narrow hAB, h.2.2.2.2.narrow hAB⟩
theorem ct_E.warm {D : va_G} {T : List (ClassId × FieldType)} {G : ct_G} {s U : State} (h : ct_E D T G s) (hW : s.WarmedH U.vm) : ct_E D T G U :=
  ⟨va_K.moved hW.alike h.1, fun q hq => va_Nw.warmM hW (h.2.1 q hq), va_AO.moved hW.alike h.2.2.1, fun i hi => vk_R.warm hW (h.2.2.2 i hi)⟩
theorem ct_E.call {D : va_G} {T : List (ClassId × FieldType)} {G : ct_G} {U : State} {g : JFrame} {mk : MethodId} {a : Array Value} (h : ct_E D T G U) : ct_E D T G (U.calling g mk a) :=
  ⟨va_K.moved (u := U) (U := U.calling g mk a) (Vm.Alike.refl U.vm) h.1, fun q hq => va_Nw.same (u := U) (U := U.calling g mk a) rfl rfl (h.2.1 q hq), va_AO.moved (u := U) (U := U.calling g mk a) (Vm.Alike.refl U.vm) h.2.2.1, fun i hi => vk_R.same (u := U) (U := U.calling g mk a) rfl (h.2.2.2 i hi)⟩
def ct_P (D : va_G) (T : List (ClassId × FieldType)) (G : ct_G) (w : va_W) (sz : Nat) (U : State) : Prop := U.heap.size = sz ∧ va_P D vwCl w U.heap ∧ ct_E D T G U ∧ va_D (fun _ => True) w ∧ ct_H G (va_A w sz) U U.heap
abbrev ct_B (D : va_G) (A : Nat → Prop) (H : Heap) (w : va_W) : Prop := va_P D vwCl w H ∧ va_D A w
abbrev ct_Q (D : va_G) (A : Nat → Prop) (w : va_W) (t : State) : Prop := va_P D vwCl w t.heap ∧ va_D A w
theorem ct_blind {D : va_G} {T : List (ClassId × FieldType)} {G : ct_G} {w : va_W} {sz : Nat} {av : List Value} : FrameBlind (va_Pc av (ct_P D T G w sz)) := fun a U g mk q => by
  obtain ⟨q0, q1, qP, qE, qD, qH⟩ := q
  exact ⟨q0, q1, qP, qE.call, qD, ct_H.moved (u := U) (U := U.calling g mk a) (Vm.Alike.refl U.vm) qH⟩
theorem ct_sub {ws wc : va_W} {is : List Nat} (hC : is.map (fun i => ws[i]?) = wc.map some) : ∀ (k : Nat) (q : Nat × va_E), wc[k]? = some q → ∃ i, is[k]? = some i ∧ ws[i]? = some q := by
  intro k q hq
  have h1 : (is.map (fun i => ws[i]?))[k]? = some (some q) := by rw [hC, List.getElem?_map, hq]; rfl
  rw [List.getElem?_map] at h1
  cases hi : is[k]? with
  | none => rw [hi] at h1; cases h1
  | some i => rw [hi] at h1; exact ⟨i, rfl, Option.some.inj h1⟩
theorem ct_pP {D : va_G} {cl : List vw_C} {ws wc : va_W} {H : Heap} {is : List Nat} (hP : va_P D cl ws H) (hC : is.map (fun i => ws[i]?) = wc.map some) : va_P D cl wc H := fun k q hq => by
  obtain ⟨i, -, h⟩ := ct_sub hC k q hq
  exact hP i q h
theorem ct_pD {A : Nat → Prop} {ws wc : va_W} {is : List Nat} (hD : va_D A ws) (hn : va_nd is = true) (hC : is.map (fun i => ws[i]?) = wc.map some) : va_D (fun _ => True) wc := (hD.sub is hn hC).weaken (fun _ _ _ _ => trivial)
theorem ct_pH {G : ct_G} {s U : State} {H : Heap} {A : Nat → Prop} {locs : List Loc} {ws wc : va_W} {is : List Nat} (hH : ct_H G A s s.heap) (hD : va_D A ws) (hS : va_S A s.heap H locs) (hA : ∀ q, s.heap.size ≤ q → A q) (hC : is.map (fun i => ws[i]?) = wc.map some) (hU : U.heap = H) (hW : s.WarmedH U.vm) : ct_H G (va_A wc H.size) U U.heap := by
  rw [hU]
  exact ((hH.kept hS.2.1).narrow (va_free (wc := wc) hD hS hA is hC)).moved hW.alike
theorem ct_preS {D : va_G} {T : List (ClassId × FieldType)} {G : ct_G} {s : State} {H : Heap} {A : Nat → Prop} {locs : List Loc} {ws wc : va_W} {As : List Value} (hE : ct_E D T G s) (hH : ct_H G A s s.heap) (hP : va_P D vwCl ws H) (hD : va_D A ws) (hS : va_S A s.heap H locs) (hA : ∀ q, s.heap.size ≤ q → A q) (is : List Nat) (hn : va_nd is = true) (hC : is.map (fun i => ws[i]?) = wc.map some) : PreS s H (va_Pc As (ct_P D T G wc H.size)) As :=
  ⟨ct_blind, fun U hU hW => ⟨rfl, by rw [hU], by rw [hU]; exact ct_pP hP hC, hE.warm hW, ct_pD hD hn hC, ct_pH hH hD hS hA hC hU hW⟩⟩
theorem ct_preV {D : va_G} {T : List (ClassId × FieldType)} {G : ct_G} {s : State} {H : Heap} {A : Nat → Prop} {locs : List Loc} {ws wc : va_W} {As : List Value} {b q0 ci : Nat} {q : vw_C} {fs : List Value} (hE : ct_E D T G s) (hH : ct_H G A s s.heap) (hP : va_P D vwCl ws H) (hD : va_D A ws) (hS : va_S A s.heap H locs) (hA : ∀ q, s.heap.size ≤ q → A q) (is : List Nat) (hn : va_nd is = true) (hC : is.map (fun i => ws[i]?) = wc.map some) (hc : vwCl[ci]? = some q) (he : ws[q0]? = some (b, .inr (ci, fs))) : PreV s H q.1 b (va_Pc (.ref b :: As) (ct_P D T G wc H.size)) As :=
  ⟨ct_blind, va_recv hE.1 hP hc he, fun U hU hW => ⟨rfl, by rw [hU], by rw [hU]; exact ct_pP hP hC, hE.warm hW, ct_pD hD hn hC, ct_pH hH hD hS hA hC hU hW⟩⟩
theorem ct_preK {D : va_G} {T : List (ClassId × FieldType)} {G : ct_G} {s : State} {H : Heap} {A : Nat → Prop} {locs : List Loc} {ws wc : va_W} {As : List Value} {i : Nat} (hE : ct_E D T G s) (hH : ct_H G A s s.heap) (hP : va_P D vwCl ws H) (hD : va_D A ws) (hS : va_S A s.heap H locs) (hA : ∀ q, s.heap.size ≤ q → A q) (hi : i < 16) (is : List Nat) (hn : va_nd is = true) (hC : is.map (fun i => ws[i]?) = wc.map some) : PreV s H "java/lang/String" (G.1 i) (va_Pc (.ref (G.1 i) :: As) (ct_P D T G wc H.size)) As :=
  ⟨ct_blind, vk_recv hH.1 hi hS, fun U hU hW => ⟨rfl, by rw [hU], by rw [hU]; exact ct_pP hP hC, hE.warm hW, ct_pD hD hn hC, ct_pH hH hD hS hA hC hU hW⟩⟩
section CTC
variable {p : Program} {l : Launch} {e : Env} {R : Room} {s : State} {m : MethodId} {args : Array Value} {below : List Frame} {meth : Method} {c : Code} {H : Heap} {locs : List Loc} {cells slots : Nat} {Q : State → Prop}
variable {pc : Nat} {ls : Array Slot} {rest st0 : List Value} {a : Array Value} {A0 : Nat → Prop} {mc ms : Nat} {D : va_G} {ws wc wr : va_W}
theorem ct_calli {S : Type} {post : Int32 → S → Prop} {w1 : S → va_W} (hr : va_Run p l e R s m args below meth c H locs cells slots mc ms (F0 m pc ls st0) rest (va_Qi post (fun u t => ct_Q D (va_A wc H.size) (w1 u) t) (va_A wc H.size) a) (va_A wc H.size)) (hP : va_P D vwCl ws H) (hD : va_D A0 ws) (hS : va_S A0 s.heap H locs) (hA : ∀ q, s.heap.size ≤ q → A0 q)
    (isC isR : List Nat) (hC : isC.map (fun i => ws[i]?) = wc.map some) (hR : isR.map (fun i => ws[i]?) = wr.map some) (hn : va_nd isR = true) (hdis : ∀ i ∈ isR, i ∉ isC)
    (kk : ∀ (r : Int32) (u : S) (H1 : Heap) (locs1 : List Loc), post r u → va_P D vwCl (wr ++ w1 u) H1 → va_D A0 (wr ++ w1 u) → va_S A0 s.heap H1 locs1 → W p l e R s m args below meth c H1 locs1 (cells + mc) (slots + ms) Q (F0 m (pc + 3) ls (.int r :: rest))) : W p l e R s m args below meth c H locs cells slots Q (F0 m pc ls st0) := by
  have hFc := va_free (wc := wc) hD hS hA isC hC
  refine va_calli hr hS (fun q _ h => hFc q h) hFc (fun r u t H1 locs1 ht hvm hw hB hz1 hk1 hS1 => ?_)
  obtain ⟨hP1, hD1⟩ := hB
  rw [ht] at hP1
  obtain ⟨hP2, hD2⟩ := va_join hP hD isC isR hC hR hn hdis hk1 hFc hP1 hD1
  exact kk r u H1 locs1 hw hP2 hD2 hS1
theorem ct_calll {S : Type} {post : Int64 → S → Prop} {w1 : S → va_W} (hr : va_Run p l e R s m args below meth c H locs cells slots mc ms (F0 m pc ls st0) rest (va_Ql post (fun u t => ct_Q D (va_A wc H.size) (w1 u) t) (va_A wc H.size) a) (va_A wc H.size)) (hP : va_P D vwCl ws H) (hD : va_D A0 ws) (hS : va_S A0 s.heap H locs) (hA : ∀ q, s.heap.size ≤ q → A0 q)
    (isC isR : List Nat) (hC : isC.map (fun i => ws[i]?) = wc.map some) (hR : isR.map (fun i => ws[i]?) = wr.map some) (hn : va_nd isR = true) (hdis : ∀ i ∈ isR, i ∉ isC)
    (kk : ∀ (r : Int64) (u : S) (H1 : Heap) (locs1 : List Loc), post r u → va_P D vwCl (wr ++ w1 u) H1 → va_D A0 (wr ++ w1 u) → va_S A0 s.heap H1 locs1 → W p l e R s m args below meth c H1 locs1 (cells + mc) (slots + ms) Q (F0 m (pc + 3) ls (.long r :: rest))) : W p l e R s m args below meth c H locs cells slots Q (F0 m pc ls st0) := by
  have hFc := va_free (wc := wc) hD hS hA isC hC
  refine va_calll hr hS (fun q _ h => hFc q h) hFc (fun r u t H1 locs1 ht hvm hw hB hz1 hk1 hS1 => ?_)
  obtain ⟨hP1, hD1⟩ := hB
  rw [ht] at hP1
  obtain ⟨hP2, hD2⟩ := va_join hP hD isC isR hC hR hn hdis hk1 hFc hP1 hD1
  exact kk r u H1 locs1 hw hP2 hD2 hS1
theorem ct_callv {S : Type} {post : S → Prop} {w1 : S → va_W} (hr : va_Run p l e R s m args below meth c H locs cells slots mc ms (F0 m pc ls st0) rest (va_Qv post (fun u t => ct_Q D (va_A wc H.size) (w1 u) t) (va_A wc H.size) a) (va_A wc H.size)) (hP : va_P D vwCl ws H) (hD : va_D A0 ws) (hS : va_S A0 s.heap H locs) (hA : ∀ q, s.heap.size ≤ q → A0 q)
    (isC isR : List Nat) (hC : isC.map (fun i => ws[i]?) = wc.map some) (hR : isR.map (fun i => ws[i]?) = wr.map some) (hn : va_nd isR = true) (hdis : ∀ i ∈ isR, i ∉ isC)
    (kk : ∀ (u : S) (H1 : Heap) (locs1 : List Loc), post u → va_P D vwCl (wr ++ w1 u) H1 → va_D A0 (wr ++ w1 u) → va_S A0 s.heap H1 locs1 → W p l e R s m args below meth c H1 locs1 (cells + mc) (slots + ms) Q (F0 m (pc + 3) ls rest)) : W p l e R s m args below meth c H locs cells slots Q (F0 m pc ls st0) := by
  have hFc := va_free (wc := wc) hD hS hA isC hC
  refine va_callv hr hS (fun q _ h => hFc q h) hFc (fun u t H1 locs1 ht hvm hw hB hz1 hk1 hS1 => ?_)
  obtain ⟨hP1, hD1⟩ := hB
  rw [ht] at hP1
  obtain ⟨hP2, hD2⟩ := va_join hP hD isC isR hC hR hn hdis hk1 hFc hP1 hD1
  exact kk u H1 locs1 hw hP2 hD2 hS1
theorem ct_callr {S : Type} {post : S → Prop} {w1 : S → va_W} {ad : Nat} (hr : va_Run p l e R s m args below meth c H locs cells slots mc ms (F0 m pc ls st0) rest (va_Qr post (fun u rq t => rq = ad ∧ ct_Q D (va_A wc H.size) (w1 u) t) (va_A wc H.size) a) (va_A wc H.size)) (hP : va_P D vwCl ws H) (hD : va_D A0 ws) (hS : va_S A0 s.heap H locs) (hA : ∀ q, s.heap.size ≤ q → A0 q)
    (isC isR : List Nat) (hC : isC.map (fun i => ws[i]?) = wc.map some) (hR : isR.map (fun i => ws[i]?) = wr.map some) (hn : va_nd isR = true) (hdis : ∀ i ∈ isR, i ∉ isC)
    (kk : ∀ (u : S) (H1 : Heap) (locs1 : List Loc), post u → va_P D vwCl (wr ++ w1 u) H1 → va_D A0 (wr ++ w1 u) → va_S A0 s.heap H1 locs1 → W p l e R s m args below meth c H1 locs1 (cells + mc) (slots + ms) Q (F0 m (pc + 3) ls (.ref ad :: rest))) : W p l e R s m args below meth c H locs cells slots Q (F0 m pc ls st0) := by
  have hFc := va_free (wc := wc) hD hS hA isC hC
  refine va_callr hr hS (fun q _ h => hFc q h) hFc (fun u aa t H1 locs1 ht hvm hw hB hz1 hk1 hS1 => ?_)
  obtain ⟨rfl, hP1, hD1⟩ := hB
  rw [ht] at hP1
  obtain ⟨hP2, hD2⟩ := va_join hP hD isC isR hC hR hn hdis hk1 hFc hP1 hD1
  exact kk u H1 locs1 hw hP2 hD2 hS1
end CTC
/-- one class of arrays of a kind -/
theorem ct_one {s : State} {D : va_G} {cl : List vw_C} {T T' : List (ClassId × FieldType)} {ty : FieldType} {cA cB : ClassId} (h : va_K D cl T s) (h' : va_K D cl T' s) (i j : Nat) (hi : T[i]? = some (cA, ty)) (hj : T'[j]? = some (cB, ty)) (ht : refKind ty = false) : cB = cA := by
  have h1 := (h.2 i _ hi).2
  have h2 := (h'.2 j _ hj).2
  cases ty <;> simp [refKind] at ht <;> exact Option.some.inj (h2.symm.trans h1)
section CTN
variable {p : Program} {l : Launch} {e : Env} {R : Room} {s : State} {m : MethodId} {args : Array Value} {below : List Frame} {meth : Method} {c : Code} {H : Heap} {locs : List Loc} {cells slots : Nat} {Q : State → Prop}
variable {cc : ByteArray} {pc : Nat} {ls : Array Slot} {rest : List Value} {D : va_G} {cl : List vw_C} {A : Nat → Prop} {T : List (ClassId × FieldType)} {ws : va_W} {H0 : Heap}
theorem ct_newi (hx : p.tables.exec = Jvm.exec) (hb : c.code = cc) (harr : (Cond.arrayClass .int).before args s = true) {cI : ClassId} (hT : T[0]? = some (cI, .int)) (hK : va_K D cl T s) (hP : va_P D cl ws H) (hD : va_D A ws) (hS : va_S A H0 H locs) (hA : ∀ q, H0.size ≤ q → A q) {n : Int32} (N' : Nat) (hn : ¬ n < 0) (hN : n.toNatClampNeg = N') (hby : N' * 4 ≤ 536870912) (hcells : cells + 1 ≤ R.cells) (hslots : slots + N' ≤ R.slots) (hdg : decode cc pc = .ok (.newarray .int, 2))
    (kk : ∀ (q : Nat) (H1 : Heap), va_P D cl (ws ++ [(q, .inl (cI, N', .inl (fun _ => 0)))]) H1 → va_D A (ws ++ [(q, .inl (cI, N', .inl (fun _ => 0)))]) → va_S A H0 H1 locs → W p l e R s m args below meth c H1 locs (cells + 1) (slots + N') Q (F0 m (pc + 2) ls (.ref q :: rest))) : W p l e R s m args below meth c H locs cells slots Q (F0 m pc ls (.int n :: rest)) := by
  refine va_newa (atype := .int) (ty := .int) (a0 := (N', .inl (fun _ => 0))) hx hb harr rfl hK hP hD hS hA (fun _ => rfl) hn hN hby hcells hslots hdg (fun q cA H1 hK1 hP1 hD1 hS1 => ?_)
  have ec : cA = cI := ct_one hK hK1 0 T.length hT (by simp) rfl
  subst ec
  exact kk q H1 hP1 hD1 hS1
theorem ct_newl (hx : p.tables.exec = Jvm.exec) (hb : c.code = cc) (harr : (Cond.arrayClass .long).before args s = true) {cI : ClassId} (hT : T[1]? = some (cI, .long)) (hK : va_K D cl T s) (hP : va_P D cl ws H) (hD : va_D A ws) (hS : va_S A H0 H locs) (hA : ∀ q, H0.size ≤ q → A q) {n : Int32} (N' : Nat) (hn : ¬ n < 0) (hN : n.toNatClampNeg = N') (hby : N' * 8 ≤ 536870912) (hcells : cells + 1 ≤ R.cells) (hslots : slots + N' ≤ R.slots) (hdg : decode cc pc = .ok (.newarray .long, 2))
    (kk : ∀ (q : Nat) (H1 : Heap), va_P D cl (ws ++ [(q, .inl (cI, N', .inr (.inl (fun _ => 0))))]) H1 → va_D A (ws ++ [(q, .inl (cI, N', .inr (.inl (fun _ => 0))))]) → va_S A H0 H1 locs → W p l e R s m args below meth c H1 locs (cells + 1) (slots + N') Q (F0 m (pc + 2) ls (.ref q :: rest))) : W p l e R s m args below meth c H locs cells slots Q (F0 m pc ls (.int n :: rest)) := by
  refine va_newa (atype := .long) (ty := .long) (a0 := (N', .inr (.inl (fun _ => 0)))) hx hb harr rfl hK hP hD hS hA (fun _ => rfl) hn hN hby hcells hslots hdg (fun q cA H1 hK1 hP1 hD1 hS1 => ?_)
  have ec : cA = cI := ct_one hK hK1 1 T.length hT (by simp) rfl
  subst ec
  exact kk q H1 hP1 hD1 hS1
theorem ct_newb (hx : p.tables.exec = Jvm.exec) (hb : c.code = cc) (harr : (Cond.arrayClass .byte).before args s = true) {cI : ClassId} (hT : T[2]? = some (cI, .byte)) (hK : va_K D cl T s) (hP : va_P D cl ws H) (hD : va_D A ws) (hS : va_S A H0 H locs) (hA : ∀ q, H0.size ≤ q → A q) {n : Int32} (N' : Nat) (hn : ¬ n < 0) (hN : n.toNatClampNeg = N') (hby : N' * 1 ≤ 536870912) (hcells : cells + 1 ≤ R.cells) (hslots : slots + N' ≤ R.slots) (hdg : decode cc pc = .ok (.newarray .byte, 2))
    (kk : ∀ (q : Nat) (H1 : Heap), va_P D cl (ws ++ [(q, .inl (cI, N', .inl (fun _ => 0)))]) H1 → va_D A (ws ++ [(q, .inl (cI, N', .inl (fun _ => 0)))]) → va_S A H0 H1 locs → W p l e R s m args below meth c H1 locs (cells + 1) (slots + N') Q (F0 m (pc + 2) ls (.ref q :: rest))) : W p l e R s m args below meth c H locs cells slots Q (F0 m pc ls (.int n :: rest)) := by
  refine va_newa (atype := .byte) (ty := .byte) (a0 := (N', .inl (fun _ => 0))) hx hb harr rfl hK hP hD hS hA (fun _ => rfl) hn hN hby hcells hslots hdg (fun q cA H1 hK1 hP1 hD1 hS1 => ?_)
  have ec : cA = cI := ct_one hK hK1 2 T.length hT (by simp) rfl
  subst ec
  exact kk q H1 hP1 hD1 hS1
theorem ct_newz (hx : p.tables.exec = Jvm.exec) (hb : c.code = cc) (harr : (Cond.arrayClass .boolean).before args s = true) {cI : ClassId} (hT : T[3]? = some (cI, .boolean)) (hK : va_K D cl T s) (hP : va_P D cl ws H) (hD : va_D A ws) (hS : va_S A H0 H locs) (hA : ∀ q, H0.size ≤ q → A q) {n : Int32} (N' : Nat) (hn : ¬ n < 0) (hN : n.toNatClampNeg = N') (hby : N' * 1 ≤ 536870912) (hcells : cells + 1 ≤ R.cells) (hslots : slots + N' ≤ R.slots) (hdg : decode cc pc = .ok (.newarray .boolean, 2))
    (kk : ∀ (q : Nat) (H1 : Heap), va_P D cl (ws ++ [(q, .inl (cI, N', .inl (fun _ => 0)))]) H1 → va_D A (ws ++ [(q, .inl (cI, N', .inl (fun _ => 0)))]) → va_S A H0 H1 locs → W p l e R s m args below meth c H1 locs (cells + 1) (slots + N') Q (F0 m (pc + 2) ls (.ref q :: rest))) : W p l e R s m args below meth c H locs cells slots Q (F0 m pc ls (.int n :: rest)) := by
  refine va_newa (atype := .boolean) (ty := .boolean) (a0 := (N', .inl (fun _ => 0))) hx hb harr rfl hK hP hD hS hA (fun _ => rfl) hn hN hby hcells hslots hdg (fun q cA H1 hK1 hP1 hD1 hS1 => ?_)
  have ec : cA = cI := ct_one hK hK1 3 T.length hT (by simp) rfl
  subst ec
  exact kk q H1 hP1 hD1 hS1
end CTN
/-! numbers: a comparison of the machine's, of its values -/
theorem tq_lt {x y : Int32} {a b : Int} (hx : x.toInt = a) (hy : y.toInt = b) (h : x < y) : a < b := by rw [← hx, ← hy]; exact Int32.lt_iff_toInt_lt.mp h
theorem tq_le {x y : Int32} {a b : Int} (hx : x.toInt = a) (hy : y.toInt = b) (h : x ≤ y) : a ≤ b := by rw [← hx, ← hy]; exact Int32.le_iff_toInt_le.mp h
theorem tq_nlt {x y : Int32} {a b : Int} (hx : x.toInt = a) (hy : y.toInt = b) (h : ¬ x < y) : b ≤ a := by rw [← hx, ← hy]; exact Int.not_lt.mp (fun q => h (Int32.lt_iff_toInt_lt.mpr q))
theorem tq_nle {x y : Int32} {a b : Int} (hx : x.toInt = a) (hy : y.toInt = b) (h : ¬ x ≤ y) : b < a := by rw [← hx, ← hy]; exact Int.not_le.mp (fun q => h (Int32.le_iff_toInt_le.mpr q))
theorem tq_eq {x y : Int32} {a b : Int} (hx : x.toInt = a) (hy : y.toInt = b) (h : x = y) : a = b := by rw [← hx, ← hy, h]
theorem tq_ne {x y : Int32} {a b : Int} (hx : x.toInt = a) (hy : y.toInt = b) (h : ¬ x = y) : a ≠ b := by rw [← hx, ← hy]; exact fun q => h (Int32.toInt_inj.mp q)
theorem tq_of {x y : Int32} {a : Int} (hx : x.toInt = a) (hy : y.toInt = a) : x = y := Int32.toInt_inj.mp (hx.trans hy.symm)
theorem tl_lt {x y : Int64} {a b : Int} (hx : x.toInt = a) (hy : y.toInt = b) (h : x < y) : a < b := by rw [← hx, ← hy]; exact Int64.lt_iff_toInt_lt.mp h
theorem tl_nlt {x y : Int64} {a b : Int} (hx : x.toInt = a) (hy : y.toInt = b) (h : ¬ x < y) : b ≤ a := by rw [← hx, ← hy]; exact Int.not_lt.mp (fun q => h (Int64.lt_iff_toInt_lt.mpr q))
theorem tl_i {x : Int32} {a : Int} (hx : x.toInt = a) : x.toInt64.toInt = a := by rw [Int32.toInt_toInt64]; exact hx
theorem ct_start {p : Program} {l : Launch} {e : Env} {R : Room} {s : State} {m : MethodId} {args : Array Value} {below : List Frame} {meth : Method} {c : Code} {H : Heap} {locs : List Loc} {cells slots : Nat} {Q : State → Prop} {g : JFrame} (h : H = s.heap) (k : W p l e R s m args below meth c H locs cells slots Q g) : W p l e R s m args below meth c s.heap locs cells slots Q g := h ▸ k
theorem ct_oneq {s : State} {D : va_G} {cl : List vw_C} {T T' : List (ClassId × FieldType)} {C : String} {cA cB : ClassId} (h : va_K D cl T s) (h' : va_K D cl T' s) (i j : Nat) (hi : T[i]? = some (cA, .object C)) (hj : T'[j]? = some (cB, .object C)) : cB = cA := by
  obtain ⟨_, _, _, _, _, h1⟩ := (h.2 i _ hi).2
  obtain ⟨_, _, _, _, _, h2⟩ := (h'.2 j _ hj).2
  exact Option.some.inj (h2.symm.trans h1)
theorem tq_sm {a : Int} (h : -2147483648 ≤ a ∧ a < 2147483648) : a.bmod (2 ^ 32) = a := Int.bmod_eq_of_le (by omega) (by omega)
theorem tq_add {x y : Int32} {a b : Int} (hx : x.toInt = a) (hy : y.toInt = b) (h : -2147483648 ≤ a + b ∧ a + b < 2147483648) : (x + y).toInt = a + b := by rw [Int32.toInt_add, hx, hy]; exact tq_sm h
theorem tq_mul {x y : Int32} {a b : Int} (hx : x.toInt = a) (hy : y.toInt = b) (h : -2147483648 ≤ a * b ∧ a * b < 2147483648) : (x * y).toInt = a * b := by rw [Int32.toInt_mul, hx, hy]; exact tq_sm h
theorem tq_subt {x y : Int32} {a b : Int} (hx : x.toInt = a) (hy : y.toInt = b) (h : -2147483648 ≤ a - b ∧ a - b < 2147483648) : (x - y).toInt = a - b := by rw [Int32.toInt_sub, hx, hy]; exact tq_sm h
theorem tq_in {x : Int32} {n : Nat} {a : Int} (hx : x.toInt = a) (h : 0 ≤ a ∧ a < (n : Int)) : vp_in x n := vp_in_iff.mpr (by rw [hx]; exact h)
theorem tq_cl {x : Int32} {n : Nat} {a : Int} (hx : x.toInt = a) (h : a < (n : Int)) (h0 : 0 ≤ a) : x.toNatClampNeg < n := by
  show x.toInt.toNat < n
  rw [hx]; omega
theorem ct_upd0 (k : Nat) : upd (fun _ => (0 : Int32)) k 0 = fun _ => 0 := by
  funext j
  simp [upd]
abbrev szf : Nat → Int32 := upd (upd (upd (upd (fun _ => 0) 0 (-1)) 1 (-1)) 2 (-1)) 3 (-1)
theorem szf_m : ∀ j, j < 4 → szf j = -1 := fun j hj => match j, hj with
  | 0, _ => rfl
  | 1, _ => rfl
  | 2, _ => rfl
  | 3, _ => rfl
  | q + 4, h => absurd h (by omega)

theorem ct_loop {p : Program} {l : Launch} {e : Env} {R : Room} {s : State} {m : MethodId} {args : Array Value} {below : List Frame} {meth : Method} {c : Code} {cells slots : Nat} {Q : State → Prop} {X : Type} (mu : X → Nat) (Inv : X → Heap → List Loc → Array Slot → Prop) (pc : Nat) (x0 : X) {H0 : Heap} {locs0 : List Loc} {ls0 : Array Slot} (h0 : Inv x0 H0 locs0 ls0)
    (hs : ∀ (x : X), (∀ (x' : X) (H : Heap) (locs : List Loc) (ls : Array Slot), mu x' < mu x → Inv x' H locs ls → W p l e R s m args below meth c H locs cells slots Q (F0 m pc ls [])) → ∀ (H : Heap) (locs : List Loc) (ls : Array Slot), Inv x H locs ls → W p l e R s m args below meth c H locs cells slots Q (F0 m pc ls [])) : W p l e R s m args below meth c H0 locs0 cells slots Q (F0 m pc ls0 []) := by
  have key : ∀ (k : Nat) (x : X), mu x < k → ∀ (H : Heap) (locs : List Loc) (ls : Array Slot), Inv x H locs ls → W p l e R s m args below meth c H locs cells slots Q (F0 m pc ls []) := by
    intro k
    induction k with
    | zero => intro x h; exact absurd h (Nat.not_lt_zero _)
    | succ k ih => intro x h; exact hs x (fun x' H locs ls h1 h2 => ih x' (by omega) H locs ls h2)
  exact key _ x0 (Nat.lt_succ_self _) _ _ _ h0
theorem ct_cut {p : Program} {l : Launch} {e : Env} {R : Room} {s : State} {m : MethodId} {args : Array Value} {below : List Frame} {meth : Method} {c : Code} {cells slots : Nat} {Q : State → Prop} {X : Type} (st : X → List Value) (Inv : X → Heap → List Loc → Array Slot → Prop) (pc : Nat) {H0 : Heap} {locs0 : List Loc} {g : JFrame} (k : ∀ (x : X) (H : Heap) (locs : List Loc) (ls : Array Slot), Inv x H locs ls → W p l e R s m args below meth c H locs cells slots Q (F0 m pc ls (st x)))
    (h : (∀ (x : X) (H : Heap) (locs : List Loc) (ls : Array Slot), Inv x H locs ls → W p l e R s m args below meth c H locs cells slots Q (F0 m pc ls (st x))) → W p l e R s m args below meth c H0 locs0 cells slots Q g) : W p l e R s m args below meth c H0 locs0 cells slots Q g := h k
theorem tq_eq2 {x y : Int32} {a b : Int} (hx : x.toInt = a) (hy : y.toInt = b) (h : ¬ ¬ x = y) : a = b := tq_eq hx hy (Decidable.not_not.mp h)
theorem tq_nz {y : Int32} (h : y.toInt ≠ 0) : ¬ y = 0 := fun z => h (by rw [z]; decide)
theorem tl_nz {y : Int64} (h : y.toInt ≠ 0) : ¬ y = 0 := fun z => h (by rw [z]; decide)
theorem tl_eq {x y : Int64} {a b : Int} (hx : x.toInt = a) (hy : y.toInt = b) (h : x = y) : a = b := by rw [← hx, ← hy, h]
theorem tl_ne {x y : Int64} {a b : Int} (hx : x.toInt = a) (hy : y.toInt = b) (h : ¬ x = y) : a ≠ b := by rw [← hx, ← hy]; exact fun q => h (Int64.toInt_inj.mp q)
theorem tl_le {x y : Int64} {a b : Int} (hx : x.toInt = a) (hy : y.toInt = b) (h : x ≤ y) : a ≤ b := by rw [← hx, ← hy]; exact Int64.le_iff_toInt_le.mp h
theorem tl_nle {x y : Int64} {a b : Int} (hx : x.toInt = a) (hy : y.toInt = b) (h : ¬ x ≤ y) : b < a := by rw [← hx, ← hy]; exact Int.not_le.mp (fun q => h (Int64.le_iff_toInt_le.mpr q))
theorem tq_lo (x : Int32) : -2147483648 ≤ x.toInt ∧ x.toInt ≤ 2147483647 := ⟨by have := Int32.le_toInt x; omega, by have := Int32.toInt_lt x; omega⟩
theorem tq_rem {x y : Int32} (h : 0 < y.toInt) : (x - x / y * y).toInt = x.toInt.tmod y.toInt := by
  have hx := tq_lo x
  have hd : (x / y).toInt = x.toInt.tdiv y.toInt := Int32.toInt_div_of_ne_right x y (fun e => by rw [e] at h; exact absurd h (by decide))
  have h1 : x.toInt.tdiv y.toInt * y.toInt + x.toInt.tmod y.toInt = x.toInt := by rw [Int.mul_comm]; exact Int.mul_tdiv_add_tmod ..
  have h2 : (x.toInt.tmod y.toInt).natAbs ≤ x.toInt.natAbs := by rw [Int.natAbs_tmod]; exact Nat.mod_le _ _
  have h3 : (0 ≤ x.toInt → 0 ≤ x.toInt.tmod y.toInt) := fun z => Int.tmod_nonneg _ z
  have h4 : (x.toInt < 0 → x.toInt.tmod y.toInt ≤ 0) := fun z => by
    have e1 : (-x.toInt).tmod y.toInt = - (x.toInt.tmod y.toInt) := Int.neg_tmod ..
    have e2 := Int.tmod_nonneg y.toInt (show 0 ≤ -x.toInt by omega)
    omega
  have hm : (x / y * y).toInt = x.toInt.tdiv y.toInt * y.toInt := tq_mul hd rfl (by omega)
  rw [tq_subt rfl hm (by omega)]
  omega
theorem tq_remc {x y : Int32} {a c : Int} (hx : x.toInt = a) (hy : y.toInt = c) (ha : 0 ≤ a) (hc : 0 < c) : (x - x / y * y).toInt = a % c := by rw [tq_rem (by omega), hx, hy, Int.tmod_eq_emod_of_nonneg ha]
theorem tq_remp {x y : Int32} {a c : Int} (hx : x.toInt = a) (hy : y.toInt = c) (ha : 0 ≤ a) (hc : 0 < c) : 0 ≤ (x - x / y * y).toInt ∧ (x - x / y * y).toInt < c := by rw [tq_remc hx hy ha hc]; exact ⟨Int.emod_nonneg _ (by omega), Int.emod_lt_of_pos _ hc⟩
theorem tq_rema {x y : Int32} {a c : Int} (hx : x.toInt = a) (hy : y.toInt = c) (hc : 0 < c) : -c < (x - x / y * y).toInt ∧ (x - x / y * y).toInt < c := by
  rw [tq_rem (by omega), hx, hy]
  have h1 := Int.natAbs_tmod a c
  have h2 : a.natAbs % c.natAbs < c.natAbs := Nat.mod_lt _ (by omega)
  omega
theorem tq_rems {x y : Int32} (hc : 0 < y.toInt) : (0 ≤ x.toInt → 0 ≤ (x - x / y * y).toInt) ∧ (x.toInt < 0 → (x - x / y * y).toInt ≤ 0) := by
  rw [tq_rem hc]
  refine ⟨fun h => Int.tmod_nonneg _ h, fun h => ?_⟩
  have h1 : (-x.toInt).tmod y.toInt = - (x.toInt.tmod y.toInt) := Int.neg_tmod ..
  have h2 := Int.tmod_nonneg y.toInt (show 0 ≤ -x.toInt by omega)
  omega
theorem tq_divc {x y : Int32} {a c : Int} (hx : x.toInt = a) (hy : y.toInt = c) (ha : 0 ≤ a) (hc : 0 < c) : (x / y).toInt = a / c := by
  have hl := tq_lo x
  rw [Int32.toInt_div_of_ne_left x y (by intro h; rw [h] at hx; have : (Int32.minValue).toInt = -2147483648 := by decide
                                         omega), hx, hy, Int.tdiv_eq_ediv_of_nonneg ha]
theorem tq_msb (x : Int32) : (0 ≤ x.toInt) ↔ x.toBitVec.msb = false := by
  show (0 ≤ x.toBitVec.toInt) ↔ _
  rw [BitVec.msb_eq_toInt]
  simp
theorem tq_xors {x y : Int32} (hc : 0 < y.toInt) : 0 ≤ (x ^^^ y).toInt ↔ 0 ≤ x.toInt := by
  have hy := (tq_msb y).mp (by omega)
  rw [tq_msb, tq_msb]
  show (x.toBitVec ^^^ y.toBitVec).msb = false ↔ _
  rw [BitVec.msb_xor, hy]
  simp
theorem tq_and {x y : Int32} {c : Int} (hy : y.toInt = c) (hc : 0 ≤ c) : 0 ≤ (x &&& y).toInt ∧ (x &&& y).toInt ≤ c := by
  have h1 : (x &&& y).toBitVec.msb = false := by
    show (x.toBitVec &&& y.toBitVec).msb = false
    rw [BitVec.msb_and, (tq_msb y).mp (by omega)]
    simp
  have h2 : (x &&& y).toInt = ((x &&& y).toBitVec.toNat : Int) := by
    show (x &&& y).toBitVec.toInt = _
    exact BitVec.toInt_eq_toNat_of_msb h1
  have h3 : y.toInt = (y.toBitVec.toNat : Int) := by
    show y.toBitVec.toInt = _
    exact BitVec.toInt_eq_toNat_of_msb ((tq_msb y).mp (by omega))
  have h4 : (x &&& y).toBitVec.toNat ≤ y.toBitVec.toNat := by
    show (x.toBitVec &&& y.toBitVec).toNat ≤ _
    rw [BitVec.toNat_and]
    exact Nat.and_le_right
  omega
theorem tq_nn {y : Int32} (h : 0 ≤ y.toInt) : ¬ y < 0 := fun z => by
  have := Int32.lt_iff_toInt_lt.mp z
  have h0 : (0 : Int32).toInt = 0 := by decide
  omega
theorem tq_fit {x y : Int32} {a b : Int} {n : Nat} (hx : x.toInt = a) (hy : y.toInt = b) (h1 : 0 ≤ a) (h2 : 0 ≤ b) (h : a + b ≤ n) : x.toNatClampNeg + y.toNatClampNeg ≤ n := by
  show x.toInt.toNat + y.toInt.toNat ≤ n
  rw [hx, hy]; omega
theorem tl_l2i {x : Int64} {a : Int} (hx : x.toInt = a) (h : -2147483648 ≤ a ∧ a ≤ 2147483647) : x.toInt32.toInt = a := by rw [Int64.toInt_toInt32, hx]; exact tq_sm (by omega)
def ar_ok (los his : List Int) (f : Nat → Int32) : Prop := ∀ j : Nat, los.getD (j % los.length) 0 ≤ (f j).toInt ∧ (f j).toInt ≤ his.getD (j % los.length) 0
theorem ar_md {z : Int} {m q : Nat} (h0 : 0 ≤ z) (hq : z % (m : Int) = q) : z.toNat % m = q := by
  have h1 : ((z.toNat % m : Nat) : Int) = (q : Int) := by rw [Int.natCast_emod, Int.toNat_of_nonneg h0]; exact hq
  exact Int.natCast_inj.mp h1
theorem ar_get {los his : List Int} {f : Nat → Int32} (h : ar_ok los his f) (i : Int32) (q : Nat) (h0 : 0 ≤ i.toInt) (hq : i.toInt % (los.length : Int) = q) {lo hi : Int} (hl : (los.getD q 0, his.getD q 0) = (lo, hi)) : lo ≤ (f i.toNatClampNeg).toInt ∧ (f i.toNatClampNeg).toInt ≤ hi := by
  have h1 := h i.toInt.toNat
  have h2 : i.toInt.toNat % los.length = q := ar_md h0 hq
  rw [h2] at h1
  have e1 : los.getD q 0 = lo := congrArg Prod.fst hl
  have e2 : his.getD q 0 = hi := congrArg Prod.snd hl
  rw [e1, e2] at h1
  exact h1
theorem ar_rng {los his : List Int} {f : Nat → Int32} (h : ar_ok los his f) (i : Int32) (a b : Nat) (ha : (a : Int) ≤ i.toInt) (hb : i.toInt ≤ (b : Int)) {lo hi : Int} (hl : ∀ k, k < b + 1 → a ≤ k → lo ≤ los.getD (k % los.length) 0 ∧ his.getD (k % los.length) 0 ≤ hi) : lo ≤ (f i.toNatClampNeg).toInt ∧ (f i.toNatClampNeg).toInt ≤ hi := by
  have h1 := h i.toInt.toNat
  have h2 := hl i.toInt.toNat (by omega) (by omega)
  exact ⟨Int.le_trans h2.1 h1.1, Int.le_trans h1.2 h2.2⟩
theorem ar_all {los his : List Int} {f : Nat → Int32} (h : ar_ok los his f) (k : Nat) {lo hi : Int} (hl : 0 < los.length ∧ ∀ q, q < los.length → lo ≤ los.getD q 0 ∧ his.getD q 0 ≤ hi) : lo ≤ (f k).toInt ∧ (f k).toInt ≤ hi := by
  have h1 := h k
  have h2 := hl.2 (k % los.length) (Nat.mod_lt _ hl.1)
  exact ⟨Int.le_trans h2.1 h1.1, Int.le_trans h1.2 h2.2⟩
theorem ar_put {los his : List Int} {f : Nat → Int32} (h : ar_ok los his f) (k : Nat) (x : Int32) (hx : los.getD (k % los.length) 0 ≤ x.toInt ∧ x.toInt ≤ his.getD (k % los.length) 0) : ar_ok los his (upd f k x) := fun j => by
  unfold upd
  by_cases hj : j = k
  · rw [if_pos hj, hj]; exact hx
  · rw [if_neg hj]; exact h j
theorem ar_set {los his : List Int} {f : Nat → Int32} (h : ar_ok los his f) (i x : Int32) (q : Nat) (h0 : 0 ≤ i.toInt) (hq : i.toInt % (los.length : Int) = q) {lo hi : Int} (hl : (los.getD q 0, his.getD q 0) = (lo, hi)) (hx : lo ≤ x.toInt ∧ x.toInt ≤ hi) : ar_ok los his (upd f i.toNatClampNeg x) := by
  refine ar_put h _ _ ?_
  have h2 : i.toNatClampNeg % los.length = q := ar_md h0 hq
  have e1 : los.getD q 0 = lo := congrArg Prod.fst hl
  have e2 : his.getD q 0 = hi := congrArg Prod.snd hl
  rw [h2, e1, e2]
  exact hx
theorem ar_setF {los his : List Int} {f : Nat → Int32} (h : ar_ok los his f) (i x : Int32) (q : Nat) (h0 : 0 ≤ i.toInt) (hq : i.toInt % (los.length : Int) = q) (hl : los.getD q 0 = -2147483648) (hl2 : his.getD q 0 = 2147483647) : ar_ok los his (upd f i.toNatClampNeg x) := by
  refine ar_put h _ _ ?_
  have h2 : i.toNatClampNeg % los.length = q := ar_md h0 hq
  rw [h2, hl, hl2]
  exact tq_lo x
theorem ar_seta {los his : List Int} {f : Nat → Int32} (h : ar_ok los his f) (i x : Int32) {lo hi : Int} (hx : lo ≤ x.toInt ∧ x.toInt ≤ hi) (hl : 0 < los.length ∧ ∀ q, q < los.length → los.getD q 0 ≤ lo ∧ hi ≤ his.getD q 0) : ar_ok los his (upd f i.toNatClampNeg x) := by
  refine ar_put h _ _ ?_
  have h2 := hl.2 (i.toNatClampNeg % los.length) (Nat.mod_lt _ hl.1)
  exact ⟨Int.le_trans h2.1 hx.1, Int.le_trans hx.2 h2.2⟩
theorem ar_setr {los his : List Int} {f : Nat → Int32} (h : ar_ok los his f) (i x : Int32) (a b : Nat) (ha : (a : Int) ≤ i.toInt) (hb : i.toInt ≤ (b : Int)) {lo hi : Int} (hx : lo ≤ x.toInt ∧ x.toInt ≤ hi) (hl : ∀ k, k < b + 1 → a ≤ k → los.getD (k % los.length) 0 ≤ lo ∧ hi ≤ his.getD (k % los.length) 0) : ar_ok los his (upd f i.toNatClampNeg x) := by
  refine ar_put h _ _ ?_
  have h2 := hl i.toNatClampNeg (by show i.toInt.toNat < b + 1; omega) (by show a ≤ i.toInt.toNat; omega)
  exact ⟨Int.le_trans h2.1 hx.1, Int.le_trans hx.2 h2.2⟩
theorem ar_cpy {los his : List Int} {f g : Nat → Int32} (hf : ar_ok los his f) (hg : ar_ok los his g) {sp dp n : Nat} (h : sp % los.length = dp % los.length) : ar_ok los his (va_cpy f g sp dp n) := fun j => by
  unfold va_cpy
  by_cases hj : dp ≤ j ∧ j < dp + n
  · rw [if_pos hj]
    have h1 := hf (sp + (j - dp))
    have h2 : (sp + (j - dp)) % los.length = j % los.length := by
      rw [Nat.add_mod, h, ← Nat.add_mod]
      congr 1
      omega
    rw [h2] at h1
    exact h1
  · rw [if_neg hj]; exact hg j
theorem ar_or {los his : List Int} {f g : Nat → Int32} {v : Int32} (h : ∀ j : Nat, g j = v ∨ g j = f j) (hf : ar_ok los his f) {lo hi : Int} (hx : lo ≤ v.toInt ∧ v.toInt ≤ hi) (hl : 0 < los.length ∧ ∀ q, q < los.length → los.getD q 0 ≤ lo ∧ hi ≤ his.getD q 0) : ar_ok los his g := fun j => by
  have h2 := hl.2 (j % los.length) (Nat.mod_lt _ hl.1)
  rcases h j with e | e
  · rw [e]; exact ⟨Int.le_trans h2.1 hx.1, Int.le_trans hx.2 h2.2⟩
  · rw [e]; exact hf j
theorem upd_or {f g : Nat → Int32} {v : Int32} (h : ∀ j : Nat, g j = v ∨ g j = f j) (k : Nat) : ∀ j : Nat, upd g k v j = v ∨ upd g k v j = f j := fun j => by
  unfold upd
  by_cases hj : j = k
  · rw [if_pos hj]; exact Or.inl rfl
  · rw [if_neg hj]; exact h j
def ar_q (f : Nat → Int32) : Prop := ∀ j : Nat, (f j).toInt = -1 ∨ (0 ≤ (f j).toInt ∧ (f j).toInt ≤ 28 ∧ (f j).toInt % 4 = 0)
theorem ar_q_set {f : Nat → Int32} (h : ar_q f) (k : Nat) {x : Int32} (hx : x.toInt = -1 ∨ (0 ≤ x.toInt ∧ x.toInt ≤ 28 ∧ x.toInt % 4 = 0)) : ar_q (upd f k x) := fun j => by
  unfold upd
  by_cases hj : j = k
  · rw [if_pos hj]; exact hx
  · rw [if_neg hj]; exact h j
theorem ar_q_or {f g : Nat → Int32} {v : Int32} (h : ∀ j : Nat, g j = v ∨ g j = f j) (hf : ar_q f) (hx : v.toInt = -1 ∨ (0 ≤ v.toInt ∧ v.toInt ≤ 28 ∧ v.toInt % 4 = 0)) : ar_q g := fun j => by
  rcases h j with e | e
  · rw [e]; exact hx
  · rw [e]; exact hf j
theorem tq_max {x y : Int32} {a b : Int} (hx : x.toInt = a) (hy : y.toInt = b) : ((if x < y then y else x).toInt = a ∨ (if x < y then y else x).toInt = b) ∧ a ≤ (if x < y then y else x).toInt ∧ b ≤ (if x < y then y else x).toInt := by
  by_cases h : x < y
  · rw [if_pos h]; have := tq_lt hx hy h; omega
  · rw [if_neg h]; have := tq_nlt hx hy h; omega
theorem tq_min {x y : Int32} {a b : Int} (hx : x.toInt = a) (hy : y.toInt = b) : ((if y < x then y else x).toInt = a ∨ (if y < x then y else x).toInt = b) ∧ (if y < x then y else x).toInt ≤ a ∧ (if y < x then y else x).toInt ≤ b := by
  by_cases h : y < x
  · rw [if_pos h]; have := tq_lt hy hx h; omega
  · rw [if_neg h]; have := tq_nlt hy hx h; omega
theorem ct_len_ok (k : Nat) (hk : k < 16) : (Int32.ofNat (ct_len.getD k 0)).toInt = (ct_len.getD k 0 : Int) ∧ 2 ≤ (Int32.ofNat (ct_len.getD k 0)).toInt ∧ (Int32.ofNat (ct_len.getD k 0)).toInt ≤ 7 := by
  have h : ∀ k, k < 16 → ((Int32.ofNat (ct_len.getD k 0)).toInt = (ct_len.getD k 0 : Int) ∧ 2 ≤ (Int32.ofNat (ct_len.getD k 0)).toInt ∧ (Int32.ofNat (ct_len.getD k 0)).toInt ≤ 7) := by decide
  exact h k hk
theorem ct_pw_ok (i : Int32) (h0 : 0 ≤ i.toInt) (h1 : i.toInt < 6) : 1 ≤ (ct_pw.getD i.toNatClampNeg 0).toInt ∧ (ct_pw.getD i.toNatClampNeg 0).toInt ≤ 243 := by
  have h : ∀ k, k < 6 → (1 ≤ (ct_pw.getD k 0).toInt ∧ (ct_pw.getD k 0).toInt ≤ 243) := by decide
  exact h _ (by show i.toInt.toNat < 6; omega)
theorem tq_shr0 {x : Int32} {a : Int} (hx : x.toInt = a) : (x >>> ((0 : Int32) &&& 31)).toInt = a := by
  rw [show ((0 : Int32) &&& 31) = 0 from by decide, Int32.shiftRight_zero]
  exact hx
theorem ct_nar (x : Int32) : narrow .char (.int (x.toUInt32 % 65536).toInt32) = .int (x.toUInt32 % 65536).toInt32 := by
  have h : ∀ a : UInt32, a % 65536 % 65536 = a % 65536 := fun a => UInt32.toNat_inj.mp (by simp only [UInt32.toNat_mod]; exact Nat.mod_mod _ _)
  simp [narrow, h]
def ch_e (f : Nat → Int32) (q : Nat) : Prop := ((f (3 * q)).toInt = 1 → 0 ≤ (f (3 * q + 1)).toInt ∧ (f (3 * q + 1)).toInt ≤ 199) ∧ ((f (3 * q)).toInt ≠ 0 → (f (3 * q)).toInt ≠ 1 → 0 ≤ (f (3 * q + 1)).toInt ∧ (f (3 * q + 1)).toInt ≤ 23 ∧ 0 ≤ (f (3 * q + 2)).toInt ∧ (f (3 * q + 2)).toInt ≤ 5)
def ch_n (f : Nat → Int32) : Nat → Nat
  | 0 => 0
  | k + 1 => ch_n f k + (if (f (3 * k)).toInt = 0 then 1 else 0)
def ch_ok (f : Nat → Int32) (cc sc : Int32) : Prop := (∀ q : Nat, (q : Int) < cc.toInt → ch_e f q) ∧ (ch_n f cc.toInt.toNat : Int) ≤ sc.toInt
theorem ch_zero {f : Nat → Int32} {cc sc : Int32} (h : cc.toInt = 0) (h2 : 0 ≤ sc.toInt) : ch_ok f cc sc := by
  refine ⟨fun q hq => by omega, ?_⟩
  rw [h]
  exact h2
theorem ch_n_eq {f g : Nat → Int32} (k : Nat) (h : ∀ j, j < 3 * k → f j = g j) : ch_n f k = ch_n g k := by
  induction k with
  | zero => rfl
  | succ k ih =>
    show ch_n f k + _ = ch_n g k + _
    rw [ih (fun j hj => h j (by omega)), h (3 * k) (by omega)]
theorem ch_e_eq {f g : Nat → Int32} (q : Nat) (h : ∀ j, j < 3 * q + 3 → f j = g j) (he : ch_e f q) : ch_e g q := by
  unfold ch_e at he ⊢
  rw [← h (3 * q) (by omega), ← h (3 * q + 1) (by omega), ← h (3 * q + 2) (by omega)]
  exact he
theorem ch_keep {f : Nat → Int32} {cc cd sc kd wh ws i0 i1 i2 : Int32} (h : ch_ok f cc sc) (h0 : 0 ≤ cc.toInt) (hd : cd.toInt = cc.toInt + 1) (e0 : i0.toInt = 3 * cc.toInt) (e1 : i1.toInt = 3 * cc.toInt + 1) (e2 : i2.toInt = 3 * cc.toInt + 2)
    (hk : kd.toInt = 0 ∨ (kd.toInt = 1 ∧ 0 ≤ wh.toInt ∧ wh.toInt ≤ 199) ∨ (kd.toInt = 2 ∧ 0 ≤ wh.toInt ∧ wh.toInt ≤ 23 ∧ 0 ≤ ws.toInt ∧ ws.toInt ≤ 5)) (x : Int32) (hx : (if kd.toInt = 0 then sc.toInt + 1 else sc.toInt) ≤ x.toInt) : ch_ok (upd (upd (upd f i0.toNatClampNeg kd) i1.toNatClampNeg wh) i2.toNatClampNeg ws) cd x := by
  obtain ⟨k, hkk⟩ : ∃ k : Nat, cc.toInt = (k : Int) := ⟨cc.toInt.toNat, by omega⟩
  have j0 : i0.toNatClampNeg = 3 * k := by show i0.toInt.toNat = _; omega
  have j1 : i1.toNatClampNeg = 3 * k + 1 := by show i1.toInt.toNat = _; omega
  have j2 : i2.toNatClampNeg = 3 * k + 2 := by show i2.toInt.toNat = _; omega
  rw [j0, j1, j2]
  have hlow : ∀ j, j < 3 * k → f j = upd (upd (upd f (3 * k) kd) (3 * k + 1) wh) (3 * k + 2) ws j := fun j hj => by
    unfold upd
    rw [if_neg (by omega), if_neg (by omega), if_neg (by omega)]
  have g0 : upd (upd (upd f (3 * k) kd) (3 * k + 1) wh) (3 * k + 2) ws (3 * k) = kd := by
    unfold upd
    rw [if_neg (by omega), if_neg (by omega), if_pos rfl]
  have g1 : upd (upd (upd f (3 * k) kd) (3 * k + 1) wh) (3 * k + 2) ws (3 * k + 1) = wh := by
    unfold upd
    rw [if_neg (by omega), if_pos rfl]
  have g2 : upd (upd (upd f (3 * k) kd) (3 * k + 1) wh) (3 * k + 2) ws (3 * k + 2) = ws := by
    unfold upd
    rw [if_pos rfl]
  generalize upd (upd (upd f (3 * k) kd) (3 * k + 1) wh) (3 * k + 2) ws = g at hlow g0 g1 g2 ⊢
  refine ⟨fun q hq => ?_, ?_⟩
  · by_cases hqk : q = k
    · subst hqk
      unfold ch_e
      rw [g0, g1, g2]
      omega
    · exact ch_e_eq q (fun j hj => hlow j (by omega)) (h.1 q (by omega))
  · have hdk : cd.toInt.toNat = k + 1 := by omega
    rw [hdk]
    show ((ch_n g k + _ : Nat) : Int) ≤ _
    rw [g0, ← ch_n_eq k hlow]
    have h2 := h.2
    have hck : cc.toInt.toNat = k := by omega
    rw [hck] at h2
    by_cases hz : kd.toInt = 0
    · rw [if_pos hz]; rw [if_pos hz] at hx; omega
    · rw [if_neg hz]; rw [if_neg hz] at hx; omega
theorem ch_at {f : Nat → Int32} {cc sc i0 i1 i2 : Int32} (h : ch_ok f cc sc) (c1 : Int) (h1 : 0 ≤ c1) (h2 : c1 < cc.toInt) (e0 : i0.toInt = 3 * c1) (e1 : i1.toInt = 3 * c1 + 1) (e2 : i2.toInt = 3 * c1 + 2) :
    ((f i0.toNatClampNeg).toInt = 1 → 0 ≤ (f i1.toNatClampNeg).toInt ∧ (f i1.toNatClampNeg).toInt ≤ 199) ∧ ((f i0.toNatClampNeg).toInt ≠ 0 → (f i0.toNatClampNeg).toInt ≠ 1 → 0 ≤ (f i1.toNatClampNeg).toInt ∧ (f i1.toNatClampNeg).toInt ≤ 23 ∧ 0 ≤ (f i2.toNatClampNeg).toInt ∧ (f i2.toNatClampNeg).toInt ≤ 5) := by
  have j0 : i0.toNatClampNeg = 3 * c1.toNat := by show i0.toInt.toNat = _; omega
  have j1 : i1.toNatClampNeg = 3 * c1.toNat + 1 := by show i1.toInt.toNat = _; omega
  have j2 : i2.toNatClampNeg = 3 * c1.toNat + 2 := by show i2.toInt.toNat = _; omega
  rw [j0, j1, j2]
  exact h.1 c1.toNat (by omega)
theorem ch_back {f : Nat → Int32} {cc cd sc i0 : Int32} (h : ch_ok f cc sc) (h1 : 1 ≤ cc.toInt) (hd : cd.toInt = cc.toInt - 1) (e0 : i0.toInt = 3 * cd.toInt) : ((f i0.toNatClampNeg).toInt = 0 → 1 ≤ sc.toInt ∧ ∀ x : Int32, sc.toInt - 1 ≤ x.toInt → ch_ok f cd x) ∧ ch_ok f cd sc := by
  have j0 : i0.toNatClampNeg = 3 * cd.toInt.toNat := by show i0.toInt.toNat = _; omega
  have hc : cc.toInt.toNat = cd.toInt.toNat + 1 := by omega
  have h2 := h.2
  rw [hc] at h2
  have h3 : ((ch_n f cd.toInt.toNat + (if (f (3 * cd.toInt.toNat)).toInt = 0 then 1 else 0) : Nat) : Int) ≤ sc.toInt := h2
  refine ⟨fun hz => ?_, fun q hq => h.1 q (by omega), by omega⟩
  rw [j0] at hz
  rw [if_pos hz] at h3
  exact ⟨by omega, fun x hx => ⟨fun q hq => h.1 q (by omega), by omega⟩⟩
theorem ch_cpy {f g : Nat → Int32} {cc sc : Int32} (h : ch_ok f cc sc) (h1 : cc.toInt ≤ 40) : ch_ok (va_cpy f g (0 : Int32).toNatClampNeg (0 : Int32).toNatClampNeg (120 : Int32).toNatClampNeg) cc sc := by
  have hlow : ∀ j, j < 120 → f j = va_cpy f g (0 : Int32).toNatClampNeg (0 : Int32).toNatClampNeg (120 : Int32).toNatClampNeg j := fun j hj => by
    show f j = va_cpy f g 0 0 120 j
    unfold va_cpy
    rw [if_pos (by omega)]
    simp
  exact ⟨fun q hq => ch_e_eq q (fun j hj => hlow j (by omega)) (h.1 q hq), by rw [← ch_n_eq cc.toInt.toNat (fun j hj => hlow j (by omega))]; exact h.2⟩
def hd_at (f : Nat → Int64) (sl : Int) (k : Nat) : Prop := (k % 2 = 0 → 0 ≤ (f (60 * sl + (k : Int)).toNat).toInt ∧ (f (60 * sl + (k : Int)).toNat).toInt ≤ 199) ∧ (k % 2 = 1 → -1 ≤ (f (60 * sl + (k : Int)).toNat).toInt ∧ (f (60 * sl + (k : Int)).toNat).toInt ≤ 5)
def hd_ok (f : Nat → Int64) (sl b i : Int) : Prop := b = 1 → ∀ k : Nat, (k : Int) < i → hd_at f sl k
theorem hd_step {f : Nat → Int64} {sl b i : Int} {z : Int64} (h : hd_ok f sl b i) (h0 : 0 ≤ i) (hb : b = 1) (hz : z = f (60 * sl + i).toNat) (hr : (i % 2 = 0 ∧ 0 ≤ z.toInt ∧ z.toInt ≤ 199) ∨ (i % 2 = 1 ∧ -1 ≤ z.toInt ∧ z.toInt ≤ 5)) (c j : Int) (hj : j = i + 1) : hd_ok f sl c j := fun _ k hk => by
  by_cases hki : (k : Int) = i
  · unfold hd_at
    rw [hki, ← hz]
    omega
  · exact h hb k (by omega)
theorem tq_shl5 {y : Int32} {b : Int} (hy : y.toInt = b) (h : 0 ≤ b ∧ b ≤ 5) : 1 ≤ ((1 : Int32) <<< (y &&& 31)).toInt ∧ ((1 : Int32) <<< (y &&& 31)).toInt ≤ 32 := by
  rcases (show b = 0 ∨ b = 1 ∨ b = 2 ∨ b = 3 ∨ b = 4 ∨ b = 5 by omega) with e | e | e | e | e | e
  · rw [show y = 0 from tq_of (hy.trans e) (by decide)]; decide
  · rw [show y = 1 from tq_of (hy.trans e) (by decide)]; decide
  · rw [show y = 2 from tq_of (hy.trans e) (by decide)]; decide
  · rw [show y = 3 from tq_of (hy.trans e) (by decide)]; decide
  · rw [show y = 4 from tq_of (hy.trans e) (by decide)]; decide
  · rw [show y = 5 from tq_of (hy.trans e) (by decide)]; decide
theorem tq_shl12 {y : Int32} {b : Int} (hy : y.toInt = b) (h : 0 ≤ b ∧ b ≤ 12) : 1 ≤ ((1 : Int32) <<< (y &&& 31)).toInt ∧ ((1 : Int32) <<< (y &&& 31)).toInt ≤ 4096 := by
  rcases (show b ≤ 5 ∨ b = 6 ∨ b = 7 ∨ b = 8 ∨ b = 9 ∨ b = 10 ∨ b = 11 ∨ b = 12 by omega) with e | e | e | e | e | e | e | e
  · have := tq_shl5 hy ⟨h.1, e⟩; omega
  · rw [show y = 6 from tq_of (hy.trans e) (by decide)]; decide
  · rw [show y = 7 from tq_of (hy.trans e) (by decide)]; decide
  · rw [show y = 8 from tq_of (hy.trans e) (by decide)]; decide
  · rw [show y = 9 from tq_of (hy.trans e) (by decide)]; decide
  · rw [show y = 10 from tq_of (hy.trans e) (by decide)]; decide
  · rw [show y = 11 from tq_of (hy.trans e) (by decide)]; decide
  · rw [show y = 12 from tq_of (hy.trans e) (by decide)]; decide
theorem hd_even {f : Nat → Int64} {sl n : Int} (h : hd_ok f sl 1 n) (i : Int) (h0 : 0 ≤ i) (h1 : i < n) (h2 : i % 2 = 0) : 0 ≤ (f (60 * sl + i).toNat).toInt ∧ (f (60 * sl + i).toNat).toInt ≤ 199 := by
  have h3 := (h rfl i.toNat (by omega)).1 (by omega)
  rw [Int.toNat_of_nonneg h0] at h3
  exact h3

/-! p39 .. p41: a row of STEPS, as a round of length L can be: pure -/
def tv (a : Nat → Int) (L p : Nat) : Nat → Int
  | 0 => -1
  | m + 1 => if tv a L p m ≠ -1 then tv a L p m else if m % L = p then a m else -1
theorem tv_succ (a : Nat → Int) (L p m : Nat) : tv a L p (m + 1) = if tv a L p m ≠ -1 then tv a L p m else if m % L = p then a m else -1 := rfl
theorem tv_add {a : Nat → Int} {L p m : Nat} (h : tv a L p m ≠ -1) (k : Nat) : tv a L p (m + k) = tv a L p m := by
  induction k with
  | zero => rfl
  | succ k ih => rw [← Nat.add_assoc, tv_succ, ih, if_pos h]
theorem tv_le {a : Nat → Int} {L p m n : Nat} (h : tv a L p m ≠ -1) (hmn : m ≤ n) : tv a L p n = tv a L p m := by
  obtain ⟨k, rfl⟩ := Nat.exists_eq_add_of_le hmn
  exact tv_add h k
theorem tv_none {a : Nat → Int} {L p m n : Nat} (h : tv a L p n = -1) (hmn : m ≤ n) : tv a L p m = -1 :=
  Decidable.byContradiction (fun q => q ((tv_le q hmn).symm.trans h))
theorem tv_hit {a : Nat → Int} {L p m n : Nat} (h : tv a L p m = -1) (hp : m % L = p) (ha : a m ≠ -1) (hmn : m < n) : tv a L p n = a m := by
  have h1 : tv a L p (m + 1) = a m := by rw [tv_succ, if_neg (fun q => q h), if_pos hp]
  rw [tv_le (m := m + 1) (by rw [h1]; exact ha) hmn, h1]
theorem tv_skip {a : Nat → Int} {L p m : Nat} (h : tv a L p m = -1) (k : Nat) (hk : ∀ j, m ≤ j → j < m + k → j % L = p → a j = -1) : tv a L p (m + k) = -1 := by
  induction k with
  | zero => exact h
  | succ k ih =>
    have h1 := ih (fun j h1 h2 h3 => hk j h1 (by omega) h3)
    rw [← Nat.add_assoc, tv_succ, if_neg (fun q => q h1)]
    by_cases e : (m + k) % L = p
    · rw [if_pos e]; exact hk _ (by omega) (by omega) e
    · rw [if_neg e]
theorem tv_start {a : Nat → Int} {L p : Nat} (hp : p < L) : tv a L p p = -1 := by
  have h := tv_skip (a := a) (L := L) (p := p) (m := 0) rfl p (fun j _ h2 h3 => by rw [Nat.mod_eq_of_lt (by omega)] at h3; omega)
  rw [Nat.zero_add] at h
  exact h
theorem md_sep {L i j p : Nat} (hL : 0 < L) (hi : i % L = p) (hj : j % L = p) (h1 : i ≤ j) (h2 : j < i + L) : j = i := by
  have e1 := Nat.div_add_mod i L
  have e2 := Nat.div_add_mod j L
  rw [hi] at e1
  rw [hj] at e2
  have h3 : i / L = j / L := by
    have a1 : L * (i / L) ≤ L * (j / L) := by omega
    have a2 : L * (j / L) < L * (i / L + 1) := by rw [Nat.mul_add]; omega
    have b1 := Nat.le_of_mul_le_mul_left a1 hL
    have b2 := Nat.lt_of_mul_lt_mul_left a2
    omega
  rw [h3] at e1
  omega
theorem tv_step {a : Nat → Int} {L p i : Nat} (hL : 0 < L) (h : tv a L p i = -1) (hp : i % L = p) (ha : a i = -1) : tv a L p (i + L) = -1 ∧ (i + L) % L = p := by
  refine ⟨tv_skip h L (fun j h1 h2 h3 => ?_), by rw [Nat.add_mod_right]; exact hp⟩
  rw [md_sep hL hp h3 h1 h2]
  exact ha
/-- a round of length L goes with the row a of n numbers -/
def gr (a : Nat → Int) (n L : Nat) : Prop := ∀ i, i < n → a i = -1 ∨ a i = tv a L (i % L) n
/-- behind m numbers of the row no number parts from the first told in its place -/
def grm (a : Nat → Int) (L m : Nat) : Prop := ∀ i, i < m → a i = -1 ∨ a i = tv a L (i % L) (i + 1)
theorem gr_of {a : Nat → Int} {n L : Nat} (h : grm a L n) : gr a n L := fun i hi => by
  rcases h i hi with q | q
  · exact Or.inl q
  · by_cases e : a i = -1
    · exact Or.inl e
    · right
      rw [tv_le (m := i + 1) (n := n) (by rw [← q]; exact e) hi]
      exact q
theorem gr_not {a : Nat → Int} {n L i : Nat} (hi : i < n) (ha : a i ≠ -1) (ht : tv a L (i % L) i ≠ -1) (hne : tv a L (i % L) i ≠ a i) : ¬ gr a n L := fun h => by
  rcases h i hi with q | q
  · exact ha q
  · rw [tv_le ht (Nat.le_of_lt hi)] at q
    exact hne q.symm
/-- the reference's row of STEPS behind one number more -/
theorem tv_put {a : Nat → Int} {L i k : Nat} (hk : tv a L (i % L) i = -1 ∨ tv a L (i % L) i = a i) : tv a L k (i + 1) = if k = i % L then a i else tv a L k i := by
  rw [tv_succ]
  by_cases e : k = i % L
  · rw [if_pos e, e, if_pos rfl]
    rcases hk with q | q
    · rw [if_neg (fun z => z q)]
    · by_cases z : tv a L (i % L) i = -1
      · rw [if_neg (fun y => y z)]
      · rw [if_pos z, q]
  · rw [if_neg e]
    by_cases z : tv a L k i = -1
    · rw [if_neg (fun y => y z), if_neg (fun q : i % L = k => e q.symm), z]
    · rw [if_pos z]
theorem tv_same {a : Nat → Int} {L i k : Nat} (ha : a i = -1) : tv a L k (i + 1) = tv a L k i := by
  rw [tv_succ]
  by_cases z : tv a L k i = -1
  · rw [if_neg (fun y => y z)]
    by_cases e : i % L = k
    · rw [if_pos e, ha, z]
    · rw [if_neg e, z]
  · rw [if_pos z]
def ra (f : Nat → Int64) (s : Int) : Nat → Int := fun i => (f (60 * s + (i : Int)).toNat).toInt
theorem ra_at {f : Nat → Int64} {s i : Int} {z : Int64} (h0 : 0 ≤ i) (hz : z = f (60 * s + i).toNat) : ra f s i.toNat = z.toInt := by
  show (f (60 * s + (i.toNat : Int)).toNat).toInt = z.toInt
  rw [Int.toNat_of_nonneg h0, hz]
def st_ok (f : Nat → Int64) (s n : Int) : Prop := ∀ k : Nat, (k : Int) < n → -1 ≤ ra f s k ∧ ra f s k ≤ 5
theorem st_zero (f : Nat → Int64) (s : Int) : st_ok f s 0 := fun k hk => by omega
theorem st_step {f : Nat → Int64} {s i j : Int} (h : st_ok f s i) (h0 : 0 ≤ i) (hi : -1 ≤ ra f s i.toNat ∧ ra f s i.toNat ≤ 5) (hj : j = i + 1) : st_ok f s j := fun k hk => by
  by_cases e : (k : Int) = i
  · have e2 : k = i.toNat := by omega
    rw [e2]; exact hi
  · exact h k (by omega)
def to_ok (f : Nat → Int64) (s L p i : Int) : Prop := i.toNat % L.toNat = p.toNat ∧ tv (ra f s) L.toNat p.toNat i.toNat = -1
theorem to_start (f : Nat → Int64) (s : Int) {L p : Int} (h0 : 0 ≤ p) (h1 : p < L) : to_ok f s L p p := ⟨Nat.mod_eq_of_lt (by omega), tv_start (by omega)⟩
theorem to_step {f : Nat → Int64} {s L p i j : Int} (h : to_ok f s L p i) (hL : 1 ≤ L) (h0 : 0 ≤ i) (ha : ra f s i.toNat = -1) (hj : j = i + L) : to_ok f s L p j := by
  obtain ⟨h1, h2⟩ := h
  have e : j.toNat = i.toNat + L.toNat := by omega
  have h3 := tv_step (by omega) h2 h1 ha
  unfold to_ok
  rw [e]
  exact ⟨h3.2, h3.1⟩
theorem to_none {f : Nat → Int64} {s L p i n : Int} (h : to_ok f s L p i) (hn : n ≤ i) : tv (ra f s) L.toNat p.toNat n.toNat = -1 := tv_none h.2 (by omega)
theorem to_hit {f : Nat → Int64} {s L p i n : Int} (h : to_ok f s L p i) (h0 : 0 ≤ i) (hn : i < n) (ha : ra f s i.toNat ≠ -1) : tv (ra f s) L.toNat p.toNat n.toNat = ra f s i.toNat := tv_hit h.2 h.1 ha (by omega)
/-- the shortest length -/
def HS (a : Nat → Int) (n : Nat) (r : Int) : Prop := (1 ≤ r ∧ r ≤ 12 ∧ gr a n r.toNat ∧ ∀ L : Nat, 1 ≤ L → (L : Int) < r → ¬ gr a n L) ∨ (r = -1 ∧ ∀ L : Nat, 1 ≤ L → L ≤ 12 → ¬ gr a n L)
theorem HS_one {a : Nat → Int} {n : Nat} {r q : Int} (h : HS a n r) (g : HS a n q) : r = q := by
  rcases h with ⟨a1, a2, a3, a4⟩ | ⟨a1, a2⟩ <;> rcases g with ⟨b1, b2, b3, b4⟩ | ⟨b1, b2⟩
  · by_cases e : r < q
    · exact absurd a3 (b4 r.toNat (by omega) (by omega))
    · by_cases e2 : q < r
      · exact absurd b3 (a4 q.toNat (by omega) (by omega))
      · omega
  · exact absurd a3 (b2 r.toNat (by omega) (by omega))
  · exact absurd b3 (a2 q.toNat (by omega) (by omega))
  · rw [a1, b1]
theorem tv_cong {a b : Nat → Int} {L p n : Nat} (h : ∀ i, i < n → a i = b i) : tv a L p n = tv b L p n := by
  induction n with
  | zero => rfl
  | succ n ih => rw [tv_succ, tv_succ, ih (fun i hi => h i (by omega)), h n (by omega)]
theorem gr_cong {a b : Nat → Int} {L n : Nat} (h : ∀ i, i < n → a i = b i) (g : gr a n L) : gr b n L := fun i hi => by
  rw [← h i hi, ← tv_cong h]
  exact g i hi
theorem HS_cong {a b : Nat → Int} {n : Nat} {r : Int} (h : ∀ i, i < n → a i = b i) (g : HS a n r) : HS b n r := by
  have h2 : ∀ i, i < n → b i = a i := fun i hi => (h i hi).symm
  rcases g with ⟨a1, a2, a3, a4⟩ | ⟨a1, a2⟩
  · exact Or.inl ⟨a1, a2, gr_cong h a3, fun L l1 l2 q => a4 L l1 l2 (gr_cong h2 q)⟩
  · exact Or.inr ⟨a1, fun L l1 l2 q => a2 L l1 l2 (gr_cong h2 q)⟩
/-- how many places below k are not told -/
def oc (a : Nat → Int) (L n : Nat) : Nat → Int
  | 0 => 0
  | k + 1 => oc a L n k + (if tv a L k n = -1 then 1 else 0)
theorem oc_cong {a b : Nat → Int} {L n : Nat} (h : ∀ i, i < n → a i = b i) (k : Nat) : oc a L n k = oc b L n k := by
  induction k with
  | zero => rfl
  | succ k ih =>
    show oc a L n k + _ = oc b L n k + _
    rw [ih, tv_cong h]
theorem tq_remx {x y : Int32} (hc : 0 < y.toInt) : (0 ≤ (x - x / y * y).toInt → (x - x / y * y).toInt = x.toInt % y.toInt) ∧ ((x - x / y * y).toInt < 0 → (x - x / y * y).toInt + y.toInt = x.toInt % y.toInt) := by
  rw [tq_rem hc]
  have h1 := Int.tmod_add_mul_tdiv x.toInt y.toInt
  have h2 := Int.tmod_lt_of_pos x.toInt hc
  have h3 := Int.lt_tmod_of_pos x.toInt hc
  have h4 : x.toInt % y.toInt = (x.toInt.tmod y.toInt) % y.toInt := by
    conv => lhs; rw [← h1]
    exact Int.add_mul_emod_self_left _ _ _
  rw [h4]
  refine ⟨fun h => (Int.emod_eq_of_lt h h2).symm, fun h => ?_⟩
  have h5 : (x.toInt.tmod y.toInt) % y.toInt = (x.toInt.tmod y.toInt + y.toInt * 1) % y.toInt := (Int.add_mul_emod_self_left _ _ _).symm
  rw [h5, Int.mul_one]
  exact (Int.emod_eq_of_lt (by omega) (by omega)).symm
/-- a number cut to its width -/
def cu (x : Int64) (w : Int32) : Int64 := if w.toInt = 0 then x.toInt32.toInt8.toInt32.toInt64 else if w.toInt = 1 then x.toInt32.toInt16.toInt32.toInt64 else if w.toInt = 2 then x.toInt32.toInt64 else x
theorem cu_0 {x r : Int64} {w y z : Int32} (h : w.toInt = 0) (e1 : y = x.toInt32) (e2 : z = y.toInt8.toInt32) (e3 : r = z.toInt64) : r = cu x w := by
  unfold cu
  rw [if_pos h, e3, e2, e1]
theorem cu_1 {x r : Int64} {w y z : Int32} (h : w.toInt = 1) (e1 : y = x.toInt32) (e2 : z = y.toInt16.toInt32) (e3 : r = z.toInt64) : r = cu x w := by
  unfold cu
  rw [if_neg (by omega), if_pos h, e3, e2, e1]
theorem cu_2 {x r : Int64} {w y : Int32} (h : w.toInt = 2) (e1 : y = x.toInt32) (e3 : r = y.toInt64) : r = cu x w := by
  unfold cu
  rw [if_neg (by omega), if_neg (by omega), if_pos h, e3, e1]
theorem cu_3 {x : Int64} {w : Int32} (h0 : w.toInt ≠ 0) (h1 : w.toInt ≠ 1) (h2 : w.toInt ≠ 2) : x = cu x w := by
  unfold cu
  rw [if_neg h0, if_neg h1, if_neg h2]
theorem uL_eq (f : Nat → Int64) (k : Nat) (x : Int64) : vp_updL f k x k = x := by unfold vp_updL; rw [if_pos rfl]
theorem uL_ne {f : Nat → Int64} {k j : Nat} (x : Int64) (h : j ≠ k) : vp_updL f k x j = f j := by unfold vp_updL; rw [if_neg h]
theorem uI_eq (f : Nat → Int32) (k : Nat) (x : Int32) : upd f k x k = x := by unfold upd; rw [if_pos rfl]
theorem uI_ne {f : Nat → Int32} {k j : Nat} (x : Int32) (h : j ≠ k) : upd f k x j = f j := by unfold upd; rw [if_neg h]
theorem uL_put {f : Nat → Int64} {z w w2 : Int32} {k : Int} {r v : Int64} (hz : z.toInt = k) (hr : r = cu v w) (hw : w = w2) : vp_updL f z.toNatClampNeg r = vp_updL f k.toNat (cu v w2) := by
  subst hz
  subst hw
  subst hr
  rfl
theorem nn_i {z : Int32} (h : 0 ≤ z.toInt) : ((z.toNatClampNeg : Nat) : Int) = z.toInt := Int.toNat_of_nonneg h
/-- a row of n zeros at A, all other rows as they were -/
def rowN (A n : Int) (f g : Nat → Int64) : Prop := ∀ j : Nat, ((60 * A ≤ (j : Int) ∧ (j : Int) < 60 * A + n) → g j = 0) ∧ (((j : Int) < 60 * A ∨ 60 * A + 60 ≤ (j : Int)) → g j = f j)
theorem rowN_zero {A n : Int} {f : Nat → Int64} (h : n = 0) : rowN A n f f := fun j => ⟨fun q => absurd q (by omega), fun _ => rfl⟩
theorem rowN_le {A n m : Int} {f g : Nat → Int64} (h : rowN A n f g) (hm : m ≤ n) : rowN A m f g := fun j => ⟨fun q => (h j).1 (by omega), (h j).2⟩
theorem rowN_step {A n m : Int} {f g : Nat → Int64} {z : Int32} (h : rowN A n f g) (hz : z.toInt = 60 * A + n) (h0 : 0 ≤ z.toInt) (hn : 0 ≤ n ∧ n < 60) (hm : m = n + 1) : rowN A m f (vp_updL g z.toNatClampNeg 0) := fun j => by
  have hk := nn_i h0
  by_cases e : j = z.toNatClampNeg
  · rw [e, uL_eq]
    exact ⟨fun _ => rfl, fun q => absurd q (by omega)⟩
  · rw [uL_ne _ e]
    exact ⟨fun q => (h j).1 (by omega), (h j).2⟩
/-- n numbers copied from S to T -/
def paN (S T n : Int) (f g : Nat → Int64) : Prop := ∀ j : Nat, ((T ≤ (j : Int) ∧ (j : Int) < T + n) → g j = f ((j : Int) - T + S).toNat) ∧ (((j : Int) < T ∨ T + n ≤ (j : Int)) → g j = f j)
theorem paN_cpy {S T n : Int} {f : Nat → Int64} {x y z : Int32} (hx : x.toInt = S) (hy : y.toInt = T) (hz : z.toInt = n) (h0 : 0 ≤ S) (h1 : 0 ≤ T) (h2 : 0 ≤ n) : paN S T n f (va_cpy f f x.toNatClampNeg y.toNatClampNeg z.toNatClampNeg) := fun j => by
  have e1 := nn_i (z := x) (by omega)
  have e2 := nn_i (z := y) (by omega)
  have e3 := nn_i (z := z) (by omega)
  refine ⟨fun q => ?_, fun q => ?_⟩
  · show (if y.toNatClampNeg ≤ j ∧ j < y.toNatClampNeg + z.toNatClampNeg then f (x.toNatClampNeg + (j - y.toNatClampNeg)) else f j) = _
    rw [if_pos (by omega)]
    exact congrArg f (by omega)
  · show (if y.toNatClampNeg ≤ j ∧ j < y.toNatClampNeg + z.toNatClampNeg then f (x.toNatClampNeg + (j - y.toNatClampNeg)) else f j) = _
    rw [if_neg (by omega)]
/-- the first n of them laid by -/
def moN (S n : Int) (f g : Nat → Int64) : Prop := ∀ j : Nat, (j : Int) < n → g j = f (S + (j : Int)).toNat
theorem moN_zero {S n : Int} {f g : Nat → Int64} (h : n = 0) : moN S n f g := fun j q => absurd q (by omega)
theorem moN_step {S n m : Int} {f g : Nat → Int64} {z y : Int32} {v : Int64} (h : moN S n f g) (hz : z.toInt = n) (hy : y.toInt = S + n) (hv : v = f y.toNatClampNeg) (h0 : 0 ≤ n) (hm : m = n + 1) : moN S m f (vp_updL g z.toNatClampNeg v) := fun j q => by
  have hk := nn_i (z := z) (by omega)
  by_cases e : j = z.toNatClampNeg
  · rw [e, uL_eq, hv]
    exact congrArg f (show y.toInt.toNat = (S + ((z.toNatClampNeg : Nat) : Int)).toNat by rw [hy, hk, hz])
  · rw [uL_ne _ e]
    exact h j (by omega)
theorem paN_zero {S T n : Int} {f : Nat → Int64} (h : n = 0) : paN S T n f f := fun j => ⟨fun q => absurd q (by omega), fun _ => rfl⟩
theorem paN_step {S T n m k : Int} {f g d : Nat → Int64} {z y : Int32} {v : Int64} (h : paN S T n f g) (hd : moN S k f d) (hz : z.toInt = T + n) (hy : y.toInt = n) (hv : v = d y.toNatClampNeg) (h0 : 0 ≤ n) (h1 : n < k) (hT : 0 ≤ T) (hm : m = n + 1) : paN S T m f (vp_updL g z.toNatClampNeg v) := fun j => by
  have hk := nn_i (z := z) (by omega)
  have hj := nn_i (z := y) (by omega)
  by_cases e : j = z.toNatClampNeg
  · rw [e, uL_eq, hv, hd y.toNatClampNeg (by omega)]
    refine ⟨fun _ => congrArg f ?_, fun q => absurd q (by omega)⟩
    rw [hk, hj, hz, hy]
    exact congrArg Int.toNat (by omega)
  · rw [uL_ne _ e]
    exact ⟨fun q => (h j).1 (by omega), fun q => (h j).2 (by omega)⟩
def wr_ok (a b r : Int) : Prop := 0 < b → r = a % b
theorem md_nat {i L r : Int} (h0 : 0 ≤ i) (hL : 0 < L) (h : r = i % L) : r.toNat = i.toNat % L.toNat := by
  obtain ⟨a, rfl⟩ := Int.eq_ofNat_of_zero_le h0
  obtain ⟨b, rfl⟩ := Int.eq_ofNat_of_zero_le (Int.le_of_lt hL)
  subst h
  rfl
theorem ra_ld {f : Nat → Int64} {s i : Int} {z : Int32} {v : Int64} (h0 : 0 ≤ i) (hz : z.toInt = 60 * s + i) (hv : v = f z.toNatClampNeg) : ra f s i.toNat = v.toInt := by
  refine ra_at h0 ?_
  rw [hv]
  exact congrArg f (show z.toInt.toNat = (60 * s + i).toNat by rw [hz])
theorem st_0 {f : Nat → Int64} {s n : Int} (h : n = 0) : st_ok f s n := fun k hk => absurd hk (by omega)
theorem st_le {f : Nat → Int64} {s n m : Int} (h : st_ok f s n) (hm : m ≤ n) : st_ok f s m := fun k hk => h k (by omega)
theorem st_not {f : Nat → Int64} {s n i : Int} (h0 : 0 ≤ i) (hi : i < n) (h : ¬ (-1 ≤ ra f s i.toNat ∧ ra f s i.toNat ≤ 5)) : ¬ st_ok f s n := fun q => h (q i.toNat (by omega))
theorem st_at {f : Nat → Int64} {s n i : Int} {r : Int64} (h : st_ok f s n) (h0 : 0 ≤ i) (hi : i < n) (hr : ra f s i.toNat = r.toInt) : -1 ≤ r.toInt ∧ r.toInt ≤ 5 := by
  rw [← hr]
  exact h i.toNat (by omega)
/-- the numbers below i go with length L -/
def go_ok (f : Nat → Int64) (s L n i : Int) : Prop := ∀ k : Nat, (k : Int) < i → ra f s k = -1 ∨ ra f s k = tv (ra f s) L.toNat (k % L.toNat) n.toNat
theorem go_0 {f : Nat → Int64} {s L n i : Int} (h : i = 0) : go_ok f s L n i := fun k hk => absurd hk (by omega)
theorem go_step {f : Nat → Int64} {s L n i j : Int} (h : go_ok f s L n i) (h0 : 0 ≤ i) (hi : ra f s i.toNat = -1 ∨ ra f s i.toNat = tv (ra f s) L.toNat (i.toNat % L.toNat) n.toNat) (hj : j = i + 1) : go_ok f s L n j := fun k hk => by
  by_cases e : (k : Int) = i
  · have e2 : k = i.toNat := by omega
    rw [e2]
    exact hi
  · exact h k (by omega)
theorem go_all {f : Nat → Int64} {s L n i : Int} (h : go_ok f s L n i) (hn : n ≤ i) : gr (ra f s) n.toNat L.toNat := fun k hk => h k (by omega)
theorem go_not {f : Nat → Int64} {s L n i : Int} (h0 : 0 ≤ i) (hi : i < n) (ha : ra f s i.toNat ≠ -1) (hb : ra f s i.toNat ≠ tv (ra f s) L.toNat (i.toNat % L.toNat) n.toNat) : ¬ gr (ra f s) n.toNat L.toNat := fun h => by
  rcases h i.toNat (by omega) with q | q
  · exact ha q
  · exact hb q
theorem go_tv {f : Nat → Int64} {s L n i w t : Int} (h0 : 0 ≤ i) (hL : 0 < L) (hw : wr_ok i L w) (ht : t = tv (ra f s) L.toNat w.toNat n.toNat) : t = tv (ra f s) L.toNat (i.toNat % L.toNat) n.toNat := by
  rw [ht, md_nat h0 hL (hw hL)]
/-- no length below L goes round -/
def hs_ok (a : Nat → Int) (n : Nat) (L : Int) : Prop := ∀ M : Nat, 1 ≤ M → (M : Int) < L → ¬ gr a n M
theorem hs_1 {a : Nat → Int} {n : Nat} {L : Int} (h : L = 1) : hs_ok a n L := fun M h1 h2 => absurd h2 (by omega)
theorem hs_step {a : Nat → Int} {n : Nat} {L j : Int} (h : hs_ok a n L) (h0 : 1 ≤ L) (hL : ¬ gr a n L.toNat) (hj : j = L + 1) : hs_ok a n j := fun M h1 h2 => by
  by_cases e : (M : Int) = L
  · have e2 : M = L.toNat := by omega
    rw [e2]
    exact hL
  · exact h M h1 (by omega)
theorem HS_in {a : Nat → Int} {n : Nat} {L : Int} (h : hs_ok a n L) (h0 : 1 ≤ L) (h1 : L ≤ 12) (g : gr a n L.toNat) : HS a n L := Or.inl ⟨h0, h1, g, h⟩
theorem HS_out {a : Nat → Int} {n : Nat} {L r : Int} (h : hs_ok a n L) (h0 : 13 ≤ L) (hr : r = -1) : HS a n r := Or.inr ⟨hr, fun M h1 h2 => h M h1 (by omega)⟩
theorem HS_iv {a : Nat → Int} {n : Nat} {r : Int} (h : HS a n r) : r = -1 ∨ (1 ≤ r ∧ r ≤ 12) := by
  rcases h with ⟨h1, h2, -⟩ | ⟨h1, -⟩
  · exact Or.inr ⟨h1, h2⟩
  · exact Or.inl h1
theorem oc_0 {a : Nat → Int} {L n : Nat} {k u : Int} (hk : k = 0) (hu : u = 0) : u = oc a L n k.toNat := by
  subst hk
  exact hu
theorem oc_s1 {a : Nat → Int} {L n : Nat} {k j u v : Int} (h : u = oc a L n k.toNat) (h0 : 0 ≤ k) (ht : tv a L k.toNat n = -1) (hv : v = u + 1) (hj : j = k + 1) : v = oc a L n j.toNat := by
  have e : j.toNat = k.toNat + 1 := by omega
  rw [e]
  show v = oc a L n k.toNat + (if tv a L k.toNat n = -1 then 1 else 0)
  rw [if_pos ht, ← h, hv]
theorem oc_s0 {a : Nat → Int} {L n : Nat} {k j u v : Int} (h : u = oc a L n k.toNat) (h0 : 0 ≤ k) (ht : tv a L k.toNat n ≠ -1) (hv : v = u) (hj : j = k + 1) : v = oc a L n j.toNat := by
  have e : j.toNat = k.toNat + 1 := by omega
  rw [e]
  show v = oc a L n k.toNat + (if tv a L k.toNat n = -1 then 1 else 0)
  rw [if_neg ht, ← h, hv, Int.add_zero]
theorem oc_to {a : Nat → Int} {L n : Nat} {k j u : Int} (h : u = oc a L n k.toNat) (hj : k = j) : u = oc a L n j.toNat := by rw [← hj]; exact h
/-- the reference's row of STEPS behind i numbers -/
def sk_ok (g : Nat → Int32) (a : Nat → Int) (L i : Int) : Prop := ∀ k : Nat, (k : Int) < L → (g k).toInt = tv a L.toNat k i.toNat
theorem sk_0 {g : Nat → Int32} {a : Nat → Int} {L i x : Int} (h : ∀ k : Nat, (k : Int) < x → (g k).toInt = -1) (hx : L ≤ x) (hi : i = 0) : sk_ok g a L i := fun k hk => by
  subst hi
  exact h k (by omega)
theorem sn_0 {g : Nat → Int32} {x : Int} (h : x = 0) : ∀ k : Nat, (k : Int) < x → (g k).toInt = -1 := fun k hk => absurd hk (by omega)
theorem sn_step {g : Nat → Int32} {x y : Int} {z v : Int32} (h : ∀ k : Nat, (k : Int) < x → (g k).toInt = -1) (hz : z.toInt = x) (h0 : 0 ≤ x) (hv : v.toInt = -1) (hy : y = x + 1) : ∀ k : Nat, (k : Int) < y → (upd g z.toNatClampNeg v k).toInt = -1 := fun k hk => by
  have e1 := nn_i (z := z) (by omega)
  by_cases e : k = z.toNatClampNeg
  · rw [e, uI_eq, hv]
  · rw [uI_ne _ e]
    exact h k (by omega)
theorem sk_at {g : Nat → Int32} {a : Nat → Int} {L i : Int} {z v : Int32} (h : sk_ok g a L i) (hL : 0 < L) (h0 : 0 ≤ i) (hz : z.toInt = i % L) (hv : v = g z.toNatClampNeg) : v.toInt = tv a L.toNat (i.toNat % L.toNat) i.toNat := by
  have h1 : 0 ≤ i % L := Int.emod_nonneg _ (by omega)
  have h2 : i % L < L := Int.emod_lt_of_pos _ hL
  have e1 := nn_i (z := z) (by omega)
  rw [hv, h z.toNatClampNeg (by omega)]
  have e2 : z.toNatClampNeg = i.toNat % L.toNat := md_nat h0 hL hz
  rw [e2]
theorem sk_get {g : Nat → Int32} {a : Nat → Int} {L i : Int} {z v : Int32} (h : sk_ok g a L i) (h0 : 0 ≤ z.toInt) (h1 : z.toInt < L) (hv : v = g z.toNatClampNeg) : v.toInt = tv a L.toNat z.toInt.toNat i.toNat := by
  have e1 := nn_i (z := z) (by omega)
  rw [hv]
  exact h z.toNatClampNeg (by omega)
theorem sk_same {g : Nat → Int32} {a : Nat → Int} {L i j : Int} (h : sk_ok g a L i) (h0 : 0 ≤ i) (ha : a i.toNat = -1) (hj : j = i + 1) : sk_ok g a L j := fun k hk => by
  have e : j.toNat = i.toNat + 1 := by omega
  rw [e, tv_same ha]
  exact h k hk
theorem sk_put {g : Nat → Int32} {a : Nat → Int} {L i j : Int} {z t : Int32} (h : sk_ok g a L i) (hL : 0 < L) (h0 : 0 ≤ i) (hz : z.toInt = i % L) (ht : t.toInt = a i.toNat) (hk : tv a L.toNat (i.toNat % L.toNat) i.toNat = -1 ∨ tv a L.toNat (i.toNat % L.toNat) i.toNat = a i.toNat) (hj : j = i + 1) : sk_ok (upd g z.toNatClampNeg t) a L j := fun k hl => by
  have e : j.toNat = i.toNat + 1 := by omega
  have e2 : z.toNatClampNeg = i.toNat % L.toNat := md_nat h0 hL hz
  rw [e, tv_put hk, e2]
  by_cases q : k = i.toNat % L.toNat
  · rw [if_pos q, q, uI_eq, ht]
  · rw [if_neg q, uI_ne _ q]
    exact h k hl
theorem grm_0 {a : Nat → Int} {L i : Int} (h : i = 0) : grm a L.toNat i.toNat := fun k hk => by
  subst h
  exact absurd hk (Nat.not_lt_zero k)
theorem grm_n {a : Nat → Int} {L i j : Int} (h : grm a L.toNat i.toNat) (h0 : 0 ≤ i) (ha : a i.toNat = -1) (hj : j = i + 1) : grm a L.toNat j.toNat := fun k hk => by
  by_cases e : k = i.toNat
  · rw [e]
    exact Or.inl ha
  · exact h k (by omega)
theorem grm_s {a : Nat → Int} {L i j : Int} (h : grm a L.toNat i.toNat) (h0 : 0 ≤ i) (hk : tv a L.toNat (i.toNat % L.toNat) i.toNat = -1 ∨ tv a L.toNat (i.toNat % L.toNat) i.toNat = a i.toNat) (hj : j = i + 1) : grm a L.toNat j.toNat := fun k hl => by
  by_cases e : k = i.toNat
  · rw [e]
    right
    rw [tv_put hk, if_pos rfl]
  · exact h k (by omega)
theorem gr_to {a : Nat → Int} {L i n : Int} (h : grm a L.toNat i.toNat) (hi : i = n) : gr a n.toNat L.toNat := by
  subst hi
  exact gr_of h
theorem sk_to {g : Nat → Int32} {a : Nat → Int} {L i n : Int} (h : sk_ok g a L i) (hi : i = n) : sk_ok g a L n := by
  subst hi
  exact h
theorem gr_no {a : Nat → Int} {L n i : Int} (h0 : 0 ≤ i) (hi : i < n) (ha : a i.toNat ≠ -1) (ht : tv a L.toNat (i.toNat % L.toNat) i.toNat ≠ -1) (hne : tv a L.toNat (i.toNat % L.toNat) i.toNat ≠ a i.toNat) : ¬ gr a n.toNat L.toNat := gr_not (by omega) ha ht hne
theorem rm_x {x y z : Int32} (hz : z = x - x / y * y) (h0 : 0 ≤ z.toInt) (hc : 0 < y.toInt) : z.toInt = x.toInt % y.toInt := by
  rw [hz] at h0 ⊢
  exact (tq_remx hc).1 h0
/-- what is answered of a row of STEPS -/
abbrev is4 (a1 : Int32) : Prop := 0 ≤ a1.toInt ∧ a1.toInt < 4
def rfP (Q : (Nat → Int) → Nat → Int → Prop) (h : Prop) (S : Int) (f : Nat → Int64) (a1 : Int32) (r : Int) : Prop := (r = -2 ∧ ¬ is4 a1) ∨ (r = -6 ∧ is4 a1 ∧ ¬ h) ∨ (r = -2 ∧ is4 a1 ∧ h ∧ ¬ st_ok f a1.toInt S) ∨ (is4 a1 ∧ h ∧ st_ok f a1.toInt S ∧ Q (ra f a1.toInt) S.toNat r)
theorem rfP_one {Q : (Nat → Int) → Nat → Int → Prop} {h : Prop} {S : Int} {f : Nat → Int64} {a1 : Int32} {r q : Int} (hQ : ∀ (a : Nat → Int) (n : Nat) (x y : Int), Q a n x → Q a n y → x = y) (h1 : rfP Q h S f a1 r) (h2 : rfP Q h S f a1 q) : r = q := by
  rcases h1 with ⟨e1, p1⟩ | ⟨e1, p1, p2⟩ | ⟨e1, p1, p2, p3⟩ | ⟨p1, p2, p3, p4⟩ <;> rcases h2 with ⟨e2, q1⟩ | ⟨e2, q1, q2⟩ | ⟨e2, q1, q2, q3⟩ | ⟨q1, q2, q3, q4⟩
  · rw [e1, e2]
  · exact absurd q1 p1
  · exact absurd q1 p1
  · exact absurd q1 p1
  · exact absurd p1 q1
  · rw [e1, e2]
  · exact absurd q2 p2
  · exact absurd q2 p2
  · exact absurd p1 q1
  · exact absurd p2 q2
  · rw [e1, e2]
  · exact absurd q3 p3
  · exact absurd p1 q1
  · exact absurd p2 q2
  · exact absurd p3 q3
  · exact hQ _ _ _ _ p4 q4
theorem st_cong {f g : Nat → Int64} {s n : Int} (h : ∀ i : Nat, (i : Int) < n → ra f s i = ra g s i) (k : st_ok f s n) : st_ok g s n := fun i hi => by
  rw [← h i hi]
  exact k i hi
theorem rfP_cong {Q : (Nat → Int) → Nat → Int → Prop} {h h' : Prop} {S S' : Int} {f f' : Nat → Int64} {a1 : Int32} {r : Int} (hQ : ∀ (a b : Nat → Int) (n : Nat) (x : Int), (∀ i, i < n → a i = b i) → Q a n x → Q b n x) (hh : is4 a1 → (h ↔ h')) (hs : is4 a1 → h → S = S' ∧ ∀ i : Nat, (i : Int) < S → ra f a1.toInt i = ra f' a1.toInt i) (k : rfP Q h S f a1 r) : rfP Q h' S' f' a1 r := by
  rcases k with ⟨e1, p1⟩ | ⟨e1, p1, p2⟩ | ⟨e1, p1, p2, p3⟩ | ⟨p1, p2, p3, p4⟩
  · exact Or.inl ⟨e1, p1⟩
  · exact Or.inr (Or.inl ⟨e1, p1, fun q => p2 ((hh p1).mpr q)⟩)
  · obtain ⟨e, c⟩ := hs p1 p2
    subst e
    exact Or.inr (Or.inr (Or.inl ⟨e1, p1, (hh p1).mp p2, fun q => p3 (st_cong (fun i hi => (c i hi).symm) q)⟩))
  · obtain ⟨e, c⟩ := hs p1 p2
    subst e
    exact Or.inr (Or.inr (Or.inr ⟨p1, (hh p1).mp p2, st_cong c p3, hQ _ _ _ _ (fun i hi => c i (by omega)) p4⟩))
/-- what is filled in at i -/
def FQ (i : Int) (a : Nat → Int) (n : Nat) (r : Int) : Prop := ∃ L : Int, HS a n L ∧ ((0 ≤ i ∧ i < L ∧ r = tv a L.toNat i.toNat n) ∨ (¬ (0 ≤ i ∧ i < L) ∧ r = -1))
theorem FQ_one (i : Int) (a : Nat → Int) (n : Nat) (x y : Int) (h : FQ i a n x) (k : FQ i a n y) : x = y := by
  obtain ⟨L, h1, h2⟩ := h
  obtain ⟨M, k1, k2⟩ := k
  have e := HS_one h1 k1
  subst e
  rcases h2 with ⟨a1, a2, a3⟩ | ⟨a1, a3⟩ <;> rcases k2 with ⟨b1, b2, b3⟩ | ⟨b1, b3⟩
  · rw [a3, b3]
  · exact absurd ⟨a1, a2⟩ b1
  · exact absurd ⟨b1, b2⟩ a1
  · rw [a3, b3]
theorem FQ_cong (i : Int) (a b : Nat → Int) (n : Nat) (x : Int) (h : ∀ j, j < n → a j = b j) (k : FQ i a n x) : FQ i b n x := by
  obtain ⟨L, h1, h2⟩ := k
  refine ⟨L, HS_cong h h1, ?_⟩
  rw [← tv_cong h]
  exact h2
/-- how many are open -/
def OQ (a : Nat → Int) (n : Nat) (r : Int) : Prop := ∃ L : Int, HS a n L ∧ ((L = -1 ∧ r = -1) ∨ (1 ≤ L ∧ r = oc a L.toNat n L.toNat))
theorem OQ_one (a : Nat → Int) (n : Nat) (x y : Int) (h : OQ a n x) (k : OQ a n y) : x = y := by
  obtain ⟨L, h1, h2⟩ := h
  obtain ⟨M, k1, k2⟩ := k
  have e := HS_one h1 k1
  subst e
  rcases h2 with ⟨a1, a3⟩ | ⟨a1, a3⟩ <;> rcases k2 with ⟨b1, b3⟩ | ⟨b1, b3⟩
  · rw [a3, b3]
  · omega
  · omega
  · rw [a3, b3]
theorem OQ_cong (a b : Nat → Int) (n : Nat) (x : Int) (h : ∀ j, j < n → a j = b j) (k : OQ a n x) : OQ b n x := by
  obtain ⟨L, h1, h2⟩ := k
  refine ⟨L, HS_cong h h1, ?_⟩
  rw [← oc_cong h]
  exact h2
theorem HQ_one (a : Nat → Int) (n : Nat) (x y : Int) (h : HS a n x) (k : HS a n y) : x = y := HS_one h k
theorem HQ_cong (a b : Nat → Int) (n : Nat) (x : Int) (h : ∀ j, j < n → a j = b j) (k : HS a n x) : HS b n x := HS_cong h k
theorem pa_to {S T n m : Int} {f g : Nat → Int64} (h : paN S T n f g) (hm : n = m) : paN S T m f g := by
  subst hm
  exact h
abbrev dn (a : Nat) (x0 : Int32) (x1 : Int32) (x2 : Int32) (x3 : Int32) (x4 : Nat) (x5 : Nat) (x6 : Nat) (x7 : Nat) (x8 : Nat) (x9 : Int32) (x10 : Nat) (x11 : Nat) (x12 : Int32) (x13 : Nat) (x14 : Int32) (x15 : Nat) (x16 : Int32) : Nat × va_E := (a, .inr (0, [.int x0, .int x1, .int x2, .int x3, .ref x4, .ref x5, .ref x6, .ref x7, .ref x8, .int x9, .ref x10, .ref x11, .int x12, .ref x13, .int x14, .ref x15, .int x16]))
abbrev fo (a : Nat) (x0 : Nat) (x1 : Nat) (x2 : Nat) (x3 : Int32) (x4 : Int32) (x5 : Int32) : Nat × va_E := (a, .inr (1, [.ref x0, .ref x1, .ref x2, .int x3, .int x4, .int x5]))
abbrev gu (a : Nat) (x0 : Int32) (x1 : Int32) (x2 : Nat) (x3 : Int32) (x4 : Int32) (x5 : Nat) (x6 : Nat) (x7 : Nat) (x8 : Nat) (x9 : Nat) (x10 : Int32) (x11 : Int32) : Nat × va_E := (a, .inr (3, [.int x0, .int x1, .ref x2, .int x3, .int x4, .ref x5, .ref x6, .ref x7, .ref x8, .ref x9, .int x10, .int x11]))
abbrev oo (a : Nat) (x0 : Nat) (x1 : Nat) (x2 : Nat) (x3 : Nat) (x4 : Nat) (x5 : Nat) (x6 : Nat) (x7 : Nat) (x8 : Int32) (x9 : Nat) (x10 : Nat) (x11 : Nat) (x12 : Nat) (x13 : Nat) (x14 : Nat) (x15 : Nat) : Nat × va_E := (a, .inr (11, [.ref x0, .ref x1, .ref x2, .ref x3, .ref x4, .ref x5, .ref x6, .ref x7, .int x8, .ref x9, .ref x10, .ref x11, .ref x12, .ref x13, .ref x14, .ref x15]))
abbrev mo (a : Nat) (x0 : Int32) (x1 : Nat) (x2 : Nat) (x3 : Nat) (x4 : Nat) (x5 : Nat) (x6 : Int32) (x7 : Int32) (x8 : Int32) (x9 : Int32) (x10 : Int32) (x11 : Int64) (x12 : Int32) (x13 : Int32) (x14 : Int32) (x15 : Int32) (x16 : Nat) (x17 : Nat) (x18 : Nat) (x19 : Nat) (x20 : Nat) (x21 : Nat) (x22 : Nat) (x23 : Nat) (x24 : Nat) (x25 : Nat) (x26 : Nat) (x27 : Nat) (x28 : Nat) (x29 : Int32) (x30 : Int32) (x31 : Nat) (x32 : Int32) (x33 : Int32) (x34 : Int64) (x35 : Int32) (x36 : Nat) (x37 : Int32) (x38 : Int32) (x39 : Nat) (x40 : Int32) (x41 : Int32) (x42 : Int32) (x43 : Int32) (x44 : Int64) : Nat × va_E := (a, .inr (12, [.int x0, .ref x1, .ref x2, .ref x3, .ref x4, .ref x5, .int x6, .int x7, .int x8, .int x9, .int x10, .long x11, .int x12, .int x13, .int x14, .int x15, .ref x16, .ref x17, .ref x18, .ref x19, .ref x20, .ref x21, .ref x22, .ref x23, .ref x24, .ref x25, .ref x26, .ref x27, .ref x28, .int x29, .int x30, .ref x31, .int x32, .int x33, .long x34, .int x35, .ref x36, .int x37, .int x38, .ref x39, .int x40, .int x41, .int x42, .int x43, .long x44]))
