abbrev ct_nl : List (String × Nat × MethodName × String) := [(RX11, 9, yX5_init, "OverHill"), (RX5, 11, yX8_init, "OverHill"), (RX11, 23, yX0_init, "OverHill"), (RX11, 41, yX1_init, "OverHill"), (RX11, 55, yX6_init, "OverHill"), (RX11, 62, yX3_init, "OverHill"), (RX11, 69, yX10_init, "OverHill"), (RX11, 76, yX9_init, "OverHill"), (RX11, 83, yX2_init, "OverHill"), (RX11, 90, yX4_init, "OverHill"), (RX11, 97, yX7_init, "OverHill"), (RX0, 76, yX11_isWithin, "OverHill"), (RX1, 61, yX11_wrap, "OverHill"), (RX6, 20, yX11_commonMultiple, "OverHill"), (RX6, 78, yX11_wrap, "OverHill"), (RX7, 22, yX11_isWithin, "OverHill"), (RX3, 71, yX11_wrap, "OverHill"), (RX10, 24, yX11_wrap, "OverHill"), (RX7, 66, yX11_wrap, "OverHill"), (RX9, 34, yX11_commonMultiple, "OverHill"), (RX4, 66, yX11_wrap, "OverHill")]
/-! what every contract of this claim stands on: the environment (tables, nest mates), a start, an end, a call -/
abbrev ct_T (cI cJ cB cZ cO : ClassId) : List (ClassId × FieldType) := [(cI, .int), (cJ, .long), (cB, .byte), (cZ, .boolean), (cO, .object RX0)]
def ct_E (D : va_G) (T : List (ClassId × FieldType)) (U : State) : Prop := va_K D vwCl T U ∧ (∀ q ∈ ct_nl, va_Nw (.methodLinkNest q.1 q.2.1 q.2.2.1 q.2.2.2) U) ∧ va_AO RX0 U
theorem ct_E.warm {D : va_G} {T : List (ClassId × FieldType)} {s U : State} (h : ct_E D T s) (hW : s.WarmedH U.vm) : ct_E D T U :=
  ⟨va_K.moved hW.alike h.1, fun q hq => va_Nw.warmM hW (h.2.1 q hq), va_AO.moved hW.alike h.2.2⟩
theorem ct_E.call {D : va_G} {T : List (ClassId × FieldType)} {U : State} {g : JFrame} {mk : MethodId} {a : Array Value} (h : ct_E D T U) : ct_E D T (U.calling g mk a) :=
  ⟨va_K.moved (u := U) (U := U.calling g mk a) (Vm.Alike.refl U.vm) h.1, fun q hq => va_Nw.same (u := U) (U := U.calling g mk a) rfl rfl (h.2.1 q hq), va_AO.moved (u := U) (U := U.calling g mk a) (Vm.Alike.refl U.vm) h.2.2⟩
def ct_P (D : va_G) (T : List (ClassId × FieldType)) (w : va_W) (sz : Nat) (U : State) : Prop := U.heap.size = sz ∧ va_P D vwCl w U.heap ∧ ct_E D T U ∧ va_D (fun _ => True) w
abbrev ct_Q (D : va_G) (A : Nat → Prop) (w : va_W) (t : State) : Prop := va_P D vwCl w t.heap ∧ va_D A w
theorem ct_blind {D : va_G} {T : List (ClassId × FieldType)} {w : va_W} {sz : Nat} {av : List Value} : FrameBlind (va_Pc av (ct_P D T w sz)) := fun a U g mk q => by
  obtain ⟨q0, q1, qP, qE, qD⟩ := q
  exact ⟨q0, q1, qP, qE.call, qD⟩
theorem ct_sub {ws wc : va_W} {is : List Nat} (hC : is.map (fun i => ws[i]?) = wc.map some) : ∀ (k : Nat) (q : Nat × va_E), wc[k]? = some q → ∃ i, is[k]? = some i ∧ ws[i]? = some q := by
  intro k q hq
  have h1 : (is.map (fun i => ws[i]?))[k]? = some (some q) := by rw [hC, List.getElem?_map, hq]; rfl
  rw [List.getElem?_map] at h1
  cases hi : is[k]? with
  | none => rw [hi] at h1; cases h1
  | some i => rw [hi] at h1; exact ⟨i, rfl, Option.some.inj h1⟩
theorem ct_pP {D : va_G} {cl : List vw_C} {ws wc : va_W} {H : Heap} {is : List Nat} (hP : va_P D cl ws H) (hC : is.map (fun i => ws[i]?) = wc.map some) : va_P D cl wc H := fun k q hq => by
  obtain ⟨i, -, h⟩ := ct_sub hC k q hq
  exact hP i q h
theorem ct_pD {A : Nat → Prop} {ws wc : va_W} {is : List Nat} (hD : va_D A ws) (hn : va_nd is = true) (hC : is.map (fun i => ws[i]?) = wc.map some) : va_D (fun _ => True) wc := (hD.sub is hn hC).weaken (fun _ _ _ _ => trivial)
theorem ct_preS {D : va_G} {T : List (ClassId × FieldType)} {s : State} {H : Heap} {A : Nat → Prop} {ws wc : va_W} {As : List Value} (hE : ct_E D T s) (hP : va_P D vwCl ws H) (hD : va_D A ws) (is : List Nat) (hn : va_nd is = true) (hC : is.map (fun i => ws[i]?) = wc.map some) : PreS s H (va_Pc As (ct_P D T wc H.size)) As :=
  ⟨ct_blind, fun U hU hW => ⟨rfl, by rw [hU], by rw [hU]; exact ct_pP hP hC, hE.warm hW, ct_pD hD hn hC⟩⟩
theorem ct_preV {D : va_G} {T : List (ClassId × FieldType)} {s : State} {H : Heap} {A : Nat → Prop} {ws wc : va_W} {As : List Value} {b q0 ci : Nat} {q : vw_C} {fs : List Value} (hE : ct_E D T s) (hP : va_P D vwCl ws H) (hD : va_D A ws) (is : List Nat) (hn : va_nd is = true) (hC : is.map (fun i => ws[i]?) = wc.map some) (hc : vwCl[ci]? = some q) (he : ws[q0]? = some (b, .inr (ci, fs))) : PreV s H q.1 b (va_Pc (.ref b :: As) (ct_P D T wc H.size)) As :=
  ⟨ct_blind, va_recv hE.1 hP hc he, fun U hU hW => ⟨rfl, by rw [hU], by rw [hU]; exact ct_pP hP hC, hE.warm hW, ct_pD hD hn hC⟩⟩
section CTC
variable {p : Program} {l : Launch} {e : Env} {R : Room} {s : State} {m : MethodId} {args : Array Value} {below : List Frame} {meth : Method} {c : Code} {H : Heap} {locs : List Loc} {cells slots : Nat} {Q : State → Prop}
variable {pc : Nat} {ls : Array Slot} {rest st0 : List Value} {a : Array Value} {A0 : Nat → Prop} {mc ms : Nat} {D : va_G} {ws wc wr : va_W}
theorem ct_calli {S : Type} {post : Int32 → S → Prop} {w1 : S → va_W} (hr : va_Run p l e R s m args below meth c H locs cells slots mc ms (F0 m pc ls st0) rest (va_Qi post (fun u t => ct_Q D (va_A wc H.size) (w1 u) t) (va_A wc H.size) a) (va_A wc H.size)) (hP : va_P D vwCl ws H) (hD : va_D A0 ws) (hS : va_S A0 s.heap H locs) (hA : ∀ q, s.heap.size ≤ q → A0 q)
    (isC isR : List Nat) (hC : isC.map (fun i => ws[i]?) = wc.map some) (hR : isR.map (fun i => ws[i]?) = wr.map some) (hn : va_nd isR = true) (hdis : ∀ i ∈ isR, i ∉ isC)
    (kk : ∀ (r : Int32) (u : S) (H1 : Heap) (locs1 : List Loc), post r u → va_P D vwCl (wr ++ w1 u) H1 → va_D A0 (wr ++ w1 u) → va_S A0 s.heap H1 locs1 → W p l e R s m args below meth c H1 locs1 (cells + mc) (slots + ms) Q (F0 m (pc + 3) ls (.int r :: rest))) : W p l e R s m args below meth c H locs cells slots Q (F0 m pc ls st0) := by
  have hFc := va_free (wc := wc) hD hS hA isC hC
  refine va_calli hr hS (fun q _ h => hFc q h) hFc (fun r u t H1 locs1 ht hvm hw hB hz1 hk1 hS1 => ?_)
  obtain ⟨hP1, hD1⟩ := hB
  rw [ht] at hP1
  obtain ⟨hP2, hD2⟩ := va_join hP hD isC isR hC hR hn hdis hk1 hFc hP1 hD1
  exact kk r u H1 locs1 hw hP2 hD2 hS1
theorem ct_calll {S : Type} {post : Int64 → S → Prop} {w1 : S → va_W} (hr : va_Run p l e R s m args below meth c H locs cells slots mc ms (F0 m pc ls st0) rest (va_Ql post (fun u t => ct_Q D (va_A wc H.size) (w1 u) t) (va_A wc H.size) a) (va_A wc H.size)) (hP : va_P D vwCl ws H) (hD : va_D A0 ws) (hS : va_S A0 s.heap H locs) (hA : ∀ q, s.heap.size ≤ q → A0 q)
    (isC isR : List Nat) (hC : isC.map (fun i => ws[i]?) = wc.map some) (hR : isR.map (fun i => ws[i]?) = wr.map some) (hn : va_nd isR = true) (hdis : ∀ i ∈ isR, i ∉ isC)
    (kk : ∀ (r : Int64) (u : S) (H1 : Heap) (locs1 : List Loc), post r u → va_P D vwCl (wr ++ w1 u) H1 → va_D A0 (wr ++ w1 u) → va_S A0 s.heap H1 locs1 → W p l e R s m args below meth c H1 locs1 (cells + mc) (slots + ms) Q (F0 m (pc + 3) ls (.long r :: rest))) : W p l e R s m args below meth c H locs cells slots Q (F0 m pc ls st0) := by
  have hFc := va_free (wc := wc) hD hS hA isC hC
  refine va_calll hr hS (fun q _ h => hFc q h) hFc (fun r u t H1 locs1 ht hvm hw hB hz1 hk1 hS1 => ?_)
  obtain ⟨hP1, hD1⟩ := hB
  rw [ht] at hP1
  obtain ⟨hP2, hD2⟩ := va_join hP hD isC isR hC hR hn hdis hk1 hFc hP1 hD1
  exact kk r u H1 locs1 hw hP2 hD2 hS1
theorem ct_callv {S : Type} {post : S → Prop} {w1 : S → va_W} (hr : va_Run p l e R s m args below meth c H locs cells slots mc ms (F0 m pc ls st0) rest (va_Qv post (fun u t => ct_Q D (va_A wc H.size) (w1 u) t) (va_A wc H.size) a) (va_A wc H.size)) (hP : va_P D vwCl ws H) (hD : va_D A0 ws) (hS : va_S A0 s.heap H locs) (hA : ∀ q, s.heap.size ≤ q → A0 q)
    (isC isR : List Nat) (hC : isC.map (fun i => ws[i]?) = wc.map some) (hR : isR.map (fun i => ws[i]?) = wr.map some) (hn : va_nd isR = true) (hdis : ∀ i ∈ isR, i ∉ isC)
    (kk : ∀ (u : S) (H1 : Heap) (locs1 : List Loc), post u → va_P D vwCl (wr ++ w1 u) H1 → va_D A0 (wr ++ w1 u) → va_S A0 s.heap H1 locs1 → W p l e R s m args below meth c H1 locs1 (cells + mc) (slots + ms) Q (F0 m (pc + 3) ls rest)) : W p l e R s m args below meth c H locs cells slots Q (F0 m pc ls st0) := by
  have hFc := va_free (wc := wc) hD hS hA isC hC
  refine va_callv hr hS (fun q _ h => hFc q h) hFc (fun u t H1 locs1 ht hvm hw hB hz1 hk1 hS1 => ?_)
  obtain ⟨hP1, hD1⟩ := hB
  rw [ht] at hP1
  obtain ⟨hP2, hD2⟩ := va_join hP hD isC isR hC hR hn hdis hk1 hFc hP1 hD1
  exact kk u H1 locs1 hw hP2 hD2 hS1
end CTC
/-- one class of arrays of a kind -/
theorem ct_one {s : State} {D : va_G} {cl : List vw_C} {T T' : List (ClassId × FieldType)} {ty : FieldType} {cA cB : ClassId} (h : va_K D cl T s) (h' : va_K D cl T' s) (i j : Nat) (hi : T[i]? = some (cA, ty)) (hj : T'[j]? = some (cB, ty)) (ht : refKind ty = false) : cB = cA := by
  have h1 := (h.2 i _ hi).2
  have h2 := (h'.2 j _ hj).2
  cases ty <;> simp [refKind] at ht <;> exact Option.some.inj (h2.symm.trans h1)
section CTN
variable {p : Program} {l : Launch} {e : Env} {R : Room} {s : State} {m : MethodId} {args : Array Value} {below : List Frame} {meth : Method} {c : Code} {H : Heap} {locs : List Loc} {cells slots : Nat} {Q : State → Prop}
variable {cc : ByteArray} {pc : Nat} {ls : Array Slot} {rest : List Value} {D : va_G} {cl : List vw_C} {A : Nat → Prop} {T : List (ClassId × FieldType)} {ws : va_W} {H0 : Heap}
theorem ct_newi (hx : p.tables.exec = Jvm.exec) (hb : c.code = cc) (harr : (Cond.arrayClass .int).before args s = true) {cI : ClassId} (hT : T[0]? = some (cI, .int)) (hK : va_K D cl T s) (hP : va_P D cl ws H) (hD : va_D A ws) (hS : va_S A H0 H locs) (hA : ∀ q, H0.size ≤ q → A q) {n : Int32} (N' : Nat) (hn : ¬ n < 0) (hN : n.toNatClampNeg = N') (hby : N' * 4 ≤ 536870912) (hcells : cells + 1 ≤ R.cells) (hslots : slots + N' ≤ R.slots) (hdg : decode cc pc = .ok (.newarray .int, 2))
    (kk : ∀ (q : Nat) (H1 : Heap), va_P D cl (ws ++ [(q, .inl (cI, N', .inl (fun _ => 0)))]) H1 → va_D A (ws ++ [(q, .inl (cI, N', .inl (fun _ => 0)))]) → va_S A H0 H1 locs → W p l e R s m args below meth c H1 locs (cells + 1) (slots + N') Q (F0 m (pc + 2) ls (.ref q :: rest))) : W p l e R s m args below meth c H locs cells slots Q (F0 m pc ls (.int n :: rest)) := by
  refine va_newa (atype := .int) (ty := .int) (a0 := (N', .inl (fun _ => 0))) hx hb harr rfl hK hP hD hS hA (fun _ => rfl) hn hN hby hcells hslots hdg (fun q cA H1 hK1 hP1 hD1 hS1 => ?_)
  have ec : cA = cI := ct_one hK hK1 0 T.length hT (by simp) rfl
  subst ec
  exact kk q H1 hP1 hD1 hS1
theorem ct_newl (hx : p.tables.exec = Jvm.exec) (hb : c.code = cc) (harr : (Cond.arrayClass .long).before args s = true) {cI : ClassId} (hT : T[1]? = some (cI, .long)) (hK : va_K D cl T s) (hP : va_P D cl ws H) (hD : va_D A ws) (hS : va_S A H0 H locs) (hA : ∀ q, H0.size ≤ q → A q) {n : Int32} (N' : Nat) (hn : ¬ n < 0) (hN : n.toNatClampNeg = N') (hby : N' * 8 ≤ 536870912) (hcells : cells + 1 ≤ R.cells) (hslots : slots + N' ≤ R.slots) (hdg : decode cc pc = .ok (.newarray .long, 2))
    (kk : ∀ (q : Nat) (H1 : Heap), va_P D cl (ws ++ [(q, .inl (cI, N', .inr (.inl (fun _ => 0))))]) H1 → va_D A (ws ++ [(q, .inl (cI, N', .inr (.inl (fun _ => 0))))]) → va_S A H0 H1 locs → W p l e R s m args below meth c H1 locs (cells + 1) (slots + N') Q (F0 m (pc + 2) ls (.ref q :: rest))) : W p l e R s m args below meth c H locs cells slots Q (F0 m pc ls (.int n :: rest)) := by
  refine va_newa (atype := .long) (ty := .long) (a0 := (N', .inr (.inl (fun _ => 0)))) hx hb harr rfl hK hP hD hS hA (fun _ => rfl) hn hN hby hcells hslots hdg (fun q cA H1 hK1 hP1 hD1 hS1 => ?_)
  have ec : cA = cI := ct_one hK hK1 1 T.length hT (by simp) rfl
  subst ec
  exact kk q H1 hP1 hD1 hS1
theorem ct_newb (hx : p.tables.exec = Jvm.exec) (hb : c.code = cc) (harr : (Cond.arrayClass .byte).before args s = true) {cI : ClassId} (hT : T[2]? = some (cI, .byte)) (hK : va_K D cl T s) (hP : va_P D cl ws H) (hD : va_D A ws) (hS : va_S A H0 H locs) (hA : ∀ q, H0.size ≤ q → A q) {n : Int32} (N' : Nat) (hn : ¬ n < 0) (hN : n.toNatClampNeg = N') (hby : N' * 1 ≤ 536870912) (hcells : cells + 1 ≤ R.cells) (hslots : slots + N' ≤ R.slots) (hdg : decode cc pc = .ok (.newarray .byte, 2))
    (kk : ∀ (q : Nat) (H1 : Heap), va_P D cl (ws ++ [(q, .inl (cI, N', .inl (fun _ => 0)))]) H1 → va_D A (ws ++ [(q, .inl (cI, N', .inl (fun _ => 0)))]) → va_S A H0 H1 locs → W p l e R s m args below meth c H1 locs (cells + 1) (slots + N') Q (F0 m (pc + 2) ls (.ref q :: rest))) : W p l e R s m args below meth c H locs cells slots Q (F0 m pc ls (.int n :: rest)) := by
  refine va_newa (atype := .byte) (ty := .byte) (a0 := (N', .inl (fun _ => 0))) hx hb harr rfl hK hP hD hS hA (fun _ => rfl) hn hN hby hcells hslots hdg (fun q cA H1 hK1 hP1 hD1 hS1 => ?_)
  have ec : cA = cI := ct_one hK hK1 2 T.length hT (by simp) rfl
  subst ec
  exact kk q H1 hP1 hD1 hS1
theorem ct_newz (hx : p.tables.exec = Jvm.exec) (hb : c.code = cc) (harr : (Cond.arrayClass .boolean).before args s = true) {cI : ClassId} (hT : T[3]? = some (cI, .boolean)) (hK : va_K D cl T s) (hP : va_P D cl ws H) (hD : va_D A ws) (hS : va_S A H0 H locs) (hA : ∀ q, H0.size ≤ q → A q) {n : Int32} (N' : Nat) (hn : ¬ n < 0) (hN : n.toNatClampNeg = N') (hby : N' * 1 ≤ 536870912) (hcells : cells + 1 ≤ R.cells) (hslots : slots + N' ≤ R.slots) (hdg : decode cc pc = .ok (.newarray .boolean, 2))
    (kk : ∀ (q : Nat) (H1 : Heap), va_P D cl (ws ++ [(q, .inl (cI, N', .inl (fun _ => 0)))]) H1 → va_D A (ws ++ [(q, .inl (cI, N', .inl (fun _ => 0)))]) → va_S A H0 H1 locs → W p l e R s m args below meth c H1 locs (cells + 1) (slots + N') Q (F0 m (pc + 2) ls (.ref q :: rest))) : W p l e R s m args below meth c H locs cells slots Q (F0 m pc ls (.int n :: rest)) := by
  refine va_newa (atype := .boolean) (ty := .boolean) (a0 := (N', .inl (fun _ => 0))) hx hb harr rfl hK hP hD hS hA (fun _ => rfl) hn hN hby hcells hslots hdg (fun q cA H1 hK1 hP1 hD1 hS1 => ?_)
  have ec : cA = cI := ct_one hK hK1 3 T.length hT (by simp) rfl
  subst ec
  exact kk q H1 hP1 hD1 hS1
end CTN
/-! numbers: a comparison of the machine's, of its values -/
theorem tq_lt {x y : Int32} {a b : Int} (hx : x.toInt = a) (hy : y.toInt = b) (h : x < y) : a < b := by rw [← hx, ← hy]; exact Int32.lt_iff_toInt_lt.mp h
theorem tq_le {x y : Int32} {a b : Int} (hx : x.toInt = a) (hy : y.toInt = b) (h : x ≤ y) : a ≤ b := by rw [← hx, ← hy]; exact Int32.le_iff_toInt_le.mp h
theorem tq_nlt {x y : Int32} {a b : Int} (hx : x.toInt = a) (hy : y.toInt = b) (h : ¬ x < y) : b ≤ a := by rw [← hx, ← hy]; exact Int.not_lt.mp (fun q => h (Int32.lt_iff_toInt_lt.mpr q))
theorem tq_nle {x y : Int32} {a b : Int} (hx : x.toInt = a) (hy : y.toInt = b) (h : ¬ x ≤ y) : b < a := by rw [← hx, ← hy]; exact Int.not_le.mp (fun q => h (Int32.le_iff_toInt_le.mpr q))
theorem tq_eq {x y : Int32} {a b : Int} (hx : x.toInt = a) (hy : y.toInt = b) (h : x = y) : a = b := by rw [← hx, ← hy, h]
theorem tq_ne {x y : Int32} {a b : Int} (hx : x.toInt = a) (hy : y.toInt = b) (h : ¬ x = y) : a ≠ b := by rw [← hx, ← hy]; exact fun q => h (Int32.toInt_inj.mp q)
theorem tq_of {x y : Int32} {a : Int} (hx : x.toInt = a) (hy : y.toInt = a) : x = y := Int32.toInt_inj.mp (hx.trans hy.symm)
theorem tl_lt {x y : Int64} {a b : Int} (hx : x.toInt = a) (hy : y.toInt = b) (h : x < y) : a < b := by rw [← hx, ← hy]; exact Int64.lt_iff_toInt_lt.mp h
theorem tl_nlt {x y : Int64} {a b : Int} (hx : x.toInt = a) (hy : y.toInt = b) (h : ¬ x < y) : b ≤ a := by rw [← hx, ← hy]; exact Int.not_lt.mp (fun q => h (Int64.lt_iff_toInt_lt.mpr q))
theorem tl_i {x : Int32} {a : Int} (hx : x.toInt = a) : x.toInt64.toInt = a := by rw [Int32.toInt_toInt64]; exact hx
theorem ct_start {p : Program} {l : Launch} {e : Env} {R : Room} {s : State} {m : MethodId} {args : Array Value} {below : List Frame} {meth : Method} {c : Code} {H : Heap} {locs : List Loc} {cells slots : Nat} {Q : State → Prop} {g : JFrame} (h : H = s.heap) (k : W p l e R s m args below meth c H locs cells slots Q g) : W p l e R s m args below meth c s.heap locs cells slots Q g := h ▸ k
theorem ct_oneq {s : State} {D : va_G} {cl : List vw_C} {T T' : List (ClassId × FieldType)} {C : String} {cA cB : ClassId} (h : va_K D cl T s) (h' : va_K D cl T' s) (i j : Nat) (hi : T[i]? = some (cA, .object C)) (hj : T'[j]? = some (cB, .object C)) : cB = cA := by
  obtain ⟨_, _, _, _, _, h1⟩ := (h.2 i _ hi).2
  obtain ⟨_, _, _, _, _, h2⟩ := (h'.2 j _ hj).2
  exact Option.some.inj (h2.symm.trans h1)
theorem tq_sm {a : Int} (h : -2147483648 ≤ a ∧ a < 2147483648) : a.bmod (2 ^ 32) = a := Int.bmod_eq_of_le (by omega) (by omega)
theorem tq_add {x y : Int32} {a b : Int} (hx : x.toInt = a) (hy : y.toInt = b) (h : -2147483648 ≤ a + b ∧ a + b < 2147483648) : (x + y).toInt = a + b := by rw [Int32.toInt_add, hx, hy]; exact tq_sm h
theorem tq_mul {x y : Int32} {a b : Int} (hx : x.toInt = a) (hy : y.toInt = b) (h : -2147483648 ≤ a * b ∧ a * b < 2147483648) : (x * y).toInt = a * b := by rw [Int32.toInt_mul, hx, hy]; exact tq_sm h
theorem tq_subt {x y : Int32} {a b : Int} (hx : x.toInt = a) (hy : y.toInt = b) (h : -2147483648 ≤ a - b ∧ a - b < 2147483648) : (x - y).toInt = a - b := by rw [Int32.toInt_sub, hx, hy]; exact tq_sm h
theorem tq_in {x : Int32} {n : Nat} {a : Int} (hx : x.toInt = a) (h : 0 ≤ a ∧ a < (n : Int)) : vp_in x n := vp_in_iff.mpr (by rw [hx]; exact h)
theorem tq_cl {x : Int32} {n : Nat} {a : Int} (hx : x.toInt = a) (h : a < (n : Int)) (h0 : 0 ≤ a) : x.toNatClampNeg < n := by
  show x.toInt.toNat < n
  rw [hx]; omega
theorem ct_upd0 (k : Nat) : upd (fun _ => (0 : Int32)) k 0 = fun _ => 0 := by
  funext j
  simp [upd]
abbrev szf : Nat → Int32 := upd (upd (upd (upd (fun _ => 0) 0 (-1)) 1 (-1)) 2 (-1)) 3 (-1)
theorem szf_m : ∀ j, j < 4 → szf j = -1 := fun j hj => match j, hj with
  | 0, _ => rfl
  | 1, _ => rfl
  | 2, _ => rfl
  | 3, _ => rfl
  | q + 4, h => absurd h (by omega)

theorem ct_df0 : ∀ j, j < 17 → defaultValue (tyX0 j) = vp_V [.int 0, .int 0, .int 0, .int 0, .null, .null, .null, .null, .null, .int 0, .null, .null, .int 0, .null, .int 0, .null, .int 0] j := fun j hj => match j, hj with
  | 0, _ => rfl
  | 1, _ => rfl
  | 2, _ => rfl
  | 3, _ => rfl
  | 4, _ => rfl
  | 5, _ => rfl
  | 6, _ => rfl
  | 7, _ => rfl
  | 8, _ => rfl
  | 9, _ => rfl
  | 10, _ => rfl
  | 11, _ => rfl
  | 12, _ => rfl
  | 13, _ => rfl
  | 14, _ => rfl
  | 15, _ => rfl
  | 16, _ => rfl
  | q + 17, hq => absurd hq (by omega)
theorem ct_df1 : ∀ j, j < 6 → defaultValue (tyX1 j) = vp_V [.null, .null, .null, .int 0, .int 0, .int 0] j := fun j hj => match j, hj with
  | 0, _ => rfl
  | 1, _ => rfl
  | 2, _ => rfl
  | 3, _ => rfl
  | 4, _ => rfl
  | 5, _ => rfl
  | q + 6, hq => absurd hq (by omega)
theorem ct_df2 : ∀ j, j < 1 → defaultValue (tyX2 j) = vp_V [.null] j := fun j hj => match j, hj with
  | 0, _ => rfl
  | q + 1, hq => absurd hq (by omega)
theorem ct_df3 : ∀ j, j < 12 → defaultValue (tyX3 j) = vp_V [.int 0, .int 0, .null, .int 0, .int 0, .null, .null, .null, .null, .null, .int 0, .int 0] j := fun j hj => match j, hj with
  | 0, _ => rfl
  | 1, _ => rfl
  | 2, _ => rfl
  | 3, _ => rfl
  | 4, _ => rfl
  | 5, _ => rfl
  | 6, _ => rfl
  | 7, _ => rfl
  | 8, _ => rfl
  | 9, _ => rfl
  | 10, _ => rfl
  | 11, _ => rfl
  | q + 12, hq => absurd hq (by omega)
theorem ct_df4 : ∀ j, j < 7 → defaultValue (tyX4 j) = vp_V [.null, .null, .long 0, .int 0, .int 0, .int 0, .int 0] j := fun j hj => match j, hj with
  | 0, _ => rfl
  | 1, _ => rfl
  | 2, _ => rfl
  | 3, _ => rfl
  | 4, _ => rfl
  | 5, _ => rfl
  | 6, _ => rfl
  | q + 7, hq => absurd hq (by omega)
theorem ct_df5 : ∀ j, j < 4 → defaultValue (tyX5 j) = vp_V [.null, .int 0, .int 0, .int 0] j := fun j hj => match j, hj with
  | 0, _ => rfl
  | 1, _ => rfl
  | 2, _ => rfl
  | 3, _ => rfl
  | q + 4, hq => absurd hq (by omega)
theorem ct_df6 : ∀ j, j < 1 → defaultValue (tyX6 j) = vp_V [.null] j := fun j hj => match j, hj with
  | 0, _ => rfl
  | q + 1, hq => absurd hq (by omega)
theorem ct_df7 : ∀ j, j < 3 → defaultValue (tyX7 j) = vp_V [.null, .null, .null] j := fun j hj => match j, hj with
  | 0, _ => rfl
  | 1, _ => rfl
  | 2, _ => rfl
  | q + 3, hq => absurd hq (by omega)
theorem ct_df8 : ∀ j, j < 6 → defaultValue (tyX8 j) = vp_V [.null, .int 0, .int 0, .int 0, .int 0, .int 0] j := fun j hj => match j, hj with
  | 0, _ => rfl
  | 1, _ => rfl
  | 2, _ => rfl
  | 3, _ => rfl
  | 4, _ => rfl
  | 5, _ => rfl
  | q + 6, hq => absurd hq (by omega)
theorem ct_df9 : ∀ j, j < 2 → defaultValue (tyX9 j) = vp_V [.long 0, .long 0] j := fun j hj => match j, hj with
  | 0, _ => rfl
  | 1, _ => rfl
  | q + 2, hq => absurd hq (by omega)
theorem ct_df10 : ∀ j, j < 3 → defaultValue (tyX10 j) = vp_V [.null, .int 0, .int 0] j := fun j hj => match j, hj with
  | 0, _ => rfl
  | 1, _ => rfl
  | 2, _ => rfl
  | q + 3, hq => absurd hq (by omega)
theorem ct_df11 : ∀ j, j < 16 → defaultValue (tyX11 j) = vp_V [.null, .null, .null, .null, .null, .null, .null, .null, .int 0, .null, .null, .null, .null, .null, .null, .null] j := fun j hj => match j, hj with
  | 0, _ => rfl
  | 1, _ => rfl
  | 2, _ => rfl
  | 3, _ => rfl
  | 4, _ => rfl
  | 5, _ => rfl
  | 6, _ => rfl
  | 7, _ => rfl
  | 8, _ => rfl
  | 9, _ => rfl
  | 10, _ => rfl
  | 11, _ => rfl
  | 12, _ => rfl
  | 13, _ => rfl
  | 14, _ => rfl
  | 15, _ => rfl
  | q + 16, hq => absurd hq (by omega)
theorem ct_df12 : ∀ j, j < 45 → defaultValue (tyX12 j) = vp_V [.int 0, .null, .null, .null, .null, .null, .int 0, .int 0, .int 0, .int 0, .int 0, .long 0, .int 0, .int 0, .int 0, .int 0, .null, .null, .null, .null, .null, .null, .null, .null, .null, .null, .null, .null, .null, .int 0, .int 0, .null, .int 0, .int 0, .long 0, .int 0, .null, .int 0, .int 0, .null, .int 0, .int 0, .int 0, .int 0, .long 0] j := fun j hj => match j, hj with
  | 0, _ => rfl
  | 1, _ => rfl
  | 2, _ => rfl
  | 3, _ => rfl
  | 4, _ => rfl
  | 5, _ => rfl
  | 6, _ => rfl
  | 7, _ => rfl
  | 8, _ => rfl
  | 9, _ => rfl
  | 10, _ => rfl
  | 11, _ => rfl
  | 12, _ => rfl
  | 13, _ => rfl
  | 14, _ => rfl
  | 15, _ => rfl
  | 16, _ => rfl
  | 17, _ => rfl
  | 18, _ => rfl
  | 19, _ => rfl
  | 20, _ => rfl
  | 21, _ => rfl
  | 22, _ => rfl
  | 23, _ => rfl
  | 24, _ => rfl
  | 25, _ => rfl
  | 26, _ => rfl
  | 27, _ => rfl
  | 28, _ => rfl
  | 29, _ => rfl
  | 30, _ => rfl
  | 31, _ => rfl
  | 32, _ => rfl
  | 33, _ => rfl
  | 34, _ => rfl
  | 35, _ => rfl
  | 36, _ => rfl
  | 37, _ => rfl
  | 38, _ => rfl
  | 39, _ => rfl
  | 40, _ => rfl
  | 41, _ => rfl
  | 42, _ => rfl
  | 43, _ => rfl
  | 44, _ => rfl
  | q + 45, hq => absurd hq (by omega)
abbrev dn (a b4 b5 b6 b7 b8 b10 b11 b13 b15 : Nat) : Nat × va_E := (a, .inr (0, [.int 0, .int 0, .int 0, .int 0, .ref b4, .ref b5, .ref b6, .ref b7, .ref b8, .int 0, .ref b10, .ref b11, .int 0, .ref b13, .int 0, .ref b15, .int 0]))
abbrev mo (h : Nat) (r : Nat → Nat) (tp bp : Int32) : Nat × va_E := (h, .inr (12, [.int 0, .ref (r 1), .ref (r 2), .ref (r 3), .ref (r 4), .ref (r 5), .int tp, .int 0, .int 0, .int 0, .int 0, .long 0, .int 0, .int bp, .int 0, .int (-1), .ref (r 16), .ref (r 17), .ref (r 18), .ref (r 19), .ref (r 20), .ref (r 21), .ref (r 22), .ref (r 23), .ref (r 24), .ref (r 25), .ref (r 26), .ref (r 27), .ref (r 28), .int 0, .int 0, .ref (r 31), .int 0, .int 0, .long 0, .int 0, .ref (r 36), .int 0, .int 0, .ref (r 39), .int 0, .int 0, .int 0, .int 0, .long 0]))
abbrev oo (h : Nat) (r : Nat → Nat) (n1 n2 : Nat) : Nat × va_E := (h, .inr (11, [.ref (r 0), .ref (r 1), .ref n1, .ref n2, .ref (r 4), .ref (r 5), .ref (r 6), .ref (r 7), .int 0, .ref (r 9), .ref (r 10), .ref (r 11), .ref (r 12), .ref (r 13), .ref (r 14), .ref (r 15)]))
