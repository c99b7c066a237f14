theorem ct_arr {s : State} {args : Array Value} {ty : FieldType} (h : (Cond.arrayClass ty).before args s = true) : ∃ cA : ClassId, ArrOfT s cA ty ∧ s.vm.findClass ("[" ++ ty.toString) = some cA := by
  obtain ⟨c, k, comp, h1, h2, h3⟩ := Cond.arrayClass_spec h
  exact ⟨c, fun _ _ => ⟨(fun _ h => by cases h), k, h2, comp, h3⟩, h1⟩
theorem ct_arrq {s : State} {C : String} (h : va_AO C s) : ∃ cA : ClassId, ArrOfT s cA (.object C) ∧ va_RA s cA (.object C) := by
  obtain ⟨comp, c, k, h1, h2, h3, h4, h5⟩ := Cond.arrayOver_spec h
  exact ⟨c, fun _ _ => ⟨(fun _ h => by cases h), k, h3, comp, h4⟩, k, comp, h3, h4, h1, h5⟩

def R_law : String := "OverHillLaw"
def lw_P (b : Addr) (xs : List Int32) (args : Array Value) (s : State) : Prop := args = #[.ref b] ∧ s.IntsAt b xs ∧ xs.length ≤ 6 ∧ (Jvm.Cond.and given_1 narrow_1).before args s = true
def lw_Q (_ : Array Value) (s : State) (o : Outcome) (t : State) : Prop := o = .returned (some (.int 1)) ∧ Framed s o t [] 600000 7302250
def lw_Z (below : List Frame) (a : Array Value) (s : State) : State → Prop := fun t => ∃ o, t.status = .running ∧ Ended t below o ∧ lw_Q a s o t
/-- the law's own end, with 1 on the stack, nothing written that was there before, its room as the claim has it -/
theorem lw_ret {p : Program} {l : Launch} {e : Env} {s : State} {m : MethodId} {below : List Frame} {meth : Method} {c : Code} {b : Nat} (hx : p.tables.exec = Jvm.exec) (hb : c.code = code) (hr : meth.sig.returnType = ret) (hlocks : meth.locks = false) {pc : Nat} {H : Heap} {ls : Array Slot} (hdg : decode code pc = .ok (.ireturn, 1)) : W p l e room_1 s m #[Value.ref b] below meth c H [] 600000 7302250 (lw_Z below #[Value.ref b] s) (F0 m pc ls [.int 1]) := by
  intro T hT X
  obtain ⟨fs, hret, hrun, hended, hW, hframe⟩ := X.leave (v := some (.int 1)) (hlocks := hlocks) (fun h => by rw [hr] at h; cases h)
  have hmeth' : T.vm.method? m = some meth := X.method'
  refine ⟨T.setFrames fs, ?_, .returned (some (.int 1)), hrun, hended, rfl, ⟨_, rfl⟩, hW, hframe⟩
  jvm_step X.here [X.here.top, hx, hb, hdg, hmeth', hr, ret, narrow_b1]
  (try refine ⟨rfl, ?_⟩); (try refine ⟨rfl, ?_⟩)
  first | (intro acts; rw [hret _ acts rfl rfl rfl]) | rw [hret _ _ rfl rfl rfl]
  exact Steps.refl _
/-- what holds at the law's entry: the machine, the code, the tables' words (any of lw_tbl by 'hts w (by decide +kernel)'), the script of L ints xs at the cell b, what the Statement gives of the start (any of its parts by flat_of_before) -/
def lw_At (p : Program) (s : State) (m : MethodId) (meth : Method) (c : Code) (b L : Nat) (xs : Nat → Int32) : Prop :=
  p.tables.exec = Jvm.exec ∧ c.code = code ∧ meth.sig.returnType = ret ∧ c.maxLocals = 4 ∧ s.vm.findClass R_law = some m.cls ∧ (∀ w ∈ lw_tbl, w.before #[Value.ref b] s = true) ∧ va_X b L xs s s.heap ∧ b < s.heap.size ∧ meth.locks = false ∧ (Jvm.Cond.and given_1 narrow_1).before #[Value.ref b] s = true

abbrev LW (cI cJ cB cZ cO : ClassId) (h0 h1 : Nat) (u v : Nat → Nat) : va_W := [oo h0 u (u 2) (u 3), ((u 0), .inr (5, [.ref (u 1), .int 0, .int 0, .int (-1)])), ((u 1), .inr (8, [.ref (u 16), .int 0, .int 0, .int 0, .int 0, .int 0])), ((u 16), .inl (cB, 1200, .inl (fun _ => 0))), dn (u 2) (u 24) (u 25) (u 26) (u 27) (u 28) (u 30) (u 31) (u 33) (u 35), ((u 24), .inl (cI, 24, .inl (fun _ => 0))), ((u 25), .inl (cI, 2, .inl (fun _ => 0))), ((u 26), .inl (cI, 2, .inl (fun _ => 0))), ((u 27), .inl (cI, 6, .inl (fun _ => 0))), ((u 28), .inl (cI, 32, .inl (fun _ => 0))), ((u 30), .inl (cI, 200, .inl (fun _ => 0))), ((u 31), .inl (cI, 24, .inl (fun _ => 0))), ((u 33), .inl (cI, 10, .inl (fun _ => 0))), ((u 35), .inl (cI, 120, .inl (fun _ => 0))), dn (u 3) (u 44) (u 45) (u 46) (u 47) (u 48) (u 50) (u 51) (u 53) (u 55), ((u 45), .inl (cI, 2, .inl (fun _ => 0))), ((u 46), .inl (cI, 2, .inl (fun _ => 0))), ((u 47), .inl (cI, 6, .inl (fun _ => 0))), ((u 50), .inl (cI, 200, .inl (fun _ => 0))), ((u 4), .inl (cO, 3, .inr (.inr (.inr (.inr (va_up (va_up (va_up (fun _ => none) 0 (some (u 60))) 1 (some (u 80))) 2 (some (u 100)))))))), dn (u 60) (u 64) (u 65) (u 66) (u 67) (u 68) (u 70) (u 71) (u 73) (u 75), ((u 64), .inl (cI, 24, .inl (fun _ => 0))), ((u 65), .inl (cI, 2, .inl (fun _ => 0))), ((u 66), .inl (cI, 2, .inl (fun _ => 0))), ((u 67), .inl (cI, 6, .inl (fun _ => 0))), ((u 68), .inl (cI, 32, .inl (fun _ => 0))), ((u 70), .inl (cI, 200, .inl (fun _ => 0))), ((u 71), .inl (cI, 24, .inl (fun _ => 0))), ((u 73), .inl (cI, 10, .inl (fun _ => 0))), ((u 75), .inl (cI, 120, .inl (fun _ => 0))), dn (u 80) (u 84) (u 85) (u 86) (u 87) (u 88) (u 90) (u 91) (u 93) (u 95), ((u 84), .inl (cI, 24, .inl (fun _ => 0))), ((u 85), .inl (cI, 2, .inl (fun _ => 0))), ((u 86), .inl (cI, 2, .inl (fun _ => 0))), ((u 87), .inl (cI, 6, .inl (fun _ => 0))), ((u 88), .inl (cI, 32, .inl (fun _ => 0))), ((u 90), .inl (cI, 200, .inl (fun _ => 0))), ((u 91), .inl (cI, 24, .inl (fun _ => 0))), ((u 93), .inl (cI, 10, .inl (fun _ => 0))), ((u 95), .inl (cI, 120, .inl (fun _ => 0))), dn (u 100) (u 104) (u 105) (u 106) (u 107) (u 108) (u 110) (u 111) (u 113) (u 115), ((u 104), .inl (cI, 24, .inl (fun _ => 0))), ((u 105), .inl (cI, 2, .inl (fun _ => 0))), ((u 106), .inl (cI, 2, .inl (fun _ => 0))), ((u 107), .inl (cI, 6, .inl (fun _ => 0))), ((u 108), .inl (cI, 32, .inl (fun _ => 0))), ((u 110), .inl (cI, 200, .inl (fun _ => 0))), ((u 111), .inl (cI, 24, .inl (fun _ => 0))), ((u 113), .inl (cI, 10, .inl (fun _ => 0))), ((u 115), .inl (cI, 120, .inl (fun _ => 0))), ((u 5), .inl (cI, 3, .inl (fun _ => 0))), ((u 15), .inr (7, [.ref (u 17), .ref (u 18), .ref (u 19)])), ((u 17), .inl (cI, 4, .inl (fun _ => 0))), ((u 18), .inl (cI, 4, .inl (szf))), ((u 19), .inl (cJ, 240, .inr (.inl (fun _ => 0)))), mo h1 v 0 0, ((v 1), .inl (cI, 4, .inl (szf))), ((v 2), .inl (cI, 4, .inl (fun _ => 0))), ((v 3), .inl (cJ, 240, .inr (.inl (fun _ => 0)))), ((v 5), .inl (cB, 1200, .inl (fun _ => 0))), ((v 25), .inl (cZ, 3, .inl (fun _ => 0))), ((v 16), .inl (cI, 5, .inl (fun _ => 0))), ((v 17), .inl (cI, 55, .inl (fun _ => 0))), ((v 18), .inl (cI, 120, .inl (fun _ => 0))), ((v 19), .inl (cI, 30, .inl (fun _ => 0))), ((v 20), .inl (cI, 160, .inl (fun _ => 0))), ((v 21), .inl (cZ, 1000, .inl (fun _ => 0))), ((v 22), .inl (cI, 120, .inl (fun _ => 0))), ((v 23), .inl (cI, 50, .inl (fun _ => 0))), ((v 24), .inl (cI, 800, .inl (fun _ => 0)))]
set_option maxHeartbeats 4000000 in
set_option maxRecDepth 100000 in
/-- behind the call: no second one is in the script -/
theorem law_tail {p : Program} {l : Launch} {e : Env} {s : State} {m : MethodId} {below : List Frame} {meth : Method} {c : Code} {A : Nat → Prop} {b : Nat} {xs : Nat → Int32} (hx : p.tables.exec = Jvm.exec) (hb : c.code = code) (hml : c.maxLocals = 4) (hr : meth.sig.returnType = ret) (hlocks : meth.locks = false) (hX : va_X b 6 xs s s.heap) (hbl : b < s.heap.size) (hbA : ¬ A b) (hA : ∀ q : Nat, s.heap.size ≤ q → A q) (hAf : ∀ q : Nat, A q → s.heap.size ≤ q) {h0 h1 : Nat} {H : Heap} {locs : List Loc} (hS : va_S A s.heap H locs) {ls : Array Slot} (hl : lv_has ls 4 [(3, .int 0), (2, .ref h1), (1, .ref h0), (0, .ref b)]) : W p l e room_1 s m #[Value.ref b] below meth c H locs 107 36842 (lw_Z below #[Value.ref b] s) (F0 m 2167 ls []) := by
  refine lv_iinc (v := 6) (lv' := [(3, .int 6), (2, .ref h1), (1, .ref h0), (0, .ref b)]) hx hb dL_law_2167 hl (k := 0) rfl (by decide) (by decide) rfl (fun ls hl => ?_)
  refine lv_goto (tgt := 18) hx hb dL_law_2170 (by decide) ?_
  refine lv_iload_n hx hb dL_law_18 rfl (lv_at hl 0 rfl) ?_
  refine lv_aload_n hx hb dL_law_19 rfl (lv_at hl 3 rfl) ?_
  refine va_slen hx hb hX hbl hbA hS dL_law_20 ?_
  refine lv_topi (fun z567 ez567 => ?_)
  obtain rfl : z567 = 6 := ez567.trans (by decide)
  refine lv_bipush (v := 6) hx hb dL_law_21 (by decide) ?_
  refine lv_isub hx hb dL_law_23 ?_
  refine lv_topi (fun z568 ez568 => ?_)
  obtain rfl : z568 = 0 := ez568.trans (by decide)
  refine lv_icmp_gt (tgt := 2173) hx hb dL_law_24 (by decide) (fun _ => ?_) (fun hc => absurd hc (by decide))
  refine lv_iconst (v := 1) hx hb dL_law_2173 (by decide) ?_
  refine va_forget (fun q hq => hAf _ (hS.2.2 q hq)) ?_
  refine W.widen (k := 600000) (n := 7302250) (Nat.le_of_ble_eq_true rfl) (Nat.le_of_ble_eq_true rfl) ?_
  exact lw_ret hx hb hr hlocks dL_law_2174
