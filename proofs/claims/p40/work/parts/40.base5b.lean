section CTF
variable {l : Launch} {y : MethodName} {ws : List Cond} {rm : Room} {av : List Value} {D : va_G} {T : List (ClassId × FieldType)} {G : ct_G} {sz : Nat} {wc W wr : va_W} {S : Type} {w1 w2 : S → va_W}
theorem ct_A_sub {isC : List Nat} (hC : isC.map (fun i => W[i]?) = wc.map some) : ∀ q, va_A wc sz q → va_A W sz q := by
  intro q h
  rcases h with ⟨k, e, h⟩ | h
  · obtain ⟨i, -, h2⟩ := ct_sub hC k (q, e) h
    exact Or.inl ⟨i, e, h2⟩
  · exact Or.inr h
theorem ct_frame_i {post : Int32 → S → Prop} {post2 : Int32 → va_W → Prop} (hM : Met l y ws rm (va_Pc av (ct_P D T G wc sz)) (va_Qi post (fun u t => ct_Q D (va_A wc sz) (w1 u) t) (va_A wc sz)) 0 0 (va_A wc sz))
    (isC isR : List Nat) (hC : isC.map (fun i => W[i]?) = wc.map some) (hR : isR.map (fun i => W[i]?) = wr.map some) (hn : va_nd isR = true) (hnC : va_nd isC = true) (hdis : ∀ i ∈ isR, i ∉ isC)
    (isP : List Nat) (hPm : ∀ u, isP.map (fun i => (wr ++ w1 u)[i]?) = (w2 u).map some) (hnP : va_nd isP = true) (hp : ∀ r u, post r u → post2 r (w2 u)) :
    Met l y ws rm (va_Pc av (ct_P D T G W sz)) (va_Qi post2 (fun u t => ct_Q D (va_A W sz) u t) (va_A W sz)) 0 0 (va_A W sz) := by
  have hsub : ∀ q, va_A wc sz q → va_A W sz q := ct_A_sub hC
  intro p e ha hc hk s m args below hf happ hP hK
  obtain ⟨rfl, hsz, hPw, hE, hD, hH⟩ := hP
  obtain ⟨n, o, h1, h2, h3, ⟨⟨r, u, ho, hpost, hPq, hDq⟩, hF⟩, L, hL, hfree⟩ := hM p e ha hc hk s m _ below hf happ ⟨rfl, hsz, ct_pP hPw hC, hE, ct_pD hD hnC hC, hH.narrow hsub⟩ hK
  subst hsz
  have hj := va_join (A0 := va_A W s.heap.size) hPw hD.self isC isR hC hR hn hdis hF.2 hsub hPq hDq
  exact ⟨n, o, h1, h2, h3, ⟨⟨r, w2 u, ho, hp r u hpost, ct_pP hj.1 (hPm u), hj.2.sub isP hnP (hPm u)⟩, hF.1, fun q z1 z2 => hF.2 q z1 (fun z => z2 (hsub q z))⟩, L, hL, fun q hq => hsub _ (hfree q hq)⟩
theorem ct_frame_l {post : Int64 → S → Prop} {post2 : Int64 → va_W → Prop} (hM : Met l y ws rm (va_Pc av (ct_P D T G wc sz)) (va_Ql post (fun u t => ct_Q D (va_A wc sz) (w1 u) t) (va_A wc sz)) 0 0 (va_A wc sz))
    (isC isR : List Nat) (hC : isC.map (fun i => W[i]?) = wc.map some) (hR : isR.map (fun i => W[i]?) = wr.map some) (hn : va_nd isR = true) (hnC : va_nd isC = true) (hdis : ∀ i ∈ isR, i ∉ isC)
    (isP : List Nat) (hPm : ∀ u, isP.map (fun i => (wr ++ w1 u)[i]?) = (w2 u).map some) (hnP : va_nd isP = true) (hp : ∀ r u, post r u → post2 r (w2 u)) :
    Met l y ws rm (va_Pc av (ct_P D T G W sz)) (va_Ql post2 (fun u t => ct_Q D (va_A W sz) u t) (va_A W sz)) 0 0 (va_A W sz) := by
  have hsub : ∀ q, va_A wc sz q → va_A W sz q := ct_A_sub hC
  intro p e ha hc hk s m args below hf happ hP hK
  obtain ⟨rfl, hsz, hPw, hE, hD, hH⟩ := hP
  obtain ⟨n, o, h1, h2, h3, ⟨⟨r, u, ho, hpost, hPq, hDq⟩, hF⟩, L, hL, hfree⟩ := hM p e ha hc hk s m _ below hf happ ⟨rfl, hsz, ct_pP hPw hC, hE, ct_pD hD hnC hC, hH.narrow hsub⟩ hK
  subst hsz
  have hj := va_join (A0 := va_A W s.heap.size) hPw hD.self isC isR hC hR hn hdis hF.2 hsub hPq hDq
  exact ⟨n, o, h1, h2, h3, ⟨⟨r, w2 u, ho, hp r u hpost, ct_pP hj.1 (hPm u), hj.2.sub isP hnP (hPm u)⟩, hF.1, fun q z1 z2 => hF.2 q z1 (fun z => z2 (hsub q z))⟩, L, hL, fun q hq => hsub _ (hfree q hq)⟩
end CTF
theorem ap_l {wx wm : va_W} {k : Nat} {q : Nat × va_E} (h : wx[k]? = some q) : (wx ++ wm)[k]? = some q := by
  rw [List.getElem?_append_left (List.getElem?_eq_some_iff.mp h).1]
  exact h
theorem ap_r {wx wm : va_W} {k : Nat} {q : Nat × va_E} (h : wm[k]? = some q) : (wx ++ wm)[wx.length + k]? = some q := by
  rw [List.getElem?_append_right (by omega), show wx.length + k - wx.length = k by omega]
  exact h
theorem ct_joinA {A0 : Nat → Prop} {D : va_G} {cl : List vw_C} {wx wm w1 : va_W} {H H1 : Heap} (hP : va_P D cl (wx ++ wm) H) (hD : va_D A0 (wx ++ wm)) (hk : ∀ q : Nat, q < H.size → ¬ va_A wx H.size q → H1[q]? = H[q]?) (hF : ∀ q, va_A wx H.size q → A0 q) (hP1 : va_P D cl w1 H1) (hD1 : va_D (va_A wx H.size) w1) : va_P D cl (wm ++ w1) H1 ∧ va_D A0 (wm ++ w1) := by
  have apart : ∀ (k : Nat) (q : Nat × va_E), wm[k]? = some q → q.1 < H.size ∧ ¬ va_A wx H.size q.1 := by
    intro k q hq
    have h2 := ap_r (wx := wx) hq
    have hl := (hP _ q h2).lt
    refine ⟨hl, fun h => ?_⟩
    rcases h with ⟨k2, e, h⟩ | h
    · have hij := hD.1 _ _ q (q.1, e) h2 (ap_l h) rfl
      have hlt := (List.getElem?_eq_some_iff.mp h).1
      omega
    · omega
  refine ⟨va_P.app (fun k q hq => ?_) hP1, va_D.app ⟨fun i j p q h1 h2 h3 => ?_, fun k q h => hD.2 _ q (ap_r h)⟩ (hD1.weaken (fun k q _ h => hF q.1 h)) (fun i j x z hx hz hxz => ?_)⟩
  · obtain ⟨g1, g2⟩ := apart k q hq
    exact (hP _ q (ap_r hq)).kept (hk q.1 g1 g2)
  · have := hD.1 _ _ p q (ap_r h1) (ap_r h2) h3
    omega
  · exact (apart i x hx).2 (by rw [hxz]; exact hD1.2 j z hz)
section CTA
variable {p : Program} {l : Launch} {e : Env} {R : Room} {s : State} {m : MethodId} {args : Array Value} {below : List Frame} {meth : Method} {c : Code} {H : Heap} {locs : List Loc} {cells slots : Nat} {Q : State → Prop}
variable {pc : Nat} {ls : Array Slot} {rest st0 : List Value} {a : Array Value} {A0 : Nat → Prop} {D : va_G} {wx wm : va_W} {T : List (ClassId × FieldType)} {G : ct_G}
theorem ap_free (hD : va_D A0 (wx ++ wm)) (hS : va_S A0 s.heap H locs) (hA : ∀ q, s.heap.size ≤ q → A0 q) : ∀ q, va_A wx H.size q → A0 q := by
  intro q h
  rcases h with ⟨k, e, h⟩ | h
  · exact hD.2 k (q, e) (ap_l h)
  · exact hA q (Nat.le_trans hS.1 h)
theorem ct_callAi {post : Int32 → va_W → Prop} (hr : va_Run p l e R s m args below meth c H locs cells slots 0 0 (F0 m pc ls st0) rest (va_Qi post (fun u t => ct_Q D (va_A wx H.size) u t) (va_A wx H.size) a) (va_A wx H.size)) (hP : va_P D vwCl (wx ++ wm) H) (hD : va_D A0 (wx ++ wm)) (hS : va_S A0 s.heap H locs) (hA : ∀ q, s.heap.size ≤ q → A0 q)
    (kk : ∀ (r : Int32) (u : va_W) (H1 : Heap) (locs1 : List Loc), post r u → va_P D vwCl (wm ++ u) H1 → va_D A0 (wm ++ u) → va_S A0 s.heap H1 locs1 → W p l e R s m args below meth c H1 locs1 cells slots Q (F0 m (pc + 3) ls (.int r :: rest))) : W p l e R s m args below meth c H locs cells slots Q (F0 m pc ls st0) := by
  have hFc := ap_free hD hS hA
  refine va_calli hr hS (fun q _ h => hFc q h) hFc (fun r u t H1 locs1 ht hvm hw hB hz1 hk1 hS1 => ?_)
  obtain ⟨hP1, hD1⟩ := hB
  rw [ht] at hP1
  obtain ⟨hP2, hD2⟩ := ct_joinA hP hD hk1 hFc hP1 hD1
  exact kk r u H1 locs1 hw hP2 hD2 hS1
theorem ct_callAl {post : Int64 → va_W → Prop} (hr : va_Run p l e R s m args below meth c H locs cells slots 0 0 (F0 m pc ls st0) rest (va_Ql post (fun u t => ct_Q D (va_A wx H.size) u t) (va_A wx H.size) a) (va_A wx H.size)) (hP : va_P D vwCl (wx ++ wm) H) (hD : va_D A0 (wx ++ wm)) (hS : va_S A0 s.heap H locs) (hA : ∀ q, s.heap.size ≤ q → A0 q)
    (kk : ∀ (r : Int64) (u : va_W) (H1 : Heap) (locs1 : List Loc), post r u → va_P D vwCl (wm ++ u) H1 → va_D A0 (wm ++ u) → va_S A0 s.heap H1 locs1 → W p l e R s m args below meth c H1 locs1 cells slots Q (F0 m (pc + 3) ls (.long r :: rest))) : W p l e R s m args below meth c H locs cells slots Q (F0 m pc ls st0) := by
  have hFc := ap_free hD hS hA
  refine va_calll hr hS (fun q _ h => hFc q h) hFc (fun r u t H1 locs1 ht hvm hw hB hz1 hk1 hS1 => ?_)
  obtain ⟨hP1, hD1⟩ := hB
  rw [ht] at hP1
  obtain ⟨hP2, hD2⟩ := ct_joinA hP hD hk1 hFc hP1 hD1
  exact kk r u H1 locs1 hw hP2 hD2 hS1
theorem ct_preA {As : List Value} {b ci : Nat} {q : vw_C} (hE : ct_E D T G s) (hH : ct_H G A0 s s.heap) (hP : va_P D vwCl (wx ++ wm) H) (hD : va_D A0 (wx ++ wm)) (hS : va_S A0 s.heap H locs) (hA : ∀ q, s.heap.size ≤ q → A0 q) (he : ∃ (k : Nat) (fs : List Value), wx[k]? = some (b, .inr (ci, fs))) (hc : vwCl[ci]? = some q) : PreV s H q.1 b (va_Pc (.ref b :: As) (ct_P D T G wx H.size)) As := by
  obtain ⟨k, fs, he⟩ := he
  refine ⟨ct_blind, va_recv hE.1 hP hc (ap_l he), fun U hU hW => ⟨rfl, by rw [hU], by rw [hU]; exact fun k q h => hP k q (ap_l h), hE.warm hW, ⟨fun i j p q h1 h2 h3 => hD.1 i j p q (ap_l h1) (ap_l h2) h3, fun _ _ _ => trivial⟩, ?_⟩⟩
  rw [hU]
  exact ((hH.kept hS.2.1).narrow (ap_free hD hS hA)).moved hW.alike
end CTA

abbrev Gh : Type := (Nat → Int32) × (Nat → Int32) × (Nat → Int64)
def SR (gs gw mn wd : Nat → Int32) : Prop := ∀ s : Nat, s < 4 → ((gs s).toInt = -1 ∧ (wd s).toInt = -1) ∨ ((gs s).toInt ≠ -1 ∧ (wd s).toInt ≠ -1 ∧ mn s = gs s ∧ wd s = gw s)
/-- the rows' numbers, as far as there are rows -/
def NR (gs : Nat → Int32) (gn f : Nat → Int64) : Prop := (∀ s : Nat, s < 4 → (gs s).toInt ≤ 60) ∧ ∀ s i : Nat, s < 4 → (i : Int) < (gs s).toInt → f (60 * s + i) = gn (60 * s + i)
abbrev XG (g : Gh) (sz wd : Nat → Int32) (nm : Nat → Int64) : Prop := sz = g.1 ∧ wd = g.2.1 ∧ NR g.1 g.2.2 nm
abbrev MG (g : Gh) (mn wd : Nat → Int32) (cl : Nat → Int64) : Prop := SR g.1 g.2.1 mn wd ∧ NR g.1 g.2.2 cl
theorem nn_a {z : Int32} (h0 : 0 ≤ z.toInt) (h1 : z.toInt < 4) : z.toNatClampNeg < 4 := by
  have h := nn_i h0
  omega
theorem SR_at {gs gw mn wd : Nat → Int32} (h : SR gs gw mn wd) {i : Int32} (h0 : 0 ≤ i.toInt) (h1 : i.toInt < 4) : ((gs i.toNatClampNeg).toInt = -1 ∧ (wd i.toNatClampNeg).toInt = -1) ∨ ((gs i.toNatClampNeg).toInt ≠ -1 ∧ (wd i.toNatClampNeg).toInt ≠ -1 ∧ (mn i.toNatClampNeg).toInt = (gs i.toNatClampNeg).toInt ∧ (wd i.toNatClampNeg).toInt = (gw i.toNatClampNeg).toInt) := by
  rcases h i.toNatClampNeg (nn_a h0 h1) with q | ⟨a, b, c, d⟩
  · exact Or.inl q
  · exact Or.inr ⟨a, b, by rw [c], by rw [d]⟩
theorem SR_upd {gs gw mn wd : Nat → Int32} (h : SR gs gw mn wd) (i : Nat) {a b : Int32} (ha : 0 ≤ a.toInt) (hb : 0 ≤ b.toInt) : SR (upd gs i a) (upd gw i b) (upd mn i a) (upd wd i b) := fun s hs => by
  by_cases e : s = i
  · subst e
    right
    rw [upd_eq, upd_eq, upd_eq, upd_eq]
    exact ⟨by omega, by omega, rfl, rfl⟩
  · rw [upd_ne _ e, upd_ne _ e, upd_ne _ e, upd_ne _ e]
    exact h s hs
/-- a row of zeros -/
def zr (f : Nat → Int64) (A : Int) : Nat → Int64 := fun j => if 60 * A ≤ (j : Int) ∧ (j : Int) < 60 * A + 60 then 0 else f j
theorem NR_row {gs : Nat → Int32} {gn f f' : Nat → Int64} {a n : Int32} (h : NR gs gn f) (h0 : 0 ≤ a.toInt) (h1 : a.toInt < 4) (n0 : 0 ≤ n.toInt) (n1 : n.toInt ≤ 60) (hr : rowN a.toInt n.toInt f f') : NR (upd gs a.toNatClampNeg n) (zr gn a.toInt) f' := by
  have hk := nn_i h0
  refine ⟨fun s hs => ?_, fun s i hs hi => ?_⟩
  · by_cases e : s = a.toNatClampNeg
    · rw [e, upd_eq]; exact n1
    · rw [upd_ne _ e]; exact h.1 s hs
  · by_cases e : s = a.toNatClampNeg
    · rw [e, upd_eq] at hi
      rw [e]
      have e1 : f' (60 * a.toNatClampNeg + i) = 0 := (hr _).1 (by omega)
      have e2 : zr gn a.toInt (60 * a.toNatClampNeg + i) = 0 := by
        unfold zr
        rw [if_pos (by omega)]
      rw [e1, e2]
    · rw [upd_ne _ e] at hi
      have hb := h.1 s hs
      have e1 : f' (60 * s + i) = f (60 * s + i) := (hr _).2 (by omega)
      have e2 : zr gn a.toInt (60 * s + i) = gn (60 * s + i) := by
        unfold zr
        rw [if_neg (by omega)]
      rw [e1, e2]
      exact h.2 s i hs hi
abbrev gh_rg (a1 a2 a3 : Int32) : Prop := ((0 ≤ a1.toInt ∧ a1.toInt < 4) ∧ (0 ≤ a2.toInt ∧ a2.toInt < 4) ∧ a3.toInt ≤ 60)
def gh_row (g : Gh) (a1 a2 a3 : Int32) : Gh := if gh_rg a1 a2 a3 ∧ 0 ≤ a3.toInt then (upd g.1 a1.toNatClampNeg a3, upd g.2.1 a1.toNatClampNeg a2, zr g.2.2 a1.toInt) else g
abbrev gh_ra (r a1 a2 a3 : Int32) : Prop := (r = (-2) ∧ ¬ gh_rg a1 a2 a3) ∨ (r = (-3) ∧ (gh_rg a1 a2 a3 ∧ a3.toInt < 0)) ∨ (r = 0 ∧ (gh_rg a1 a2 a3 ∧ 0 ≤ a3.toInt))
abbrev gh_rp (r a1 a2 a3 : Int32) (s w s' w' : Nat → Int32) (f f' : Nat → Int64) : Prop := (r = 0 ∧ s' = upd s a1.toNatClampNeg a3 ∧ w' = upd w a1.toNatClampNeg a2 ∧ rowN a1.toInt a3.toInt f f') ∨ (r ≠ 0 ∧ s' = s ∧ w' = w ∧ f' = f)
theorem gh_rc {r a1 a2 a3 : Int32} {s w s' w' : Nat → Int32} {f f' : Nat → Int64} {g : Gh} (ha : gh_ra r a1 a2 a3) (hp : gh_rp r a1 a2 a3 s w s' w' f f') : (gh_row g a1 a2 a3 = g ∧ s' = s ∧ w' = w ∧ f' = f) ∨ (gh_row g a1 a2 a3 = (upd g.1 a1.toNatClampNeg a3, upd g.2.1 a1.toNatClampNeg a2, zr g.2.2 a1.toInt) ∧ s' = upd s a1.toNatClampNeg a3 ∧ w' = upd w a1.toNatClampNeg a2 ∧ rowN a1.toInt a3.toInt f f' ∧ gh_rg a1 a2 a3 ∧ 0 ≤ a3.toInt) := by
  unfold gh_row
  rcases ha with ⟨h, h2⟩ | ⟨h, h2⟩ | ⟨h, h2⟩
  · left
    rw [if_neg (fun q => h2 q.1)]
    rcases hp with ⟨e, -⟩ | ⟨-, e1⟩
    · rw [h] at e; exact absurd e (by decide)
    · exact ⟨rfl, e1⟩
  · left
    rw [if_neg (fun q => absurd q.2 (by omega))]
    rcases hp with ⟨e, -⟩ | ⟨-, e1⟩
    · rw [h] at e; exact absurd e (by decide)
    · exact ⟨rfl, e1⟩
  · right
    rw [if_pos h2]
    rcases hp with ⟨-, e1, e2, e3⟩ | ⟨e, -⟩
    · exact ⟨rfl, e1, e2, e3, h2⟩
    · exact absurd h e
theorem gx_row {r a1 a2 a3 : Int32} {s w s' w' : Nat → Int32} {f f' : Nat → Int64} {g : Gh} (hg : XG g s w f) (ha : gh_ra r a1 a2 a3) (hp : gh_rp r a1 a2 a3 s w s' w' f f') : XG (gh_row g a1 a2 a3) s' w' f' := by
  obtain ⟨g1, g2, g3⟩ := hg
  rcases gh_rc (g := g) ha hp with ⟨e, e1, e2, e3⟩ | ⟨e, e1, e2, e3, h1, h2⟩
  · rw [e, e1, e2, e3]; exact ⟨g1, g2, g3⟩
  · rw [e, e1, e2, g1, g2]; exact ⟨rfl, rfl, NR_row g3 h1.1.1 h1.1.2 h2 h1.2.2 e3⟩
theorem gm_row {r a1 a2 a3 : Int32} {s w s' w' : Nat → Int32} {f f' : Nat → Int64} {g : Gh} (hg : MG g s w f) (ha : gh_ra r a1 a2 a3) (hp : gh_rp r a1 a2 a3 s w s' w' f f') : MG (gh_row g a1 a2 a3) s' w' f' := by
  obtain ⟨g2, g3⟩ := hg
  rcases gh_rc (g := g) ha hp with ⟨e, e1, e2, e3⟩ | ⟨e, e1, e2, e3, h1, h2⟩
  · rw [e, e1, e2, e3]; exact ⟨g2, g3⟩
  · rw [e, e1, e2]; exact ⟨SR_upd g2 _ h2 h1.2.1.1, NR_row g3 h1.1.1 h1.1.2 h2 h1.2.2 e3⟩
/-- a number written -/
abbrev gh_wk (s : Nat → Int32) (a1 a2 : Int32) : Prop := (0 ≤ a1.toInt ∧ a1.toInt < 4) ∧ ((s a1.toNatClampNeg).toInt ≠ -1) ∧ (0 ≤ a2.toInt ∧ a2.toInt < (s a1.toNatClampNeg).toInt)
def gh_wr (g : Gh) (a1 a2 : Int32) (a3 : Int64) : Gh := if gh_wk g.1 a1 a2 then (g.1, g.2.1, vp_updL g.2.2 (60 * a1.toInt + a2.toInt).toNat (cu a3 (g.2.1 a1.toNatClampNeg))) else g
theorem NR_put {gs : Nat → Int32} {gn f : Nat → Int64} (h : NR gs gn f) (k : Nat) (x : Int64) : NR gs (vp_updL gn k x) (vp_updL f k x) := by
  refine ⟨h.1, fun s i hs hi => ?_⟩
  by_cases e : 60 * s + i = k
  · rw [e, uL_eq, uL_eq]
  · rw [uL_ne _ e, uL_ne _ e]
    exact h.2 s i hs hi
abbrev gh_wa (s : Nat → Int32) (r a1 a2 : Int32) : Prop := (r = (-2) ∧ ¬ (0 ≤ a1.toInt ∧ a1.toInt < 4)) ∨ (r = (-6) ∧ ((0 ≤ a1.toInt ∧ a1.toInt < 4) ∧ ¬ ((s a1.toNatClampNeg).toInt ≠ -1))) ∨ (r = (-7) ∧ ((0 ≤ a1.toInt ∧ a1.toInt < 4) ∧ ((s a1.toNatClampNeg).toInt ≠ -1) ∧ ¬ (0 ≤ a2.toInt ∧ a2.toInt < (s a1.toNatClampNeg).toInt))) ∨ (r = 0 ∧ ((0 ≤ a1.toInt ∧ a1.toInt < 4) ∧ ((s a1.toNatClampNeg).toInt ≠ -1) ∧ (0 ≤ a2.toInt ∧ a2.toInt < (s a1.toNatClampNeg).toInt)))
theorem gh_wc {g : Gh} {r a1 a2 : Int32} {a3 : Int64} {f f' : Nat → Int64} {w : Int32} (ha : gh_wa g.1 r a1 a2) (hp : (r = 0 ∧ f' = vp_updL f (60 * a1.toInt + a2.toInt).toNat (cu a3 w)) ∨ (r ≠ 0 ∧ f' = f)) : (gh_wr g a1 a2 a3 = g ∧ f' = f) ∨ (gh_wk g.1 a1 a2 ∧ gh_wr g a1 a2 a3 = (g.1, g.2.1, vp_updL g.2.2 (60 * a1.toInt + a2.toInt).toNat (cu a3 (g.2.1 a1.toNatClampNeg))) ∧ f' = vp_updL f (60 * a1.toInt + a2.toInt).toNat (cu a3 w)) := by
  unfold gh_wr
  by_cases hk : gh_wk g.1 a1 a2
  · right
    rw [if_pos hk]
    refine ⟨hk, rfl, ?_⟩
    rcases hp with ⟨-, e⟩ | ⟨e, -⟩
    · exact e
    · rcases ha with ⟨-, q⟩ | ⟨-, -, q⟩ | ⟨-, -, -, q⟩ | ⟨q, -⟩
      · exact absurd hk.1 q
      · exact absurd hk.2.1 q
      · exact absurd hk.2.2 q
      · exact absurd q e
  · left
    rw [if_neg hk]
    refine ⟨rfl, ?_⟩
    rcases hp with ⟨e, -⟩ | ⟨-, e⟩
    · rcases ha with ⟨q, -⟩ | ⟨q, -⟩ | ⟨q, -⟩ | ⟨-, q⟩
      · rw [q] at e; exact absurd e (by decide)
      · rw [q] at e; exact absurd e (by decide)
      · rw [q] at e; exact absurd e (by decide)
      · exact absurd q hk
    · exact e
theorem gx_wr {r a1 a2 : Int32} {a3 : Int64} {s w : Nat → Int32} {f f' : Nat → Int64} {g : Gh} (hg : XG g s w f) (ha : gh_wa s r a1 a2) (hp : (r = 0 ∧ f' = vp_updL f (60 * a1.toInt + a2.toInt).toNat (cu a3 (w a1.toNatClampNeg))) ∨ (r ≠ 0 ∧ f' = f)) : XG (gh_wr g a1 a2 a3) s w f' := by
  obtain ⟨g1, g2, g3⟩ := hg
  subst g1
  subst g2
  rcases gh_wc (g := g) ha hp with ⟨e, e1⟩ | ⟨-, e, e1⟩
  · rw [e, e1]; exact ⟨rfl, rfl, g3⟩
  · rw [e, e1]; exact ⟨rfl, rfl, NR_put g3 _ _⟩
theorem gm_wr {r a1 a2 : Int32} {a3 : Int64} {s w : Nat → Int32} {f f' : Nat → Int64} {g : Gh} (hg : MG g s w f) (ha : gh_wa g.1 r a1 a2) (hp : (r = 0 ∧ f' = vp_updL f (60 * a1.toInt + a2.toInt).toNat (cu a3 (w a1.toNatClampNeg))) ∨ (r ≠ 0 ∧ f' = f)) : MG (gh_wr g a1 a2 a3) s w f' := by
  obtain ⟨g2, g3⟩ := hg
  rcases gh_wc (g := g) ha hp with ⟨e, e1⟩ | ⟨hk, e, e1⟩
  · rw [e, e1]; exact ⟨g2, g3⟩
  · have hw : w a1.toNatClampNeg = g.2.1 a1.toNatClampNeg := by
      rcases g2 a1.toNatClampNeg (nn_a hk.1.1 hk.1.2) with ⟨q, -⟩ | ⟨-, -, -, q⟩
      · exact absurd q hk.2.1
      · exact q
    rw [e, e1, hw]
    exact ⟨g2, NR_put g3 _ _⟩
/-- numbers copied -/
abbrev gh_pk (s w : Nat → Int32) (a1 a2 a3 a4 a5 : Int32) : Prop := (0 ≤ a1.toInt ∧ a1.toInt < 4) ∧ (0 ≤ a3.toInt ∧ a3.toInt < 4) ∧ ((s a1.toNatClampNeg).toInt ≠ -1) ∧ ((s a3.toNatClampNeg).toInt ≠ -1) ∧ (w a1.toNatClampNeg).toInt = (w a3.toNatClampNeg).toInt ∧ (0 ≤ a2.toInt ∧ 0 ≤ a4.toInt ∧ 0 ≤ a5.toInt ∧ a2.toInt + a5.toInt ≤ (s a1.toNatClampNeg).toInt ∧ a4.toInt + a5.toInt ≤ (s a3.toNatClampNeg).toInt)
def gh_pn (f : Nat → Int64) (S T n : Int) : Nat → Int64 := fun j => if T ≤ (j : Int) ∧ (j : Int) < T + n then f ((j : Int) - T + S).toNat else f j
def gh_pa (g : Gh) (a1 a2 a3 a4 a5 : Int32) : Gh := if gh_pk g.1 g.2.1 a1 a2 a3 a4 a5 then (g.1, g.2.1, gh_pn g.2.2 (60 * a1.toInt + a2.toInt) (60 * a3.toInt + a4.toInt) a5.toInt) else g
theorem NR_pa {gs : Nat → Int32} {gn f f' : Nat → Int64} {a1 a2 a3 a4 a5 : Int32} (h : NR gs gn f) (h0 : 0 ≤ a1.toInt) (h1 : a1.toInt < 4) (h2 : 0 ≤ a2.toInt) (h3 : a2.toInt + a5.toInt ≤ (gs a1.toNatClampNeg).toInt) (hp : paN (60 * a1.toInt + a2.toInt) (60 * a3.toInt + a4.toInt) a5.toInt f f') : NR gs (gh_pn gn (60 * a1.toInt + a2.toInt) (60 * a3.toInt + a4.toInt) a5.toInt) f' := by
  refine ⟨h.1, fun s i hs hi => ?_⟩
  have hk := nn_i h0
  by_cases q : (60 * a3.toInt + a4.toInt) ≤ ((60 * s + i : Nat) : Int) ∧ ((60 * s + i : Nat) : Int) < (60 * a3.toInt + a4.toInt) + a5.toInt
  · rw [(hp (60 * s + i)).1 q]
    unfold gh_pn
    rw [if_pos q]
    obtain ⟨t, ht⟩ : ∃ t : Nat, (t : Int) = ((60 * s + i : Nat) : Int) - (60 * a3.toInt + a4.toInt) + a2.toInt := ⟨(((60 * s + i : Nat) : Int) - (60 * a3.toInt + a4.toInt) + a2.toInt).toNat, Int.toNat_of_nonneg (by omega)⟩
    have e : (((60 * s + i : Nat) : Int) - (60 * a3.toInt + a4.toInt) + (60 * a1.toInt + a2.toInt)).toNat = 60 * a1.toNatClampNeg + t := by omega
    rw [e]
    exact h.2 a1.toNatClampNeg t (nn_a h0 h1) (by omega)
  · rw [(hp (60 * s + i)).2 (by omega)]
    unfold gh_pn
    rw [if_neg q]
    exact h.2 s i hs hi
abbrev gh_pq (s w : Nat → Int32) (r a1 a2 a3 a4 a5 : Int32) : Prop := (r = (-2) ∧ ¬ ((0 ≤ a1.toInt ∧ a1.toInt < 4) ∧ (0 ≤ a3.toInt ∧ a3.toInt < 4))) ∨ (r = (-6) ∧ ((0 ≤ a1.toInt ∧ a1.toInt < 4) ∧ (0 ≤ a3.toInt ∧ a3.toInt < 4) ∧ ¬ (((s a1.toNatClampNeg).toInt ≠ -1) ∧ ((s a3.toNatClampNeg).toInt ≠ -1)))) ∨ (r = (-8) ∧ ((0 ≤ a1.toInt ∧ a1.toInt < 4) ∧ (0 ≤ a3.toInt ∧ a3.toInt < 4) ∧ ((s a1.toNatClampNeg).toInt ≠ -1) ∧ ((s a3.toNatClampNeg).toInt ≠ -1) ∧ (w a1.toNatClampNeg).toInt ≠ (w a3.toNatClampNeg).toInt)) ∨ (r = (-7) ∧ ((0 ≤ a1.toInt ∧ a1.toInt < 4) ∧ (0 ≤ a3.toInt ∧ a3.toInt < 4) ∧ ((s a1.toNatClampNeg).toInt ≠ -1) ∧ ((s a3.toNatClampNeg).toInt ≠ -1) ∧ (w a1.toNatClampNeg).toInt = (w a3.toNatClampNeg).toInt ∧ ¬ (0 ≤ a2.toInt ∧ 0 ≤ a4.toInt ∧ 0 ≤ a5.toInt ∧ a2.toInt + a5.toInt ≤ (s a1.toNatClampNeg).toInt ∧ a4.toInt + a5.toInt ≤ (s a3.toNatClampNeg).toInt))) ∨ (r = 0 ∧ gh_pk s w a1 a2 a3 a4 a5)
theorem gh_pc {g : Gh} {r a1 a2 a3 a4 a5 : Int32} {f f' : Nat → Int64} (ha : gh_pq g.1 g.2.1 r a1 a2 a3 a4 a5) (hp : (r = 0 ∧ paN (60 * a1.toInt + a2.toInt) (60 * a3.toInt + a4.toInt) a5.toInt f f') ∨ (r ≠ 0 ∧ f' = f)) : (gh_pa g a1 a2 a3 a4 a5 = g ∧ f' = f) ∨ (gh_pk g.1 g.2.1 a1 a2 a3 a4 a5 ∧ gh_pa g a1 a2 a3 a4 a5 = (g.1, g.2.1, gh_pn g.2.2 (60 * a1.toInt + a2.toInt) (60 * a3.toInt + a4.toInt) a5.toInt) ∧ paN (60 * a1.toInt + a2.toInt) (60 * a3.toInt + a4.toInt) a5.toInt f f') := by
  unfold gh_pa
  by_cases hk : gh_pk g.1 g.2.1 a1 a2 a3 a4 a5
  · right
    rw [if_pos hk]
    refine ⟨hk, rfl, ?_⟩
    rcases hp with ⟨-, e⟩ | ⟨e, -⟩
    · exact e
    · obtain ⟨k1, k2, k3, k4, k5, k6⟩ := hk
      rcases ha with ⟨-, q⟩ | ⟨-, -, -, q⟩ | ⟨-, -, -, -, -, q⟩ | ⟨-, -, -, -, -, -, q⟩ | ⟨q, -⟩
      · exact absurd ⟨k1, k2⟩ q
      · exact absurd ⟨k3, k4⟩ q
      · exact absurd k5 q
      · exact absurd k6 q
      · exact absurd q e
  · left
    rw [if_neg hk]
    refine ⟨rfl, ?_⟩
    rcases hp with ⟨e, -⟩ | ⟨-, e⟩
    · rcases ha with ⟨q, -⟩ | ⟨q, -⟩ | ⟨q, -⟩ | ⟨q, -⟩ | ⟨-, q⟩
      · rw [q] at e; exact absurd e (by decide)
      · rw [q] at e; exact absurd e (by decide)
      · rw [q] at e; exact absurd e (by decide)
      · rw [q] at e; exact absurd e (by decide)
      · exact absurd q hk
    · exact e
theorem gx_pa {r a1 a2 a3 a4 a5 : Int32} {s w : Nat → Int32} {f f' : Nat → Int64} {g : Gh} (hg : XG g s w f) (ha : gh_pq s w r a1 a2 a3 a4 a5) (hp : (r = 0 ∧ paN (60 * a1.toInt + a2.toInt) (60 * a3.toInt + a4.toInt) a5.toInt f f') ∨ (r ≠ 0 ∧ f' = f)) : XG (gh_pa g a1 a2 a3 a4 a5) s w f' := by
  obtain ⟨g1, g2, g3⟩ := hg
  subst g1
  subst g2
  rcases gh_pc (g := g) ha hp with ⟨e, e1⟩ | ⟨hk, e, e1⟩
  · rw [e, e1]; exact ⟨rfl, rfl, g3⟩
  · rw [e]; exact ⟨rfl, rfl, NR_pa g3 hk.1.1 hk.1.2 hk.2.2.2.2.2.1 hk.2.2.2.2.2.2.2.2.1 e1⟩
theorem gm_pa {r a1 a2 a3 a4 a5 : Int32} {s w : Nat → Int32} {f f' : Nat → Int64} {g : Gh} (hg : MG g s w f) (ha : gh_pq g.1 g.2.1 r a1 a2 a3 a4 a5) (hp : (r = 0 ∧ paN (60 * a1.toInt + a2.toInt) (60 * a3.toInt + a4.toInt) a5.toInt f f') ∨ (r ≠ 0 ∧ f' = f)) : MG (gh_pa g a1 a2 a3 a4 a5) s w f' := by
  obtain ⟨g1, g3⟩ := hg
  rcases gh_pc (g := g) ha hp with ⟨e, e1⟩ | ⟨hk, e, e1⟩
  · rw [e, e1]; exact ⟨g1, g3⟩
  · rw [e]; exact ⟨g1, NR_pa g3 hk.1.1 hk.1.2 hk.2.2.2.2.2.1 hk.2.2.2.2.2.2.2.2.1 e1⟩
/-- what is told of half, fills, open, by what both share -/
theorem NR_ra {gs : Nat → Int32} {gn f : Nat → Int64} {a : Int32} (h : NR gs gn f) (h0 : is4 a) : ∀ i : Nat, (i : Int) < (gs a.toNatClampNeg).toInt → ra f a.toInt i = ra gn a.toInt i := fun i hi => by
  have hk := nn_i h0.1
  have e : (60 * a.toInt + (i : Int)).toNat = 60 * a.toNatClampNeg + i := by omega
  show (f (60 * a.toInt + (i : Int)).toNat).toInt = (gn (60 * a.toInt + (i : Int)).toNat).toInt
  rw [e, h.2 _ i (nn_a h0.1 h0.2) hi]
theorem gx_half {Q : (Nat → Int) → Nat → Int → Prop} {g : Gh} {s w : Nat → Int32} {f : Nat → Int64} {a1 : Int32} {r : Int} (hQ : ∀ (a b : Nat → Int) (n : Nat) (x : Int), (∀ i, i < n → a i = b i) → Q a n x → Q b n x) (hg : XG g s w f) (h : rfP Q ((s a1.toNatClampNeg).toInt ≠ -1) (s a1.toNatClampNeg).toInt f a1 r) : rfP Q ((g.1 a1.toNatClampNeg).toInt ≠ -1) (g.1 a1.toNatClampNeg).toInt g.2.2 a1 r := by
  obtain ⟨g1, g2, g3⟩ := hg
  subst g1
  exact rfP_cong hQ (fun _ => Iff.rfl) (fun h4 _ => ⟨rfl, NR_ra g3 h4⟩) h
theorem gm_half {Q : (Nat → Int) → Nat → Int → Prop} {g : Gh} {s w : Nat → Int32} {f : Nat → Int64} {a1 : Int32} {r : Int} (hQ : ∀ (a b : Nat → Int) (n : Nat) (x : Int), (∀ i, i < n → a i = b i) → Q a n x → Q b n x) (hg : MG g s w f) (h : rfP Q ((w a1.toNatClampNeg).toInt ≠ -1) (s a1.toNatClampNeg).toInt f a1 r) : rfP Q ((g.1 a1.toNatClampNeg).toInt ≠ -1) (g.1 a1.toNatClampNeg).toInt g.2.2 a1 r := by
  obtain ⟨g2, g3⟩ := hg
  refine rfP_cong hQ (fun h4 => ?_) (fun h4 hh => ?_) h
  · have q := SR_at g2 h4.1 h4.2
    omega
  · have e : s a1.toNatClampNeg = g.1 a1.toNatClampNeg := by
      rcases g2 a1.toNatClampNeg (nn_a h4.1 h4.2) with ⟨-, q⟩ | ⟨-, -, q, -⟩
      · exact absurd q hh
      · exact q
    rw [e]
    exact ⟨rfl, NR_ra g3 h4⟩
theorem NR_new {gs : Nat → Int32} {gn f : Nat → Int64} (h : ∀ s : Nat, s < 4 → (gs s).toInt = -1) : NR gs gn f := ⟨fun s hs => by have := h s hs; omega, fun s i hs hi => by have := h s hs; omega⟩
def ku {α : Type} (V : Nat → α) (k : Nat) (x : α) : Nat → α := fun j => cond (Nat.beq j k) x (V j)
theorem ku_at {α : Type} {V : Nat → α} {k : Nat} {x : α} {P : Nat → α → Prop} {n : Nat} (h : ∀ j, j < n → P j (V j)) (hx : P k x) : ∀ j, j < n → P j (ku V k x j) := by
  intro j hj
  unfold ku
  cases e : Nat.beq j k with
  | true => rw [Nat.eq_of_beq_eq_true e]; exact hx
  | false => exact h j hj
abbrev XVl : List (Int × Int) := [((-2147483648), 2147483647), ((-2147483648), 2147483647), ((-2147483648), 2147483647), ((-2147483648), 2147483647), (0, 1200), ((-2147483648), 2147483647), (0, 1200), (0, 1200), ((-2147483648), 2147483647), (0, 20), ((-2147483648), 2147483647), ((-2147483648), 2147483647), ((-2147483648), 2147483647), (0, 8), (0, 12), (0, 5), (0, 40), (0, 20), ((-2147483648), 2147483647), ((-2147483648), 2147483647), ((-2147483648), 2147483647), (0, 8), (0, 12), (0, 5), (0, 40), (0, 20), ((-2147483648), 2147483647), ((-2147483648), 2147483647), (0, 20), ((-2147483648), 2147483647), ((-2147483648), 2147483647), (0, 20), (0, 12), ((-2147483648), 2147483647), ((-2147483648), 2147483647), ((-2147483648), 2147483647), ((-2147483648), 2147483647), ((-2147483648), 2147483647), ((-2147483648), 2147483647), ((-2147483648), 2147483647), ((-2147483648), 2147483647), ((-2147483648), 2147483647), ((-2147483648), 2147483647), (0, 20), ((-2147483648), 2147483647), ((-2147483648), 2147483647), ((-2147483648), 2147483647), (0, 8), (0, 12), (0, 5), (0, 40), (0, 20), ((-2147483648), 2147483647), ((-2147483648), 2147483647), ((-2147483648), 2147483647), (0, 8), (0, 12), (0, 5), (0, 40), (0, 20), ((-2147483648), 2147483647), ((-2147483648), 2147483647), ((-2147483648), 2147483647), (0, 8), (0, 12), (0, 5), (0, 40)]
abbrev XRl : List ((Nat → Int32) → Prop) := [(fun _ => True), (fun _ => True), (fun f => ar_ok [0] [5] f), (fun f => ar_ok [0] [12] f), (fun f => ar_ok [0] [11] f), (fun _ => True), (fun f => ar_ok [(-2147483648), 0, 0, (-2147483648)] [2147483647, 199, 5, 2147483647] f), (fun _ => True), (fun _ => True), (fun _ => True), (fun _ => True), (fun f => ar_ok [0] [5] f), (fun f => ar_ok [0] [12] f), (fun f => ar_ok [0] [11] f), (fun _ => True), (fun f => ar_ok [(-2147483648), 0, 0, (-2147483648)] [2147483647, 199, 5, 2147483647] f), (fun _ => True), (fun _ => True), (fun _ => True), (fun _ => True), (fun _ => True), (fun f => ar_ok [(-1)] [5] f), (fun f => ar_q f), (fun _ => True), (fun f => ar_ok [(-1)] [5] f), (fun f => ar_q f), (fun _ => True), (fun f => ar_ok [0] [5] f), (fun _ => True), (fun _ => True), (fun _ => True), (fun _ => True), (fun _ => True), (fun _ => True), (fun _ => True), (fun f => ar_ok [(-1)] [5] f), (fun f => ar_ok [0] [11] f), (fun _ => True), (fun f => ar_ok [(-1)] [60] f), (fun f => ar_ok [0] [5] f), (fun f => ar_ok [0] [12] f), (fun f => ar_ok [0] [11] f), (fun _ => True), (fun f => ar_ok [(-2147483648), 0, 0, (-2147483648)] [2147483647, 199, 5, 2147483647] f), (fun _ => True), (fun _ => True), (fun _ => True), (fun _ => True), (fun f => ar_ok [0] [5] f), (fun f => ar_ok [0] [12] f), (fun f => ar_ok [0] [11] f), (fun _ => True), (fun f => ar_ok [(-2147483648), 0, 0, (-2147483648)] [2147483647, 199, 5, 2147483647] f), (fun _ => True), (fun _ => True), (fun _ => True), (fun _ => True), (fun f => ar_ok [0] [5] f), (fun f => ar_ok [0] [12] f), (fun f => ar_ok [0] [11] f), (fun _ => True), (fun f => ar_ok [(-2147483648), 0, 0, (-2147483648)] [2147483647, 199, 5, 2147483647] f), (fun _ => True), (fun _ => True), (fun _ => True), (fun _ => True)]
def XV (V : Nat → Int32) : Prop := ∀ k, k < 67 → (fun (k : Nat) (x : Int32) => (XVl.getD k (0, 0)).1 ≤ x.toInt ∧ x.toInt ≤ (XVl.getD k (0, 0)).2) k (V k)
def XR (F : Nat → Nat → Int32) : Prop := ∀ k, k < 66 → (fun (k : Nat) (f : Nat → Int32) => XRl.getD k (fun _ => True) f) k (F k)
theorem XV_ku {V : Nat → Int32} {k : Nat} {x : Int32} (h : XV V) (hx : (XVl.getD k (0, 0)).1 ≤ x.toInt ∧ x.toInt ≤ (XVl.getD k (0, 0)).2) : XV (ku V k x) := ku_at (P := fun (k : Nat) (x : Int32) => (XVl.getD k (0, 0)).1 ≤ x.toInt ∧ x.toInt ≤ (XVl.getD k (0, 0)).2) h hx
theorem XR_ku {F : Nat → Nat → Int32} {k : Nat} {f : Nat → Int32} (h : XR F) (hx : XRl.getD k (fun _ => True) f) : XR (ku F k f) := ku_at (P := fun (k : Nat) (f : Nat → Int32) => XRl.getD k (fun _ => True) f) h hx
set_option maxRecDepth 100000 in
def XW (cI cJ cB cZ cO : ClassId) (qh : Nat) (A : Nat → Nat) (V : Nat → Int32) (J : Nat → Int64) (F : Nat → Nat → Int32) (K : Nat → Nat → Int64) (qnow qspare : Nat) : va_W := (oo qh (A 2) (A 3) qnow qspare (A 1) (A 0) (A 25) (A 29) (V 0) (A 33) (A 35) (A 42) (A 44) (A 45) (A 47) (A 50) :: ((A 0), .inl (cI, 3, .inl ((F 0)))) :: ((A 2), .inr (5, [.ref (A 3), .int (V 1), .int (V 2), .int (V 3)])) :: ((A 3), .inr (8, [.ref (A 4), .int (V 4), .int (V 5), .int (V 6), .int (V 7), .int (V 8)])) :: ((A 4), .inl (cB, 1200, .inl ((F 1)))) :: dn (A 5) (V 9) (V 10) (V 11) (V 12) (A 6) (A 7) (A 8) (A 9) (A 10) (V 13) (A 11) (A 12) (V 14) (A 13) (V 15) (A 14) (V 16) :: ((A 6), .inl (cI, 24, .inl ((F 2)))) :: ((A 7), .inl (cI, 2, .inl ((F 3)))) :: ((A 8), .inl (cI, 2, .inl ((F 4)))) :: ((A 9), .inl (cI, 6, .inl ((F 5)))) :: ((A 10), .inl (cI, 32, .inl ((F 6)))) :: ((A 11), .inl (cI, 200, .inl ((F 7)))) :: ((A 12), .inl (cI, 24, .inl ((F 8)))) :: ((A 13), .inl (cI, 10, .inl ((F 9)))) :: ((A 14), .inl (cI, 120, .inl ((F 10)))) :: dn (A 15) (V 17) (V 18) (V 19) (V 20) (A 16) (A 17) (A 18) (A 19) (A 20) (V 21) (A 21) (A 22) (V 22) (A 23) (V 23) (A 24) (V 24) :: ((A 16), .inl (cI, 24, .inl ((F 11)))) :: ((A 17), .inl (cI, 2, .inl ((F 12)))) :: ((A 18), .inl (cI, 2, .inl ((F 13)))) :: ((A 19), .inl (cI, 6, .inl ((F 14)))) :: ((A 20), .inl (cI, 32, .inl ((F 15)))) :: ((A 21), .inl (cI, 200, .inl ((F 16)))) :: ((A 22), .inl (cI, 24, .inl ((F 17)))) :: ((A 23), .inl (cI, 10, .inl ((F 18)))) :: ((A 24), .inl (cI, 120, .inl ((F 19)))) :: fo (A 25) (A 26) (A 27) (A 28) (V 25) (V 26) (V 27) :: ((A 26), .inl (cI, 400, .inl ((F 20)))) :: ((A 27), .inl (cI, 400, .inl ((F 21)))) :: ((A 28), .inl (cI, 200, .inl ((F 22)))) :: fo (A 29) (A 30) (A 31) (A 32) (V 28) (V 29) (V 30) :: ((A 30), .inl (cI, 400, .inl ((F 23)))) :: ((A 31), .inl (cI, 400, .inl ((F 24)))) :: ((A 32), .inl (cI, 200, .inl ((F 25)))) :: ((A 33), .inr (6, [.ref (A 34)])) :: ((A 34), .inl (cI, 12, .inl ((F 26)))) :: gu (A 35) (V 31) (V 32) (A 36) (V 33) (V 34) (A 37) (A 38) (A 39) (A 40) (A 41) (V 35) (V 36) :: ((A 36), .inl (cI, 12, .inl ((F 27)))) :: ((A 37), .inl (cI, 10, .inl ((F 28)))) :: ((A 38), .inl (cI, 200, .inl ((F 29)))) :: ((A 39), .inl (cI, 60, .inl ((F 30)))) :: ((A 40), .inl (cI, 10, .inl ((F 31)))) :: ((A 41), .inl (cI, 6, .inl ((F 32)))) :: ((A 42), .inr (10, [.ref (A 43), .int (V 37), .int (V 38)])) :: ((A 43), .inl (cI, 24, .inl ((F 33)))) :: ((A 44), .inr (9, [.long (J 0), .long (J 1)])) :: ((A 45), .inr (2, [.ref (A 46)])) :: ((A 46), .inl (cI, 729, .inl ((F 34)))) :: ((A 47), .inr (4, [.ref (A 48), .ref (A 49), .long (J 2), .int (V 39), .int (V 40), .int (V 41), .int (V 42)])) :: ((A 48), .inl (cI, 200, .inl ((F 35)))) :: ((A 49), .inl (cI, 2, .inl ((F 36)))) :: ((A 50), .inr (7, [.ref (A 51), .ref (A 52), .ref (A 53)])) :: ((A 51), .inl (cI, 4, .inl ((F 37)))) :: ((A 52), .inl (cI, 4, .inl ((F 38)))) :: ((A 53), .inl (cJ, 240, .inr (.inl ((K 0))))) :: ((A 1), .inl (cO, 3, .inr (.inr (.inr (.inr (va_up (va_up (va_up (fun _ => none) 0 (some (A 54))) 1 (some (A 64))) 2 (some (A 74)))))))) :: dn (A 54) (V 43) (V 44) (V 45) (V 46) (A 55) (A 56) (A 57) (A 58) (A 59) (V 47) (A 60) (A 61) (V 48) (A 62) (V 49) (A 63) (V 50) :: ((A 55), .inl (cI, 24, .inl ((F 39)))) :: ((A 56), .inl (cI, 2, .inl ((F 40)))) :: ((A 57), .inl (cI, 2, .inl ((F 41)))) :: ((A 58), .inl (cI, 6, .inl ((F 42)))) :: ((A 59), .inl (cI, 32, .inl ((F 43)))) :: ((A 60), .inl (cI, 200, .inl ((F 44)))) :: ((A 61), .inl (cI, 24, .inl ((F 45)))) :: ((A 62), .inl (cI, 10, .inl ((F 46)))) :: ((A 63), .inl (cI, 120, .inl ((F 47)))) :: dn (A 64) (V 51) (V 52) (V 53) (V 54) (A 65) (A 66) (A 67) (A 68) (A 69) (V 55) (A 70) (A 71) (V 56) (A 72) (V 57) (A 73) (V 58) :: ((A 65), .inl (cI, 24, .inl ((F 48)))) :: ((A 66), .inl (cI, 2, .inl ((F 49)))) :: ((A 67), .inl (cI, 2, .inl ((F 50)))) :: ((A 68), .inl (cI, 6, .inl ((F 51)))) :: ((A 69), .inl (cI, 32, .inl ((F 52)))) :: ((A 70), .inl (cI, 200, .inl ((F 53)))) :: ((A 71), .inl (cI, 24, .inl ((F 54)))) :: ((A 72), .inl (cI, 10, .inl ((F 55)))) :: ((A 73), .inl (cI, 120, .inl ((F 56)))) :: dn (A 74) (V 59) (V 60) (V 61) (V 62) (A 75) (A 76) (A 77) (A 78) (A 79) (V 63) (A 80) (A 81) (V 64) (A 82) (V 65) (A 83) (V 66) :: ((A 75), .inl (cI, 24, .inl ((F 57)))) :: ((A 76), .inl (cI, 2, .inl ((F 58)))) :: ((A 77), .inl (cI, 2, .inl ((F 59)))) :: ((A 78), .inl (cI, 6, .inl ((F 60)))) :: ((A 79), .inl (cI, 32, .inl ((F 61)))) :: ((A 80), .inl (cI, 200, .inl ((F 62)))) :: ((A 81), .inl (cI, 24, .inl ((F 63)))) :: ((A 82), .inl (cI, 10, .inl ((F 64)))) :: ((A 83), .inl (cI, 120, .inl ((F 65)))) :: [])
def XOK (cI cJ cB cZ cO : ClassId) (g : Gh) (qh : Nat) (w : va_W) : Prop := ∃ (A : Nat → Nat) (V : Nat → Int32) (J : Nat → Int64) (F : Nat → Nat → Int32) (K : Nat → Nat → Int64) (qnow qspare : Nat), ((((A 5) = qnow ∧ (A 15) = qspare) ∨ ((A 15) = qnow ∧ (A 5) = qspare))) ∧ XV V ∧ XR F ∧ (ch_ok (F 10) (V 16) (V 13)) ∧ (ch_ok (F 19) (V 24) (V 21)) ∧ (ch_ok (F 47) (V 50) (V 47)) ∧ (ch_ok (F 56) (V 58) (V 55)) ∧ (ch_ok (F 65) (V 66) (V 63)) ∧ (XG g (F 38) (F 37) (K 0)) ∧  w = XW cI cJ cB cZ cO qh A V J F K qnow qspare
set_option maxRecDepth 100000 in
theorem XOK_at {cI cJ cB cZ cO : ClassId} {g : Gh} {h : Nat} {w : va_W} (hX : XOK cI cJ cB cZ cO g h w) : ∃ (k : Nat) (fs : List Value), w[k]? = some (h, .inr (11, fs)) := by
  obtain ⟨A, V, J, F, K, qnow, qspare, hsw, hV, hR, h_chd, h_chd2, h_chd3, h_chd4, h_chd5, hg, rfl⟩ := hX
  exact ⟨0, _, rfl⟩
abbrev MVl : List (Int × Int) := [((-2147483648), 2147483647), (0, 1200), (0, 1200), ((-2147483648), 2147483647), ((-2147483648), 2147483647), (0, 1000009), ((-2147483648), 2147483647), ((-2147483648), 2147483647), ((-2147483648), 2147483647), ((-2147483648), 2147483647), ((-2147483648), 2147483647), ((-2147483648), 2147483647), ((-2147483648), 2147483647), ((-2147483648), 2147483647), ((-2147483648), 2147483647), ((-2147483648), 2147483647), ((-2147483648), 2147483647), ((-2147483648), 2147483647), ((-2147483648), 2147483647), ((-2147483648), 2147483647), ((-2147483648), 2147483647)]
abbrev MRl : List ((Nat → Int32) → Prop) := [(fun _ => True), (fun f => ar_ok [0] [60] f), (fun _ => True), (fun _ => True), (fun f => ar_ok [0, (-2147483648), (-2147483648), 0, 0, 0, 0, 0, 0, 0, 0] [20, 2147483647, 2147483647, 12, 12, 11, 11, 8, 12, 5, 40] f), (fun f => ar_ok [0] [5] f), (fun _ => True), (fun f => ar_ok [(-2147483648), (-2147483648), 0, (-2147483648)] [2147483647, 2147483647, 5, 2147483647] f), (fun _ => True), (fun _ => True), (fun _ => True), (fun _ => True), (fun _ => True), (fun _ => True), (fun _ => True), (fun f => ar_ok [(-1)] [5] f), (fun _ => True), (fun _ => True), (fun _ => True)]
def MV (V : Nat → Int32) : Prop := ∀ k, k < 21 → (fun (k : Nat) (x : Int32) => (MVl.getD k (0, 0)).1 ≤ x.toInt ∧ x.toInt ≤ (MVl.getD k (0, 0)).2) k (V k)
def MR (F : Nat → Nat → Int32) : Prop := ∀ k, k < 19 → (fun (k : Nat) (f : Nat → Int32) => MRl.getD k (fun _ => True) f) k (F k)
theorem MV_ku {V : Nat → Int32} {k : Nat} {x : Int32} (h : MV V) (hx : (MVl.getD k (0, 0)).1 ≤ x.toInt ∧ x.toInt ≤ (MVl.getD k (0, 0)).2) : MV (ku V k x) := ku_at (P := fun (k : Nat) (x : Int32) => (MVl.getD k (0, 0)).1 ≤ x.toInt ∧ x.toInt ≤ (MVl.getD k (0, 0)).2) h hx
theorem MR_ku {F : Nat → Nat → Int32} {k : Nat} {f : Nat → Int32} (h : MR F) (hx : MRl.getD k (fun _ => True) f) : MR (ku F k f) := ku_at (P := fun (k : Nat) (f : Nat → Int32) => MRl.getD k (fun _ => True) f) h hx
set_option maxRecDepth 100000 in
def MW (cI cJ cB cZ cO : ClassId) (qm : Nat) (A : Nat → Nat) (V : Nat → Int32) (J : Nat → Int64) (F : Nat → Nat → Int32) (K : Nat → Nat → Int64) : va_W := [mo qm (V 0) (A 0) (A 1) (A 2) (A 3) (A 4) (V 1) (V 2) (V 3) (V 4) (V 5) (J 0) (V 6) (V 7) (V 8) (V 9) (A 5) (A 6) (A 7) (A 8) (A 9) (A 10) (A 11) (A 12) (A 13) (A 14) (A 15) (A 16) (A 17) (V 10) (V 11) (A 18) (V 12) (V 13) (J 1) (V 14) (A 19) (V 15) (V 16) (A 20) (V 17) (V 18) (V 19) (V 20) (J 2), ((A 0), .inl (cI, 4, .inl ((F 0)))), ((A 1), .inl (cI, 4, .inl ((F 1)))), ((A 2), .inl (cJ, 240, .inr (.inl ((K 0))))), ((A 3), .inl (cJ, 60, .inr (.inl ((K 1))))), ((A 4), .inl (cB, 1200, .inl ((F 2)))), ((A 5), .inl (cI, 5, .inl ((F 3)))), ((A 6), .inl (cI, 55, .inl ((F 4)))), ((A 7), .inl (cI, 120, .inl ((F 5)))), ((A 8), .inl (cI, 30, .inl ((F 6)))), ((A 9), .inl (cI, 160, .inl ((F 7)))), ((A 10), .inl (cZ, 1000, .inl ((F 8)))), ((A 11), .inl (cI, 120, .inl ((F 9)))), ((A 12), .inl (cI, 50, .inl ((F 10)))), ((A 13), .inl (cI, 800, .inl ((F 11)))), ((A 14), .inl (cZ, 3, .inl ((F 12)))), ((A 15), .inl (cI, 13, .inl ((F 13)))), ((A 16), .inl (cI, 402, .inl ((F 14)))), ((A 17), .inl (cI, 400, .inl ((F 15)))), ((A 18), .inl (cI, 560, .inl ((F 16)))), ((A 19), .inl (cI, 24, .inl ((F 17)))), ((A 20), .inl (cI, 24576, .inl ((F 18))))]
def MOK (cI cJ cB cZ cO : ClassId) (g : Gh) (qm : Nat) (w : va_W) : Prop := ∃ (A : Nat → Nat) (V : Nat → Int32) (J : Nat → Int64) (F : Nat → Nat → Int32) (K : Nat → Nat → Int64), MV V ∧ MR F ∧ (rf_c (F 4) (F 9)) ∧ (rf_t (F 4) (F 10)) ∧ (rf_g (F 4) (F 11)) ∧ (MG g (F 1) (F 0) (K 0)) ∧  w = MW cI cJ cB cZ cO qm A V J F K
set_option maxRecDepth 100000 in
theorem MOK_at {cI cJ cB cZ cO : ClassId} {g : Gh} {h : Nat} {w : va_W} (hX : MOK cI cJ cB cZ cO g h w) : ∃ (k : Nat) (fs : List Value), w[k]? = some (h, .inr (12, fs)) := by
  obtain ⟨A, V, J, F, K, hV, hR, h_rfc, h_rft, h_rfg, hg, rfl⟩ := hX
  exact ⟨0, _, rfl⟩
theorem gm_write {g : Gh} {fm_many fm_width : Nat → Int32} {r a1 a2 : Int32} (hs : SR g.1 g.2.1 fm_many fm_width) (h : (r = (-2) ∧ ¬ (0 ≤ a1.toInt ∧ a1.toInt < 4)) ∨ (r = (-6) ∧ ((0 ≤ a1.toInt ∧ a1.toInt < 4) ∧ ¬ ((fm_width a1.toNatClampNeg).toInt ≠ -1))) ∨ (r = (-7) ∧ ((0 ≤ a1.toInt ∧ a1.toInt < 4) ∧ ((fm_width a1.toNatClampNeg).toInt ≠ -1) ∧ ¬ (0 ≤ a2.toInt ∧ a2.toInt < (fm_many a1.toNatClampNeg).toInt))) ∨ (r = 0 ∧ ((0 ≤ a1.toInt ∧ a1.toInt < 4) ∧ ((fm_width a1.toNatClampNeg).toInt ≠ -1) ∧ (0 ≤ a2.toInt ∧ a2.toInt < (fm_many a1.toNatClampNeg).toInt)))) : (r = (-2) ∧ ¬ (0 ≤ a1.toInt ∧ a1.toInt < 4)) ∨ (r = (-6) ∧ ((0 ≤ a1.toInt ∧ a1.toInt < 4) ∧ ¬ ((g.1 a1.toNatClampNeg).toInt ≠ -1))) ∨ (r = (-7) ∧ ((0 ≤ a1.toInt ∧ a1.toInt < 4) ∧ ((g.1 a1.toNatClampNeg).toInt ≠ -1) ∧ ¬ (0 ≤ a2.toInt ∧ a2.toInt < (g.1 a1.toNatClampNeg).toInt))) ∨ (r = 0 ∧ ((0 ≤ a1.toInt ∧ a1.toInt < 4) ∧ ((g.1 a1.toNatClampNeg).toInt ≠ -1) ∧ (0 ≤ a2.toInt ∧ a2.toInt < (g.1 a1.toNatClampNeg).toInt))) := by
  by_cases hI : (0 ≤ a1.toInt ∧ a1.toInt < 4)
  · have s0 := SR_at hs (i := a1) (by omega) (by omega)
    rcases s0 with s0 | s0 <;>
    (rcases h with ⟨e, q⟩ | ⟨e, q⟩ | ⟨e, q⟩ | ⟨e, q⟩
     · exact Or.inl ⟨e, by omega⟩
     · exact Or.inr (Or.inl ⟨e, by omega⟩)
     · exact Or.inr (Or.inr (Or.inl ⟨e, by omega⟩))
     · exact Or.inr (Or.inr (Or.inr (⟨e, by omega⟩))))
  · rcases h with ⟨e, q⟩ | ⟨e, q⟩ | ⟨e, q⟩ | ⟨e, q⟩
    · exact Or.inl ⟨e, by omega⟩
    · exact Or.inr (Or.inl ⟨e, by omega⟩)
    · exact Or.inr (Or.inr (Or.inl ⟨e, by omega⟩))
    · exact Or.inr (Or.inr (Or.inr (⟨e, by omega⟩)))
theorem gm_paste {g : Gh} {fm_many fm_width : Nat → Int32} {r a1 a2 a3 a4 a5 : Int32} (hs : SR g.1 g.2.1 fm_many fm_width) (h : (r = (-2) ∧ ¬ ((0 ≤ a1.toInt ∧ a1.toInt < 4) ∧ (0 ≤ a3.toInt ∧ a3.toInt < 4))) ∨ (r = (-6) ∧ ((0 ≤ a1.toInt ∧ a1.toInt < 4) ∧ (0 ≤ a3.toInt ∧ a3.toInt < 4) ∧ ¬ (((fm_width a1.toNatClampNeg).toInt ≠ -1) ∧ ((fm_width a3.toNatClampNeg).toInt ≠ -1)))) ∨ (r = (-8) ∧ ((0 ≤ a1.toInt ∧ a1.toInt < 4) ∧ (0 ≤ a3.toInt ∧ a3.toInt < 4) ∧ ((fm_width a1.toNatClampNeg).toInt ≠ -1) ∧ ((fm_width a3.toNatClampNeg).toInt ≠ -1) ∧ (fm_width a1.toNatClampNeg).toInt ≠ (fm_width a3.toNatClampNeg).toInt)) ∨ (r = (-7) ∧ ((0 ≤ a1.toInt ∧ a1.toInt < 4) ∧ (0 ≤ a3.toInt ∧ a3.toInt < 4) ∧ ((fm_width a1.toNatClampNeg).toInt ≠ -1) ∧ ((fm_width a3.toNatClampNeg).toInt ≠ -1) ∧ (fm_width a1.toNatClampNeg).toInt = (fm_width a3.toNatClampNeg).toInt ∧ ¬ (0 ≤ a2.toInt ∧ 0 ≤ a4.toInt ∧ 0 ≤ a5.toInt ∧ a2.toInt + a5.toInt ≤ (fm_many a1.toNatClampNeg).toInt ∧ a4.toInt + a5.toInt ≤ (fm_many a3.toNatClampNeg).toInt))) ∨ (r = 0 ∧ ((0 ≤ a1.toInt ∧ a1.toInt < 4) ∧ (0 ≤ a3.toInt ∧ a3.toInt < 4) ∧ ((fm_width a1.toNatClampNeg).toInt ≠ -1) ∧ ((fm_width a3.toNatClampNeg).toInt ≠ -1) ∧ (fm_width a1.toNatClampNeg).toInt = (fm_width a3.toNatClampNeg).toInt ∧ (0 ≤ a2.toInt ∧ 0 ≤ a4.toInt ∧ 0 ≤ a5.toInt ∧ a2.toInt + a5.toInt ≤ (fm_many a1.toNatClampNeg).toInt ∧ a4.toInt + a5.toInt ≤ (fm_many a3.toNatClampNeg).toInt)))) : (r = (-2) ∧ ¬ ((0 ≤ a1.toInt ∧ a1.toInt < 4) ∧ (0 ≤ a3.toInt ∧ a3.toInt < 4))) ∨ (r = (-6) ∧ ((0 ≤ a1.toInt ∧ a1.toInt < 4) ∧ (0 ≤ a3.toInt ∧ a3.toInt < 4) ∧ ¬ (((g.1 a1.toNatClampNeg).toInt ≠ -1) ∧ ((g.1 a3.toNatClampNeg).toInt ≠ -1)))) ∨ (r = (-8) ∧ ((0 ≤ a1.toInt ∧ a1.toInt < 4) ∧ (0 ≤ a3.toInt ∧ a3.toInt < 4) ∧ ((g.1 a1.toNatClampNeg).toInt ≠ -1) ∧ ((g.1 a3.toNatClampNeg).toInt ≠ -1) ∧ (g.2.1 a1.toNatClampNeg).toInt ≠ (g.2.1 a3.toNatClampNeg).toInt)) ∨ (r = (-7) ∧ ((0 ≤ a1.toInt ∧ a1.toInt < 4) ∧ (0 ≤ a3.toInt ∧ a3.toInt < 4) ∧ ((g.1 a1.toNatClampNeg).toInt ≠ -1) ∧ ((g.1 a3.toNatClampNeg).toInt ≠ -1) ∧ (g.2.1 a1.toNatClampNeg).toInt = (g.2.1 a3.toNatClampNeg).toInt ∧ ¬ (0 ≤ a2.toInt ∧ 0 ≤ a4.toInt ∧ 0 ≤ a5.toInt ∧ a2.toInt + a5.toInt ≤ (g.1 a1.toNatClampNeg).toInt ∧ a4.toInt + a5.toInt ≤ (g.1 a3.toNatClampNeg).toInt))) ∨ (r = 0 ∧ ((0 ≤ a1.toInt ∧ a1.toInt < 4) ∧ (0 ≤ a3.toInt ∧ a3.toInt < 4) ∧ ((g.1 a1.toNatClampNeg).toInt ≠ -1) ∧ ((g.1 a3.toNatClampNeg).toInt ≠ -1) ∧ (g.2.1 a1.toNatClampNeg).toInt = (g.2.1 a3.toNatClampNeg).toInt ∧ (0 ≤ a2.toInt ∧ 0 ≤ a4.toInt ∧ 0 ≤ a5.toInt ∧ a2.toInt + a5.toInt ≤ (g.1 a1.toNatClampNeg).toInt ∧ a4.toInt + a5.toInt ≤ (g.1 a3.toNatClampNeg).toInt))) := by
  by_cases hI : (0 ≤ a1.toInt ∧ a1.toInt < 4) ∧ (0 ≤ a3.toInt ∧ a3.toInt < 4)
  · have s0 := SR_at hs (i := a1) (by omega) (by omega)
    have s1 := SR_at hs (i := a3) (by omega) (by omega)
    rcases s0 with s0 | s0 <;> rcases s1 with s1 | s1 <;>
    (rcases h with ⟨e, q⟩ | ⟨e, q⟩ | ⟨e, q⟩ | ⟨e, q⟩ | ⟨e, q⟩
     · exact Or.inl ⟨e, by omega⟩
     · exact Or.inr (Or.inl ⟨e, by omega⟩)
     · exact Or.inr (Or.inr (Or.inl ⟨e, by omega⟩))
     · exact Or.inr (Or.inr (Or.inr (Or.inl ⟨e, by omega⟩)))
     · exact Or.inr (Or.inr (Or.inr (Or.inr (⟨e, by omega⟩)))))
  · rcases h with ⟨e, q⟩ | ⟨e, q⟩ | ⟨e, q⟩ | ⟨e, q⟩ | ⟨e, q⟩
    · exact Or.inl ⟨e, by omega⟩
    · exact Or.inr (Or.inl ⟨e, by omega⟩)
    · exact Or.inr (Or.inr (Or.inl ⟨e, by omega⟩))
    · exact Or.inr (Or.inr (Or.inr (Or.inl ⟨e, by omega⟩)))
    · exact Or.inr (Or.inr (Or.inr (Or.inr (⟨e, by omega⟩))))
theorem sw_A {a b c d : Nat} (h : (c = a ∧ d = b) ∨ (c = b ∧ d = a)) : (a = c ∧ b = d) ∨ (b = c ∧ a = d) := by rcases h with ⟨rfl, rfl⟩ | ⟨rfl, rfl⟩ <;> simp
theorem sw_B {a b c d : Nat} (h : (c = b ∧ d = a) ∨ (c = a ∧ d = b)) : (a = c ∧ b = d) ∨ (b = c ∧ a = d) := by rcases h with ⟨rfl, rfl⟩ | ⟨rfl, rfl⟩ <;> simp
