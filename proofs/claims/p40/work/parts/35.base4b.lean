theorem upd_eq (f : Nat → Int32) (k : Nat) (x : Int32) : upd f k x k = x := by unfold upd; rw [if_pos rfl]
theorem upd_ne {f : Nat → Int32} {k j : Nat} (x : Int32) (h : j ≠ k) : upd f k x j = f j := by unfold upd; rw [if_neg h]
theorem rf_c_upd {fh fc : Nat → Int32} (h : rf_c fh fc) {j : Nat} (x : Int32) (hj : j % 11 ≠ 8) : rf_c (upd fh j x) fc := fun w hw c hc => by
  rw [upd_ne x (by omega)] at hc
  exact h w hw c hc
theorem rf_t_upd {fh ft : Nat → Int32} (h : rf_t fh ft) {j : Nat} (x : Int32) (hj : j % 11 ≠ 9) : rf_t (upd fh j x) ft := fun w hw c hc => by
  rw [upd_ne x (by omega)] at hc
  exact h w hw c hc
def rg_e (f : Nat → Int32) (e : Nat) : Prop := ((f (4 * e)).toInt = 1 → 0 ≤ (f (4 * e + 2)).toInt ∧ (f (4 * e + 2)).toInt ≤ 199) ∧ ((f (4 * e)).toInt ≠ 0 → (f (4 * e)).toInt ≠ 1 → 0 ≤ (f (4 * e + 1)).toInt ∧ (f (4 * e + 1)).toInt ≤ 1 ∧ 0 ≤ (f (4 * e + 2)).toInt ∧ (f (4 * e + 2)).toInt ≤ 11 ∧ 0 ≤ (f (4 * e + 3)).toInt ∧ (f (4 * e + 3)).toInt ≤ 5)
def rg_n (f : Nat → Int32) (b : Nat) : Nat → Nat
  | 0 => 0
  | k + 1 => rg_n f b k + (if (f (4 * (b + k))).toInt = 0 then 1 else 0)
def rf_g (fh fg : Nat → Int32) : Prop := ∀ w : Nat, w < 4 → (∀ q : Nat, (q : Int) < (fh (11 * w + 10)).toInt → rg_e fg (40 * w + q)) ∧ (rg_n fg (40 * w) (fh (11 * w + 10)).toInt.toNat : Int) ≤ (fh (11 * w + 7)).toInt
theorem rf_g_upd {fh fg : Nat → Int32} (h : rf_g fh fg) {j : Nat} (x : Int32) (hj : j % 11 ≠ 10) (hj2 : j % 11 ≠ 7) : rf_g (upd fh j x) fg := fun w hw => by
  rw [upd_ne x (by omega), upd_ne x (by omega)]
  exact h w hw
theorem rf_g_st {fh fg : Nat → Int32} (h : rf_g fh fg) {j : Nat} (x : Int32) (hj : j % 11 = 7) (hx : (fh j).toInt ≤ x.toInt) : rf_g (upd fh j x) fg := fun w hw => by
  have h1 := h w hw
  rw [upd_ne x (by omega)]
  by_cases e : 11 * w + 7 = j
  · rw [e, upd_eq]
    rw [e] at h1
    exact ⟨h1.1, by have := h1.2; omega⟩
  · rw [upd_ne x e]
    exact h1
theorem rg_e_eq {f g : Nat → Int32} (e : Nat) (h : ∀ j, 4 * e ≤ j → j < 4 * e + 4 → f j = g j) (he : rg_e f e) : rg_e g e := by
  unfold rg_e at he ⊢
  rw [← h (4 * e) (by omega) (by omega), ← h (4 * e + 1) (by omega) (by omega), ← h (4 * e + 2) (by omega) (by omega), ← h (4 * e + 3) (by omega) (by omega)]
  exact he
theorem rg_n_eq {f g : Nat → Int32} (b k : Nat) (h : ∀ j, 4 * b ≤ j → j < 4 * (b + k) → f j = g j) : rg_n f b k = rg_n g b k := by
  induction k with
  | zero => rfl
  | succ k ih =>
    show rg_n f b k + _ = rg_n g b k + _
    rw [ih (fun j h1 h2 => h j h1 (by omega)), h (4 * (b + k)) (by omega) (by omega)]
theorem rg_n_sh {f g : Nat → Int32} (a b k : Nat) (h : ∀ j, j < 4 * k → f (4 * a + j) = g (4 * b + j)) : rg_n f a k = rg_n g b k := by
  induction k with
  | zero => rfl
  | succ k ih =>
    show rg_n f a k + _ = rg_n g b k + _
    have e := h (4 * k) (by omega)
    rw [ih (fun j h1 => h j (by omega)), show 4 * (a + k) = 4 * a + 4 * k by omega, show 4 * (b + k) = 4 * b + 4 * k by omega, e]
theorem rg_e_sh {f g : Nat → Int32} (a b : Nat) (h : ∀ j, j < 4 → f (4 * a + j) = g (4 * b + j)) (he : rg_e f a) : rg_e g b := by
  unfold rg_e at he ⊢
  have e0 := h 0 (by omega)
  have e1 := h 1 (by omega)
  have e2 := h 2 (by omega)
  have e3 := h 3 (by omega)
  simp only [Nat.add_zero] at e0
  rw [← e0, ← e1, ← e2, ← e3]
  exact he
/-- a change more: the reference's row, of the DANCE that stands -/
theorem rf_keep {fh fg : Nat → Int32} {kd fo wh ws i0 i1 i2 i3 cd : Int32} (h : rf_g fh fg) (hl : ∀ w, w < 4 → 0 ≤ (fh (11 * w + 10)).toInt ∧ (fh (11 * w + 10)).toInt ≤ 40) (h39 : (fh 10).toInt ≤ 39) (e0 : i0.toInt = 4 * (fh 10).toInt) (e1 : i1.toInt = 4 * (fh 10).toInt + 1) (e2 : i2.toInt = 4 * (fh 10).toInt + 2) (e3 : i3.toInt = 4 * (fh 10).toInt + 3) (hd : cd.toInt = (fh 10).toInt + 1)
    (hk : kd.toInt = 0 ∨ (kd.toInt = 1 ∧ 0 ≤ wh.toInt ∧ wh.toInt ≤ 199) ∨ (kd.toInt = 2 ∧ 0 ≤ fo.toInt ∧ fo.toInt ≤ 1 ∧ 0 ≤ wh.toInt ∧ wh.toInt ≤ 11 ∧ 0 ≤ ws.toInt ∧ ws.toInt ≤ 5)) (sc : Int32) (hs : (if kd.toInt = 0 then (fh 7).toInt + 1 else (fh 7).toInt) ≤ sc.toInt) : rf_g (upd (upd fh 10 cd) 7 sc) (upd (upd (upd (upd fg i0.toNatClampNeg kd) i1.toNatClampNeg fo) i2.toNatClampNeg wh) i3.toNatClampNeg ws) := by
  have h90 : 0 ≤ (fh 10).toInt ∧ (fh 10).toInt ≤ 40 := hl 0 (by omega)
  obtain ⟨k, hkk⟩ : ∃ k : Nat, (fh 10).toInt = (k : Int) := ⟨(fh 10).toInt.toNat, by omega⟩
  have j0 : i0.toNatClampNeg = 4 * k := by show i0.toInt.toNat = _; omega
  have j1 : i1.toNatClampNeg = 4 * k + 1 := by show i1.toInt.toNat = _; omega
  have j2 : i2.toNatClampNeg = 4 * k + 2 := by show i2.toInt.toNat = _; omega
  have j3 : i3.toNatClampNeg = 4 * k + 3 := by show i3.toInt.toNat = _; omega
  rw [j0, j1, j2, j3]
  have hoth : ∀ j, j < 4 * k ∨ 4 * k + 4 ≤ j → fg j = upd (upd (upd (upd fg (4 * k) kd) (4 * k + 1) fo) (4 * k + 2) wh) (4 * k + 3) ws j := fun j hj => by
    rw [upd_ne _ (by omega), upd_ne _ (by omega), upd_ne _ (by omega), upd_ne _ (by omega)]
  have g0 : upd (upd (upd (upd fg (4 * k) kd) (4 * k + 1) fo) (4 * k + 2) wh) (4 * k + 3) ws (4 * k) = kd := by
    rw [upd_ne _ (by omega), upd_ne _ (by omega), upd_ne _ (by omega), upd_eq]
  have g1 : upd (upd (upd (upd fg (4 * k) kd) (4 * k + 1) fo) (4 * k + 2) wh) (4 * k + 3) ws (4 * k + 1) = fo := by
    rw [upd_ne _ (by omega), upd_ne _ (by omega), upd_eq]
  have g2 : upd (upd (upd (upd fg (4 * k) kd) (4 * k + 1) fo) (4 * k + 2) wh) (4 * k + 3) ws (4 * k + 2) = wh := by
    rw [upd_ne _ (by omega), upd_eq]
  have g3 : upd (upd (upd (upd fg (4 * k) kd) (4 * k + 1) fo) (4 * k + 2) wh) (4 * k + 3) ws (4 * k + 3) = ws := upd_eq _ _ _
  generalize upd (upd (upd (upd fg (4 * k) kd) (4 * k + 1) fo) (4 * k + 2) wh) (4 * k + 3) ws = g at hoth g0 g1 g2 g3 ⊢
  intro w hw
  by_cases hw0 : w = 0
  · subst hw0
    have h0 := h 0 (by omega)
    have a1 : upd (upd fh 10 cd) 7 sc (11 * 0 + 10) = cd := by rw [upd_ne _ (by omega)]; exact upd_eq _ _ _
    have a2 : upd (upd fh 10 cd) 7 sc (11 * 0 + 7) = sc := upd_eq _ _ _
    rw [a1, a2]
    have hc : cd.toInt.toNat = k + 1 := by omega
    refine ⟨fun q hq => ?_, ?_⟩
    · by_cases hqk : q = k
      · subst hqk
        unfold rg_e
        rw [show 4 * (40 * 0 + q) = 4 * q by omega, g0, g1, g2, g3]
        omega
      · exact rg_e_eq _ (fun j h1 h2 => hoth j (by omega)) (h0.1 q (by show ((q : Nat) : Int) < (fh 10).toInt; omega))
    · rw [hc]
      show ((rg_n g (40 * 0) k + _ : Nat) : Int) ≤ _
      rw [show 4 * (40 * 0 + k) = 4 * k by omega, g0, ← rg_n_eq (40 * 0) k (fun j h1 h2 => hoth j (by omega))]
      have h2 : (rg_n fg (40 * 0) (fh 10).toInt.toNat : Int) ≤ (fh 7).toInt := h0.2
      rw [show (fh 10).toInt.toNat = k by omega] at h2
      by_cases hz : kd.toInt = 0
      · rw [if_pos hz]; rw [if_pos hz] at hs; omega
      · rw [if_neg hz]; rw [if_neg hz] at hs; omega
  · have h0 := h w hw
    have hl0 := hl w hw
    rw [upd_ne _ (by omega), upd_ne _ (by omega), upd_ne _ (by omega), upd_ne _ (by omega)]
    refine ⟨fun q hq => rg_e_eq _ (fun j h1 h2 => hoth j (by omega)) (h0.1 q hq), ?_⟩
    rw [← rg_n_eq (40 * w) _ (fun j h1 h2 => hoth j (by omega))]
    exact h0.2
theorem rf_at {fh fg : Nat → Int32} {i0 i1 i2 i3 : Int32} (h : rf_g fh fg) (c1 : Int) (h1 : 0 ≤ c1) (h2 : c1 < (fh 10).toInt) (e0 : i0.toInt = 4 * c1) (e1 : i1.toInt = 4 * c1 + 1) (e2 : i2.toInt = 4 * c1 + 2) (e3 : i3.toInt = 4 * c1 + 3) : rg_e fg c1.toNat ∧ i0.toNatClampNeg = 4 * c1.toNat ∧ i1.toNatClampNeg = 4 * c1.toNat + 1 ∧ i2.toNatClampNeg = 4 * c1.toNat + 2 ∧ i3.toNatClampNeg = 4 * c1.toNat + 3 := by
  refine ⟨?_, ?_, ?_, ?_, ?_⟩
  · have h3 := (h 0 (by omega)).1 c1.toNat (by show ((c1.toNat : Nat) : Int) < (fh 10).toInt; omega)
    rw [show 40 * 0 + c1.toNat = c1.toNat by omega] at h3
    exact h3
  · show i0.toInt.toNat = _; omega
  · show i1.toInt.toNat = _; omega
  · show i2.toInt.toNat = _; omega
  · show i3.toInt.toNat = _; omega
theorem rf_back {fh fg : Nat → Int32} {cd : Int32} (h : rf_g fh fg) (h1 : 1 ≤ (fh 10).toInt) (hd : cd.toInt = (fh 10).toInt - 1) : ((fg (4 * cd.toInt.toNat)).toInt = 0 → 1 ≤ (fh 7).toInt ∧ ∀ x : Int32, (fh 7).toInt - 1 ≤ x.toInt → rf_g (upd (upd fh 10 cd) 7 x) fg) ∧ rf_g (upd fh 10 cd) fg := by
  have h0 := h 0 (by omega)
  have hc : (fh 10).toInt.toNat = cd.toInt.toNat + 1 := by omega
  have h2 : (rg_n fg (40 * 0) (fh 10).toInt.toNat : Int) ≤ (fh 7).toInt := h0.2
  rw [hc] at h2
  have h3 : ((rg_n fg (40 * 0) cd.toInt.toNat + (if (fg (4 * (40 * 0 + cd.toInt.toNat))).toInt = 0 then 1 else 0) : Nat) : Int) ≤ (fh 7).toInt := h2
  rw [show 4 * (40 * 0 + cd.toInt.toNat) = 4 * cd.toInt.toNat by omega] at h3
  have key : ∀ x : Int32, (rg_n fg (40 * 0) cd.toInt.toNat : Int) ≤ x.toInt → rf_g (upd (upd fh 10 cd) 7 x) fg := fun x hx w hw => by
    by_cases hw0 : w = 0
    · subst hw0
      have a1 : upd (upd fh 10 cd) 7 x (11 * 0 + 10) = cd := by rw [upd_ne _ (by omega)]; exact upd_eq _ _ _
      have a2 : upd (upd fh 10 cd) 7 x (11 * 0 + 7) = x := upd_eq _ _ _
      rw [a1, a2]
      exact ⟨fun q hq => h0.1 q (by show ((q : Nat) : Int) < (fh 10).toInt; omega), hx⟩
    · rw [upd_ne _ (by omega), upd_ne _ (by omega), upd_ne _ (by omega), upd_ne _ (by omega)]
      exact h w hw
  refine ⟨fun hz => ?_, ?_⟩
  · rw [if_pos hz] at h3
    exact ⟨by omega, fun x hx => key x (by omega)⟩
  · have h4 := key (fh 7) (by omega)
    have e : upd (upd fh 10 cd) 7 (fh 7) = upd fh 10 cd := by
      funext j
      by_cases hj : j = 7
      · rw [hj, upd_eq, upd_ne _ (by omega)]
      · rw [upd_ne _ hj]
    rw [e] at h4
    exact h4
def ev_ok (f g : Nat → Int32) (k m : Int) : Prop := (∀ j : Nat, (j : Int) ≠ k → (j : Int) ≠ k + 1 → g j = f j) ∧ 1 ≤ (g k.toNat).toInt ∧ (g k.toNat).toInt ≤ m ∧ 0 ≤ (g (k + 1).toNat).toInt ∧ (g (k + 1).toNat).toInt < (g k.toNat).toInt
theorem ev_of {f : Nat → Int32} {i0 i1 x y : Int32} {m : Int} (h0 : 0 ≤ i0.toInt) (h1 : i1.toInt = i0.toInt + 1) (hx : 1 ≤ x.toInt ∧ x.toInt ≤ m) (hy : 0 ≤ y.toInt ∧ y.toInt < x.toInt) : ev_ok f (upd (upd f i0.toNatClampNeg x) i1.toNatClampNeg y) i0.toInt m := by
  have j0 : i0.toNatClampNeg = i0.toInt.toNat := rfl
  have j1 : i1.toNatClampNeg = i0.toInt.toNat + 1 := by show i1.toInt.toNat = _; omega
  rw [j0, j1]
  refine ⟨fun j hj hj2 => by rw [upd_ne _ (by omega), upd_ne _ (by omega)], ?_⟩
  have g0 : upd (upd f i0.toInt.toNat x) (i0.toInt.toNat + 1) y i0.toInt.toNat = x := by rw [upd_ne _ (by omega), upd_eq]
  have g1 : upd (upd f i0.toInt.toNat x) (i0.toInt.toNat + 1) y (i0.toInt + 1).toNat = y := by rw [show (i0.toInt + 1).toNat = i0.toInt.toNat + 1 by omega, upd_eq]
  rw [g0, g1]
  exact ⟨hx.1, hx.2, hy.1, hy.2⟩
theorem rf_c_ev {fh f g : Nat → Int32} (h : rf_c fh f) (hl : ∀ w, w < 5 → (fh (11 * w + 8)).toInt ≤ 12) (h11 : 0 ≤ (fh 52).toInt ∧ (fh 52).toInt ≤ 11) (he : ev_ok f g (2 * (48 + (fh 52).toInt)) 9) (x : Int32) (hx : x.toInt = (fh 52).toInt + 1) : rf_c (upd fh 52 x) g := fun w hw c hc => by
  obtain ⟨he0, he1, he2, he3, he4⟩ := he
  have hlw := hl w hw
  by_cases hlast : w = 4 ∧ (c : Int) = (fh 52).toInt
  · obtain ⟨rfl, hcc⟩ := hlast
    rw [show 2 * (12 * 4 + c) = (2 * (48 + (fh 52).toInt)).toNat by omega, show (2 * (48 + (fh 52).toInt)).toNat + 1 = (2 * (48 + (fh 52).toInt) + 1).toNat by omega]
    exact ⟨he1, he2, he3, he4⟩
  · have hc2 : (c : Int) < (fh (11 * w + 8)).toInt := by
      by_cases hw4 : w = 4
      · subst hw4
        have e : upd fh 52 x (11 * 4 + 8) = x := upd_eq _ _ _
        rw [e] at hc
        show (c : Int) < (fh 52).toInt
        omega
      · rw [upd_ne _ (by omega)] at hc; exact hc
    have h1 := h w hw c hc2
    have b1 : (2 * (12 * w + c) : Int) < 96 ∨ w = 4 := by omega
    rw [he0 (2 * (12 * w + c)) (by omega) (by omega), he0 (2 * (12 * w + c) + 1) (by omega) (by omega)]
    exact h1
theorem rf_t_ev {fh f g : Nat → Int32} (h : rf_t fh f) (hl : ∀ w, w < 5 → (fh (11 * w + 9)).toInt ≤ 5) (h11 : 0 ≤ (fh 53).toInt ∧ (fh 53).toInt ≤ 4) (he : ev_ok f g (2 * (20 + (fh 53).toInt)) 30) (x : Int32) (hx : x.toInt = (fh 53).toInt + 1) : rf_t (upd fh 53 x) g := fun w hw c hc => by
  obtain ⟨he0, he1, he2, he3, he4⟩ := he
  have hlw := hl w hw
  by_cases hlast : w = 4 ∧ (c : Int) = (fh 53).toInt
  · obtain ⟨rfl, hcc⟩ := hlast
    rw [show 2 * (5 * 4 + c) = (2 * (20 + (fh 53).toInt)).toNat by omega]
    exact ⟨he1, he2⟩
  · have hc2 : (c : Int) < (fh (11 * w + 9)).toInt := by
      by_cases hw4 : w = 4
      · subst hw4
        have e : upd fh 53 x (11 * 4 + 9) = x := upd_eq _ _ _
        rw [e] at hc
        show (c : Int) < (fh 53).toInt
        omega
      · rw [upd_ne _ (by omega)] at hc; exact hc
    have h1 := h w hw c hc2
    rw [he0 (2 * (5 * w + c)) (by omega) (by omega)]
    exact h1
theorem rf_g_hi {fh fg : Nat → Int32} (h : rf_g fh fg) {j : Nat} (x : Int32) (hj : 44 ≤ j) : rf_g (upd fh j x) fg := fun w hw => by
  rw [upd_ne x (by omega), upd_ne x (by omega)]
  exact h w hw
theorem rf_c_z {fh fc : Nat → Int32} (h : rf_c fh fc) (j : Nat) : rf_c (upd fh j 0) fc := fun w hw c hc => by
  by_cases e : 11 * w + 8 = j
  · rw [e, upd_eq] at hc
    have : (0 : Int32).toInt = 0 := by decide
    omega
  · rw [upd_ne _ e] at hc
    exact h w hw c hc
theorem rf_t_z {fh ft : Nat → Int32} (h : rf_t fh ft) (j : Nat) : rf_t (upd fh j 0) ft := fun w hw c hc => by
  by_cases e : 11 * w + 9 = j
  · rw [e, upd_eq] at hc
    have : (0 : Int32).toInt = 0 := by decide
    omega
  · rw [upd_ne _ e] at hc
    exact h w hw c hc
def cr (f : Nat → Int32) (M A B k : Nat) : Nat → Int32 := fun j => if M * B ≤ j ∧ j < M * B + k then f (M * A + (j - M * B)) else f j
theorem cr_zero (f : Nat → Int32) (M A B : Nat) : f = cr f M A B 0 := by
  funext j
  unfold cr
  rw [if_neg (by omega)]
theorem cr_step {f : Nat → Int32} {M A B k : Nat} (hk : k < M) (hd : A < B ∨ B < A) : upd (cr f M A B k) (M * B + k) (cr f M A B k (M * A + k)) = cr f M A B (k + 1) := by
  have hsep : ¬ (M * B ≤ M * A + k ∧ M * A + k < M * B + k) := by
    rcases hd with h | h
    · have h1 : M * (A + 1) ≤ M * B := Nat.mul_le_mul_left M (by omega)
      rw [Nat.mul_add] at h1
      omega
    · have h1 : M * (B + 1) ≤ M * A := Nat.mul_le_mul_left M (by omega)
      rw [Nat.mul_add] at h1
      omega
  have e1 : cr f M A B k (M * A + k) = f (M * A + k) := by
    unfold cr
    rw [if_neg hsep]
  rw [e1]
  funext j
  by_cases hj : j = M * B + k
  · rw [hj, upd_eq]
    unfold cr
    rw [if_pos (by omega), show M * B + k - M * B = k by omega]
  · rw [upd_ne _ hj]
    unfold cr
    by_cases h2 : M * B ≤ j ∧ j < M * B + k
    · rw [if_pos h2, if_pos (by omega)]
    · rw [if_neg h2, if_neg (by omega)]
theorem cr_step2 {f g : Nat → Int32} {M A B k k' : Nat} {i j : Int32} {z : Int32} (hg : g = cr f M A B k) (hk : k < M) (hd : A < B ∨ B < A) (hi : i.toInt.toNat = M * B + k) (hz : z = g j.toNatClampNeg) (hj : j.toInt.toNat = M * A + k) (hk' : k' = k + 1) : upd g i.toNatClampNeg z = cr f M A B k' := by
  have e1 : i.toNatClampNeg = M * B + k := hi
  have e2 : j.toNatClampNeg = M * A + k := hj
  rw [hz, e1, e2, hg, hk']
  exact cr_step hk hd
theorem ar_cr {los his : List Int} {f : Nat → Int32} (h : ar_ok los his f) {M A B k : Nat} (hm : M % los.length = 0) : ar_ok los his (cr f M A B k) := fun j => by
  unfold cr
  by_cases hj : M * B ≤ j ∧ j < M * B + k
  · rw [if_pos hj]
    have h1 := h (M * A + (j - M * B))
    have e : (M * A + (j - M * B)) % los.length = j % los.length := by
      have e1 : (M * A) % los.length = 0 := by rw [Nat.mul_mod, hm]; simp
      have e2 : (M * B) % los.length = 0 := by rw [Nat.mul_mod, hm]; simp
      have e3 : j = M * B + (j - M * B) := by omega
      rw [Nat.add_mod, e1, Nat.zero_add, Nat.mod_mod]
      conv => rhs; rw [e3, Nat.add_mod, e2, Nat.zero_add, Nat.mod_mod]
    rw [e] at h1
    exact h1
  · rw [if_neg hj]; exact h j
theorem cr_in {f : Nat → Int32} {M A B i : Nat} (hi : i < M) : cr f M A B M (M * B + i) = f (M * A + i) := by
  unfold cr
  rw [if_pos (by omega), show M * B + i - M * B = i by omega]
theorem cr_out {f : Nat → Int32} {M A B w i : Nat} (hi : i < M) (hw : w < B ∨ B < w) : cr f M A B M (M * w + i) = f (M * w + i) := by
  unfold cr
  rw [if_neg]
  rcases hw with h | h
  · have h1 : M * (w + 1) ≤ M * B := Nat.mul_le_mul_left M (by omega)
    rw [Nat.mul_add] at h1
    omega
  · have h1 : M * (B + 1) ≤ M * w := Nat.mul_le_mul_left M (by omega)
    rw [Nat.mul_add] at h1
    omega
theorem rf_c_cr {fh fc : Nat → Int32} (h : rf_c fh fc) (hl : ∀ w, w < 5 → (fh (11 * w + 8)).toInt ≤ 12) {A B : Nat} (hA : A < 5) : rf_c (cr fh 11 A B 11) (cr fc 24 A B 24) := fun w hw c hc => by
  by_cases hwB : w = B
  · subst hwB
    rw [cr_in (by omega)] at hc
    have h1 := h A hA c hc
    have hl1 := hl A hA
    rw [show 2 * (12 * w + c) = 24 * w + 2 * c by omega, show 24 * w + 2 * c + 1 = 24 * w + (2 * c + 1) by omega, cr_in (by omega), cr_in (by omega)]
    rw [show 2 * (12 * A + c) = 24 * A + 2 * c by omega, show 24 * A + 2 * c + 1 = 24 * A + (2 * c + 1) by omega] at h1
    exact h1
  · rw [cr_out (by omega) (by omega)] at hc
    have h1 := h w hw c hc
    have hl1 := hl w hw
    rw [show 2 * (12 * w + c) = 24 * w + 2 * c by omega, show 24 * w + 2 * c + 1 = 24 * w + (2 * c + 1) by omega, cr_out (by omega) (by omega), cr_out (by omega) (by omega)]
    rw [show 2 * (12 * w + c) = 24 * w + 2 * c by omega, show 24 * w + 2 * c + 1 = 24 * w + (2 * c + 1) by omega] at h1
    exact h1
theorem rf_t_cr {fh ft : Nat → Int32} (h : rf_t fh ft) (hl : ∀ w, w < 5 → (fh (11 * w + 9)).toInt ≤ 5) {A B : Nat} (hA : A < 5) : rf_t (cr fh 11 A B 11) (cr ft 10 A B 10) := fun w hw c hc => by
  by_cases hwB : w = B
  · subst hwB
    rw [cr_in (by omega)] at hc
    have h1 := h A hA c hc
    have hl1 := hl A hA
    rw [show 2 * (5 * w + c) = 10 * w + 2 * c by omega, cr_in (by omega)]
    rw [show 2 * (5 * A + c) = 10 * A + 2 * c by omega] at h1
    exact h1
  · rw [cr_out (by omega) (by omega)] at hc
    have h1 := h w hw c hc
    have hl1 := hl w hw
    rw [show 2 * (5 * w + c) = 10 * w + 2 * c by omega, cr_out (by omega) (by omega)]
    rw [show 2 * (5 * w + c) = 10 * w + 2 * c by omega] at h1
    exact h1
theorem rf_g_cr {fh fg : Nat → Int32} (h : rf_g fh fg) (hl : ∀ w, w < 5 → 0 ≤ (fh (11 * w + 10)).toInt ∧ (fh (11 * w + 10)).toInt ≤ 40 ∧ 0 ≤ (fh (11 * w + 7)).toInt) {A B : Nat} (hA : A < 4 ∨ (A = 4 ∧ (fh 54).toInt = 0)) : rf_g (cr fh 11 A B 11) (cr fg 160 A B 160) := fun w hw => by
  by_cases hwB : w = B
  · subst hwB
    rw [cr_in (by omega), cr_in (by omega)]
    rcases hA with hA | ⟨rfl, h0⟩
    · have h1 := h A hA
      have hl1 := hl A (by omega)
      refine ⟨fun q hq => rg_e_sh (40 * A + q) (40 * w + q) (fun j hj => ?_) (h1.1 q hq), ?_⟩
      · rw [show 4 * (40 * w + q) + j = 160 * w + (4 * q + j) by omega, cr_in (by omega)]
        congr 1
        omega
      · rw [← rg_n_sh (40 * A) (40 * w) _ (fun j hj => ?_)]
        · exact h1.2
        · rw [show 4 * (40 * w) + j = 160 * w + j by omega, cr_in (by omega)]
          congr 1
          omega
    · have hl1 := hl 4 (by omega)
      have h5 : (fh (11 * 4 + 10)).toInt = 0 := h0
      refine ⟨fun q hq => by omega, ?_⟩
      rw [h5]
      exact hl1.2.2
  · rw [cr_out (by omega) (by omega), cr_out (by omega) (by omega)]
    have h1 := h w hw
    have hl1 := hl w (by omega)
    refine ⟨fun q hq => rg_e_sh (40 * w + q) (40 * w + q) (fun j hj => ?_) (h1.1 q hq), ?_⟩
    · rw [show 4 * (40 * w + q) + j = 160 * w + (4 * q + j) by omega, cr_out (by omega) (by omega)]
    · rw [← rg_n_sh (40 * w) (40 * w) _ (fun j hj => ?_)]
      · exact h1.2
      · rw [show 4 * (40 * w) + j = 160 * w + j by omega, cr_out (by omega) (by omega)]
abbrev hsL : List Int := [0, (-2147483648), (-2147483648), 0, 0, 0, 0, 0, 0, 0, 0]
abbrev hsH : List Int := [20, 2147483647, 2147483647, 12, 12, 11, 11, 8, 12, 5, 40]
theorem hs_at {f : Nat → Int32} (h : ar_ok hsL hsH f) (w i : Nat) (hi : i < 11) : hsL.getD i 0 ≤ (f (11 * w + i)).toInt ∧ (f (11 * w + i)).toInt ≤ hsH.getD i 0 := by
  have h1 := h (11 * w + i)
  have e : (11 * w + i) % hsL.length = i := by show (11 * w + i) % 11 = i; omega
  rw [e] at h1
  exact h1
theorem hs8 {f : Nat → Int32} (h : ar_ok hsL hsH f) : ∀ w, w < 5 → (f (11 * w + 8)).toInt ≤ 12 := fun w _ => (hs_at h w 8 (by omega)).2
theorem hs9 {f : Nat → Int32} (h : ar_ok hsL hsH f) : ∀ w, w < 5 → (f (11 * w + 9)).toInt ≤ 5 := fun w _ => (hs_at h w 9 (by omega)).2
theorem hs10 {f : Nat → Int32} (h : ar_ok hsL hsH f) : ∀ w, w < 5 → 0 ≤ (f (11 * w + 10)).toInt ∧ (f (11 * w + 10)).toInt ≤ 40 ∧ 0 ≤ (f (11 * w + 7)).toInt := fun w _ => ⟨(hs_at h w 10 (by omega)).1, (hs_at h w 10 (by omega)).2, (hs_at h w 7 (by omega)).1⟩
theorem hs10b {f : Nat → Int32} (h : ar_ok hsL hsH f) : ∀ w, w < 4 → 0 ≤ (f (11 * w + 10)).toInt ∧ (f (11 * w + 10)).toInt ≤ 40 := fun w _ => ⟨(hs_at h w 10 (by omega)).1, (hs_at h w 10 (by omega)).2⟩
theorem ar_putr {los his : List Int} {f : Nat → Int32} (h : ar_ok los his f) (k : Nat) (x : Int32) (a b : Nat) (ha : a ≤ k) (hb : k ≤ b) {lo hi : Int} (hx : lo ≤ x.toInt ∧ x.toInt ≤ hi) (hl : ∀ q, q < b + 1 → a ≤ q → los.getD (q % los.length) 0 ≤ lo ∧ hi ≤ his.getD (q % los.length) 0) : ar_ok los his (upd f k x) := by
  refine ar_put h _ _ ?_
  have h2 := hl k (by omega) ha
  exact ⟨Int.le_trans h2.1 hx.1, Int.le_trans hx.2 h2.2⟩
theorem st_up {f : Nat → Int32} {m : Int} {i x : Int32} (h : ∀ j : Nat, (j : Int) < m → 0 ≤ (f j).toInt ∧ (f j).toInt ≤ 5) (hi : i.toInt = m) (h0 : 0 ≤ m) (hx : 0 ≤ x.toInt ∧ x.toInt ≤ 5) : ∀ j : Nat, (j : Int) < m + 1 → 0 ≤ (upd f i.toNatClampNeg x j).toInt ∧ (upd f i.toNatClampNeg x j).toInt ≤ 5 := fun j hj => by
  by_cases e : j = i.toNatClampNeg
  · rw [e, upd_eq]; exact hx
  · rw [upd_ne _ e]
    refine h j ?_
    have : j ≠ i.toInt.toNat := e
    omega
theorem z54_step {f g : Nat → Int32} {k : Int32} {j : Int} (hg : g = upd f (44 + k.toInt).toNat 0) (h0 : 0 ≤ k.toInt) (h1 : k.toInt ≤ 10) (hj : j = k.toInt + 1) : j ≤ 10 ∨ (g 54).toInt = 0 := by
  by_cases e : k.toInt = 10
  · right
    rw [hg, e]
    show (upd f 54 0 54).toInt = 0
    rw [upd_eq]; decide
  · left; omega
theorem upd_self (f : Nat → Int32) (k : Nat) : upd f k (f k) = f := by
  funext j
  by_cases h : j = k
  · rw [h, upd_eq]
  · rw [upd_ne _ h]
theorem rf_keep2 {fh fg : Nat → Int32} {kd fo wh ws i0 i1 i2 i3 cd : Int32} (h : rf_g fh fg) (hl : ∀ w, w < 4 → 0 ≤ (fh (11 * w + 10)).toInt ∧ (fh (11 * w + 10)).toInt ≤ 40) (h39 : (fh 10).toInt ≤ 39) (e0 : i0.toInt = 4 * (fh 10).toInt) (e1 : i1.toInt = 4 * (fh 10).toInt + 1) (e2 : i2.toInt = 4 * (fh 10).toInt + 2) (e3 : i3.toInt = 4 * (fh 10).toInt + 3) (hd : cd.toInt = (fh 10).toInt + 1)
    (hk : kd.toInt = 0 ∨ (kd.toInt = 1 ∧ 0 ≤ wh.toInt ∧ wh.toInt ≤ 199) ∨ (kd.toInt = 2 ∧ 0 ≤ fo.toInt ∧ fo.toInt ≤ 1 ∧ 0 ≤ wh.toInt ∧ wh.toInt ≤ 11 ∧ 0 ≤ ws.toInt ∧ ws.toInt ≤ 5)) : kd.toInt = 0 ∨ rf_g (upd fh 10 cd) (upd (upd (upd (upd fg i0.toNatClampNeg kd) i1.toNatClampNeg fo) i2.toNatClampNeg wh) i3.toNatClampNeg ws) := by
  by_cases hz : kd.toInt = 0
  · exact Or.inl hz
  · right
    have h1 := rf_keep h hl h39 e0 e1 e2 e3 hd hk (fh 7) (by rw [if_neg hz]; omega)
    have e : upd (upd fh 10 cd) 7 (fh 7) = upd fh 10 cd := by
      have h2 := upd_self (upd fh 10 cd) 7
      rw [upd_ne (k := 10) (j := 7) cd (by omega)] at h2
      exact h2
    rw [e] at h1
    exact h1
theorem rf_ent {fh fg : Nat → Int32} (h : rf_g fh fg) (c1 : Int) (h1 : 0 ≤ c1) (h2 : c1 < (fh 10).toInt) : rg_e fg c1.toNat := by
  have h3 := (h 0 (by omega)).1 c1.toNat (by show ((c1.toNat : Nat) : Int) < (fh 10).toInt; omega)
  rw [show 40 * 0 + c1.toNat = c1.toNat by omega] at h3
  exact h3
def pl (o t : Int32) : Prop := ((o >>> ((2 * t) &&& 31)) &&& 3).toInt < 2
def al_ (f : Nat → Bool) : Nat → Bool
  | 0 => true
  | n + 1 => f n && al_ f n
theorem al_at {f : Nat → Bool} {n : Nat} (h : al_ f n = true) : ∀ k, k < n → f k = true := by
  induction n with
  | zero => intro k hk; omega
  | succ n ih =>
    intro k hk
    have h2 : (f n && al_ f n) = true := h
    rw [Bool.and_eq_true] at h2
    by_cases e : k = n
    · rw [e]; exact h2.1
    · exact ih h2.2 k (by omega)
def wd (n k : Nat) : Nat := n / 4 ^ k % 4
def pl_f (o t : Nat) : Bool := decide (((Int32.ofNat o >>> ((2 * Int32.ofNat t) &&& 31)) &&& 3).toInt = ((wd o t : Nat) : Int))
def wd_f (n k : Nat) : Bool := Nat.ble 2 (wd n k) || (Nat.ble (n + 4 ^ k) 4095 && al_ (fun j => Nat.beq (wd (n + 4 ^ k) j) (cond (Nat.beq j k) (wd n j + 1) (wd n j))) 6)
set_option maxRecDepth 100000 in
theorem pl_b : al_ (fun a => al_ (fun b => al_ (fun t => pl_f (64 * a + b) t) 6) 64) 64 = true := by decide +kernel
set_option maxRecDepth 100000 in
theorem wd_b : al_ (fun a => al_ (fun b => al_ (fun k => wd_f (64 * a + b) k) 6) 64) 64 = true := by decide +kernel
theorem pl_all (o t : Nat) (ho : o < 4096) (ht : t < 6) : ((Int32.ofNat o >>> ((2 * Int32.ofNat t) &&& 31)) &&& 3).toInt = ((wd o t : Nat) : Int) := by
  have h3 : pl_f (64 * (o / 64) + o % 64) t = true := al_at (al_at (al_at pl_b (o / 64) (by omega)) (o % 64) (by omega)) t ht
  rw [show 64 * (o / 64) + o % 64 = o by omega] at h3
  exact of_decide_eq_true h3
theorem wd_all (n k : Nat) (ho : n < 4096) (hk : k < 6) (h : wd n k < 2) : n + 4 ^ k < 4096 ∧ ∀ j, j < 6 → (j = k → wd (n + 4 ^ k) j = wd n j + 1) ∧ (j ≠ k → wd (n + 4 ^ k) j = wd n j) := by
  have h3 : wd_f (64 * (n / 64) + n % 64) k = true := al_at (al_at (al_at wd_b (n / 64) (by omega)) (n % 64) (by omega)) k hk
  rw [show 64 * (n / 64) + n % 64 = n by omega] at h3
  have h4 : (Nat.ble 2 (wd n k) || (Nat.ble (n + 4 ^ k) 4095 && al_ (fun j => Nat.beq (wd (n + 4 ^ k) j) (cond (Nat.beq j k) (wd n j + 1) (wd n j))) 6)) = true := h3
  rw [Bool.or_eq_true, Bool.and_eq_true] at h4
  rcases h4 with h4 | ⟨h5, h6⟩
  · have := Nat.le_of_ble_eq_true h4
    omega
  · refine ⟨Nat.lt_succ_of_le (Nat.le_of_ble_eq_true h5), fun j hj => ?_⟩
    have h7 : Nat.beq (wd (n + 4 ^ k) j) (cond (Nat.beq j k) (wd n j + 1) (wd n j)) = true := al_at h6 j hj
    have h8 := Nat.eq_of_beq_eq_true h7
    refine ⟨fun e => ?_, fun e => ?_⟩
    · rw [h8, show Nat.beq j k = true by rw [e]; exact Nat.beq_refl k]
      rfl
    · rw [h8, show Nat.beq j k = false from Bool.eq_false_iff.mpr (fun q => e (Nat.eq_of_beq_eq_true q))]
      rfl
def wn (d : Nat) (o : Int) : Prop := 0 ≤ o ∧ o < 4096 ∧ (wd o.toNat 0 ≤ 2 ∧ wd o.toNat 1 ≤ 2 ∧ wd o.toNat 2 ≤ 2 ∧ wd o.toNat 3 ≤ 2 ∧ wd o.toNat 4 ≤ 2 ∧ wd o.toNat 5 ≤ 2) ∧ 12 ≤ d + (wd o.toNat 0 + wd o.toNat 1 + wd o.toNat 2 + wd o.toNat 3 + wd o.toNat 4 + wd o.toNat 5)
theorem pl_at {d : Nat} {o t : Int32} (h : wn d o.toInt) (k : Nat) (hk : k < 6) (ht : t.toInt = (k : Int)) (hp : pl o t) : wd o.toInt.toNat k < 2 := by
  have e1 : o = Int32.ofNat o.toInt.toNat := Int32.toInt_inj.mp (by rw [Int32.toInt_ofNat_of_lt (by have := h.2.1; omega)]; have := h.1; omega)
  have e2 : t = Int32.ofNat k := Int32.toInt_inj.mp (by rw [Int32.toInt_ofNat_of_lt (by omega)]; exact ht)
  have h0 := h.1
  have h00 := h.2.1
  have h1 : ((o >>> ((2 * t) &&& 31)) &&& 3).toInt < 2 := hp
  have h2 := pl_all o.toInt.toNat k (by omega) hk
  rw [← e1, ← e2] at h2
  rw [h2] at h1
  omega
theorem wn_lt {d : Nat} {o : Int} (h : wn d o) : 0 ≤ o ∧ o < 4096 := ⟨h.1, h.2.1⟩
theorem wn_zero {o t : Int32} (h : wn 0 o.toInt) (h0 : 0 ≤ t.toInt) (h1 : t.toInt ≤ 5) (hp : pl o t) : False := by
  have h2 := pl_at h t.toInt.toNat (by omega) (by omega) hp
  obtain ⟨-, -, ⟨a0, a1, a2, a3, a4, a5⟩, hs⟩ := h
  generalize o.toInt.toNat = n at *
  rcases (show t.toInt.toNat = 0 ∨ t.toInt.toNat = 1 ∨ t.toInt.toNat = 2 ∨ t.toInt.toNat = 3 ∨ t.toInt.toNat = 4 ∨ t.toInt.toNat = 5 by omega) with e | e | e | e | e | e <;> rw [e] at h2 <;> omega
theorem wn_step {d : Nat} {o t : Int32} (h : wn (d + 1) o.toInt) (k : Nat) (hk : k < 6) (ht : t.toInt = (k : Int)) (hp : pl o t) {z : Int} (hz : z = o.toInt + ((4 ^ k : Nat) : Int)) : wn d z := by
  have h1 := pl_at h k hk ht hp
  obtain ⟨g0, g1, ⟨a0, a1, a2, a3, a4, a5⟩, hs⟩ := h
  obtain ⟨hu, hv⟩ := wd_all o.toInt.toNat k (by omega) hk h1
  have ez : z.toNat = o.toInt.toNat + 4 ^ k := by
    rw [hz]
    generalize 4 ^ k = P
    omega
  have hz0 : 0 ≤ z := by
    rw [hz]
    generalize 4 ^ k = P
    omega
  rw [← ez] at hu hv
  have hlt : z < 4096 := by omega
  have v0 := hv 0 (by decide)
  have v1 := hv 1 (by decide)
  have v2 := hv 2 (by decide)
  have v3 := hv 3 (by decide)
  have v4 := hv 4 (by decide)
  have v5 := hv 5 (by decide)
  refine ⟨hz0, hlt, ?_⟩
  clear hv hu ez hz hp ht hz0 hlt g0 g1
  generalize z.toNat = n at *
  generalize o.toInt.toNat = q at *
  rcases (show k = 0 ∨ k = 1 ∨ k = 2 ∨ k = 3 ∨ k = 4 ∨ k = 5 by omega) with e | e | e | e | e | e
  · subst e
    have w0 := v0.1 (by decide)
    have w1 := v1.2 (by decide)
    have w2 := v2.2 (by decide)
    have w3 := v3.2 (by decide)
    have w4 := v4.2 (by decide)
    have w5 := v5.2 (by decide)
    clear v0 v1 v2 v3 v4 v5
    omega
  · subst e
    have w0 := v0.2 (by decide)
    have w1 := v1.1 (by decide)
    have w2 := v2.2 (by decide)
    have w3 := v3.2 (by decide)
    have w4 := v4.2 (by decide)
    have w5 := v5.2 (by decide)
    clear v0 v1 v2 v3 v4 v5
    omega
  · subst e
    have w0 := v0.2 (by decide)
    have w1 := v1.2 (by decide)
    have w2 := v2.1 (by decide)
    have w3 := v3.2 (by decide)
    have w4 := v4.2 (by decide)
    have w5 := v5.2 (by decide)
    clear v0 v1 v2 v3 v4 v5
    omega
  · subst e
    have w0 := v0.2 (by decide)
    have w1 := v1.2 (by decide)
    have w2 := v2.2 (by decide)
    have w3 := v3.1 (by decide)
    have w4 := v4.2 (by decide)
    have w5 := v5.2 (by decide)
    clear v0 v1 v2 v3 v4 v5
    omega
  · subst e
    have w0 := v0.2 (by decide)
    have w1 := v1.2 (by decide)
    have w2 := v2.2 (by decide)
    have w3 := v3.2 (by decide)
    have w4 := v4.1 (by decide)
    have w5 := v5.2 (by decide)
    clear v0 v1 v2 v3 v4 v5
    omega
  · subst e
    have w0 := v0.2 (by decide)
    have w1 := v1.2 (by decide)
    have w2 := v2.2 (by decide)
    have w3 := v3.2 (by decide)
    have w4 := v4.2 (by decide)
    have w5 := v5.1 (by decide)
    clear v0 v1 v2 v3 v4 v5
    omega

