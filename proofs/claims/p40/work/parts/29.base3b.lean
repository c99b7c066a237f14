theorem tq_andl {x y : Int32} {a : Int} (hx : x.toInt = a) (ha : 0 ≤ a) : 0 ≤ (x &&& y).toInt ∧ (x &&& y).toInt ≤ a := by
  rw [Int32.and_comm]
  exact tq_and hx ha
theorem tl_sm {a : Int} (h : -9223372036854775808 ≤ a ∧ a < 9223372036854775808) : a.bmod (2 ^ 64) = a := Int.bmod_eq_of_le (by omega) (by omega)
theorem tl_add {x y : Int64} {a b : Int} (hx : x.toInt = a) (hy : y.toInt = b) (h : -9223372036854775808 ≤ a + b ∧ a + b < 9223372036854775808) : (x + y).toInt = a + b := by rw [Int64.toInt_add, hx, hy]; exact tl_sm h
theorem tl_sub {x y : Int64} {a b : Int} (hx : x.toInt = a) (hy : y.toInt = b) (h : -9223372036854775808 ≤ a - b ∧ a - b < 9223372036854775808) : (x - y).toInt = a - b := by rw [Int64.toInt_sub, hx, hy]; exact tl_sm h
theorem ct_bits {x : Int32} (h : x.toInt ≠ 0) : (x &&& (x - 1)).toUInt32.toNat < x.toUInt32.toNat := by
  have h0 : x.toBitVec.toNat ≠ 0 := fun e => h (by
    have : x = 0 := Int32.toBitVec_inj.mp (BitVec.eq_of_toNat_eq (by rw [e]; rfl))
    rw [this]; decide)
  show (x.toBitVec &&& (x.toBitVec - 1#32)).toNat < x.toBitVec.toNat
  rw [BitVec.toNat_and]
  refine Nat.lt_of_le_of_lt Nat.and_le_right ?_
  have hl := x.toBitVec.isLt
  rw [BitVec.toNat_sub]
  have e1 : (1#32).toNat = 1 := rfl
  rw [e1]
  have e2 : 2 ^ 32 - 1 + x.toBitVec.toNat = (x.toBitVec.toNat - 1) + 2 ^ 32 := by omega
  rw [e2, Nat.add_mod_right, Nat.mod_eq_of_lt (by omega)]
  omega
def bt (x k : Int32) : Prop := ((x >>> (k &&& 31)) &&& 1) = 1
theorem bt_ex {x : Int32} (h0 : 0 ≤ x.toInt) (h1 : x.toInt ≤ 63) (h : x.toInt ≠ 0) : ∃ k : Int32, (0 : Int32).toInt ≤ k.toInt ∧ k.toInt < 32 ∧ bt x k := by
  have hd : ∀ v : Nat, v < 64 → v ≠ 0 → ∃ k : Nat, k < 6 ∧ ((Int32.ofNat v >>> (Int32.ofNat k &&& 31)) &&& 1) = 1 := by decide
  obtain ⟨k, hk, hb⟩ := hd x.toInt.toNat (by omega) (by omega)
  have hx : Int32.ofNat x.toInt.toNat = x := Int32.toInt_inj.mp (by rw [Int32.toInt_ofNat_of_lt (by omega)]; omega)
  have hk2 : (Int32.ofNat k).toInt = k := Int32.toInt_ofNat_of_lt (by omega)
  refine ⟨Int32.ofNat k, ?_, ?_, ?_⟩
  · rw [hk2]; show (0 : Int) ≤ k; omega
  · rw [hk2]; omega
  · unfold bt; rw [hx] at hb; exact hb
theorem ln_pos {f : Nat → Int32} (h : 1 ≤ (f 3).toInt ∧ 1 ≤ (f 4).toInt) {i : Int32} (h0 : 3 ≤ i.toInt) (h1 : i.toInt ≤ 4) : 1 ≤ (f i.toNatClampNeg).toInt := by
  rcases (show i.toInt.toNat = 3 ∨ i.toInt.toNat = 4 by omega) with e | e
  · show 1 ≤ (f i.toInt.toNat).toInt; rw [e]; exact h.1
  · show 1 ≤ (f i.toInt.toNat).toInt; rw [e]; exact h.2
theorem cm_zero {a1 a2 : Int32} (h : 0 ≤ a2.toInt ∧ a2.toInt ≤ ((0 : Nat) : Int) ∧ 0 ≤ a1.toInt ∧ (1 ≤ a1.toInt ∨ 1 ≤ a2.toInt)) : a2.toInt = 0 := by omega
theorem cm_step {d : Nat} {a1 a2 z : Int32} (h : 0 ≤ a2.toInt ∧ a2.toInt ≤ ((d + 1 : Nat) : Int) ∧ 0 ≤ a1.toInt ∧ (1 ≤ a1.toInt ∨ 1 ≤ a2.toInt)) (hn : a2.toInt ≠ 0) (hz : z = a1 - a1 / a2 * a2) : 0 ≤ z.toInt ∧ z.toInt ≤ (d : Int) ∧ 0 ≤ a2.toInt ∧ (1 ≤ a2.toInt ∨ 1 ≤ z.toInt) := by
  have h1 := tq_remp (x := a1) (y := a2) rfl rfl (by omega) (by omega)
  rw [hz]
  omega
theorem tq_divp {x y : Int32} {a c : Int} (hx : x.toInt = a) (hy : y.toInt = c) (ha : 0 ≤ a) (hc : 0 < c) : 0 ≤ (x / y).toInt ∧ (x / y).toInt ≤ a := by
  rw [tq_divc hx hy ha hc]
  exact ⟨Int.ediv_nonneg ha (by omega), Int.ediv_le_self _ ha⟩
theorem tq_mulb {x y : Int32} {a b : Int} (A B : Int) (hx : x.toInt = a) (hy : y.toInt = b) (ha : 0 ≤ a ∧ a ≤ A) (hb : 0 ≤ b ∧ b ≤ B) (hAB : A * B < 2147483648) : 0 ≤ (x * y).toInt ∧ (x * y).toInt ≤ A * B := by
  have h1 : 0 ≤ a * b := Int.mul_nonneg ha.1 hb.1
  have h2 : a * b ≤ A * B := Int.mul_le_mul ha.2 hb.2 hb.1 (by omega)
  rw [tq_mul hx hy (by omega)]
  exact ⟨h1, h2⟩
def cl_ok (d : Nat) (a b : Int) : Prop := (a ≠ 0 ∨ b ≠ 0) ∧ (b = 0 ∨ (a.natAbs * b.natAbs < 2 ^ d ∧ b.natAbs < a.natAbs ∧ 1 ≤ d) ∨ 128 ≤ d)
theorem cl_zero {a1 a2 : Int64} (h : cl_ok 0 a1.toInt a2.toInt) : a2.toInt = 0 := by
  obtain ⟨-, h | h | h⟩ := h
  · exact h
  · omega
  · omega
theorem tl_rem (x y : Int64) (h : y.toInt ≠ 0) : (x - x / y * y).toInt.natAbs = x.toInt.natAbs % y.toInt.natAbs := by
  have e : x - x / y * y = x % y := by
    apply Int64.toInt_inj.mp
    rw [Int64.toInt_mod, Int64.toInt_sub, Int64.toInt_mul, Int64.toInt_div]
    have h1 : x.toInt.tdiv y.toInt * y.toInt + x.toInt.tmod y.toInt = x.toInt := Int.tdiv_mul_add_tmod ..
    have hb : ((x.toInt.tdiv y.toInt).bmod (2 ^ 64) * y.toInt).bmod (2 ^ 64) = (x.toInt.tdiv y.toInt * y.toInt).bmod (2 ^ 64) := Int.bmod_mul_bmod ..
    rw [hb]
    have hs : (x.toInt - (x.toInt.tdiv y.toInt * y.toInt).bmod (2 ^ 64)).bmod (2 ^ 64) = (x.toInt - x.toInt.tdiv y.toInt * y.toInt).bmod (2 ^ 64) := Int.sub_bmod_bmod ..
    rw [hs, show x.toInt - x.toInt.tdiv y.toInt * y.toInt = x.toInt.tmod y.toInt by omega]
    have hx1 := Int64.toInt_lt x
    have hx2 := Int64.le_toInt x
    have h2 : (x.toInt.tmod y.toInt).natAbs ≤ x.toInt.natAbs := by rw [Int.natAbs_tmod]; exact Nat.mod_le _ _
    have h3 : (0 ≤ x.toInt → 0 ≤ x.toInt.tmod y.toInt) := fun z => Int.tmod_nonneg _ z
    have h4 : (x.toInt ≤ 0 → x.toInt.tmod y.toInt ≤ 0) := fun z => by
      have q := Int.tmod_nonneg y.toInt (show 0 ≤ -x.toInt by omega)
      rw [Int.neg_tmod] at q
      omega
    exact tl_sm (by omega)
  rw [e, Int64.toInt_mod, Int.natAbs_tmod]
theorem cl_step {d : Nat} {a1 a2 z : Int64} (h : cl_ok (d + 1) a1.toInt a2.toInt) (hn : a2.toInt ≠ 0) (hz : z = a1 - a1 / a2 * a2) : cl_ok d a2.toInt z.toInt := by
  have hr := tl_rem a1 a2 hn
  rw [← hz] at hr
  refine ⟨Or.inl hn, ?_⟩
  by_cases hz0 : z.toInt = 0
  · exact Or.inl hz0
  · right
    have hb : 0 < a2.toInt.natAbs := by omega
    have hlt : z.toInt.natAbs < a2.toInt.natAbs := by rw [hr]; exact Nat.mod_lt _ hb
    obtain ⟨-, h | ⟨h1, h2, h3⟩ | h⟩ := h
    · exact absurd h hn
    · left
      have hdm := Nat.div_add_mod a1.toInt.natAbs a2.toInt.natAbs
      have hq : 1 ≤ a1.toInt.natAbs / a2.toInt.natAbs := Nat.div_pos (by omega) hb
      have hge : a2.toInt.natAbs + z.toInt.natAbs ≤ a1.toInt.natAbs := by
        rw [hr]
        have : a2.toInt.natAbs * 1 ≤ a2.toInt.natAbs * (a1.toInt.natAbs / a2.toInt.natAbs) := Nat.mul_le_mul_left _ hq
        omega
      have h4 : a2.toInt.natAbs * z.toInt.natAbs * 2 ≤ a1.toInt.natAbs * a2.toInt.natAbs := by
        have : z.toInt.natAbs * 2 ≤ a1.toInt.natAbs := by omega
        calc a2.toInt.natAbs * z.toInt.natAbs * 2 = a2.toInt.natAbs * (z.toInt.natAbs * 2) := by rw [Nat.mul_assoc]
          _ ≤ a2.toInt.natAbs * a1.toInt.natAbs := Nat.mul_le_mul_left _ this
          _ = a1.toInt.natAbs * a2.toInt.natAbs := Nat.mul_comm _ _
      have h5 : 2 ^ (d + 1) = 2 ^ d * 2 := Nat.pow_succ ..
      have h6 : a2.toInt.natAbs * z.toInt.natAbs < 2 ^ d := by omega
      refine ⟨h6, hlt, ?_⟩
      rcases Nat.eq_zero_or_pos d with e | e
      · subst e
        have : 1 ≤ a2.toInt.natAbs * z.toInt.natAbs := Nat.mul_pos hb (by omega)
        omega
      · exact e
    · by_cases hd : 128 ≤ d
      · exact Or.inr hd
      · left
        have hd2 : d = 127 := by omega
        subst hd2
        have u1 := Int64.toInt_lt a2
        have u2 := Int64.le_toInt a2
        have u3 := Int64.toInt_lt z
        have u4 := Int64.le_toInt z
        have v1 : a2.toInt.natAbs ≤ 2 ^ 63 := by omega
        have v2 : z.toInt.natAbs ≤ 2 ^ 63 := by omega
        have v3 : a2.toInt.natAbs * z.toInt.natAbs ≤ 2 ^ 63 * 2 ^ 63 := Nat.mul_le_mul v1 v2
        exact ⟨Nat.lt_of_le_of_lt v3 (by decide), hlt, by omega⟩
theorem cl_top {a b : Int} (h : a ≠ 0 ∨ b ≠ 0) : cl_ok 130 a b := ⟨h, Or.inr (Or.inr (by decide))⟩
theorem bt_next {x t z : Int32} (h : ∃ k : Int32, t.toInt ≤ k.toInt ∧ k.toInt < 32 ∧ bt x k) (hn : ¬ bt x t) (hz : z.toInt = t.toInt + 1) : ∃ k : Int32, z.toInt ≤ k.toInt ∧ k.toInt < 32 ∧ bt x k := by
  obtain ⟨k, h1, h2, h3⟩ := h
  refine ⟨k, ?_, h2, h3⟩
  by_cases hk : k = t
  · rw [hk] at h3; exact absurd h3 hn
  · have : k.toInt ≠ t.toInt := fun h => hk (Int32.toInt_inj.mp h)
    omega
def rf_c (fh fc : Nat → Int32) : Prop := ∀ w : Nat, w < 5 → ∀ c : Nat, (c : Int) < (fh (11 * w + 8)).toInt → 1 ≤ (fc (2 * (12 * w + c))).toInt ∧ (fc (2 * (12 * w + c))).toInt ≤ 9 ∧ 0 ≤ (fc (2 * (12 * w + c) + 1)).toInt ∧ (fc (2 * (12 * w + c) + 1)).toInt < (fc (2 * (12 * w + c))).toInt
def rf_t (fh ft : Nat → Int32) : Prop := ∀ w : Nat, w < 5 → ∀ c : Nat, (c : Int) < (fh (11 * w + 9)).toInt → 1 ≤ (ft (2 * (5 * w + c))).toInt ∧ (ft (2 * (5 * w + c))).toInt ≤ 30
theorem rf_cell {fh fc : Nat → Int32} (h : rf_c fh fc) {i j : Int32} (c : Int) (h0 : 0 ≤ c) (h1 : c < (fh 8).toInt) (hi : i.toInt = 2 * c) (hj : j.toInt = 2 * c + 1) : 1 ≤ (fc i.toNatClampNeg).toInt ∧ (fc i.toNatClampNeg).toInt ≤ 9 ∧ 0 ≤ (fc j.toNatClampNeg).toInt ∧ (fc j.toNatClampNeg).toInt < (fc i.toNatClampNeg).toInt := by
  have h2 := h 0 (by decide) c.toNat (by show ((c.toNat : Nat) : Int) < (fh 8).toInt; omega)
  have e1 : 2 * (12 * 0 + c.toNat) = i.toNatClampNeg := by show _ = i.toInt.toNat; omega
  have e2 : 2 * (12 * 0 + c.toNat) + 1 = j.toNatClampNeg := by show _ = j.toInt.toNat; omega
  rw [e2, e1] at h2
  exact h2
theorem rf_tune {fh ft : Nat → Int32} (h : rf_t fh ft) {i : Int32} (c : Int) (h0 : 0 ≤ c) (h1 : c < (fh 9).toInt) (hi : i.toInt = 2 * c) : 1 ≤ (ft i.toNatClampNeg).toInt ∧ (ft i.toNatClampNeg).toInt ≤ 30 := by
  have h2 := h 0 (by decide) c.toNat (by show ((c.toNat : Nat) : Int) < (fh 9).toInt; omega)
  have e1 : 2 * (5 * 0 + c.toNat) = i.toNatClampNeg := by show _ = i.toInt.toNat; omega
  rw [e1] at h2
  exact h2
def wk (f : Nat → Int32) (c b : Int) : Int := ((f (2 * c + 1).toNat).toInt - b) % (f (2 * c).toNat).toInt
theorem wk_rng {f : Nat → Int32} {c b : Int} (h1 : 1 ≤ (f (2 * c).toNat).toInt) (h2 : (f (2 * c).toNat).toInt ≤ 9) : 0 ≤ wk f c b ∧ wk f c b ≤ 8 := by
  unfold wk
  have := Int.emod_nonneg ((f (2 * c + 1).toNat).toInt - b) (show (f (2 * c).toNat).toInt ≠ 0 by omega)
  have := Int.emod_lt_of_pos ((f (2 * c + 1).toNat).toInt - b) (show 0 < (f (2 * c).toNat).toInt by omega)
  omega
theorem wk_step {f : Nat → Int32} {c b : Int} (h1 : 1 ≤ (f (2 * c).toNat).toInt) (h3 : 0 ≤ (f (2 * c + 1).toNat).toInt) (h4 : (f (2 * c + 1).toNat).toInt < (f (2 * c).toNat).toInt) (hb : 0 ≤ b) (hn : b % (f (2 * c).toNat).toInt ≠ (f (2 * c + 1).toNat).toInt) : wk f c (b + 1) = wk f c b - 1 ∧ 1 ≤ wk f c b := by
  unfold wk
  generalize (f (2 * c).toNat).toInt = e at *
  generalize (f (2 * c + 1).toNat).toInt = a at *
  have hr0 := Int.emod_nonneg (a - b) (show e ≠ 0 by omega)
  have hr1 := Int.emod_lt_of_pos (a - b) (show 0 < e by omega)
  have hne : (a - b) % e ≠ 0 := fun hz => by
    apply hn
    have hm : a % e = b % e := Int.emod_eq_emod_iff_emod_sub_eq_zero.mpr hz
    rw [← hm]
    exact Int.emod_eq_of_lt h3 h4
  refine ⟨?_, by omega⟩
  have e1 : a - (b + 1) = (a - b) - 1 := by omega
  rw [e1, Int.sub_emod, show (a - b) % e - 1 % e = (a - b) % e - 1 % e from rfl]
  by_cases h5 : e = 1
  · omega
  · rw [show (1 : Int) % e = 1 from Int.emod_eq_of_lt (by omega) (by omega)]
    exact Int.emod_eq_of_lt (by omega) (by omega)
def hr_ok (f : Nat → Int64) (sl i : Int) : Prop := ∀ k : Nat, (k : Int) < i → k % 2 = 0 → 0 ≤ (f (60 * sl + (k : Int)).toNat).toInt ∧ (f (60 * sl + (k : Int)).toNat).toInt ≤ 199
theorem hr_zero {f : Nat → Int64} {sl i : Int} (h : i ≤ 0) : hr_ok f sl i := fun k hk => by omega
theorem hr_step {f : Nat → Int64} {sl i j : Int} {z : Int64} {q : Int32} (h : hr_ok f sl i) (h0 : 0 ≤ i) (h2 : i % 2 = 0) (hz : z = f q.toNatClampNeg) (hq : q.toInt = 60 * sl + i) (hr : 0 ≤ z.toInt ∧ z.toInt ≤ 199) (hj : j = i + 2) : hr_ok f sl j := fun k hk hk2 => by
  by_cases hki : (k : Int) = i
  · rw [hki, ← hq]
    have e : f q.toInt.toNat = z := hz.symm
    rw [e]
    exact hr
  · exact h k (by omega) hk2
theorem hr_get {f : Nat → Int64} {sl i n : Int} {q : Int32} (h : hr_ok f sl n) (h0 : 0 ≤ i) (h1 : i < n) (h2 : i % 2 = 0) (hq : q.toInt = 60 * sl + i) : 0 ≤ (f q.toNatClampNeg).toInt ∧ (f q.toNatClampNeg).toInt ≤ 199 := by
  have h3 := h i.toNat (by omega) (by omega)
  rw [Int.toNat_of_nonneg h0, ← hq] at h3
  exact h3
theorem rf_c0 {fh fc : Nat → Int32} (h : rf_c fh fc) (c : Int) (h0 : 0 ≤ c) (h1 : c < (fh 8).toInt) : 1 ≤ (fc (2 * c).toNat).toInt ∧ (fc (2 * c).toNat).toInt ≤ 9 ∧ 0 ≤ (fc (2 * c + 1).toNat).toInt ∧ (fc (2 * c + 1).toNat).toInt < (fc (2 * c).toNat).toInt := by
  have h2 := h 0 (by decide) c.toNat (by show ((c.toNat : Nat) : Int) < (fh 8).toInt; omega)
  have e1 : 2 * (12 * 0 + c.toNat) = (2 * c).toNat := by omega
  have e2 : 2 * (12 * 0 + c.toNat) + 1 = (2 * c + 1).toNat := by omega
  rw [e2, e1] at h2
  exact h2
abbrev ct_hp : List Int := [1, 100, 10000, 1000000, 100000000, 10000000000, 1000000000000, 100000000000000, 10000000000000000, 1000000000000000000]
theorem hp_step {x z : Int64} {k : Int} (h : x.toInt = ct_hp.getD k.toNat 0) (h0 : 0 ≤ k) (h1 : k < 9) (hz : z = x * 100) (j : Int) (hj : j = k + 1) : z.toInt = ct_hp.getD j.toNat 0 := by
  have hd : ∀ q : Nat, q < 9 → ct_hp.getD (q + 1) 0 = ct_hp.getD q 0 * 100 ∧ 0 ≤ ct_hp.getD q 0 * 100 ∧ ct_hp.getD q 0 * 100 ≤ 1000000000000000000 := by decide
  have h2 := hd k.toNat (by omega)
  have e : j.toNat = k.toNat + 1 := by omega
  rw [e, h2.1, hz, Int64.toInt_mul, h, show (100 : Int64).toInt = 100 from by decide]
  exact tl_sm (by omega)
theorem hp_pos {k : Int} (h0 : 0 ≤ k) (h1 : k ≤ 9) : 1 ≤ ct_hp.getD k.toNat 0 := by
  have hd : ∀ q : Nat, q < 10 → 1 ≤ ct_hp.getD q 0 := by decide
  exact hd k.toNat (by omega)
theorem bd_tr {a b c : Prop} (h1 : a ∨ b) (h2 : ¬ b ∨ c) : a ∨ c := h1.elim Or.inl (fun hb => h2.elim (fun h => absurd hb h) Or.inr)
theorem bd_tr2 {a b c q : Prop} (h1 : a ∨ (b ∧ q)) (h2 : ¬ b ∨ c) : a ∨ c := h1.elim Or.inl (fun hb => h2.elim (fun h => absurd hb.1 h) Or.inr)

