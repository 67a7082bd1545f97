/-! numbers: facts out of the given laws, and the bounds of a pair -/
theorem fa_lt (a b : Int32) : a < b ↔ a.toInt < b.toInt := Int32.lt_iff_toInt_lt
theorem fa_le (a b : Int32) : a ≤ b ↔ a.toInt ≤ b.toInt := Int32.le_iff_toInt_le
theorem fa_eq (a b : Int32) : a = b ↔ a.toInt = b.toInt := Int32.toInt_inj.symm
theorem fa_lt64 (a b : Int64) : a < b ↔ a.toInt < b.toInt := Int64.lt_iff_toInt_lt
theorem fa_le64 (a b : Int64) : a ≤ b ↔ a.toInt ≤ b.toInt := Int64.le_iff_toInt_le
theorem fa_eq64 (a b : Int64) : a = b ↔ a.toInt = b.toInt := Int64.toInt_inj.symm
theorem fb_rng (x : Int32) : -2147483648 ≤ x.toInt ∧ x.toInt < 2147483648 := by
  have h1 := Int32.le_toInt x
  have h2 := Int32.toInt_lt x
  omega
theorem fb_bmod {z : Int} (h1 : -2147483648 ≤ z) (h2 : z < 2147483648) : z.bmod (2 ^ 32) = z := by
  rw [Int.bmod_eq_of_le (by omega) (by omega)]
theorem fb_addI {x y : Int32} (h1 : -2147483648 ≤ x.toInt + y.toInt) (h2 : x.toInt + y.toInt < 2147483648) : (x + y).toInt = x.toInt + y.toInt := by
  rw [Int32.toInt_add, fb_bmod h1 h2]
theorem fb_subI {x y : Int32} (h1 : -2147483648 ≤ x.toInt - y.toInt) (h2 : x.toInt - y.toInt < 2147483648) : (x - y).toInt = x.toInt - y.toInt := by
  rw [Int32.toInt_sub, fb_bmod h1 h2]
theorem fb_mulI {x y : Int32} (h1 : -2147483648 ≤ x.toInt * y.toInt) (h2 : x.toInt * y.toInt < 2147483648) : (x * y).toInt = x.toInt * y.toInt := by
  rw [Int32.toInt_mul, fb_bmod h1 h2]
theorem fb_negI {x : Int32} (h : x.toInt ≠ -2147483648) : (-x).toInt = -x.toInt := by
  have := fb_rng x
  rw [Int32.toInt_neg, fb_bmod (by omega) (by omega)]
theorem fb_rngL (x : Int64) : -9223372036854775808 ≤ x.toInt ∧ x.toInt < 9223372036854775808 := by
  have h1 := Int64.le_toInt x
  have h2 := Int64.toInt_lt x
  omega
theorem fb_bmodL {z : Int} (h1 : -9223372036854775808 ≤ z) (h2 : z < 9223372036854775808) : z.bmod (2 ^ 64) = z := by
  rw [Int.bmod_eq_of_le (by omega) (by omega)]
theorem fb_addL {x y : Int64} (h1 : -9223372036854775808 ≤ x.toInt + y.toInt) (h2 : x.toInt + y.toInt < 9223372036854775808) : (x + y).toInt = x.toInt + y.toInt := by
  rw [Int64.toInt_add, fb_bmodL h1 h2]
theorem fb_subL {x y : Int64} (h1 : -9223372036854775808 ≤ x.toInt - y.toInt) (h2 : x.toInt - y.toInt < 9223372036854775808) : (x - y).toInt = x.toInt - y.toInt := by
  rw [Int64.toInt_sub, fb_bmodL h1 h2]
theorem fb_mulL {x y : Int64} (h1 : -9223372036854775808 ≤ x.toInt * y.toInt) (h2 : x.toInt * y.toInt < 9223372036854775808) : (x * y).toInt = x.toInt * y.toInt := by
  rw [Int64.toInt_mul, fb_bmodL h1 h2]
theorem i_1 : (1 : Int32).toInt = 1 := by decide
theorem i_40 : (40 : Int32).toInt = 40 := by decide
theorem mul_lo {a b lo : Int} (ha : 0 ≤ a) (hb : lo ≤ b) (h1 : 1 ≤ a) (h0 : 0 ≤ lo) : lo ≤ a * b := by
  have : 1 * b ≤ a * b := Int.mul_le_mul_of_nonneg_right h1 (by omega)
  omega
theorem mul_bd {a b A B : Int} (h0 : 0 ≤ a) (h1 : a ≤ A) (g0 : 0 ≤ b) (g1 : b ≤ B) : 0 ≤ a * b ∧ a * b ≤ A * B :=
  ⟨Int.mul_nonneg h0 g0, Int.mul_le_mul h1 g1 g0 (by omega)⟩
/-- the bounds of a pair's numbers; of a depth -/
def kDp (d : Int32) : Prop := 0 ≤ d.toInt ∧ d.toInt ≤ 40
def kOk (P : Nat → Int32) : Prop := (1 ≤ (P 0).toInt ∧ (P 0).toInt ≤ 9) ∧ (1 ≤ (P 1).toInt ∧ (P 1).toInt ≤ 9) ∧ (0 ≤ (P 2).toInt ∧ (P 2).toInt ≤ 999) ∧ (0 ≤ (P 3).toInt ∧ (P 3).toInt ≤ 40) ∧ (0 ≤ (P 4).toInt ∧ (P 4).toInt ≤ 9999) ∧ (0 ≤ (P 5).toInt ∧ (P 5).toInt ≤ 100) ∧ kDp (P 6) ∧ (0 ≤ (P 7).toInt ∧ (P 7).toInt ≤ 200000) ∧ (0 ≤ (P 8).toInt ∧ (P 8).toInt ≤ 30) ∧ (P 9 = 0 ∨ P 9 = 1)
theorem kOk_d {P : Nat → Int32} (h : kOk P) : kDp (P 6) := h.2.2.2.2.2.2.1
theorem kCap_int {P : Nat → Int32} {d : Int32} (h : kOk P) (hd : kDp d) : (kCap P d).toInt = (P 0).toInt * (40 + ((P 1).toInt - 1) * d.toInt) ∧ 40 ≤ (kCap P d).toInt ∧ (kCap P d).toInt ≤ 3240 := by
  obtain ⟨h0, h1, -⟩ := h
  obtain ⟨d0, d1⟩ := hd
  have e1 : (P 1 - 1).toInt = (P 1).toInt - 1 := by
    rw [fb_subI (by rw [i_1]; omega) (by rw [i_1]; omega), i_1]
  have b1 := mul_bd (a := (P 1).toInt - 1) (b := d.toInt) (A := 8) (B := 40) (by omega) (by omega) d0 d1
  have e2 : ((P 1 - 1) * d).toInt = ((P 1).toInt - 1) * d.toInt := by
    rw [fb_mulI (by rw [e1]; omega) (by rw [e1]; omega), e1]
  have e3 : (40 + (P 1 - 1) * d).toInt = 40 + ((P 1).toInt - 1) * d.toInt := by
    rw [fb_addI (by rw [e2, i_40]; omega) (by rw [e2, i_40]; omega), e2, i_40]
  have b2 := mul_bd (a := (P 0).toInt) (b := 40 + ((P 1).toInt - 1) * d.toInt) (A := 9) (B := 360) (by omega) h0.2 (by omega) (by omega)
  have b3 := mul_lo (a := (P 0).toInt) (b := 40 + ((P 1).toInt - 1) * d.toInt) (lo := 40) (by omega) (by omega) h0.1 (by omega)
  have e4 : (kCap P d).toInt = (P 0).toInt * (40 + ((P 1).toInt - 1) * d.toInt) := by
    unfold kCap
    rw [fb_mulI (by rw [e3]; omega) (by rw [e3]; omega), e3]
  exact ⟨e4, by rw [e4]; exact b3, by rw [e4]; omega⟩
theorem l_0 : (0 : Int64).toInt = 0 := by decide
theorem kCap_ne {P : Nat → Int32} {d : Int32} (h : kOk P) (hd : kDp d) : ¬ (kCap P d).toInt64 = 0 := by
  obtain ⟨-, h2, h3⟩ := kCap_int h hd
  intro e
  have := congrArg Int64.toInt e
  rw [Int32.toInt_toInt64, l_0] at this
  omega
theorem kCap_nn {P : Nat → Int32} {d : Int32} (h : kOk P) (hd : kDp d) : ¬ (kCap P d).toInt64 * (kCap P d).toInt64 = 0 := by
  obtain ⟨-, h2, h3⟩ := kCap_int h hd
  intro e
  have := congrArg Int64.toInt e
  have b := mul_bd (a := (kCap P d).toInt) (b := (kCap P d).toInt) (A := 3240) (B := 3240) (by omega) h3 (by omega) h3
  have c := mul_lo (a := (kCap P d).toInt) (b := (kCap P d).toInt) (lo := 40) (by omega) h2 (by omega) (by omega)
  rw [fb_mulL (by rw [Int32.toInt_toInt64]; omega) (by rw [Int32.toInt_toInt64]; omega), Int32.toInt_toInt64, l_0] at this
  omega
def kWhy (P : Nat → Int32) : Int32 := if 0 < kMove P (P 6) (kNet P) then 0 else if kMove P (P 6) (kNet P) < 0 then 1 else if kNet P = 0 then 2 else if kSize (kNet P) ≤ P 4 then 3 else 4
