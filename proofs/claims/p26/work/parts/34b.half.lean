/-! halving to the floor; how much a pair stores -/
theorem l_2 : (2 : Int64).toInt = 2 := by decide
theorem l_1 : (1 : Int64).toInt = 1 := by decide
theorem xor2 (x : Int64) : 0 ≤ x ^^^ 2 ↔ 0 ≤ x := by
  have key : ∀ y : Int64, (0 ≤ y ↔ ¬ y.toBitVec.msb = true) := by
    intro y
    rw [BitVec.msb_eq_toInt, decide_eq_true_eq, fa_le64, l_0]
    show (0 ≤ y.toInt) ↔ ¬ (y.toInt < 0)
    omega
  rw [key, key, Int64.toBitVec_xor, BitVec.msb_xor]
  have : (2 : Int64).toBitVec.msb = false := by decide
  rw [this, Bool.xor_false]
theorem div2_int (x : Int64) : (x / 2).toInt = x.toInt.tdiv 2 := by
  have h := Int64.toInt_div x 2
  rw [l_2] at h
  rw [h]
  have r := fb_rngL x
  have h1 : x.toInt.tdiv 2 = if 0 ≤ x.toInt then x.toInt / 2 else -((-x.toInt) / 2) := by
    by_cases c : 0 ≤ x.toInt
    · rw [if_pos c, Int.tdiv_eq_ediv_of_nonneg c]
    · rw [if_neg c]
      have e := Int.neg_tdiv (a := -x.toInt) (b := 2)
      rw [Int.neg_neg] at e
      rw [e, Int.tdiv_eq_ediv_of_nonneg (by omega)]
  rw [fb_bmodL]
  · rw [h1]; split <;> omega
  · rw [h1]; split <;> omega
theorem tdiv2_neg {z : Int} (h : z < 0) : z.tdiv 2 = -((-z) / 2) := by
  have e := Int.neg_tdiv (a := -z) (b := 2)
  rw [Int.neg_neg] at e
  rw [e, Int.tdiv_eq_ediv_of_nonneg (by omega)]
theorem neg_intL {x : Int64} (h : x.toInt ≠ -9223372036854775808) : (-x).toInt = -x.toInt := by
  rw [Int64.toInt_neg]
  have := fb_rngL x
  exact fb_bmodL (by omega) (by omega)
theorem kHalf_neg {x : Int64} (h : x < 0) (hb : -4611686018427387904 ≤ x.toInt) : (kHalf x).toInt = -((1 - x.toInt) / 2) := by
  rw [kHalf, if_pos h]
  rw [fa_lt64, l_0] at h
  have h1 : (1 - x).toInt = 1 - x.toInt := by rw [fb_subL] <;> rw [l_1] <;> omega
  have h2 : ((1 - x) / 2).toInt = (1 - x.toInt) / 2 := by
    rw [divL (by omega) (by rw [l_2]; omega), h1, l_2]
  rw [neg_intL (by rw [h2]; omega), h2]
theorem half_even {x : Int64} (h : x < 0) (hb : -4611686018427387904 ≤ x.toInt) (e : x / 2 * 2 = x) : x / 2 = kHalf x := by
  have h0 := h
  rw [fa_lt64, l_0] at h0
  rw [fa_eq64, kHalf_neg h hb]
  have d := div2_int x
  rw [tdiv2_neg h0] at d
  rw [fa_eq64, fb_mulL (by rw [d, l_2]; omega) (by rw [d, l_2]; omega), d, l_2] at e
  rw [d]
  omega
theorem half_odd {x : Int64} (h : x < 0) (hb : -4611686018427387904 ≤ x.toInt) (e : ¬ x / 2 * 2 = x) : x / 2 - 1 = kHalf x := by
  have h0 := h
  rw [fa_lt64, l_0] at h0
  have d := div2_int x
  rw [tdiv2_neg h0] at d
  rw [fa_eq64, fb_mulL (by rw [d, l_2]; omega) (by rw [d, l_2]; omega), d, l_2] at e
  rw [fa_eq64, kHalf_neg h hb, fb_subL (by rw [d, l_1]; omega) (by rw [d, l_1]; omega), d, l_1]
  omega
theorem kStored_bd {P : Nat → Int32} (h : kOk P) : 0 ≤ (kStored P).toInt ∧ (kStored P).toInt ≤ 40000000000 := by
  have h7 := kOk_7 h
  have h8 := kOk_8 h
  have e7 : ((P 7).toInt64).toInt = (P 7).toInt := Int32.toInt_toInt64 _
  have e8 : ((P 8).toInt64).toInt = (P 8).toInt := Int32.toInt_toInt64 _
  have m1 := mul_bd h8.1 h8.2 h7.1 h7.2
  have m2 := mul_bd h7.1 h7.2 h7.1 h7.2
  unfold kStored
  split
  · rw [fb_mulL (by rw [e7, e8]; omega) (by rw [e7, e8]; omega), e7, e8]
    omega
  · have hc := (kCap_int h (kOk_d h)).2
    have ec : ((kCap P (P 6)).toInt64).toInt = (kCap P (P 6)).toInt := Int32.toInt_toInt64 _
    have e2 : ((P 7).toInt64 * (P 7).toInt64).toInt = (P 7).toInt * (P 7).toInt := by
      rw [fb_mulL (by rw [e7]; omega) (by rw [e7]; omega), e7]
    rw [divL (by rw [e2]; omega) (by rw [ec]; omega), e2, ec]
    refine ⟨Int.ediv_nonneg m2.1 (by omega), ?_⟩
    refine Int.le_trans (Int.ediv_le_self _ m2.1) ?_
    omega
theorem loss_bd {P Q V U : Nat → Int32} (hP : kOk P) (hQ : kOk Q) (hV : kOk V) (hU : kOk U) : -4611686018427387904 ≤ (kStored P + kStored Q - kStored V - kStored U).toInt := by
  have a := kStored_bd hP
  have b := kStored_bd hQ
  have c := kStored_bd hV
  have d := kStored_bd hU
  have e1 : (kStored P + kStored Q).toInt = (kStored P).toInt + (kStored Q).toInt := fb_addL (by omega) (by omega)
  have e2 : (kStored P + kStored Q - kStored V).toInt = (kStored P).toInt + (kStored Q).toInt - (kStored V).toInt := by rw [fb_subL (by omega) (by omega), e1]
  rw [fb_subL (by omega) (by omega), e2]
  omega
theorem i2l_add2 {x y : Int32} : True := trivial
