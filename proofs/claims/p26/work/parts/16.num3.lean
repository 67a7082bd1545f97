/-! sharing: the bounds -/
theorem i_200 : (200000 : Int32).toInt = 200000 := by decide
theorem capsum {V U : Nat → Int32} (hV : kOk V) (hU : kOk U) : (kCap V (V 6) + kCap U (U 6)).toInt = (kCap V (V 6)).toInt + (kCap U (U 6)).toInt := by
  obtain ⟨-, a1, a2⟩ := kCap_int hV (kOk_d hV)
  obtain ⟨-, b1, b2⟩ := kCap_int hU (kOk_d hU)
  exact fb_addI (by omega) (by omega)
theorem kCap_ne2 {V U : Nat → Int32} (hV : kOk V) (hU : kOk U) : ¬ (kCap V (V 6) + kCap U (U 6)).toInt64 = 0 := by
  obtain ⟨-, a1, a2⟩ := kCap_int hV (kOk_d hV)
  obtain ⟨-, b1, b2⟩ := kCap_int hU (kOk_d hU)
  intro e
  have := congrArg Int64.toInt e
  rw [Int32.toInt_toInt64, l_0, capsum hV hU] at this
  omega
theorem allsum {V U : Nat → Int32} (hV : kOk V) (hU : kOk U) : (V 7 + U 7).toInt = (V 7).toInt + (U 7).toInt := by
  have h1 := kOk_7 hV
  have h2 := kOk_7 hU
  exact fb_addI (by omega) (by omega)
theorem i_l_i (x : Int32) : x.toInt64.toInt32 = x := by
  have h := fb_rng x
  rw [fa_eq, Int64.toInt_toInt32, Int32.toInt_toInt64, fb_bmod h.1 h.2]
theorem share_bd {x cv cu : Int} (hx : 0 ≤ x) (h1 : 40 ≤ cv) (h2 : 40 ≤ cu) : 0 ≤ x * cv / (cv + cu) ∧ x * cv / (cv + cu) ≤ x := by
  have hle : x * cv ≤ x * (cv + cu) := Int.mul_le_mul_of_nonneg_left (by omega) hx
  refine ⟨Int.ediv_nonneg (Int.mul_nonneg hx (by omega)) (by omega), ?_⟩
  have := Int.ediv_le_ediv (show 0 < cv + cu by omega) hle
  rw [Int.mul_ediv_cancel _ (by omega)] at this
  exact this
theorem kMine_int {V U : Nat → Int32} (hV : kOk V) (hU : kOk U) : (kMine V U).toInt = ((V 7).toInt + (U 7).toInt) * (kCap V (V 6)).toInt / ((kCap V (V 6)).toInt + (kCap U (U 6)).toInt) ∧ 0 ≤ (kMine V U).toInt ∧ (kMine V U).toInt ≤ (V 7).toInt + (U 7).toInt := by
  obtain ⟨-, a1, a2⟩ := kCap_int hV (kOk_d hV)
  obtain ⟨-, b1, b2⟩ := kCap_int hU (kOk_d hU)
  have h1 := kOk_7 hV
  have h2 := kOk_7 hU
  have b := mul_bd (a := (V 7).toInt + (U 7).toInt) (b := (kCap V (V 6)).toInt) (A := 400000) (B := 3240) (by omega) (by omega) (by omega) a2
  have d := share_bd (x := (V 7).toInt + (U 7).toInt) (by omega) a1 b1
  have e1 : ((V 7 + U 7).toInt64 * (kCap V (V 6)).toInt64).toInt = ((V 7).toInt + (U 7).toInt) * (kCap V (V 6)).toInt := by
    rw [fb_mulL (by rw [Int32.toInt_toInt64, Int32.toInt_toInt64, allsum hV hU]; omega) (by rw [Int32.toInt_toInt64, Int32.toInt_toInt64, allsum hV hU]; omega), Int32.toInt_toInt64, Int32.toInt_toInt64, allsum hV hU]
  have e2 : ((V 7 + U 7).toInt64 * (kCap V (V 6)).toInt64 / (kCap V (V 6) + kCap U (U 6)).toInt64).toInt = ((V 7).toInt + (U 7).toInt) * (kCap V (V 6)).toInt / ((kCap V (V 6)).toInt + (kCap U (U 6)).toInt) := by
    rw [divL (by rw [e1]; omega) (by rw [Int32.toInt_toInt64, capsum hV hU]; omega), e1, Int32.toInt_toInt64, capsum hV hU]
  have e3 : (kMine V U).toInt = ((V 7).toInt + (U 7).toInt) * (kCap V (V 6)).toInt / ((kCap V (V 6)).toInt + (kCap U (U 6)).toInt) := by
    unfold kMine
    rw [Int64.toInt_toInt32, e2, fb_bmod (by omega) (by omega)]
  exact ⟨e3, by rw [e3]; exact d.1, by rw [e3]; exact d.2⟩
theorem kMine_bd {V U : Nat → Int32} (hV : kOk V) (hU : kOk U) (h : ¬ (200000 < kMine V U ∨ 200000 < kRest V U)) : 0 ≤ (kMine V U).toInt ∧ (kMine V U).toInt ≤ 200000 := by
  obtain ⟨-, a, -⟩ := kMine_int hV hU
  have := Int32.not_lt.mp (fun z => h (Or.inl z))
  rw [fa_le] at this
  exact ⟨a, by rw [i_200] at this; exact this⟩
theorem kRest_bd {V U : Nat → Int32} (hV : kOk V) (hU : kOk U) (h : ¬ (200000 < kMine V U ∨ 200000 < kRest V U)) : 0 ≤ (kRest V U).toInt ∧ (kRest V U).toInt ≤ 200000 := by
  obtain ⟨-, a, b⟩ := kMine_int hV hU
  have h1 := kOk_7 hV
  have h2 := kOk_7 hU
  have e : (kRest V U).toInt = (V 7).toInt + (U 7).toInt - (kMine V U).toInt := by
    unfold kRest
    rw [i_l_i, fb_subI (by rw [allsum hV hU]; omega) (by rw [allsum hV hU]; omega), allsum hV hU]
  have := Int32.not_lt.mp (fun z => h (Or.inr z))
  rw [fa_le] at this
  exact ⟨by rw [e]; omega, by rw [i_200] at this; exact this⟩
