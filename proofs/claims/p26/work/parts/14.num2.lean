/-! the bounds stay: leaks, steps, the battery -/
theorem divL {a b : Int64} (ha : 0 ≤ a.toInt) (hb : 0 < b.toInt) : (a / b).toInt = a.toInt / b.toInt := by
  have h1 := Int.ediv_nonneg ha (Int.le_of_lt hb)
  have h2 := Int.ediv_le_self b.toInt ha
  have h3 := fb_rngL a
  rw [Int64.toInt_div, Int.tdiv_eq_ediv_of_nonneg ha, fb_bmodL (by omega) (by omega)]
theorem divI {a b : Int32} (ha : 0 ≤ a.toInt) (hb : 0 < b.toInt) : (a / b).toInt = a.toInt / b.toInt := by
  have h1 := Int.ediv_nonneg ha (Int.le_of_lt hb)
  have h2 := Int.ediv_le_self b.toInt ha
  have h3 := fb_rng a
  rw [Int32.toInt_div, Int.tdiv_eq_ediv_of_nonneg ha, fb_bmod (by omega) (by omega)]
theorem l_1000 : (1000 : Int64).toInt = 1000 := by decide
theorem i_1000 : (1000 : Int32).toInt = 1000 := by decide
theorem i_0 : (0 : Int32).toInt = 0 := by decide
theorem i_m1 : (-1 : Int32).toInt = -1 := by decide
theorem kLeak_int {P : Nat → Int32} {q : Int32} (hl : 0 ≤ (P 5).toInt ∧ (P 5).toInt ≤ 100) (hq : 0 ≤ q.toInt ∧ q.toInt ≤ 200000) : (kLeak P q).toInt = q.toInt * (P 5).toInt / 1000 ∧ 0 ≤ (kLeak P q).toInt ∧ (kLeak P q).toInt ≤ q.toInt := by
  have b := mul_bd hq.1 hq.2 hl.1 hl.2
  have b2 : q.toInt * (P 5).toInt ≤ q.toInt * 1000 := Int.mul_le_mul_of_nonneg_left (by omega) hq.1
  have e1 : (q.toInt64 * (P 5).toInt64).toInt = q.toInt * (P 5).toInt := by
    rw [fb_mulL (by rw [Int32.toInt_toInt64, Int32.toInt_toInt64]; omega) (by rw [Int32.toInt_toInt64, Int32.toInt_toInt64]; omega), Int32.toInt_toInt64, Int32.toInt_toInt64]
  have e2 : (q.toInt64 * (P 5).toInt64 / 1000).toInt = q.toInt * (P 5).toInt / 1000 := by
    rw [divL (by rw [e1]; omega) (by rw [l_1000]; omega), e1, l_1000]
  have e3 : (kLeak P q).toInt = q.toInt * (P 5).toInt / 1000 := by
    unfold kLeak
    rw [Int64.toInt_toInt32, e2, fb_bmod (by omega) (by omega)]
  exact ⟨e3, by rw [e3]; omega, by rw [e3]; omega⟩
/-- the first program's leak is taken in ints -/
theorem kLeak_cls {P : Nat → Int32} {q : Int32} (hl : 0 ≤ (P 5).toInt ∧ (P 5).toInt ≤ 100) (hq : 0 ≤ q.toInt ∧ q.toInt ≤ 200000) : q * P 5 / 1000 = kLeak P q := by
  have b := mul_bd hq.1 hq.2 hl.1 hl.2
  have e1 : (q * P 5).toInt = q.toInt * (P 5).toInt := fb_mulI (by omega) (by omega)
  rw [fa_eq, (kLeak_int hl hq).1, divI (by rw [e1]; omega) (by rw [i_1000]; omega), e1, i_1000]
theorem kOk_5 {P : Nat → Int32} (h : kOk P) : 0 ≤ (P 5).toInt ∧ (P 5).toInt ≤ 100 := h.2.2.2.2.2.1
theorem kOk_7 {P : Nat → Int32} (h : kOk P) : 0 ≤ (P 7).toInt ∧ (P 7).toInt ≤ 200000 := h.2.2.2.2.2.2.2.1
theorem kOk_8 {P : Nat → Int32} (h : kOk P) : 0 ≤ (P 8).toInt ∧ (P 8).toInt ≤ 30 := h.2.2.2.2.2.2.2.2.1
theorem kOk_9 {P : Nat → Int32} (h : kOk P) : P 9 = 0 ∨ P 9 = 1 := h.2.2.2.2.2.2.2.2.2
theorem kOk_4 {P : Nat → Int32} (h : kOk P) : 0 ≤ (P 4).toInt ∧ (P 4).toInt ≤ 9999 := h.2.2.2.2.1
theorem kOk_u7 {P : Nat → Int32} {x : Int32} (h : kOk P) (hx : 0 ≤ x.toInt ∧ x.toInt ≤ 200000) : kOk (upd P 7 x) := by
  obtain ⟨h0, h1, h2, h3, h4, h5, h6, h7, h8, h9⟩ := h
  exact ⟨h0, h1, h2, h3, h4, h5, h6, hx, h8, h9⟩
theorem kOk_u6 {P : Nat → Int32} {x : Int32} (h : kOk P) (hx : kDp x) : kOk (upd P 6 x) := by
  obtain ⟨h0, h1, h2, h3, h4, h5, h6, h7, h8, h9⟩ := h
  exact ⟨h0, h1, h2, h3, h4, h5, hx, h7, h8, h9⟩
theorem kOk_u9 {P : Nat → Int32} {x : Int32} (h : kOk P) (hx : x = 0 ∨ x = 1) : kOk (upd P 9 x) := by
  obtain ⟨h0, h1, h2, h3, h4, h5, h6, h7, h8, h9⟩ := h
  exact ⟨h0, h1, h2, h3, h4, h5, h6, h7, h8, hx⟩
theorem kOk_u8 {P : Nat → Int32} {x : Int32} (h : kOk P) (hx : 0 ≤ x.toInt ∧ x.toInt ≤ 30) : kOk (upd P 8 x) := by
  obtain ⟨h0, h1, h2, h3, h4, h5, h6, h7, h8, h9⟩ := h
  exact ⟨h0, h1, h2, h3, h4, h5, h6, h7, hx, h9⟩
theorem leakQ {P : Nat → Int32} (h : kOk P) {q : Int32} (hq : 0 ≤ q.toInt ∧ q.toInt ≤ 200000) : 0 ≤ (q - kLeak P q).toInt ∧ (q - kLeak P q).toInt ≤ 200000 := by
  obtain ⟨-, h1, h2⟩ := kLeak_int (kOk_5 h) hq
  rw [fb_subI (by omega) (by omega)]
  omega
theorem kOk_leak {P : Nat → Int32} (h : kOk P) : kOk (kLeakP P) := by
  unfold kLeakP
  split
  · exact h
  · exact kOk_u7 h (leakQ h (kOk_7 h))
theorem moveD {P : Nat → Int32} {d n : Int32} (hd : kDp d) : kDp (d + kMove P d n) := by
  unfold kDp at hd ⊢
  unfold kMove
  split
  · rw [Int32.add_zero]; exact hd
  · split
    · split
      · rename_i h
        rw [fa_lt, i_40] at h
        rw [fb_addI (by rw [i_1]; omega) (by rw [i_1]; omega), i_1]; omega
      · rw [Int32.add_zero]; exact hd
    · split
      · rename_i h
        rw [fa_lt, i_0] at h
        rw [fb_addI (by rw [i_m1]; omega) (by rw [i_m1]; omega), i_m1]; omega
      · rw [Int32.add_zero]; exact hd
theorem kOk_step {P : Nat → Int32} (h : kOk P) : kOk (kStepP P) := kOk_u6 h (moveD (kOk_d h))
theorem holdQ {P : Nat → Int32} (h : kOk P) : 0 ≤ (kCap P (P 6) * P 8).toInt ∧ (kCap P (P 6) * P 8).toInt ≤ 200000 := by
  obtain ⟨-, h1, h2⟩ := kCap_int h (kOk_d h)
  have h8 := kOk_8 h
  have b := mul_bd (a := (kCap P (P 6)).toInt) (b := (P 8).toInt) (A := 3240) (B := 30) (by omega) h2 h8.1 h8.2
  rw [fb_mulI (by omega) (by omega)]
  omega
theorem kOk_hold {P : Nat → Int32} (h : kOk P) : kOk (kHoldP P) := by
  unfold kHoldP
  split
  · exact kOk_u7 h (holdQ h)
  · exact h
theorem kOk_tick {P : Nat → Int32} (h : kOk P) : kOk (kTickP P) := kOk_hold (kOk_step (kOk_leak h))
theorem kOk_up {P : Nat → Nat → Int32} (h : ∀ p, p < 4 → kOk (P p)) {q : Nat} {V : Nat → Int32} (hV : kOk V) : ∀ p, p < 4 → kOk (va_up P q V p) := by
  intro p hp
  unfold va_up
  split
  · exact hV
  · exact h p hp
