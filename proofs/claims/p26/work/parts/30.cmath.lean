/-! what the first program computes otherwise -/
theorem abs_size (x : Int32) : (if 0 ≤ x then x else 0 - x) = kSize x := by
  unfold kSize
  by_cases h : x < 0
  · rw [if_pos h, if_neg (Int32.not_le.mpr h), Int32.zero_sub]
  · rw [if_neg h, if_pos (Int32.not_lt.mp h)]
theorem kCap_1 {P : Nat → Int32} {d : Int32} (h : kOk P) (hd : kDp d) : (1 : Int64) ≤ (kCap P d).toInt64 := by
  have := (kCap_int h hd).2
  rw [fa_le64, Int32.toInt_toInt64]
  have e : (1 : Int64).toInt = 1 := by decide
  omega
theorem on_of {V : Nat → Int32} (h : kOk V) (c : ¬ V 9 = 0) : V 9 = 1 := (kOk_9 h).resolve_left c
theorem off_of {V : Nat → Int32} (c : V 9 = 0) : ¬ V 9 = 1 := by
  rw [c]; decide
theorem i_40' : (40 : Int32).toInt = 40 := by decide
/-- moving in, said at once -/
theorem kIn_iff {V : Nat → Int32} (h : kOk V) {d n : Int32} : kMove V d n = 1 ↔ d < 40 ∧ V 4 < n := by
  have h4 := kOk_4 h
  have hs : V 4 < n ↔ (¬ kSize n ≤ V 4 ∧ 0 < n) := by
    unfold kSize
    have e0 := i_0
    by_cases c : n < 0
    · rw [if_pos c]
      rw [fa_lt] at c
      constructor
      · intro z
        rw [fa_lt] at z
        omega
      · intro z
        have := z.2
        rw [fa_lt] at this
        omega
    · rw [if_neg c]
      rw [fa_lt] at c
      rw [Int32.not_le]
      constructor
      · intro z
        refine ⟨z, ?_⟩
        rw [fa_lt] at z ⊢
        omega
      · exact fun z => z.1
  unfold kMove
  by_cases c1 : kSize n ≤ V 4
  · rw [if_pos c1]
    exact ⟨fun z => absurd z (by decide), fun z => absurd c1 (hs.mp z.2).1⟩
  · rw [if_neg c1]
    by_cases c2 : 0 < n
    · rw [if_pos c2]
      by_cases c3 : d < 40
      · rw [if_pos c3]
        exact ⟨fun _ => ⟨c3, hs.mpr ⟨c1, c2⟩⟩, fun _ => rfl⟩
      · rw [if_neg c3]
        exact ⟨fun z => absurd z (by decide), fun z => absurd z.1 c3⟩
    · rw [if_neg c2]
      refine ⟨fun z => ?_, fun z => absurd (hs.mp z.2).2 c2⟩
      exfalso
      split at z
      · exact absurd z (by decide)
      · exact absurd z (by decide)
theorem kMove_3 (V : Nat → Int32) (d n : Int32) : (kMove V d n = 0) ∨ (kMove V d n = 1 ∧ 0 < n) ∨ (kMove V d n = -1 ∧ ¬ 0 < n) := by
  unfold kMove
  by_cases c1 : kSize n ≤ V 4
  · exact Or.inl (if_pos c1)
  · rw [if_neg c1]
    by_cases c2 : 0 < n
    · rw [if_pos c2]
      by_cases c3 : d < 40
      · exact Or.inr (Or.inl ⟨if_pos c3, c2⟩)
      · exact Or.inl (if_neg c3)
    · rw [if_neg c2]
      by_cases c3 : 0 < d
      · exact Or.inr (Or.inr ⟨if_pos c3, c2⟩)
      · exact Or.inl (if_neg c3)
theorem kWhy_in {V : Nat → Int32} (h : ¬ kMove V (V 6) (kNet V) = 0) (c : 0 < kNet V) : kWhy V = 0 := by
  rcases kMove_3 V (V 6) (kNet V) with q | q | q
  · exact absurd q h
  · rw [kWhy, q.1, if_pos (by decide)]
  · exact absurd c q.2
theorem kWhy_out {V : Nat → Int32} (h : ¬ kMove V (V 6) (kNet V) = 0) (c : ¬ 0 < kNet V) : kWhy V = 1 := by
  rcases kMove_3 V (V 6) (kNet V) with q | q | q
  · exact absurd q h
  · exact absurd q.2 c
  · rw [kWhy, q.1, if_neg (by decide), if_pos (by decide)]
theorem kWhy_no {V : Nat → Int32} (h : kMove V (V 6) (kNet V) = 0) : kWhy V = if kNet V = 0 then 2 else if kSize (kNet V) ≤ V 4 then 3 else 4 := by
  rw [kWhy, h, if_neg (by decide), if_neg (by decide)]
theorem lt6 {x : Int32} : (0 ≤ x ∧ x ≤ 5) ↔ (0 ≤ x ∧ ¬ 6 ≤ x) := by
  rw [fa_le, fa_le, fa_le, i_0, show (5 : Int32).toInt = 5 by decide, show (6 : Int32).toInt = 6 by decide]
  omega
theorem lt4 {x : Int32} : (0 ≤ x ∧ x ≤ 3) ↔ (0 ≤ x ∧ ¬ 4 ≤ x) := by
  rw [fa_le, fa_le, fa_le, i_0, show (3 : Int32).toInt = 3 by decide, show (4 : Int32).toInt = 4 by decide]
  omega
