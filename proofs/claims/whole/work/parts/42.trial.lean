/-! the first program's text and trial -/
abbrev txW (T : Nat → ClassId) (y : Nat → Nat) (tx : Nat → Int32) (len : Nat) : va_W := [(y 4, .inr (3, [.ref (y 5), .int (nI len)])), (y 5, .inl (T 2, 60, .inl tx))]
abbrev trX (T : Nat → ClassId) (y : Nat → Nat) (w tx : Nat → Int32) (len : Nat) : va_W := [(y 0, .inr (4, [.ref (y 4), .ref (y 1), .ref (y 2), .ref (y 3), .int (w 0), .int (w 1), .int (w 2), .int (w 3)])), (y 4, .inr (3, [.ref (y 5), .int (nI len)])), (y 5, .inl (T 2, 60, .inl tx))]
abbrev isCh (x : Int32) : Prop := narrow .char (.int x) = .int x
theorem nar_ch {x : Int32} (h : isCh x) : vp_nar .char x = x := by
  unfold vp_nar
  rw [h]
theorem ch_0 : isCh 0 := by decide
def dI (x : Int32) : Int32 := if 48 ≤ x ∧ x ≤ 57 then nI (dg x) else -1
theorem dI_sub {x : Int32} (h : 48 ≤ x ∧ x ≤ 57) : x - 48 = nI (dg x) := by
  have := num1 (lo := 0) (dg_of h).2
  rw [show nI 0 = 0 from rfl, Int32.zero_add] at this
  exact this
theorem dI_pd (x : Int32) : (0 ≤ dI x ∧ dI x ≤ 3) ↔ pd4 x := by
  unfold dI
  by_cases h : 48 ≤ x ∧ x ≤ 57
  · have g := dg_of h
    rw [if_pos h]
    constructor
    · intro z
      have := (nI_leI (b := 3) (by omega) (by decide)).mp z.2
      refine ⟨h.1, ?_⟩
      rw [g.2]
      exact (nI_leI (b := 51) (by omega) (by decide)).mpr (by omega)
    · intro z
      have := pd_bd z
      exact ⟨nI_pos' (by omega), (nI_leI (b := 3) (by omega) (by decide)).mpr (by omega)⟩
  · rw [if_neg h]
    exact ⟨fun z => absurd z.1 (by decide), fun z => absurd ⟨z.1, Int32.le_trans z.2 (by decide)⟩ h⟩
theorem dI_pdv {x : Int32} (h : pd4 x) : dI x = nI (dg x) := if_pos ⟨h.1, Int32.le_trans h.2 (by decide)⟩
theorem dI_ok {c : Nat → Int32} {i lo : Nat} (hlo : lo ≤ 9) : ¬ dI (c i) < nI lo ↔ nOk c i lo := by
  unfold dI
  by_cases h : 48 ≤ c i ∧ c i ≤ 57
  · have g := dg_of h
    rw [if_pos h, Int32.not_lt, nI_leI (by omega) (by omega)]
    constructor
    · intro z
      refine ⟨?_, h.2⟩
      rw [g.2]
      exact (nI_leI (by omega) (by omega)).mpr (by omega)
    · intro z
      have := z.1
      rw [g.2] at this
      have := (nI_leI (by omega) (by omega)).mp this
      omega
  · rw [if_neg h]
    refine ⟨fun z => absurd (Int32.lt_of_lt_of_le (show (-1 : Int32) < 0 by decide) (nI_pos' (by omega))) z, fun z => absurd (dg_lo hlo z) h⟩
theorem dI_okv {c : Nat → Int32} {i lo : Nat} (hlo : lo ≤ 9) (h : nOk c i lo) : dI (c i) = nI (dg (c i)) := if_pos (dg_lo hlo h)
theorem dI_m1 {x : Int32} : ¬ dI x = -1 ↔ (48 ≤ x ∧ x ≤ 57) := by
  unfold dI
  by_cases h : 48 ≤ x ∧ x ≤ 57
  · have g := dg_of h
    rw [if_pos h]
    refine ⟨fun _ => h, fun _ z => ?_⟩
    have : (0 : Int32) ≤ nI (dg x) := nI_pos' (by omega)
    rw [z] at this
    exact absurd this (by decide)
  · rw [if_neg h]
    exact ⟨fun z => absurd rfl z, fun z => absurd z h⟩
theorem dI_v {x : Int32} (h : 48 ≤ x ∧ x ≤ 57) : dI x = nI (dg x) := if_pos h
