/-! the first program's text and trial -/
abbrev txW (T : Nat → ClassId) (y : Nat → Nat) (tx : Nat → Int32) (len : Nat) : va_W := [(y 4, .inr (3, [.ref (y 5), .int (nI len)])), (y 5, .inl (T 2, 60, .inl tx))]
abbrev trX (T : Nat → ClassId) (y : Nat → Nat) (w tx : Nat → Int32) (len : Nat) : va_W := [(y 0, .inr (4, [.ref (y 4), .ref (y 1), .ref (y 2), .ref (y 3), .int (w 0), .int (w 1), .int (w 2), .int (w 3)])), (y 4, .inr (3, [.ref (y 5), .int (nI len)])), (y 5, .inl (T 2, 60, .inl tx))]
abbrev isCh (x : Int32) : Prop := narrow .char (.int x) = .int x
theorem nar_ch {x : Int32} (h : isCh x) : vp_nar .char x = x := by
  unfold vp_nar
  rw [h]
theorem ch_0 : isCh 0 := by decide
