/-! numbers and things as the first program reads them -/
theorem num4 {a b : Nat} : nI a * 10 + nI b = nI (10 * a + b) := by
  rw [show (10 : Int32) = nI 10 from rfl, pk_mul, nI_add, Nat.mul_comm]
theorem nW_t {c : Nat → Int32} {i hi : Nat} (h0 : 0 < dg (c i)) (h1 : 48 ≤ c (i + 1) ∧ c (i + 1) ≤ 57) (h2 : 10 * dg (c i) + dg (c (i + 1)) ≤ hi) : nW c i hi = 10 * dg (c i) + dg (c (i + 1)) ∧ nJ c i hi = i + 2 := ⟨if_pos ⟨h0, h1, h2⟩, if_pos ⟨h0, h1, h2⟩⟩
theorem nW_f {c : Nat → Int32} {i hi : Nat} (h : ¬ (0 < dg (c i) ∧ (48 ≤ c (i + 1) ∧ c (i + 1) ≤ 57) ∧ 10 * dg (c i) + dg (c (i + 1)) ≤ hi)) : nW c i hi = dg (c i) ∧ nJ c i hi = i + 1 := ⟨if_neg h, if_neg h⟩
def cA (c : Nat → Int32) (i : Nat) : Nat := if c i = 46 then 0 else tA c i
def cW (c : Nat → Int32) (i : Nat) : Nat := if c i = 46 then tA c i else tW c i
theorem cA_46 {c : Nat → Int32} {i : Nat} (h : c i = 46) : cA c i = 0 ∧ cW c i = tA c i := ⟨if_pos h, if_pos h⟩
theorem cA_n {c : Nat → Int32} {i : Nat} (h : ¬ c i = 46) : cA c i = tA c i ∧ cW c i = tW c i := ⟨if_neg h, if_neg h⟩
