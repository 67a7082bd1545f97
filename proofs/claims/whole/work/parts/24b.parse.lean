/-! the text as a trial: its signs, a number, a thing -/
def tch (tx : Nat → Int32) (len i : Nat) : Int32 := if i < len then tx i else 0
theorem tch_in {tx : Nat → Int32} {len i : Nat} (h : i < len) : tch tx len i = tx i := if_pos h
theorem tch_out {tx : Nat → Int32} {len i : Nat} (h : ¬ i < len) : tch tx len i = 0 := if_neg h
def dg (x : Int32) : Nat := x.toNatClampNeg - 48
def isDg (x : Int32) : Prop := 48 ≤ x ∧ x ≤ 57
def isPd (x : Int32) : Prop := 48 ≤ x ∧ x ≤ 51
/-- the second digit is taken -/
def pTwo (c : Nat → Int32) (i hi : Nat) : Prop := 0 < dg (c i) ∧ (48 ≤ c (i + 1) ∧ c (i + 1) ≤ 57) ∧ 10 * dg (c i) + dg (c (i + 1)) ≤ hi
/-- a number from lo on, up to hi, at i: its value and the place behind it -/
def pNum (c : Nat → Int32) (i lo hi : Nat) (v j : Nat) : Prop := (nI (48 + lo) ≤ c i ∧ c i ≤ 57) ∧ ((pTwo c i hi ∧ v = 10 * dg (c i) + dg (c (i + 1)) ∧ j = i + 2) ∨ (¬ pTwo c i hi ∧ v = dg (c i) ∧ j = i + 1))
def pNo (c : Nat → Int32) (i lo : Nat) : Prop := ¬ (nI (48 + lo) ≤ c i ∧ c i ≤ 57)
/-- what stays while the text is read -/
def vR (v u : Nat → Int32) : Prop := ∀ k, k ≠ 5 → k ≠ 6 → u k = v k
theorem vR_rf (v : Nat → Int32) : vR v v := fun _ _ _ => rfl
theorem vR_tr {v u w : Nat → Int32} (h : vR v u) (g : vR u w) : vR v w := fun k h1 h2 => (g k h1 h2).trans (h k h1 h2)
theorem vR_up (v : Nat → Int32) (x y : Int32) : vR v (upd (upd v 6 x) 5 y) := fun k h1 h2 => by rw [upd_n h1, upd_n h2]
/-- a character of a range is taken -/
def tkP (c : Int32) (v u : Nat → Int32) (i : Nat) (lo hi : Int32) : Prop := vR v u ∧ (((v 6 = 0 ∧ lo ≤ c ∧ c ≤ hi) ∧ u 6 = 0 ∧ u 5 = nI (i + 1)) ∨ (¬ (v 6 = 0 ∧ lo ≤ c ∧ c ≤ hi) ∧ u 6 = 1 ∧ u 5 = nI i))
/-- a number is taken -/
def nmP (c : Nat → Int32) (v u : Nat → Int32) (r : Int32) (i lo hi : Nat) : Prop := vR v u ∧ ((∃ w j, v 6 = 0 ∧ pNum c i lo hi w j ∧ r = nI w ∧ u 6 = 0 ∧ u 5 = nI j) ∨ (¬ (v 6 = 0 ∧ nI (48 + lo) ≤ c i ∧ c i ≤ 57) ∧ u 6 = 1 ∧ u 5 = nI i))
abbrev moX (T : Nat → ClassId) (b : Nat → Nat) (v : Nat → Int32) (tx : Nat → Int32) : va_W := [(b 0, .inr (6, moF b v)), (b 9, .inl (T 0, 60, .inl tx))]
theorem dg_of {x : Int32} (h : 48 ≤ x ∧ x ≤ 57) : dg x ≤ 9 ∧ x = nI (48 + dg x) := by
  obtain ⟨j, hj, rfl⟩ := nI_of (Int32.not_lt.mpr (Int32.le_trans (show (0 : Int32) ≤ 48 by decide) h.1))
  have h1 := (nI_leI (a := 48) (by decide) hj).mp h.1
  have h2 := (nI_leI (b := 57) hj (by decide)).mp h.2
  unfold dg
  rw [nI_clamp hj]
  refine ⟨by omega, ?_⟩
  rw [show 48 + (j - 48) = j by omega]
theorem dg_lo {x : Int32} {lo : Nat} (hl : lo ≤ 9) (h : nI (48 + lo) ≤ x ∧ x ≤ 57) : 48 ≤ x ∧ x ≤ 57 := ⟨Int32.le_trans ((nI_leI (a := 48) (b := 48 + lo) (by decide) (by omega)).mpr (by omega)) h.1, h.2⟩
theorem tch_pos {tx : Nat → Int32} {len i : Nat} (h : 48 ≤ tch tx len i) : i < len := by
  rcases Nat.lt_or_ge i len with q | q
  · exact q
  · rw [tch_out (by omega)] at h
    exact absurd h (by decide)
theorem tch_pos1 {tx : Nat → Int32} {len i : Nat} {c : Int32} (hc : 0 < c) (h : c ≤ tch tx len i) : i < len := by
  rcases Nat.lt_or_ge i len with q | q
  · exact q
  · rw [tch_out (by omega)] at h
    exact absurd hc (Int32.not_lt.mpr h)
theorem num1 {x : Int32} {lo : Nat} (h : x = nI (48 + dg x)) : nI lo + (x - nI (48 + lo)) = nI (dg x) := by
  have e : x - nI (48 + lo) = nI (dg x) - nI lo := by
    rw [Int32.sub_eq_iff_eq_add, Int32.sub_eq_add_neg, Int32.add_assoc, ← nI_add 48 lo, Int32.add_comm (nI 48), ← Int32.add_assoc (-nI lo), Int32.add_comm (-nI lo), ← Int32.sub_eq_add_neg, Int32.sub_self, Int32.zero_add, nI_add, Nat.add_comm]
    exact h
  rw [e, Int32.add_comm, Int32.sub_add_cancel]
theorem num2 {x : Int32} {d : Nat} (h : x = nI (48 + dg x)) : 10 * nI d + x - 48 = nI (10 * d + dg x) := by
  generalize dg x = e at h
  subst h
  rw [show (10 : Int32) = nI 10 from rfl, pk_mul, nI_add, show 10 * d + (48 + e) = 48 + (10 * d + e) by omega]
  have := pk_sub (a := 48 + (10 * d + e)) (b := 48) (by omega)
  rw [show (48 : Int32) = nI 48 from rfl, this, show 48 + (10 * d + e) - 48 = 10 * d + e by omega]
theorem num3 {x : Int32} {d : Nat} (h : x = nI (48 + dg x)) : 10 * nI d + (x - 48) = nI (10 * d + dg x) := by
  rw [← num2 h, Int32.sub_eq_add_neg, Int32.sub_eq_add_neg, Int32.add_assoc]
theorem two_big {w hi : Nat} {x : Int32} (h1 : 10 ≤ w) (h2 : w ≤ 99) (hx : 48 ≤ x ∧ x ≤ 57) (hh : hi ≤ 99) : nI hi < 10 * nI w + x - 48 := by
  obtain ⟨a, b⟩ := dg_of hx
  rw [num2 b]
  exact (nI_ltI (by omega) (by omega)).mpr (by omega)
