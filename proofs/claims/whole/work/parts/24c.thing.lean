/-! a thing of the text: what stands at a place -/
abbrev nOk (c : Nat → Int32) (i lo : Nat) : Prop := nI (48 + lo) ≤ c i ∧ c i ≤ 57
abbrev pd4 (x : Int32) : Prop := 48 ≤ x ∧ x ≤ 51
def nW (c : Nat → Int32) (i hi : Nat) : Nat := if 0 < dg (c i) ∧ (48 ≤ c (i + 1) ∧ c (i + 1) ≤ 57) ∧ 10 * dg (c i) + dg (c (i + 1)) ≤ hi then 10 * dg (c i) + dg (c (i + 1)) else dg (c i)
def nJ (c : Nat → Int32) (i hi : Nat) : Nat := if 0 < dg (c i) ∧ (48 ≤ c (i + 1) ∧ c (i + 1) ≤ 57) ∧ 10 * dg (c i) + dg (c (i + 1)) ≤ hi then i + 2 else i + 1
theorem num_fn {c : Nat → Int32} {i lo hi w j : Nat} (h : pNum c i lo hi w j) : nOk c i lo ∧ w = nW c i hi ∧ j = nJ c i hi := by
  obtain ⟨h1, ⟨h2, h3, h4⟩ | ⟨h2, h3, h4⟩⟩ := h
  · exact ⟨h1, by rw [h3]; exact (if_pos h2).symm, by rw [h4]; exact (if_pos h2).symm⟩
  · exact ⟨h1, by rw [h3]; exact (if_neg h2).symm, by rw [h4]; exact (if_neg h2).symm⟩
abbrev tOk (c : Nat → Int32) (i : Nat) : Prop := (c i = 46 ∧ nOk c (i + 1) 1) ∨ (c i = 111 ∧ pd4 (c (i + 1))) ∨ (c i = 99 ∧ pd4 (c (i + 1)) ∧ pd4 (c (i + 2))) ∨ ((c i = 98 ∨ c i = 100) ∧ pd4 (c (i + 1)) ∧ c (i + 2) = 61 ∧ nOk c (i + 3) 0)
def tHi (x : Int32) : Nat := if x = 98 then 30 else 40
def tA (c : Nat → Int32) (i : Nat) : Nat := if c i = 46 then nW c (i + 1) 99 else dg (c (i + 1))
def tW (c : Nat → Int32) (i : Nat) : Nat := if c i = 99 then dg (c (i + 2)) else if c i = 98 ∨ c i = 100 then nW c (i + 3) (tHi (c i)) else 0
def tJ (c : Nat → Int32) (i : Nat) : Nat :=
  if c i = 46 then (if nOk c (i + 1) 1 then nJ c (i + 1) 99 else i + 1)
  else if c i = 111 then (if pd4 (c (i + 1)) then i + 2 else i + 1)
  else if c i = 99 then (if pd4 (c (i + 1)) then (if pd4 (c (i + 2)) then i + 3 else i + 2) else i + 1)
  else if c i = 98 ∨ c i = 100 then (if pd4 (c (i + 1)) then (if c (i + 2) = 61 then (if nOk c (i + 3) 0 then nJ c (i + 3) (tHi (c i)) else i + 3) else i + 2) else i + 1)
  else i
section THING
variable {c : Nat → Int32} {i : Nat}
theorem th_o1 (h : c i = 111) (g : pd4 (c (i + 1))) : tOk c i ∧ tA c i = dg (c (i + 1)) ∧ tW c i = 0 ∧ tJ c i = i + 2 := by
  refine ⟨Or.inr (Or.inl ⟨h, g⟩), ?_, ?_, ?_⟩
  · rw [tA, h, if_neg (by decide)]
  · rw [tW, h, if_neg (by decide), if_neg (by decide)]
  · rw [tJ, h, if_neg (by decide), if_pos rfl, if_pos g]
theorem th_o0 (h : c i = 111) (g : ¬ pd4 (c (i + 1))) : ¬ tOk c i ∧ tJ c i = i + 1 := by
  refine ⟨?_, ?_⟩
  · rintro (⟨z, -⟩ | ⟨-, z⟩ | ⟨z, -⟩ | ⟨z, -⟩)
    · rw [h] at z; exact absurd z (by decide)
    · exact g z
    · rw [h] at z; exact absurd z (by decide)
    · rw [h] at z; exact absurd z (by decide)
  · rw [tJ, h, if_neg (by decide), if_pos rfl, if_neg g]
theorem th_c1 (h : c i = 99) (g : pd4 (c (i + 1))) (g2 : pd4 (c (i + 2))) : tOk c i ∧ tA c i = dg (c (i + 1)) ∧ tW c i = dg (c (i + 2)) ∧ tJ c i = i + 3 := by
  refine ⟨Or.inr (Or.inr (Or.inl ⟨h, g, g2⟩)), ?_, ?_, ?_⟩
  · rw [tA, h, if_neg (by decide)]
  · rw [tW, h, if_pos rfl]
  · rw [tJ, h, if_neg (by decide), if_neg (by decide), if_pos rfl, if_pos g, if_pos g2]
theorem th_c_no (h : c i = 99) (g : ¬ (pd4 (c (i + 1)) ∧ pd4 (c (i + 2)))) : ¬ tOk c i := by
  rintro (⟨z, -⟩ | ⟨z, -⟩ | ⟨-, z⟩ | ⟨z, -⟩)
  · rw [h] at z; exact absurd z (by decide)
  · rw [h] at z; exact absurd z (by decide)
  · exact g z
  · rw [h] at z; exact absurd z (by decide)
theorem th_c0 (h : c i = 99) (g : ¬ pd4 (c (i + 1))) : ¬ tOk c i ∧ tJ c i = i + 1 := by
  refine ⟨th_c_no h fun z => g z.1, ?_⟩
  rw [tJ, h, if_neg (by decide), if_neg (by decide), if_pos rfl, if_neg g]
theorem th_c01 (h : c i = 99) (g : pd4 (c (i + 1))) (g2 : ¬ pd4 (c (i + 2))) : ¬ tOk c i ∧ tJ c i = i + 2 := by
  refine ⟨th_c_no h fun z => g2 z.2, ?_⟩
  rw [tJ, h, if_neg (by decide), if_neg (by decide), if_pos rfl, if_pos g, if_neg g2]
theorem th_n1 (h : c i = 46) (g : nOk c (i + 1) 1) : tOk c i ∧ tA c i = nW c (i + 1) 99 ∧ tW c i = 0 ∧ tJ c i = nJ c (i + 1) 99 := by
  refine ⟨Or.inl ⟨h, g⟩, ?_, ?_, ?_⟩
  · rw [tA, h, if_pos rfl]
  · rw [tW, h, if_neg (by decide), if_neg (by decide)]
  · rw [tJ, h, if_pos rfl, if_pos g]
theorem th_n0 (h : c i = 46) (g : ¬ nOk c (i + 1) 1) : ¬ tOk c i ∧ tJ c i = i + 1 := by
  refine ⟨?_, ?_⟩
  · rintro (⟨-, z⟩ | ⟨z, -⟩ | ⟨z, -⟩ | ⟨z, -⟩)
    · exact g z
    · rw [h] at z; exact absurd z (by decide)
    · rw [h] at z; exact absurd z (by decide)
    · rw [h] at z; exact absurd z (by decide)
  · rw [tJ, h, if_pos rfl, if_neg g]
theorem bd_n {x : Int32} (h : x = 98 ∨ x = 100) : x ≠ 46 ∧ x ≠ 111 ∧ x ≠ 99 := by
  rcases h with rfl | rfl <;> decide
theorem th_b1 (h : c i = 98 ∨ c i = 100) (g : pd4 (c (i + 1))) (g2 : c (i + 2) = 61) (g3 : nOk c (i + 3) 0) : tOk c i ∧ tA c i = dg (c (i + 1)) ∧ tW c i = nW c (i + 3) (tHi (c i)) ∧ tJ c i = nJ c (i + 3) (tHi (c i)) := by
  have n := bd_n h
  refine ⟨Or.inr (Or.inr (Or.inr ⟨h, g, g2, g3⟩)), ?_, ?_, ?_⟩
  · rw [tA, if_neg n.1]
  · rw [tW, if_neg n.2.2, if_pos h]
  · rw [tJ, if_neg n.1, if_neg n.2.1, if_neg n.2.2, if_pos h, if_pos g, if_pos g2, if_pos g3]
theorem th_b_no (h : c i = 98 ∨ c i = 100) (g : ¬ (pd4 (c (i + 1)) ∧ c (i + 2) = 61 ∧ nOk c (i + 3) 0)) : ¬ tOk c i := by
  have n := bd_n h
  rintro (⟨z, -⟩ | ⟨z, -⟩ | ⟨z, -⟩ | ⟨-, z⟩)
  · exact n.1 z
  · exact n.2.1 z
  · exact n.2.2 z
  · exact g z
theorem th_b0 (h : c i = 98 ∨ c i = 100) (g : ¬ pd4 (c (i + 1))) : ¬ tOk c i ∧ tJ c i = i + 1 := by
  have n := bd_n h
  refine ⟨th_b_no h fun z => g z.1, ?_⟩
  rw [tJ, if_neg n.1, if_neg n.2.1, if_neg n.2.2, if_pos h, if_neg g]
theorem th_b01 (h : c i = 98 ∨ c i = 100) (g : pd4 (c (i + 1))) (g2 : ¬ c (i + 2) = 61) : ¬ tOk c i ∧ tJ c i = i + 2 := by
  have n := bd_n h
  refine ⟨th_b_no h fun z => g2 z.2.1, ?_⟩
  rw [tJ, if_neg n.1, if_neg n.2.1, if_neg n.2.2, if_pos h, if_pos g, if_neg g2]
theorem th_b02 (h : c i = 98 ∨ c i = 100) (g : pd4 (c (i + 1))) (g2 : c (i + 2) = 61) (g3 : ¬ nOk c (i + 3) 0) : ¬ tOk c i ∧ tJ c i = i + 3 := by
  have n := bd_n h
  refine ⟨th_b_no h fun z => g3 z.2.2, ?_⟩
  rw [tJ, if_neg n.1, if_neg n.2.1, if_neg n.2.2, if_pos h, if_pos g, if_pos g2, if_neg g3]
theorem th_x (h1 : ¬ c i = 98) (h2 : ¬ c i = 111) (h3 : ¬ c i = 100) (h4 : ¬ c i = 99) (h5 : ¬ c i = 46) : ¬ tOk c i ∧ tJ c i = i := by
  have h6 : ¬ (c i = 98 ∨ c i = 100) := by
    rintro (z | z)
    · exact h1 z
    · exact h3 z
  refine ⟨?_, ?_⟩
  · rintro (⟨z, -⟩ | ⟨z, -⟩ | ⟨z, -⟩ | ⟨z, -⟩)
    · exact h5 z
    · exact h2 z
    · exact h4 z
    · exact h6 z
  · rw [tJ, if_neg h5, if_neg h2, if_neg h4, if_neg h6]
end THING
theorem kind5 (x : Int32) : x = 98 ∨ x = 111 ∨ x = 100 ∨ x = 99 ∨ x = 46 ∨ (¬ x = 98 ∧ ¬ x = 111 ∧ ¬ x = 100 ∧ ¬ x = 99 ∧ ¬ x = 46) := by
  by_cases h1 : x = 98
  · exact Or.inl h1
  by_cases h2 : x = 111
  · exact Or.inr (Or.inl h2)
  by_cases h3 : x = 100
  · exact Or.inr (Or.inr (Or.inl h3))
  by_cases h4 : x = 99
  · exact Or.inr (Or.inr (Or.inr (Or.inl h4)))
  by_cases h5 : x = 46
  · exact Or.inr (Or.inr (Or.inr (Or.inr (Or.inl h5))))
  exact Or.inr (Or.inr (Or.inr (Or.inr (Or.inr ⟨h1, h2, h3, h4, h5⟩))))
/-- what stays while a thing is read, and what is read -/
def vT (v u : Nat → Int32) : Prop := ∀ k, k < 5 ∨ 9 < k → u k = v k
theorem vT_R {v u w : Nat → Int32} (h : vT v u) (g : vR u w) : vT v w := fun k hk => (g k (by omega) (by omega)).trans (h k hk)
theorem vT_u {v u : Nat → Int32} {j : Nat} (h : vT v u) (x : Int32) (h1 : 5 ≤ j) (h2 : j ≤ 9) : vT v (upd u j x) := fun k hk => (upd_n (by omega)).trans (h k hk)
theorem vT_rf (v : Nat → Int32) : vT v v := fun _ _ => rfl
def thP (c : Nat → Int32) (v u : Nat → Int32) (i : Nat) : Prop := vT v u ∧ u 5 = nI (tJ c i) ∧ ((tOk c i ∧ u 6 = 0 ∧ u 7 = c i ∧ u 8 = nI (tA c i) ∧ u 9 = nI (tW c i)) ∨ (¬ tOk c i ∧ u 6 = 1))
theorem pd_dg {x : Int32} (h : pd4 x) : x - 48 = nI (dg x) := by
  obtain ⟨a, b⟩ := dg_of (x := x) ⟨h.1, Int32.le_trans h.2 (by decide)⟩
  have := num1 (lo := 0) b
  rw [show nI 0 = 0 from rfl, Int32.zero_add] at this
  exact this
theorem eq61 {x : Int32} : (61 ≤ x ∧ x ≤ 61) ↔ x = 61 := ⟨fun h => Int32.le_antisymm h.2 h.1, fun h => by subst h; decide⟩
