/-! rows that are copied, place by place -/
def cpA {α : Type} (f g : Nat → α) (a n : Nat) : Nat → α := fun k => if a ≤ k ∧ k < a + n then g (k - a) else f k
theorem cpA_0 {α : Type} (f g : Nat → α) (a : Nat) : cpA f g a 0 = f := funext fun k => if_neg (by omega)
theorem cpA_in {α : Type} {f g : Nat → α} {a n k : Nat} (h : a ≤ k) (h2 : k < a + n) : cpA f g a n k = g (k - a) := if_pos ⟨h, h2⟩
theorem cpA_out {α : Type} {f g : Nat → α} {a n k : Nat} (h : k < a ∨ a + n ≤ k) : cpA f g a n k = f k := if_neg (by omega)
theorem cpA_s (f g : Nat → Int32) (a n : Nat) : upd (cpA f g a n) (a + n) (g n) = cpA f g a (n + 1) := by
  funext k
  unfold upd cpA
  by_cases h : k = a + n
  · rw [if_pos h, if_pos (by omega), show k - a = n by omega]
  · rw [if_neg h]
    by_cases h2 : a ≤ k ∧ k < a + n
    · rw [if_pos h2, if_pos (by omega)]
    · rw [if_neg h2, if_neg (by omega)]
theorem cpA_sL (f g : Nat → Int64) (a n : Nat) : vp_updL (cpA f g a n) (a + n) (g n) = cpA f g a (n + 1) := by
  funext k
  unfold vp_updL cpA
  by_cases h : k = a + n
  · rw [if_pos h, if_pos (by omega), show k - a = n by omega]
  · rw [if_neg h]
    by_cases h2 : a ≤ k ∧ k < a + n
    · rw [if_pos h2, if_pos (by omega)]
    · rw [if_neg h2, if_neg (by omega)]
theorem cpA_s0 (f g : Nat → Int32) (n : Nat) : upd (cpA f g 0 n) n (g n) = cpA f g 0 (n + 1) := by
  have h := cpA_s f g 0 n
  rw [Nat.zero_add] at h
  exact h
theorem cpA_sL0 (f g : Nat → Int64) (n : Nat) : vp_updL (cpA f g 0 n) n (g n) = cpA f g 0 (n + 1) := by
  have h := cpA_sL f g 0 n
  rw [Nat.zero_add] at h
  exact h
theorem cpA_al {α : Type} {f g : Nat → α} {n j : Nat} (h : j < n) : cpA f g 0 n j = g j := by
  rw [cpA_in (Nat.zero_le _) (by omega), Nat.sub_zero]
theorem ge_lit {x : Int32} {i N : Nat} (e : x = nI i) (hi : i ≤ N) (hN : N < 2 ^ 31) (c : nI N ≤ x) : i = N := by
  rw [e] at c
  have := (nI_leI hN (by omega)).mp c
  omega
theorem nge_lit {x : Int32} {i N : Nat} (e : x = nI i) (hi : i ≤ N) (hN : N < 2 ^ 31) (c : ¬ nI N ≤ x) : i < N := by
  rw [e] at c
  have := mt (nI_leI hN (by omega)).mpr c
  omega
theorem cl_of {x : Int32} {i : Nat} (e : x = nI i) (h : i < 2 ^ 31) : Int32.toNatClampNeg x = i := by
  rw [e]
  exact nI_clamp h
theorem in_of {x : Int32} {i n : Nat} (e : x = nI i) (h : i < n) (hn : n < 2 ^ 31) : vp_in x n := by
  rw [e]
  exact vp_in_nI h hn
/-- what records does to the rows of the states -/
def rcI (n : Nat) (f g : Nat → Int32) : Nat → Int32 := cpA (if n = 4 then cpA f (fun j => f (43 + j)) 0 129 else f) g (43 * (if n = 4 then 3 else n)) 43
def rcE (n : Nat) (f g : Nat → Int64) : Nat → Int64 := cpA (if n = 4 then cpA f (fun j => f (12 + j)) 0 36 else f) g (12 * (if n = 4 then 3 else n)) 12
def rcN (n : Nat) : Nat := (if n = 4 then 3 else n) + 1
theorem wD_ad {A : Nat → Prop} {ws ws' : va_W} (h : va_D A ws) (e : ws.map Prod.fst = ws'.map Prod.fst) : va_D A ws' := wD_addr e h
theorem upd_id (f : Nat → Int32) (k : Nat) : upd f k (f k) = f := by
  funext j
  unfold upd
  by_cases h : j = k
  · rw [if_pos h, h]
  · rw [if_neg h]
