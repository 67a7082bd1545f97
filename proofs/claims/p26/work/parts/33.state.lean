/-! a state of the first program: its object, its row of pairs, the pairs; c: the addresses -/
abbrev plB (T : Nat → ClassId) (c : Nat → Nat) (P : Nat → Nat → Int32) (E : Nat → Nat → Int64) (i : Nat) : va_W := plW T (c (2 + 2 * i)) (c (3 + 2 * i)) (P i) (E i)
abbrev stH (T : Nat → ClassId) (c : Nat → Nat) (t : Nat → Int32) : va_W := [(c 0, .inr (2, [.ref (c 1), .int (t 0), .int (t 1), .int (t 2)])), (c 1, .inl (T 3, 4, .inr (.inr (.inr (.inr (fun i => some (c (2 + 2 * i))))))))]
def stT (T : Nat → ClassId) (c : Nat → Nat) (P : Nat → Nat → Int32) (E : Nat → Nat → Int64) : va_W := fl [plB T c P E 0, plB T c P E 1, plB T c P E 2, plB T c P E 3]
abbrev stW (T : Nat → ClassId) (c : Nat → Nat) (t : Nat → Int32) (P : Nat → Nat → Int32) (E : Nat → Nat → Int64) : va_W := stH T c t ++ stT T c P E
def stO (T : Nat → ClassId) (c : Nat → Nat) (P : Nat → Nat → Int32) (E : Nat → Nat → Int64) (p : Nat) : va_W := fl (([0, 1, 2, 3].filter (fun i => decide (i ≠ p))).map (plB T c P E))
def stO2 (T : Nat → ClassId) (c : Nat → Nat) (P : Nat → Nat → Int32) (E : Nat → Nat → Int64) (p q : Nat) : va_W := fl (([0, 1, 2, 3].filter (fun i => decide (i ≠ p) && decide (i ≠ q))).map (plB T c P E))
section FOC
variable {T : Nat → ClassId} {c : Nat → Nat} {t : Nat → Int32} {P : Nat → Nat → Int32} {E : Nat → Nat → Int64} {D : va_G} {H : Heap} {A : Nat → Prop}
theorem lt4c {p : Nat} (hp : p < 4) : p = 0 ∨ p = 1 ∨ p = 2 ∨ p = 3 := by omega
theorem st_perm {p : Nat} (hp : p < 4) : (stW T c t P E).Perm (plB T c P E p ++ (stH T c t ++ stO T c P E p)) := by
  rcases lt4c hp with rfl | rfl | rfl | rfl
  · exact fl_perm [stH T c t, plB T c P E 0, plB T c P E 1, plB T c P E 2, plB T c P E 3] [1, 0, 2, 3, 4] rfl rfl
  · exact fl_perm [stH T c t, plB T c P E 0, plB T c P E 1, plB T c P E 2, plB T c P E 3] [2, 0, 1, 3, 4] rfl rfl
  · exact fl_perm [stH T c t, plB T c P E 0, plB T c P E 1, plB T c P E 2, plB T c P E 3] [3, 0, 1, 2, 4] rfl rfl
  · exact fl_perm [stH T c t, plB T c P E 0, plB T c P E 1, plB T c P E 2, plB T c P E 3] [4, 0, 1, 2, 3] rfl rfl
theorem stO_up {p : Nat} (hp : p < 4) (V : Nat → Int32) (G : Nat → Int64) : stO T c (va_up P p V) (va_up E p G) p = stO T c P E p := by
  rcases lt4c hp with rfl | rfl | rfl | rfl <;> rfl
theorem st_foc {p : Nat} (hp : p < 4) (h : va_P D vwCl (stW T c t P E) H) : va_P D vwCl (plB T c P E p ++ (stH T c t ++ stO T c P E p)) H := wP_perm (st_perm hp) h
theorem sd_foc {p : Nat} (hp : p < 4) (h : va_D A (stW T c t P E)) : va_D A (plB T c P E p ++ (stH T c t ++ stO T c P E p)) := wD_perm (st_perm hp) h
theorem st_unf {p : Nat} (hp : p < 4) {V : Nat → Int32} {G : Nat → Int64} (h : va_P D vwCl (plW T (c (2 + 2 * p)) (c (3 + 2 * p)) V G ++ (stH T c t ++ stO T c P E p)) H) : va_P D vwCl (stW T c t (va_up P p V) (va_up E p G)) H := by
  refine wP_perm (st_perm hp).symm ?_
  rw [stO_up hp]
  show va_P D vwCl (plW T (c (2 + 2 * p)) (c (3 + 2 * p)) (va_up P p V p) (va_up E p G p) ++ _) H
  rw [up_0, up_0]
  exact h
theorem sd_unf {p : Nat} (hp : p < 4) {V : Nat → Int32} {G : Nat → Int64} (h : va_D A (plW T (c (2 + 2 * p)) (c (3 + 2 * p)) V G ++ (stH T c t ++ stO T c P E p))) : va_D A (stW T c t (va_up P p V) (va_up E p G)) := by
  refine wD_perm (st_perm hp).symm ?_
  rw [stO_up hp]
  show va_D A (plW T (c (2 + 2 * p)) (c (3 + 2 * p)) (va_up P p V p) (va_up E p G p) ++ _)
  rw [up_0, up_0]
  exact h
theorem st_perm2 {p q : Nat} (hp : p < 4) (hq : q < 4) (hn : ¬ p = q) : (stW T c t P E).Perm (plB T c P E p ++ (plB T c P E q ++ (stH T c t ++ stO2 T c P E p q))) := by
  rcases lt4c hp with rfl | rfl | rfl | rfl <;> rcases lt4c hq with rfl | rfl | rfl | rfl
  · exact absurd rfl hn
  · exact fl_perm [stH T c t, plB T c P E 0, plB T c P E 1, plB T c P E 2, plB T c P E 3] [1, 2, 0, 3, 4] rfl rfl
  · exact fl_perm [stH T c t, plB T c P E 0, plB T c P E 1, plB T c P E 2, plB T c P E 3] [1, 3, 0, 2, 4] rfl rfl
  · exact fl_perm [stH T c t, plB T c P E 0, plB T c P E 1, plB T c P E 2, plB T c P E 3] [1, 4, 0, 2, 3] rfl rfl
  · exact fl_perm [stH T c t, plB T c P E 0, plB T c P E 1, plB T c P E 2, plB T c P E 3] [2, 1, 0, 3, 4] rfl rfl
  · exact absurd rfl hn
  · exact fl_perm [stH T c t, plB T c P E 0, plB T c P E 1, plB T c P E 2, plB T c P E 3] [2, 3, 0, 1, 4] rfl rfl
  · exact fl_perm [stH T c t, plB T c P E 0, plB T c P E 1, plB T c P E 2, plB T c P E 3] [2, 4, 0, 1, 3] rfl rfl
  · exact fl_perm [stH T c t, plB T c P E 0, plB T c P E 1, plB T c P E 2, plB T c P E 3] [3, 1, 0, 2, 4] rfl rfl
  · exact fl_perm [stH T c t, plB T c P E 0, plB T c P E 1, plB T c P E 2, plB T c P E 3] [3, 2, 0, 1, 4] rfl rfl
  · exact absurd rfl hn
  · exact fl_perm [stH T c t, plB T c P E 0, plB T c P E 1, plB T c P E 2, plB T c P E 3] [3, 4, 0, 1, 2] rfl rfl
  · exact fl_perm [stH T c t, plB T c P E 0, plB T c P E 1, plB T c P E 2, plB T c P E 3] [4, 1, 0, 2, 3] rfl rfl
  · exact fl_perm [stH T c t, plB T c P E 0, plB T c P E 1, plB T c P E 2, plB T c P E 3] [4, 2, 0, 1, 3] rfl rfl
  · exact fl_perm [stH T c t, plB T c P E 0, plB T c P E 1, plB T c P E 2, plB T c P E 3] [4, 3, 0, 1, 2] rfl rfl
  · exact absurd rfl hn
theorem stO2_up {p q : Nat} (hp : p < 4) (hq : q < 4) (V U : Nat → Int32) (G F : Nat → Int64) : stO2 T c (va_up (va_up P p V) q U) (va_up (va_up E p G) q F) p q = stO2 T c P E p q := by
  rcases lt4c hp with rfl | rfl | rfl | rfl <;> rcases lt4c hq with rfl | rfl | rfl | rfl <;> rfl
theorem st_foc2 {p q : Nat} (hp : p < 4) (hq : q < 4) (hn : ¬ p = q) (h : va_P D vwCl (stW T c t P E) H) : va_P D vwCl (plB T c P E p ++ (plB T c P E q ++ (stH T c t ++ stO2 T c P E p q))) H := wP_perm (st_perm2 hp hq hn) h
theorem sd_foc2 {p q : Nat} (hp : p < 4) (hq : q < 4) (hn : ¬ p = q) (h : va_D A (stW T c t P E)) : va_D A (plB T c P E p ++ (plB T c P E q ++ (stH T c t ++ stO2 T c P E p q))) := wD_perm (st_perm2 hp hq hn) h
theorem st_unf2 {p q : Nat} (hp : p < 4) (hq : q < 4) (hn : ¬ p = q) {V U : Nat → Int32} {G F : Nat → Int64} (h : va_P D vwCl (plW T (c (2 + 2 * p)) (c (3 + 2 * p)) V G ++ (plW T (c (2 + 2 * q)) (c (3 + 2 * q)) U F ++ (stH T c t ++ stO2 T c P E p q))) H) : va_P D vwCl (stW T c t (va_up (va_up P p V) q U) (va_up (va_up E p G) q F)) H := by
  refine wP_perm (st_perm2 hp hq hn).symm ?_
  rw [stO2_up hp hq]
  show va_P D vwCl (plW T (c (2 + 2 * p)) (c (3 + 2 * p)) (va_up (va_up P p V) q U p) (va_up (va_up E p G) q F p) ++ (plW T (c (2 + 2 * q)) (c (3 + 2 * q)) (va_up (va_up P p V) q U q) (va_up (va_up E p G) q F q) ++ _)) H
  rw [up_n hn, up_n hn, up_0, up_0, up_0, up_0]
  exact h
theorem sd_unf2 {p q : Nat} (hp : p < 4) (hq : q < 4) (hn : ¬ p = q) {V U : Nat → Int32} {G F : Nat → Int64} (h : va_D A (plW T (c (2 + 2 * p)) (c (3 + 2 * p)) V G ++ (plW T (c (2 + 2 * q)) (c (3 + 2 * q)) U F ++ (stH T c t ++ stO2 T c P E p q)))) : va_D A (stW T c t (va_up (va_up P p V) q U) (va_up (va_up E p G) q F)) := by
  refine wD_perm (st_perm2 hp hq hn).symm ?_
  rw [stO2_up hp hq]
  show va_D A (plW T (c (2 + 2 * p)) (c (3 + 2 * p)) (va_up (va_up P p V) q U p) (va_up (va_up E p G) q F p) ++ (plW T (c (2 + 2 * q)) (c (3 + 2 * q)) (va_up (va_up P p V) q U q) (va_up (va_up E p G) q F q) ++ _))
  rw [up_n hn, up_n hn, up_0, up_0, up_0, up_0]
  exact h
end FOC
