/-! ticks and copies of a state, pair after pair -/
def tkU (P : Nat → Nat → Int32) : Nat → Nat → Nat → Int32
  | 0 => P
  | k + 1 => va_up (tkU P k) k (kTickP (P k))
def teU (P : Nat → Nat → Int32) (E : Nat → Nat → Int64) : Nat → Nat → Nat → Int64
  | 0 => E
  | k + 1 => va_up (teU P E k) k (kTickE (P k) (E k))
def mvU (P : Nat → Nat → Int32) : Nat → Int32
  | 0 => 0
  | k + 1 => mvU P k + kMoved (P k)
theorem tkU_ge (P : Nat → Nat → Int32) : ∀ (k : Nat) {i : Nat}, k ≤ i → tkU P k i = P i
  | 0, _, _ => rfl
  | k + 1, i, h => by
    show va_up (tkU P k) k (kTickP (P k)) i = P i
    rw [up_n (by omega)]
    exact tkU_ge P k (by omega)
theorem teU_ge (P : Nat → Nat → Int32) (E : Nat → Nat → Int64) : ∀ (k : Nat) {i : Nat}, k ≤ i → teU P E k i = E i
  | 0, _, _ => rfl
  | k + 1, i, h => by
    show va_up (teU P E k) k (kTickE (P k) (E k)) i = E i
    rw [up_n (by omega)]
    exact teU_ge P E k (by omega)
theorem tkU_4 (P : Nat → Nat → Int32) : tkU P 4 = kAll P := rfl
theorem teU_4 (P : Nat → Nat → Int32) (E : Nat → Nat → Int64) : teU P E 4 = kAllE P E := rfl
theorem mvU_4 (P : Nat → Nat → Int32) : mvU P 4 = kMv P := by
  show 0 + kMoved (P 0) + kMoved (P 1) + kMoved (P 2) + kMoved (P 3) = _
  rw [Int32.zero_add]
  rfl
theorem moved_0 {V : Nat → Int32} (h : kBy (kLeakP V) = 0) : kMoved V = 0 := by
  rw [kMoved, h]; decide
theorem moved_1 {V : Nat → Int32} (h : ¬ kBy (kLeakP V) = 0) : kMoved V = 1 := by
  rcases kMove_3 (kLeakP V) (kLeakP V 6) (kNet (kLeakP V)) with q | q | q
  · exact absurd q h
  · rw [kMoved, kBy, q.1]; decide
  · rw [kMoved, kBy, q.1]; decide
def cpU {α : Type} (P Q : Nat → α) : Nat → Nat → α
  | 0 => P
  | k + 1 => va_up (cpU P Q k) k (Q k)
section CPF
variable {T : Nat → ClassId} {b b2 : Nat → Nat} {P P2 : Nat → Nat → Int32} {E E2 : Nat → Nat → Int64} {D : va_G} {H : Heap} {A : Nat → Prop} {h4 : va_W}
theorem cp4 : stT T b (cpU P P2 4) (cpU E E2 4) = stT T b P2 E2 := rfl
theorem stT_perm {p : Nat} (hp : p < 4) : (stT T b P E).Perm (plB T b P E p ++ stO T b P E p) := by
  rcases lt4c hp with rfl | rfl | rfl | rfl
  · exact fl_perm [plB T b P E 0, plB T b P E 1, plB T b P E 2, plB T b P E 3] [0, 1, 2, 3] rfl rfl
  · exact fl_perm [plB T b P E 0, plB T b P E 1, plB T b P E 2, plB T b P E 3] [1, 0, 2, 3] rfl rfl
  · exact fl_perm [plB T b P E 0, plB T b P E 1, plB T b P E 2, plB T b P E 3] [2, 0, 1, 3] rfl rfl
  · exact fl_perm [plB T b P E 0, plB T b P E 1, plB T b P E 2, plB T b P E 3] [3, 0, 1, 2] rfl rfl
theorem fl5 (a b c d e : va_W) : (a ++ ((b ++ c) ++ (d ++ e))).Perm (b ++ (d ++ (a ++ (c ++ e)))) := by
  have h := fl_perm [a, b, c, d, e] [1, 3, 0, 2, 4] rfl rfl
  have e1 : fl [a, b, c, d, e] = a ++ ((b ++ c) ++ (d ++ e)) := by
    show a ++ (b ++ (c ++ (d ++ (e ++ [])))) = _
    rw [List.append_nil, List.append_assoc]
  have e2 : fl [b, d, a, c, e] = b ++ (d ++ (a ++ (c ++ e))) := by
    show b ++ (d ++ (a ++ (c ++ (e ++ [])))) = _
    rw [List.append_nil]
  rw [← e1, ← e2]
  exact h
theorem cp_perm {p : Nat} (hp : p < 4) : (h4 ++ (stT T b P E ++ stT T b2 P2 E2)).Perm (plB T b P E p ++ (plB T b2 P2 E2 p ++ (h4 ++ (stO T b P E p ++ stO T b2 P2 E2 p)))) :=
  (List.Perm.append_left h4 (List.Perm.append (stT_perm hp) (stT_perm hp))).trans (fl5 _ _ _ _ _)
theorem cp_foc {p : Nat} (hp : p < 4) (h : va_P D vwCl (h4 ++ (stT T b P E ++ stT T b2 P2 E2)) H) : va_P D vwCl (plB T b P E p ++ (plB T b2 P2 E2 p ++ (h4 ++ (stO T b P E p ++ stO T b2 P2 E2 p)))) H := wP_perm (cp_perm hp) h
theorem cd_foc {p : Nat} (hp : p < 4) (h : va_D A (h4 ++ (stT T b P E ++ stT T b2 P2 E2))) : va_D A (plB T b P E p ++ (plB T b2 P2 E2 p ++ (h4 ++ (stO T b P E p ++ stO T b2 P2 E2 p)))) := wD_perm (cp_perm hp) h
theorem cp_unf {p : Nat} (hp : p < 4) {V : Nat → Int32} {G : Nat → Int64} (h : va_P D vwCl (plW T (b (2 + 2 * p)) (b (3 + 2 * p)) V G ++ (plB T b2 P2 E2 p ++ (h4 ++ (stO T b P E p ++ stO T b2 P2 E2 p)))) H) : va_P D vwCl (h4 ++ (stT T b (va_up P p V) (va_up E p G) ++ stT T b2 P2 E2)) H := by
  refine wP_perm (cp_perm hp).symm ?_
  rw [stO_up hp]
  show va_P D vwCl (plW T (b (2 + 2 * p)) (b (3 + 2 * p)) (va_up P p V p) (va_up E p G p) ++ _) H
  rw [up_0, up_0]
  exact h
theorem cd_unf {p : Nat} (hp : p < 4) {V : Nat → Int32} {G : Nat → Int64} (h : va_D A (plW T (b (2 + 2 * p)) (b (3 + 2 * p)) V G ++ (plB T b2 P2 E2 p ++ (h4 ++ (stO T b P E p ++ stO T b2 P2 E2 p))))) : va_D A (h4 ++ (stT T b (va_up P p V) (va_up E p G) ++ stT T b2 P2 E2)) := by
  refine wD_perm (cp_perm hp).symm ?_
  rw [stO_up hp]
  show va_D A (plW T (b (2 + 2 * p)) (b (3 + 2 * p)) (va_up P p V p) (va_up E p G p) ++ _)
  rw [up_0, up_0]
  exact h
end CPF
