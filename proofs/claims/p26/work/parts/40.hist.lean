/-! the history: its object, its row of states, the states in their order -/
theorem at_q {D : va_G} {cl : List vw_C} {a n : Nat} {cA : ClassId} {f g : Nat → Option Nat} {H : Heap} (h : ∀ j, j < n → f j = g j) (k : va_at D cl (a, .inl (cA, n, .inr (.inr (.inr (.inr f))))) H) : va_at D cl (a, .inl (cA, n, .inr (.inr (.inr (.inr g))))) H := by
  show H[a]? = some _
  rw [← cell_q h]
  exact k
abbrev sgW (T : Nat → ClassId) (b : Nat → Nat) (g : SG) : va_W := stW T b g.1 g.2.1 g.2.2
abbrev hiH (T : Nat → ClassId) (h : Nat → Nat) (d : Nat → Nat → Nat) (n : Nat) : va_W := [(h 0, .inr (0, [.ref (h 1), .int (nI n)])), (h 1, .inl (T 4, 4, .inr (.inr (.inr (.inr (fun i => some (d i 0)))))))]
def hiT (T : Nat → ClassId) (d : Nat → Nat → Nat) (σ : Nat → SG) : va_W := fl [sgW T (d 0) (σ 0), sgW T (d 1) (σ 1), sgW T (d 2) (σ 2), sgW T (d 3) (σ 3)]
abbrev hiW (T : Nat → ClassId) (h : Nat → Nat) (d : Nat → Nat → Nat) (n : Nat) (σ : Nat → SG) : va_W := hiH T h d n ++ hiT T d σ
def rot {α : Type} (f : Nat → α) : Nat → α := fun i => if i < 3 then f (i + 1) else f 0
def hiO (T : Nat → ClassId) (d : Nat → Nat → Nat) (σ : Nat → SG) (p : Nat) : va_W := fl (([0, 1, 2, 3].filter (fun i => decide (i ≠ p))).map (fun i => sgW T (d i) (σ i)))
section HIST
variable {T : Nat → ClassId} {h : Nat → Nat} {d : Nat → Nat → Nat} {n : Nat} {σ : Nat → SG} {b : Nat → Nat} {g : SG} {D : va_G} {H : Heap} {A : Nat → Prop}
theorem fl_app_nil (a b : va_W) : fl [a, b] = a ++ b := by
  show a ++ (b ++ []) = _
  rw [List.append_nil]
theorem hiT_perm {p : Nat} (hp : p < 4) : (hiT T d σ).Perm (sgW T (d p) (σ p) ++ hiO T d σ p) := by
  rcases lt4c hp with rfl | rfl | rfl | rfl
  · exact fl_perm [sgW T (d 0) (σ 0), sgW T (d 1) (σ 1), sgW T (d 2) (σ 2), sgW T (d 3) (σ 3)] [0, 1, 2, 3] rfl rfl
  · exact fl_perm [sgW T (d 0) (σ 0), sgW T (d 1) (σ 1), sgW T (d 2) (σ 2), sgW T (d 3) (σ 3)] [1, 0, 2, 3] rfl rfl
  · exact fl_perm [sgW T (d 0) (σ 0), sgW T (d 1) (σ 1), sgW T (d 2) (σ 2), sgW T (d 3) (σ 3)] [2, 0, 1, 3] rfl rfl
  · exact fl_perm [sgW T (d 0) (σ 0), sgW T (d 1) (σ 1), sgW T (d 2) (σ 2), sgW T (d 3) (σ 3)] [3, 0, 1, 2] rfl rfl
theorem hiO_up {p : Nat} (hp : p < 4) (x : SG) : hiO T d (va_up σ p x) p = hiO T d σ p := by
  rcases lt4c hp with rfl | rfl | rfl | rfl <;> rfl
/-- the objects of the states stand in front -/
theorem ho_perm (R : va_W) (f0 f1 f2 f3 : List Value) (r0 r1 r2 r3 : va_W) (hh : va_W) : (hh ++ (fl [[(d 0 0, (.inr (2, f0) : va_E))] ++ r0, [(d 1 0, .inr (2, f1))] ++ r1, [(d 2 0, .inr (2, f2))] ++ r2, [(d 3 0, .inr (2, f3))] ++ r3] ++ R)).Perm ((hh ++ [(d 0 0, .inr (2, f0)), (d 1 0, .inr (2, f1)), (d 2 0, .inr (2, f2)), (d 3 0, .inr (2, f3))]) ++ (fl [r0, r1, r2, r3] ++ R)) := by
  have z := fl_perm [hh, [(d 0 0, (.inr (2, f0) : va_E))], r0, [(d 1 0, .inr (2, f1))], r1, [(d 2 0, .inr (2, f2))], r2, [(d 3 0, .inr (2, f3))], r3, R] [0, 1, 3, 5, 7, 2, 4, 6, 8, 9] rfl rfl
  have e1 : fl [hh, [(d 0 0, (.inr (2, f0) : va_E))], r0, [(d 1 0, .inr (2, f1))], r1, [(d 2 0, .inr (2, f2))], r2, [(d 3 0, .inr (2, f3))], r3, R] = hh ++ (fl [[(d 0 0, (.inr (2, f0) : va_E))] ++ r0, [(d 1 0, .inr (2, f1))] ++ r1, [(d 2 0, .inr (2, f2))] ++ r2, [(d 3 0, .inr (2, f3))] ++ r3] ++ R) := by
    simp [fl]
  have e2 : fl [hh, [(d 0 0, (.inr (2, f0) : va_E))], [(d 1 0, .inr (2, f1))], [(d 2 0, .inr (2, f2))], [(d 3 0, .inr (2, f3))], r0, r1, r2, r3, R] = (hh ++ [(d 0 0, .inr (2, f0)), (d 1 0, .inr (2, f1)), (d 2 0, .inr (2, f2)), (d 3 0, .inr (2, f3))]) ++ (fl [r0, r1, r2, r3] ++ R) := by
    simp [fl]
  rw [← e1, ← e2]
  exact z
/-- two states in front, ready for a copy -/
theorem sg2_perm (b b2 : Nat → Nat) (g g2 : SG) (X Y Z : va_W) : (X ++ ((sgW T b g ++ Y) ++ (sgW T b2 g2 ++ Z))).Perm (((stH T b g.1 ++ stH T b2 g2.1) ++ (stT T b g.2.1 g.2.2 ++ stT T b2 g2.2.1 g2.2.2)) ++ (X ++ (Y ++ Z))) := by
  have z := fl_perm [X, stH T b g.1, stT T b g.2.1 g.2.2, Y, stH T b2 g2.1, stT T b2 g2.2.1 g2.2.2, Z] [1, 4, 2, 5, 0, 3, 6] rfl rfl
  have e1 : fl [X, stH T b g.1, stT T b g.2.1 g.2.2, Y, stH T b2 g2.1, stT T b2 g2.2.1 g2.2.2, Z] = X ++ ((sgW T b g ++ Y) ++ (sgW T b2 g2 ++ Z)) := by
    simp [fl, List.append_assoc]
  have e2 : fl [stH T b g.1, stH T b2 g2.1, stT T b g.2.1 g.2.2, stT T b2 g2.2.1 g2.2.2, X, Y, Z] = ((stH T b g.1 ++ stH T b2 g2.1) ++ (stT T b g.2.1 g.2.2 ++ stT T b2 g2.2.1 g2.2.2)) ++ (X ++ (Y ++ Z)) := by
    simp [fl, List.append_assoc]
  rw [← e1, ← e2]
  exact z
end HIST
