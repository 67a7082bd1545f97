/-! the second program's cells in other orders -/
section P10
variable {D : va_G} {cl : List vw_C} {H : Heap} {A : Nat → Prop} {a0 a1 a2 a3 a4 a5 a6 a7 a8 a9 : Nat × va_E}
theorem p10_x (h : va_P D cl [a0, a1, a2, a3, a4, a5, a6, a7, a8, a9] H) : va_P D cl ([a0, a9] ++ [a1, a2, a3, a4, a5, a6, a7, a8]) H := bP (bs := [[a0], [a1], [a2], [a3], [a4], [a5], [a6], [a7], [a8], [a9]]) h [0, 9, 1, 2, 3, 4, 5, 6, 7, 8] rfl rfl
theorem d10_x (h : va_D A [a0, a1, a2, a3, a4, a5, a6, a7, a8, a9]) : va_D A ([a0, a9] ++ [a1, a2, a3, a4, a5, a6, a7, a8]) := bD (bs := [[a0], [a1], [a2], [a3], [a4], [a5], [a6], [a7], [a8], [a9]]) h [0, 9, 1, 2, 3, 4, 5, 6, 7, 8] rfl rfl
theorem p10_xi (h : va_P D cl ([a0, a9] ++ [a1, a2, a3, a4, a5, a6, a7, a8]) H) : va_P D cl [a0, a1, a2, a3, a4, a5, a6, a7, a8, a9] H := bP (bs := [[a0], [a9], [a1], [a2], [a3], [a4], [a5], [a6], [a7], [a8]]) h [0, 2, 3, 4, 5, 6, 7, 8, 9, 1] rfl rfl
theorem d10_xi (h : va_D A ([a0, a9] ++ [a1, a2, a3, a4, a5, a6, a7, a8])) : va_D A [a0, a1, a2, a3, a4, a5, a6, a7, a8, a9] := bD (bs := [[a0], [a9], [a1], [a2], [a3], [a4], [a5], [a6], [a7], [a8]]) h [0, 2, 3, 4, 5, 6, 7, 8, 9, 1] rfl rfl
theorem p10_d (h : va_P D cl [a0, a1, a2, a3, a4, a5, a6, a7, a8, a9] H) : va_P D cl ([a0, a1, a2, a9] ++ [a3, a4, a5, a6, a7, a8]) H := bP (bs := [[a0], [a1], [a2], [a3], [a4], [a5], [a6], [a7], [a8], [a9]]) h [0, 1, 2, 9, 3, 4, 5, 6, 7, 8] rfl rfl
theorem d10_d (h : va_D A [a0, a1, a2, a3, a4, a5, a6, a7, a8, a9]) : va_D A ([a0, a1, a2, a9] ++ [a3, a4, a5, a6, a7, a8]) := bD (bs := [[a0], [a1], [a2], [a3], [a4], [a5], [a6], [a7], [a8], [a9]]) h [0, 1, 2, 9, 3, 4, 5, 6, 7, 8] rfl rfl
theorem p10_di (h : va_P D cl ([a0, a1, a2, a9] ++ [a3, a4, a5, a6, a7, a8]) H) : va_P D cl [a0, a1, a2, a3, a4, a5, a6, a7, a8, a9] H := bP (bs := [[a0], [a1], [a2], [a9], [a3], [a4], [a5], [a6], [a7], [a8]]) h [0, 1, 2, 4, 5, 6, 7, 8, 9, 3] rfl rfl
theorem d10_di (h : va_D A ([a0, a1, a2, a9] ++ [a3, a4, a5, a6, a7, a8])) : va_D A [a0, a1, a2, a3, a4, a5, a6, a7, a8, a9] := bD (bs := [[a0], [a1], [a2], [a9], [a3], [a4], [a5], [a6], [a7], [a8]]) h [0, 1, 2, 4, 5, 6, 7, 8, 9, 3] rfl rfl
end P10
/-- what performing does to all of the second program's cells -/
def pfP (n len : Nat) (v : Nat → Int32) (g : SG) (ik : Nat → Int32) (ek : Nat → Int64) (ib : Nat → Int32) (eb : Nat → Int64) (tx : Nat → Int32) (r : Int32) (u : MW) : Prop :=
  ∃ (v' : Nat → Int32) (ia : Nat → Int32) (ea : Nat → Int64), vS v v' ∧
  ((∃ m, pBad (tch tx len) len m ∧ r = -100 - nI (tJ (tch tx len) (tAt (tch tx len) m)) ∧ u = (v', mS g.1 g.2.1, mE g.2.2, ia, ea, ik, ek, ib, eb, tx))
  ∨ (∃ m0 m, pEnd (tch tx len) len m0 ∧ m ≤ m0 ∧ (∀ j, j < m → ¬ isE (rK (tch tx len) g j)) ∧ isE (rK (tch tx len) g m) ∧ r = -4 ∧ u = (upd (upd v' 3 (nI m)) 4 (rK (tch tx len) g m), mS g.1 g.2.1, mE g.2.2, ia, ea, ik, ek, ib, eb, tx))
  ∨ (∃ m0, pEnd (tch tx len) len m0 ∧ (∀ j, j ≤ m0 → ¬ isE (rK (tch tx len) g j)) ∧ r = nI (m0 + 1) ∧ u = (upd v' 1 (nI (rcN n)), mS (sK (tch tx len) g (m0 + 1)).1 (sK (tch tx len) g (m0 + 1)).2.1, mE (sK (tch tx len) g (m0 + 1)).2.2, ia, ea, ik, ek, rcI n ib (mS g.1 g.2.1), rcE n eb (mE g.2.2), tx)))
