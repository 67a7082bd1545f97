/-! the law: what holds at the head of its loop -/
section CUTS
variable {D : va_G} {cl : List vw_C} {H : Heap} {A : Nat → Prop} {x1 x2 x3 x4 x5 x6 : va_W} {rest : List va_W}
theorem a_2 : fl (x1 :: x2 :: rest) = (x1 ++ x2) ++ fl rest := by
  show x1 ++ (x2 ++ fl rest) = _
  rw [List.append_assoc]
theorem a_3 : fl (x1 :: x2 :: x3 :: rest) = (x1 ++ (x2 ++ x3)) ++ fl rest := by
  show x1 ++ (x2 ++ (x3 ++ fl rest)) = _
  rw [List.append_assoc, List.append_assoc]
theorem a_4 : fl (x1 :: x2 :: x3 :: x4 :: rest) = (x1 ++ (x2 ++ (x3 ++ x4))) ++ fl rest := by
  show x1 ++ (x2 ++ (x3 ++ (x4 ++ fl rest))) = _
  rw [List.append_assoc, List.append_assoc, List.append_assoc]
theorem a_5 : fl (x1 :: x2 :: x3 :: x4 :: x5 :: rest) = (x1 ++ (x2 ++ (x3 ++ (x4 ++ x5)))) ++ fl rest := by
  show x1 ++ (x2 ++ (x3 ++ (x4 ++ (x5 ++ fl rest)))) = _
  rw [List.append_assoc, List.append_assoc, List.append_assoc, List.append_assoc]
theorem a_6 : fl (x1 :: x2 :: x3 :: x4 :: x5 :: x6 :: rest) = (x1 ++ (x2 ++ (x3 ++ (x4 ++ (x5 ++ x6))))) ++ fl rest := by
  show x1 ++ (x2 ++ (x3 ++ (x4 ++ (x5 ++ (x6 ++ fl rest))))) = _
  rw [List.append_assoc, List.append_assoc, List.append_assoc, List.append_assoc, List.append_assoc]
theorem fP1 : va_P D cl (fl (x1 :: rest)) H ↔ va_P D cl (x1 ++ fl rest) H := Iff.rfl
theorem fD1 : va_D A (fl (x1 :: rest)) ↔ va_D A (x1 ++ fl rest) := Iff.rfl
theorem fP2 : va_P D cl (fl (x1 :: x2 :: rest)) H ↔ va_P D cl ((x1 ++ x2) ++ fl rest) H := by rw [a_2]
theorem fD2 : va_D A (fl (x1 :: x2 :: rest)) ↔ va_D A ((x1 ++ x2) ++ fl rest) := by rw [a_2]
theorem fP3 : va_P D cl (fl (x1 :: x2 :: x3 :: rest)) H ↔ va_P D cl ((x1 ++ (x2 ++ x3)) ++ fl rest) H := by rw [a_3]
theorem fD3 : va_D A (fl (x1 :: x2 :: x3 :: rest)) ↔ va_D A ((x1 ++ (x2 ++ x3)) ++ fl rest) := by rw [a_3]
theorem fP4 : va_P D cl (fl (x1 :: x2 :: x3 :: x4 :: rest)) H ↔ va_P D cl ((x1 ++ (x2 ++ (x3 ++ x4))) ++ fl rest) H := by rw [a_4]
theorem fD4 : va_D A (fl (x1 :: x2 :: x3 :: x4 :: rest)) ↔ va_D A ((x1 ++ (x2 ++ (x3 ++ x4))) ++ fl rest) := by rw [a_4]
theorem fP5 : va_P D cl (fl (x1 :: x2 :: x3 :: x4 :: x5 :: rest)) H ↔ va_P D cl ((x1 ++ (x2 ++ (x3 ++ (x4 ++ x5)))) ++ fl rest) H := by rw [a_5]
theorem fD5 : va_D A (fl (x1 :: x2 :: x3 :: x4 :: x5 :: rest)) ↔ va_D A ((x1 ++ (x2 ++ (x3 ++ (x4 ++ x5)))) ++ fl rest) := by rw [a_5]
theorem fP6 : va_P D cl (fl (x1 :: x2 :: x3 :: x4 :: x5 :: x6 :: rest)) H ↔ va_P D cl ((x1 ++ (x2 ++ (x3 ++ (x4 ++ (x5 ++ x6))))) ++ fl rest) H := by rw [a_6]
theorem fD6 : va_D A (fl (x1 :: x2 :: x3 :: x4 :: x5 :: x6 :: rest)) ↔ va_D A ((x1 ++ (x2 ++ (x3 ++ (x4 ++ (x5 ++ x6))))) ++ fl rest) := by rw [a_6]
end CUTS
section CUT10
variable {D : va_G} {cl : List vw_C} {H : Heap} {A : Nat → Prop} {a0 a1 a2 a3 a4 a5 a6 a7 a8 a9 : Nat × va_E} {R : va_W}
theorem q10_x : ([a0, a1, a2, a3, a4, a5, a6, a7, a8, a9] ++ R).Perm ([a0, a9] ++ ([a1, a2, a3, a4, a5, a6, a7, a8] ++ R)) :=
  List.Perm.append_right R (fl_perm [[a0], [a1], [a2], [a3], [a4], [a5], [a6], [a7], [a8], [a9]] [0, 9, 1, 2, 3, 4, 5, 6, 7, 8] rfl rfl)
end CUT10
/-- the first program's text and its trial: the part that typing needs, and the rest -/
abbrev siA (T : Nat → ClassId) (y : Nat → Nat) (w tx : Nat → Int32) (len : Nat) : va_W := [((y 0), .inr (4, [.ref (y 4), .ref (y 1), .ref (y 2), .ref (y 3), .int (w 0), .int (w 1), .int (w 2), .int (w 3)])), ((y 4), .inr (3, [.ref (y 5), .int (nI len)])), ((y 5), .inl (T 2, 60, .inl (tx)))]
abbrev siB (T : Nat → ClassId) (y : Nat → Nat) (K9 A9 W9 : Nat → Int32) : va_W := [((y 1), .inl (T 0, 20, .inl (K9))), ((y 2), .inl (T 0, 20, .inl (A9))), ((y 3), .inl (T 0, 20, .inl (W9)))]
/-- what the law's own machine gives, all along -/
def lwC (p : Program) (s : State) (m : MethodId) (c : Code) (bq L : Nat) (xs : Nat → Int32) (T : Nat → ClassId) (D : va_G) : Prop :=
  p.tables.exec = Jvm.exec ∧ c.code = cL_law ∧ c.maxLocals = 4 ∧ s.vm.findClass RL = some m.cls ∧ (∀ w ∈ wsL_law, w.before #[Value.ref bq] s = true) ∧ va_X bq L xs s s.heap ∧ bq < s.heap.size ∧ va_K D vwCl (tyL T) s ∧ xS (fun q => s.heap.size ≤ q) s ∧ L ≤ 2048
/-- from the place pc on, at the turn i, with all that is kept, the machine comes to Q -/
def lwB (p : Program) (l : Launch) (e : Env) (s : State) (m : MethodId) (below : List Frame) (meth : Method) (c : Code) (Q : State → Prop) (bq : Nat) (T : Nat → ClassId) (D : va_G) (z a q : Nat) (b1 b2 b3 h y r : Nat → Nat) (pc i : Nat) : Prop :=
  ∀ (d : Nat → Nat → Nat) (k0 k1 k2 k3 : Int32) (n : Nat) (σ : Nat → SG) (g gb gs : SG) (V : Nat → Int32) (G : Nat → Int64) (w K9 A9 W9 tx : Nat → Int32) (len : Nat) (v ia : Nat → Int32) (ea : Nat → Int64) (ik : Nat → Int32) (ek : Nat → Int64) (ib : Nat → Int32) (eb : Nat → Int64) (H : Heap) (locs : List Loc) (ls : Array Slot),
    lInv k0 k1 k2 k3 n σ g gs tx len v ik ek ib eb →
    va_P D vwCl (fl [moW T r v (mS g.1 g.2.1) (mE g.2.2) ia ea ik ek ib eb tx, obW z b1 b2 b3 h a y k0 k1 k2 k3, sgW T b1 g, hiW T h d n σ, sgW T b2 gb, sgW T b3 gs, plW T a q V G, siA T y w tx len, siB T y K9 A9 W9]) H →
    va_D (fun q => s.heap.size ≤ q) (fl [moW T r v (mS g.1 g.2.1) (mE g.2.2) ia ea ik ek ib eb tx, obW z b1 b2 b3 h a y k0 k1 k2 k3, sgW T b1 g, hiW T h d n σ, sgW T b2 gb, sgW T b3 gs, plW T a q V G, siA T y w tx len, siB T y K9 A9 W9]) →
    va_S (fun q => s.heap.size ≤ q) s.heap H locs → lv_has ls 4 [(3, .int (nI i)), (0, .ref bq), (1, .ref z), (2, .ref (r 0))] →
    W p l e room_1 s m #[Value.ref bq] below meth c H locs 91 1075 Q (F0 m pc ls [])
theorem sw_0_22 (w : Int32) : (w.toInt < 0 ∨ 22 < w.toInt) ∨ w = 0 ∨ w = 1 ∨ w = 2 ∨ w = 3 ∨ w = 4 ∨ w = 5 ∨ w = 6 ∨ w = 7 ∨ w = 8 ∨ w = 9 ∨ w = 10 ∨ w = 11 ∨ w = 12 ∨ w = 13 ∨ w = 14 ∨ w = 15 ∨ w = 16 ∨ w = 17 ∨ w = 18 ∨ w = 19 ∨ w = 20 ∨ w = 21 ∨ w = 22 := by
  by_cases h : w.toInt < 0 ∨ 22 < w.toInt
  · exact Or.inl h
  · have k : ∀ j : Nat, j < 23 → ∀ x : Int32, x.toInt = (j : Int) → w.toInt = (j : Int) → w = x := fun j _ x hx hw => Int32.toInt_inj.1 (hw.trans hx.symm)
    have hz : w.toInt = 0 ∨ w.toInt = 1 ∨ w.toInt = 2 ∨ w.toInt = 3 ∨ w.toInt = 4 ∨ w.toInt = 5 ∨ w.toInt = 6 ∨ w.toInt = 7 ∨ w.toInt = 8 ∨ w.toInt = 9 ∨ w.toInt = 10 ∨ w.toInt = 11 ∨ w.toInt = 12 ∨ w.toInt = 13 ∨ w.toInt = 14 ∨ w.toInt = 15 ∨ w.toInt = 16 ∨ w.toInt = 17 ∨ w.toInt = 18 ∨ w.toInt = 19 ∨ w.toInt = 20 ∨ w.toInt = 21 ∨ w.toInt = 22 := by omega
    refine Or.inr ?_
    rcases hz with q | q | q | q | q | q | q | q | q | q | q | q | q | q | q | q | q | q | q | q | q | q | q
    · exact Or.inl (k 0 (by decide) 0 (by decide) q)
    · exact Or.inr (Or.inl (k 1 (by decide) 1 (by decide) q))
    · exact Or.inr (Or.inr (Or.inl (k 2 (by decide) 2 (by decide) q)))
    · exact Or.inr (Or.inr (Or.inr (Or.inl (k 3 (by decide) 3 (by decide) q))))
    · exact Or.inr (Or.inr (Or.inr (Or.inr (Or.inl (k 4 (by decide) 4 (by decide) q)))))
    · exact Or.inr (Or.inr (Or.inr (Or.inr (Or.inr (Or.inl (k 5 (by decide) 5 (by decide) q))))))
    · exact Or.inr (Or.inr (Or.inr (Or.inr (Or.inr (Or.inr (Or.inl (k 6 (by decide) 6 (by decide) q)))))))
    · exact Or.inr (Or.inr (Or.inr (Or.inr (Or.inr (Or.inr (Or.inr (Or.inl (k 7 (by decide) 7 (by decide) q))))))))
    · exact Or.inr (Or.inr (Or.inr (Or.inr (Or.inr (Or.inr (Or.inr (Or.inr (Or.inl (k 8 (by decide) 8 (by decide) q)))))))))
    · exact Or.inr (Or.inr (Or.inr (Or.inr (Or.inr (Or.inr (Or.inr (Or.inr (Or.inr (Or.inl (k 9 (by decide) 9 (by decide) q))))))))))
    · exact Or.inr (Or.inr (Or.inr (Or.inr (Or.inr (Or.inr (Or.inr (Or.inr (Or.inr (Or.inr (Or.inl (k 10 (by decide) 10 (by decide) q)))))))))))
    · exact Or.inr (Or.inr (Or.inr (Or.inr (Or.inr (Or.inr (Or.inr (Or.inr (Or.inr (Or.inr (Or.inr (Or.inl (k 11 (by decide) 11 (by decide) q))))))))))))
    · exact Or.inr (Or.inr (Or.inr (Or.inr (Or.inr (Or.inr (Or.inr (Or.inr (Or.inr (Or.inr (Or.inr (Or.inr (Or.inl (k 12 (by decide) 12 (by decide) q)))))))))))))
    · exact Or.inr (Or.inr (Or.inr (Or.inr (Or.inr (Or.inr (Or.inr (Or.inr (Or.inr (Or.inr (Or.inr (Or.inr (Or.inr (Or.inl (k 13 (by decide) 13 (by decide) q))))))))))))))
    · exact Or.inr (Or.inr (Or.inr (Or.inr (Or.inr (Or.inr (Or.inr (Or.inr (Or.inr (Or.inr (Or.inr (Or.inr (Or.inr (Or.inr (Or.inl (k 14 (by decide) 14 (by decide) q)))))))))))))))
    · exact Or.inr (Or.inr (Or.inr (Or.inr (Or.inr (Or.inr (Or.inr (Or.inr (Or.inr (Or.inr (Or.inr (Or.inr (Or.inr (Or.inr (Or.inr (Or.inl (k 15 (by decide) 15 (by decide) q))))))))))))))))
    · exact Or.inr (Or.inr (Or.inr (Or.inr (Or.inr (Or.inr (Or.inr (Or.inr (Or.inr (Or.inr (Or.inr (Or.inr (Or.inr (Or.inr (Or.inr (Or.inr (Or.inl (k 16 (by decide) 16 (by decide) q)))))))))))))))))
    · exact Or.inr (Or.inr (Or.inr (Or.inr (Or.inr (Or.inr (Or.inr (Or.inr (Or.inr (Or.inr (Or.inr (Or.inr (Or.inr (Or.inr (Or.inr (Or.inr (Or.inr (Or.inl (k 17 (by decide) 17 (by decide) q))))))))))))))))))
    · exact Or.inr (Or.inr (Or.inr (Or.inr (Or.inr (Or.inr (Or.inr (Or.inr (Or.inr (Or.inr (Or.inr (Or.inr (Or.inr (Or.inr (Or.inr (Or.inr (Or.inr (Or.inr (Or.inl (k 18 (by decide) 18 (by decide) q)))))))))))))))))))
    · exact Or.inr (Or.inr (Or.inr (Or.inr (Or.inr (Or.inr (Or.inr (Or.inr (Or.inr (Or.inr (Or.inr (Or.inr (Or.inr (Or.inr (Or.inr (Or.inr (Or.inr (Or.inr (Or.inr (Or.inl (k 19 (by decide) 19 (by decide) q))))))))))))))))))))
    · exact Or.inr (Or.inr (Or.inr (Or.inr (Or.inr (Or.inr (Or.inr (Or.inr (Or.inr (Or.inr (Or.inr (Or.inr (Or.inr (Or.inr (Or.inr (Or.inr (Or.inr (Or.inr (Or.inr (Or.inr (Or.inl (k 20 (by decide) 20 (by decide) q)))))))))))))))))))))
    · exact Or.inr (Or.inr (Or.inr (Or.inr (Or.inr (Or.inr (Or.inr (Or.inr (Or.inr (Or.inr (Or.inr (Or.inr (Or.inr (Or.inr (Or.inr (Or.inr (Or.inr (Or.inr (Or.inr (Or.inr (Or.inr (Or.inl (k 21 (by decide) 21 (by decide) q))))))))))))))))))))))
    · exact Or.inr (Or.inr (Or.inr (Or.inr (Or.inr (Or.inr (Or.inr (Or.inr (Or.inr (Or.inr (Or.inr (Or.inr (Or.inr (Or.inr (Or.inr (Or.inr (Or.inr (Or.inr (Or.inr (Or.inr (Or.inr (Or.inr (k 22 (by decide) 22 (by decide) q))))))))))))))))))))))
/-- a char out of an int -/
theorem ch_of (x : Int32) : isCh ((Int32.toUInt32 x) % 65536).toInt32 := by
  exact pk_nc x
theorem lc_0 {x y : Int64} (h : x = y) : lg_cmp x y = 0 := (lg_cmp_eq x y).mpr h
