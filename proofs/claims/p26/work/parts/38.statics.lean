/-! the bounds of the settings, as they lie in the class -/
def xS : (Nat → Prop) → State → Prop := fun A U => XN U ∧ ∃ tL tG : Nat, va_Z RX1 "LEAST" "[I" (.ref tL) A U U.heap ∧ va_T .int tL 6 (fun j => .int (kLo j)) A U U.heap ∧ va_Z RX1 "GREATEST" "[I" (.ref tG) A U U.heap ∧ va_T .int tG 6 (fun j => .int (kHi j)) A U U.heap
theorem xS_bl : xBl xS := fun A U g mk a h => by
  obtain ⟨h0, tL, tG, h1, h2, h3, h4⟩ := h
  exact ⟨XN_same (u := U) (U := U.calling g mk a) rfl h0, tL, tG, h1.moved (u := U) (U := U.calling g mk a) (Vm.Alike.refl U.vm), h2.moved (u := U) (U := U.calling g mk a) (Vm.Alike.refl U.vm), h3.moved (u := U) (U := U.calling g mk a) (Vm.Alike.refl U.vm), h4.moved (u := U) (U := U.calling g mk a) (Vm.Alike.refl U.vm)⟩
theorem xS_go {A B : Nat → Prop} {s U : State} {H : Heap} {locs : List Loc} (h : xS A s) (hS : va_S A s.heap H locs) (hU : U.heap = H) (hW : s.WarmedH U.vm) (hB : ∀ q, B q → A q) : xS B U := by
  obtain ⟨h0, tL, tG, h1, h2, h3, h4⟩ := h
  exact ⟨XN_warm hW h0, tL, tG, by rw [hU]; exact ((h1.kept hS.2.1).moved hW.alike).narrow hB, by rw [hU]; exact ((h2.kept hS.2.1).moved hW.alike).narrow hB, by rw [hU]; exact ((h3.kept hS.2.1).moved hW.alike).narrow hB, by rw [hU]; exact ((h4.kept hS.2.1).moved hW.alike).narrow hB⟩
theorem kOk_set {P : Nat → Int32} (h : kOk P) {k : Nat} (hk : k ≤ 5) {y : Int32} (hy : kLo k ≤ y ∧ y ≤ kHi k) : kOk (upd P k y) := by
  obtain ⟨h0, h1, h2, h3, h4, h5, h6, h7, h8, h9⟩ := h
  have hk2 : k = 0 ∨ k = 1 ∨ k = 2 ∨ k = 3 ∨ k = 4 ∨ k = 5 := by omega
  rcases hk2 with rfl | rfl | rfl | rfl | rfl | rfl
  · exact ⟨⟨(fa_le _ _).mp hy.1, (fa_le _ _).mp hy.2⟩, h1, h2, h3, h4, h5, h6, h7, h8, h9⟩
  · exact ⟨h0, ⟨(fa_le _ _).mp hy.1, (fa_le _ _).mp hy.2⟩, h2, h3, h4, h5, h6, h7, h8, h9⟩
  · exact ⟨h0, h1, ⟨(fa_le _ _).mp hy.1, (fa_le _ _).mp hy.2⟩, h3, h4, h5, h6, h7, h8, h9⟩
  · exact ⟨h0, h1, h2, ⟨(fa_le _ _).mp hy.1, (fa_le _ _).mp hy.2⟩, h4, h5, h6, h7, h8, h9⟩
  · exact ⟨h0, h1, h2, h3, ⟨(fa_le _ _).mp hy.1, (fa_le _ _).mp hy.2⟩, h5, h6, h7, h8, h9⟩
  · exact ⟨h0, h1, h2, h3, h4, ⟨(fa_le _ _).mp hy.1, (fa_le _ _).mp hy.2⟩, h6, h7, h8, h9⟩
