/-! what the law's start knows of classes, of arrays, of statics -/
def ad7 {α : Type} (x0 x1 x2 x3 x4 x5 x6 : α) : Nat → α
  | 0 => x0
  | 1 => x1
  | 2 => x2
  | 3 => x3
  | 4 => x4
  | 5 => x5
  | _ => x6
theorem arr_k {s : State} {av : Array Value} {ty : FieldType} (h : (Cond.arrayClass ty).before av s = true) : ∃ cA : ClassId, ArrOfT s cA ty ∧ s.vm.findClass ("[" ++ ty.toString) = some cA := by
  obtain ⟨cA, k, comp, h1, h2, h3⟩ := Cond.arrayClass_spec h
  exact ⟨cA, fun n z => ⟨fun k h => (by cases h), k, h2, comp, h3⟩, h1⟩
theorem arr_q {s : State} {C : String} (h : va_AO C s) : ∃ cA : ClassId, ArrOfT s cA (.object C) ∧ va_RA s cA (.object C) := by
  obtain ⟨comp, cA, k, h1, h2, h3, h4, h5⟩ := Cond.arrayOver_spec h
  exact ⟨cA, fun n z => ⟨fun k h => (by cases h), k, h3, comp, h4⟩, k, comp, h3, h4, h1, h5⟩
set_option maxRecDepth 20000 in
theorem nx_ao1 : Cond.arrayOver (.object RX1) ∈ lw_tbl := by decide +kernel
set_option maxRecDepth 20000 in
theorem nx_ao2 : Cond.arrayOver (.object RX2) ∈ lw_tbl := by decide +kernel
set_option maxRecDepth 20000 in
theorem nx_nest : ∀ w ∈ nsM, w ∈ lw_tbl := by decide +kernel
set_option maxRecDepth 20000 in
theorem nx_ls1 : Cond.laysStatic RX1 "LEAST" "[I" ∈ lw_tbl := by decide +kernel
set_option maxRecDepth 20000 in
theorem nx_ls2 : Cond.laysStatic RX1 "GREATEST" "[I" ∈ lw_tbl := by decide +kernel
theorem st_XN {s : State} {av : Array Value} (h2 : ∀ w ∈ lw_tbl, w.before av s = true) : XN s := by
  refine ⟨fun w hw => ?_, va_AO.of (h2 _ nx_ao1), va_AO.of (h2 _ nx_ao2)⟩
  have k := h2 w (nx_nest w hw)
  simp only [nsM, List.mem_cons, List.not_mem_nil, or_false] at hw
  rcases hw with rfl | rfl | rfl | rfl | rfl | rfl <;> exact va_Nw.of rfl k
theorem st_K {s : State} {av : Array Value} (h1 : ∀ w ∈ wsL_law, w.before av s = true) (h3 : ∀ w ∈ lw_tbl, w.before av s = true) (h2 : XN s) : ∃ (T : Nat → ClassId) (D : va_G), va_K D vwCl (tyL T) s := by
  obtain ⟨c0, j0, k0⟩ := u_known (C := RX0) (T := TX0) (N := 2) (n := 2) h1 inlX0 (h1 (.instantiable RX0 2) (List.mem_of_getElem? (i := 16) rfl))
  obtain ⟨c1, j1, k1⟩ := u_known (C := RX1) (T := TX1) (N := 8) (n := 8) h1 inlX1 (h1 (.instantiable RX1 8) (List.mem_of_getElem? (i := 20) rfl))
  obtain ⟨c2, j2, k2⟩ := u_known (C := RX2) (T := TX2) (N := 4) (n := 4) h1 inlX2 (h1 (.instantiable RX2 4) (List.mem_of_getElem? (i := 10) rfl))
  obtain ⟨c3, j3, k3⟩ := u_known (C := RX3) (T := TX3) (N := 2) (n := 2) h1 inlX3 (h1 (.instantiable RX3 2) (List.mem_of_getElem? (i := 50) rfl))
  obtain ⟨c4, j4, k4⟩ := u_known (C := RX4) (T := TX4) (N := 8) (n := 8) h1 inlX4 (h1 (.instantiable RX4 8) (List.mem_of_getElem? (i := 24) rfl))
  obtain ⟨c5, j5, k5⟩ := u_known (C := RX5) (T := TX5) (N := 10) (n := 10) h1 inlX5 (h1 (.instantiable RX5 10) (List.mem_of_getElem? (i := 1) rfl))
  obtain ⟨a0, e0, f0⟩ := arr_k (ty := .int) (h1 (.arrayClass .int) (List.mem_of_getElem? (i := 36) rfl))
  obtain ⟨a1, e1, f1⟩ := arr_k (ty := .int) (h1 (.arrayClass .int) (List.mem_of_getElem? (i := 36) rfl))
  obtain ⟨a2, e2, f2⟩ := arr_k (ty := .char) (h1 (.arrayClass .char) (List.mem_of_getElem? (i := 59) rfl))
  obtain ⟨a3, e3, f3⟩ := arr_q h2.2.1
  obtain ⟨a4, e4, f4⟩ := arr_q h2.2.2
  refine ⟨ad7 a0 a1 a2 a3 a4 a4 a4, (ad7 c0 c1 c2 c3 c4 c5 c5, ad7 j0 j1 j2 j3 j4 j5 j5), ?_, ?_⟩
  · intro k q hq
    match k, hq with
    | 0, hq => cases hq; exact k0
    | 1, hq => cases hq; exact k1
    | 2, hq => cases hq; exact k2
    | 3, hq => cases hq; exact k3
    | 4, hq => cases hq; exact k4
    | 5, hq => cases hq; exact k5
    | k + 6, hq => simp [vwCl] at hq
  · intro k q hq
    match k, hq with
    | 0, hq => cases hq; exact ⟨e0, f0⟩
    | 1, hq => cases hq; exact ⟨e1, f1⟩
    | 2, hq => cases hq; exact ⟨e2, f2⟩
    | 3, hq => cases hq; exact ⟨e3, f3⟩
    | 4, hq => cases hq; exact ⟨e4, f4⟩
    | k + 5, hq => simp [tyL] at hq
theorem st_LEAST {s : State} {av : Array Value} {A : Nat → Prop} (h1 : ∀ w ∈ wsL_law, w.before av s = true) (h2 : ∀ w ∈ lw_tbl, w.before av s = true) (hg : (Jvm.Cond.and given_1 narrow_1).before av s = true) (hA : ∀ a : Nat, a < s.heap.size → ¬ A a) : ∃ t : Nat, va_Z RX1 "LEAST" "[I" (.ref t) A s s.heap ∧ va_T .int t 6 (fun j => .int (kLo j)) A s s.heap := by
  have hs := flat_of_before _ hg
  obtain ⟨t, ht, hT⟩ := va_Tof (tm := (Term.static "PlateSlabs$Plates" "LEAST" "[I")) (ty := .int) (N := 6) (f := fun j => .int (kLo j)) (by decide) (hs (Cond.arrayOf (Term.static "PlateSlabs$Plates" "LEAST" "[I") .int) (by decide +kernel)) (va_eqt (hs (Cond.eq (.length (Term.static "PlateSlabs$Plates" "LEAST" "[I")) (.int 6)) (by decide +kernel)))
    (fun j hj => by
      rcases lt6c hj with rfl | rfl | rfl | rfl | rfl | rfl
      · exact va_eqt (hs (Cond.eq (.elem (Term.static "PlateSlabs$Plates" "LEAST" "[I") (.int 0)) (.int 1)) (by decide +kernel))
      · exact va_eqt (hs (Cond.eq (.elem (Term.static "PlateSlabs$Plates" "LEAST" "[I") (.int 1)) (.int 1)) (by decide +kernel))
      · exact va_eqt (hs (Cond.eq (.elem (Term.static "PlateSlabs$Plates" "LEAST" "[I") (.int 2)) (.int 0)) (by decide +kernel))
      · exact va_eqt (hs (Cond.eq (.elem (Term.static "PlateSlabs$Plates" "LEAST" "[I") (.int 3)) (.int 0)) (by decide +kernel))
      · exact va_eqt (hs (Cond.eq (.elem (Term.static "PlateSlabs$Plates" "LEAST" "[I") (.int 4)) (.int 0)) (by decide +kernel))
      · exact va_eqt (hs (Cond.eq (.elem (Term.static "PlateSlabs$Plates" "LEAST" "[I") (.int 5)) (.int 0)) (by decide +kernel)))
    hA
  exact ⟨t, va_Zref (h2 _ nx_ls1) (h1 (.initialized RX1) (List.mem_of_getElem? (i := 21) rfl)) ht hA, hT⟩
theorem st_GREATEST {s : State} {av : Array Value} {A : Nat → Prop} (h1 : ∀ w ∈ wsL_law, w.before av s = true) (h2 : ∀ w ∈ lw_tbl, w.before av s = true) (hg : (Jvm.Cond.and given_1 narrow_1).before av s = true) (hA : ∀ a : Nat, a < s.heap.size → ¬ A a) : ∃ t : Nat, va_Z RX1 "GREATEST" "[I" (.ref t) A s s.heap ∧ va_T .int t 6 (fun j => .int (kHi j)) A s s.heap := by
  have hs := flat_of_before _ hg
  obtain ⟨t, ht, hT⟩ := va_Tof (tm := (Term.static "PlateSlabs$Plates" "GREATEST" "[I")) (ty := .int) (N := 6) (f := fun j => .int (kHi j)) (by decide) (hs (Cond.arrayOf (Term.static "PlateSlabs$Plates" "GREATEST" "[I") .int) (by decide +kernel)) (va_eqt (hs (Cond.eq (.length (Term.static "PlateSlabs$Plates" "GREATEST" "[I")) (.int 6)) (by decide +kernel)))
    (fun j hj => by
      rcases lt6c hj with rfl | rfl | rfl | rfl | rfl | rfl
      · exact va_eqt (hs (Cond.eq (.elem (Term.static "PlateSlabs$Plates" "GREATEST" "[I") (.int 0)) (.int 9)) (by decide +kernel))
      · exact va_eqt (hs (Cond.eq (.elem (Term.static "PlateSlabs$Plates" "GREATEST" "[I") (.int 1)) (.int 9)) (by decide +kernel))
      · exact va_eqt (hs (Cond.eq (.elem (Term.static "PlateSlabs$Plates" "GREATEST" "[I") (.int 2)) (.int 999)) (by decide +kernel))
      · exact va_eqt (hs (Cond.eq (.elem (Term.static "PlateSlabs$Plates" "GREATEST" "[I") (.int 3)) (.int 40)) (by decide +kernel))
      · exact va_eqt (hs (Cond.eq (.elem (Term.static "PlateSlabs$Plates" "GREATEST" "[I") (.int 4)) (.int 9999)) (by decide +kernel))
      · exact va_eqt (hs (Cond.eq (.elem (Term.static "PlateSlabs$Plates" "GREATEST" "[I") (.int 5)) (.int 100)) (by decide +kernel)))
    hA
  exact ⟨t, va_Zref (h2 _ nx_ls2) (h1 (.initialized RX1) (List.mem_of_getElem? (i := 21) rfl)) ht hA, hT⟩
theorem st_X {s : State} {av : Array Value} {A : Nat → Prop} (h1 : ∀ w ∈ wsL_law, w.before av s = true) (h2 : ∀ w ∈ lw_tbl, w.before av s = true) (hg : (Jvm.Cond.and given_1 narrow_1).before av s = true) (hA : ∀ a : Nat, a < s.heap.size → ¬ A a) : xS A s := by
  obtain ⟨t1, z1, y1⟩ := st_LEAST h1 h2 hg hA
  obtain ⟨t2, z2, y2⟩ := st_GREATEST h1 h2 hg hA
  exact ⟨st_XN h2, t1, t2, z1, y1, z2, y2⟩
theorem jOk_0 : jOk 0 sg0 := ⟨sg0_ok, fun _ _ z => absurd z (by show ¬ (0 : Int32) = 1; decide), ⟨by show 0 ≤ (0 : Int32).toInt; decide, by show (0 : Int32).toInt ≤ _; decide⟩, fun _ _ => ⟨by show 0 ≤ (0 : Int64).toInt; decide, by show (0 : Int64).toInt ≤ 1000000000 * (0 : Int32).toInt; decide⟩⟩
