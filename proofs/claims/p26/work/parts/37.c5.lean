theorem pdX2_letPass : yX2_letPass.cls = RX2 ∧ yX2_letPass.cls ≠ "java/lang/invoke/MethodHandle" ∧ yX2_letPass.cls ≠ "java/lang/invoke/VarHandle" ∧ (parseMethodDescriptor yX2_letPass.desc).map (fun d => d.parameters.length) = some 1 := by decide +kernel
theorem pdX2_copyFrom : yX2_copyFrom.cls = RX2 ∧ yX2_copyFrom.cls ≠ "java/lang/invoke/MethodHandle" ∧ yX2_copyFrom.cls ≠ "java/lang/invoke/VarHandle" ∧ (parseMethodDescriptor yX2_copyFrom.desc).map (fun d => d.parameters.length) = some 1 := by decide +kernel
theorem inwX2_letPass_X2 : ∀ w ∈ wsX20, w ∈ wsX2_letPass := by decide +kernel
theorem inwX2_letPass_X1 : ∀ w ∈ wsX10, w ∈ wsX2_letPass := by decide +kernel
theorem inwX2_copyFrom_X2 : ∀ w ∈ wsX20, w ∈ wsX2_copyFrom := by decide +kernel
theorem inwX2_copyFrom_X1 : ∀ w ∈ wsX10, w ∈ wsX2_copyFrom := by decide +kernel
def rmX2_copyFrom : Room := { frames := 2, cells := 0, slots := 0, locals := 81 }
set_option maxHeartbeats 4000000 in
set_option maxRecDepth 100000 in
theorem mX2_copyFrom (l : Launch) (T : Nat → ClassId) (D : va_G) (b : Nat → Nat) (t : Nat → Int32) (P : Nat → Nat → Int32) (E : Nat → Nat → Int64) (b2 : Nat → Nat) (t2 : Nat → Int32) (P2 : Nat → Nat → Int32) (E2 : Nat → Nat → Int64) (hk2 : ∀ p, p < 4 → kOk (P2 p)) : MuV l yX2_copyFrom wsX2_copyFrom rmX2_copyFrom T xN D [.ref (b 0), .ref (b2 0)] ([((b 0), .inr (2, [.ref (b 1), .int (t 0), .int (t 1), .int (t 2)])), ((b 1), .inl (T 3, 4, .inr (.inr (.inr (.inr ((fun i => some (b (2 + 2 * i))))))))), ((b2 0), .inr (2, [.ref (b2 1), .int (t2 0), .int (t2 1), .int (t2 2)])), ((b2 1), .inl (T 3, 4, .inr (.inr (.inr (.inr ((fun i => some (b2 (2 + 2 * i)))))))))] ++ (stT T b P E ++ stT T b2 P2 E2)) (S := Unit) (fun _ => True) (fun _ => ([((b 0), .inr (2, [.ref (b 1), .int (t2 0), .int (t2 1), .int (t2 2)])), ((b 1), .inl (T 3, 4, .inr (.inr (.inr (.inr ((fun i => some (b (2 + 2 * i))))))))), ((b2 0), .inr (2, [.ref (b2 1), .int (t2 0), .int (t2 1), .int (t2 2)])), ((b2 1), .inl (T 3, 4, .inr (.inr (.inr (.inr ((fun i => some (b2 (2 + 2 * i)))))))))] ++ (stT T b P2 E2 ++ stT T b2 P2 E2))) 0 0 := by
  refine met_mv (cc := cX2_copyFrom) (maxL := 3) (by decide) rfl (Nat.le_of_ble_eq_true rfl) ?_
  intro p_ e s m args below meth c ls A Q hx hb hts hown hml hX hP hD hK hS hA hl hin hret
  have hl : lv_has ls 3 [(0, .ref (b 0)), (1, .ref (b2 0))] := hl
  obtain ⟨H, hH⟩ : ∃ H, H = s.heap := ⟨_, rfl⟩
  have hS : va_S A s.heap H [] := by rw [hH]; exact hS
  rw [← hH] at hP ⊢
  refine lv_iconst (v := nI 0) hx hb dX2_copyFrom_0 (by decide) ?_
  refine lv_istore_n (lv' := [(2, .int (nI 0)), (0, .ref (b 0)), (1, .ref (b2 0))]) hx hb dX2_copyFrom_1 rfl hl (by decide) rfl (fun ls hl => ?_)
  have loop : ∀ (j : Nat) (k : Nat) (ls : Array Slot) (H : Heap) (locs : List Loc), (5 ≤ k + j) → (k ≤ 4) → va_P D vwCl ([((b 0), .inr (2, [.ref (b 1), .int (t 0), .int (t 1), .int (t 2)])), ((b 1), .inl (T 3, 4, .inr (.inr (.inr (.inr ((fun i => some (b (2 + 2 * i))))))))), ((b2 0), .inr (2, [.ref (b2 1), .int (t2 0), .int (t2 1), .int (t2 2)])), ((b2 1), .inl (T 3, 4, .inr (.inr (.inr (.inr ((fun i => some (b2 (2 + 2 * i)))))))))] ++ (stT T b (cpU P P2 k) (cpU E E2 k) ++ stT T b2 P2 E2)) H → va_D A ([((b 0), .inr (2, [.ref (b 1), .int (t 0), .int (t 1), .int (t 2)])), ((b 1), .inl (T 3, 4, .inr (.inr (.inr (.inr ((fun i => some (b (2 + 2 * i))))))))), ((b2 0), .inr (2, [.ref (b2 1), .int (t2 0), .int (t2 1), .int (t2 2)])), ((b2 1), .inl (T 3, 4, .inr (.inr (.inr (.inr ((fun i => some (b2 (2 + 2 * i)))))))))] ++ (stT T b (cpU P P2 k) (cpU E E2 k) ++ stT T b2 P2 E2)) → va_S A s.heap H locs → lv_has ls 3 [(0, .ref (b 0)), (1, .ref (b2 0)), (2, .int (nI k))] → W p_ l e rmX2_copyFrom s m args below meth c H locs 0 0 Q (F0 m 2 ls []) := by
    intro j
    induction j with
    | zero => intro k ls H locs hm hi; exact absurd hm (by omega)
    | succ j ih =>
      intro k ls H locs hm hi hP hD hS hl
      refine lv_iload_n hx hb dX2_copyFrom_2 rfl (lv_at hl 2 rfl) ?_
      refine lv_iconst (v := nI 4) hx hb dX2_copyFrom_3 (by decide) ?_
      refine lv_icmp_ge (tgt := 28) hx hb dX2_copyFrom_4 (by decide) (fun c4 => ?_) (fun c4 => ?_)
      · skip
        have ek : k = 4 := by
          have := (nI_leI (a := 4) (b := k) (by decide) (by omega)).mp c4
          omega
        subst ek
        have hP : va_P D vwCl ([((b 0), .inr (2, [.ref (b 1), .int (t 0), .int (t 1), .int (t 2)])), ((b 1), .inl (T 3, 4, .inr (.inr (.inr (.inr ((fun i => some (b (2 + 2 * i))))))))), ((b2 0), .inr (2, [.ref (b2 1), .int (t2 0), .int (t2 1), .int (t2 2)])), ((b2 1), .inl (T 3, 4, .inr (.inr (.inr (.inr ((fun i => some (b2 (2 + 2 * i)))))))))] ++ (stT T b P2 E2 ++ stT T b2 P2 E2)) H := hP
        have hD : va_D A ([((b 0), .inr (2, [.ref (b 1), .int (t 0), .int (t 1), .int (t 2)])), ((b 1), .inl (T 3, 4, .inr (.inr (.inr (.inr ((fun i => some (b (2 + 2 * i))))))))), ((b2 0), .inr (2, [.ref (b2 1), .int (t2 0), .int (t2 1), .int (t2 2)])), ((b2 1), .inl (T 3, 4, .inr (.inr (.inr (.inr ((fun i => some (b2 (2 + 2 * i)))))))))] ++ (stT T b P2 E2 ++ stT T b2 P2 E2)) := hD
        refine lv_aload_n hx hb dX2_copyFrom_28 rfl (lv_at hl 0 rfl) ?_
        refine lv_aload_n hx hb dX2_copyFrom_29 rfl (lv_at hl 1 rfl) ?_
        refine va_get (D := D) (ci := 2) (v := .int (t2 0)) (C := RX2) (T := TX2) (N := 4) hx hb hts inwX2_copyFrom_X2 hown hK hP 2 rfl rfl 1 (by decide) (hts (.fieldLink RX2 22 "PlateSlabs$State" "tick" "I") (List.mem_of_getElem? (i := 2) rfl)) (fun _ h9 => h9) rfl dX2_copyFrom_30 ?_
        refine va_put (D := D) (ci := 2) (v := .int (t2 0)) (C := RX2) (T := TX2) (N := 4) hx hb hts inwX2_copyFrom_X2 tyX2 tyX2_ok nmX2 hown hK hP hD hS 0 rfl rfl 1 (by decide) (hts (.fieldLink RX2 22 "PlateSlabs$State" "tick" "I") (List.mem_of_getElem? (i := 2) rfl)) (fun _ h9 => h9) rfl (tyX2_ok 1 (by decide)) (rfl) (rfl) (Nat.le_of_ble_eq_true rfl) dX2_copyFrom_33 (fun H locs hP hD hS => ?_)
        have hP : va_P D vwCl ([((b 0), .inr (2, [.ref (b 1), .int (t2 0), .int (t 1), .int (t 2)])), ((b 1), .inl (T 3, 4, .inr (.inr (.inr (.inr ((fun i => some (b (2 + 2 * i))))))))), ((b2 0), .inr (2, [.ref (b2 1), .int (t2 0), .int (t2 1), .int (t2 2)])), ((b2 1), .inl (T 3, 4, .inr (.inr (.inr (.inr ((fun i => some (b2 (2 + 2 * i)))))))))] ++ (stT T b P2 E2 ++ stT T b2 P2 E2)) H := hP
        have hD : va_D A ([((b 0), .inr (2, [.ref (b 1), .int (t2 0), .int (t 1), .int (t 2)])), ((b 1), .inl (T 3, 4, .inr (.inr (.inr (.inr ((fun i => some (b (2 + 2 * i))))))))), ((b2 0), .inr (2, [.ref (b2 1), .int (t2 0), .int (t2 1), .int (t2 2)])), ((b2 1), .inl (T 3, 4, .inr (.inr (.inr (.inr ((fun i => some (b2 (2 + 2 * i)))))))))] ++ (stT T b P2 E2 ++ stT T b2 P2 E2)) := hD
        refine lv_aload_n hx hb dX2_copyFrom_36 rfl (lv_at hl 0 rfl) ?_
        refine lv_aload_n hx hb dX2_copyFrom_37 rfl (lv_at hl 1 rfl) ?_
        refine va_get (D := D) (ci := 2) (v := .int (t2 1)) (C := RX2) (T := TX2) (N := 4) hx hb hts inwX2_copyFrom_X2 hown hK hP 2 rfl rfl 2 (by decide) (hts (.fieldLink RX2 26 "PlateSlabs$State" "couplings" "I") (List.mem_of_getElem? (i := 3) rfl)) (fun _ h9 => h9) rfl dX2_copyFrom_38 ?_
        refine va_put (D := D) (ci := 2) (v := .int (t2 1)) (C := RX2) (T := TX2) (N := 4) hx hb hts inwX2_copyFrom_X2 tyX2 tyX2_ok nmX2 hown hK hP hD hS 0 rfl rfl 2 (by decide) (hts (.fieldLink RX2 26 "PlateSlabs$State" "couplings" "I") (List.mem_of_getElem? (i := 3) rfl)) (fun _ h9 => h9) rfl (tyX2_ok 2 (by decide)) (rfl) (rfl) (Nat.le_of_ble_eq_true rfl) dX2_copyFrom_41 (fun H locs hP hD hS => ?_)
        have hP : va_P D vwCl ([((b 0), .inr (2, [.ref (b 1), .int (t2 0), .int (t2 1), .int (t 2)])), ((b 1), .inl (T 3, 4, .inr (.inr (.inr (.inr ((fun i => some (b (2 + 2 * i))))))))), ((b2 0), .inr (2, [.ref (b2 1), .int (t2 0), .int (t2 1), .int (t2 2)])), ((b2 1), .inl (T 3, 4, .inr (.inr (.inr (.inr ((fun i => some (b2 (2 + 2 * i)))))))))] ++ (stT T b P2 E2 ++ stT T b2 P2 E2)) H := hP
        have hD : va_D A ([((b 0), .inr (2, [.ref (b 1), .int (t2 0), .int (t2 1), .int (t 2)])), ((b 1), .inl (T 3, 4, .inr (.inr (.inr (.inr ((fun i => some (b (2 + 2 * i))))))))), ((b2 0), .inr (2, [.ref (b2 1), .int (t2 0), .int (t2 1), .int (t2 2)])), ((b2 1), .inl (T 3, 4, .inr (.inr (.inr (.inr ((fun i => some (b2 (2 + 2 * i)))))))))] ++ (stT T b P2 E2 ++ stT T b2 P2 E2)) := hD
        refine lv_aload_n hx hb dX2_copyFrom_44 rfl (lv_at hl 0 rfl) ?_
        refine lv_aload_n hx hb dX2_copyFrom_45 rfl (lv_at hl 1 rfl) ?_
        refine va_get (D := D) (ci := 2) (v := .int (t2 2)) (C := RX2) (T := TX2) (N := 4) hx hb hts inwX2_copyFrom_X2 hown hK hP 2 rfl rfl 3 (by decide) (hts (.fieldLink RX2 29 "PlateSlabs$State" "steps" "I") (List.mem_of_getElem? (i := 4) rfl)) (fun _ h9 => h9) rfl dX2_copyFrom_46 ?_
        refine va_put (D := D) (ci := 2) (v := .int (t2 2)) (C := RX2) (T := TX2) (N := 4) hx hb hts inwX2_copyFrom_X2 tyX2 tyX2_ok nmX2 hown hK hP hD hS 0 rfl rfl 3 (by decide) (hts (.fieldLink RX2 29 "PlateSlabs$State" "steps" "I") (List.mem_of_getElem? (i := 4) rfl)) (fun _ h9 => h9) rfl (tyX2_ok 3 (by decide)) (rfl) (rfl) (Nat.le_of_ble_eq_true rfl) dX2_copyFrom_49 (fun H locs hP hD hS => ?_)
        have hP : va_P D vwCl ([((b 0), .inr (2, [.ref (b 1), .int (t2 0), .int (t2 1), .int (t2 2)])), ((b 1), .inl (T 3, 4, .inr (.inr (.inr (.inr ((fun i => some (b (2 + 2 * i))))))))), ((b2 0), .inr (2, [.ref (b2 1), .int (t2 0), .int (t2 1), .int (t2 2)])), ((b2 1), .inl (T 3, 4, .inr (.inr (.inr (.inr ((fun i => some (b2 (2 + 2 * i)))))))))] ++ (stT T b P2 E2 ++ stT T b2 P2 E2)) H := hP
        have hD : va_D A ([((b 0), .inr (2, [.ref (b 1), .int (t2 0), .int (t2 1), .int (t2 2)])), ((b 1), .inl (T 3, 4, .inr (.inr (.inr (.inr ((fun i => some (b (2 + 2 * i))))))))), ((b2 0), .inr (2, [.ref (b2 1), .int (t2 0), .int (t2 1), .int (t2 2)])), ((b2 1), .inl (T 3, 4, .inr (.inr (.inr (.inr ((fun i => some (b2 (2 + 2 * i)))))))))] ++ (stT T b P2 E2 ++ stT T b2 P2 E2)) := hD
        exact hret _ _ () _ _ dX2_copyFrom_52 hS hP hD trivial
      · skip
        have hk4 : k < 4 := by
          have := mt (nI_leI (a := 4) (b := k) (by decide) (by omega)).mpr c4
          omega
        refine lv_aload_n hx hb dX2_copyFrom_7 rfl (lv_at hl 0 rfl) ?_
        refine va_get (D := D) (ci := 2) (v := .ref (b 1)) (C := RX2) (T := TX2) (N := 4) hx hb hts inwX2_copyFrom_X2 hown hK hP 0 rfl rfl 0 (by decide) (hts (.fieldLink RX2 11 "PlateSlabs$State" "pairs" "[LPlateSlabs$Plates;") (List.mem_of_getElem? (i := 1) rfl)) (fun _ h9 => h9) rfl dX2_copyFrom_8 ?_
        refine lv_iload_n hx hb dX2_copyFrom_11 rfl (lv_at hl 2 rfl) ?_
        refine va_aldq hx hb hK hP 1 3 rfl rfl (vp_in_nI (by omega) (by decide)) dX2_copyFrom_12 ?_
        refine lv_tpv (congrArg (fun z => va_rf ((fun i => some (b (2 + 2 * i))) z)) (nI_clamp (by omega))) ?_
        refine lv_aload_n hx hb dX2_copyFrom_13 rfl (lv_at hl 1 rfl) ?_
        refine va_get (D := D) (ci := 2) (v := .ref (b2 1)) (C := RX2) (T := TX2) (N := 4) hx hb hts inwX2_copyFrom_X2 hown hK hP 2 rfl rfl 0 (by decide) (hts (.fieldLink RX2 11 "PlateSlabs$State" "pairs" "[LPlateSlabs$Plates;") (List.mem_of_getElem? (i := 1) rfl)) (fun _ h9 => h9) rfl dX2_copyFrom_14 ?_
        refine lv_iload_n hx hb dX2_copyFrom_17 rfl (lv_at hl 2 rfl) ?_
        refine va_aldq hx hb hK hP 3 3 rfl rfl (vp_in_nI (by omega) (by decide)) dX2_copyFrom_18 ?_
        refine lv_tpv (congrArg (fun z => va_rf ((fun i => some (b2 (2 + 2 * i))) z)) (nI_clamp (by omega))) ?_
        have hP : va_P D vwCl ([((b (2 + 2 * k)), .inr (1, [.ref (b (3 + 2 * k)), .int (((cpU P P2 k) k) 6), .int (((cpU P P2 k) k) 7), .int (((cpU P P2 k) k) 8), .int (((cpU P P2 k) k) 9), .long (((cpU E E2 k) k) 0), .long (((cpU E E2 k) k) 1), .long (((cpU E E2 k) k) 2)])), ((b (3 + 2 * k)), .inl (T 0, 6, .inl (((cpU P P2 k) k)))), ((b2 (2 + 2 * k)), .inr (1, [.ref (b2 (3 + 2 * k)), .int ((P2 k) 6), .int ((P2 k) 7), .int ((P2 k) 8), .int ((P2 k) 9), .long ((E2 k) 0), .long ((E2 k) 1), .long ((E2 k) 2)])), ((b2 (3 + 2 * k)), .inl (T 0, 6, .inl ((P2 k)))), ((b 0), .inr (2, [.ref (b 1), .int (t 0), .int (t 1), .int (t 2)])), ((b 1), .inl (T 3, 4, .inr (.inr (.inr (.inr ((fun i => some (b (2 + 2 * i))))))))), ((b2 0), .inr (2, [.ref (b2 1), .int (t2 0), .int (t2 1), .int (t2 2)])), ((b2 1), .inl (T 3, 4, .inr (.inr (.inr (.inr ((fun i => some (b2 (2 + 2 * i)))))))))] ++ (stO T b (cpU P P2 k) (cpU E E2 k) k ++ stO T b2 P2 E2 k)) H := cp_foc hk4 hP
        have hD : va_D A ([((b (2 + 2 * k)), .inr (1, [.ref (b (3 + 2 * k)), .int (((cpU P P2 k) k) 6), .int (((cpU P P2 k) k) 7), .int (((cpU P P2 k) k) 8), .int (((cpU P P2 k) k) 9), .long (((cpU E E2 k) k) 0), .long (((cpU E E2 k) k) 1), .long (((cpU E E2 k) k) 2)])), ((b (3 + 2 * k)), .inl (T 0, 6, .inl (((cpU P P2 k) k)))), ((b2 (2 + 2 * k)), .inr (1, [.ref (b2 (3 + 2 * k)), .int ((P2 k) 6), .int ((P2 k) 7), .int ((P2 k) 8), .int ((P2 k) 9), .long ((E2 k) 0), .long ((E2 k) 1), .long ((E2 k) 2)])), ((b2 (3 + 2 * k)), .inl (T 0, 6, .inl ((P2 k)))), ((b 0), .inr (2, [.ref (b 1), .int (t 0), .int (t 1), .int (t 2)])), ((b 1), .inl (T 3, 4, .inr (.inr (.inr (.inr ((fun i => some (b (2 + 2 * i))))))))), ((b2 0), .inr (2, [.ref (b2 1), .int (t2 0), .int (t2 1), .int (t2 2)])), ((b2 1), .inl (T 3, 4, .inr (.inr (.inr (.inr ((fun i => some (b2 (2 + 2 * i)))))))))] ++ (stO T b (cpU P P2 k) (cpU E E2 k) k ++ stO T b2 P2 E2 k)) := cd_foc hk4 hD
        refine callMv (As := [.ref (b2 (2 + 2 * k))]) (wr := [((b 0), .inr (2, [.ref (b 1), .int (t 0), .int (t 1), .int (t 2)])), ((b 1), .inl (T 3, 4, .inr (.inr (.inr (.inr ((fun i => some (b (2 + 2 * i))))))))), ((b2 0), .inr (2, [.ref (b2 1), .int (t2 0), .int (t2 1), .int (t2 2)])), ((b2 1), .inl (T 3, 4, .inr (.inr (.inr (.inr ((fun i => some (b2 (2 + 2 * i)))))))))] ++ (stO T b (cpU P P2 k) (cpU E E2 k) k ++ stO T b2 P2 E2 k)) ⟨hx, hb, hml, hown, hts⟩ (mX1_copyFrom l T D (b (2 + 2 * k)) (b (3 + 2 * k)) ((cpU P P2 k) k) ((cpU E E2 k) k) (b2 (2 + 2 * k)) (b2 (3 + 2 * k)) (P2 k) (E2 k) (hk2 k hk4)) (cwV 1 hts gX2_copyFrom_X1_copyFrom rfl rfl rfl pdX1_copyFrom ⟨Nat.le_of_ble_eq_true rfl, Nat.le_of_ble_eq_true rfl⟩) hP hD hK hS hA xN_bl (fun U _ hW => XN_warm hW hX) (ci := 1) rfl rfl rfl hl.1 rfl rfl (Nat.le_of_ble_eq_true rfl) dX2_copyFrom_19 ⟨Nat.zero_le _, Nat.zero_le _⟩ (fun u2_ H locs eu2_ hP hD hS hkf => ?_)
        have hP : va_P D vwCl ([((b 0), .inr (2, [.ref (b 1), .int (t 0), .int (t 1), .int (t 2)])), ((b 1), .inl (T 3, 4, .inr (.inr (.inr (.inr ((fun i => some (b (2 + 2 * i))))))))), ((b2 0), .inr (2, [.ref (b2 1), .int (t2 0), .int (t2 1), .int (t2 2)])), ((b2 1), .inl (T 3, 4, .inr (.inr (.inr (.inr ((fun i => some (b2 (2 + 2 * i)))))))))] ++ (stT T b (cpU P P2 (k + 1)) (cpU E E2 (k + 1)) ++ stT T b2 P2 E2)) H := cp_unf (h4 := [_, _, _, _]) hk4 hP
        have hD : va_D A ([((b 0), .inr (2, [.ref (b 1), .int (t 0), .int (t 1), .int (t 2)])), ((b 1), .inl (T 3, 4, .inr (.inr (.inr (.inr ((fun i => some (b (2 + 2 * i))))))))), ((b2 0), .inr (2, [.ref (b2 1), .int (t2 0), .int (t2 1), .int (t2 2)])), ((b2 1), .inl (T 3, 4, .inr (.inr (.inr (.inr ((fun i => some (b2 (2 + 2 * i)))))))))] ++ (stT T b (cpU P P2 (k + 1)) (cpU E E2 (k + 1)) ++ stT T b2 P2 E2)) := cd_unf (h4 := [_, _, _, _]) hk4 hD
        refine lv_iinc (v := nI (k + 1)) (lv' := [(2, .int (nI (k + 1))), (0, .ref (b 0)), (1, .ref (b2 0))]) hx hb dX2_copyFrom_22 hl (k := 2) rfl (nI_1 k) (by decide) rfl (fun ls hl => ?_)
        refine lv_goto (tgt := 2) hx hb dX2_copyFrom_25 (by decide) ?_
        exact ih (k + 1) ls _ _ (by omega) (by omega) hP hD hS (lv_sub hl [1, 2, 0] rfl)
  exact loop 5 0 ls _ _ (by omega) (by omega) hP hD hS (lv_sub hl [1, 2, 0] rfl)

def rmX2_letPass : Room := { frames := 4, cells := 0, slots := 0, locals := 88 }
set_option maxHeartbeats 4000000 in
set_option maxRecDepth 100000 in
theorem mX2_letPass (l : Launch) (T : Nat → ClassId) (D : va_G) (b : Nat → Nat) (t : Nat → Int32) (P : Nat → Nat → Int32) (E : Nat → Nat → Int64) (hk : ∀ p, p < 4 → kOk (P p)) (x : Int32) : MuI l yX2_letPass wsX2_letPass rmX2_letPass T xN D [.ref (b 0), .int x] ([((b 0), .inr (2, [.ref (b 1), .int (t 0), .int (t 1), .int (t 2)])), ((b 1), .inl (T 3, 4, .inr (.inr (.inr (.inr ((fun i => some (b (2 + 2 * i)))))))))] ++ stT T b P E) (S := SG) (fun r u => (r, u) = oPs x (t, P, E)) (fun u => stW T b u.1 u.2.1 u.2.2) 0 0 := by
  refine met_mi (cc := cX2_letPass) (maxL := 5) (by decide) rfl (Nat.le_of_ble_eq_true rfl) ?_
  intro p_ e s m args below meth c ls A Q hx hb hts hown hml hX hP hD hK hS hA hl hret
  have hl : lv_has ls 5 [(0, .ref (b 0)), (1, .int x)] := hl
  obtain ⟨H, hH⟩ : ∃ H, H = s.heap := ⟨_, rfl⟩
  have hS : va_S A s.heap H [] := by rw [hH]; exact hS
  rw [← hH] at hP ⊢
  refine lv_iload_n hx hb dX2_letPass_0 rfl (lv_at hl 1 rfl) ?_
  refine lv_iconst (v := 1) hx hb dX2_letPass_1 (by decide) ?_
  refine lv_icmp_lt (tgt := 11) hx hb dX2_letPass_2 (by decide) (fun c2 => ?_) (fun c2 => ?_)
  · skip
    refine lv_bipush (v := (-2)) hx hb dX2_letPass_11 (by decide) ?_
    exact hret _ _ _ (t, P, E) _ _ dX2_letPass_13 hS hP hD (by rw [oPs_f _ (fun z => absurd z.1 (Int32.not_le.mpr c2))])
  · skip
    refine lv_iload_n hx hb dX2_letPass_5 rfl (lv_at hl 1 rfl) ?_
    refine lv_bipush (v := 99) hx hb dX2_letPass_6 (by decide) ?_
    refine lv_icmp_le (tgt := 14) hx hb dX2_letPass_8 (by decide) (fun c8 => ?_) (fun c8 => ?_)
    · skip
      obtain ⟨n, hn, rfl⟩ := rng_of (n := 99) (by decide) ⟨Int32.le_trans (by decide) (Int32.not_lt.mp c2), c8⟩
      have hn1 : 1 ≤ n := (nI_leI (a := 1) (by decide) (by omega)).mp (Int32.not_lt.mp c2)
      refine lv_aload_n hx hb dX2_letPass_14 rfl (lv_at hl 0 rfl) ?_
      refine va_get (D := D) (ci := 2) (v := .int (t 0)) (C := RX2) (T := TX2) (N := 4) hx hb hts inwX2_letPass_X2 hown hK hP 0 rfl rfl 1 (by decide) (hts (.fieldLink RX2 22 "PlateSlabs$State" "tick" "I") (List.mem_of_getElem? (i := 1) rfl)) (fun _ h9 => h9) rfl dX2_letPass_15 ?_
      refine lv_iload_n hx hb dX2_letPass_18 rfl (lv_at hl 1 rfl) ?_
      refine lv_iadd hx hb dX2_letPass_19 ?_
      refine lv_ldc (v := 99999) hx hb hown (hts (.constant RX2 95 (99999)) (List.mem_of_getElem? (i := 2) rfl)) dX2_letPass_20 ?_
      refine lv_icmp_le (tgt := 28) hx hb dX2_letPass_22 (by decide) (fun c22 => ?_) (fun c22 => ?_)
      · skip
        refine lv_iconst (v := 0) hx hb dX2_letPass_28 (by decide) ?_
        refine lv_istore_n (lv' := [(2, .int 0), (0, .ref (b 0)), (1, .int (nI n))]) hx hb dX2_letPass_29 rfl hl (by decide) rfl (fun ls hl => ?_)
        refine lv_iconst (v := nI 0) hx hb dX2_letPass_30 (by decide) ?_
        refine lv_istore_n (lv' := [(3, .int (nI 0)), (2, .int 0), (0, .ref (b 0)), (1, .int (nI n))]) hx hb dX2_letPass_31 rfl hl (by decide) rfl (fun ls hl => ?_)
        have loop : ∀ (j : Nat) (i : Nat) (x2 : Int32) (x3 : Int32) (g : SG) (ls : Array Slot) (H : Heap) (locs : List Loc), (n + 1 ≤ i + j) → (i ≤ n) → (x3 = nI i) → (x2 = kLast i (t, P, E)) → (g = oTicks i (t, P, E)) → va_P D vwCl ([((b 0), .inr (2, [.ref (b 1), .int (g.1 0), .int (g.1 1), .int (g.1 2)])), ((b 1), .inl (T 3, 4, .inr (.inr (.inr (.inr ((fun i => some (b (2 + 2 * i)))))))))] ++ stT T b g.2.1 g.2.2) H → va_D A ([((b 0), .inr (2, [.ref (b 1), .int (g.1 0), .int (g.1 1), .int (g.1 2)])), ((b 1), .inl (T 3, 4, .inr (.inr (.inr (.inr ((fun i => some (b (2 + 2 * i)))))))))] ++ stT T b g.2.1 g.2.2) → va_S A s.heap H locs → lv_has ls 5 [(0, .ref (b 0)), (1, .int (nI n)), (2, .int x2), (3, .int x3)] → W p_ l e rmX2_letPass s m args below meth c H locs 0 0 Q (F0 m 32 ls []) := by
          intro j
          induction j with
          | zero => intro i x2 x3 g ls H locs hm hi; exact absurd hm (by omega)
          | succ j ih =>
            intro i x2 x3 g ls H locs hm hi e3 e2 eg hP hD hS hl
            obtain ⟨t0, P0, E0⟩ := g
            have hk0 : ∀ q, q < 4 → kOk (P0 q) := by
              have z := kOk_ticks (g := (t, P, E)) hk i
              rw [← eg] at z
              exact z
            have hP : va_P D vwCl ([((b 0), .inr (2, [.ref (b 1), .int (t0 0), .int (t0 1), .int (t0 2)])), ((b 1), .inl (T 3, 4, .inr (.inr (.inr (.inr ((fun i => some (b (2 + 2 * i)))))))))] ++ stT T b P0 E0) H := hP
            have hD : va_D A ([((b 0), .inr (2, [.ref (b 1), .int (t0 0), .int (t0 1), .int (t0 2)])), ((b 1), .inl (T 3, 4, .inr (.inr (.inr (.inr ((fun i => some (b (2 + 2 * i)))))))))] ++ stT T b P0 E0) := hD
            refine lv_iload_n hx hb dX2_letPass_32 rfl (lv_at hl 3 rfl) ?_
            skip
            refine lv_iload_n hx hb dX2_letPass_33 rfl (lv_at hl 1 rfl) ?_
            refine lv_icmp_ge (tgt := 86) hx hb dX2_letPass_34 (by decide) (fun c34 => ?_) (fun c34 => ?_)
            · skip
              have ei : n = i := by
                rw [e3] at c34
                have := (nI_leI (a := n) (b := i) (by omega) (by omega)).mp c34
                omega
              subst ei
              refine lv_aload_n hx hb dX2_letPass_86 rfl (lv_at hl 0 rfl) ?_
              refine lv_dup hx hb dX2_letPass_87 rfl ?_
              refine va_get (D := D) (ci := 2) (v := .int (t0 0)) (C := RX2) (T := TX2) (N := 4) hx hb hts inwX2_letPass_X2 hown hK hP 0 rfl rfl 1 (by decide) (hts (.fieldLink RX2 22 "PlateSlabs$State" "tick" "I") (List.mem_of_getElem? (i := 1) rfl)) (fun _ h9 => h9) rfl dX2_letPass_88 ?_
              refine lv_iload_n hx hb dX2_letPass_91 rfl (lv_at hl 1 rfl) ?_
              refine lv_iadd hx hb dX2_letPass_92 ?_
              refine va_put (D := D) (ci := 2) (v := .int ((t0 0) + (nI n))) (C := RX2) (T := TX2) (N := 4) hx hb hts inwX2_letPass_X2 tyX2 tyX2_ok nmX2 hown hK hP hD hS 0 rfl rfl 1 (by decide) (hts (.fieldLink RX2 22 "PlateSlabs$State" "tick" "I") (List.mem_of_getElem? (i := 1) rfl)) (fun _ h9 => h9) rfl (tyX2_ok 1 (by decide)) (rfl) (rfl) (Nat.le_of_ble_eq_true rfl) dX2_letPass_93 (fun H locs hP hD hS => ?_)
              have hP : va_P D vwCl ([((b 0), .inr (2, [.ref (b 1), .int ((t0 0) + (nI n)), .int (t0 1), .int (t0 2)])), ((b 1), .inl (T 3, 4, .inr (.inr (.inr (.inr ((fun i => some (b (2 + 2 * i)))))))))] ++ stT T b P0 E0) H := hP
              have hD : va_D A ([((b 0), .inr (2, [.ref (b 1), .int ((t0 0) + (nI n)), .int (t0 1), .int (t0 2)])), ((b 1), .inl (T 3, 4, .inr (.inr (.inr (.inr ((fun i => some (b (2 + 2 * i)))))))))] ++ stT T b P0 E0) := hD
              refine lv_iload_n hx hb dX2_letPass_96 rfl (lv_at hl 2 rfl) ?_
              exact hret _ _ _ (upd t0 0 (t0 0 + nI n), P0, E0) _ _ dX2_letPass_97 hS hP hD (by rw [oPs_t hn1 hn, oPass, if_neg (Int32.not_lt.mpr c22), ← eg, e2])
            · skip
              have hlt : i < n := by
                rw [e3] at c34
                have := mt (nI_leI (a := n) (b := i) (by omega) (by omega)).mpr c34
                omega
              refine lv_iconst (v := 0) hx hb dX2_letPass_37 (by decide) ?_
              refine lv_istore_n (lv' := [(2, .int 0), (0, .ref (b 0)), (1, .int (nI n)), (3, .int x3)]) hx hb dX2_letPass_38 rfl hl (by decide) rfl (fun ls hl => ?_)
              refine lv_iconst (v := nI 0) hx hb dX2_letPass_39 (by decide) ?_
              refine lv_istore (lv' := [(4, .int (nI 0)), (2, .int 0), (0, .ref (b 0)), (1, .int (nI n)), (3, .int x3)]) hx hb dX2_letPass_40 hl (by decide) rfl (fun ls hl => ?_)
              have loopI : ∀ (jI : Nat) (k : Nat) (y2 : Int32) (ls : Array Slot) (H : Heap) (locs : List Loc), (5 ≤ k + jI) → (k ≤ 4) → (y2 = mvU P0 k) → va_P D vwCl ([((b 0), .inr (2, [.ref (b 1), .int (t0 0), .int (t0 1), .int (t0 2)])), ((b 1), .inl (T 3, 4, .inr (.inr (.inr (.inr ((fun i => some (b (2 + 2 * i)))))))))] ++ stT T b (tkU P0 k) (teU P0 E0 k)) H → va_D A ([((b 0), .inr (2, [.ref (b 1), .int (t0 0), .int (t0 1), .int (t0 2)])), ((b 1), .inl (T 3, 4, .inr (.inr (.inr (.inr ((fun i => some (b (2 + 2 * i)))))))))] ++ stT T b (tkU P0 k) (teU P0 E0 k)) → va_S A s.heap H locs → lv_has ls 5 [(0, .ref (b 0)), (1, .int (nI n)), (2, .int y2), (3, .int x3), (4, .int (nI k))] → W p_ l e rmX2_letPass s m args below meth c H locs 0 0 Q (F0 m 42 ls []) := by
                intro jI
                induction jI with
                | zero => intro k y2 ls H locs hm hi; exact absurd hm (by omega)
                | succ jI ihI =>
                  intro k y2 ls H locs hm hi ey hP hD hS hl
                  refine lv_iload hx hb dX2_letPass_42 (lv_at hl 4 rfl) ?_
                  refine lv_iconst (v := nI 4) hx hb dX2_letPass_44 (by decide) ?_
                  refine lv_icmp_ge (tgt := 70) hx hb dX2_letPass_45 (by decide) (fun c45 => ?_) (fun c45 => ?_)
                  · skip
                    have ek : k = 4 := by
                      have := (nI_leI (a := 4) (b := k) (by decide) (by omega)).mp c45
                      omega
                    subst ek
                    refine lv_aload_n hx hb dX2_letPass_70 rfl (lv_at hl 0 rfl) ?_
                    refine lv_dup hx hb dX2_letPass_71 rfl ?_
                    refine va_get (D := D) (ci := 2) (v := .int (t0 2)) (C := RX2) (T := TX2) (N := 4) hx hb hts inwX2_letPass_X2 hown hK hP 0 rfl rfl 3 (by decide) (hts (.fieldLink RX2 29 "PlateSlabs$State" "steps" "I") (List.mem_of_getElem? (i := 4) rfl)) (fun _ h9 => h9) rfl dX2_letPass_72 ?_
                    refine lv_iload_n hx hb dX2_letPass_75 rfl (lv_at hl 2 rfl) ?_
                    refine lv_iadd hx hb dX2_letPass_76 ?_
                    refine va_put (D := D) (ci := 2) (v := .int ((t0 2) + y2)) (C := RX2) (T := TX2) (N := 4) hx hb hts inwX2_letPass_X2 tyX2 tyX2_ok nmX2 hown hK hP hD hS 0 rfl rfl 3 (by decide) (hts (.fieldLink RX2 29 "PlateSlabs$State" "steps" "I") (List.mem_of_getElem? (i := 4) rfl)) (fun _ h9 => h9) rfl (tyX2_ok 3 (by decide)) (rfl) (rfl) (Nat.le_of_ble_eq_true rfl) dX2_letPass_77 (fun H locs hP hD hS => ?_)
                    have hP : va_P D vwCl ([((b 0), .inr (2, [.ref (b 1), .int (t0 0), .int (t0 1), .int ((t0 2) + y2)])), ((b 1), .inl (T 3, 4, .inr (.inr (.inr (.inr ((fun i => some (b (2 + 2 * i)))))))))] ++ stT T b (tkU P0 4) (teU P0 E0 4)) H := hP
                    have hD : va_D A ([((b 0), .inr (2, [.ref (b 1), .int (t0 0), .int (t0 1), .int ((t0 2) + y2)])), ((b 1), .inl (T 3, 4, .inr (.inr (.inr (.inr ((fun i => some (b (2 + 2 * i)))))))))] ++ stT T b (tkU P0 4) (teU P0 E0 4)) := hD
                    obtain ⟨z3_, ez3_⟩ : ∃ y : Int32, y = x3 + 1 := ⟨_, rfl⟩
                    refine lv_iinc (v := z3_) (lv' := [(3, .int z3_), (0, .ref (b 0)), (1, .int (nI n)), (2, .int y2), (4, .int (nI 4))]) hx hb dX2_letPass_80 hl (k := 3) rfl (by rw [ez3_]; rfl) (by decide) rfl (fun ls hl => ?_)
                    refine lv_goto (tgt := 32) hx hb dX2_letPass_83 (by decide) ?_
                    have ft : upd t0 2 (t0 2 + y2) = upd t0 2 (t0 2 + kMv P0) := by rw [ey, mvU_4]
                    exact ih (i + 1) _ _ (upd t0 2 (t0 2 + y2), kAll P0, kAllE P0 E0) ls _ _ (by omega) (by omega) (by rw [ez3_, e3, nI_1]) (by rw [ey, mvU_4]; show kMv P0 = kMv (oTicks i (t, P, E)).2.1; rw [← eg]) (by show _ = oTick (oTicks i (t, P, E)); rw [← eg, ft]; rfl) hP hD hS (lv_sub hl [1, 2, 3, 0] rfl)
                  · skip
                    have hk4 : k < 4 := by
                      have := mt (nI_leI (a := 4) (b := k) (by decide) (by omega)).mpr c45
                      omega
                    refine lv_aload_n hx hb dX2_letPass_48 rfl (lv_at hl 0 rfl) ?_
                    refine va_get (D := D) (ci := 2) (v := .ref (b 1)) (C := RX2) (T := TX2) (N := 4) hx hb hts inwX2_letPass_X2 hown hK hP 0 rfl rfl 0 (by decide) (hts (.fieldLink RX2 11 "PlateSlabs$State" "pairs" "[LPlateSlabs$Plates;") (List.mem_of_getElem? (i := 3) rfl)) (fun _ h9 => h9) rfl dX2_letPass_49 ?_
                    refine lv_iload hx hb dX2_letPass_52 (lv_at hl 4 rfl) ?_
                    refine va_aldq hx hb hK hP 1 3 rfl rfl (vp_in_nI (by omega) (by decide)) dX2_letPass_54 ?_
                    refine lv_tpv (congrArg (fun z => va_rf ((fun i => some (b (2 + 2 * i))) z)) (nI_clamp (by omega))) ?_
                    have fP : tkU P0 k k = P0 k := tkU_ge P0 k (Nat.le_refl k)
                    have fE : teU P0 E0 k k = E0 k := teU_ge P0 E0 k (Nat.le_refl k)
                    have hP : va_P D vwCl ([((b (2 + 2 * k)), .inr (1, [.ref (b (3 + 2 * k)), .int ((P0 k) 6), .int ((P0 k) 7), .int ((P0 k) 8), .int ((P0 k) 9), .long ((E0 k) 0), .long ((E0 k) 1), .long ((E0 k) 2)])), ((b (3 + 2 * k)), .inl (T 0, 6, .inl ((P0 k)))), ((b 0), .inr (2, [.ref (b 1), .int (t0 0), .int (t0 1), .int (t0 2)])), ((b 1), .inl (T 3, 4, .inr (.inr (.inr (.inr ((fun i => some (b (2 + 2 * i)))))))))] ++ stO T b (tkU P0 k) (teU P0 E0 k) k) H := by
                      have z := st_foc hk4 hP
                      rw [plB, fP, fE] at z
                      exact z
                    have hD : va_D A ([((b (2 + 2 * k)), .inr (1, [.ref (b (3 + 2 * k)), .int ((P0 k) 6), .int ((P0 k) 7), .int ((P0 k) 8), .int ((P0 k) 9), .long ((E0 k) 0), .long ((E0 k) 1), .long ((E0 k) 2)])), ((b (3 + 2 * k)), .inl (T 0, 6, .inl ((P0 k)))), ((b 0), .inr (2, [.ref (b 1), .int (t0 0), .int (t0 1), .int (t0 2)])), ((b 1), .inl (T 3, 4, .inr (.inr (.inr (.inr ((fun i => some (b (2 + 2 * i)))))))))] ++ stO T b (tkU P0 k) (teU P0 E0 k) k) := by
                      have z := sd_foc hk4 hD
                      rw [plB, fP, fE] at z
                      exact z
                    refine callMi (As := []) (wr := [((b 0), .inr (2, [.ref (b 1), .int (t0 0), .int (t0 1), .int (t0 2)])), ((b 1), .inl (T 3, 4, .inr (.inr (.inr (.inr ((fun i => some (b (2 + 2 * i)))))))))] ++ stO T b (tkU P0 k) (teU P0 E0 k) k) ⟨hx, hb, hml, hown, hts⟩ (mX1_movesInTick l T D (b (2 + 2 * k)) (b (3 + 2 * k)) (P0 k) (E0 k) (hk0 k hk4)) (cwV 0 hts gX2_letPass_X1_movesInTick rfl rfl rfl pdX1_movesInTick ⟨Nat.le_of_ble_eq_true rfl, Nat.le_of_ble_eq_true rfl⟩) hP hD hK hS hA xN_bl (fun U _ hW => XN_warm hW hX) (ci := 1) rfl rfl rfl hl.1 rfl rfl (Nat.le_of_ble_eq_true rfl) dX2_letPass_55 ⟨Nat.zero_le _, Nat.zero_le _⟩ (fun r1_ u2_ H locs eu2_ hP hD hS hkf => ?_)
                    have hP : va_P D vwCl ([((b 0), .inr (2, [.ref (b 1), .int (t0 0), .int (t0 1), .int (t0 2)])), ((b 1), .inl (T 3, 4, .inr (.inr (.inr (.inr ((fun i => some (b (2 + 2 * i)))))))))] ++ stT T b (tkU P0 (k + 1)) (teU P0 E0 (k + 1))) H := st_unf hk4 hP
                    have hD : va_D A ([((b 0), .inr (2, [.ref (b 1), .int (t0 0), .int (t0 1), .int (t0 2)])), ((b 1), .inl (T 3, 4, .inr (.inr (.inr (.inr ((fun i => some (b (2 + 2 * i)))))))))] ++ stT T b (tkU P0 (k + 1)) (teU P0 E0 (k + 1))) := sd_unf hk4 hD
                    obtain rfl : r1_ = bI (¬ kBy (kLeakP (P0 k)) = 0) := eu2_
                    refine lv_if_eq (tgt := 64) hx hb dX2_letPass_58 (by decide) (fun c58 => ?_) (fun c58 => ?_)
                    · skip
                      have c58 := bI_0 c58
                      refine lv_iinc (v := nI (k + 1)) (lv' := [(4, .int (nI (k + 1))), (0, .ref (b 0)), (1, .int (nI n)), (2, .int y2), (3, .int x3)]) hx hb dX2_letPass_64 hl (k := 4) rfl (nI_1 k) (by decide) rfl (fun ls hl => ?_)
                      refine lv_goto (tgt := 42) hx hb dX2_letPass_67 (by decide) ?_
                      exact ihI (k + 1) _ ls _ _ (by omega) (by omega) (by show y2 = mvU P0 k + kMoved (P0 k); rw [moved_0 (Decidable.not_not.mp c58), Int32.add_zero, ey]) hP hD hS (lv_sub hl [1, 2, 3, 4, 0] rfl)
                    · skip
                      have c58 := bI_n0 c58
                      obtain ⟨w2_, ew2_⟩ : ∃ y : Int32, y = y2 + 1 := ⟨_, rfl⟩
                      refine lv_iinc (v := w2_) (lv' := [(2, .int w2_), (0, .ref (b 0)), (1, .int (nI n)), (3, .int x3), (4, .int (nI k))]) hx hb dX2_letPass_61 hl (k := 2) rfl (by rw [ew2_]; rfl) (by decide) rfl (fun ls hl => ?_)
                      refine lv_iinc (v := nI (k + 1)) (lv' := [(4, .int (nI (k + 1))), (2, .int w2_), (0, .ref (b 0)), (1, .int (nI n)), (3, .int x3)]) hx hb dX2_letPass_64 hl (k := 4) rfl (nI_1 k) (by decide) rfl (fun ls hl => ?_)
                      refine lv_goto (tgt := 42) hx hb dX2_letPass_67 (by decide) ?_
                      exact ihI (k + 1) _ ls _ _ (by omega) (by omega) (by show w2_ = mvU P0 k + kMoved (P0 k); rw [moved_1 c58, ew2_, ey]) hP hD hS (lv_sub hl [2, 3, 1, 4, 0] rfl)
              exact loopI 5 0 0 ls _ _ (by omega) (by omega) rfl hP hD hS (lv_sub hl [2, 3, 1, 4, 0] rfl)
        exact loop (n + 1) 0 0 0 (t, P, E) ls _ _ (by omega) (Nat.zero_le _) rfl rfl rfl hP hD hS (lv_sub hl [2, 3, 1, 0] rfl)
      · skip
        refine lv_bipush (v := (-3)) hx hb dX2_letPass_25 (by decide) ?_
        exact hret _ _ _ (t, P, E) _ _ dX2_letPass_27 hS hP hD (by rw [oPs_t hn1 hn, oPass, if_pos (Int32.not_le.mp c22)])
    · skip
      refine lv_bipush (v := (-2)) hx hb dX2_letPass_11 (by decide) ?_
      exact hret _ _ _ (t, P, E) _ _ dX2_letPass_13 hS hP hD (by rw [oPs_f _ (fun z => absurd z.2 c8)])
