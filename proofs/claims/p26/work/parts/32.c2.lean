abbrev plW (T : Nat → ClassId) (a q : Nat) (V : Nat → Int32) (G : Nat → Int64) : va_W := [(a, .inr (1, [.ref q, .int (V 6), .int (V 7), .int (V 8), .int (V 9), .long (G 0), .long (G 1), .long (G 2)])), (q, .inl (T 0, 6, .inl V))]
theorem cpy6 {f g : Nat → Int32} : ∀ j, j < 6 → va_cpy f g (Int32.toNatClampNeg 0) (Int32.toNatClampNeg 0) (Int32.toNatClampNeg 6) j = f j := fun j hj => by
  rw [show Int32.toNatClampNeg 0 = 0 by decide, show Int32.toNatClampNeg 6 = 6 by decide, va_cpy, if_pos (by omega), Nat.sub_zero, Nat.zero_add]
theorem fit_z {r : Int32} (h : r = 0 ∨ r = 1) : fits (tyX1 4) (.int r) = true := by rcases h with rfl | rfl <;> rfl
theorem pdX1_leakAway : yX1_leakAway.cls = RX1 ∧ yX1_leakAway.cls ≠ "java/lang/invoke/MethodHandle" ∧ yX1_leakAway.cls ≠ "java/lang/invoke/VarHandle" ∧ (parseMethodDescriptor yX1_leakAway.desc).map (fun d => d.parameters.length) = some 0 := by decide +kernel
theorem pdX1_holdVoltage : yX1_holdVoltage.cls = RX1 ∧ yX1_holdVoltage.cls ≠ "java/lang/invoke/MethodHandle" ∧ yX1_holdVoltage.cls ≠ "java/lang/invoke/VarHandle" ∧ (parseMethodDescriptor yX1_holdVoltage.desc).map (fun d => d.parameters.length) = some 0 := by decide +kernel
theorem pdX1_movesInTick : yX1_movesInTick.cls = RX1 ∧ yX1_movesInTick.cls ≠ "java/lang/invoke/MethodHandle" ∧ yX1_movesInTick.cls ≠ "java/lang/invoke/VarHandle" ∧ (parseMethodDescriptor yX1_movesInTick.desc).map (fun d => d.parameters.length) = some 0 := by decide +kernel
theorem pdX1_copyFrom : yX1_copyFrom.cls = RX1 ∧ yX1_copyFrom.cls ≠ "java/lang/invoke/MethodHandle" ∧ yX1_copyFrom.cls ≠ "java/lang/invoke/VarHandle" ∧ (parseMethodDescriptor yX1_copyFrom.desc).map (fun d => d.parameters.length) = some 1 := by decide +kernel
theorem inwX1_leakAway_X1 : ∀ w ∈ wsX10, w ∈ wsX1_leakAway := by decide +kernel
theorem inwX1_holdVoltage_X1 : ∀ w ∈ wsX10, w ∈ wsX1_holdVoltage := by decide +kernel
theorem inwX1_movesInTick_X1 : ∀ w ∈ wsX10, w ∈ wsX1_movesInTick := by decide +kernel
theorem inwX1_copyFrom_X1 : ∀ w ∈ wsX10, w ∈ wsX1_copyFrom := by decide +kernel
def rmX1_leakAway : Room := { frames := 2, cells := 0, slots := 0, locals := 43 }
set_option maxHeartbeats 4000000 in
set_option maxRecDepth 100000 in
theorem mX1_leakAway (l : Launch) (T : Nat → ClassId) (D : va_G) (a q : Nat) (V : Nat → Int32) (G : Nat → Int64) (hk : kOk V) : MuV l yX1_leakAway wsX1_leakAway rmX1_leakAway T xN D [.ref a] [(a, .inr (1, [.ref q, .int (V 6), .int (V 7), .int (V 8), .int (V 9), .long (G 0), .long (G 1), .long (G 2)])), (q, .inl (T 0, 6, .inl (V)))] (S := Unit) (fun _ => True) (fun _ => plW T a q (kLeakP V) (kLeakE V G)) 0 0 := by
  refine met_mv (cc := cX1_leakAway) (maxL := 3) (by decide) rfl (Nat.le_of_ble_eq_true rfl) ?_
  intro p_ e s m args below meth c ls A Q hx hb hts hown hml hX hP hD hK hS hA hl hin hret
  have hl : lv_has ls 3 [(0, .ref a)] := hl
  refine lv_aload_n hx hb dX1_leakAway_0 rfl (lv_at hl 0 rfl) ?_
  refine va_get (D := D) (ci := 1) (v := .int (V 9)) (C := RX1) (T := TX1) (N := 8) hx hb hts inwX1_leakAway_X1 hown hK hP 0 rfl rfl 4 (by decide) (hts (.fieldLink RX1 41 "PlateSlabs$Plates" "isOn" "Z") (List.mem_of_getElem? (i := 1) rfl)) (fun _ h9 => h9) rfl dX1_leakAway_1 ?_
  refine lv_if_eq (tgt := 8) hx hb dX1_leakAway_4 (by decide) (fun c4 => ?_) (fun c4 => ?_)
  · skip
    have h9 := off_of c4
    refine lv_aload_n hx hb dX1_leakAway_8 rfl (lv_at hl 0 rfl) ?_
    refine callRl (As := []) ⟨hx, hb, hml, hown, hts⟩ (mX1_stored l T D a q V G hk) (cwV 0 hts gX1_leakAway_X1_stored rfl rfl rfl pdX1_stored ⟨Nat.le_of_ble_eq_true rfl, Nat.le_of_ble_eq_true rfl⟩) hP hK xN_bl (fun U _ hW => XN_warm hW hX) (ci := 1) rfl rfl rfl hl.1 rfl rfl (Nat.le_of_ble_eq_true rfl) dX1_leakAway_9 ⟨Nat.zero_le _, Nat.zero_le _⟩ (fun r1_ er1_ => ?_)
    obtain rfl : r1_ = kStored V := er1_
    refine lv_topl (fun x1_ ex1_ => ?_)
    refine lv_lstore_n (lv' := [(1, .long x1_), (0, .ref a)]) hx hb dX1_leakAway_12 rfl hl (by decide) rfl (fun ls hl => ?_)
    refine lv_aload_n hx hb dX1_leakAway_13 rfl (lv_at hl 1 rfl) ?_
    refine lv_dup hx hb dX1_leakAway_14 rfl ?_
    refine va_get (D := D) (ci := 1) (v := .int (V 7)) (C := RX1) (T := TX1) (N := 8) hx hb hts inwX1_leakAway_X1 hown hK hP 0 rfl rfl 2 (by decide) (hts (.fieldLink RX1 38 "PlateSlabs$Plates" "charge" "I") (List.mem_of_getElem? (i := 2) rfl)) (fun _ h9 => h9) rfl dX1_leakAway_15 ?_
    refine lv_aload_n hx hb dX1_leakAway_18 rfl (lv_at hl 1 rfl) ?_
    refine va_get (D := D) (ci := 1) (v := .int (V 7)) (C := RX1) (T := TX1) (N := 8) hx hb hts inwX1_leakAway_X1 hown hK hP 0 rfl rfl 2 (by decide) (hts (.fieldLink RX1 38 "PlateSlabs$Plates" "charge" "I") (List.mem_of_getElem? (i := 2) rfl)) (fun _ h9 => h9) rfl dX1_leakAway_19 ?_
    refine lv_aload_n hx hb dX1_leakAway_22 rfl (lv_at hl 1 rfl) ?_
    refine va_get (D := D) (ci := 1) (v := .ref q) (C := RX1) (T := TX1) (N := 8) hx hb hts inwX1_leakAway_X1 hown hK hP 0 rfl rfl 0 (by decide) (hts (.fieldLink RX1 9 "PlateSlabs$Plates" "settings" "[I") (List.mem_of_getElem? (i := 3) rfl)) (fun _ h9 => h9) rfl dX1_leakAway_23 ?_
    refine lv_iconst (v := 5) hx hb dX1_leakAway_26 (by decide) ?_
    refine va_iald hx hb hK hP 1 0 rfl rfl (in_lit (by decide)) dX1_leakAway_27 ?_
    refine lv_tpi (congrArg (fun z => V z) (cl_5)) ?_
    refine lv_imul hx hb dX1_leakAway_28 ?_
    refine lv_sipush (v := 1000) hx hb dX1_leakAway_29 (by decide) ?_
    refine lv_idiv hx hb dX1_leakAway_32 (by decide) ?_
    refine lv_tpi (z := kLeak V (V 7)) (kLeak_cls (kOk_5 hk) (kOk_7 hk)) ?_
    refine lv_isub hx hb dX1_leakAway_33 ?_
    refine va_put (D := D) (ci := 1) (v := .int ((V 7) - (kLeak V (V 7)))) (C := RX1) (T := TX1) (N := 8) hx hb hts inwX1_leakAway_X1 tyX1 tyX1_ok nmX1 hown hK hP hD hS 0 rfl rfl 2 (by decide) (hts (.fieldLink RX1 38 "PlateSlabs$Plates" "charge" "I") (List.mem_of_getElem? (i := 2) rfl)) (fun _ h9 => h9) rfl (tyX1_ok 2 (by decide)) (rfl) (rfl) (Nat.le_of_ble_eq_true rfl) dX1_leakAway_34 (fun H locs hP hD hS => ?_)
    have hP : va_P D vwCl [(a, .inr (1, [.ref q, .int (V 6), .int ((V 7) - (kLeak V (V 7))), .int (V 8), .int (V 9), .long (G 0), .long (G 1), .long (G 2)])), (q, .inl (T 0, 6, .inl (V)))] H := hP
    have hD : va_D A [(a, .inr (1, [.ref q, .int (V 6), .int ((V 7) - (kLeak V (V 7))), .int (V 8), .int (V 9), .long (G 0), .long (G 1), .long (G 2)])), (q, .inl (T 0, 6, .inl (V)))] := hD
    obtain ⟨V1, eV1⟩ : ∃ z, z = upd V 7 (V 7 - kLeak V (V 7)) := ⟨_, rfl⟩
    have hP : va_P D vwCl [(a, .inr (1, [.ref q, .int (V1 6), .int (V1 7), .int (V1 8), .int (V1 9), .long (G 0), .long (G 1), .long (G 2)])), (q, .inl (T 0, 6, .inl (V1)))] H := by rw [eV1]; exact wP_re hP 1 rfl (at_i (fun j hj => (upd_n (by omega)).symm))
    have hD : va_D A [(a, .inr (1, [.ref q, .int (V1 6), .int (V1 7), .int (V1 8), .int (V1 9), .long (G 0), .long (G 1), .long (G 2)])), (q, .inl (T 0, 6, .inl (V1)))] := by rw [eV1]; exact wD_ad hD rfl
    have fP : kLeakP V = V1 := by rw [kLeakP, if_neg h9, eV1]
    have hk1 : kOk V1 := by rw [← fP]; exact kOk_leak hk
    refine lv_aload_n hx hb dX1_leakAway_37 rfl (lv_at hl 1 rfl) ?_
    refine lv_dup hx hb dX1_leakAway_38 rfl ?_
    refine va_get (D := D) (ci := 1) (v := .long (G 1)) (C := RX1) (T := TX1) (N := 8) hx hb hts inwX1_leakAway_X1 hown hK hP 0 rfl rfl 6 (by decide) (hts (.fieldLink RX1 49 "PlateSlabs$Plates" "leaked" "J") (List.mem_of_getElem? (i := 4) rfl)) (fun _ h9 => h9) rfl dX1_leakAway_39 ?_
    refine lv_lload_n hx hb dX1_leakAway_42 rfl (lv_at hl 0 rfl) ?_
    refine lv_aload_n hx hb dX1_leakAway_43 rfl (lv_at hl 1 rfl) ?_
    refine callRl (As := []) ⟨hx, hb, hml, hown, hts⟩ (mX1_stored l T D a q V1 G hk1) (cwV 0 hts gX1_leakAway_X1_stored rfl rfl rfl pdX1_stored ⟨Nat.le_of_ble_eq_true rfl, Nat.le_of_ble_eq_true rfl⟩) hP hK xN_bl (fun U _ hW => XN_warm hW hX) (ci := 1) rfl rfl rfl hl.1 rfl rfl (Nat.le_of_ble_eq_true rfl) dX1_leakAway_44 ⟨Nat.zero_le _, Nat.zero_le _⟩ (fun r2_ er2_ => ?_)
    obtain rfl : r2_ = kStored V1 := er2_
    refine lv_lsub hx hb dX1_leakAway_47 ?_
    refine lv_ladd hx hb dX1_leakAway_48 ?_
    refine va_put (D := D) (ci := 1) (v := .long ((G 1) + (x1_ - (kStored V1)))) (C := RX1) (T := TX1) (N := 8) hx hb hts inwX1_leakAway_X1 tyX1 tyX1_ok nmX1 hown hK hP hD hS 0 rfl rfl 6 (by decide) (hts (.fieldLink RX1 49 "PlateSlabs$Plates" "leaked" "J") (List.mem_of_getElem? (i := 4) rfl)) (fun _ h9 => h9) rfl (tyX1_ok 6 (by decide)) (rfl) (rfl) (Nat.le_of_ble_eq_true rfl) dX1_leakAway_49 (fun H locs hP hD hS => ?_)
    have hP : va_P D vwCl [(a, .inr (1, [.ref q, .int (V1 6), .int (V1 7), .int (V1 8), .int (V1 9), .long (G 0), .long ((G 1) + (x1_ - (kStored V1))), .long (G 2)])), (q, .inl (T 0, 6, .inl (V1)))] H := hP
    have hD : va_D A [(a, .inr (1, [.ref q, .int (V1 6), .int (V1 7), .int (V1 8), .int (V1 9), .long (G 0), .long ((G 1) + (x1_ - (kStored V1))), .long (G 2)])), (q, .inl (T 0, 6, .inl (V1)))] := hD
    have fE : kLeakE V G = vp_updL G 1 (G 1 + (x1_ - kStored V1)) := by rw [kLeakE, if_neg h9, fP, ex1_]
    exact hret _ _ () _ _ dX1_leakAway_52 hS (by rw [fP, fE]; exact hP) (by rw [fP, fE]; exact hD) trivial
  · skip
    have h9 := on_of hk c4
    exact hret _ _ () _ _ dX1_leakAway_7 hS (by rw [kLeakP, if_pos h9, kLeakE, if_pos h9]; exact hP) (by rw [kLeakP, if_pos h9, kLeakE, if_pos h9]; exact hD) trivial

def rmX1_holdVoltage : Room := { frames := 1, cells := 0, slots := 0, locals := 21 }
set_option maxHeartbeats 4000000 in
set_option maxRecDepth 100000 in
theorem mX1_holdVoltage (l : Launch) (T : Nat → ClassId) (D : va_G) (a q : Nat) (V : Nat → Int32) (G : Nat → Int64) (hk : kOk V) : MuV l yX1_holdVoltage wsX1_holdVoltage rmX1_holdVoltage T xN D [.ref a] [(a, .inr (1, [.ref q, .int (V 6), .int (V 7), .int (V 8), .int (V 9), .long (G 0), .long (G 1), .long (G 2)])), (q, .inl (T 0, 6, .inl (V)))] (S := Unit) (fun _ => True) (fun _ => plW T a q (kHoldP V) (kHoldE V G)) 0 0 := by
  refine met_mv (cc := cX1_holdVoltage) (maxL := 2) (by decide) rfl (Nat.le_of_ble_eq_true rfl) ?_
  intro p_ e s m args below meth c ls A Q hx hb hts hown hml hX hP hD hK hS hA hl hin hret
  have hl : lv_has ls 2 [(0, .ref a)] := hl
  refine lv_aload_n hx hb dX1_holdVoltage_0 rfl (lv_at hl 0 rfl) ?_
  refine va_get (D := D) (ci := 1) (v := .int (V 9)) (C := RX1) (T := TX1) (N := 8) hx hb hts inwX1_holdVoltage_X1 hown hK hP 0 rfl rfl 4 (by decide) (hts (.fieldLink RX1 41 "PlateSlabs$Plates" "isOn" "Z") (List.mem_of_getElem? (i := 1) rfl)) (fun _ h9 => h9) rfl dX1_holdVoltage_1 ?_
  refine lv_if_ne (tgt := 8) hx hb dX1_holdVoltage_4 (by decide) (fun c4 => ?_) (fun c4 => ?_)
  · skip
    have h9 := on_of hk c4
    refine lv_aload_n hx hb dX1_holdVoltage_8 rfl (lv_at hl 0 rfl) ?_
    refine lv_aload_n hx hb dX1_holdVoltage_9 rfl (lv_at hl 0 rfl) ?_
    refine va_get (D := D) (ci := 1) (v := .int (V 6)) (C := RX1) (T := TX1) (N := 8) hx hb hts inwX1_holdVoltage_X1 hown hK hP 0 rfl rfl 1 (by decide) (hts (.fieldLink RX1 35 "PlateSlabs$Plates" "depth" "I") (List.mem_of_getElem? (i := 2) rfl)) (fun _ h9 => h9) rfl dX1_holdVoltage_10 ?_
    refine callRi (As := [.int (V 6)]) ⟨hx, hb, hml, hown, hts⟩ (mX1_capacityAt l T D a q V G (V 6)) (cwV 1 hts gX1_holdVoltage_X1_capacityAt rfl rfl rfl pdX1_capacityAt ⟨Nat.le_of_ble_eq_true rfl, Nat.le_of_ble_eq_true rfl⟩) hP hK xN_bl (fun U _ hW => XN_warm hW hX) (ci := 1) rfl rfl rfl hl.1 rfl rfl (Nat.le_of_ble_eq_true rfl) dX1_holdVoltage_13 ⟨Nat.zero_le _, Nat.zero_le _⟩ (fun r1_ er1_ => ?_)
    obtain rfl : r1_ = kCap V (V 6) := er1_
    refine lv_aload_n hx hb dX1_holdVoltage_16 rfl (lv_at hl 0 rfl) ?_
    refine va_get (D := D) (ci := 1) (v := .int (V 8)) (C := RX1) (T := TX1) (N := 8) hx hb hts inwX1_holdVoltage_X1 hown hK hP 0 rfl rfl 3 (by decide) (hts (.fieldLink RX1 15 "PlateSlabs$Plates" "voltage" "I") (List.mem_of_getElem? (i := 3) rfl)) (fun _ h9 => h9) rfl dX1_holdVoltage_17 ?_
    refine lv_imul hx hb dX1_holdVoltage_20 ?_
    refine lv_topi (fun x2_ ex2_ => ?_)
    refine lv_istore_n (lv' := [(1, .int x2_), (0, .ref a)]) hx hb dX1_holdVoltage_21 rfl hl (by decide) rfl (fun ls hl => ?_)
    refine lv_aload_n hx hb dX1_holdVoltage_22 rfl (lv_at hl 1 rfl) ?_
    refine lv_dup hx hb dX1_holdVoltage_23 rfl ?_
    refine va_get (D := D) (ci := 1) (v := .long (G 0)) (C := RX1) (T := TX1) (N := 8) hx hb hts inwX1_holdVoltage_X1 hown hK hP 0 rfl rfl 5 (by decide) (hts (.fieldLink RX1 45 "PlateSlabs$Plates" "gave" "J") (List.mem_of_getElem? (i := 4) rfl)) (fun _ h9 => h9) rfl dX1_holdVoltage_24 ?_
    refine lv_ldc2 (v := 2) hx hb hown (hts (.constantLong RX1 93 (2)) (List.mem_of_getElem? (i := 5) rfl)) dX1_holdVoltage_27 ?_
    refine lv_aload_n hx hb dX1_holdVoltage_30 rfl (lv_at hl 1 rfl) ?_
    refine va_get (D := D) (ci := 1) (v := .int (V 8)) (C := RX1) (T := TX1) (N := 8) hx hb hts inwX1_holdVoltage_X1 hown hK hP 0 rfl rfl 3 (by decide) (hts (.fieldLink RX1 15 "PlateSlabs$Plates" "voltage" "I") (List.mem_of_getElem? (i := 3) rfl)) (fun _ h9 => h9) rfl dX1_holdVoltage_31 ?_
    refine lv_i2l hx hb dX1_holdVoltage_34 rfl ?_
    refine lv_lmul hx hb dX1_holdVoltage_35 ?_
    refine lv_iload_n hx hb dX1_holdVoltage_36 rfl (lv_at hl 0 rfl) ?_
    refine lv_aload_n hx hb dX1_holdVoltage_37 rfl (lv_at hl 1 rfl) ?_
    refine va_get (D := D) (ci := 1) (v := .int (V 7)) (C := RX1) (T := TX1) (N := 8) hx hb hts inwX1_holdVoltage_X1 hown hK hP 0 rfl rfl 2 (by decide) (hts (.fieldLink RX1 38 "PlateSlabs$Plates" "charge" "I") (List.mem_of_getElem? (i := 6) rfl)) (fun _ h9 => h9) rfl dX1_holdVoltage_38 ?_
    refine lv_isub hx hb dX1_holdVoltage_41 ?_
    refine lv_i2l hx hb dX1_holdVoltage_42 rfl ?_
    refine lv_lmul hx hb dX1_holdVoltage_43 ?_
    refine lv_ladd hx hb dX1_holdVoltage_44 ?_
    refine va_put (D := D) (ci := 1) (v := .long ((G 0) + ((2 * (Int32.toInt64 (V 8))) * (Int32.toInt64 (x2_ - (V 7)))))) (C := RX1) (T := TX1) (N := 8) hx hb hts inwX1_holdVoltage_X1 tyX1 tyX1_ok nmX1 hown hK hP hD hS 0 rfl rfl 5 (by decide) (hts (.fieldLink RX1 45 "PlateSlabs$Plates" "gave" "J") (List.mem_of_getElem? (i := 4) rfl)) (fun _ h9 => h9) rfl (tyX1_ok 5 (by decide)) (rfl) (rfl) (Nat.le_of_ble_eq_true rfl) dX1_holdVoltage_45 (fun H locs hP hD hS => ?_)
    have hP : va_P D vwCl [(a, .inr (1, [.ref q, .int (V 6), .int (V 7), .int (V 8), .int (V 9), .long ((G 0) + ((2 * (Int32.toInt64 (V 8))) * (Int32.toInt64 (x2_ - (V 7))))), .long (G 1), .long (G 2)])), (q, .inl (T 0, 6, .inl (V)))] H := hP
    have hD : va_D A [(a, .inr (1, [.ref q, .int (V 6), .int (V 7), .int (V 8), .int (V 9), .long ((G 0) + ((2 * (Int32.toInt64 (V 8))) * (Int32.toInt64 (x2_ - (V 7))))), .long (G 1), .long (G 2)])), (q, .inl (T 0, 6, .inl (V)))] := hD
    refine lv_aload_n hx hb dX1_holdVoltage_48 rfl (lv_at hl 1 rfl) ?_
    refine lv_iload_n hx hb dX1_holdVoltage_49 rfl (lv_at hl 0 rfl) ?_
    refine va_put (D := D) (ci := 1) (v := .int x2_) (C := RX1) (T := TX1) (N := 8) hx hb hts inwX1_holdVoltage_X1 tyX1 tyX1_ok nmX1 hown hK hP hD hS 0 rfl rfl 2 (by decide) (hts (.fieldLink RX1 38 "PlateSlabs$Plates" "charge" "I") (List.mem_of_getElem? (i := 6) rfl)) (fun _ h9 => h9) rfl (tyX1_ok 2 (by decide)) (rfl) (rfl) (Nat.le_of_ble_eq_true rfl) dX1_holdVoltage_50 (fun H locs hP hD hS => ?_)
    have hP : va_P D vwCl [(a, .inr (1, [.ref q, .int (V 6), .int x2_, .int (V 8), .int (V 9), .long ((G 0) + ((2 * (Int32.toInt64 (V 8))) * (Int32.toInt64 (x2_ - (V 7))))), .long (G 1), .long (G 2)])), (q, .inl (T 0, 6, .inl (V)))] H := hP
    have hD : va_D A [(a, .inr (1, [.ref q, .int (V 6), .int x2_, .int (V 8), .int (V 9), .long ((G 0) + ((2 * (Int32.toInt64 (V 8))) * (Int32.toInt64 (x2_ - (V 7))))), .long (G 1), .long (G 2)])), (q, .inl (T 0, 6, .inl (V)))] := hD
    obtain ⟨V1, eV1⟩ : ∃ z, z = upd V 7 x2_ := ⟨_, rfl⟩
    have fP : kHoldP V = V1 := by rw [kHoldP, if_pos h9, eV1, ex2_]
    have fE : kHoldE V G = vp_updL G 0 (G 0 + 2 * (V 8).toInt64 * (x2_ - V 7).toInt64) := by rw [kHoldE, if_pos h9, ex2_]
    have hP : va_P D vwCl [(a, .inr (1, [.ref q, .int (V1 6), .int (V1 7), .int (V1 8), .int (V1 9), .long ((vp_updL G 0 (G 0 + 2 * (V 8).toInt64 * (x2_ - V 7).toInt64)) 0), .long ((vp_updL G 0 (G 0 + 2 * (V 8).toInt64 * (x2_ - V 7).toInt64)) 1), .long ((vp_updL G 0 (G 0 + 2 * (V 8).toInt64 * (x2_ - V 7).toInt64)) 2)])), (q, .inl (T 0, 6, .inl (V1)))] H := by rw [eV1]; exact wP_re hP 1 rfl (at_i (fun j hj => (upd_n (by omega)).symm))
    have hD : va_D A [(a, .inr (1, [.ref q, .int (V1 6), .int (V1 7), .int (V1 8), .int (V1 9), .long ((vp_updL G 0 (G 0 + 2 * (V 8).toInt64 * (x2_ - V 7).toInt64)) 0), .long ((vp_updL G 0 (G 0 + 2 * (V 8).toInt64 * (x2_ - V 7).toInt64)) 1), .long ((vp_updL G 0 (G 0 + 2 * (V 8).toInt64 * (x2_ - V 7).toInt64)) 2)])), (q, .inl (T 0, 6, .inl (V1)))] := by rw [eV1]; exact wD_ad hD rfl
    exact hret _ _ () _ _ dX1_holdVoltage_53 hS (by rw [fP, fE]; exact hP) (by rw [fP, fE]; exact hD) trivial
  · skip
    have h9 : ¬ V 9 = 1 := off_of c4
    exact hret _ _ () _ _ dX1_holdVoltage_7 hS (by rw [kHoldP, if_neg h9, kHoldE, if_neg h9]; exact hP) (by rw [kHoldP, if_neg h9, kHoldE, if_neg h9]; exact hD) trivial

def rmX1_movesInTick : Room := { frames := 3, cells := 0, slots := 0, locals := 67 }
set_option maxHeartbeats 4000000 in
set_option maxRecDepth 100000 in
theorem mX1_movesInTick (l : Launch) (T : Nat → ClassId) (D : va_G) (a q : Nat) (V : Nat → Int32) (G : Nat → Int64) (hk : kOk V) : MuI l yX1_movesInTick wsX1_movesInTick rmX1_movesInTick T xN D [.ref a] [(a, .inr (1, [.ref q, .int (V 6), .int (V 7), .int (V 8), .int (V 9), .long (G 0), .long (G 1), .long (G 2)])), (q, .inl (T 0, 6, .inl (V)))] (S := Unit) (fun r _ => r = bI (¬ kBy (kLeakP V) = 0)) (fun _ => plW T a q (kTickP V) (kTickE V G)) 0 0 := by
  refine met_mz (cc := cX1_movesInTick) (maxL := 2) (by decide) rfl (Nat.le_of_ble_eq_true rfl) (fun r _ h => bI_01 h) ?_
  intro p_ e s m args below meth c ls A Q hx hb hts hown hml hX hP hD hK hS hA hl hret
  have hl : lv_has ls 2 [(0, .ref a)] := hl
  refine lv_aload_n hx hb dX1_movesInTick_0 rfl (lv_at hl 0 rfl) ?_
  refine callMv (As := []) (wr := []) ⟨hx, hb, hml, hown, hts⟩ (mX1_leakAway l T D a q V G hk) (cwV 0 hts gX1_movesInTick_X1_leakAway rfl rfl rfl pdX1_leakAway ⟨Nat.le_of_ble_eq_true rfl, Nat.le_of_ble_eq_true rfl⟩) hP hD hK hS hA xN_bl (fun U _ hW => XN_warm hW hX) (ci := 1) rfl rfl rfl hl.1 rfl rfl (Nat.le_of_ble_eq_true rfl) dX1_movesInTick_1 ⟨Nat.zero_le _, Nat.zero_le _⟩ (fun u2_ H locs eu2_ hP hD hS hkf => ?_)
  obtain ⟨V1, eV1⟩ : ∃ z : Nat → Int32, z = kLeakP V := ⟨_, rfl⟩
  obtain ⟨G1, eG1⟩ : ∃ z : Nat → Int64, z = kLeakE V G := ⟨_, rfl⟩
  rw [← eV1, ← eG1] at hP hD
  have hP : va_P D vwCl [(a, .inr (1, [.ref q, .int (V1 6), .int (V1 7), .int (V1 8), .int (V1 9), .long (G1 0), .long (G1 1), .long (G1 2)])), (q, .inl (T 0, 6, .inl (V1)))] H := hP
  have hD : va_D A [(a, .inr (1, [.ref q, .int (V1 6), .int (V1 7), .int (V1 8), .int (V1 9), .long (G1 0), .long (G1 1), .long (G1 2)])), (q, .inl (T 0, 6, .inl (V1)))] := hD
  have hk1 : kOk V1 := by rw [eV1]; exact kOk_leak hk
  refine lv_aload_n hx hb dX1_movesInTick_4 rfl (lv_at hl 0 rfl) ?_
  refine lv_aload_n hx hb dX1_movesInTick_5 rfl (lv_at hl 0 rfl) ?_
  refine lv_aload_n hx hb dX1_movesInTick_6 rfl (lv_at hl 0 rfl) ?_
  refine va_get (D := D) (ci := 1) (v := .int (V1 6)) (C := RX1) (T := TX1) (N := 8) hx hb hts inwX1_movesInTick_X1 hown hK hP 0 rfl rfl 1 (by decide) (hts (.fieldLink RX1 35 "PlateSlabs$Plates" "depth" "I") (List.mem_of_getElem? (i := 1) rfl)) (fun _ h9 => h9) rfl dX1_movesInTick_7 ?_
  refine callRi (As := [.int (V1 6)]) ⟨hx, hb, hml, hown, hts⟩ (mX1_netAt l T D a q V1 G1 hk1 (V1 6) (kOk_d hk1)) (cwV 1 hts gX1_movesInTick_X1_netAt rfl rfl rfl pdX1_netAt ⟨Nat.le_of_ble_eq_true rfl, Nat.le_of_ble_eq_true rfl⟩) hP hK xN_bl (fun U _ hW => XN_warm hW hX) (ci := 1) rfl rfl rfl hl.1 rfl rfl (Nat.le_of_ble_eq_true rfl) dX1_movesInTick_10 ⟨Nat.zero_le _, Nat.zero_le _⟩ (fun r3_ er3_ => ?_)
  obtain rfl : r3_ = kPullAt V1 (V1 6) (V1 7) - kSpring V1 (V1 6) := er3_
  refine callRi (As := [.int (kPullAt V1 (V1 6) (V1 7) - kSpring V1 (V1 6))]) ⟨hx, hb, hml, hown, hts⟩ (mX1_stepBy l T D a q V1 G1 (kPullAt V1 (V1 6) (V1 7) - kSpring V1 (V1 6))) (cwV 1 hts gX1_movesInTick_X1_stepBy rfl rfl rfl pdX1_stepBy ⟨Nat.le_of_ble_eq_true rfl, Nat.le_of_ble_eq_true rfl⟩) hP hK xN_bl (fun U _ hW => XN_warm hW hX) (ci := 1) rfl rfl rfl hl.1 rfl rfl (Nat.le_of_ble_eq_true rfl) dX1_movesInTick_13 ⟨Nat.zero_le _, Nat.zero_le _⟩ (fun r4_ er4_ => ?_)
  obtain rfl : r4_ = kMove V1 (V1 6) (kPullAt V1 (V1 6) (V1 7) - kSpring V1 (V1 6)) := er4_
  refine lv_topi (fun x1_ ex1_ => ?_)
  refine lv_istore_n (lv' := [(1, .int x1_), (0, .ref a)]) hx hb dX1_movesInTick_16 rfl hl (by decide) rfl (fun ls hl => ?_)
  refine lv_aload_n hx hb dX1_movesInTick_17 rfl (lv_at hl 1 rfl) ?_
  refine lv_dup hx hb dX1_movesInTick_18 rfl ?_
  refine va_get (D := D) (ci := 1) (v := .int (V1 6)) (C := RX1) (T := TX1) (N := 8) hx hb hts inwX1_movesInTick_X1 hown hK hP 0 rfl rfl 1 (by decide) (hts (.fieldLink RX1 35 "PlateSlabs$Plates" "depth" "I") (List.mem_of_getElem? (i := 1) rfl)) (fun _ h9 => h9) rfl dX1_movesInTick_19 ?_
  refine lv_iload_n hx hb dX1_movesInTick_22 rfl (lv_at hl 0 rfl) ?_
  refine lv_iadd hx hb dX1_movesInTick_23 ?_
  refine va_put (D := D) (ci := 1) (v := .int ((V1 6) + x1_)) (C := RX1) (T := TX1) (N := 8) hx hb hts inwX1_movesInTick_X1 tyX1 tyX1_ok nmX1 hown hK hP hD hS 0 rfl rfl 1 (by decide) (hts (.fieldLink RX1 35 "PlateSlabs$Plates" "depth" "I") (List.mem_of_getElem? (i := 1) rfl)) (fun _ h9 => h9) rfl (tyX1_ok 1 (by decide)) (rfl) (rfl) (Nat.le_of_ble_eq_true rfl) dX1_movesInTick_24 (fun H locs hP hD hS => ?_)
  have hP : va_P D vwCl [(a, .inr (1, [.ref q, .int ((V1 6) + x1_), .int (V1 7), .int (V1 8), .int (V1 9), .long (G1 0), .long (G1 1), .long (G1 2)])), (q, .inl (T 0, 6, .inl (V1)))] H := hP
  have hD : va_D A [(a, .inr (1, [.ref q, .int ((V1 6) + x1_), .int (V1 7), .int (V1 8), .int (V1 9), .long (G1 0), .long (G1 1), .long (G1 2)])), (q, .inl (T 0, 6, .inl (V1)))] := hD
  obtain ⟨V2, eV2⟩ : ∃ z, z = upd V1 6 (V1 6 + x1_) := ⟨_, rfl⟩
  have hP : va_P D vwCl [(a, .inr (1, [.ref q, .int (V2 6), .int (V2 7), .int (V2 8), .int (V2 9), .long (G1 0), .long (G1 1), .long (G1 2)])), (q, .inl (T 0, 6, .inl (V2)))] H := by rw [eV2]; exact wP_re hP 1 rfl (at_i (fun j hj => (upd_n (by omega)).symm))
  have hD : va_D A [(a, .inr (1, [.ref q, .int (V2 6), .int (V2 7), .int (V2 8), .int (V2 9), .long (G1 0), .long (G1 1), .long (G1 2)])), (q, .inl (T 0, 6, .inl (V2)))] := by rw [eV2]; exact wD_ad hD rfl
  have f2 : V2 = kStepP V1 := by rw [eV2, ex1_]; rfl
  have hk2 : kOk V2 := by rw [f2]; exact kOk_step hk1
  refine lv_aload_n hx hb dX1_movesInTick_27 rfl (lv_at hl 1 rfl) ?_
  refine callMv (As := []) (wr := []) ⟨hx, hb, hml, hown, hts⟩ (mX1_holdVoltage l T D a q V2 G1 hk2) (cwV 0 hts gX1_movesInTick_X1_holdVoltage rfl rfl rfl pdX1_holdVoltage ⟨Nat.le_of_ble_eq_true rfl, Nat.le_of_ble_eq_true rfl⟩) hP hD hK hS hA xN_bl (fun U _ hW => XN_warm hW hX) (ci := 1) rfl rfl rfl hl.1 rfl rfl (Nat.le_of_ble_eq_true rfl) dX1_movesInTick_28 ⟨Nat.zero_le _, Nat.zero_le _⟩ (fun u6_ H locs eu6_ hP hD hS hkf => ?_)
  obtain ⟨V3, eV3⟩ : ∃ z : Nat → Int32, z = kHoldP V2 := ⟨_, rfl⟩
  obtain ⟨G3, eG3⟩ : ∃ z : Nat → Int64, z = kHoldE V2 G1 := ⟨_, rfl⟩
  rw [← eV3, ← eG3] at hP hD
  have hP : va_P D vwCl [(a, .inr (1, [.ref q, .int (V3 6), .int (V3 7), .int (V3 8), .int (V3 9), .long (G3 0), .long (G3 1), .long (G3 2)])), (q, .inl (T 0, 6, .inl (V3)))] H := hP
  have hD : va_D A [(a, .inr (1, [.ref q, .int (V3 6), .int (V3 7), .int (V3 8), .int (V3 9), .long (G3 0), .long (G3 1), .long (G3 2)])), (q, .inl (T 0, 6, .inl (V3)))] := hD
  refine lv_iload_n hx hb dX1_movesInTick_31 rfl (lv_at hl 0 rfl) ?_
  refine lv_if_eq (tgt := 39) hx hb dX1_movesInTick_32 (by decide) (fun c32 => ?_) (fun c32 => ?_)
  · skip
    have fb : x1_ = kBy V1 := by rw [ex1_]; rfl
    refine lv_iconst (v := 0) hx hb dX1_movesInTick_39 (by decide) ?_
    have fP : V3 = kTickP V := by rw [eV3, f2, eV1]; rfl
    have fE : G3 = kTickE V G := by rw [eG3, f2, eV1, eG1]; rfl
    exact hret _ _ _ () _ _ dX1_movesInTick_40 hS (by rw [← fP, ← fE]; exact hP) (by rw [← fP, ← fE]; exact hD) (by rw [← eV1, ← fb]; exact bI_f (not_not_intro c32))
  · skip
    have fb : x1_ = kBy V1 := by rw [ex1_]; rfl
    refine lv_iconst (v := 1) hx hb dX1_movesInTick_35 (by decide) ?_
    refine lv_goto (tgt := 40) hx hb dX1_movesInTick_36 (by decide) ?_
    have fP : V3 = kTickP V := by rw [eV3, f2, eV1]; rfl
    have fE : G3 = kTickE V G := by rw [eG3, f2, eV1, eG1]; rfl
    exact hret _ _ _ () _ _ dX1_movesInTick_40 hS (by rw [← fP, ← fE]; exact hP) (by rw [← fP, ← fE]; exact hD) (by rw [← eV1, ← fb]; exact bI_t c32)

def rmX1_copyFrom : Room := { frames := 1, cells := 0, slots := 0, locals := 60 }
set_option maxHeartbeats 4000000 in
set_option maxRecDepth 100000 in
theorem mX1_copyFrom (l : Launch) (T : Nat → ClassId) (D : va_G) (a q : Nat) (V : Nat → Int32) (G : Nat → Int64) (a2 q2 : Nat) (U : Nat → Int32) (F : Nat → Int64) (hu : kOk U) : MuV l yX1_copyFrom wsX1_copyFrom rmX1_copyFrom T xN D [.ref a, .ref a2] [(a, .inr (1, [.ref q, .int (V 6), .int (V 7), .int (V 8), .int (V 9), .long (G 0), .long (G 1), .long (G 2)])), (q, .inl (T 0, 6, .inl (V))), (a2, .inr (1, [.ref q2, .int (U 6), .int (U 7), .int (U 8), .int (U 9), .long (F 0), .long (F 1), .long (F 2)])), (q2, .inl (T 0, 6, .inl (U)))] (S := Unit) (fun _ => True) (fun _ => plW T a q U F ++ plW T a2 q2 U F) 0 0 := by
  refine met_mv (cc := cX1_copyFrom) (maxL := 2) (by decide) rfl (Nat.le_of_ble_eq_true rfl) ?_
  intro p_ e s m args below meth c ls A Q hx hb hts hown hml hX hP hD hK hS hA hl hin hret
  have hl : lv_has ls 2 [(0, .ref a), (1, .ref a2)] := hl
  refine lv_aload_n hx hb dX1_copyFrom_0 rfl (lv_at hl 1 rfl) ?_
  refine va_get (D := D) (ci := 1) (v := .ref q2) (C := RX1) (T := TX1) (N := 8) hx hb hts inwX1_copyFrom_X1 hown hK hP 2 rfl rfl 0 (by decide) (hts (.fieldLink RX1 9 "PlateSlabs$Plates" "settings" "[I") (List.mem_of_getElem? (i := 1) rfl)) (fun _ h9 => h9) rfl dX1_copyFrom_1 ?_
  refine lv_iconst (v := 0) hx hb dX1_copyFrom_4 (by decide) ?_
  refine lv_aload_n hx hb dX1_copyFrom_5 rfl (lv_at hl 0 rfl) ?_
  refine va_get (D := D) (ci := 1) (v := .ref q) (C := RX1) (T := TX1) (N := 8) hx hb hts inwX1_copyFrom_X1 hown hK hP 0 rfl rfl 0 (by decide) (hts (.fieldLink RX1 9 "PlateSlabs$Plates" "settings" "[I") (List.mem_of_getElem? (i := 1) rfl)) (fun _ h9 => h9) rfl dX1_copyFrom_6 ?_
  refine lv_iconst (v := 0) hx hb dX1_copyFrom_9 (by decide) ?_
  refine lv_bipush (v := 6) hx hb dX1_copyFrom_10 (by decide) ?_
  refine va_copyi hx hb (hml.trans hl.1.symm) hown (hts (.methodLink RX1 29 arraycopyName) (List.mem_of_getElem? (i := 2) rfl)) (hts (.native arraycopyName) (List.mem_of_getElem? (i := 3) rfl)) (hts (.static arraycopyName) (List.mem_of_getElem? (i := 4) rfl)) (hts (.initialized "java/lang/System") (List.mem_of_getElem? (i := 5) rfl)) hK hP hD hS 3 1 0 0 rfl rfl rfl rfl rfl (by decide) (by decide) (by decide) (Nat.le_of_ble_eq_true rfl) (Nat.le_of_ble_eq_true rfl) (fun _ _ => rfl) (Nat.le_of_ble_eq_true rfl) (Nat.le_of_ble_eq_true rfl) dX1_copyFrom_12 (fun H locs hP hD hS => ?_)
  have hP : va_P D vwCl [(a, .inr (1, [.ref q, .int (V 6), .int (V 7), .int (V 8), .int (V 9), .long (G 0), .long (G 1), .long (G 2)])), (q, .inl (T 0, 6, .inl (U))), (a2, .inr (1, [.ref q2, .int (U 6), .int (U 7), .int (U 8), .int (U 9), .long (F 0), .long (F 1), .long (F 2)])), (q2, .inl (T 0, 6, .inl (U)))] H := wP_re hP 1 rfl (at_i cpy6)
  have hD : va_D A [(a, .inr (1, [.ref q, .int (V 6), .int (V 7), .int (V 8), .int (V 9), .long (G 0), .long (G 1), .long (G 2)])), (q, .inl (T 0, 6, .inl (U))), (a2, .inr (1, [.ref q2, .int (U 6), .int (U 7), .int (U 8), .int (U 9), .long (F 0), .long (F 1), .long (F 2)])), (q2, .inl (T 0, 6, .inl (U)))] := wD_ad hD rfl
  refine lv_aload_n hx hb dX1_copyFrom_15 rfl (lv_at hl 0 rfl) ?_
  refine lv_aload_n hx hb dX1_copyFrom_16 rfl (lv_at hl 1 rfl) ?_
  refine va_get (D := D) (ci := 1) (v := .int (U 6)) (C := RX1) (T := TX1) (N := 8) hx hb hts inwX1_copyFrom_X1 hown hK hP 2 rfl rfl 1 (by decide) (hts (.fieldLink RX1 35 "PlateSlabs$Plates" "depth" "I") (List.mem_of_getElem? (i := 6) rfl)) (fun _ h9 => h9) rfl dX1_copyFrom_17 ?_
  refine va_put (D := D) (ci := 1) (v := .int (U 6)) (C := RX1) (T := TX1) (N := 8) hx hb hts inwX1_copyFrom_X1 tyX1 tyX1_ok nmX1 hown hK hP hD hS 0 rfl rfl 1 (by decide) (hts (.fieldLink RX1 35 "PlateSlabs$Plates" "depth" "I") (List.mem_of_getElem? (i := 6) rfl)) (fun _ h9 => h9) rfl (tyX1_ok 1 (by decide)) (rfl) (rfl) (Nat.le_of_ble_eq_true rfl) dX1_copyFrom_20 (fun H locs hP hD hS => ?_)
  have hP : va_P D vwCl [(a, .inr (1, [.ref q, .int (U 6), .int (V 7), .int (V 8), .int (V 9), .long (G 0), .long (G 1), .long (G 2)])), (q, .inl (T 0, 6, .inl (U))), (a2, .inr (1, [.ref q2, .int (U 6), .int (U 7), .int (U 8), .int (U 9), .long (F 0), .long (F 1), .long (F 2)])), (q2, .inl (T 0, 6, .inl (U)))] H := hP
  have hD : va_D A [(a, .inr (1, [.ref q, .int (U 6), .int (V 7), .int (V 8), .int (V 9), .long (G 0), .long (G 1), .long (G 2)])), (q, .inl (T 0, 6, .inl (U))), (a2, .inr (1, [.ref q2, .int (U 6), .int (U 7), .int (U 8), .int (U 9), .long (F 0), .long (F 1), .long (F 2)])), (q2, .inl (T 0, 6, .inl (U)))] := hD
  refine lv_aload_n hx hb dX1_copyFrom_23 rfl (lv_at hl 0 rfl) ?_
  refine lv_aload_n hx hb dX1_copyFrom_24 rfl (lv_at hl 1 rfl) ?_
  refine va_get (D := D) (ci := 1) (v := .int (U 7)) (C := RX1) (T := TX1) (N := 8) hx hb hts inwX1_copyFrom_X1 hown hK hP 2 rfl rfl 2 (by decide) (hts (.fieldLink RX1 38 "PlateSlabs$Plates" "charge" "I") (List.mem_of_getElem? (i := 7) rfl)) (fun _ h9 => h9) rfl dX1_copyFrom_25 ?_
  refine va_put (D := D) (ci := 1) (v := .int (U 7)) (C := RX1) (T := TX1) (N := 8) hx hb hts inwX1_copyFrom_X1 tyX1 tyX1_ok nmX1 hown hK hP hD hS 0 rfl rfl 2 (by decide) (hts (.fieldLink RX1 38 "PlateSlabs$Plates" "charge" "I") (List.mem_of_getElem? (i := 7) rfl)) (fun _ h9 => h9) rfl (tyX1_ok 2 (by decide)) (rfl) (rfl) (Nat.le_of_ble_eq_true rfl) dX1_copyFrom_28 (fun H locs hP hD hS => ?_)
  have hP : va_P D vwCl [(a, .inr (1, [.ref q, .int (U 6), .int (U 7), .int (V 8), .int (V 9), .long (G 0), .long (G 1), .long (G 2)])), (q, .inl (T 0, 6, .inl (U))), (a2, .inr (1, [.ref q2, .int (U 6), .int (U 7), .int (U 8), .int (U 9), .long (F 0), .long (F 1), .long (F 2)])), (q2, .inl (T 0, 6, .inl (U)))] H := hP
  have hD : va_D A [(a, .inr (1, [.ref q, .int (U 6), .int (U 7), .int (V 8), .int (V 9), .long (G 0), .long (G 1), .long (G 2)])), (q, .inl (T 0, 6, .inl (U))), (a2, .inr (1, [.ref q2, .int (U 6), .int (U 7), .int (U 8), .int (U 9), .long (F 0), .long (F 1), .long (F 2)])), (q2, .inl (T 0, 6, .inl (U)))] := hD
  refine lv_aload_n hx hb dX1_copyFrom_31 rfl (lv_at hl 0 rfl) ?_
  refine lv_aload_n hx hb dX1_copyFrom_32 rfl (lv_at hl 1 rfl) ?_
  refine va_get (D := D) (ci := 1) (v := .int (U 8)) (C := RX1) (T := TX1) (N := 8) hx hb hts inwX1_copyFrom_X1 hown hK hP 2 rfl rfl 3 (by decide) (hts (.fieldLink RX1 15 "PlateSlabs$Plates" "voltage" "I") (List.mem_of_getElem? (i := 8) rfl)) (fun _ h9 => h9) rfl dX1_copyFrom_33 ?_
  refine va_put (D := D) (ci := 1) (v := .int (U 8)) (C := RX1) (T := TX1) (N := 8) hx hb hts inwX1_copyFrom_X1 tyX1 tyX1_ok nmX1 hown hK hP hD hS 0 rfl rfl 3 (by decide) (hts (.fieldLink RX1 15 "PlateSlabs$Plates" "voltage" "I") (List.mem_of_getElem? (i := 8) rfl)) (fun _ h9 => h9) rfl (tyX1_ok 3 (by decide)) (rfl) (rfl) (Nat.le_of_ble_eq_true rfl) dX1_copyFrom_36 (fun H locs hP hD hS => ?_)
  have hP : va_P D vwCl [(a, .inr (1, [.ref q, .int (U 6), .int (U 7), .int (U 8), .int (V 9), .long (G 0), .long (G 1), .long (G 2)])), (q, .inl (T 0, 6, .inl (U))), (a2, .inr (1, [.ref q2, .int (U 6), .int (U 7), .int (U 8), .int (U 9), .long (F 0), .long (F 1), .long (F 2)])), (q2, .inl (T 0, 6, .inl (U)))] H := hP
  have hD : va_D A [(a, .inr (1, [.ref q, .int (U 6), .int (U 7), .int (U 8), .int (V 9), .long (G 0), .long (G 1), .long (G 2)])), (q, .inl (T 0, 6, .inl (U))), (a2, .inr (1, [.ref q2, .int (U 6), .int (U 7), .int (U 8), .int (U 9), .long (F 0), .long (F 1), .long (F 2)])), (q2, .inl (T 0, 6, .inl (U)))] := hD
  refine lv_aload_n hx hb dX1_copyFrom_39 rfl (lv_at hl 0 rfl) ?_
  refine lv_aload_n hx hb dX1_copyFrom_40 rfl (lv_at hl 1 rfl) ?_
  refine va_get (D := D) (ci := 1) (v := .int (U 9)) (C := RX1) (T := TX1) (N := 8) hx hb hts inwX1_copyFrom_X1 hown hK hP 2 rfl rfl 4 (by decide) (hts (.fieldLink RX1 41 "PlateSlabs$Plates" "isOn" "Z") (List.mem_of_getElem? (i := 9) rfl)) (fun _ h9 => h9) rfl dX1_copyFrom_41 ?_
  refine va_put (D := D) (ci := 1) (v := .int (U 9)) (C := RX1) (T := TX1) (N := 8) hx hb hts inwX1_copyFrom_X1 tyX1 tyX1_ok nmX1 hown hK hP hD hS 0 rfl rfl 4 (by decide) (hts (.fieldLink RX1 41 "PlateSlabs$Plates" "isOn" "Z") (List.mem_of_getElem? (i := 9) rfl)) (fun _ h9 => h9) rfl (tyX1_ok 4 (by decide)) (nar_z (kOk_9 hu)) (fit_z (kOk_9 hu)) (Nat.le_of_ble_eq_true rfl) dX1_copyFrom_44 (fun H locs hP hD hS => ?_)
  have hP : va_P D vwCl [(a, .inr (1, [.ref q, .int (U 6), .int (U 7), .int (U 8), .int (U 9), .long (G 0), .long (G 1), .long (G 2)])), (q, .inl (T 0, 6, .inl (U))), (a2, .inr (1, [.ref q2, .int (U 6), .int (U 7), .int (U 8), .int (U 9), .long (F 0), .long (F 1), .long (F 2)])), (q2, .inl (T 0, 6, .inl (U)))] H := hP
  have hD : va_D A [(a, .inr (1, [.ref q, .int (U 6), .int (U 7), .int (U 8), .int (U 9), .long (G 0), .long (G 1), .long (G 2)])), (q, .inl (T 0, 6, .inl (U))), (a2, .inr (1, [.ref q2, .int (U 6), .int (U 7), .int (U 8), .int (U 9), .long (F 0), .long (F 1), .long (F 2)])), (q2, .inl (T 0, 6, .inl (U)))] := hD
  refine lv_aload_n hx hb dX1_copyFrom_47 rfl (lv_at hl 0 rfl) ?_
  refine lv_aload_n hx hb dX1_copyFrom_48 rfl (lv_at hl 1 rfl) ?_
  refine va_get (D := D) (ci := 1) (v := .long (F 0)) (C := RX1) (T := TX1) (N := 8) hx hb hts inwX1_copyFrom_X1 hown hK hP 2 rfl rfl 5 (by decide) (hts (.fieldLink RX1 45 "PlateSlabs$Plates" "gave" "J") (List.mem_of_getElem? (i := 10) rfl)) (fun _ h9 => h9) rfl dX1_copyFrom_49 ?_
  refine va_put (D := D) (ci := 1) (v := .long (F 0)) (C := RX1) (T := TX1) (N := 8) hx hb hts inwX1_copyFrom_X1 tyX1 tyX1_ok nmX1 hown hK hP hD hS 0 rfl rfl 5 (by decide) (hts (.fieldLink RX1 45 "PlateSlabs$Plates" "gave" "J") (List.mem_of_getElem? (i := 10) rfl)) (fun _ h9 => h9) rfl (tyX1_ok 5 (by decide)) (rfl) (rfl) (Nat.le_of_ble_eq_true rfl) dX1_copyFrom_52 (fun H locs hP hD hS => ?_)
  have hP : va_P D vwCl [(a, .inr (1, [.ref q, .int (U 6), .int (U 7), .int (U 8), .int (U 9), .long (F 0), .long (G 1), .long (G 2)])), (q, .inl (T 0, 6, .inl (U))), (a2, .inr (1, [.ref q2, .int (U 6), .int (U 7), .int (U 8), .int (U 9), .long (F 0), .long (F 1), .long (F 2)])), (q2, .inl (T 0, 6, .inl (U)))] H := hP
  have hD : va_D A [(a, .inr (1, [.ref q, .int (U 6), .int (U 7), .int (U 8), .int (U 9), .long (F 0), .long (G 1), .long (G 2)])), (q, .inl (T 0, 6, .inl (U))), (a2, .inr (1, [.ref q2, .int (U 6), .int (U 7), .int (U 8), .int (U 9), .long (F 0), .long (F 1), .long (F 2)])), (q2, .inl (T 0, 6, .inl (U)))] := hD
  refine lv_aload_n hx hb dX1_copyFrom_55 rfl (lv_at hl 0 rfl) ?_
  refine lv_aload_n hx hb dX1_copyFrom_56 rfl (lv_at hl 1 rfl) ?_
  refine va_get (D := D) (ci := 1) (v := .long (F 1)) (C := RX1) (T := TX1) (N := 8) hx hb hts inwX1_copyFrom_X1 hown hK hP 2 rfl rfl 6 (by decide) (hts (.fieldLink RX1 49 "PlateSlabs$Plates" "leaked" "J") (List.mem_of_getElem? (i := 11) rfl)) (fun _ h9 => h9) rfl dX1_copyFrom_57 ?_
  refine va_put (D := D) (ci := 1) (v := .long (F 1)) (C := RX1) (T := TX1) (N := 8) hx hb hts inwX1_copyFrom_X1 tyX1 tyX1_ok nmX1 hown hK hP hD hS 0 rfl rfl 6 (by decide) (hts (.fieldLink RX1 49 "PlateSlabs$Plates" "leaked" "J") (List.mem_of_getElem? (i := 11) rfl)) (fun _ h9 => h9) rfl (tyX1_ok 6 (by decide)) (rfl) (rfl) (Nat.le_of_ble_eq_true rfl) dX1_copyFrom_60 (fun H locs hP hD hS => ?_)
  have hP : va_P D vwCl [(a, .inr (1, [.ref q, .int (U 6), .int (U 7), .int (U 8), .int (U 9), .long (F 0), .long (F 1), .long (G 2)])), (q, .inl (T 0, 6, .inl (U))), (a2, .inr (1, [.ref q2, .int (U 6), .int (U 7), .int (U 8), .int (U 9), .long (F 0), .long (F 1), .long (F 2)])), (q2, .inl (T 0, 6, .inl (U)))] H := hP
  have hD : va_D A [(a, .inr (1, [.ref q, .int (U 6), .int (U 7), .int (U 8), .int (U 9), .long (F 0), .long (F 1), .long (G 2)])), (q, .inl (T 0, 6, .inl (U))), (a2, .inr (1, [.ref q2, .int (U 6), .int (U 7), .int (U 8), .int (U 9), .long (F 0), .long (F 1), .long (F 2)])), (q2, .inl (T 0, 6, .inl (U)))] := hD
  refine lv_aload_n hx hb dX1_copyFrom_63 rfl (lv_at hl 0 rfl) ?_
  refine lv_aload_n hx hb dX1_copyFrom_64 rfl (lv_at hl 1 rfl) ?_
  refine va_get (D := D) (ci := 1) (v := .long (F 2)) (C := RX1) (T := TX1) (N := 8) hx hb hts inwX1_copyFrom_X1 hown hK hP 2 rfl rfl 7 (by decide) (hts (.fieldLink RX1 52 "PlateSlabs$Plates" "sparked" "J") (List.mem_of_getElem? (i := 12) rfl)) (fun _ h9 => h9) rfl dX1_copyFrom_65 ?_
  refine va_put (D := D) (ci := 1) (v := .long (F 2)) (C := RX1) (T := TX1) (N := 8) hx hb hts inwX1_copyFrom_X1 tyX1 tyX1_ok nmX1 hown hK hP hD hS 0 rfl rfl 7 (by decide) (hts (.fieldLink RX1 52 "PlateSlabs$Plates" "sparked" "J") (List.mem_of_getElem? (i := 12) rfl)) (fun _ h9 => h9) rfl (tyX1_ok 7 (by decide)) (rfl) (rfl) (Nat.le_of_ble_eq_true rfl) dX1_copyFrom_68 (fun H locs hP hD hS => ?_)
  have hP : va_P D vwCl [(a, .inr (1, [.ref q, .int (U 6), .int (U 7), .int (U 8), .int (U 9), .long (F 0), .long (F 1), .long (F 2)])), (q, .inl (T 0, 6, .inl (U))), (a2, .inr (1, [.ref q2, .int (U 6), .int (U 7), .int (U 8), .int (U 9), .long (F 0), .long (F 1), .long (F 2)])), (q2, .inl (T 0, 6, .inl (U)))] H := hP
  have hD : va_D A [(a, .inr (1, [.ref q, .int (U 6), .int (U 7), .int (U 8), .int (U 9), .long (F 0), .long (F 1), .long (F 2)])), (q, .inl (T 0, 6, .inl (U))), (a2, .inr (1, [.ref q2, .int (U 6), .int (U 7), .int (U 8), .int (U 9), .long (F 0), .long (F 1), .long (F 2)])), (q2, .inl (T 0, 6, .inl (U)))] := hD
  exact hret _ _ () _ _ dX1_copyFrom_71 hS hP hD trivial
