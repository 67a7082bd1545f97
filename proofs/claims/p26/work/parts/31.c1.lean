theorem pdX1_isSetting : yX1_isSetting.cls = RX1 ∧ yX1_isSetting.cls ≠ "java/lang/invoke/MethodHandle" ∧ yX1_isSetting.cls ≠ "java/lang/invoke/VarHandle" ∧ (parseMethodDescriptor yX1_isSetting.desc).map (fun d => d.parameters.length) = some 1 := by decide +kernel
theorem pdX1_capacityAt : yX1_capacityAt.cls = RX1 ∧ yX1_capacityAt.cls ≠ "java/lang/invoke/MethodHandle" ∧ yX1_capacityAt.cls ≠ "java/lang/invoke/VarHandle" ∧ (parseMethodDescriptor yX1_capacityAt.desc).map (fun d => d.parameters.length) = some 1 := by decide +kernel
theorem pdX1_stored : yX1_stored.cls = RX1 ∧ yX1_stored.cls ≠ "java/lang/invoke/MethodHandle" ∧ yX1_stored.cls ≠ "java/lang/invoke/VarHandle" ∧ (parseMethodDescriptor yX1_stored.desc).map (fun d => d.parameters.length) = some 0 := by decide +kernel
theorem pdX1_pullOf : yX1_pullOf.cls = RX1 ∧ yX1_pullOf.cls ≠ "java/lang/invoke/MethodHandle" ∧ yX1_pullOf.cls ≠ "java/lang/invoke/VarHandle" ∧ (parseMethodDescriptor yX1_pullOf.desc).map (fun d => d.parameters.length) = some 1 := by decide +kernel
theorem pdX1_pullAt : yX1_pullAt.cls = RX1 ∧ yX1_pullAt.cls ≠ "java/lang/invoke/MethodHandle" ∧ yX1_pullAt.cls ≠ "java/lang/invoke/VarHandle" ∧ (parseMethodDescriptor yX1_pullAt.desc).map (fun d => d.parameters.length) = some 1 := by decide +kernel
theorem pdX1_drawnBackAt : yX1_drawnBackAt.cls = RX1 ∧ yX1_drawnBackAt.cls ≠ "java/lang/invoke/MethodHandle" ∧ yX1_drawnBackAt.cls ≠ "java/lang/invoke/VarHandle" ∧ (parseMethodDescriptor yX1_drawnBackAt.desc).map (fun d => d.parameters.length) = some 1 := by decide +kernel
theorem pdX1_netAt : yX1_netAt.cls = RX1 ∧ yX1_netAt.cls ≠ "java/lang/invoke/MethodHandle" ∧ yX1_netAt.cls ≠ "java/lang/invoke/VarHandle" ∧ (parseMethodDescriptor yX1_netAt.desc).map (fun d => d.parameters.length) = some 1 := by decide +kernel
theorem pdX1_stepBy : yX1_stepBy.cls = RX1 ∧ yX1_stepBy.cls ≠ "java/lang/invoke/MethodHandle" ∧ yX1_stepBy.cls ≠ "java/lang/invoke/VarHandle" ∧ (parseMethodDescriptor yX1_stepBy.desc).map (fun d => d.parameters.length) = some 1 := by decide +kernel
theorem pdX1_reasonNow : yX1_reasonNow.cls = RX1 ∧ yX1_reasonNow.cls ≠ "java/lang/invoke/MethodHandle" ∧ yX1_reasonNow.cls ≠ "java/lang/invoke/VarHandle" ∧ (parseMethodDescriptor yX1_reasonNow.desc).map (fun d => d.parameters.length) = some 0 := by decide +kernel
theorem pdX1_isDrawnInAt : yX1_isDrawnInAt.cls = RX1 ∧ yX1_isDrawnInAt.cls ≠ "java/lang/invoke/MethodHandle" ∧ yX1_isDrawnInAt.cls ≠ "java/lang/invoke/VarHandle" ∧ (parseMethodDescriptor yX1_isDrawnInAt.desc).map (fun d => d.parameters.length) = some 2 := by decide +kernel
theorem pdX1_isDrawnAllTheWayIn : yX1_isDrawnAllTheWayIn.cls = RX1 ∧ yX1_isDrawnAllTheWayIn.cls ≠ "java/lang/invoke/MethodHandle" ∧ yX1_isDrawnAllTheWayIn.cls ≠ "java/lang/invoke/VarHandle" ∧ (parseMethodDescriptor yX1_isDrawnAllTheWayIn.desc).map (fun d => d.parameters.length) = some 1 := by decide +kernel
theorem inwX1_capacityAt_X1 : ∀ w ∈ wsX10, w ∈ wsX1_capacityAt := by decide +kernel
theorem inwX1_stored_X1 : ∀ w ∈ wsX10, w ∈ wsX1_stored := by decide +kernel
theorem inwX1_pullOf_X1 : ∀ w ∈ wsX10, w ∈ wsX1_pullOf := by decide +kernel
theorem inwX1_pullAt_X1 : ∀ w ∈ wsX10, w ∈ wsX1_pullAt := by decide +kernel
theorem inwX1_drawnBackAt_X1 : ∀ w ∈ wsX10, w ∈ wsX1_drawnBackAt := by decide +kernel
theorem inwX1_netAt_X1 : ∀ w ∈ wsX10, w ∈ wsX1_netAt := by decide +kernel
theorem inwX1_stepBy_X1 : ∀ w ∈ wsX10, w ∈ wsX1_stepBy := by decide +kernel
theorem inwX1_reasonNow_X1 : ∀ w ∈ wsX10, w ∈ wsX1_reasonNow := by decide +kernel
theorem inwX1_isDrawnInAt_X1 : ∀ w ∈ wsX10, w ∈ wsX1_isDrawnInAt := by decide +kernel
theorem inwX1_isDrawnAllTheWayIn_X1 : ∀ w ∈ wsX10, w ∈ wsX1_isDrawnAllTheWayIn := by decide +kernel
def rmX1_isSetting : Room := { frames := 0, cells := 0, slots := 0, locals := 0 }
set_option maxHeartbeats 4000000 in
set_option maxRecDepth 100000 in
theorem mX1_isSetting (l : Launch) (T : Nat → ClassId) (D : va_G) (x : Int32) : RdI l yX1_isSetting wsX1_isSetting rmX1_isSetting T xN D [.int x] [] (fun r => r = bI (0 ≤ x ∧ x ≤ 5)) := by
  refine met_rz (cc := cX1_isSetting) (maxL := 1) (by decide) rfl (Nat.le_of_ble_eq_true rfl) (fun r h => bI_01 h) ?_
  intro p_ e s m args below meth c H ls Q hx hb hts hown hml hX hH hP hK hl hret
  have hl : lv_has ls 1 [(0, .int x)] := hl
  refine lv_iload_n hx hb dX1_isSetting_0 rfl (lv_at hl 0 rfl) ?_
  refine lv_if_lt (tgt := 14) hx hb dX1_isSetting_1 (by decide) (fun c1 => ?_) (fun c1 => ?_)
  · skip
    refine lv_iconst (v := 0) hx hb dX1_isSetting_14 (by decide) ?_
    exact hret _ _ _ dX1_isSetting_15 (bI_f (fun z => absurd z.1 (Int32.not_le.mpr c1)))
  · skip
    refine lv_iload_n hx hb dX1_isSetting_4 rfl (lv_at hl 0 rfl) ?_
    refine lv_bipush (v := 6) hx hb dX1_isSetting_5 (by decide) ?_
    refine lv_icmp_ge (tgt := 14) hx hb dX1_isSetting_7 (by decide) (fun c7 => ?_) (fun c7 => ?_)
    · skip
      refine lv_iconst (v := 0) hx hb dX1_isSetting_14 (by decide) ?_
      exact hret _ _ _ dX1_isSetting_15 (bI_f (fun z => (lt6.mp z).2 c7))
    · skip
      refine lv_iconst (v := 1) hx hb dX1_isSetting_10 (by decide) ?_
      refine lv_goto (tgt := 15) hx hb dX1_isSetting_11 (by decide) ?_
      exact hret _ _ _ dX1_isSetting_15 (bI_t (lt6.mpr ⟨Int32.not_lt.mp c1, c7⟩))

def rmX1_capacityAt : Room := { frames := 0, cells := 0, slots := 0, locals := 0 }
set_option maxHeartbeats 4000000 in
set_option maxRecDepth 100000 in
theorem mX1_capacityAt (l : Launch) (T : Nat → ClassId) (D : va_G) (a q : Nat) (V : Nat → Int32) (G : Nat → Int64) (d : Int32) : RdI l yX1_capacityAt wsX1_capacityAt rmX1_capacityAt T xN D [.ref a, .int d] [(a, .inr (1, [.ref q, .int (V 6), .int (V 7), .int (V 8), .int (V 9), .long (G 0), .long (G 1), .long (G 2)])), (q, .inl (T 0, 6, .inl (V)))] (fun r => r = kCap V d) := by
  refine met_ri (cc := cX1_capacityAt) (maxL := 2) (by decide) rfl (Nat.le_of_ble_eq_true rfl) ?_
  intro p_ e s m args below meth c H ls Q hx hb hts hown hml hX hH hP hK hl hret
  have hl : lv_has ls 2 [(0, .ref a), (1, .int d)] := hl
  refine lv_aload_n hx hb dX1_capacityAt_0 rfl (lv_at hl 0 rfl) ?_
  refine va_get (D := D) (ci := 1) (v := .ref q) (C := RX1) (T := TX1) (N := 8) hx hb hts inwX1_capacityAt_X1 hown hK hP 0 rfl rfl 0 (by decide) (hts (.fieldLink RX1 9 "PlateSlabs$Plates" "settings" "[I") (List.mem_of_getElem? (i := 1) rfl)) (fun _ h9 => h9) rfl dX1_capacityAt_1 ?_
  refine lv_iconst (v := 0) hx hb dX1_capacityAt_4 (by decide) ?_
  refine va_iald hx hb hK hP 1 0 rfl rfl (in_lit (by decide)) dX1_capacityAt_5 ?_
  refine lv_tpi (congrArg (fun z => V z) (cl_0)) ?_
  refine lv_bipush (v := 40) hx hb dX1_capacityAt_6 (by decide) ?_
  refine lv_aload_n hx hb dX1_capacityAt_8 rfl (lv_at hl 0 rfl) ?_
  refine va_get (D := D) (ci := 1) (v := .ref q) (C := RX1) (T := TX1) (N := 8) hx hb hts inwX1_capacityAt_X1 hown hK hP 0 rfl rfl 0 (by decide) (hts (.fieldLink RX1 9 "PlateSlabs$Plates" "settings" "[I") (List.mem_of_getElem? (i := 1) rfl)) (fun _ h9 => h9) rfl dX1_capacityAt_9 ?_
  refine lv_iconst (v := 1) hx hb dX1_capacityAt_12 (by decide) ?_
  refine va_iald hx hb hK hP 1 0 rfl rfl (in_lit (by decide)) dX1_capacityAt_13 ?_
  refine lv_tpi (congrArg (fun z => V z) (cl_1)) ?_
  refine lv_iconst (v := 1) hx hb dX1_capacityAt_14 (by decide) ?_
  refine lv_isub hx hb dX1_capacityAt_15 ?_
  refine lv_iload_n hx hb dX1_capacityAt_16 rfl (lv_at hl 1 rfl) ?_
  refine lv_imul hx hb dX1_capacityAt_17 ?_
  refine lv_iadd hx hb dX1_capacityAt_18 ?_
  refine lv_imul hx hb dX1_capacityAt_19 ?_
  exact hret _ _ _ dX1_capacityAt_20 rfl

def rmX1_stored : Room := { frames := 1, cells := 0, slots := 0, locals := 21 }
set_option maxHeartbeats 4000000 in
set_option maxRecDepth 100000 in
theorem mX1_stored (l : Launch) (T : Nat → ClassId) (D : va_G) (a q : Nat) (V : Nat → Int32) (G : Nat → Int64) (hk : kOk V) : RdL l yX1_stored wsX1_stored rmX1_stored T xN D [.ref a] [(a, .inr (1, [.ref q, .int (V 6), .int (V 7), .int (V 8), .int (V 9), .long (G 0), .long (G 1), .long (G 2)])), (q, .inl (T 0, 6, .inl (V)))] (fun r => r = kStored V) := by
  refine met_rl (cc := cX1_stored) (maxL := 3) (by decide) rfl (Nat.le_of_ble_eq_true rfl) ?_
  intro p_ e s m args below meth c H ls Q hx hb hts hown hml hX hH hP hK hl hret
  have hl : lv_has ls 3 [(0, .ref a)] := hl
  refine lv_aload_n hx hb dX1_stored_0 rfl (lv_at hl 0 rfl) ?_
  refine va_get (D := D) (ci := 1) (v := .int (V 9)) (C := RX1) (T := TX1) (N := 8) hx hb hts inwX1_stored_X1 hown hK hP 0 rfl rfl 4 (by decide) (hts (.fieldLink RX1 41 "PlateSlabs$Plates" "isOn" "Z") (List.mem_of_getElem? (i := 1) rfl)) (fun _ h9 => h9) rfl dX1_stored_1 ?_
  refine lv_if_eq (tgt := 19) hx hb dX1_stored_4 (by decide) (fun c4 => ?_) (fun c4 => ?_)
  · skip
    have h9 := off_of c4
    refine lv_aload_n hx hb dX1_stored_19 rfl (lv_at hl 0 rfl) ?_
    refine lv_aload_n hx hb dX1_stored_20 rfl (lv_at hl 0 rfl) ?_
    refine va_get (D := D) (ci := 1) (v := .int (V 6)) (C := RX1) (T := TX1) (N := 8) hx hb hts inwX1_stored_X1 hown hK hP 0 rfl rfl 1 (by decide) (hts (.fieldLink RX1 35 "PlateSlabs$Plates" "depth" "I") (List.mem_of_getElem? (i := 4) rfl)) (fun _ h9 => h9) rfl dX1_stored_21 ?_
    refine callRi (As := [.int (V 6)]) ⟨hx, hb, hml, hown, hts⟩ (mX1_capacityAt l T D a q V G (V 6)) (cwV 1 hts gX1_stored_X1_capacityAt rfl rfl rfl pdX1_capacityAt ⟨Nat.le_of_ble_eq_true rfl, Nat.le_of_ble_eq_true rfl⟩) hP hK xN_bl (fun U _ hW => XN_warm hW hX) (ci := 1) rfl rfl rfl hl.1 rfl rfl (Nat.le_of_ble_eq_true rfl) dX1_stored_24 ⟨Nat.zero_le _, Nat.zero_le _⟩ (fun r1_ er1_ => ?_)
    obtain rfl : r1_ = kCap V (V 6) := er1_
    refine lv_i2l hx hb dX1_stored_27 rfl ?_
    refine lv_lstore_n (lv' := [(1, .long (Int32.toInt64 (kCap V (V 6)))), (0, .ref a)]) hx hb dX1_stored_28 rfl hl (by decide) rfl (fun ls hl => ?_)
    refine lv_lload_n hx hb dX1_stored_29 rfl (lv_at hl 0 rfl) ?_
    refine lv_lconst (v := 1) hx hb dX1_stored_30 (by decide) ?_
    refine W.lcmp hx hb dX1_stored_31 ?_
    refine lv_if_ge (tgt := 39) hx hb dX1_stored_32 (by decide) (fun c32 => ?_) (fun c32 => ?_)
    · skip
      refine lv_aload_n hx hb dX1_stored_39 rfl (lv_at hl 1 rfl) ?_
      refine va_get (D := D) (ci := 1) (v := .int (V 7)) (C := RX1) (T := TX1) (N := 8) hx hb hts inwX1_stored_X1 hown hK hP 0 rfl rfl 2 (by decide) (hts (.fieldLink RX1 38 "PlateSlabs$Plates" "charge" "I") (List.mem_of_getElem? (i := 3) rfl)) (fun _ h9 => h9) rfl dX1_stored_40 ?_
      refine lv_i2l hx hb dX1_stored_43 rfl ?_
      refine lv_aload_n hx hb dX1_stored_44 rfl (lv_at hl 1 rfl) ?_
      refine va_get (D := D) (ci := 1) (v := .int (V 7)) (C := RX1) (T := TX1) (N := 8) hx hb hts inwX1_stored_X1 hown hK hP 0 rfl rfl 2 (by decide) (hts (.fieldLink RX1 38 "PlateSlabs$Plates" "charge" "I") (List.mem_of_getElem? (i := 3) rfl)) (fun _ h9 => h9) rfl dX1_stored_45 ?_
      refine lv_i2l hx hb dX1_stored_48 rfl ?_
      refine lv_lmul hx hb dX1_stored_49 ?_
      refine lv_lload_n hx hb dX1_stored_50 rfl (lv_at hl 0 rfl) ?_
      refine lv_ldiv hx hb dX1_stored_51 (kCap_ne hk (kOk_d hk)) ?_
      exact hret _ _ _ dX1_stored_52 (by rw [kStored, if_neg h9])
    · skip
      exact absurd ((lg_cmp_ge _ _).mpr (kCap_1 hk (kOk_d hk))) c32
  · skip
    have h9 := on_of hk c4
    refine lv_aload_n hx hb dX1_stored_7 rfl (lv_at hl 0 rfl) ?_
    refine va_get (D := D) (ci := 1) (v := .int (V 8)) (C := RX1) (T := TX1) (N := 8) hx hb hts inwX1_stored_X1 hown hK hP 0 rfl rfl 3 (by decide) (hts (.fieldLink RX1 15 "PlateSlabs$Plates" "voltage" "I") (List.mem_of_getElem? (i := 2) rfl)) (fun _ h9 => h9) rfl dX1_stored_8 ?_
    refine lv_i2l hx hb dX1_stored_11 rfl ?_
    refine lv_aload_n hx hb dX1_stored_12 rfl (lv_at hl 0 rfl) ?_
    refine va_get (D := D) (ci := 1) (v := .int (V 7)) (C := RX1) (T := TX1) (N := 8) hx hb hts inwX1_stored_X1 hown hK hP 0 rfl rfl 2 (by decide) (hts (.fieldLink RX1 38 "PlateSlabs$Plates" "charge" "I") (List.mem_of_getElem? (i := 3) rfl)) (fun _ h9 => h9) rfl dX1_stored_13 ?_
    refine lv_i2l hx hb dX1_stored_16 rfl ?_
    refine lv_lmul hx hb dX1_stored_17 ?_
    exact hret _ _ _ dX1_stored_18 (by rw [kStored, if_pos h9])

def rmX1_pullOf : Room := { frames := 0, cells := 0, slots := 0, locals := 0 }
set_option maxHeartbeats 4000000 in
set_option maxRecDepth 100000 in
theorem mX1_pullOf (l : Launch) (T : Nat → ClassId) (D : va_G) (a q : Nat) (V : Nat → Int32) (G : Nat → Int64) (v : Int32) : RdI l yX1_pullOf wsX1_pullOf rmX1_pullOf T xN D [.ref a, .int v] [(a, .inr (1, [.ref q, .int (V 6), .int (V 7), .int (V 8), .int (V 9), .long (G 0), .long (G 1), .long (G 2)])), (q, .inl (T 0, 6, .inl (V)))] (fun r => r = kPullBy V v) := by
  refine met_ri (cc := cX1_pullOf) (maxL := 2) (by decide) rfl (Nat.le_of_ble_eq_true rfl) ?_
  intro p_ e s m args below meth c H ls Q hx hb hts hown hml hX hH hP hK hl hret
  have hl : lv_has ls 2 [(0, .ref a), (1, .int v)] := hl
  refine lv_aload_n hx hb dX1_pullOf_0 rfl (lv_at hl 0 rfl) ?_
  refine va_get (D := D) (ci := 1) (v := .ref q) (C := RX1) (T := TX1) (N := 8) hx hb hts inwX1_pullOf_X1 hown hK hP 0 rfl rfl 0 (by decide) (hts (.fieldLink RX1 9 "PlateSlabs$Plates" "settings" "[I") (List.mem_of_getElem? (i := 1) rfl)) (fun _ h9 => h9) rfl dX1_pullOf_1 ?_
  refine lv_iconst (v := 0) hx hb dX1_pullOf_4 (by decide) ?_
  refine va_iald hx hb hK hP 1 0 rfl rfl (in_lit (by decide)) dX1_pullOf_5 ?_
  refine lv_tpi (congrArg (fun z => V z) (cl_0)) ?_
  refine lv_aload_n hx hb dX1_pullOf_6 rfl (lv_at hl 0 rfl) ?_
  refine va_get (D := D) (ci := 1) (v := .ref q) (C := RX1) (T := TX1) (N := 8) hx hb hts inwX1_pullOf_X1 hown hK hP 0 rfl rfl 0 (by decide) (hts (.fieldLink RX1 9 "PlateSlabs$Plates" "settings" "[I") (List.mem_of_getElem? (i := 1) rfl)) (fun _ h9 => h9) rfl dX1_pullOf_7 ?_
  refine lv_iconst (v := 1) hx hb dX1_pullOf_10 (by decide) ?_
  refine va_iald hx hb hK hP 1 0 rfl rfl (in_lit (by decide)) dX1_pullOf_11 ?_
  refine lv_tpi (congrArg (fun z => V z) (cl_1)) ?_
  refine lv_iconst (v := 1) hx hb dX1_pullOf_12 (by decide) ?_
  refine lv_isub hx hb dX1_pullOf_13 ?_
  refine lv_imul hx hb dX1_pullOf_14 ?_
  refine lv_iload_n hx hb dX1_pullOf_15 rfl (lv_at hl 1 rfl) ?_
  refine lv_imul hx hb dX1_pullOf_16 ?_
  refine lv_iload_n hx hb dX1_pullOf_17 rfl (lv_at hl 1 rfl) ?_
  refine lv_imul hx hb dX1_pullOf_18 ?_
  exact hret _ _ _ dX1_pullOf_19 rfl

def rmX1_pullAt : Room := { frames := 1, cells := 0, slots := 0, locals := 21 }
set_option maxHeartbeats 4000000 in
set_option maxRecDepth 100000 in
theorem mX1_pullAt (l : Launch) (T : Nat → ClassId) (D : va_G) (a q : Nat) (V : Nat → Int32) (G : Nat → Int64) (hk : kOk V) (d : Int32) (hd : kDp d) : RdI l yX1_pullAt wsX1_pullAt rmX1_pullAt T xN D [.ref a, .int d] [(a, .inr (1, [.ref q, .int (V 6), .int (V 7), .int (V 8), .int (V 9), .long (G 0), .long (G 1), .long (G 2)])), (q, .inl (T 0, 6, .inl (V)))] (fun r => r = kPullAt V d (V 7)) := by
  refine met_ri (cc := cX1_pullAt) (maxL := 6) (by decide) rfl (Nat.le_of_ble_eq_true rfl) ?_
  intro p_ e s m args below meth c H ls Q hx hb hts hown hml hX hH hP hK hl hret
  have hl : lv_has ls 6 [(0, .ref a), (1, .int d)] := hl
  refine lv_aload_n hx hb dX1_pullAt_0 rfl (lv_at hl 0 rfl) ?_
  refine va_get (D := D) (ci := 1) (v := .int (V 9)) (C := RX1) (T := TX1) (N := 8) hx hb hts inwX1_pullAt_X1 hown hK hP 0 rfl rfl 4 (by decide) (hts (.fieldLink RX1 41 "PlateSlabs$Plates" "isOn" "Z") (List.mem_of_getElem? (i := 1) rfl)) (fun _ h9 => h9) rfl dX1_pullAt_1 ?_
  refine lv_if_eq (tgt := 16) hx hb dX1_pullAt_4 (by decide) (fun c4 => ?_) (fun c4 => ?_)
  · skip
    have h9 := off_of c4
    refine lv_aload_n hx hb dX1_pullAt_16 rfl (lv_at hl 0 rfl) ?_
    refine lv_iload_n hx hb dX1_pullAt_17 rfl (lv_at hl 1 rfl) ?_
    refine callRi (As := [.int d]) ⟨hx, hb, hml, hown, hts⟩ (mX1_capacityAt l T D a q V G d) (cwV 1 hts gX1_pullAt_X1_capacityAt rfl rfl rfl pdX1_capacityAt ⟨Nat.le_of_ble_eq_true rfl, Nat.le_of_ble_eq_true rfl⟩) hP hK xN_bl (fun U _ hW => XN_warm hW hX) (ci := 1) rfl rfl rfl hl.1 rfl rfl (Nat.le_of_ble_eq_true rfl) dX1_pullAt_18 ⟨Nat.zero_le _, Nat.zero_le _⟩ (fun r1_ er1_ => ?_)
    obtain rfl : r1_ = kCap V d := er1_
    refine lv_i2l hx hb dX1_pullAt_21 rfl ?_
    refine lv_lstore_n (lv' := [(2, .long (Int32.toInt64 (kCap V d))), (0, .ref a), (1, .int d)]) hx hb dX1_pullAt_22 rfl hl (by decide) rfl (fun ls hl => ?_)
    refine lv_lload_n hx hb dX1_pullAt_23 rfl (lv_at hl 0 rfl) ?_
    refine lv_lconst (v := 1) hx hb dX1_pullAt_24 (by decide) ?_
    refine W.lcmp hx hb dX1_pullAt_25 ?_
    refine lv_if_ge (tgt := 31) hx hb dX1_pullAt_26 (by decide) (fun c26 => ?_) (fun c26 => ?_)
    · skip
      refine lv_aload_n hx hb dX1_pullAt_31 rfl (lv_at hl 1 rfl) ?_
      refine va_get (D := D) (ci := 1) (v := .ref q) (C := RX1) (T := TX1) (N := 8) hx hb hts inwX1_pullAt_X1 hown hK hP 0 rfl rfl 0 (by decide) (hts (.fieldLink RX1 9 "PlateSlabs$Plates" "settings" "[I") (List.mem_of_getElem? (i := 3) rfl)) (fun _ h9 => h9) rfl dX1_pullAt_32 ?_
      refine lv_iconst (v := 0) hx hb dX1_pullAt_35 (by decide) ?_
      refine va_iald hx hb hK hP 1 0 rfl rfl (in_lit (by decide)) dX1_pullAt_36 ?_
      refine lv_tpi (congrArg (fun z => V z) (cl_0)) ?_
      refine lv_aload_n hx hb dX1_pullAt_37 rfl (lv_at hl 1 rfl) ?_
      refine va_get (D := D) (ci := 1) (v := .ref q) (C := RX1) (T := TX1) (N := 8) hx hb hts inwX1_pullAt_X1 hown hK hP 0 rfl rfl 0 (by decide) (hts (.fieldLink RX1 9 "PlateSlabs$Plates" "settings" "[I") (List.mem_of_getElem? (i := 3) rfl)) (fun _ h9 => h9) rfl dX1_pullAt_38 ?_
      refine lv_iconst (v := 1) hx hb dX1_pullAt_41 (by decide) ?_
      refine va_iald hx hb hK hP 1 0 rfl rfl (in_lit (by decide)) dX1_pullAt_42 ?_
      refine lv_tpi (congrArg (fun z => V z) (cl_1)) ?_
      refine lv_iconst (v := 1) hx hb dX1_pullAt_43 (by decide) ?_
      refine lv_isub hx hb dX1_pullAt_44 ?_
      refine lv_imul hx hb dX1_pullAt_45 ?_
      refine lv_i2l hx hb dX1_pullAt_46 rfl ?_
      refine lv_lstore (lv' := [(4, .long (Int32.toInt64 ((V 0) * ((V 1) - 1)))), (2, .long (Int32.toInt64 (kCap V d))), (0, .ref a), (1, .int d)]) hx hb dX1_pullAt_47 hl (by decide) rfl (fun ls hl => ?_)
      refine lv_lload hx hb dX1_pullAt_49 (lv_at hl 0 rfl) ?_
      refine lv_aload_n hx hb dX1_pullAt_51 rfl (lv_at hl 2 rfl) ?_
      refine va_get (D := D) (ci := 1) (v := .int (V 7)) (C := RX1) (T := TX1) (N := 8) hx hb hts inwX1_pullAt_X1 hown hK hP 0 rfl rfl 2 (by decide) (hts (.fieldLink RX1 38 "PlateSlabs$Plates" "charge" "I") (List.mem_of_getElem? (i := 4) rfl)) (fun _ h9 => h9) rfl dX1_pullAt_52 ?_
      refine lv_i2l hx hb dX1_pullAt_55 rfl ?_
      refine lv_lmul hx hb dX1_pullAt_56 ?_
      refine lv_aload_n hx hb dX1_pullAt_57 rfl (lv_at hl 2 rfl) ?_
      refine va_get (D := D) (ci := 1) (v := .int (V 7)) (C := RX1) (T := TX1) (N := 8) hx hb hts inwX1_pullAt_X1 hown hK hP 0 rfl rfl 2 (by decide) (hts (.fieldLink RX1 38 "PlateSlabs$Plates" "charge" "I") (List.mem_of_getElem? (i := 4) rfl)) (fun _ h9 => h9) rfl dX1_pullAt_58 ?_
      refine lv_i2l hx hb dX1_pullAt_61 rfl ?_
      refine lv_lmul hx hb dX1_pullAt_62 ?_
      refine lv_lload_n hx hb dX1_pullAt_63 rfl (lv_at hl 1 rfl) ?_
      refine lv_lload_n hx hb dX1_pullAt_64 rfl (lv_at hl 1 rfl) ?_
      refine lv_lmul hx hb dX1_pullAt_65 ?_
      refine lv_ldiv hx hb dX1_pullAt_66 (kCap_nn hk hd) ?_
      refine lv_l2i hx hb dX1_pullAt_67 rfl ?_
      exact hret _ _ _ dX1_pullAt_68 (by rw [kPullAt, if_neg h9]; rfl)
    · skip
      exact absurd ((lg_cmp_ge _ _).mpr (kCap_1 hk hd)) c26
  · skip
    have h9 := on_of hk c4
    refine lv_aload_n hx hb dX1_pullAt_7 rfl (lv_at hl 0 rfl) ?_
    refine lv_aload_n hx hb dX1_pullAt_8 rfl (lv_at hl 0 rfl) ?_
    refine va_get (D := D) (ci := 1) (v := .int (V 8)) (C := RX1) (T := TX1) (N := 8) hx hb hts inwX1_pullAt_X1 hown hK hP 0 rfl rfl 3 (by decide) (hts (.fieldLink RX1 15 "PlateSlabs$Plates" "voltage" "I") (List.mem_of_getElem? (i := 2) rfl)) (fun _ h9 => h9) rfl dX1_pullAt_9 ?_
    refine callRi (As := [.int (V 8)]) ⟨hx, hb, hml, hown, hts⟩ (mX1_pullOf l T D a q V G (V 8)) (cwV 1 hts gX1_pullAt_X1_pullOf rfl rfl rfl pdX1_pullOf ⟨Nat.le_of_ble_eq_true rfl, Nat.le_of_ble_eq_true rfl⟩) hP hK xN_bl (fun U _ hW => XN_warm hW hX) (ci := 1) rfl rfl rfl hl.1 rfl rfl (Nat.le_of_ble_eq_true rfl) dX1_pullAt_12 ⟨Nat.zero_le _, Nat.zero_le _⟩ (fun r2_ er2_ => ?_)
    obtain rfl : r2_ = kPullBy V (V 8) := er2_
    exact hret _ _ _ dX1_pullAt_15 (by rw [kPullAt, if_pos h9])

def rmX1_drawnBackAt : Room := { frames := 0, cells := 0, slots := 0, locals := 0 }
set_option maxHeartbeats 4000000 in
set_option maxRecDepth 100000 in
theorem mX1_drawnBackAt (l : Launch) (T : Nat → ClassId) (D : va_G) (a q : Nat) (V : Nat → Int32) (G : Nat → Int64) (d : Int32) : RdI l yX1_drawnBackAt wsX1_drawnBackAt rmX1_drawnBackAt T xN D [.ref a, .int d] [(a, .inr (1, [.ref q, .int (V 6), .int (V 7), .int (V 8), .int (V 9), .long (G 0), .long (G 1), .long (G 2)])), (q, .inl (T 0, 6, .inl (V)))] (fun r => r = kSpring V d) := by
  refine met_ri (cc := cX1_drawnBackAt) (maxL := 2) (by decide) rfl (Nat.le_of_ble_eq_true rfl) ?_
  intro p_ e s m args below meth c H ls Q hx hb hts hown hml hX hH hP hK hl hret
  have hl : lv_has ls 2 [(0, .ref a), (1, .int d)] := hl
  refine lv_aload_n hx hb dX1_drawnBackAt_0 rfl (lv_at hl 0 rfl) ?_
  refine va_get (D := D) (ci := 1) (v := .ref q) (C := RX1) (T := TX1) (N := 8) hx hb hts inwX1_drawnBackAt_X1 hown hK hP 0 rfl rfl 0 (by decide) (hts (.fieldLink RX1 9 "PlateSlabs$Plates" "settings" "[I") (List.mem_of_getElem? (i := 1) rfl)) (fun _ h9 => h9) rfl dX1_drawnBackAt_1 ?_
  refine lv_iconst (v := 2) hx hb dX1_drawnBackAt_4 (by decide) ?_
  refine va_iald hx hb hK hP 1 0 rfl rfl (in_lit (by decide)) dX1_drawnBackAt_5 ?_
  refine lv_tpi (congrArg (fun z => V z) (cl_2)) ?_
  refine lv_iload_n hx hb dX1_drawnBackAt_6 rfl (lv_at hl 1 rfl) ?_
  refine lv_aload_n hx hb dX1_drawnBackAt_7 rfl (lv_at hl 0 rfl) ?_
  refine va_get (D := D) (ci := 1) (v := .ref q) (C := RX1) (T := TX1) (N := 8) hx hb hts inwX1_drawnBackAt_X1 hown hK hP 0 rfl rfl 0 (by decide) (hts (.fieldLink RX1 9 "PlateSlabs$Plates" "settings" "[I") (List.mem_of_getElem? (i := 1) rfl)) (fun _ h9 => h9) rfl dX1_drawnBackAt_8 ?_
  refine lv_iconst (v := 3) hx hb dX1_drawnBackAt_11 (by decide) ?_
  refine va_iald hx hb hK hP 1 0 rfl rfl (in_lit (by decide)) dX1_drawnBackAt_12 ?_
  refine lv_tpi (congrArg (fun z => V z) (cl_3)) ?_
  refine lv_isub hx hb dX1_drawnBackAt_13 ?_
  refine lv_imul hx hb dX1_drawnBackAt_14 ?_
  exact hret _ _ _ dX1_drawnBackAt_15 rfl

def rmX1_netAt : Room := { frames := 2, cells := 0, slots := 0, locals := 46 }
set_option maxHeartbeats 4000000 in
set_option maxRecDepth 100000 in
theorem mX1_netAt (l : Launch) (T : Nat → ClassId) (D : va_G) (a q : Nat) (V : Nat → Int32) (G : Nat → Int64) (hk : kOk V) (d : Int32) (hd : kDp d) : RdI l yX1_netAt wsX1_netAt rmX1_netAt T xN D [.ref a, .int d] [(a, .inr (1, [.ref q, .int (V 6), .int (V 7), .int (V 8), .int (V 9), .long (G 0), .long (G 1), .long (G 2)])), (q, .inl (T 0, 6, .inl (V)))] (fun r => r = kPullAt V d (V 7) - kSpring V d) := by
  refine met_ri (cc := cX1_netAt) (maxL := 2) (by decide) rfl (Nat.le_of_ble_eq_true rfl) ?_
  intro p_ e s m args below meth c H ls Q hx hb hts hown hml hX hH hP hK hl hret
  have hl : lv_has ls 2 [(0, .ref a), (1, .int d)] := hl
  refine lv_aload_n hx hb dX1_netAt_0 rfl (lv_at hl 0 rfl) ?_
  refine lv_iload_n hx hb dX1_netAt_1 rfl (lv_at hl 1 rfl) ?_
  refine callRi (As := [.int d]) ⟨hx, hb, hml, hown, hts⟩ (mX1_pullAt l T D a q V G hk d hd) (cwV 1 hts gX1_netAt_X1_pullAt rfl rfl rfl pdX1_pullAt ⟨Nat.le_of_ble_eq_true rfl, Nat.le_of_ble_eq_true rfl⟩) hP hK xN_bl (fun U _ hW => XN_warm hW hX) (ci := 1) rfl rfl rfl hl.1 rfl rfl (Nat.le_of_ble_eq_true rfl) dX1_netAt_2 ⟨Nat.zero_le _, Nat.zero_le _⟩ (fun r1_ er1_ => ?_)
  obtain rfl : r1_ = kPullAt V d (V 7) := er1_
  refine lv_aload_n hx hb dX1_netAt_5 rfl (lv_at hl 0 rfl) ?_
  refine lv_iload_n hx hb dX1_netAt_6 rfl (lv_at hl 1 rfl) ?_
  refine callRi (As := [.int d]) ⟨hx, hb, hml, hown, hts⟩ (mX1_drawnBackAt l T D a q V G d) (cwV 1 hts gX1_netAt_X1_drawnBackAt rfl rfl rfl pdX1_drawnBackAt ⟨Nat.le_of_ble_eq_true rfl, Nat.le_of_ble_eq_true rfl⟩) hP hK xN_bl (fun U _ hW => XN_warm hW hX) (ci := 1) rfl rfl rfl hl.1 rfl rfl (Nat.le_of_ble_eq_true rfl) dX1_netAt_7 ⟨Nat.zero_le _, Nat.zero_le _⟩ (fun r2_ er2_ => ?_)
  obtain rfl : r2_ = kSpring V d := er2_
  refine lv_isub hx hb dX1_netAt_10 ?_
  exact hret _ _ _ dX1_netAt_11 rfl

def rmX1_stepBy : Room := { frames := 1, cells := 0, slots := 0, locals := 21 }
set_option maxHeartbeats 4000000 in
set_option maxRecDepth 100000 in
theorem mX1_stepBy (l : Launch) (T : Nat → ClassId) (D : va_G) (a q : Nat) (V : Nat → Int32) (G : Nat → Int64) (n : Int32) : RdI l yX1_stepBy wsX1_stepBy rmX1_stepBy T xN D [.ref a, .int n] [(a, .inr (1, [.ref q, .int (V 6), .int (V 7), .int (V 8), .int (V 9), .long (G 0), .long (G 1), .long (G 2)])), (q, .inl (T 0, 6, .inl (V)))] (fun r => r = kMove V (V 6) n) := by
  refine met_ri (cc := cX1_stepBy) (maxL := 2) (by decide) rfl (Nat.le_of_ble_eq_true rfl) ?_
  intro p_ e s m args below meth c H ls Q hx hb hts hown hml hX hH hP hK hl hret
  have hl : lv_has ls 2 [(0, .ref a), (1, .int n)] := hl
  refine lv_iload_n hx hb dX1_stepBy_0 rfl (lv_at hl 1 rfl) ?_
  refine va_mabs hx hb (hml.trans hl.1.symm) hown (hts (.methodLink RX1 68 Lib.Math.abs.name) (List.mem_of_getElem? (i := 1) rfl)) (hts (.static Lib.Math.abs.name) (List.mem_of_getElem? (i := 2) rfl)) (hts (.initialized "java/lang/Math") (List.mem_of_getElem? (i := 3) rfl)) (hts (.code Lib.Math.abs.name Lib.Math.abs.code 1 (some .int)) (List.mem_of_getElem? (i := 4) rfl)) (Nat.le_of_ble_eq_true rfl) (Nat.le_of_ble_eq_true rfl) (Nat.le_of_ble_eq_true rfl) (Nat.le_of_ble_eq_true rfl) dX1_stepBy_1 ?_
  refine lv_tpi (z := kSize n) (abs_size _) ?_
  refine lv_aload_n hx hb dX1_stepBy_4 rfl (lv_at hl 0 rfl) ?_
  refine va_get (D := D) (ci := 1) (v := .ref q) (C := RX1) (T := TX1) (N := 8) hx hb hts inwX1_stepBy_X1 hown hK hP 0 rfl rfl 0 (by decide) (hts (.fieldLink RX1 9 "PlateSlabs$Plates" "settings" "[I") (List.mem_of_getElem? (i := 5) rfl)) (fun _ h9 => h9) rfl dX1_stepBy_5 ?_
  refine lv_iconst (v := 4) hx hb dX1_stepBy_8 (by decide) ?_
  refine va_iald hx hb hK hP 1 0 rfl rfl (in_lit (by decide)) dX1_stepBy_9 ?_
  refine lv_tpi (congrArg (fun z => V z) (cl_4)) ?_
  refine lv_icmp_gt (tgt := 15) hx hb dX1_stepBy_10 (by decide) (fun c10 => ?_) (fun c10 => ?_)
  · skip
    refine lv_iload_n hx hb dX1_stepBy_15 rfl (lv_at hl 1 rfl) ?_
    refine lv_if_le (tgt := 34) hx hb dX1_stepBy_16 (by decide) (fun c16 => ?_) (fun c16 => ?_)
    · skip
      refine lv_aload_n hx hb dX1_stepBy_34 rfl (lv_at hl 0 rfl) ?_
      refine va_get (D := D) (ci := 1) (v := .int (V 6)) (C := RX1) (T := TX1) (N := 8) hx hb hts inwX1_stepBy_X1 hown hK hP 0 rfl rfl 1 (by decide) (hts (.fieldLink RX1 35 "PlateSlabs$Plates" "depth" "I") (List.mem_of_getElem? (i := 6) rfl)) (fun _ h9 => h9) rfl dX1_stepBy_35 ?_
      refine lv_if_le (tgt := 45) hx hb dX1_stepBy_38 (by decide) (fun c38 => ?_) (fun c38 => ?_)
      · skip
        refine lv_iconst (v := 0) hx hb dX1_stepBy_45 (by decide) ?_
        exact hret _ _ _ dX1_stepBy_46 (by rw [kMove, if_neg (Int32.not_le.mpr c10), if_neg (Int32.not_lt.mpr c16), if_neg (Int32.not_lt.mpr c38)])
      · skip
        refine lv_iconst (v := (-1)) hx hb dX1_stepBy_41 (by decide) ?_
        refine lv_goto (tgt := 46) hx hb dX1_stepBy_42 (by decide) ?_
        exact hret _ _ _ dX1_stepBy_46 (by rw [kMove, if_neg (Int32.not_le.mpr c10), if_neg (Int32.not_lt.mpr c16), if_pos (Int32.not_le.mp c38)])
    · skip
      refine lv_aload_n hx hb dX1_stepBy_19 rfl (lv_at hl 0 rfl) ?_
      refine va_get (D := D) (ci := 1) (v := .int (V 6)) (C := RX1) (T := TX1) (N := 8) hx hb hts inwX1_stepBy_X1 hown hK hP 0 rfl rfl 1 (by decide) (hts (.fieldLink RX1 35 "PlateSlabs$Plates" "depth" "I") (List.mem_of_getElem? (i := 6) rfl)) (fun _ h9 => h9) rfl dX1_stepBy_20 ?_
      refine lv_bipush (v := 40) hx hb dX1_stepBy_23 (by decide) ?_
      refine lv_icmp_ge (tgt := 32) hx hb dX1_stepBy_25 (by decide) (fun c25 => ?_) (fun c25 => ?_)
      · skip
        refine lv_iconst (v := 0) hx hb dX1_stepBy_32 (by decide) ?_
        exact hret _ _ _ dX1_stepBy_33 (by rw [kMove, if_neg (Int32.not_le.mpr c10), if_pos (Int32.not_le.mp c16), if_neg (Int32.not_lt.mpr c25)])
      · skip
        refine lv_iconst (v := 1) hx hb dX1_stepBy_28 (by decide) ?_
        refine lv_goto (tgt := 33) hx hb dX1_stepBy_29 (by decide) ?_
        exact hret _ _ _ dX1_stepBy_33 (by rw [kMove, if_neg (Int32.not_le.mpr c10), if_pos (Int32.not_le.mp c16), if_pos (Int32.not_le.mp c25)])
  · skip
    refine lv_iconst (v := 0) hx hb dX1_stepBy_13 (by decide) ?_
    exact hret _ _ _ dX1_stepBy_14 (by rw [kMove, if_pos (Int32.not_lt.mp c10)])

def rmX1_reasonNow : Room := { frames := 3, cells := 0, slots := 0, locals := 67 }
set_option maxHeartbeats 4000000 in
set_option maxRecDepth 100000 in
theorem mX1_reasonNow (l : Launch) (T : Nat → ClassId) (D : va_G) (a q : Nat) (V : Nat → Int32) (G : Nat → Int64) (hk : kOk V) : RdI l yX1_reasonNow wsX1_reasonNow rmX1_reasonNow T xN D [.ref a] [(a, .inr (1, [.ref q, .int (V 6), .int (V 7), .int (V 8), .int (V 9), .long (G 0), .long (G 1), .long (G 2)])), (q, .inl (T 0, 6, .inl (V)))] (fun r => r = kWhy V) := by
  refine met_ri (cc := cX1_reasonNow) (maxL := 2) (by decide) rfl (Nat.le_of_ble_eq_true rfl) ?_
  intro p_ e s m args below meth c H ls Q hx hb hts hown hml hX hH hP hK hl hret
  have hl : lv_has ls 2 [(0, .ref a)] := hl
  refine lv_aload_n hx hb dX1_reasonNow_0 rfl (lv_at hl 0 rfl) ?_
  refine lv_aload_n hx hb dX1_reasonNow_1 rfl (lv_at hl 0 rfl) ?_
  refine va_get (D := D) (ci := 1) (v := .int (V 6)) (C := RX1) (T := TX1) (N := 8) hx hb hts inwX1_reasonNow_X1 hown hK hP 0 rfl rfl 1 (by decide) (hts (.fieldLink RX1 35 "PlateSlabs$Plates" "depth" "I") (List.mem_of_getElem? (i := 1) rfl)) (fun _ h9 => h9) rfl dX1_reasonNow_2 ?_
  refine callRi (As := [.int (V 6)]) ⟨hx, hb, hml, hown, hts⟩ (mX1_netAt l T D a q V G hk (V 6) (kOk_d hk)) (cwV 1 hts gX1_reasonNow_X1_netAt rfl rfl rfl pdX1_netAt ⟨Nat.le_of_ble_eq_true rfl, Nat.le_of_ble_eq_true rfl⟩) hP hK xN_bl (fun U _ hW => XN_warm hW hX) (ci := 1) rfl rfl rfl hl.1 rfl rfl (Nat.le_of_ble_eq_true rfl) dX1_reasonNow_5 ⟨Nat.zero_le _, Nat.zero_le _⟩ (fun r1_ er1_ => ?_)
  obtain rfl : r1_ = kPullAt V (V 6) (V 7) - kSpring V (V 6) := er1_
  refine lv_tpi (z := kNet V) rfl ?_
  refine lv_istore_n (lv' := [(1, .int (kNet V)), (0, .ref a)]) hx hb dX1_reasonNow_8 rfl hl (by decide) rfl (fun ls hl => ?_)
  refine lv_aload_n hx hb dX1_reasonNow_9 rfl (lv_at hl 1 rfl) ?_
  refine lv_iload_n hx hb dX1_reasonNow_10 rfl (lv_at hl 0 rfl) ?_
  refine callRi (As := [.int (kNet V)]) ⟨hx, hb, hml, hown, hts⟩ (mX1_stepBy l T D a q V G (kNet V)) (cwV 1 hts gX1_reasonNow_X1_stepBy rfl rfl rfl pdX1_stepBy ⟨Nat.le_of_ble_eq_true rfl, Nat.le_of_ble_eq_true rfl⟩) hP hK xN_bl (fun U _ hW => XN_warm hW hX) (ci := 1) rfl rfl rfl hl.1 rfl rfl (Nat.le_of_ble_eq_true rfl) dX1_reasonNow_11 ⟨Nat.zero_le _, Nat.zero_le _⟩ (fun r2_ er2_ => ?_)
  obtain rfl : r2_ = kMove V (V 6) (kNet V) := er2_
  refine lv_if_eq (tgt := 27) hx hb dX1_reasonNow_14 (by decide) (fun c14 => ?_) (fun c14 => ?_)
  · skip
    refine lv_iload_n hx hb dX1_reasonNow_27 rfl (lv_at hl 0 rfl) ?_
    refine lv_if_ne (tgt := 33) hx hb dX1_reasonNow_28 (by decide) (fun c28 => ?_) (fun c28 => ?_)
    · skip
      refine lv_iload_n hx hb dX1_reasonNow_33 rfl (lv_at hl 0 rfl) ?_
      refine va_mabs hx hb (hml.trans hl.1.symm) hown (hts (.methodLink RX1 68 Lib.Math.abs.name) (List.mem_of_getElem? (i := 2) rfl)) (hts (.static Lib.Math.abs.name) (List.mem_of_getElem? (i := 3) rfl)) (hts (.initialized "java/lang/Math") (List.mem_of_getElem? (i := 4) rfl)) (hts (.code Lib.Math.abs.name Lib.Math.abs.code 1 (some .int)) (List.mem_of_getElem? (i := 5) rfl)) (Nat.le_of_ble_eq_true rfl) (Nat.le_of_ble_eq_true rfl) (Nat.le_of_ble_eq_true rfl) (Nat.le_of_ble_eq_true rfl) dX1_reasonNow_34 ?_
      refine lv_tpi (z := kSize (kNet V)) (abs_size _) ?_
      refine lv_aload_n hx hb dX1_reasonNow_37 rfl (lv_at hl 1 rfl) ?_
      refine va_get (D := D) (ci := 1) (v := .ref q) (C := RX1) (T := TX1) (N := 8) hx hb hts inwX1_reasonNow_X1 hown hK hP 0 rfl rfl 0 (by decide) (hts (.fieldLink RX1 9 "PlateSlabs$Plates" "settings" "[I") (List.mem_of_getElem? (i := 6) rfl)) (fun _ h9 => h9) rfl dX1_reasonNow_38 ?_
      refine lv_iconst (v := 4) hx hb dX1_reasonNow_41 (by decide) ?_
      refine va_iald hx hb hK hP 1 0 rfl rfl (in_lit (by decide)) dX1_reasonNow_42 ?_
      refine lv_tpi (congrArg (fun z => V z) (cl_4)) ?_
      refine lv_icmp_gt (tgt := 50) hx hb dX1_reasonNow_43 (by decide) (fun c43 => ?_) (fun c43 => ?_)
      · skip
        refine lv_iconst (v := 4) hx hb dX1_reasonNow_50 (by decide) ?_
        exact hret _ _ _ dX1_reasonNow_51 (by rw [kWhy_no c14, if_neg c28, if_neg (Int32.not_le.mpr c43)])
      · skip
        refine lv_iconst (v := 3) hx hb dX1_reasonNow_46 (by decide) ?_
        refine lv_goto (tgt := 51) hx hb dX1_reasonNow_47 (by decide) ?_
        exact hret _ _ _ dX1_reasonNow_51 (by rw [kWhy_no c14, if_neg c28, if_pos (Int32.not_lt.mp c43)])
    · skip
      refine lv_iconst (v := 2) hx hb dX1_reasonNow_31 (by decide) ?_
      exact hret _ _ _ dX1_reasonNow_32 (by rw [kWhy_no c14, if_pos c28])
  · skip
    refine lv_iload_n hx hb dX1_reasonNow_17 rfl (lv_at hl 0 rfl) ?_
    refine lv_if_le (tgt := 25) hx hb dX1_reasonNow_18 (by decide) (fun c18 => ?_) (fun c18 => ?_)
    · skip
      refine lv_iconst (v := 1) hx hb dX1_reasonNow_25 (by decide) ?_
      exact hret _ _ _ dX1_reasonNow_26 (kWhy_out c14 (Int32.not_lt.mpr c18)).symm
    · skip
      refine lv_iconst (v := 0) hx hb dX1_reasonNow_21 (by decide) ?_
      refine lv_goto (tgt := 26) hx hb dX1_reasonNow_22 (by decide) ?_
      exact hret _ _ _ dX1_reasonNow_26 (kWhy_in c14 (Int32.not_le.mp c18)).symm

def rmX1_isDrawnInAt : Room := { frames := 1, cells := 0, slots := 0, locals := 21 }
set_option maxHeartbeats 4000000 in
set_option maxRecDepth 100000 in
theorem mX1_isDrawnInAt (l : Launch) (T : Nat → ClassId) (D : va_G) (a q : Nat) (V : Nat → Int32) (G : Nat → Int64) (hk : kOk V) (d v : Int32) : RdI l yX1_isDrawnInAt wsX1_isDrawnInAt rmX1_isDrawnInAt T xN D [.ref a, .int d, .int v] [(a, .inr (1, [.ref q, .int (V 6), .int (V 7), .int (V 8), .int (V 9), .long (G 0), .long (G 1), .long (G 2)])), (q, .inl (T 0, 6, .inl (V)))] (fun r => r = bI (kMove V d (kPullBy V v - kSpring V d) = 1)) := by
  refine met_rz (cc := cX1_isDrawnInAt) (maxL := 3) (by decide) rfl (Nat.le_of_ble_eq_true rfl) (fun r h => bI_01 h) ?_
  intro p_ e s m args below meth c H ls Q hx hb hts hown hml hX hH hP hK hl hret
  have hl : lv_has ls 3 [(0, .ref a), (1, .int d), (2, .int v)] := hl
  refine lv_iload_n hx hb dX1_isDrawnInAt_0 rfl (lv_at hl 1 rfl) ?_
  refine lv_bipush (v := 40) hx hb dX1_isDrawnInAt_1 (by decide) ?_
  refine lv_icmp_ge (tgt := 30) hx hb dX1_isDrawnInAt_3 (by decide) (fun c3 => ?_) (fun c3 => ?_)
  · skip
    refine lv_iconst (v := 0) hx hb dX1_isDrawnInAt_30 (by decide) ?_
    exact hret _ _ _ dX1_isDrawnInAt_31 (bI_f (fun z => absurd ((kIn_iff hk).mp z).1 (Int32.not_lt.mpr c3)))
  · skip
    refine lv_aload_n hx hb dX1_isDrawnInAt_6 rfl (lv_at hl 0 rfl) ?_
    refine lv_iload_n hx hb dX1_isDrawnInAt_7 rfl (lv_at hl 2 rfl) ?_
    refine callRi (As := [.int v]) ⟨hx, hb, hml, hown, hts⟩ (mX1_pullOf l T D a q V G v) (cwV 1 hts gX1_isDrawnInAt_X1_pullOf rfl rfl rfl pdX1_pullOf ⟨Nat.le_of_ble_eq_true rfl, Nat.le_of_ble_eq_true rfl⟩) hP hK xN_bl (fun U _ hW => XN_warm hW hX) (ci := 1) rfl rfl rfl hl.1 rfl rfl (Nat.le_of_ble_eq_true rfl) dX1_isDrawnInAt_8 ⟨Nat.zero_le _, Nat.zero_le _⟩ (fun r1_ er1_ => ?_)
    obtain rfl : r1_ = kPullBy V v := er1_
    refine lv_aload_n hx hb dX1_isDrawnInAt_11 rfl (lv_at hl 0 rfl) ?_
    refine lv_iload_n hx hb dX1_isDrawnInAt_12 rfl (lv_at hl 1 rfl) ?_
    refine callRi (As := [.int d]) ⟨hx, hb, hml, hown, hts⟩ (mX1_drawnBackAt l T D a q V G d) (cwV 1 hts gX1_isDrawnInAt_X1_drawnBackAt rfl rfl rfl pdX1_drawnBackAt ⟨Nat.le_of_ble_eq_true rfl, Nat.le_of_ble_eq_true rfl⟩) hP hK xN_bl (fun U _ hW => XN_warm hW hX) (ci := 1) rfl rfl rfl hl.1 rfl rfl (Nat.le_of_ble_eq_true rfl) dX1_isDrawnInAt_13 ⟨Nat.zero_le _, Nat.zero_le _⟩ (fun r2_ er2_ => ?_)
    obtain rfl : r2_ = kSpring V d := er2_
    refine lv_isub hx hb dX1_isDrawnInAt_16 ?_
    refine lv_aload_n hx hb dX1_isDrawnInAt_17 rfl (lv_at hl 0 rfl) ?_
    refine va_get (D := D) (ci := 1) (v := .ref q) (C := RX1) (T := TX1) (N := 8) hx hb hts inwX1_isDrawnInAt_X1 hown hK hP 0 rfl rfl 0 (by decide) (hts (.fieldLink RX1 9 "PlateSlabs$Plates" "settings" "[I") (List.mem_of_getElem? (i := 1) rfl)) (fun _ h9 => h9) rfl dX1_isDrawnInAt_18 ?_
    refine lv_iconst (v := 4) hx hb dX1_isDrawnInAt_21 (by decide) ?_
    refine va_iald hx hb hK hP 1 0 rfl rfl (in_lit (by decide)) dX1_isDrawnInAt_22 ?_
    refine lv_tpi (congrArg (fun z => V z) (cl_4)) ?_
    refine lv_icmp_le (tgt := 30) hx hb dX1_isDrawnInAt_23 (by decide) (fun c23 => ?_) (fun c23 => ?_)
    · skip
      refine lv_iconst (v := 0) hx hb dX1_isDrawnInAt_30 (by decide) ?_
      exact hret _ _ _ dX1_isDrawnInAt_31 (bI_f (fun z => absurd ((kIn_iff hk).mp z).2 (Int32.not_lt.mpr c23)))
    · skip
      refine lv_iconst (v := 1) hx hb dX1_isDrawnInAt_26 (by decide) ?_
      refine lv_goto (tgt := 31) hx hb dX1_isDrawnInAt_27 (by decide) ?_
      exact hret _ _ _ dX1_isDrawnInAt_31 (bI_t ((kIn_iff hk).mpr ⟨Int32.not_le.mp c3, Int32.not_le.mp c23⟩))

def rmX1_isDrawnAllTheWayIn : Room := { frames := 2, cells := 0, slots := 0, locals := 43 }
set_option maxHeartbeats 4000000 in
set_option maxRecDepth 100000 in
theorem mX1_isDrawnAllTheWayIn (l : Launch) (T : Nat → ClassId) (D : va_G) (a q : Nat) (V : Nat → Int32) (G : Nat → Int64) (hk : kOk V) (v : Int32) (d : Nat) (hd : d ≤ 40) (he : V 6 = nI d) : RdI l yX1_isDrawnAllTheWayIn wsX1_isDrawnAllTheWayIn rmX1_isDrawnAllTheWayIn T xN D [.ref a, .int v] [(a, .inr (1, [.ref q, .int (V 6), .int (V 7), .int (V 8), .int (V 9), .long (G 0), .long (G 1), .long (G 2)])), (q, .inl (T 0, 6, .inl (V)))] (fun r => r = if kDb V v d = true then 1 else 0) := by
  refine met_rz (cc := cX1_isDrawnAllTheWayIn) (maxL := 3) (by decide) rfl (Nat.le_of_ble_eq_true rfl) (fun r h => bI_01 h) ?_
  intro p_ e s m args below meth c H ls Q hx hb hts hown hml hX hH hP hK hl hret
  have hl : lv_has ls 3 [(0, .ref a), (1, .int v)] := hl
  refine lv_aload_n hx hb dX1_isDrawnAllTheWayIn_0 rfl (lv_at hl 0 rfl) ?_
  refine va_get (D := D) (ci := 1) (v := .int (V 6)) (C := RX1) (T := TX1) (N := 8) hx hb hts inwX1_isDrawnAllTheWayIn_X1 hown hK hP 0 rfl rfl 1 (by decide) (hts (.fieldLink RX1 35 "PlateSlabs$Plates" "depth" "I") (List.mem_of_getElem? (i := 1) rfl)) (fun _ h9 => h9) rfl dX1_isDrawnAllTheWayIn_1 ?_
  refine lv_tpi (z := nI d) (he) ?_
  refine lv_istore_n (lv' := [(2, .int (nI d)), (0, .ref a), (1, .int v)]) hx hb dX1_isDrawnAllTheWayIn_4 rfl hl (by decide) rfl (fun ls hl => ?_)
  have loop : ∀ (j : Nat) (i : Nat) (ls : Array Slot), (41 ≤ i + j) → (i ≤ 40) → (d ≤ i) → (∀ j2, j2 < 40 → d ≤ j2 → j2 < i → kMove V (nI j2) (kPullBy V v - kSpring V (nI j2)) = 1) → lv_has ls 3 [(0, .ref a), (1, .int v), (2, .int (nI i))] → W p_ l e rmX1_isDrawnAllTheWayIn s m args below meth c H [] 0 0 Q (F0 m 5 ls []) := by
    intro j
    induction j with
    | zero => intro i ls hm hi; exact absurd hm (by omega)
    | succ j ih =>
      intro i ls hm hi hs ef hl
      refine lv_iload_n hx hb dX1_isDrawnAllTheWayIn_5 rfl (lv_at hl 2 rfl) ?_
      refine lv_bipush (v := 40) hx hb dX1_isDrawnAllTheWayIn_6 (by decide) ?_
      refine lv_icmp_ge (tgt := 28) hx hb dX1_isDrawnAllTheWayIn_8 (by decide) (fun c8 => ?_) (fun c8 => ?_)
      · skip
        have ei : i = 40 := by
          have := (nI_leI (a := 40) (b := i) (by decide) (by omega)).mp c8
          omega
        refine lv_iconst (v := 1) hx hb dX1_isDrawnAllTheWayIn_28 (by decide) ?_
        exact hret _ _ _ dX1_isDrawnAllTheWayIn_29 (dB_t (fun j2 h1 h2 => ef j2 h1 h2 (by omega)))
      · skip
        have hlt : i < 40 := by
          have := mt (nI_leI (a := 40) (b := i) (by decide) (by omega)).mpr c8
          omega
        refine lv_aload_n hx hb dX1_isDrawnAllTheWayIn_11 rfl (lv_at hl 0 rfl) ?_
        refine lv_iload_n hx hb dX1_isDrawnAllTheWayIn_12 rfl (lv_at hl 2 rfl) ?_
        refine lv_iload_n hx hb dX1_isDrawnAllTheWayIn_13 rfl (lv_at hl 1 rfl) ?_
        refine callRi (As := [.int (nI i), .int v]) ⟨hx, hb, hml, hown, hts⟩ (mX1_isDrawnInAt l T D a q V G hk (nI i) v) (cwV 2 hts gX1_isDrawnAllTheWayIn_X1_isDrawnInAt rfl rfl rfl pdX1_isDrawnInAt ⟨Nat.le_of_ble_eq_true rfl, Nat.le_of_ble_eq_true rfl⟩) hP hK xN_bl (fun U _ hW => XN_warm hW hX) (ci := 1) rfl rfl rfl hl.1 rfl rfl (Nat.le_of_ble_eq_true rfl) dX1_isDrawnAllTheWayIn_14 ⟨Nat.zero_le _, Nat.zero_le _⟩ (fun r1_ er1_ => ?_)
        obtain rfl : r1_ = bI (kMove V (nI i) (kPullBy V v - kSpring V (nI i)) = 1) := er1_
        refine lv_if_ne (tgt := 22) hx hb dX1_isDrawnAllTheWayIn_17 (by decide) (fun c17 => ?_) (fun c17 => ?_)
        · skip
          have c17 := bI_n0 c17
          refine lv_iinc (v := nI (i + 1)) (lv' := [(2, .int (nI (i + 1))), (0, .ref a), (1, .int v)]) hx hb dX1_isDrawnAllTheWayIn_22 hl (k := 2) rfl (nI_1 i) (by decide) rfl (fun ls hl => ?_)
          refine lv_goto (tgt := 5) hx hb dX1_isDrawnAllTheWayIn_25 (by decide) ?_
          exact ih (i + 1) ls (by omega) (by omega) (by omega) (fun j2 h1 h2 h3 => (Nat.lt_or_ge j2 i).elim (fun z => ef j2 h1 h2 z) (fun z => by rw [show j2 = i by omega]; exact c17)) (lv_sub hl [1, 2, 0] rfl)
        · skip
          have c17 := bI_0 c17
          refine lv_iconst (v := 0) hx hb dX1_isDrawnAllTheWayIn_20 (by decide) ?_
          exact hret _ _ _ dX1_isDrawnAllTheWayIn_21 (dB_f (fun z => c17 (z i hlt hs)))
  exact loop 41 d ls (by omega) (by omega) (Nat.le_refl _) (fun j2 _ h2 h3 => absurd h3 (by omega)) (lv_sub hl [1, 2, 0] rfl)
