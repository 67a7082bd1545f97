theorem pdX2_shareOf : yX2_shareOf.cls = RX2 ∧ yX2_shareOf.cls ≠ "java/lang/invoke/MethodHandle" ∧ yX2_shareOf.cls ≠ "java/lang/invoke/VarHandle" ∧ (parseMethodDescriptor yX2_shareOf.desc).map (fun d => d.parameters.length) = some 3 := by decide +kernel
theorem pdX2_moveCharges : yX2_moveCharges.cls = RX2 ∧ yX2_moveCharges.cls ≠ "java/lang/invoke/MethodHandle" ∧ yX2_moveCharges.cls ≠ "java/lang/invoke/VarHandle" ∧ (parseMethodDescriptor yX2_moveCharges.desc).map (fun d => d.parameters.length) = some 3 := by decide +kernel
theorem pdX2_share : yX2_share.cls = RX2 ∧ yX2_share.cls ≠ "java/lang/invoke/MethodHandle" ∧ yX2_share.cls ≠ "java/lang/invoke/VarHandle" ∧ (parseMethodDescriptor yX2_share.desc).map (fun d => d.parameters.length) = some 2 := by decide +kernel
theorem pdJ9_floorDiv_f86c9 : yJ9_floorDiv_f86c9.cls = RJ9 ∧ yJ9_floorDiv_f86c9.cls ≠ "java/lang/invoke/MethodHandle" ∧ yJ9_floorDiv_f86c9.cls ≠ "java/lang/invoke/VarHandle" ∧ (parseMethodDescriptor yJ9_floorDiv_f86c9.desc).map (fun d => d.parameters.length) = some 2 := by decide +kernel
theorem inwX2_moveCharges_X1 : ∀ w ∈ wsX10, w ∈ wsX2_moveCharges := by decide +kernel
theorem inwX2_share_X2 : ∀ w ∈ wsX20, w ∈ wsX2_share := by decide +kernel
theorem inwX2_share_X1 : ∀ w ∈ wsX10, w ∈ wsX2_share := by decide +kernel
def rmJ9_floorDiv_f86c9 : Room := { frames := 0, cells := 0, slots := 0, locals := 0 }
set_option maxHeartbeats 4000000 in
set_option maxRecDepth 100000 in
theorem mJ9_floorDiv_f86c9 (l : Launch) (T : Nat → ClassId) (D : va_G) (x : Int64) (hb2 : -4611686018427387904 ≤ x.toInt) : RdL l yJ9_floorDiv_f86c9 wsJ9_floorDiv_f86c9 rmJ9_floorDiv_f86c9 T xN D [.long x, .long 2] [] (fun r => r = kHalf x) := by
  refine met_rlF (cc := cJ9_floorDiv_f86c9) (maxL := 6) (by decide +kernel) rfl (Nat.le_of_ble_eq_true rfl) ?_
  intro p_ e s m args below meth c H ls Q hx hb hts hown hml hX hH hP hK hl hret
  have hl : lv_has ls 6 [(0, .long x), (2, .long 2)] := hl
  refine lv_lload_n hx hb dJ9_floorDiv_f86c9_0 rfl (lv_at hl 0 rfl) ?_
  refine lv_lload_n hx hb dJ9_floorDiv_f86c9_1 rfl (lv_at hl 1 rfl) ?_
  refine lv_ldiv hx hb dJ9_floorDiv_f86c9_2 (by decide) ?_
  refine lv_lstore (lv' := [(4, .long (x / 2)), (0, .long x), (2, .long 2)]) hx hb dJ9_floorDiv_f86c9_3 hl (by decide) rfl (fun ls hl => ?_)
  refine lv_lload_n hx hb dJ9_floorDiv_f86c9_5 rfl (lv_at hl 1 rfl) ?_
  refine lv_lload_n hx hb dJ9_floorDiv_f86c9_6 rfl (lv_at hl 2 rfl) ?_
  refine lv_lxor hx hb dJ9_floorDiv_f86c9_7 ?_
  refine lv_lconst (v := 0) hx hb dJ9_floorDiv_f86c9_8 (by decide) ?_
  refine W.lcmp hx hb dJ9_floorDiv_f86c9_9 ?_
  refine lv_if_ge (tgt := 27) hx hb dJ9_floorDiv_f86c9_10 (by decide) (fun c10 => ?_) (fun c10 => ?_)
  · skip
    have h0 : ¬ x < 0 := Int64.not_lt.mpr ((xor2 x).mp ((lg_cmp_ge _ _).mp c10))
    refine lv_lload hx hb dJ9_floorDiv_f86c9_27 (lv_at hl 0 rfl) ?_
    exact hret _ _ _ dJ9_floorDiv_f86c9_29 (by rw [kHalf, if_neg h0])
  · skip
    have h0 : x < 0 := Int64.not_le.mp (fun z => c10 ((lg_cmp_ge _ _).mpr ((xor2 x).mpr z)))
    refine lv_lload hx hb dJ9_floorDiv_f86c9_13 (lv_at hl 0 rfl) ?_
    refine lv_lload_n hx hb dJ9_floorDiv_f86c9_15 rfl (lv_at hl 2 rfl) ?_
    refine lv_lmul hx hb dJ9_floorDiv_f86c9_16 ?_
    refine lv_lload_n hx hb dJ9_floorDiv_f86c9_17 rfl (lv_at hl 1 rfl) ?_
    refine W.lcmp hx hb dJ9_floorDiv_f86c9_18 ?_
    refine lv_if_eq (tgt := 27) hx hb dJ9_floorDiv_f86c9_19 (by decide) (fun c19 => ?_) (fun c19 => ?_)
    · skip
      refine lv_lload hx hb dJ9_floorDiv_f86c9_27 (lv_at hl 0 rfl) ?_
      exact hret _ _ _ dJ9_floorDiv_f86c9_29 (half_even h0 hb2 ((lg_cmp_eq _ _).mp c19))
    · skip
      refine lv_lload hx hb dJ9_floorDiv_f86c9_22 (lv_at hl 0 rfl) ?_
      refine lv_lconst (v := 1) hx hb dJ9_floorDiv_f86c9_24 (by decide) ?_
      refine lv_lsub hx hb dJ9_floorDiv_f86c9_25 ?_
      exact hret _ _ _ dJ9_floorDiv_f86c9_26 (half_odd h0 hb2 (fun z => c19 ((lg_cmp_eq _ _).mpr z)))

def rmX2_shareOf : Room := { frames := 0, cells := 0, slots := 0, locals := 0 }
set_option maxHeartbeats 4000000 in
set_option maxRecDepth 100000 in
theorem mX2_shareOf (l : Launch) (T : Nat → ClassId) (D : va_G) (x y z : Int32) (h1 : 1 ≤ y + z) (hne : ¬ (y + z).toInt64 = 0) : RdI l yX2_shareOf wsX2_shareOf rmX2_shareOf T xN D [.int x, .int y, .int z] [] (fun r => r = (x.toInt64 * y.toInt64 / (y + z).toInt64).toInt32) := by
  refine met_ri (cc := cX2_shareOf) (maxL := 4) (by decide) rfl (Nat.le_of_ble_eq_true rfl) ?_
  intro p_ e s m args below meth c H ls Q hx hb hts hown hml hX hH hP hK hl hret
  have hl : lv_has ls 4 [(0, .int x), (1, .int y), (2, .int z)] := hl
  refine lv_iload_n hx hb dX2_shareOf_0 rfl (lv_at hl 1 rfl) ?_
  refine lv_iload_n hx hb dX2_shareOf_1 rfl (lv_at hl 2 rfl) ?_
  refine lv_iadd hx hb dX2_shareOf_2 ?_
  refine lv_istore_n (lv' := [(3, .int (y + z)), (0, .int x), (1, .int y), (2, .int z)]) hx hb dX2_shareOf_3 rfl hl (by decide) rfl (fun ls hl => ?_)
  refine lv_iload_n hx hb dX2_shareOf_4 rfl (lv_at hl 0 rfl) ?_
  refine lv_iconst (v := 1) hx hb dX2_shareOf_5 (by decide) ?_
  refine lv_icmp_ge (tgt := 13) hx hb dX2_shareOf_6 (by decide) (fun c6 => ?_) (fun c6 => ?_)
  · skip
    refine lv_iload_n hx hb dX2_shareOf_13 rfl (lv_at hl 1 rfl) ?_
    refine lv_i2l hx hb dX2_shareOf_14 rfl ?_
    refine lv_iload_n hx hb dX2_shareOf_15 rfl (lv_at hl 2 rfl) ?_
    refine lv_i2l hx hb dX2_shareOf_16 rfl ?_
    refine lv_lmul hx hb dX2_shareOf_17 ?_
    refine lv_iload_n hx hb dX2_shareOf_18 rfl (lv_at hl 0 rfl) ?_
    refine lv_i2l hx hb dX2_shareOf_19 rfl ?_
    refine lv_ldiv hx hb dX2_shareOf_20 (hne) ?_
    refine lv_l2i hx hb dX2_shareOf_21 rfl ?_
    exact hret _ _ _ dX2_shareOf_22 rfl
  · skip
    exact absurd h1 c6

def rmX2_moveCharges : Room := { frames := 2, cells := 0, slots := 0, locals := 43 }
set_option maxHeartbeats 4000000 in
set_option maxRecDepth 100000 in
theorem mX2_moveCharges (l : Launch) (T : Nat → ClassId) (D : va_G) (a q : Nat) (V : Nat → Int32) (G : Nat → Int64) (a2 q2 : Nat) (U : Nat → Int32) (F : Nat → Int64) (hk : kOk V) (hu : kOk U) (x y : Int32) (hxx : 0 ≤ x.toInt ∧ x.toInt ≤ 200000) (hy : y = U 7 + (V 7 - x)) (hy2 : 0 ≤ y.toInt ∧ y.toInt ≤ 200000) : MuV l yX2_moveCharges wsX2_moveCharges rmX2_moveCharges T xN D [.ref a, .ref a2, .int x] [(a, .inr (1, [.ref q, .int (V 6), .int (V 7), .int (V 8), .int (V 9), .long (G 0), .long (G 1), .long (G 2)])), (q, .inl (T 0, 6, .inl (V))), (a2, .inr (1, [.ref q2, .int (U 6), .int (U 7), .int (U 8), .int (U 9), .long (F 0), .long (F 1), .long (F 2)])), (q2, .inl (T 0, 6, .inl (U)))] (S := Unit) (fun _ => True) (fun _ => plW T a q (upd V 7 x) (vp_updL G 2 (G 2 + kHalf (kStored V + kStored U - kStored (upd V 7 x) - kStored (upd U 7 y)))) ++ plW T a2 q2 (upd U 7 y) (vp_updL F 2 (F 2 + ((kStored V + kStored U - kStored (upd V 7 x) - kStored (upd U 7 y)) - kHalf (kStored V + kStored U - kStored (upd V 7 x) - kStored (upd U 7 y)))))) 0 0 := by
  refine met_mv (cc := cX2_moveCharges) (maxL := 9) (by decide) rfl (Nat.le_of_ble_eq_true rfl) ?_
  intro p_ e s m args below meth c ls A Q hx hb hts hown hml hX hP hD hK hS hA hl hin hret
  have hl : lv_has ls 9 [(0, .ref a), (1, .ref a2), (2, .int x)] := hl
  obtain ⟨H, hH⟩ : ∃ H, H = s.heap := ⟨_, rfl⟩
  have hS : va_S A s.heap H [] := by rw [hH]; exact hS
  rw [← hH] at hP ⊢
  refine lv_aload_n hx hb dX2_moveCharges_0 rfl (lv_at hl 0 rfl) ?_
  skip
  refine callRl (As := []) ⟨hx, hb, hml, hown, hts⟩ (mX1_stored l T D a q V G hk) (cwV 0 hts gX2_moveCharges_X1_stored rfl rfl rfl pdX1_stored ⟨Nat.le_of_ble_eq_true rfl, Nat.le_of_ble_eq_true rfl⟩) (hP.sub [0, 1] rfl) hK xN_bl (fun U _ hW => XN_warm hW hX) (ci := 1) rfl rfl rfl hl.1 rfl rfl (Nat.le_of_ble_eq_true rfl) dX2_moveCharges_1 ⟨Nat.zero_le _, Nat.zero_le _⟩ (fun r1_ er1_ => ?_)
  obtain rfl : r1_ = kStored V := er1_
  refine lv_aload_n hx hb dX2_moveCharges_4 rfl (lv_at hl 1 rfl) ?_
  skip
  refine callRl (As := []) ⟨hx, hb, hml, hown, hts⟩ (mX1_stored l T D a2 q2 U F hu) (cwV 0 hts gX2_moveCharges_X1_stored rfl rfl rfl pdX1_stored ⟨Nat.le_of_ble_eq_true rfl, Nat.le_of_ble_eq_true rfl⟩) (hP.sub [2, 3] rfl) hK xN_bl (fun U _ hW => XN_warm hW hX) (ci := 1) rfl rfl rfl hl.1 rfl rfl (Nat.le_of_ble_eq_true rfl) dX2_moveCharges_5 ⟨Nat.zero_le _, Nat.zero_le _⟩ (fun r2_ er2_ => ?_)
  obtain rfl : r2_ = kStored U := er2_
  refine lv_ladd hx hb dX2_moveCharges_8 ?_
  refine lv_topl (fun x3_ ex3_ => ?_)
  refine lv_lstore_n (lv' := [(3, .long x3_), (0, .ref a), (1, .ref a2), (2, .int x)]) hx hb dX2_moveCharges_9 rfl hl (by decide) rfl (fun ls hl => ?_)
  refine lv_aload_n hx hb dX2_moveCharges_10 rfl (lv_at hl 2 rfl) ?_
  refine lv_dup hx hb dX2_moveCharges_11 rfl ?_
  refine va_get (D := D) (ci := 1) (v := .int (U 7)) (C := RX1) (T := TX1) (N := 8) hx hb hts inwX2_moveCharges_X1 hown hK hP 2 rfl rfl 2 (by decide) (hts (.fieldLink RX2 57 "PlateSlabs$Plates" "charge" "I") (List.mem_of_getElem? (i := 1) rfl)) (fun _ h9 => h9) rfl dX2_moveCharges_12 ?_
  refine lv_aload_n hx hb dX2_moveCharges_15 rfl (lv_at hl 1 rfl) ?_
  refine va_get (D := D) (ci := 1) (v := .int (V 7)) (C := RX1) (T := TX1) (N := 8) hx hb hts inwX2_moveCharges_X1 hown hK hP 0 rfl rfl 2 (by decide) (hts (.fieldLink RX2 57 "PlateSlabs$Plates" "charge" "I") (List.mem_of_getElem? (i := 1) rfl)) (fun _ h9 => h9) rfl dX2_moveCharges_16 ?_
  refine lv_iload_n hx hb dX2_moveCharges_19 rfl (lv_at hl 3 rfl) ?_
  refine lv_isub hx hb dX2_moveCharges_20 ?_
  refine lv_iadd hx hb dX2_moveCharges_21 ?_
  refine lv_tpi (z := y) (hy.symm) ?_
  refine va_put (D := D) (ci := 1) (v := .int y) (C := RX1) (T := TX1) (N := 8) hx hb hts inwX2_moveCharges_X1 tyX1 tyX1_ok nmX1 hown hK hP hD hS 2 rfl rfl 2 (by decide) (hts (.fieldLink RX2 57 "PlateSlabs$Plates" "charge" "I") (List.mem_of_getElem? (i := 1) rfl)) (fun _ h9 => h9) rfl (tyX1_ok 2 (by decide)) (rfl) (rfl) (Nat.le_of_ble_eq_true rfl) dX2_moveCharges_22 (fun H locs hP hD hS => ?_)
  have hP : va_P D vwCl [(a, .inr (1, [.ref q, .int (V 6), .int (V 7), .int (V 8), .int (V 9), .long (G 0), .long (G 1), .long (G 2)])), (q, .inl (T 0, 6, .inl (V))), (a2, .inr (1, [.ref q2, .int (U 6), .int y, .int (U 8), .int (U 9), .long (F 0), .long (F 1), .long (F 2)])), (q2, .inl (T 0, 6, .inl (U)))] H := hP
  have hD : va_D A [(a, .inr (1, [.ref q, .int (V 6), .int (V 7), .int (V 8), .int (V 9), .long (G 0), .long (G 1), .long (G 2)])), (q, .inl (T 0, 6, .inl (V))), (a2, .inr (1, [.ref q2, .int (U 6), .int y, .int (U 8), .int (U 9), .long (F 0), .long (F 1), .long (F 2)])), (q2, .inl (T 0, 6, .inl (U)))] := hD
  refine lv_aload_n hx hb dX2_moveCharges_25 rfl (lv_at hl 1 rfl) ?_
  refine lv_iload_n hx hb dX2_moveCharges_26 rfl (lv_at hl 3 rfl) ?_
  refine va_put (D := D) (ci := 1) (v := .int x) (C := RX1) (T := TX1) (N := 8) hx hb hts inwX2_moveCharges_X1 tyX1 tyX1_ok nmX1 hown hK hP hD hS 0 rfl rfl 2 (by decide) (hts (.fieldLink RX2 57 "PlateSlabs$Plates" "charge" "I") (List.mem_of_getElem? (i := 1) rfl)) (fun _ h9 => h9) rfl (tyX1_ok 2 (by decide)) (rfl) (rfl) (Nat.le_of_ble_eq_true rfl) dX2_moveCharges_27 (fun H locs hP hD hS => ?_)
  have hP : va_P D vwCl [(a, .inr (1, [.ref q, .int (V 6), .int x, .int (V 8), .int (V 9), .long (G 0), .long (G 1), .long (G 2)])), (q, .inl (T 0, 6, .inl (V))), (a2, .inr (1, [.ref q2, .int (U 6), .int y, .int (U 8), .int (U 9), .long (F 0), .long (F 1), .long (F 2)])), (q2, .inl (T 0, 6, .inl (U)))] H := hP
  have hD : va_D A [(a, .inr (1, [.ref q, .int (V 6), .int x, .int (V 8), .int (V 9), .long (G 0), .long (G 1), .long (G 2)])), (q, .inl (T 0, 6, .inl (V))), (a2, .inr (1, [.ref q2, .int (U 6), .int y, .int (U 8), .int (U 9), .long (F 0), .long (F 1), .long (F 2)])), (q2, .inl (T 0, 6, .inl (U)))] := hD
  obtain ⟨V1, eV1⟩ : ∃ z, z = upd V 7 x := ⟨_, rfl⟩
  obtain ⟨U1, eU1⟩ : ∃ z, z = upd U 7 y := ⟨_, rfl⟩
  have hP : va_P D vwCl [(a, .inr (1, [.ref q, .int (V1 6), .int (V1 7), .int (V1 8), .int (V1 9), .long (G 0), .long (G 1), .long (G 2)])), (q, .inl (T 0, 6, .inl (V1))), (a2, .inr (1, [.ref q2, .int (U1 6), .int (U1 7), .int (U1 8), .int (U1 9), .long (F 0), .long (F 1), .long (F 2)])), (q2, .inl (T 0, 6, .inl (U1)))] H := by
    rw [eV1, eU1]
    exact wP_re (wP_re hP 1 rfl (at_i (fun j hj => (upd_n (by omega)).symm))) 3 rfl (at_i (fun j hj => (upd_n (by omega)).symm))
  have hD : va_D A [(a, .inr (1, [.ref q, .int (V1 6), .int (V1 7), .int (V1 8), .int (V1 9), .long (G 0), .long (G 1), .long (G 2)])), (q, .inl (T 0, 6, .inl (V1))), (a2, .inr (1, [.ref q2, .int (U1 6), .int (U1 7), .int (U1 8), .int (U1 9), .long (F 0), .long (F 1), .long (F 2)])), (q2, .inl (T 0, 6, .inl (U1)))] := by
    rw [eV1, eU1]
    exact wD_ad hD rfl
  have hk1 : kOk V1 := by rw [eV1]; exact kOk_u7 hk hxx
  have hu1 : kOk U1 := by rw [eU1]; exact kOk_u7 hu hy2
  refine lv_lload_n hx hb dX2_moveCharges_30 rfl (lv_at hl 0 rfl) ?_
  refine lv_aload_n hx hb dX2_moveCharges_31 rfl (lv_at hl 1 rfl) ?_
  skip
  refine callRl (As := []) ⟨hx, hb, hml, hown, hts⟩ (mX1_stored l T D a q V1 G hk1) (cwV 0 hts gX2_moveCharges_X1_stored rfl rfl rfl pdX1_stored ⟨Nat.le_of_ble_eq_true rfl, Nat.le_of_ble_eq_true rfl⟩) (hP.sub [0, 1] rfl) hK xN_bl (fun U _ hW => XN_warm hW hX) (ci := 1) rfl rfl rfl hl.1 rfl rfl (Nat.le_of_ble_eq_true rfl) dX2_moveCharges_32 ⟨Nat.zero_le _, Nat.zero_le _⟩ (fun r3_ er3_ => ?_)
  obtain rfl : r3_ = kStored V1 := er3_
  refine lv_lsub hx hb dX2_moveCharges_35 ?_
  refine lv_aload_n hx hb dX2_moveCharges_36 rfl (lv_at hl 2 rfl) ?_
  skip
  refine callRl (As := []) ⟨hx, hb, hml, hown, hts⟩ (mX1_stored l T D a2 q2 U1 F hu1) (cwV 0 hts gX2_moveCharges_X1_stored rfl rfl rfl pdX1_stored ⟨Nat.le_of_ble_eq_true rfl, Nat.le_of_ble_eq_true rfl⟩) (hP.sub [2, 3] rfl) hK xN_bl (fun U _ hW => XN_warm hW hX) (ci := 1) rfl rfl rfl hl.1 rfl rfl (Nat.le_of_ble_eq_true rfl) dX2_moveCharges_37 ⟨Nat.zero_le _, Nat.zero_le _⟩ (fun r4_ er4_ => ?_)
  obtain rfl : r4_ = kStored U1 := er4_
  refine lv_lsub hx hb dX2_moveCharges_40 ?_
  refine lv_lstore (lv' := [(5, .long ((x3_ - (kStored V1)) - (kStored U1))), (3, .long x3_), (0, .ref a), (1, .ref a2), (2, .int x)]) hx hb dX2_moveCharges_41 hl (by decide) rfl (fun ls hl => ?_)
  refine lv_lload hx hb dX2_moveCharges_43 (lv_at hl 0 rfl) ?_
  refine lv_ldc2 (v := 2) hx hb hown (hts (.constantLong RX2 83 (2)) (List.mem_of_getElem? (i := 2) rfl)) dX2_moveCharges_45 ?_
  refine callSl (As := [.long ((x3_ - (kStored V1)) - (kStored U1)), .long 2]) ⟨hx, hb, hml, hown, hts⟩ (mJ9_floorDiv_f86c9 l T D ((x3_ - (kStored V1)) - (kStored U1)) (by rw [ex3_]; exact loss_bd hk hu hk1 hu1)) (va_cwS 2 hts gX2_moveCharges_J9_floorDiv_f86c9 rfl rfl rfl (pdJ9_floorDiv_f86c9).2 ⟨Nat.le_of_ble_eq_true rfl, Nat.le_of_ble_eq_true rfl⟩) wP_nil hK xN_bl (fun U _ hW => XN_warm hW hX) hl.1 rfl rfl (Nat.le_of_ble_eq_true rfl) dX2_moveCharges_48 ⟨Nat.zero_le _, Nat.zero_le _⟩ (fun r5_ er5_ => ?_)
  obtain rfl : r5_ = kHalf ((x3_ - (kStored V1)) - (kStored U1)) := er5_
  refine lv_lstore (lv' := [(7, .long (kHalf ((x3_ - (kStored V1)) - (kStored U1)))), (5, .long ((x3_ - (kStored V1)) - (kStored U1))), (3, .long x3_), (0, .ref a), (1, .ref a2), (2, .int x)]) hx hb dX2_moveCharges_51 hl (by decide) rfl (fun ls hl => ?_)
  refine lv_aload_n hx hb dX2_moveCharges_53 rfl (lv_at hl 3 rfl) ?_
  refine lv_dup hx hb dX2_moveCharges_54 rfl ?_
  refine va_get (D := D) (ci := 1) (v := .long (G 2)) (C := RX1) (T := TX1) (N := 8) hx hb hts inwX2_moveCharges_X1 hown hK hP 0 rfl rfl 7 (by decide) (hts (.fieldLink RX2 91 "PlateSlabs$Plates" "sparked" "J") (List.mem_of_getElem? (i := 3) rfl)) (fun _ h9 => h9) rfl dX2_moveCharges_55 ?_
  refine lv_lload hx hb dX2_moveCharges_58 (lv_at hl 0 rfl) ?_
  refine lv_ladd hx hb dX2_moveCharges_60 ?_
  refine va_put (D := D) (ci := 1) (v := .long ((G 2) + (kHalf ((x3_ - (kStored V1)) - (kStored U1))))) (C := RX1) (T := TX1) (N := 8) hx hb hts inwX2_moveCharges_X1 tyX1 tyX1_ok nmX1 hown hK hP hD hS 0 rfl rfl 7 (by decide) (hts (.fieldLink RX2 91 "PlateSlabs$Plates" "sparked" "J") (List.mem_of_getElem? (i := 3) rfl)) (fun _ h9 => h9) rfl (tyX1_ok 7 (by decide)) (rfl) (rfl) (Nat.le_of_ble_eq_true rfl) dX2_moveCharges_61 (fun H locs hP hD hS => ?_)
  have hP : va_P D vwCl [(a, .inr (1, [.ref q, .int (V1 6), .int (V1 7), .int (V1 8), .int (V1 9), .long (G 0), .long (G 1), .long ((G 2) + (kHalf ((x3_ - (kStored V1)) - (kStored U1))))])), (q, .inl (T 0, 6, .inl (V1))), (a2, .inr (1, [.ref q2, .int (U1 6), .int (U1 7), .int (U1 8), .int (U1 9), .long (F 0), .long (F 1), .long (F 2)])), (q2, .inl (T 0, 6, .inl (U1)))] H := hP
  have hD : va_D A [(a, .inr (1, [.ref q, .int (V1 6), .int (V1 7), .int (V1 8), .int (V1 9), .long (G 0), .long (G 1), .long ((G 2) + (kHalf ((x3_ - (kStored V1)) - (kStored U1))))])), (q, .inl (T 0, 6, .inl (V1))), (a2, .inr (1, [.ref q2, .int (U1 6), .int (U1 7), .int (U1 8), .int (U1 9), .long (F 0), .long (F 1), .long (F 2)])), (q2, .inl (T 0, 6, .inl (U1)))] := hD
  refine lv_aload_n hx hb dX2_moveCharges_64 rfl (lv_at hl 4 rfl) ?_
  refine lv_dup hx hb dX2_moveCharges_65 rfl ?_
  refine va_get (D := D) (ci := 1) (v := .long (F 2)) (C := RX1) (T := TX1) (N := 8) hx hb hts inwX2_moveCharges_X1 hown hK hP 2 rfl rfl 7 (by decide) (hts (.fieldLink RX2 91 "PlateSlabs$Plates" "sparked" "J") (List.mem_of_getElem? (i := 3) rfl)) (fun _ h9 => h9) rfl dX2_moveCharges_66 ?_
  refine lv_lload hx hb dX2_moveCharges_69 (lv_at hl 1 rfl) ?_
  refine lv_lload hx hb dX2_moveCharges_71 (lv_at hl 0 rfl) ?_
  refine lv_lsub hx hb dX2_moveCharges_73 ?_
  refine lv_ladd hx hb dX2_moveCharges_74 ?_
  refine va_put (D := D) (ci := 1) (v := .long ((F 2) + (((x3_ - (kStored V1)) - (kStored U1)) - (kHalf ((x3_ - (kStored V1)) - (kStored U1)))))) (C := RX1) (T := TX1) (N := 8) hx hb hts inwX2_moveCharges_X1 tyX1 tyX1_ok nmX1 hown hK hP hD hS 2 rfl rfl 7 (by decide) (hts (.fieldLink RX2 91 "PlateSlabs$Plates" "sparked" "J") (List.mem_of_getElem? (i := 3) rfl)) (fun _ h9 => h9) rfl (tyX1_ok 7 (by decide)) (rfl) (rfl) (Nat.le_of_ble_eq_true rfl) dX2_moveCharges_75 (fun H locs hP hD hS => ?_)
  have hP : va_P D vwCl [(a, .inr (1, [.ref q, .int (V1 6), .int (V1 7), .int (V1 8), .int (V1 9), .long (G 0), .long (G 1), .long ((G 2) + (kHalf ((x3_ - (kStored V1)) - (kStored U1))))])), (q, .inl (T 0, 6, .inl (V1))), (a2, .inr (1, [.ref q2, .int (U1 6), .int (U1 7), .int (U1 8), .int (U1 9), .long (F 0), .long (F 1), .long ((F 2) + (((x3_ - (kStored V1)) - (kStored U1)) - (kHalf ((x3_ - (kStored V1)) - (kStored U1)))))])), (q2, .inl (T 0, 6, .inl (U1)))] H := hP
  have hD : va_D A [(a, .inr (1, [.ref q, .int (V1 6), .int (V1 7), .int (V1 8), .int (V1 9), .long (G 0), .long (G 1), .long ((G 2) + (kHalf ((x3_ - (kStored V1)) - (kStored U1))))])), (q, .inl (T 0, 6, .inl (V1))), (a2, .inr (1, [.ref q2, .int (U1 6), .int (U1 7), .int (U1 8), .int (U1 9), .long (F 0), .long (F 1), .long ((F 2) + (((x3_ - (kStored V1)) - (kStored U1)) - (kHalf ((x3_ - (kStored V1)) - (kStored U1)))))])), (q2, .inl (T 0, 6, .inl (U1)))] := hD
  exact hret _ _ () _ _ dX2_moveCharges_78 hS (by rw [← eV1, ← eU1, ← ex3_]; exact hP) (by rw [← eV1, ← eU1, ← ex3_]; exact hD) trivial

theorem rest_eq (V U : Nat → Int32) : kRest V U = U 7 + (V 7 - kMine V U) := by
  rw [kRest, i_l_i, Int32.sub_eq_add_neg, Int32.sub_eq_add_neg, Int32.add_comm (V 7), Int32.add_assoc]
theorem capsum_1 {V U : Nat → Int32} (hV : kOk V) (hU : kOk U) : 1 ≤ kCap V (V 6) + kCap U (U 6) := by
  have a := (kCap_int hV (kOk_d hV)).2
  have b := (kCap_int hU (kOk_d hU)).2
  rw [fa_le, capsum hV hU, i_1]
  omega
def rmX2_share : Room := { frames := 3, cells := 0, slots := 0, locals := 71 }
set_option maxHeartbeats 4000000 in
set_option maxRecDepth 100000 in
theorem mX2_share (l : Launch) (T : Nat → ClassId) (D : va_G) (b : Nat → Nat) (t : Nat → Int32) (P : Nat → Nat → Int32) (E : Nat → Nat → Int64) (hk : ∀ p, p < 4 → kOk (P p)) (x y : Int32) : MuI l yX2_share wsX2_share rmX2_share T xN D [.ref (b 0), .int x, .int y] ([((b 0), .inr (2, [.ref (b 1), .int (t 0), .int (t 1), .int (t 2)])), ((b 1), .inl (T 3, 4, .inr (.inr (.inr (.inr ((fun i => some (b (2 + 2 * i)))))))))] ++ stT T b P E) (S := SG) (fun r u => (r, u) = oCouple x y (t, P, E)) (fun u => stW T b u.1 u.2.1 u.2.2) 0 0 := by
  refine met_mi (cc := cX2_share) (maxL := 7) (by decide) rfl (Nat.le_of_ble_eq_true rfl) ?_
  intro p_ e s m args below meth c ls A Q hx hb hts hown hml hX hP hD hK hS hA hl hret
  have hl : lv_has ls 7 [(0, .ref (b 0)), (1, .int x), (2, .int y)] := hl
  obtain ⟨H, hH⟩ : ∃ H, H = s.heap := ⟨_, rfl⟩
  have hS : va_S A s.heap H [] := by rw [hH]; exact hS
  rw [← hH] at hP ⊢
  refine lv_iload_n hx hb dX2_share_0 rfl (lv_at hl 1 rfl) ?_
  refine callNi (As := [.int x]) ⟨hx, hb, hml, hown, hts⟩ (mX5_isPair l T D x) ⟨va_cnB 1 hts gX2_share_X5_isPair_n32 rfl rfl rfl (hX.1 _ (List.mem_of_getElem? (i := 4) rfl)) (hts (.initialized RX5) (List.mem_of_getElem? (i := 8) rfl)) (pdX5_isPair).2 ⟨Nat.le_of_ble_eq_true rfl, Nat.le_of_ble_eq_true rfl⟩, (hts (.static yX5_isPair) (List.mem_of_getElem? (i := 7) rfl)), trivial⟩ wP_nil hK xN_bl (fun U _ hW => XN_warm hW hX) hl.1 rfl rfl (Nat.le_of_ble_eq_true rfl) dX2_share_1 ⟨Nat.zero_le _, Nat.zero_le _⟩ (fun r1_ er1_ => ?_)
  obtain rfl : r1_ = bI (0 ≤ x ∧ x ≤ 3) := er1_
  refine lv_if_eq (tgt := 14) hx hb dX2_share_4 (by decide) (fun c4 => ?_) (fun c4 => ?_)
  · skip
    have c4 := bI_0 c4
    refine lv_iconst (v := (-1)) hx hb dX2_share_14 (by decide) ?_
    exact hret _ _ _ (t, P, E) _ _ dX2_share_15 hS hP hD (by rw [oCouple_f _ (fun z => c4 z.1)])
  · skip
    have c4 := bI_n0 c4
    obtain ⟨p, hp, rfl⟩ := pair_of c4
    refine lv_iload_n hx hb dX2_share_7 rfl (lv_at hl 2 rfl) ?_
    refine callNi (As := [.int y]) ⟨hx, hb, hml, hown, hts⟩ (mX5_isPair l T D y) ⟨va_cnB 1 hts gX2_share_X5_isPair_n32 rfl rfl rfl (hX.1 _ (List.mem_of_getElem? (i := 4) rfl)) (hts (.initialized RX5) (List.mem_of_getElem? (i := 8) rfl)) (pdX5_isPair).2 ⟨Nat.le_of_ble_eq_true rfl, Nat.le_of_ble_eq_true rfl⟩, (hts (.static yX5_isPair) (List.mem_of_getElem? (i := 7) rfl)), trivial⟩ wP_nil hK xN_bl (fun U _ hW => XN_warm hW hX) hl.1 rfl rfl (Nat.le_of_ble_eq_true rfl) dX2_share_8 ⟨Nat.zero_le _, Nat.zero_le _⟩ (fun r2_ er2_ => ?_)
    obtain rfl : r2_ = bI (0 ≤ y ∧ y ≤ 3) := er2_
    refine lv_if_ne (tgt := 16) hx hb dX2_share_11 (by decide) (fun c11 => ?_) (fun c11 => ?_)
    · skip
      have c11 := bI_n0 c11
      obtain ⟨q, hq, rfl⟩ := pair_of c11
      refine lv_iload_n hx hb dX2_share_16 rfl (lv_at hl 1 rfl) ?_
      refine lv_iload_n hx hb dX2_share_17 rfl (lv_at hl 2 rfl) ?_
      refine lv_icmp_ne (tgt := 24) hx hb dX2_share_18 (by decide) (fun c18 => ?_) (fun c18 => ?_)
      · skip
        have hn : ¬ p = q := fun z => c18 (by rw [z])
        refine lv_aload_n hx hb dX2_share_24 rfl (lv_at hl 0 rfl) ?_
        refine va_get (D := D) (ci := 2) (v := .ref (b 1)) (C := RX2) (T := TX2) (N := 4) hx hb hts inwX2_share_X2 hown hK hP 0 rfl rfl 0 (by decide) (hts (.fieldLink RX2 11 "PlateSlabs$State" "pairs" "[LPlateSlabs$Plates;") (List.mem_of_getElem? (i := 1) rfl)) (fun _ h9 => h9) rfl dX2_share_25 ?_
        refine lv_iload_n hx hb dX2_share_28 rfl (lv_at hl 1 rfl) ?_
        refine va_aldq hx hb hK hP 1 3 rfl rfl (vp_in_nI (by omega) (by decide)) dX2_share_29 ?_
        refine lv_tpv (congrArg (fun z => va_rf ((fun i => some (b (2 + 2 * i))) z)) (nI_clamp (by omega))) ?_
        refine lv_astore_n (lv' := [(3, .ref (b (2 + 2 * p))), (0, .ref (b 0)), (1, .int (nI p)), (2, .int (nI q))]) hx hb dX2_share_30 rfl hl (by decide) rfl (fun ls hl => ?_)
        refine lv_aload_n hx hb dX2_share_31 rfl (lv_at hl 1 rfl) ?_
        refine va_get (D := D) (ci := 2) (v := .ref (b 1)) (C := RX2) (T := TX2) (N := 4) hx hb hts inwX2_share_X2 hown hK hP 0 rfl rfl 0 (by decide) (hts (.fieldLink RX2 11 "PlateSlabs$State" "pairs" "[LPlateSlabs$Plates;") (List.mem_of_getElem? (i := 1) rfl)) (fun _ h9 => h9) rfl dX2_share_32 ?_
        refine lv_iload_n hx hb dX2_share_35 rfl (lv_at hl 3 rfl) ?_
        refine va_aldq hx hb hK hP 1 3 rfl rfl (vp_in_nI (by omega) (by decide)) dX2_share_36 ?_
        refine lv_tpv (congrArg (fun z => va_rf ((fun i => some (b (2 + 2 * i))) z)) (nI_clamp (by omega))) ?_
        refine lv_astore (lv' := [(4, .ref (b (2 + 2 * q))), (3, .ref (b (2 + 2 * p))), (0, .ref (b 0)), (1, .int (nI p)), (2, .int (nI q))]) hx hb dX2_share_37 hl (by decide) rfl (fun ls hl => ?_)
        have hP0 := hP
        have hD0 := hD
        have hP : va_P D vwCl ([((b (2 + 2 * p)), .inr (1, [.ref (b (3 + 2 * p)), .int ((P p) 6), .int ((P p) 7), .int ((P p) 8), .int ((P p) 9), .long ((E p) 0), .long ((E p) 1), .long ((E p) 2)])), ((b (3 + 2 * p)), .inl (T 0, 6, .inl ((P p)))), ((b (2 + 2 * q)), .inr (1, [.ref (b (3 + 2 * q)), .int ((P q) 6), .int ((P q) 7), .int ((P q) 8), .int ((P q) 9), .long ((E q) 0), .long ((E q) 1), .long ((E q) 2)])), ((b (3 + 2 * q)), .inl (T 0, 6, .inl ((P q)))), ((b 0), .inr (2, [.ref (b 1), .int (t 0), .int (t 1), .int (t 2)])), ((b 1), .inl (T 3, 4, .inr (.inr (.inr (.inr ((fun i => some (b (2 + 2 * i)))))))))] ++ stO2 T b P E p q) H := st_foc2 hp hq hn hP
        have hD : va_D A ([((b (2 + 2 * p)), .inr (1, [.ref (b (3 + 2 * p)), .int ((P p) 6), .int ((P p) 7), .int ((P p) 8), .int ((P p) 9), .long ((E p) 0), .long ((E p) 1), .long ((E p) 2)])), ((b (3 + 2 * p)), .inl (T 0, 6, .inl ((P p)))), ((b (2 + 2 * q)), .inr (1, [.ref (b (3 + 2 * q)), .int ((P q) 6), .int ((P q) 7), .int ((P q) 8), .int ((P q) 9), .long ((E q) 0), .long ((E q) 1), .long ((E q) 2)])), ((b (3 + 2 * q)), .inl (T 0, 6, .inl ((P q)))), ((b 0), .inr (2, [.ref (b 1), .int (t 0), .int (t 1), .int (t 2)])), ((b 1), .inl (T 3, 4, .inr (.inr (.inr (.inr ((fun i => some (b (2 + 2 * i)))))))))] ++ stO2 T b P E p q) := sd_foc2 hp hq hn hD
        refine lv_aload_n hx hb dX2_share_39 rfl (lv_at hl 1 rfl) ?_
        refine va_get (D := D) (ci := 1) (v := .int ((P p) 9)) (C := RX1) (T := TX1) (N := 8) hx hb hts inwX2_share_X1 hown hK hP 0 rfl rfl 4 (by decide) (hts (.fieldLink RX2 50 "PlateSlabs$Plates" "isOn" "Z") (List.mem_of_getElem? (i := 2) rfl)) (fun _ h9 => h9) rfl dX2_share_40 ?_
        refine lv_if_ne (tgt := 54) hx hb dX2_share_43 (by decide) (fun c43 => ?_) (fun c43 => ?_)
        · skip
          have h9 := on_of (hk p hp) c43
          refine lv_bipush (v := (-4)) hx hb dX2_share_54 (by decide) ?_
          exact hret _ _ _ (t, P, E) _ _ dX2_share_56 hS hP0 hD0 (by rw [oCouple_t hp hq, oCpl, if_neg hn, if_pos (Or.inl h9)])
        · skip
          have h9 := off_of c43
          refine lv_aload hx hb dX2_share_46 (lv_at hl 0 rfl) ?_
          refine va_get (D := D) (ci := 1) (v := .int ((P q) 9)) (C := RX1) (T := TX1) (N := 8) hx hb hts inwX2_share_X1 hown hK hP 2 rfl rfl 4 (by decide) (hts (.fieldLink RX2 50 "PlateSlabs$Plates" "isOn" "Z") (List.mem_of_getElem? (i := 2) rfl)) (fun _ h9 => h9) rfl dX2_share_48 ?_
          refine lv_if_eq (tgt := 57) hx hb dX2_share_51 (by decide) (fun c51 => ?_) (fun c51 => ?_)
          · skip
            have h8 := off_of c51
            have hon : ¬ (P p 9 = 1 ∨ P q 9 = 1) := fun z => z.elim h9 h8
            refine lv_aload_n hx hb dX2_share_57 rfl (lv_at hl 1 rfl) ?_
            refine va_get (D := D) (ci := 1) (v := .int ((P p) 7)) (C := RX1) (T := TX1) (N := 8) hx hb hts inwX2_share_X1 hown hK hP 0 rfl rfl 2 (by decide) (hts (.fieldLink RX2 57 "PlateSlabs$Plates" "charge" "I") (List.mem_of_getElem? (i := 3) rfl)) (fun _ h9 => h9) rfl dX2_share_58 ?_
            refine lv_aload hx hb dX2_share_61 (lv_at hl 0 rfl) ?_
            refine va_get (D := D) (ci := 1) (v := .int ((P q) 7)) (C := RX1) (T := TX1) (N := 8) hx hb hts inwX2_share_X1 hown hK hP 2 rfl rfl 2 (by decide) (hts (.fieldLink RX2 57 "PlateSlabs$Plates" "charge" "I") (List.mem_of_getElem? (i := 3) rfl)) (fun _ h9 => h9) rfl dX2_share_63 ?_
            refine lv_iadd hx hb dX2_share_66 ?_
            refine lv_topi (fun x5_ ex5_ => ?_)
            refine lv_istore (lv' := [(5, .int x5_), (4, .ref (b (2 + 2 * q))), (3, .ref (b (2 + 2 * p))), (0, .ref (b 0)), (1, .int (nI p)), (2, .int (nI q))]) hx hb dX2_share_67 hl (by decide) rfl (fun ls hl => ?_)
            refine lv_iload hx hb dX2_share_69 (lv_at hl 0 rfl) ?_
            refine lv_aload_n hx hb dX2_share_71 rfl (lv_at hl 2 rfl) ?_
            refine lv_aload_n hx hb dX2_share_72 rfl (lv_at hl 2 rfl) ?_
            refine va_get (D := D) (ci := 1) (v := .int ((P p) 6)) (C := RX1) (T := TX1) (N := 8) hx hb hts inwX2_share_X1 hown hK hP 0 rfl rfl 1 (by decide) (hts (.fieldLink RX2 63 "PlateSlabs$Plates" "depth" "I") (List.mem_of_getElem? (i := 4) rfl)) (fun _ h9 => h9) rfl dX2_share_73 ?_
            skip
            refine callRi (As := [.int ((P p) 6)]) ⟨hx, hb, hml, hown, hts⟩ (mX1_capacityAt l T D (b (2 + 2 * p)) (b (3 + 2 * p)) (P p) (E p) ((P p) 6)) (cwV 1 hts gX2_share_X1_capacityAt rfl rfl rfl pdX1_capacityAt ⟨Nat.le_of_ble_eq_true rfl, Nat.le_of_ble_eq_true rfl⟩) (hP.sub [0, 1] rfl) hK xN_bl (fun U _ hW => XN_warm hW hX) (ci := 1) rfl rfl rfl hl.1 rfl rfl (Nat.le_of_ble_eq_true rfl) dX2_share_76 ⟨Nat.zero_le _, Nat.zero_le _⟩ (fun r3_ er3_ => ?_)
            obtain rfl : r3_ = kCap (P p) ((P p) 6) := er3_
            refine lv_aload hx hb dX2_share_79 (lv_at hl 1 rfl) ?_
            refine lv_aload hx hb dX2_share_81 (lv_at hl 1 rfl) ?_
            refine va_get (D := D) (ci := 1) (v := .int ((P q) 6)) (C := RX1) (T := TX1) (N := 8) hx hb hts inwX2_share_X1 hown hK hP 2 rfl rfl 1 (by decide) (hts (.fieldLink RX2 63 "PlateSlabs$Plates" "depth" "I") (List.mem_of_getElem? (i := 4) rfl)) (fun _ h9 => h9) rfl dX2_share_83 ?_
            skip
            refine callRi (As := [.int ((P q) 6)]) ⟨hx, hb, hml, hown, hts⟩ (mX1_capacityAt l T D (b (2 + 2 * q)) (b (3 + 2 * q)) (P q) (E q) ((P q) 6)) (cwV 1 hts gX2_share_X1_capacityAt rfl rfl rfl pdX1_capacityAt ⟨Nat.le_of_ble_eq_true rfl, Nat.le_of_ble_eq_true rfl⟩) (hP.sub [2, 3] rfl) hK xN_bl (fun U _ hW => XN_warm hW hX) (ci := 1) rfl rfl rfl hl.1 rfl rfl (Nat.le_of_ble_eq_true rfl) dX2_share_86 ⟨Nat.zero_le _, Nat.zero_le _⟩ (fun r4_ er4_ => ?_)
            obtain rfl : r4_ = kCap (P q) ((P q) 6) := er4_
            refine callSi (As := [.int x5_, .int (kCap (P p) ((P p) 6)), .int (kCap (P q) ((P q) 6))]) ⟨hx, hb, hml, hown, hts⟩ (mX2_shareOf l T D x5_ (kCap (P p) ((P p) 6)) (kCap (P q) ((P q) 6)) (capsum_1 (hk p hp) (hk q hq)) (kCap_ne2 (hk p hp) (hk q hq))) (va_cwS 3 hts gX2_share_X2_shareOf rfl rfl rfl (pdX2_shareOf).2 ⟨Nat.le_of_ble_eq_true rfl, Nat.le_of_ble_eq_true rfl⟩) wP_nil hK xN_bl (fun U _ hW => XN_warm hW hX) hl.1 rfl rfl (Nat.le_of_ble_eq_true rfl) dX2_share_89 ⟨Nat.zero_le _, Nat.zero_le _⟩ (fun r5_ er5_ => ?_)
            obtain rfl : r5_ = (x5_.toInt64 * (kCap (P p) ((P p) 6)).toInt64 / ((kCap (P p) ((P p) 6)) + (kCap (P q) ((P q) 6))).toInt64).toInt32 := er5_
            refine lv_tpi (z := kMine (P p) (P q)) (by rw [ex5_]; rfl) ?_
            refine lv_topi (fun x6_ ex6_ => ?_)
            refine lv_istore (lv' := [(6, .int x6_), (5, .int x5_), (4, .ref (b (2 + 2 * q))), (3, .ref (b (2 + 2 * p))), (0, .ref (b 0)), (1, .int (nI p)), (2, .int (nI q))]) hx hb dX2_share_92 hl (by decide) rfl (fun ls hl => ?_)
            refine lv_iload hx hb dX2_share_94 (lv_at hl 0 rfl) ?_
            refine lv_ldc (v := 200000) hx hb hown (hts (.constant RX2 74 (200000)) (List.mem_of_getElem? (i := 5) rfl)) dX2_share_96 ?_
            refine lv_icmp_gt (tgt := 111) hx hb dX2_share_98 (by decide) (fun c98 => ?_) (fun c98 => ?_)
            · skip
              refine lv_bipush (v := (-3)) hx hb dX2_share_111 (by decide) ?_
              exact hret _ _ _ (t, P, E) _ _ dX2_share_113 hS hP0 hD0 (by rw [oCouple_t hp hq, oCpl, if_neg hn, if_neg hon, if_pos (Or.inl (by rw [← ex6_]; exact c98))])
            · skip
              refine lv_iload hx hb dX2_share_101 (lv_at hl 1 rfl) ?_
              refine lv_iload hx hb dX2_share_103 (lv_at hl 0 rfl) ?_
              refine lv_isub hx hb dX2_share_105 ?_
              refine lv_ldc (v := 200000) hx hb hown (hts (.constant RX2 74 (200000)) (List.mem_of_getElem? (i := 5) rfl)) dX2_share_106 ?_
              refine lv_icmp_le (tgt := 114) hx hb dX2_share_108 (by decide) (fun c108 => ?_) (fun c108 => ?_)
              · skip
                have hbd : ¬ (200000 < kMine (P p) (P q) ∨ 200000 < kRest (P p) (P q)) := by
                  rintro (z | z)
                  · rw [← ex6_] at z
                    exact absurd z c98
                  · rw [kRest, i_l_i, ← ex5_, ← ex6_] at z
                    exact absurd z (Int32.not_lt.mpr c108)
                refine lv_iload hx hb dX2_share_114 (lv_at hl 0 rfl) ?_
                refine lv_aload_n hx hb dX2_share_116 rfl (lv_at hl 3 rfl) ?_
                refine va_get (D := D) (ci := 1) (v := .int ((P p) 7)) (C := RX1) (T := TX1) (N := 8) hx hb hts inwX2_share_X1 hown hK hP 0 rfl rfl 2 (by decide) (hts (.fieldLink RX2 57 "PlateSlabs$Plates" "charge" "I") (List.mem_of_getElem? (i := 3) rfl)) (fun _ h9 => h9) rfl dX2_share_117 ?_
                refine lv_icmp_ne (tgt := 126) hx hb dX2_share_120 (by decide) (fun c120 => ?_) (fun c120 => ?_)
                · skip
                  refine lv_aload_n hx hb dX2_share_126 rfl (lv_at hl 3 rfl) ?_
                  refine lv_aload hx hb dX2_share_127 (lv_at hl 2 rfl) ?_
                  refine lv_iload hx hb dX2_share_129 (lv_at hl 0 rfl) ?_
                  refine callSv (As := [.ref (b (2 + 2 * p)), .ref (b (2 + 2 * q)), .int x6_]) (wr := [((b 0), .inr (2, [.ref (b 1), .int (t 0), .int (t 1), .int (t 2)])), ((b 1), .inl (T 3, 4, .inr (.inr (.inr (.inr ((fun i => some (b (2 + 2 * i)))))))))] ++ stO2 T b P E p q) ⟨hx, hb, hml, hown, hts⟩ (mX2_moveCharges l T D (b (2 + 2 * p)) (b (3 + 2 * p)) (P p) (E p) (b (2 + 2 * q)) (b (3 + 2 * q)) (P q) (E q) (hk p hp) (hk q hq) x6_ (kRest (P p) (P q)) (by rw [ex6_]; exact kMine_bd (hk p hp) (hk q hq) hbd) (by rw [ex6_]; exact rest_eq _ _) (kRest_bd (hk p hp) (hk q hq) hbd)) (va_cwS 3 hts gX2_share_X2_moveCharges rfl rfl rfl (pdX2_moveCharges).2 ⟨Nat.le_of_ble_eq_true rfl, Nat.le_of_ble_eq_true rfl⟩) hP hD hK hS hA xN_bl (fun U _ hW => XN_warm hW hX) hl.1 rfl rfl (Nat.le_of_ble_eq_true rfl) dX2_share_131 ⟨Nat.zero_le _, Nat.zero_le _⟩ (fun u7_ H locs eu7_ hP hD hS => ?_)
                  have hP : va_P D vwCl ([((b (2 + 2 * p)), .inr (1, [.ref (b (3 + 2 * p)), .int ((upd (P p) 7 x6_) 6), .int ((upd (P p) 7 x6_) 7), .int ((upd (P p) 7 x6_) 8), .int ((upd (P p) 7 x6_) 9), .long ((vp_updL (E p) 2 (E p 2 + kHalf (kStored (P p) + kStored (P q) - kStored (upd (P p) 7 x6_) - kStored (upd (P q) 7 (kRest (P p) (P q)))))) 0), .long ((vp_updL (E p) 2 (E p 2 + kHalf (kStored (P p) + kStored (P q) - kStored (upd (P p) 7 x6_) - kStored (upd (P q) 7 (kRest (P p) (P q)))))) 1), .long ((vp_updL (E p) 2 (E p 2 + kHalf (kStored (P p) + kStored (P q) - kStored (upd (P p) 7 x6_) - kStored (upd (P q) 7 (kRest (P p) (P q)))))) 2)])), ((b (3 + 2 * p)), .inl (T 0, 6, .inl ((upd (P p) 7 x6_)))), ((b (2 + 2 * q)), .inr (1, [.ref (b (3 + 2 * q)), .int ((upd (P q) 7 (kRest (P p) (P q))) 6), .int ((upd (P q) 7 (kRest (P p) (P q))) 7), .int ((upd (P q) 7 (kRest (P p) (P q))) 8), .int ((upd (P q) 7 (kRest (P p) (P q))) 9), .long ((vp_updL (E q) 2 (E q 2 + ((kStored (P p) + kStored (P q) - kStored (upd (P p) 7 x6_) - kStored (upd (P q) 7 (kRest (P p) (P q)))) - kHalf (kStored (P p) + kStored (P q) - kStored (upd (P p) 7 x6_) - kStored (upd (P q) 7 (kRest (P p) (P q))))))) 0), .long ((vp_updL (E q) 2 (E q 2 + ((kStored (P p) + kStored (P q) - kStored (upd (P p) 7 x6_) - kStored (upd (P q) 7 (kRest (P p) (P q)))) - kHalf (kStored (P p) + kStored (P q) - kStored (upd (P p) 7 x6_) - kStored (upd (P q) 7 (kRest (P p) (P q))))))) 1), .long ((vp_updL (E q) 2 (E q 2 + ((kStored (P p) + kStored (P q) - kStored (upd (P p) 7 x6_) - kStored (upd (P q) 7 (kRest (P p) (P q)))) - kHalf (kStored (P p) + kStored (P q) - kStored (upd (P p) 7 x6_) - kStored (upd (P q) 7 (kRest (P p) (P q))))))) 2)])), ((b (3 + 2 * q)), .inl (T 0, 6, .inl ((upd (P q) 7 (kRest (P p) (P q)))))), ((b 0), .inr (2, [.ref (b 1), .int (t 0), .int (t 1), .int (t 2)])), ((b 1), .inl (T 3, 4, .inr (.inr (.inr (.inr ((fun i => some (b (2 + 2 * i)))))))))] ++ stO2 T b P E p q) H := hP
                  have hD : va_D A ([((b (2 + 2 * p)), .inr (1, [.ref (b (3 + 2 * p)), .int ((upd (P p) 7 x6_) 6), .int ((upd (P p) 7 x6_) 7), .int ((upd (P p) 7 x6_) 8), .int ((upd (P p) 7 x6_) 9), .long ((vp_updL (E p) 2 (E p 2 + kHalf (kStored (P p) + kStored (P q) - kStored (upd (P p) 7 x6_) - kStored (upd (P q) 7 (kRest (P p) (P q)))))) 0), .long ((vp_updL (E p) 2 (E p 2 + kHalf (kStored (P p) + kStored (P q) - kStored (upd (P p) 7 x6_) - kStored (upd (P q) 7 (kRest (P p) (P q)))))) 1), .long ((vp_updL (E p) 2 (E p 2 + kHalf (kStored (P p) + kStored (P q) - kStored (upd (P p) 7 x6_) - kStored (upd (P q) 7 (kRest (P p) (P q)))))) 2)])), ((b (3 + 2 * p)), .inl (T 0, 6, .inl ((upd (P p) 7 x6_)))), ((b (2 + 2 * q)), .inr (1, [.ref (b (3 + 2 * q)), .int ((upd (P q) 7 (kRest (P p) (P q))) 6), .int ((upd (P q) 7 (kRest (P p) (P q))) 7), .int ((upd (P q) 7 (kRest (P p) (P q))) 8), .int ((upd (P q) 7 (kRest (P p) (P q))) 9), .long ((vp_updL (E q) 2 (E q 2 + ((kStored (P p) + kStored (P q) - kStored (upd (P p) 7 x6_) - kStored (upd (P q) 7 (kRest (P p) (P q)))) - kHalf (kStored (P p) + kStored (P q) - kStored (upd (P p) 7 x6_) - kStored (upd (P q) 7 (kRest (P p) (P q))))))) 0), .long ((vp_updL (E q) 2 (E q 2 + ((kStored (P p) + kStored (P q) - kStored (upd (P p) 7 x6_) - kStored (upd (P q) 7 (kRest (P p) (P q)))) - kHalf (kStored (P p) + kStored (P q) - kStored (upd (P p) 7 x6_) - kStored (upd (P q) 7 (kRest (P p) (P q))))))) 1), .long ((vp_updL (E q) 2 (E q 2 + ((kStored (P p) + kStored (P q) - kStored (upd (P p) 7 x6_) - kStored (upd (P q) 7 (kRest (P p) (P q)))) - kHalf (kStored (P p) + kStored (P q) - kStored (upd (P p) 7 x6_) - kStored (upd (P q) 7 (kRest (P p) (P q))))))) 2)])), ((b (3 + 2 * q)), .inl (T 0, 6, .inl ((upd (P q) 7 (kRest (P p) (P q)))))), ((b 0), .inr (2, [.ref (b 1), .int (t 0), .int (t 1), .int (t 2)])), ((b 1), .inl (T 3, 4, .inr (.inr (.inr (.inr ((fun i => some (b (2 + 2 * i)))))))))] ++ stO2 T b P E p q) := hD
                  refine lv_aload_n hx hb dX2_share_134 rfl (lv_at hl 4 rfl) ?_
                  refine lv_dup hx hb dX2_share_135 rfl ?_
                  refine va_get (D := D) (ci := 2) (v := .int (t 1)) (C := RX2) (T := TX2) (N := 4) hx hb hts inwX2_share_X2 hown hK hP 4 rfl rfl 2 (by decide) (hts (.fieldLink RX2 26 "PlateSlabs$State" "couplings" "I") (List.mem_of_getElem? (i := 6) rfl)) (fun _ h9 => h9) rfl dX2_share_136 ?_
                  refine lv_iconst (v := 1) hx hb dX2_share_139 (by decide) ?_
                  refine lv_iadd hx hb dX2_share_140 ?_
                  refine va_put (D := D) (ci := 2) (v := .int ((t 1) + 1)) (C := RX2) (T := TX2) (N := 4) hx hb hts inwX2_share_X2 tyX2 tyX2_ok nmX2 hown hK hP hD hS 4 rfl rfl 2 (by decide) (hts (.fieldLink RX2 26 "PlateSlabs$State" "couplings" "I") (List.mem_of_getElem? (i := 6) rfl)) (fun _ h9 => h9) rfl (tyX2_ok 2 (by decide)) (rfl) (rfl) (Nat.le_of_ble_eq_true rfl) dX2_share_141 (fun H locs hP hD hS => ?_)
                  have hP : va_P D vwCl ([((b (2 + 2 * p)), .inr (1, [.ref (b (3 + 2 * p)), .int ((upd (P p) 7 x6_) 6), .int ((upd (P p) 7 x6_) 7), .int ((upd (P p) 7 x6_) 8), .int ((upd (P p) 7 x6_) 9), .long ((vp_updL (E p) 2 (E p 2 + kHalf (kStored (P p) + kStored (P q) - kStored (upd (P p) 7 x6_) - kStored (upd (P q) 7 (kRest (P p) (P q)))))) 0), .long ((vp_updL (E p) 2 (E p 2 + kHalf (kStored (P p) + kStored (P q) - kStored (upd (P p) 7 x6_) - kStored (upd (P q) 7 (kRest (P p) (P q)))))) 1), .long ((vp_updL (E p) 2 (E p 2 + kHalf (kStored (P p) + kStored (P q) - kStored (upd (P p) 7 x6_) - kStored (upd (P q) 7 (kRest (P p) (P q)))))) 2)])), ((b (3 + 2 * p)), .inl (T 0, 6, .inl ((upd (P p) 7 x6_)))), ((b (2 + 2 * q)), .inr (1, [.ref (b (3 + 2 * q)), .int ((upd (P q) 7 (kRest (P p) (P q))) 6), .int ((upd (P q) 7 (kRest (P p) (P q))) 7), .int ((upd (P q) 7 (kRest (P p) (P q))) 8), .int ((upd (P q) 7 (kRest (P p) (P q))) 9), .long ((vp_updL (E q) 2 (E q 2 + ((kStored (P p) + kStored (P q) - kStored (upd (P p) 7 x6_) - kStored (upd (P q) 7 (kRest (P p) (P q)))) - kHalf (kStored (P p) + kStored (P q) - kStored (upd (P p) 7 x6_) - kStored (upd (P q) 7 (kRest (P p) (P q))))))) 0), .long ((vp_updL (E q) 2 (E q 2 + ((kStored (P p) + kStored (P q) - kStored (upd (P p) 7 x6_) - kStored (upd (P q) 7 (kRest (P p) (P q)))) - kHalf (kStored (P p) + kStored (P q) - kStored (upd (P p) 7 x6_) - kStored (upd (P q) 7 (kRest (P p) (P q))))))) 1), .long ((vp_updL (E q) 2 (E q 2 + ((kStored (P p) + kStored (P q) - kStored (upd (P p) 7 x6_) - kStored (upd (P q) 7 (kRest (P p) (P q)))) - kHalf (kStored (P p) + kStored (P q) - kStored (upd (P p) 7 x6_) - kStored (upd (P q) 7 (kRest (P p) (P q))))))) 2)])), ((b (3 + 2 * q)), .inl (T 0, 6, .inl ((upd (P q) 7 (kRest (P p) (P q)))))), ((b 0), .inr (2, [.ref (b 1), .int (t 0), .int ((t 1) + 1), .int (t 2)])), ((b 1), .inl (T 3, 4, .inr (.inr (.inr (.inr ((fun i => some (b (2 + 2 * i)))))))))] ++ stO2 T b P E p q) H := hP
                  have hD : va_D A ([((b (2 + 2 * p)), .inr (1, [.ref (b (3 + 2 * p)), .int ((upd (P p) 7 x6_) 6), .int ((upd (P p) 7 x6_) 7), .int ((upd (P p) 7 x6_) 8), .int ((upd (P p) 7 x6_) 9), .long ((vp_updL (E p) 2 (E p 2 + kHalf (kStored (P p) + kStored (P q) - kStored (upd (P p) 7 x6_) - kStored (upd (P q) 7 (kRest (P p) (P q)))))) 0), .long ((vp_updL (E p) 2 (E p 2 + kHalf (kStored (P p) + kStored (P q) - kStored (upd (P p) 7 x6_) - kStored (upd (P q) 7 (kRest (P p) (P q)))))) 1), .long ((vp_updL (E p) 2 (E p 2 + kHalf (kStored (P p) + kStored (P q) - kStored (upd (P p) 7 x6_) - kStored (upd (P q) 7 (kRest (P p) (P q)))))) 2)])), ((b (3 + 2 * p)), .inl (T 0, 6, .inl ((upd (P p) 7 x6_)))), ((b (2 + 2 * q)), .inr (1, [.ref (b (3 + 2 * q)), .int ((upd (P q) 7 (kRest (P p) (P q))) 6), .int ((upd (P q) 7 (kRest (P p) (P q))) 7), .int ((upd (P q) 7 (kRest (P p) (P q))) 8), .int ((upd (P q) 7 (kRest (P p) (P q))) 9), .long ((vp_updL (E q) 2 (E q 2 + ((kStored (P p) + kStored (P q) - kStored (upd (P p) 7 x6_) - kStored (upd (P q) 7 (kRest (P p) (P q)))) - kHalf (kStored (P p) + kStored (P q) - kStored (upd (P p) 7 x6_) - kStored (upd (P q) 7 (kRest (P p) (P q))))))) 0), .long ((vp_updL (E q) 2 (E q 2 + ((kStored (P p) + kStored (P q) - kStored (upd (P p) 7 x6_) - kStored (upd (P q) 7 (kRest (P p) (P q)))) - kHalf (kStored (P p) + kStored (P q) - kStored (upd (P p) 7 x6_) - kStored (upd (P q) 7 (kRest (P p) (P q))))))) 1), .long ((vp_updL (E q) 2 (E q 2 + ((kStored (P p) + kStored (P q) - kStored (upd (P p) 7 x6_) - kStored (upd (P q) 7 (kRest (P p) (P q)))) - kHalf (kStored (P p) + kStored (P q) - kStored (upd (P p) 7 x6_) - kStored (upd (P q) 7 (kRest (P p) (P q))))))) 2)])), ((b (3 + 2 * q)), .inl (T 0, 6, .inl ((upd (P q) 7 (kRest (P p) (P q)))))), ((b 0), .inr (2, [.ref (b 1), .int (t 0), .int ((t 1) + 1), .int (t 2)])), ((b 1), .inl (T 3, 4, .inr (.inr (.inr (.inr ((fun i => some (b (2 + 2 * i)))))))))] ++ stO2 T b P E p q) := hD
                  refine lv_iload hx hb dX2_share_144 (lv_at hl 0 rfl) ?_
                  have hP := st_unf2 (t := upd t 1 (t 1 + 1)) hp hq hn hP
                  have hD := sd_unf2 (t := upd t 1 (t 1 + 1)) hp hq hn hD
                  exact hret _ _ _ (upd t 1 (t 1 + 1), _, _) _ _ dX2_share_146 hS hP hD (by rw [oCouple_t hp hq, oCpl, if_neg hn, if_neg hon, if_neg hbd, if_neg (fun z => c120 (ex6_.trans z)), ex6_]; rfl)
                · skip
                  refine lv_bipush (v := (-5)) hx hb dX2_share_123 (by decide) ?_
                  exact hret _ _ _ (t, P, E) _ _ dX2_share_125 hS hP0 hD0 (by rw [oCouple_t hp hq, oCpl, if_neg hn, if_neg hon, if_neg hbd, if_pos (ex6_.symm.trans c120)])
              · skip
                refine lv_bipush (v := (-3)) hx hb dX2_share_111 (by decide) ?_
                exact hret _ _ _ (t, P, E) _ _ dX2_share_113 hS hP0 hD0 (by rw [oCouple_t hp hq, oCpl, if_neg hn, if_neg hon, if_pos (Or.inr (by rw [kRest, i_l_i, ← ex5_, ← ex6_]; exact Int32.not_le.mp c108))])
          · skip
            have h8 := on_of (hk q hq) c51
            refine lv_bipush (v := (-4)) hx hb dX2_share_54 (by decide) ?_
            exact hret _ _ _ (t, P, E) _ _ dX2_share_56 hS hP0 hD0 (by rw [oCouple_t hp hq, oCpl, if_neg hn, if_pos (Or.inr h8)])
      · skip
        have hn : p = q := (nI_eq (by omega) (by omega)).mp c18
        refine lv_bipush (v := (-2)) hx hb dX2_share_21 (by decide) ?_
        exact hret _ _ _ (t, P, E) _ _ dX2_share_23 hS hP hD (by rw [oCouple_t hp hq, oCpl, if_pos hn])
    · skip
      have c11 := bI_0 c11
      refine lv_iconst (v := (-1)) hx hb dX2_share_14 (by decide) ?_
      exact hret _ _ _ (t, P, E) _ _ dX2_share_15 hS hP hD (by rw [oCouple_f _ (fun z => c11 z.2)])
