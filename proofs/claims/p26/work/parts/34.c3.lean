theorem pdX5_isPair : yX5_isPair.cls = RX5 ∧ yX5_isPair.cls ≠ "java/lang/invoke/MethodHandle" ∧ yX5_isPair.cls ≠ "java/lang/invoke/VarHandle" ∧ (parseMethodDescriptor yX5_isPair.desc).map (fun d => d.parameters.length) = some 1 := by decide +kernel
theorem pdX5_isDepth : yX5_isDepth.cls = RX5 ∧ yX5_isDepth.cls ≠ "java/lang/invoke/MethodHandle" ∧ yX5_isDepth.cls ≠ "java/lang/invoke/VarHandle" ∧ (parseMethodDescriptor yX5_isDepth.desc).map (fun d => d.parameters.length) = some 1 := by decide +kernel
theorem pdX2_disconnect : yX2_disconnect.cls = RX2 ∧ yX2_disconnect.cls ≠ "java/lang/invoke/MethodHandle" ∧ yX2_disconnect.cls ≠ "java/lang/invoke/VarHandle" ∧ (parseMethodDescriptor yX2_disconnect.desc).map (fun d => d.parameters.length) = some 1 := by decide +kernel
theorem pdX2_connect : yX2_connect.cls = RX2 ∧ yX2_connect.cls ≠ "java/lang/invoke/MethodHandle" ∧ yX2_connect.cls ≠ "java/lang/invoke/VarHandle" ∧ (parseMethodDescriptor yX2_connect.desc).map (fun d => d.parameters.length) = some 2 := by decide +kernel
theorem pdX2_putSlab : yX2_putSlab.cls = RX2 ∧ yX2_putSlab.cls ≠ "java/lang/invoke/MethodHandle" ∧ yX2_putSlab.cls ≠ "java/lang/invoke/VarHandle" ∧ (parseMethodDescriptor yX2_putSlab.desc).map (fun d => d.parameters.length) = some 2 := by decide +kernel
theorem inwX2_disconnect_X2 : ∀ w ∈ wsX20, w ∈ wsX2_disconnect := by decide +kernel
theorem inwX2_disconnect_X1 : ∀ w ∈ wsX10, w ∈ wsX2_disconnect := by decide +kernel
theorem inwX2_connect_X2 : ∀ w ∈ wsX20, w ∈ wsX2_connect := by decide +kernel
theorem inwX2_connect_X1 : ∀ w ∈ wsX10, w ∈ wsX2_connect := by decide +kernel
theorem inwX2_putSlab_X2 : ∀ w ∈ wsX20, w ∈ wsX2_putSlab := by decide +kernel
theorem inwX2_putSlab_X1 : ∀ w ∈ wsX10, w ∈ wsX2_putSlab := by decide +kernel
def rmX5_isPair : Room := { frames := 0, cells := 0, slots := 0, locals := 0 }
set_option maxHeartbeats 4000000 in
set_option maxRecDepth 100000 in
theorem mX5_isPair (l : Launch) (T : Nat → ClassId) (D : va_G) (x : Int32) : RdI l yX5_isPair wsX5_isPair rmX5_isPair T xN D [.int x] [] (fun r => r = bI (0 ≤ x ∧ x ≤ 3)) := by
  refine met_rz (cc := cX5_isPair) (maxL := 1) (by decide) rfl (Nat.le_of_ble_eq_true rfl) (fun r h => bI_01 h) ?_
  intro p_ e s m args below meth c H ls Q hx hb hts hown hml hX hH hP hK hl hret
  have hl : lv_has ls 1 [(0, .int x)] := hl
  refine lv_iload_n hx hb dX5_isPair_0 rfl (lv_at hl 0 rfl) ?_
  refine lv_if_lt (tgt := 13) hx hb dX5_isPair_1 (by decide) (fun c1 => ?_) (fun c1 => ?_)
  · skip
    refine lv_iconst (v := 0) hx hb dX5_isPair_13 (by decide) ?_
    exact hret _ _ _ dX5_isPair_14 (bI_f (fun z => absurd z.1 (Int32.not_le.mpr c1)))
  · skip
    refine lv_iload_n hx hb dX5_isPair_4 rfl (lv_at hl 0 rfl) ?_
    refine lv_iconst (v := 4) hx hb dX5_isPair_5 (by decide) ?_
    refine lv_icmp_ge (tgt := 13) hx hb dX5_isPair_6 (by decide) (fun c6 => ?_) (fun c6 => ?_)
    · skip
      refine lv_iconst (v := 0) hx hb dX5_isPair_13 (by decide) ?_
      exact hret _ _ _ dX5_isPair_14 (bI_f (fun z => (lt4.mp z).2 c6))
    · skip
      refine lv_iconst (v := 1) hx hb dX5_isPair_9 (by decide) ?_
      refine lv_goto (tgt := 14) hx hb dX5_isPair_10 (by decide) ?_
      exact hret _ _ _ dX5_isPair_14 (bI_t (lt4.mpr ⟨Int32.not_lt.mp c1, c6⟩))

def rmX5_isDepth : Room := { frames := 0, cells := 0, slots := 0, locals := 0 }
set_option maxHeartbeats 4000000 in
set_option maxRecDepth 100000 in
theorem mX5_isDepth (l : Launch) (T : Nat → ClassId) (D : va_G) (x : Int32) : RdI l yX5_isDepth wsX5_isDepth rmX5_isDepth T xN D [.int x] [] (fun r => r = bI (0 ≤ x ∧ x ≤ 40)) := by
  refine met_rz (cc := cX5_isDepth) (maxL := 1) (by decide) rfl (Nat.le_of_ble_eq_true rfl) (fun r h => bI_01 h) ?_
  intro p_ e s m args below meth c H ls Q hx hb hts hown hml hX hH hP hK hl hret
  have hl : lv_has ls 1 [(0, .int x)] := hl
  refine lv_iload_n hx hb dX5_isDepth_0 rfl (lv_at hl 0 rfl) ?_
  refine lv_if_lt (tgt := 14) hx hb dX5_isDepth_1 (by decide) (fun c1 => ?_) (fun c1 => ?_)
  · skip
    refine lv_iconst (v := 0) hx hb dX5_isDepth_14 (by decide) ?_
    exact hret _ _ _ dX5_isDepth_15 (bI_f (fun z => absurd z.1 (Int32.not_le.mpr c1)))
  · skip
    refine lv_iload_n hx hb dX5_isDepth_4 rfl (lv_at hl 0 rfl) ?_
    refine lv_bipush (v := 40) hx hb dX5_isDepth_5 (by decide) ?_
    refine lv_icmp_gt (tgt := 14) hx hb dX5_isDepth_7 (by decide) (fun c7 => ?_) (fun c7 => ?_)
    · skip
      refine lv_iconst (v := 0) hx hb dX5_isDepth_14 (by decide) ?_
      exact hret _ _ _ dX5_isDepth_15 (bI_f (fun z => absurd z.2 (Int32.not_le.mpr c7)))
    · skip
      refine lv_iconst (v := 1) hx hb dX5_isDepth_10 (by decide) ?_
      refine lv_goto (tgt := 15) hx hb dX5_isDepth_11 (by decide) ?_
      exact hret _ _ _ dX5_isDepth_15 (bI_t ⟨Int32.not_lt.mp c1, Int32.not_lt.mp c7⟩)

def rmX2_disconnect : Room := { frames := 1, cells := 0, slots := 0, locals := 20 }
set_option maxHeartbeats 4000000 in
set_option maxRecDepth 100000 in
theorem mX2_disconnect (l : Launch) (T : Nat → ClassId) (D : va_G) (b : Nat → Nat) (t : Nat → Int32) (P : Nat → Nat → Int32) (E : Nat → Nat → Int64) (hk : ∀ p, p < 4 → kOk (P p)) (x : Int32) : MuI l yX2_disconnect wsX2_disconnect rmX2_disconnect T xN D [.ref (b 0), .int x] ([((b 0), .inr (2, [.ref (b 1), .int (t 0), .int (t 1), .int (t 2)])), ((b 1), .inl (T 3, 4, .inr (.inr (.inr (.inr ((fun i => some (b (2 + 2 * i)))))))))] ++ stT T b P E) (S := SG) (fun r u => (r, u) = oTurnOff x (t, P, E)) (fun u => stW T b u.1 u.2.1 u.2.2) 0 0 := by
  refine met_mi (cc := cX2_disconnect) (maxL := 3) (by decide) rfl (Nat.le_of_ble_eq_true rfl) ?_
  intro p_ e s m args below meth c ls A Q hx hb hts hown hml hX hP hD hK hS hA hl hret
  have hl : lv_has ls 3 [(0, .ref (b 0)), (1, .int x)] := hl
  obtain ⟨H, hH⟩ : ∃ H, H = s.heap := ⟨_, rfl⟩
  have hS : va_S A s.heap H [] := by rw [hH]; exact hS
  rw [← hH] at hP ⊢
  refine lv_iload_n hx hb dX2_disconnect_0 rfl (lv_at hl 1 rfl) ?_
  refine callNi (As := [.int x]) ⟨hx, hb, hml, hown, hts⟩ (mX5_isPair l T D x) ⟨va_cnB 1 hts gX2_disconnect_X5_isPair_n32 rfl rfl rfl (hX.1 _ (List.mem_of_getElem? (i := 4) rfl)) (hts (.initialized RX5) (List.mem_of_getElem? (i := 5) rfl)) (pdX5_isPair).2 ⟨Nat.le_of_ble_eq_true rfl, Nat.le_of_ble_eq_true rfl⟩, (hts (.static yX5_isPair) (List.mem_of_getElem? (i := 4) rfl)), trivial⟩ wP_nil hK xN_bl (fun U _ hW => XN_warm hW hX) hl.1 rfl rfl (Nat.le_of_ble_eq_true rfl) dX2_disconnect_1 ⟨Nat.zero_le _, Nat.zero_le _⟩ (fun r1_ er1_ => ?_)
  obtain rfl : r1_ = bI (0 ≤ x ∧ x ≤ 3) := er1_
  refine lv_if_ne (tgt := 9) hx hb dX2_disconnect_4 (by decide) (fun c4 => ?_) (fun c4 => ?_)
  · skip
    have c4 := bI_n0 c4
    obtain ⟨p, hp, rfl⟩ := pair_of c4
    refine lv_aload_n hx hb dX2_disconnect_9 rfl (lv_at hl 0 rfl) ?_
    refine va_get (D := D) (ci := 2) (v := .ref (b 1)) (C := RX2) (T := TX2) (N := 4) hx hb hts inwX2_disconnect_X2 hown hK hP 0 rfl rfl 0 (by decide) (hts (.fieldLink RX2 11 "PlateSlabs$State" "pairs" "[LPlateSlabs$Plates;") (List.mem_of_getElem? (i := 1) rfl)) (fun _ h9 => h9) rfl dX2_disconnect_10 ?_
    refine lv_iload_n hx hb dX2_disconnect_13 rfl (lv_at hl 1 rfl) ?_
    refine va_aldq hx hb hK hP 1 3 rfl rfl (vp_in_nI (by omega) (by decide)) dX2_disconnect_14 ?_
    refine lv_tpv (congrArg (fun z => va_rf ((fun i => some (b (2 + 2 * i))) z)) (nI_clamp (by omega))) ?_
    refine lv_astore_n (lv' := [(2, .ref (b (2 + 2 * p))), (0, .ref (b 0)), (1, .int (nI p))]) hx hb dX2_disconnect_15 rfl hl (by decide) rfl (fun ls hl => ?_)
    have hP0 := hP
    have hD0 := hD
    have hP : va_P D vwCl ([((b (2 + 2 * p)), .inr (1, [.ref (b (3 + 2 * p)), .int ((P p) 6), .int ((P p) 7), .int ((P p) 8), .int ((P p) 9), .long ((E p) 0), .long ((E p) 1), .long ((E p) 2)])), ((b (3 + 2 * p)), .inl (T 0, 6, .inl ((P p)))), ((b 0), .inr (2, [.ref (b 1), .int (t 0), .int (t 1), .int (t 2)])), ((b 1), .inl (T 3, 4, .inr (.inr (.inr (.inr ((fun i => some (b (2 + 2 * i)))))))))] ++ stO T b P E p) H := st_foc hp hP
    have hD : va_D A ([((b (2 + 2 * p)), .inr (1, [.ref (b (3 + 2 * p)), .int ((P p) 6), .int ((P p) 7), .int ((P p) 8), .int ((P p) 9), .long ((E p) 0), .long ((E p) 1), .long ((E p) 2)])), ((b (3 + 2 * p)), .inl (T 0, 6, .inl ((P p)))), ((b 0), .inr (2, [.ref (b 1), .int (t 0), .int (t 1), .int (t 2)])), ((b 1), .inl (T 3, 4, .inr (.inr (.inr (.inr ((fun i => some (b (2 + 2 * i)))))))))] ++ stO T b P E p) := sd_foc hp hD
    refine lv_aload_n hx hb dX2_disconnect_16 rfl (lv_at hl 0 rfl) ?_
    refine va_get (D := D) (ci := 1) (v := .int ((P p) 9)) (C := RX1) (T := TX1) (N := 8) hx hb hts inwX2_disconnect_X1 hown hK hP 0 rfl rfl 4 (by decide) (hts (.fieldLink RX2 50 "PlateSlabs$Plates" "isOn" "Z") (List.mem_of_getElem? (i := 2) rfl)) (fun _ h9 => h9) rfl dX2_disconnect_17 ?_
    refine lv_if_ne (tgt := 26) hx hb dX2_disconnect_20 (by decide) (fun c20 => ?_) (fun c20 => ?_)
    · skip
      have h9 := on_of (hk p hp) c20
      refine lv_aload_n hx hb dX2_disconnect_26 rfl (lv_at hl 0 rfl) ?_
      refine lv_iconst (v := 0) hx hb dX2_disconnect_27 (by decide) ?_
      refine va_put (D := D) (ci := 1) (v := .int 0) (C := RX1) (T := TX1) (N := 8) hx hb hts inwX2_disconnect_X1 tyX1 tyX1_ok nmX1 hown hK hP hD hS 0 rfl rfl 4 (by decide) (hts (.fieldLink RX2 50 "PlateSlabs$Plates" "isOn" "Z") (List.mem_of_getElem? (i := 2) rfl)) (fun _ h9 => h9) rfl (tyX1_ok 4 (by decide)) (rfl) (rfl) (Nat.le_of_ble_eq_true rfl) dX2_disconnect_28 (fun H locs hP hD hS => ?_)
      have hP : va_P D vwCl ([((b (2 + 2 * p)), .inr (1, [.ref (b (3 + 2 * p)), .int ((P p) 6), .int ((P p) 7), .int ((P p) 8), .int 0, .long ((E p) 0), .long ((E p) 1), .long ((E p) 2)])), ((b (3 + 2 * p)), .inl (T 0, 6, .inl ((P p)))), ((b 0), .inr (2, [.ref (b 1), .int (t 0), .int (t 1), .int (t 2)])), ((b 1), .inl (T 3, 4, .inr (.inr (.inr (.inr ((fun i => some (b (2 + 2 * i)))))))))] ++ stO T b P E p) H := hP
      have hD : va_D A ([((b (2 + 2 * p)), .inr (1, [.ref (b (3 + 2 * p)), .int ((P p) 6), .int ((P p) 7), .int ((P p) 8), .int 0, .long ((E p) 0), .long ((E p) 1), .long ((E p) 2)])), ((b (3 + 2 * p)), .inl (T 0, 6, .inl ((P p)))), ((b 0), .inr (2, [.ref (b 1), .int (t 0), .int (t 1), .int (t 2)])), ((b 1), .inl (T 3, 4, .inr (.inr (.inr (.inr ((fun i => some (b (2 + 2 * i)))))))))] ++ stO T b P E p) := hD
      obtain ⟨V1, eV1⟩ : ∃ z, z = upd (P p) 9 0 := ⟨_, rfl⟩
      have hP : va_P D vwCl ([((b (2 + 2 * p)), .inr (1, [.ref (b (3 + 2 * p)), .int (V1 6), .int (V1 7), .int (V1 8), .int (V1 9), .long ((E p) 0), .long ((E p) 1), .long ((E p) 2)])), ((b (3 + 2 * p)), .inl (T 0, 6, .inl (V1))), ((b 0), .inr (2, [.ref (b 1), .int (t 0), .int (t 1), .int (t 2)])), ((b 1), .inl (T 3, 4, .inr (.inr (.inr (.inr ((fun i => some (b (2 + 2 * i)))))))))] ++ stO T b P E p) H := by rw [eV1]; exact wP_re hP 1 rfl (at_i (fun j hj => (upd_n (by omega)).symm))
      have hD : va_D A ([((b (2 + 2 * p)), .inr (1, [.ref (b (3 + 2 * p)), .int (V1 6), .int (V1 7), .int (V1 8), .int (V1 9), .long ((E p) 0), .long ((E p) 1), .long ((E p) 2)])), ((b (3 + 2 * p)), .inl (T 0, 6, .inl (V1))), ((b 0), .inr (2, [.ref (b 1), .int (t 0), .int (t 1), .int (t 2)])), ((b 1), .inl (T 3, 4, .inr (.inr (.inr (.inr ((fun i => some (b (2 + 2 * i)))))))))] ++ stO T b P E p) := by rw [eV1]; exact wD_ad hD rfl
      refine lv_aload_n hx hb dX2_disconnect_31 rfl (lv_at hl 0 rfl) ?_
      refine va_get (D := D) (ci := 1) (v := .int (V1 7)) (C := RX1) (T := TX1) (N := 8) hx hb hts inwX2_disconnect_X1 hown hK hP 0 rfl rfl 2 (by decide) (hts (.fieldLink RX2 57 "PlateSlabs$Plates" "charge" "I") (List.mem_of_getElem? (i := 3) rfl)) (fun _ h9 => h9) rfl dX2_disconnect_32 ?_
      have hP := st_unf hp hP
      have hD := sd_unf hp hD
      exact hret _ _ _ (t, (va_up P p V1), (va_up E p (E p))) _ _ dX2_disconnect_35 hS hP hD (by rw [oTurnOff_t hp, oOff, if_neg (not_not_intro h9), eV1, up_id]; rfl)
    · skip
      have h9 := off_of c20
      refine lv_bipush (v := (-5)) hx hb dX2_disconnect_23 (by decide) ?_
      exact hret _ _ _ (t, P, E) _ _ dX2_disconnect_25 hS hP0 hD0 (by rw [oTurnOff_t hp, oOff, if_pos h9])
  · skip
    have c4 := bI_0 c4
    refine lv_iconst (v := (-1)) hx hb dX2_disconnect_7 (by decide) ?_
    exact hret _ _ _ (t, P, E) _ _ dX2_disconnect_8 hS hP hD (by rw [oTurnOff_f _ c4])

def rmX2_connect : Room := { frames := 2, cells := 0, slots := 0, locals := 42 }
set_option maxHeartbeats 4000000 in
set_option maxRecDepth 100000 in
theorem mX2_connect (l : Launch) (T : Nat → ClassId) (D : va_G) (b : Nat → Nat) (t : Nat → Int32) (P : Nat → Nat → Int32) (E : Nat → Nat → Int64) (hk : ∀ p, p < 4 → kOk (P p)) (x : Int32) (y : Int32) : MuI l yX2_connect wsX2_connect rmX2_connect T xN D [.ref (b 0), .int x, .int y] ([((b 0), .inr (2, [.ref (b 1), .int (t 0), .int (t 1), .int (t 2)])), ((b 1), .inl (T 3, 4, .inr (.inr (.inr (.inr ((fun i => some (b (2 + 2 * i)))))))))] ++ stT T b P E) (S := SG) (fun r u => (r, u) = oTurnOn x y (t, P, E)) (fun u => stW T b u.1 u.2.1 u.2.2) 0 0 := by
  refine met_mi (cc := cX2_connect) (maxL := 4) (by decide) rfl (Nat.le_of_ble_eq_true rfl) ?_
  intro p_ e s m args below meth c ls A Q hx hb hts hown hml hX hP hD hK hS hA hl hret
  have hl : lv_has ls 4 [(0, .ref (b 0)), (1, .int x), (2, .int y)] := hl
  obtain ⟨H, hH⟩ : ∃ H, H = s.heap := ⟨_, rfl⟩
  have hS : va_S A s.heap H [] := by rw [hH]; exact hS
  rw [← hH] at hP ⊢
  refine lv_iload_n hx hb dX2_connect_0 rfl (lv_at hl 1 rfl) ?_
  refine callNi (As := [.int x]) ⟨hx, hb, hml, hown, hts⟩ (mX5_isPair l T D x) ⟨va_cnB 1 hts gX2_connect_X5_isPair_n32 rfl rfl rfl (hX.1 _ (List.mem_of_getElem? (i := 4) rfl)) (hts (.initialized RX5) (List.mem_of_getElem? (i := 6) rfl)) (pdX5_isPair).2 ⟨Nat.le_of_ble_eq_true rfl, Nat.le_of_ble_eq_true rfl⟩, (hts (.static yX5_isPair) (List.mem_of_getElem? (i := 5) rfl)), trivial⟩ wP_nil hK xN_bl (fun U _ hW => XN_warm hW hX) hl.1 rfl rfl (Nat.le_of_ble_eq_true rfl) dX2_connect_1 ⟨Nat.zero_le _, Nat.zero_le _⟩ (fun r1_ er1_ => ?_)
  obtain rfl : r1_ = bI (0 ≤ x ∧ x ≤ 3) := er1_
  refine lv_if_ne (tgt := 9) hx hb dX2_connect_4 (by decide) (fun c4 => ?_) (fun c4 => ?_)
  · skip
    have c4 := bI_n0 c4
    obtain ⟨p, hp, rfl⟩ := pair_of c4
    refine lv_iload_n hx hb dX2_connect_9 rfl (lv_at hl 2 rfl) ?_
    refine lv_if_lt (tgt := 19) hx hb dX2_connect_10 (by decide) (fun c10 => ?_) (fun c10 => ?_)
    · skip
      refine lv_bipush (v := (-2)) hx hb dX2_connect_19 (by decide) ?_
      exact hret _ _ _ (t, P, E) _ _ dX2_connect_21 hS hP hD (by rw [oTurnOn_b hp _ (fun z => absurd z.1 (Int32.not_le.mpr c10))])
    · skip
      refine lv_iload_n hx hb dX2_connect_13 rfl (lv_at hl 2 rfl) ?_
      refine lv_bipush (v := 30) hx hb dX2_connect_14 (by decide) ?_
      refine lv_icmp_le (tgt := 22) hx hb dX2_connect_16 (by decide) (fun c16 => ?_) (fun c16 => ?_)
      · skip
        have hy : 0 ≤ y ∧ y ≤ 30 := ⟨Int32.not_lt.mp c10, c16⟩
        refine lv_aload_n hx hb dX2_connect_22 rfl (lv_at hl 0 rfl) ?_
        refine va_get (D := D) (ci := 2) (v := .ref (b 1)) (C := RX2) (T := TX2) (N := 4) hx hb hts inwX2_connect_X2 hown hK hP 0 rfl rfl 0 (by decide) (hts (.fieldLink RX2 11 "PlateSlabs$State" "pairs" "[LPlateSlabs$Plates;") (List.mem_of_getElem? (i := 1) rfl)) (fun _ h9 => h9) rfl dX2_connect_23 ?_
        refine lv_iload_n hx hb dX2_connect_26 rfl (lv_at hl 1 rfl) ?_
        refine va_aldq hx hb hK hP 1 3 rfl rfl (vp_in_nI (by omega) (by decide)) dX2_connect_27 ?_
        refine lv_tpv (congrArg (fun z => va_rf ((fun i => some (b (2 + 2 * i))) z)) (nI_clamp (by omega))) ?_
        refine lv_astore_n (lv' := [(3, .ref (b (2 + 2 * p))), (0, .ref (b 0)), (1, .int (nI p)), (2, .int y)]) hx hb dX2_connect_28 rfl hl (by decide) rfl (fun ls hl => ?_)
        have hP0 := hP
        have hD0 := hD
        have hP : va_P D vwCl ([((b (2 + 2 * p)), .inr (1, [.ref (b (3 + 2 * p)), .int ((P p) 6), .int ((P p) 7), .int ((P p) 8), .int ((P p) 9), .long ((E p) 0), .long ((E p) 1), .long ((E p) 2)])), ((b (3 + 2 * p)), .inl (T 0, 6, .inl ((P p)))), ((b 0), .inr (2, [.ref (b 1), .int (t 0), .int (t 1), .int (t 2)])), ((b 1), .inl (T 3, 4, .inr (.inr (.inr (.inr ((fun i => some (b (2 + 2 * i)))))))))] ++ stO T b P E p) H := st_foc hp hP
        have hD : va_D A ([((b (2 + 2 * p)), .inr (1, [.ref (b (3 + 2 * p)), .int ((P p) 6), .int ((P p) 7), .int ((P p) 8), .int ((P p) 9), .long ((E p) 0), .long ((E p) 1), .long ((E p) 2)])), ((b (3 + 2 * p)), .inl (T 0, 6, .inl ((P p)))), ((b 0), .inr (2, [.ref (b 1), .int (t 0), .int (t 1), .int (t 2)])), ((b 1), .inl (T 3, 4, .inr (.inr (.inr (.inr ((fun i => some (b (2 + 2 * i)))))))))] ++ stO T b P E p) := sd_foc hp hD
        refine lv_aload_n hx hb dX2_connect_29 rfl (lv_at hl 0 rfl) ?_
        refine va_get (D := D) (ci := 1) (v := .int ((P p) 9)) (C := RX1) (T := TX1) (N := 8) hx hb hts inwX2_connect_X1 hown hK hP 0 rfl rfl 4 (by decide) (hts (.fieldLink RX2 50 "PlateSlabs$Plates" "isOn" "Z") (List.mem_of_getElem? (i := 2) rfl)) (fun _ h9 => h9) rfl dX2_connect_30 ?_
        refine lv_if_eq (tgt := 47) hx hb dX2_connect_33 (by decide) (fun c33 => ?_) (fun c33 => ?_)
        · skip
          have h9 := off_of c33
          refine lv_aload_n hx hb dX2_connect_47 rfl (lv_at hl 0 rfl) ?_
          refine lv_iconst (v := 1) hx hb dX2_connect_48 (by decide) ?_
          refine va_put (D := D) (ci := 1) (v := .int 1) (C := RX1) (T := TX1) (N := 8) hx hb hts inwX2_connect_X1 tyX1 tyX1_ok nmX1 hown hK hP hD hS 0 rfl rfl 4 (by decide) (hts (.fieldLink RX2 50 "PlateSlabs$Plates" "isOn" "Z") (List.mem_of_getElem? (i := 2) rfl)) (fun _ h9 => h9) rfl (tyX1_ok 4 (by decide)) (rfl) (rfl) (Nat.le_of_ble_eq_true rfl) dX2_connect_49 (fun H locs hP hD hS => ?_)
          have hP : va_P D vwCl ([((b (2 + 2 * p)), .inr (1, [.ref (b (3 + 2 * p)), .int ((P p) 6), .int ((P p) 7), .int ((P p) 8), .int 1, .long ((E p) 0), .long ((E p) 1), .long ((E p) 2)])), ((b (3 + 2 * p)), .inl (T 0, 6, .inl ((P p)))), ((b 0), .inr (2, [.ref (b 1), .int (t 0), .int (t 1), .int (t 2)])), ((b 1), .inl (T 3, 4, .inr (.inr (.inr (.inr ((fun i => some (b (2 + 2 * i)))))))))] ++ stO T b P E p) H := hP
          have hD : va_D A ([((b (2 + 2 * p)), .inr (1, [.ref (b (3 + 2 * p)), .int ((P p) 6), .int ((P p) 7), .int ((P p) 8), .int 1, .long ((E p) 0), .long ((E p) 1), .long ((E p) 2)])), ((b (3 + 2 * p)), .inl (T 0, 6, .inl ((P p)))), ((b 0), .inr (2, [.ref (b 1), .int (t 0), .int (t 1), .int (t 2)])), ((b 1), .inl (T 3, 4, .inr (.inr (.inr (.inr ((fun i => some (b (2 + 2 * i)))))))))] ++ stO T b P E p) := hD
          refine lv_aload_n hx hb dX2_connect_52 rfl (lv_at hl 0 rfl) ?_
          refine lv_iload_n hx hb dX2_connect_53 rfl (lv_at hl 3 rfl) ?_
          refine va_put (D := D) (ci := 1) (v := .int y) (C := RX1) (T := TX1) (N := 8) hx hb hts inwX2_connect_X1 tyX1 tyX1_ok nmX1 hown hK hP hD hS 0 rfl rfl 3 (by decide) (hts (.fieldLink RX2 54 "PlateSlabs$Plates" "voltage" "I") (List.mem_of_getElem? (i := 3) rfl)) (fun _ h9 => h9) rfl (tyX1_ok 3 (by decide)) (rfl) (rfl) (Nat.le_of_ble_eq_true rfl) dX2_connect_54 (fun H locs hP hD hS => ?_)
          have hP : va_P D vwCl ([((b (2 + 2 * p)), .inr (1, [.ref (b (3 + 2 * p)), .int ((P p) 6), .int ((P p) 7), .int y, .int 1, .long ((E p) 0), .long ((E p) 1), .long ((E p) 2)])), ((b (3 + 2 * p)), .inl (T 0, 6, .inl ((P p)))), ((b 0), .inr (2, [.ref (b 1), .int (t 0), .int (t 1), .int (t 2)])), ((b 1), .inl (T 3, 4, .inr (.inr (.inr (.inr ((fun i => some (b (2 + 2 * i)))))))))] ++ stO T b P E p) H := hP
          have hD : va_D A ([((b (2 + 2 * p)), .inr (1, [.ref (b (3 + 2 * p)), .int ((P p) 6), .int ((P p) 7), .int y, .int 1, .long ((E p) 0), .long ((E p) 1), .long ((E p) 2)])), ((b (3 + 2 * p)), .inl (T 0, 6, .inl ((P p)))), ((b 0), .inr (2, [.ref (b 1), .int (t 0), .int (t 1), .int (t 2)])), ((b 1), .inl (T 3, 4, .inr (.inr (.inr (.inr ((fun i => some (b (2 + 2 * i)))))))))] ++ stO T b P E p) := hD
          obtain ⟨V1, eV1⟩ : ∃ z, z = upd (upd (P p) 9 1) 8 y := ⟨_, rfl⟩
          have hP : va_P D vwCl ([((b (2 + 2 * p)), .inr (1, [.ref (b (3 + 2 * p)), .int (V1 6), .int (V1 7), .int (V1 8), .int (V1 9), .long ((E p) 0), .long ((E p) 1), .long ((E p) 2)])), ((b (3 + 2 * p)), .inl (T 0, 6, .inl (V1))), ((b 0), .inr (2, [.ref (b 1), .int (t 0), .int (t 1), .int (t 2)])), ((b 1), .inl (T 3, 4, .inr (.inr (.inr (.inr ((fun i => some (b (2 + 2 * i)))))))))] ++ stO T b P E p) H := by rw [eV1]; exact wP_re hP 1 rfl (at_i (fun j hj => ((upd_n (by omega)).trans (upd_n (by omega))).symm))
          have hD : va_D A ([((b (2 + 2 * p)), .inr (1, [.ref (b (3 + 2 * p)), .int (V1 6), .int (V1 7), .int (V1 8), .int (V1 9), .long ((E p) 0), .long ((E p) 1), .long ((E p) 2)])), ((b (3 + 2 * p)), .inl (T 0, 6, .inl (V1))), ((b 0), .inr (2, [.ref (b 1), .int (t 0), .int (t 1), .int (t 2)])), ((b 1), .inl (T 3, 4, .inr (.inr (.inr (.inr ((fun i => some (b (2 + 2 * i)))))))))] ++ stO T b P E p) := by rw [eV1]; exact wD_ad hD rfl
          have hk1 : kOk V1 := by
            rw [eV1]
            exact kOk_u8 (kOk_u9 (hk p hp) (Or.inr rfl)) (by have := hy.1; have := hy.2; rw [fa_le] at *; exact ⟨by assumption, by assumption⟩)
          refine lv_aload_n hx hb dX2_connect_57 rfl (lv_at hl 0 rfl) ?_
          refine callMv (As := []) (wr := [((b 0), .inr (2, [.ref (b 1), .int (t 0), .int (t 1), .int (t 2)])), ((b 1), .inl (T 3, 4, .inr (.inr (.inr (.inr ((fun i => some (b (2 + 2 * i)))))))))] ++ stO T b P E p) ⟨hx, hb, hml, hown, hts⟩ (mX1_holdVoltage l T D (b (2 + 2 * p)) (b (3 + 2 * p)) V1 (E p) hk1) (cwV 0 hts gX2_connect_X1_holdVoltage rfl rfl rfl pdX1_holdVoltage ⟨Nat.le_of_ble_eq_true rfl, Nat.le_of_ble_eq_true rfl⟩) hP hD hK hS hA xN_bl (fun U _ hW => XN_warm hW hX) (ci := 1) rfl rfl rfl hl.1 rfl rfl (Nat.le_of_ble_eq_true rfl) dX2_connect_58 ⟨Nat.zero_le _, Nat.zero_le _⟩ (fun u3_ H locs eu3_ hP hD hS hkf => ?_)
          obtain ⟨V3, eV3⟩ : ∃ z : Nat → Int32, z = kHoldP V1 := ⟨_, rfl⟩
          obtain ⟨G3, eG3⟩ : ∃ z : Nat → Int64, z = kHoldE V1 (E p) := ⟨_, rfl⟩
          rw [← eV3, ← eG3] at hP hD
          have hP : va_P D vwCl ([((b (2 + 2 * p)), .inr (1, [.ref (b (3 + 2 * p)), .int (V3 6), .int (V3 7), .int (V3 8), .int (V3 9), .long (G3 0), .long (G3 1), .long (G3 2)])), ((b (3 + 2 * p)), .inl (T 0, 6, .inl (V3))), ((b 0), .inr (2, [.ref (b 1), .int (t 0), .int (t 1), .int (t 2)])), ((b 1), .inl (T 3, 4, .inr (.inr (.inr (.inr ((fun i => some (b (2 + 2 * i)))))))))] ++ stO T b P E p) H := hP
          have hD : va_D A ([((b (2 + 2 * p)), .inr (1, [.ref (b (3 + 2 * p)), .int (V3 6), .int (V3 7), .int (V3 8), .int (V3 9), .long (G3 0), .long (G3 1), .long (G3 2)])), ((b (3 + 2 * p)), .inl (T 0, 6, .inl (V3))), ((b 0), .inr (2, [.ref (b 1), .int (t 0), .int (t 1), .int (t 2)])), ((b 1), .inl (T 3, 4, .inr (.inr (.inr (.inr ((fun i => some (b (2 + 2 * i)))))))))] ++ stO T b P E p) := hD
          refine lv_aload_n hx hb dX2_connect_61 rfl (lv_at hl 0 rfl) ?_
          refine va_get (D := D) (ci := 1) (v := .int (V3 7)) (C := RX1) (T := TX1) (N := 8) hx hb hts inwX2_connect_X1 hown hK hP 0 rfl rfl 2 (by decide) (hts (.fieldLink RX2 57 "PlateSlabs$Plates" "charge" "I") (List.mem_of_getElem? (i := 4) rfl)) (fun _ h9 => h9) rfl dX2_connect_62 ?_
          have hP := st_unf hp hP
          have hD := sd_unf hp hD
          exact hret _ _ _ (t, (va_up P p V3), (va_up E p G3)) _ _ dX2_connect_65 hS hP hD (by rw [oTurnOn_t hp _ hy, oOn, if_neg (by exact fun z => h9 z.1), eV3, eG3, eV1]; rfl)
        · skip
          have h9 := on_of (hk p hp) c33
          refine lv_aload_n hx hb dX2_connect_36 rfl (lv_at hl 0 rfl) ?_
          refine va_get (D := D) (ci := 1) (v := .int ((P p) 8)) (C := RX1) (T := TX1) (N := 8) hx hb hts inwX2_connect_X1 hown hK hP 0 rfl rfl 3 (by decide) (hts (.fieldLink RX2 54 "PlateSlabs$Plates" "voltage" "I") (List.mem_of_getElem? (i := 3) rfl)) (fun _ h9 => h9) rfl dX2_connect_37 ?_
          refine lv_iload_n hx hb dX2_connect_40 rfl (lv_at hl 3 rfl) ?_
          refine lv_icmp_ne (tgt := 47) hx hb dX2_connect_41 (by decide) (fun c41 => ?_) (fun c41 => ?_)
          · skip
            refine lv_aload_n hx hb dX2_connect_47 rfl (lv_at hl 0 rfl) ?_
            refine lv_iconst (v := 1) hx hb dX2_connect_48 (by decide) ?_
            refine va_put (D := D) (ci := 1) (v := .int 1) (C := RX1) (T := TX1) (N := 8) hx hb hts inwX2_connect_X1 tyX1 tyX1_ok nmX1 hown hK hP hD hS 0 rfl rfl 4 (by decide) (hts (.fieldLink RX2 50 "PlateSlabs$Plates" "isOn" "Z") (List.mem_of_getElem? (i := 2) rfl)) (fun _ h9 => h9) rfl (tyX1_ok 4 (by decide)) (rfl) (rfl) (Nat.le_of_ble_eq_true rfl) dX2_connect_49 (fun H locs hP hD hS => ?_)
            have hP : va_P D vwCl ([((b (2 + 2 * p)), .inr (1, [.ref (b (3 + 2 * p)), .int ((P p) 6), .int ((P p) 7), .int ((P p) 8), .int 1, .long ((E p) 0), .long ((E p) 1), .long ((E p) 2)])), ((b (3 + 2 * p)), .inl (T 0, 6, .inl ((P p)))), ((b 0), .inr (2, [.ref (b 1), .int (t 0), .int (t 1), .int (t 2)])), ((b 1), .inl (T 3, 4, .inr (.inr (.inr (.inr ((fun i => some (b (2 + 2 * i)))))))))] ++ stO T b P E p) H := hP
            have hD : va_D A ([((b (2 + 2 * p)), .inr (1, [.ref (b (3 + 2 * p)), .int ((P p) 6), .int ((P p) 7), .int ((P p) 8), .int 1, .long ((E p) 0), .long ((E p) 1), .long ((E p) 2)])), ((b (3 + 2 * p)), .inl (T 0, 6, .inl ((P p)))), ((b 0), .inr (2, [.ref (b 1), .int (t 0), .int (t 1), .int (t 2)])), ((b 1), .inl (T 3, 4, .inr (.inr (.inr (.inr ((fun i => some (b (2 + 2 * i)))))))))] ++ stO T b P E p) := hD
            refine lv_aload_n hx hb dX2_connect_52 rfl (lv_at hl 0 rfl) ?_
            refine lv_iload_n hx hb dX2_connect_53 rfl (lv_at hl 3 rfl) ?_
            refine va_put (D := D) (ci := 1) (v := .int y) (C := RX1) (T := TX1) (N := 8) hx hb hts inwX2_connect_X1 tyX1 tyX1_ok nmX1 hown hK hP hD hS 0 rfl rfl 3 (by decide) (hts (.fieldLink RX2 54 "PlateSlabs$Plates" "voltage" "I") (List.mem_of_getElem? (i := 3) rfl)) (fun _ h9 => h9) rfl (tyX1_ok 3 (by decide)) (rfl) (rfl) (Nat.le_of_ble_eq_true rfl) dX2_connect_54 (fun H locs hP hD hS => ?_)
            have hP : va_P D vwCl ([((b (2 + 2 * p)), .inr (1, [.ref (b (3 + 2 * p)), .int ((P p) 6), .int ((P p) 7), .int y, .int 1, .long ((E p) 0), .long ((E p) 1), .long ((E p) 2)])), ((b (3 + 2 * p)), .inl (T 0, 6, .inl ((P p)))), ((b 0), .inr (2, [.ref (b 1), .int (t 0), .int (t 1), .int (t 2)])), ((b 1), .inl (T 3, 4, .inr (.inr (.inr (.inr ((fun i => some (b (2 + 2 * i)))))))))] ++ stO T b P E p) H := hP
            have hD : va_D A ([((b (2 + 2 * p)), .inr (1, [.ref (b (3 + 2 * p)), .int ((P p) 6), .int ((P p) 7), .int y, .int 1, .long ((E p) 0), .long ((E p) 1), .long ((E p) 2)])), ((b (3 + 2 * p)), .inl (T 0, 6, .inl ((P p)))), ((b 0), .inr (2, [.ref (b 1), .int (t 0), .int (t 1), .int (t 2)])), ((b 1), .inl (T 3, 4, .inr (.inr (.inr (.inr ((fun i => some (b (2 + 2 * i)))))))))] ++ stO T b P E p) := hD
            obtain ⟨V1, eV1⟩ : ∃ z, z = upd (upd (P p) 9 1) 8 y := ⟨_, rfl⟩
            have hP : va_P D vwCl ([((b (2 + 2 * p)), .inr (1, [.ref (b (3 + 2 * p)), .int (V1 6), .int (V1 7), .int (V1 8), .int (V1 9), .long ((E p) 0), .long ((E p) 1), .long ((E p) 2)])), ((b (3 + 2 * p)), .inl (T 0, 6, .inl (V1))), ((b 0), .inr (2, [.ref (b 1), .int (t 0), .int (t 1), .int (t 2)])), ((b 1), .inl (T 3, 4, .inr (.inr (.inr (.inr ((fun i => some (b (2 + 2 * i)))))))))] ++ stO T b P E p) H := by rw [eV1]; exact wP_re hP 1 rfl (at_i (fun j hj => ((upd_n (by omega)).trans (upd_n (by omega))).symm))
            have hD : va_D A ([((b (2 + 2 * p)), .inr (1, [.ref (b (3 + 2 * p)), .int (V1 6), .int (V1 7), .int (V1 8), .int (V1 9), .long ((E p) 0), .long ((E p) 1), .long ((E p) 2)])), ((b (3 + 2 * p)), .inl (T 0, 6, .inl (V1))), ((b 0), .inr (2, [.ref (b 1), .int (t 0), .int (t 1), .int (t 2)])), ((b 1), .inl (T 3, 4, .inr (.inr (.inr (.inr ((fun i => some (b (2 + 2 * i)))))))))] ++ stO T b P E p) := by rw [eV1]; exact wD_ad hD rfl
            have hk1 : kOk V1 := by
              rw [eV1]
              exact kOk_u8 (kOk_u9 (hk p hp) (Or.inr rfl)) (by have := hy.1; have := hy.2; rw [fa_le] at *; exact ⟨by assumption, by assumption⟩)
            refine lv_aload_n hx hb dX2_connect_57 rfl (lv_at hl 0 rfl) ?_
            refine callMv (As := []) (wr := [((b 0), .inr (2, [.ref (b 1), .int (t 0), .int (t 1), .int (t 2)])), ((b 1), .inl (T 3, 4, .inr (.inr (.inr (.inr ((fun i => some (b (2 + 2 * i)))))))))] ++ stO T b P E p) ⟨hx, hb, hml, hown, hts⟩ (mX1_holdVoltage l T D (b (2 + 2 * p)) (b (3 + 2 * p)) V1 (E p) hk1) (cwV 0 hts gX2_connect_X1_holdVoltage rfl rfl rfl pdX1_holdVoltage ⟨Nat.le_of_ble_eq_true rfl, Nat.le_of_ble_eq_true rfl⟩) hP hD hK hS hA xN_bl (fun U _ hW => XN_warm hW hX) (ci := 1) rfl rfl rfl hl.1 rfl rfl (Nat.le_of_ble_eq_true rfl) dX2_connect_58 ⟨Nat.zero_le _, Nat.zero_le _⟩ (fun u5_ H locs eu5_ hP hD hS hkf => ?_)
            obtain ⟨V3, eV3⟩ : ∃ z : Nat → Int32, z = kHoldP V1 := ⟨_, rfl⟩
            obtain ⟨G3, eG3⟩ : ∃ z : Nat → Int64, z = kHoldE V1 (E p) := ⟨_, rfl⟩
            rw [← eV3, ← eG3] at hP hD
            have hP : va_P D vwCl ([((b (2 + 2 * p)), .inr (1, [.ref (b (3 + 2 * p)), .int (V3 6), .int (V3 7), .int (V3 8), .int (V3 9), .long (G3 0), .long (G3 1), .long (G3 2)])), ((b (3 + 2 * p)), .inl (T 0, 6, .inl (V3))), ((b 0), .inr (2, [.ref (b 1), .int (t 0), .int (t 1), .int (t 2)])), ((b 1), .inl (T 3, 4, .inr (.inr (.inr (.inr ((fun i => some (b (2 + 2 * i)))))))))] ++ stO T b P E p) H := hP
            have hD : va_D A ([((b (2 + 2 * p)), .inr (1, [.ref (b (3 + 2 * p)), .int (V3 6), .int (V3 7), .int (V3 8), .int (V3 9), .long (G3 0), .long (G3 1), .long (G3 2)])), ((b (3 + 2 * p)), .inl (T 0, 6, .inl (V3))), ((b 0), .inr (2, [.ref (b 1), .int (t 0), .int (t 1), .int (t 2)])), ((b 1), .inl (T 3, 4, .inr (.inr (.inr (.inr ((fun i => some (b (2 + 2 * i)))))))))] ++ stO T b P E p) := hD
            refine lv_aload_n hx hb dX2_connect_61 rfl (lv_at hl 0 rfl) ?_
            refine va_get (D := D) (ci := 1) (v := .int (V3 7)) (C := RX1) (T := TX1) (N := 8) hx hb hts inwX2_connect_X1 hown hK hP 0 rfl rfl 2 (by decide) (hts (.fieldLink RX2 57 "PlateSlabs$Plates" "charge" "I") (List.mem_of_getElem? (i := 4) rfl)) (fun _ h9 => h9) rfl dX2_connect_62 ?_
            have hP := st_unf hp hP
            have hD := sd_unf hp hD
            exact hret _ _ _ (t, (va_up P p V3), (va_up E p G3)) _ _ dX2_connect_65 hS hP hD (by rw [oTurnOn_t hp _ hy, oOn, if_neg (by exact fun z => c41 z.2), eV3, eG3, eV1]; rfl)
          · skip
            refine lv_bipush (v := (-5)) hx hb dX2_connect_44 (by decide) ?_
            exact hret _ _ _ (t, P, E) _ _ dX2_connect_46 hS hP0 hD0 (by rw [oTurnOn_t hp _ hy, oOn, if_pos ⟨h9, c41⟩])
      · skip
        refine lv_bipush (v := (-2)) hx hb dX2_connect_19 (by decide) ?_
        exact hret _ _ _ (t, P, E) _ _ dX2_connect_21 hS hP hD (by rw [oTurnOn_b hp _ (fun z => absurd z.2 c16)])
  · skip
    have c4 := bI_0 c4
    refine lv_iconst (v := (-1)) hx hb dX2_connect_7 (by decide) ?_
    exact hret _ _ _ (t, P, E) _ _ dX2_connect_8 hS hP hD (by rw [oTurnOn_f _ c4])

def rmX2_putSlab : Room := { frames := 2, cells := 0, slots := 0, locals := 42 }
set_option maxHeartbeats 4000000 in
set_option maxRecDepth 100000 in
theorem mX2_putSlab (l : Launch) (T : Nat → ClassId) (D : va_G) (b : Nat → Nat) (t : Nat → Int32) (P : Nat → Nat → Int32) (E : Nat → Nat → Int64) (hk : ∀ p, p < 4 → kOk (P p)) (x : Int32) (y : Int32) : MuI l yX2_putSlab wsX2_putSlab rmX2_putSlab T xN D [.ref (b 0), .int x, .int y] ([((b 0), .inr (2, [.ref (b 1), .int (t 0), .int (t 1), .int (t 2)])), ((b 1), .inl (T 3, 4, .inr (.inr (.inr (.inr ((fun i => some (b (2 + 2 * i)))))))))] ++ stT T b P E) (S := SG) (fun r u => (r, u) = oPut x y (t, P, E)) (fun u => stW T b u.1 u.2.1 u.2.2) 0 0 := by
  refine met_mi (cc := cX2_putSlab) (maxL := 5) (by decide) rfl (Nat.le_of_ble_eq_true rfl) ?_
  intro p_ e s m args below meth c ls A Q hx hb hts hown hml hX hP hD hK hS hA hl hret
  have hl : lv_has ls 5 [(0, .ref (b 0)), (1, .int x), (2, .int y)] := hl
  obtain ⟨H, hH⟩ : ∃ H, H = s.heap := ⟨_, rfl⟩
  have hS : va_S A s.heap H [] := by rw [hH]; exact hS
  rw [← hH] at hP ⊢
  refine lv_iload_n hx hb dX2_putSlab_0 rfl (lv_at hl 1 rfl) ?_
  refine callNi (As := [.int x]) ⟨hx, hb, hml, hown, hts⟩ (mX5_isPair l T D x) ⟨va_cnB 1 hts gX2_putSlab_X5_isPair_n32 rfl rfl rfl (hX.1 _ (List.mem_of_getElem? (i := 4) rfl)) (hts (.initialized RX5) (List.mem_of_getElem? (i := 4) rfl)) (pdX5_isPair).2 ⟨Nat.le_of_ble_eq_true rfl, Nat.le_of_ble_eq_true rfl⟩, (hts (.static yX5_isPair) (List.mem_of_getElem? (i := 3) rfl)), trivial⟩ wP_nil hK xN_bl (fun U _ hW => XN_warm hW hX) hl.1 rfl rfl (Nat.le_of_ble_eq_true rfl) dX2_putSlab_1 ⟨Nat.zero_le _, Nat.zero_le _⟩ (fun r1_ er1_ => ?_)
  obtain rfl : r1_ = bI (0 ≤ x ∧ x ≤ 3) := er1_
  refine lv_if_ne (tgt := 9) hx hb dX2_putSlab_4 (by decide) (fun c4 => ?_) (fun c4 => ?_)
  · skip
    have c4 := bI_n0 c4
    obtain ⟨p, hp, rfl⟩ := pair_of c4
    refine lv_iload_n hx hb dX2_putSlab_9 rfl (lv_at hl 2 rfl) ?_
    refine callNi (As := [.int y]) ⟨hx, hb, hml, hown, hts⟩ (mX5_isDepth l T D y) ⟨va_cnB 1 hts gX2_putSlab_X5_isDepth_n60 rfl rfl rfl (hX.1 _ (List.mem_of_getElem? (i := 5) rfl)) (hts (.initialized RX5) (List.mem_of_getElem? (i := 4) rfl)) (pdX5_isDepth).2 ⟨Nat.le_of_ble_eq_true rfl, Nat.le_of_ble_eq_true rfl⟩, (hts (.static yX5_isDepth) (List.mem_of_getElem? (i := 6) rfl)), trivial⟩ wP_nil hK xN_bl (fun U _ hW => XN_warm hW hX) hl.1 rfl rfl (Nat.le_of_ble_eq_true rfl) dX2_putSlab_10 ⟨Nat.zero_le _, Nat.zero_le _⟩ (fun r2_ er2_ => ?_)
    obtain rfl : r2_ = bI (0 ≤ y ∧ y ≤ 40) := er2_
    refine lv_if_ne (tgt := 19) hx hb dX2_putSlab_13 (by decide) (fun c13 => ?_) (fun c13 => ?_)
    · skip
      have c13 := bI_n0 c13
      refine lv_aload_n hx hb dX2_putSlab_19 rfl (lv_at hl 0 rfl) ?_
      refine va_get (D := D) (ci := 2) (v := .ref (b 1)) (C := RX2) (T := TX2) (N := 4) hx hb hts inwX2_putSlab_X2 hown hK hP 0 rfl rfl 0 (by decide) (hts (.fieldLink RX2 11 "PlateSlabs$State" "pairs" "[LPlateSlabs$Plates;") (List.mem_of_getElem? (i := 1) rfl)) (fun _ h9 => h9) rfl dX2_putSlab_20 ?_
      refine lv_iload_n hx hb dX2_putSlab_23 rfl (lv_at hl 1 rfl) ?_
      refine va_aldq hx hb hK hP 1 3 rfl rfl (vp_in_nI (by omega) (by decide)) dX2_putSlab_24 ?_
      refine lv_tpv (congrArg (fun z => va_rf ((fun i => some (b (2 + 2 * i))) z)) (nI_clamp (by omega))) ?_
      refine lv_astore_n (lv' := [(3, .ref (b (2 + 2 * p))), (0, .ref (b 0)), (1, .int (nI p)), (2, .int y)]) hx hb dX2_putSlab_25 rfl hl (by decide) rfl (fun ls hl => ?_)
      have hP0 := hP
      have hD0 := hD
      have hP : va_P D vwCl ([((b (2 + 2 * p)), .inr (1, [.ref (b (3 + 2 * p)), .int ((P p) 6), .int ((P p) 7), .int ((P p) 8), .int ((P p) 9), .long ((E p) 0), .long ((E p) 1), .long ((E p) 2)])), ((b (3 + 2 * p)), .inl (T 0, 6, .inl ((P p)))), ((b 0), .inr (2, [.ref (b 1), .int (t 0), .int (t 1), .int (t 2)])), ((b 1), .inl (T 3, 4, .inr (.inr (.inr (.inr ((fun i => some (b (2 + 2 * i)))))))))] ++ stO T b P E p) H := st_foc hp hP
      have hD : va_D A ([((b (2 + 2 * p)), .inr (1, [.ref (b (3 + 2 * p)), .int ((P p) 6), .int ((P p) 7), .int ((P p) 8), .int ((P p) 9), .long ((E p) 0), .long ((E p) 1), .long ((E p) 2)])), ((b (3 + 2 * p)), .inl (T 0, 6, .inl ((P p)))), ((b 0), .inr (2, [.ref (b 1), .int (t 0), .int (t 1), .int (t 2)])), ((b 1), .inl (T 3, 4, .inr (.inr (.inr (.inr ((fun i => some (b (2 + 2 * i)))))))))] ++ stO T b P E p) := sd_foc hp hD
      refine lv_aload_n hx hb dX2_putSlab_26 rfl (lv_at hl 0 rfl) ?_
      refine va_get (D := D) (ci := 1) (v := .int ((P p) 6)) (C := RX1) (T := TX1) (N := 8) hx hb hts inwX2_putSlab_X1 hown hK hP 0 rfl rfl 1 (by decide) (hts (.fieldLink RX2 63 "PlateSlabs$Plates" "depth" "I") (List.mem_of_getElem? (i := 2) rfl)) (fun _ h9 => h9) rfl dX2_putSlab_27 ?_
      refine lv_topi (fun x4_ ex4_ => ?_)
      refine lv_istore (lv' := [(4, .int x4_), (3, .ref (b (2 + 2 * p))), (0, .ref (b 0)), (1, .int (nI p)), (2, .int y)]) hx hb dX2_putSlab_30 hl (by decide) rfl (fun ls hl => ?_)
      refine lv_iload hx hb dX2_putSlab_32 (lv_at hl 0 rfl) ?_
      refine lv_iload_n hx hb dX2_putSlab_34 rfl (lv_at hl 4 rfl) ?_
      refine lv_icmp_ne (tgt := 41) hx hb dX2_putSlab_35 (by decide) (fun c35 => ?_) (fun c35 => ?_)
      · skip
        refine lv_aload_n hx hb dX2_putSlab_41 rfl (lv_at hl 1 rfl) ?_
        refine lv_iload_n hx hb dX2_putSlab_42 rfl (lv_at hl 4 rfl) ?_
        refine va_put (D := D) (ci := 1) (v := .int y) (C := RX1) (T := TX1) (N := 8) hx hb hts inwX2_putSlab_X1 tyX1 tyX1_ok nmX1 hown hK hP hD hS 0 rfl rfl 1 (by decide) (hts (.fieldLink RX2 63 "PlateSlabs$Plates" "depth" "I") (List.mem_of_getElem? (i := 2) rfl)) (fun _ h9 => h9) rfl (tyX1_ok 1 (by decide)) (rfl) (rfl) (Nat.le_of_ble_eq_true rfl) dX2_putSlab_43 (fun H locs hP hD hS => ?_)
        have hP : va_P D vwCl ([((b (2 + 2 * p)), .inr (1, [.ref (b (3 + 2 * p)), .int y, .int ((P p) 7), .int ((P p) 8), .int ((P p) 9), .long ((E p) 0), .long ((E p) 1), .long ((E p) 2)])), ((b (3 + 2 * p)), .inl (T 0, 6, .inl ((P p)))), ((b 0), .inr (2, [.ref (b 1), .int (t 0), .int (t 1), .int (t 2)])), ((b 1), .inl (T 3, 4, .inr (.inr (.inr (.inr ((fun i => some (b (2 + 2 * i)))))))))] ++ stO T b P E p) H := hP
        have hD : va_D A ([((b (2 + 2 * p)), .inr (1, [.ref (b (3 + 2 * p)), .int y, .int ((P p) 7), .int ((P p) 8), .int ((P p) 9), .long ((E p) 0), .long ((E p) 1), .long ((E p) 2)])), ((b (3 + 2 * p)), .inl (T 0, 6, .inl ((P p)))), ((b 0), .inr (2, [.ref (b 1), .int (t 0), .int (t 1), .int (t 2)])), ((b 1), .inl (T 3, 4, .inr (.inr (.inr (.inr ((fun i => some (b (2 + 2 * i)))))))))] ++ stO T b P E p) := hD
        obtain ⟨V1, eV1⟩ : ∃ z, z = upd (P p) 6 y := ⟨_, rfl⟩
        have hP : va_P D vwCl ([((b (2 + 2 * p)), .inr (1, [.ref (b (3 + 2 * p)), .int (V1 6), .int (V1 7), .int (V1 8), .int (V1 9), .long ((E p) 0), .long ((E p) 1), .long ((E p) 2)])), ((b (3 + 2 * p)), .inl (T 0, 6, .inl (V1))), ((b 0), .inr (2, [.ref (b 1), .int (t 0), .int (t 1), .int (t 2)])), ((b 1), .inl (T 3, 4, .inr (.inr (.inr (.inr ((fun i => some (b (2 + 2 * i)))))))))] ++ stO T b P E p) H := by rw [eV1]; exact wP_re hP 1 rfl (at_i (fun j hj => (upd_n (by omega)).symm))
        have hD : va_D A ([((b (2 + 2 * p)), .inr (1, [.ref (b (3 + 2 * p)), .int (V1 6), .int (V1 7), .int (V1 8), .int (V1 9), .long ((E p) 0), .long ((E p) 1), .long ((E p) 2)])), ((b (3 + 2 * p)), .inl (T 0, 6, .inl (V1))), ((b 0), .inr (2, [.ref (b 1), .int (t 0), .int (t 1), .int (t 2)])), ((b 1), .inl (T 3, 4, .inr (.inr (.inr (.inr ((fun i => some (b (2 + 2 * i)))))))))] ++ stO T b P E p) := by rw [eV1]; exact wD_ad hD rfl
        have hk1 : kOk V1 := by
          rw [eV1]
          exact kOk_u6 (hk p hp) (dp_of c13)
        refine lv_aload_n hx hb dX2_putSlab_46 rfl (lv_at hl 1 rfl) ?_
        refine callMv (As := []) (wr := [((b 0), .inr (2, [.ref (b 1), .int (t 0), .int (t 1), .int (t 2)])), ((b 1), .inl (T 3, 4, .inr (.inr (.inr (.inr ((fun i => some (b (2 + 2 * i)))))))))] ++ stO T b P E p) ⟨hx, hb, hml, hown, hts⟩ (mX1_holdVoltage l T D (b (2 + 2 * p)) (b (3 + 2 * p)) V1 (E p) hk1) (cwV 0 hts gX2_putSlab_X1_holdVoltage rfl rfl rfl pdX1_holdVoltage ⟨Nat.le_of_ble_eq_true rfl, Nat.le_of_ble_eq_true rfl⟩) hP hD hK hS hA xN_bl (fun U _ hW => XN_warm hW hX) (ci := 1) rfl rfl rfl hl.1 rfl rfl (Nat.le_of_ble_eq_true rfl) dX2_putSlab_47 ⟨Nat.zero_le _, Nat.zero_le _⟩ (fun u4_ H locs eu4_ hP hD hS hkf => ?_)
        obtain ⟨V3, eV3⟩ : ∃ z : Nat → Int32, z = kHoldP V1 := ⟨_, rfl⟩
        obtain ⟨G3, eG3⟩ : ∃ z : Nat → Int64, z = kHoldE V1 (E p) := ⟨_, rfl⟩
        rw [← eV3, ← eG3] at hP hD
        have hP : va_P D vwCl ([((b (2 + 2 * p)), .inr (1, [.ref (b (3 + 2 * p)), .int (V3 6), .int (V3 7), .int (V3 8), .int (V3 9), .long (G3 0), .long (G3 1), .long (G3 2)])), ((b (3 + 2 * p)), .inl (T 0, 6, .inl (V3))), ((b 0), .inr (2, [.ref (b 1), .int (t 0), .int (t 1), .int (t 2)])), ((b 1), .inl (T 3, 4, .inr (.inr (.inr (.inr ((fun i => some (b (2 + 2 * i)))))))))] ++ stO T b P E p) H := hP
        have hD : va_D A ([((b (2 + 2 * p)), .inr (1, [.ref (b (3 + 2 * p)), .int (V3 6), .int (V3 7), .int (V3 8), .int (V3 9), .long (G3 0), .long (G3 1), .long (G3 2)])), ((b (3 + 2 * p)), .inl (T 0, 6, .inl (V3))), ((b 0), .inr (2, [.ref (b 1), .int (t 0), .int (t 1), .int (t 2)])), ((b 1), .inl (T 3, 4, .inr (.inr (.inr (.inr ((fun i => some (b (2 + 2 * i)))))))))] ++ stO T b P E p) := hD
        refine lv_iload hx hb dX2_putSlab_50 (lv_at hl 0 rfl) ?_
        have hP := st_unf hp hP
        have hD := sd_unf hp hD
        exact hret _ _ _ (t, (va_up P p V3), (va_up E p G3)) _ _ dX2_putSlab_52 hS hP hD (by rw [oPut_t hp _ c13, oLay, if_neg (fun z => c35 (ex4_.trans z)), eV3, eG3, eV1, ex4_])
      · skip
        refine lv_bipush (v := (-5)) hx hb dX2_putSlab_38 (by decide) ?_
        exact hret _ _ _ (t, P, E) _ _ dX2_putSlab_40 hS hP0 hD0 (by rw [oPut_t hp _ c13, oLay, if_pos (ex4_.symm.trans c35)])
    · skip
      have c13 := bI_0 c13
      refine lv_bipush (v := (-2)) hx hb dX2_putSlab_16 (by decide) ?_
      exact hret _ _ _ (t, P, E) _ _ dX2_putSlab_18 hS hP hD (by rw [oPut_b hp _ c13])
  · skip
    have c4 := bI_0 c4
    refine lv_iconst (v := (-1)) hx hb dX2_putSlab_7 (by decide) ?_
    exact hret _ _ _ (t, P, E) _ _ dX2_putSlab_8 hS hP hD (by rw [oPut_f _ c4])
