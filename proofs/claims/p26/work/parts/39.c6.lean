theorem pdX1_isInRange : yX1_isInRange.cls = RX1 ∧ yX1_isInRange.cls ≠ "java/lang/invoke/MethodHandle" ∧ yX1_isInRange.cls ≠ "java/lang/invoke/VarHandle" ∧ (parseMethodDescriptor yX1_isInRange.desc).map (fun d => d.parameters.length) = some 2 := by decide +kernel
theorem pdX2_change : yX2_change.cls = RX2 ∧ yX2_change.cls ≠ "java/lang/invoke/MethodHandle" ∧ yX2_change.cls ≠ "java/lang/invoke/VarHandle" ∧ (parseMethodDescriptor yX2_change.desc).map (fun d => d.parameters.length) = some 3 := by decide +kernel
theorem inwX2_change_X2 : ∀ w ∈ wsX20, w ∈ wsX2_change := by decide +kernel
theorem inwX2_change_X1 : ∀ w ∈ wsX10, w ∈ wsX2_change := by decide +kernel
def rmX1_isInRange : Room := { frames := 1, cells := 0, slots := 0, locals := 20 }
set_option maxHeartbeats 4000000 in
set_option maxRecDepth 100000 in
theorem mX1_isInRange (l : Launch) (T : Nat → ClassId) (D : va_G) (x y : Int32) : RdI l yX1_isInRange wsX1_isInRange rmX1_isInRange T xS D [.int x, .int y] [] (fun r => r = bI ((0 ≤ x ∧ x ≤ 5) ∧ kLo (Int32.toNatClampNeg x) ≤ y ∧ y ≤ kHi (Int32.toNatClampNeg x))) := by
  refine met_rz (cc := cX1_isInRange) (maxL := 2) (by decide) rfl (Nat.le_of_ble_eq_true rfl) (fun r h => bI_01 h) ?_
  intro p_ e s m args below meth c H ls Q hx hb hts hown hml hX hH hP hK hl hret
  have hl : lv_has ls 2 [(0, .int x), (1, .int y)] := hl
  obtain ⟨hX, tL, tG, hZL, hTL, hZG, hTG⟩ := hX
  refine lv_iload_n hx hb dX1_isInRange_0 rfl (lv_at hl 0 rfl) ?_
  refine callSi (As := [.int x]) ⟨hx, hb, hml, hown, hts⟩ (mX1_isSetting l T D x) (va_cwS 1 hts gX1_isInRange_X1_isSetting rfl rfl rfl (pdX1_isSetting).2 ⟨Nat.le_of_ble_eq_true rfl, Nat.le_of_ble_eq_true rfl⟩) wP_nil hK xN_bl (fun U _ hW => XN_warm hW hX) hl.1 rfl rfl (Nat.le_of_ble_eq_true rfl) dX1_isInRange_1 ⟨Nat.zero_le _, Nat.zero_le _⟩ (fun r1_ er1_ => ?_)
  obtain rfl : r1_ = bI (0 ≤ x ∧ x ≤ 5) := er1_
  refine lv_if_eq (tgt := 29) hx hb dX1_isInRange_4 (by decide) (fun c4 => ?_) (fun c4 => ?_)
  · skip
    have c4 := bI_0 c4
    refine lv_iconst (v := 0) hx hb dX1_isInRange_29 (by decide) ?_
    exact hret _ _ _ dX1_isInRange_30 (bI_f (fun z => c4 z.1))
  · skip
    have c4 := bI_n0 c4
    have hIn := c4
    obtain ⟨k, hkk, rfl⟩ := rng_of (n := 5) (by decide) c4
    refine lv_iload_n hx hb dX1_isInRange_7 rfl (lv_at hl 1 rfl) ?_
    refine va_gets hx hb hZL (by rw [hH]; exact va_S.rf) hown (hts (.fieldLink RX1 23 "PlateSlabs$Plates" "LEAST" "[I") (List.mem_of_getElem? (i := 1) rfl)) (fun _ h9 => h9) dX1_isInRange_8 ?_
    refine lv_iload_n hx hb dX1_isInRange_11 rfl (lv_at hl 0 rfl) ?_
    refine va_ti hx hb hTL (by rw [hH]; exact va_S.rf) (vp_in_nI (by omega) (by decide)) (v := .int (kLo k)) (by rw [nI_clamp (by omega)]) dX1_isInRange_12 ?_
    refine lv_icmp_lt (tgt := 29) hx hb dX1_isInRange_13 (by decide) (fun c13 => ?_) (fun c13 => ?_)
    · skip
      refine lv_iconst (v := 0) hx hb dX1_isInRange_29 (by decide) ?_
      exact hret _ _ _ dX1_isInRange_30 (by rw [nI_clamp (by omega)]; exact bI_f (fun z => absurd z.2.1 (Int32.not_le.mpr c13)))
    · skip
      refine lv_iload_n hx hb dX1_isInRange_16 rfl (lv_at hl 1 rfl) ?_
      refine va_gets hx hb hZG (by rw [hH]; exact va_S.rf) hown (hts (.fieldLink RX1 26 "PlateSlabs$Plates" "GREATEST" "[I") (List.mem_of_getElem? (i := 2) rfl)) (fun _ h9 => h9) dX1_isInRange_17 ?_
      refine lv_iload_n hx hb dX1_isInRange_20 rfl (lv_at hl 0 rfl) ?_
      refine va_ti hx hb hTG (by rw [hH]; exact va_S.rf) (vp_in_nI (by omega) (by decide)) (v := .int (kHi k)) (by rw [nI_clamp (by omega)]) dX1_isInRange_21 ?_
      refine lv_icmp_gt (tgt := 29) hx hb dX1_isInRange_22 (by decide) (fun c22 => ?_) (fun c22 => ?_)
      · skip
        refine lv_iconst (v := 0) hx hb dX1_isInRange_29 (by decide) ?_
        exact hret _ _ _ dX1_isInRange_30 (by rw [nI_clamp (by omega)]; exact bI_f (fun z => absurd z.2.2 (Int32.not_le.mpr c22)))
      · skip
        refine lv_iconst (v := 1) hx hb dX1_isInRange_25 (by decide) ?_
        refine lv_goto (tgt := 30) hx hb dX1_isInRange_26 (by decide) ?_
        exact hret _ _ _ dX1_isInRange_30 (by rw [nI_clamp (by omega)]; exact bI_t ⟨hIn, Int32.not_lt.mp c13, Int32.not_lt.mp c22⟩)

def rmX2_change : Room := { frames := 2, cells := 0, slots := 0, locals := 42 }
set_option maxHeartbeats 4000000 in
set_option maxRecDepth 100000 in
theorem mX2_change (l : Launch) (T : Nat → ClassId) (D : va_G) (b : Nat → Nat) (t : Nat → Int32) (P : Nat → Nat → Int32) (E : Nat → Nat → Int64) (hk : ∀ p, p < 4 → kOk (P p)) (x w y : Int32) : MuI l yX2_change wsX2_change rmX2_change T xS D [.ref (b 0), .int x, .int w, .int y] ([((b 0), .inr (2, [.ref (b 1), .int (t 0), .int (t 1), .int (t 2)])), ((b 1), .inl (T 3, 4, .inr (.inr (.inr (.inr ((fun i => some (b (2 + 2 * i)))))))))] ++ stT T b P E) (S := SG) (fun r u => (r, u) = oSet x w y (t, P, E)) (fun u => stW T b u.1 u.2.1 u.2.2) 0 0 := by
  refine met_mi (cc := cX2_change) (maxL := 6) (by decide) rfl (Nat.le_of_ble_eq_true rfl) ?_
  intro p_ e s m args below meth c ls A Q hx hb hts hown hml hX hP hD hK hS hA hl hret
  have hl : lv_has ls 6 [(0, .ref (b 0)), (1, .int x), (2, .int w), (3, .int y)] := hl
  obtain ⟨H, hH⟩ : ∃ H, H = s.heap := ⟨_, rfl⟩
  have hS : va_S A s.heap H [] := by rw [hH]; exact hS
  rw [← hH] at hP ⊢
  have hXS := hX
  obtain ⟨hX, -⟩ := hX
  refine lv_iload_n hx hb dX2_change_0 rfl (lv_at hl 1 rfl) ?_
  refine callNi (As := [.int x]) ⟨hx, hb, hml, hown, hts⟩ (mX5_isPair l T D x) ⟨va_cnB 1 hts gX2_change_X5_isPair_n32 rfl rfl rfl (hX.1 _ (List.mem_of_getElem? (i := 4) rfl)) (hts (.initialized RX5) (List.mem_of_getElem? (i := 4) rfl)) (pdX5_isPair).2 ⟨Nat.le_of_ble_eq_true rfl, Nat.le_of_ble_eq_true rfl⟩, (hts (.static yX5_isPair) (List.mem_of_getElem? (i := 3) rfl)), trivial⟩ wP_nil hK xN_bl (fun U _ hW => XN_warm hW hX) hl.1 rfl rfl (Nat.le_of_ble_eq_true rfl) dX2_change_1 ⟨Nat.zero_le _, Nat.zero_le _⟩ (fun r1_ er1_ => ?_)
  obtain rfl : r1_ = bI (0 ≤ x ∧ x ≤ 3) := er1_
  refine lv_if_eq (tgt := 14) hx hb dX2_change_4 (by decide) (fun c4 => ?_) (fun c4 => ?_)
  · skip
    have c4 := bI_0 c4
    refine lv_iconst (v := (-1)) hx hb dX2_change_14 (by decide) ?_
    exact hret _ _ _ (t, P, E) _ _ dX2_change_15 hS hP hD (by rw [oSet_f _ (fun z => c4 z.1)])
  · skip
    have c4 := bI_n0 c4
    obtain ⟨p, hp, rfl⟩ := pair_of c4
    refine lv_iload_n hx hb dX2_change_7 rfl (lv_at hl 2 rfl) ?_
    refine callSi (As := [.int w]) ⟨hx, hb, hml, hown, hts⟩ (mX1_isSetting l T D w) (va_cwS 1 hts gX2_change_X1_isSetting rfl rfl rfl (pdX1_isSetting).2 ⟨Nat.le_of_ble_eq_true rfl, Nat.le_of_ble_eq_true rfl⟩) wP_nil hK xN_bl (fun U _ hW => XN_warm hW hX) hl.1 rfl rfl (Nat.le_of_ble_eq_true rfl) dX2_change_8 ⟨Nat.zero_le _, Nat.zero_le _⟩ (fun r2_ er2_ => ?_)
    obtain rfl : r2_ = bI (0 ≤ w ∧ w ≤ 5) := er2_
    refine lv_if_ne (tgt := 16) hx hb dX2_change_11 (by decide) (fun c11 => ?_) (fun c11 => ?_)
    · skip
      have c11 := bI_n0 c11
      have hIn := c11
      obtain ⟨k, hkk, rfl⟩ := rng_of (n := 5) (by decide) c11
      refine lv_iload_n hx hb dX2_change_16 rfl (lv_at hl 2 rfl) ?_
      refine lv_iload_n hx hb dX2_change_17 rfl (lv_at hl 3 rfl) ?_
      refine callSi (As := [.int (nI k), .int y]) ⟨hx, hb, hml, hown, hts⟩ (mX1_isInRange l T D (nI k) y) (va_cwS 2 hts gX2_change_X1_isInRange rfl rfl rfl (pdX1_isInRange).2 ⟨Nat.le_of_ble_eq_true rfl, Nat.le_of_ble_eq_true rfl⟩) wP_nil hK xS_bl (fun U hU hW => xS_go hXS hS hU hW (fun q z => z.elim)) hl.1 rfl rfl (Nat.le_of_ble_eq_true rfl) dX2_change_18 ⟨Nat.zero_le _, Nat.zero_le _⟩ (fun r3_ er3_ => ?_)
      obtain rfl : r3_ = bI ((0 ≤ (nI k) ∧ (nI k) ≤ 5) ∧ kLo (Int32.toNatClampNeg (nI k)) ≤ y ∧ y ≤ kHi (Int32.toNatClampNeg (nI k))) := er3_
      refine lv_if_ne (tgt := 27) hx hb dX2_change_21 (by decide) (fun c21 => ?_) (fun c21 => ?_)
      · skip
        have c21 := bI_n0 c21
        have hyy : kLo k ≤ y ∧ y ≤ kHi k := by
          have z := c21.2
          rw [nI_clamp (by omega)] at z
          exact z
        refine lv_aload_n hx hb dX2_change_27 rfl (lv_at hl 0 rfl) ?_
        refine va_get (D := D) (ci := 2) (v := .ref (b 1)) (C := RX2) (T := TX2) (N := 4) hx hb hts inwX2_change_X2 hown hK hP 0 rfl rfl 0 (by decide) (hts (.fieldLink RX2 11 "PlateSlabs$State" "pairs" "[LPlateSlabs$Plates;") (List.mem_of_getElem? (i := 1) rfl)) (fun _ h9 => h9) rfl dX2_change_28 ?_
        refine lv_iload_n hx hb dX2_change_31 rfl (lv_at hl 1 rfl) ?_
        refine va_aldq hx hb hK hP 1 3 rfl rfl (vp_in_nI (by omega) (by decide)) dX2_change_32 ?_
        refine lv_tpv (congrArg (fun z => va_rf ((fun i => some (b (2 + 2 * i))) z)) (nI_clamp (by omega))) ?_
        refine lv_astore (lv' := [(4, .ref (b (2 + 2 * p))), (0, .ref (b 0)), (1, .int (nI p)), (2, .int (nI k)), (3, .int y)]) hx hb dX2_change_33 hl (by decide) rfl (fun ls hl => ?_)
        have hP0 := hP
        have hD0 := hD
        have hP : va_P D vwCl ([((b (2 + 2 * p)), .inr (1, [.ref (b (3 + 2 * p)), .int ((P p) 6), .int ((P p) 7), .int ((P p) 8), .int ((P p) 9), .long ((E p) 0), .long ((E p) 1), .long ((E p) 2)])), ((b (3 + 2 * p)), .inl (T 0, 6, .inl ((P p)))), ((b 0), .inr (2, [.ref (b 1), .int (t 0), .int (t 1), .int (t 2)])), ((b 1), .inl (T 3, 4, .inr (.inr (.inr (.inr ((fun i => some (b (2 + 2 * i)))))))))] ++ stO T b P E p) H := st_foc hp hP
        have hD : va_D A ([((b (2 + 2 * p)), .inr (1, [.ref (b (3 + 2 * p)), .int ((P p) 6), .int ((P p) 7), .int ((P p) 8), .int ((P p) 9), .long ((E p) 0), .long ((E p) 1), .long ((E p) 2)])), ((b (3 + 2 * p)), .inl (T 0, 6, .inl ((P p)))), ((b 0), .inr (2, [.ref (b 1), .int (t 0), .int (t 1), .int (t 2)])), ((b 1), .inl (T 3, 4, .inr (.inr (.inr (.inr ((fun i => some (b (2 + 2 * i)))))))))] ++ stO T b P E p) := sd_foc hp hD
        refine lv_aload hx hb dX2_change_35 (lv_at hl 0 rfl) ?_
        refine va_get (D := D) (ci := 1) (v := .ref (b (3 + 2 * p))) (C := RX1) (T := TX1) (N := 8) hx hb hts inwX2_change_X1 hown hK hP 0 rfl rfl 0 (by decide) (hts (.fieldLink RX2 43 "PlateSlabs$Plates" "settings" "[I") (List.mem_of_getElem? (i := 2) rfl)) (fun _ h9 => h9) rfl dX2_change_37 ?_
        refine lv_iload_n hx hb dX2_change_40 rfl (lv_at hl 3 rfl) ?_
        refine va_iald hx hb hK hP 1 0 rfl rfl (vp_in_nI (by omega) (by decide)) dX2_change_41 ?_
        refine lv_tpi (congrArg (fun z => (P p) z) (nI_clamp (by omega))) ?_
        refine lv_topi (fun x5_ ex5_ => ?_)
        refine lv_istore (lv' := [(5, .int x5_), (4, .ref (b (2 + 2 * p))), (0, .ref (b 0)), (1, .int (nI p)), (2, .int (nI k)), (3, .int y)]) hx hb dX2_change_42 hl (by decide) rfl (fun ls hl => ?_)
        refine lv_iload hx hb dX2_change_44 (lv_at hl 0 rfl) ?_
        refine lv_iload_n hx hb dX2_change_46 rfl (lv_at hl 5 rfl) ?_
        refine lv_icmp_ne (tgt := 53) hx hb dX2_change_47 (by decide) (fun c47 => ?_) (fun c47 => ?_)
        · skip
          refine lv_aload hx hb dX2_change_53 (lv_at hl 1 rfl) ?_
          refine va_get (D := D) (ci := 1) (v := .ref (b (3 + 2 * p))) (C := RX1) (T := TX1) (N := 8) hx hb hts inwX2_change_X1 hown hK hP 0 rfl rfl 0 (by decide) (hts (.fieldLink RX2 43 "PlateSlabs$Plates" "settings" "[I") (List.mem_of_getElem? (i := 2) rfl)) (fun _ h9 => h9) rfl dX2_change_55 ?_
          refine lv_iload_n hx hb dX2_change_58 rfl (lv_at hl 4 rfl) ?_
          refine lv_iload_n hx hb dX2_change_59 rfl (lv_at hl 5 rfl) ?_
          refine va_iast hx hb hK hP hD hS 1 0 rfl rfl (vp_in_nI (by omega) (by decide)) dX2_change_60 (fun H locs hP hD hS => ?_)
          rw [nI_clamp (show k < 2 ^ 31 by omega)] at hP hD
          have hP : va_P D vwCl ([((b (2 + 2 * p)), .inr (1, [.ref (b (3 + 2 * p)), .int ((P p) 6), .int ((P p) 7), .int ((P p) 8), .int ((P p) 9), .long ((E p) 0), .long ((E p) 1), .long ((E p) 2)])), ((b (3 + 2 * p)), .inl (T 0, 6, .inl (upd (P p) k y))), ((b 0), .inr (2, [.ref (b 1), .int (t 0), .int (t 1), .int (t 2)])), ((b 1), .inl (T 3, 4, .inr (.inr (.inr (.inr ((fun i => some (b (2 + 2 * i)))))))))] ++ stO T b P E p) H := hP
          have hD : va_D A ([((b (2 + 2 * p)), .inr (1, [.ref (b (3 + 2 * p)), .int ((P p) 6), .int ((P p) 7), .int ((P p) 8), .int ((P p) 9), .long ((E p) 0), .long ((E p) 1), .long ((E p) 2)])), ((b (3 + 2 * p)), .inl (T 0, 6, .inl (upd (P p) k y))), ((b 0), .inr (2, [.ref (b 1), .int (t 0), .int (t 1), .int (t 2)])), ((b 1), .inl (T 3, 4, .inr (.inr (.inr (.inr ((fun i => some (b (2 + 2 * i)))))))))] ++ stO T b P E p) := hD
          obtain ⟨V1, eV1⟩ : ∃ z, z = upd (P p) k y := ⟨_, rfl⟩
          have e6 : P p 6 = V1 6 := by rw [eV1]; exact (upd_n (by omega)).symm
          have e7 : P p 7 = V1 7 := by rw [eV1]; exact (upd_n (by omega)).symm
          have e8 : P p 8 = V1 8 := by rw [eV1]; exact (upd_n (by omega)).symm
          have e9 : P p 9 = V1 9 := by rw [eV1]; exact (upd_n (by omega)).symm
          rw [e6, e7, e8, e9, ← eV1] at hP hD
          have hP : va_P D vwCl ([((b (2 + 2 * p)), .inr (1, [.ref (b (3 + 2 * p)), .int (V1 6), .int (V1 7), .int (V1 8), .int (V1 9), .long ((E p) 0), .long ((E p) 1), .long ((E p) 2)])), ((b (3 + 2 * p)), .inl (T 0, 6, .inl (V1))), ((b 0), .inr (2, [.ref (b 1), .int (t 0), .int (t 1), .int (t 2)])), ((b 1), .inl (T 3, 4, .inr (.inr (.inr (.inr ((fun i => some (b (2 + 2 * i)))))))))] ++ stO T b P E p) H := hP
          have hD : va_D A ([((b (2 + 2 * p)), .inr (1, [.ref (b (3 + 2 * p)), .int (V1 6), .int (V1 7), .int (V1 8), .int (V1 9), .long ((E p) 0), .long ((E p) 1), .long ((E p) 2)])), ((b (3 + 2 * p)), .inl (T 0, 6, .inl (V1))), ((b 0), .inr (2, [.ref (b 1), .int (t 0), .int (t 1), .int (t 2)])), ((b 1), .inl (T 3, 4, .inr (.inr (.inr (.inr ((fun i => some (b (2 + 2 * i)))))))))] ++ stO T b P E p) := hD
          have hk1 : kOk V1 := by rw [eV1]; exact kOk_set (hk p hp) hkk hyy
          refine lv_aload hx hb dX2_change_61 (lv_at hl 1 rfl) ?_
          refine callMv (As := []) (wr := [((b 0), .inr (2, [.ref (b 1), .int (t 0), .int (t 1), .int (t 2)])), ((b 1), .inl (T 3, 4, .inr (.inr (.inr (.inr ((fun i => some (b (2 + 2 * i)))))))))] ++ stO T b P E p) ⟨hx, hb, hml, hown, hts⟩ (mX1_holdVoltage l T D (b (2 + 2 * p)) (b (3 + 2 * p)) V1 (E p) hk1) (cwV 0 hts gX2_change_X1_holdVoltage rfl rfl rfl pdX1_holdVoltage ⟨Nat.le_of_ble_eq_true rfl, Nat.le_of_ble_eq_true rfl⟩) hP hD hK hS hA xN_bl (fun U _ hW => XN_warm hW hX) (ci := 1) rfl rfl rfl hl.1 rfl rfl (Nat.le_of_ble_eq_true rfl) dX2_change_63 ⟨Nat.zero_le _, Nat.zero_le _⟩ (fun u5_ H locs eu5_ hP hD hS hkf => ?_)
          obtain ⟨V3, eV3⟩ : ∃ z : Nat → Int32, z = kHoldP V1 := ⟨_, rfl⟩
          obtain ⟨G3, eG3⟩ : ∃ z : Nat → Int64, z = kHoldE V1 (E p) := ⟨_, rfl⟩
          rw [← eV3, ← eG3] at hP hD
          have hP : va_P D vwCl ([((b (2 + 2 * p)), .inr (1, [.ref (b (3 + 2 * p)), .int (V3 6), .int (V3 7), .int (V3 8), .int (V3 9), .long (G3 0), .long (G3 1), .long (G3 2)])), ((b (3 + 2 * p)), .inl (T 0, 6, .inl (V3))), ((b 0), .inr (2, [.ref (b 1), .int (t 0), .int (t 1), .int (t 2)])), ((b 1), .inl (T 3, 4, .inr (.inr (.inr (.inr ((fun i => some (b (2 + 2 * i)))))))))] ++ stO T b P E p) H := hP
          have hD : va_D A ([((b (2 + 2 * p)), .inr (1, [.ref (b (3 + 2 * p)), .int (V3 6), .int (V3 7), .int (V3 8), .int (V3 9), .long (G3 0), .long (G3 1), .long (G3 2)])), ((b (3 + 2 * p)), .inl (T 0, 6, .inl (V3))), ((b 0), .inr (2, [.ref (b 1), .int (t 0), .int (t 1), .int (t 2)])), ((b 1), .inl (T 3, 4, .inr (.inr (.inr (.inr ((fun i => some (b (2 + 2 * i)))))))))] ++ stO T b P E p) := hD
          refine lv_iload hx hb dX2_change_66 (lv_at hl 0 rfl) ?_
          have hP := st_unf hp hP
          have hD := sd_unf hp hD
          exact hret _ _ _ (t, (va_up P p V3), (va_up E p G3)) _ _ dX2_change_68 hS hP hD (by rw [oSet_t hp hkk _ hyy, oLay, if_neg (fun z => c47 (ex5_.trans z)), eV3, eG3, eV1, ex5_])
        · skip
          refine lv_bipush (v := (-5)) hx hb dX2_change_50 (by decide) ?_
          exact hret _ _ _ (t, P, E) _ _ dX2_change_52 hS hP0 hD0 (by rw [oSet_t hp hkk _ hyy, oLay, if_pos (ex5_.symm.trans c47)])
      · skip
        have c21 := bI_0 c21
        have hyy : ¬ (kLo k ≤ y ∧ y ≤ kHi k) := fun z => c21 ⟨hIn, by rw [nI_clamp (by omega)]; exact z⟩
        refine lv_bipush (v := (-2)) hx hb dX2_change_24 (by decide) ?_
        exact hret _ _ _ (t, P, E) _ _ dX2_change_26 hS hP hD (by rw [oSet_b hp hkk _ hyy])
    · skip
      have c11 := bI_0 c11
      refine lv_iconst (v := (-1)) hx hb dX2_change_14 (by decide) ?_
      exact hret _ _ _ (t, P, E) _ _ dX2_change_15 hS hP hD (by rw [oSet_f _ (fun z => c11 z.2)])
