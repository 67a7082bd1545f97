theorem pdX5_count : yX5_count.cls = RX5 ∧ yX5_count.cls ≠ "java/lang/invoke/MethodHandle" ∧ yX5_count.cls ≠ "java/lang/invoke/VarHandle" ∧ (parseMethodDescriptor yX5_count.desc).map (fun d => d.parameters.length) = some 1 := by decide +kernel
theorem inwX5_count_X5 : ∀ w ∈ wsX50, w ∈ wsX5_count := by decide +kernel
theorem inwX5_count_X2 : ∀ w ∈ wsX20, w ∈ wsX5_count := by decide +kernel
theorem inwX5_count_X0 : ∀ w ∈ wsX00, w ∈ wsX5_count := by decide +kernel
theorem inwX5_count_X4 : ∀ w ∈ wsX40, w ∈ wsX5_count := by decide +kernel
theorem inwX5_count_X3 : ∀ w ∈ wsX30, w ∈ wsX5_count := by decide +kernel
theorem inwX5_count_X1 : ∀ w ∈ wsX10, w ∈ wsX5_count := by decide +kernel
theorem not_out {w : Int32} (c : ¬ w < 1) (c2 : ¬ 6 < w) : ¬ (w.toInt < 0 ∨ 10 < w.toInt) := by
  rw [fa_lt, i_1] at c
  rw [fa_lt, show (6 : Int32).toInt = 6 by decide] at c2
  omega
def rmX5_count : Room := { frames := 6, cells := 0, slots := 0, locals := 132 }
set_option maxHeartbeats 4000000 in
set_option maxRecDepth 100000 in
theorem mX5_count (l : Launch) (T : Nat → ClassId) (D : va_G) (z x2 x3 xa : Nat) (k0 k1 k2 k3 : Int32) (b : Nat → Nat) (t : Nat → Int32) (P : Nat → Nat → Int32) (E : Nat → Nat → Int64) (hk : ∀ p, p < 4 → kOk (P p)) (h y : Nat → Nat) (n len : Nat) (w0 : Nat → Int32) (w : Int32) : RdI l yX5_count wsX5_count rmX5_count T xN D [.ref z, .int w] ([(z, .inr (5, [.ref (b 0), .ref x2, .ref x3, .int k0, .ref (h 0), .ref xa, .ref (y 0), .int k1, .int k2, .int k3])), ((b 0), .inr (2, [.ref (b 1), .int (t 0), .int (t 1), .int (t 2)])), ((b 1), .inl (T 3, 4, .inr (.inr (.inr (.inr ((fun i => some (b (2 + 2 * i))))))))), ((h 0), .inr (0, [.ref (h 1), .int (nI n)])), ((y 0), .inr (4, [.ref (y 4), .ref (y 1), .ref (y 2), .ref (y 3), .int (w0 0), .int (w0 1), .int (w0 2), .int (w0 3)])), ((y 4), .inr (3, [.ref (y 5), .int (nI len)]))] ++ stT T b P E) (fun r => r = tC t P (nI n) (nI len) w) := by
  refine met_ri (cc := cX5_count) (maxL := 2) (by decide) rfl (Nat.le_of_ble_eq_true rfl) ?_
  intro p_ e s m args below meth c H ls Q hx hb hts hown hml hX hH hP hK hl hret
  have hl : lv_has ls 2 [(0, .ref z), (1, .int w)] := hl
  refine lv_iload_n hx hb dX5_count_0 rfl (lv_at hl 1 rfl) ?_
  rcases sw_0_10 w with hw | hw | hw | hw | hw | hw | hw | hw | hw | hw | hw | hw
  · skip
    refine lv_tableOut (tgt := 103) hx hb dX5_count_1 hw (by decide) ?_
    refine lv_iload_n hx hb dX5_count_103 rfl (lv_at hl 1 rfl) ?_
    refine lv_iconst (v := 1) hx hb dX5_count_104 (by decide) ?_
    refine lv_icmp_lt (tgt := 122) hx hb dX5_count_105 (by decide) (fun c105 => ?_) (fun c105 => ?_)
    · skip
      refine lv_bipush (v := (-2)) hx hb dX5_count_122 (by decide) ?_
      exact hret _ _ _ dX5_count_124 (tC_def hw).symm
    · skip
      refine lv_iload_n hx hb dX5_count_108 rfl (lv_at hl 1 rfl) ?_
      refine lv_bipush (v := 6) hx hb dX5_count_109 (by decide) ?_
      refine lv_icmp_gt (tgt := 122) hx hb dX5_count_111 (by decide) (fun c111 => ?_) (fun c111 => ?_)
      · skip
        refine lv_bipush (v := (-2)) hx hb dX5_count_122 (by decide) ?_
        exact hret _ _ _ dX5_count_124 (tC_def hw).symm
      · skip
        exact absurd hw (not_out c105 c111)
  · skip
    subst hw
    refine lv_tableIn (off := 59) (tgt := 60) hx hb dX5_count_1 (by decide) (by decide) (by decide) (by decide) ?_
    refine lv_aload_n hx hb dX5_count_60 rfl (lv_at hl 0 rfl) ?_
    refine va_get (D := D) (ci := 5) (v := .ref (b 0)) (C := RX5) (T := TX5) (N := 10) hx hb hts inwX5_count_X5 hown hK hP 0 rfl rfl 0 (by decide) (hts (.fieldLink RX5 10 "PlateSlabs" "now" "LPlateSlabs$State;") (List.mem_of_getElem? (i := 1) rfl)) (fun _ h9 => h9) rfl dX5_count_61 ?_
    refine va_get (D := D) (ci := 2) (v := .int (t 0)) (C := RX2) (T := TX2) (N := 4) hx hb hts inwX5_count_X2 hown hK hP 1 rfl rfl 1 (by decide) (hts (.fieldLink RX5 128 "PlateSlabs$State" "tick" "I") (List.mem_of_getElem? (i := 2) rfl)) (fun _ h9 => h9) rfl dX5_count_64 ?_
    exact hret _ _ _ dX5_count_67 rfl
  · skip
    subst hw
    refine lv_tableIn (off := 102) (tgt := 103) hx hb dX5_count_1 (by decide) (by decide) (by decide) (by decide) ?_
    refine lv_iload_n hx hb dX5_count_103 rfl (lv_at hl 1 rfl) ?_
    refine lv_iconst (v := 1) hx hb dX5_count_104 (by decide) ?_
    refine lv_icmp_lt (tgt := 122) hx hb dX5_count_105 (by decide) (fun c105 => ?_) (fun c105 => ?_)
    · skip
      exact absurd c105 (by decide)
    · skip
      refine lv_iload_n hx hb dX5_count_108 rfl (lv_at hl 1 rfl) ?_
      refine lv_bipush (v := 6) hx hb dX5_count_109 (by decide) ?_
      refine lv_icmp_gt (tgt := 122) hx hb dX5_count_111 (by decide) (fun c111 => ?_) (fun c111 => ?_)
      · skip
        exact absurd c111 (by decide)
      · skip
        refine lv_aload_n hx hb dX5_count_114 rfl (lv_at hl 0 rfl) ?_
        refine lv_iload_n hx hb dX5_count_115 rfl (lv_at hl 1 rfl) ?_
        refine callRi (As := [.int 1]) ⟨hx, hb, hml, hown, hts⟩ (mX5_sumOfPairs l T D z x2 x3 (h 0) xa (y 0) k0 k1 k2 k3 b t P E hk 1) (cwV 1 hts gX5_count_X5_sumOfPairs rfl rfl rfl pdX5_sumOfPairs ⟨Nat.le_of_ble_eq_true rfl, Nat.le_of_ble_eq_true rfl⟩) (hP.sub [0, 1, 2, 6, 7, 8, 9, 10, 11, 12, 13] rfl) hK xN_bl (fun U _ hW => XN_warm hW hX) (ci := 5) rfl rfl rfl hl.1 rfl rfl (Nat.le_of_ble_eq_true rfl) dX5_count_116 ⟨Nat.zero_le _, Nat.zero_le _⟩ (fun r1_ er1_ => ?_)
        obtain rfl : r1_ = cSum P 1 4 := er1_
        refine lv_goto (tgt := 124) hx hb dX5_count_119 (by decide) ?_
        exact hret _ _ _ dX5_count_124 rfl
  · skip
    subst hw
    refine lv_tableIn (off := 102) (tgt := 103) hx hb dX5_count_1 (by decide) (by decide) (by decide) (by decide) ?_
    refine lv_iload_n hx hb dX5_count_103 rfl (lv_at hl 1 rfl) ?_
    refine lv_iconst (v := 1) hx hb dX5_count_104 (by decide) ?_
    refine lv_icmp_lt (tgt := 122) hx hb dX5_count_105 (by decide) (fun c105 => ?_) (fun c105 => ?_)
    · skip
      exact absurd c105 (by decide)
    · skip
      refine lv_iload_n hx hb dX5_count_108 rfl (lv_at hl 1 rfl) ?_
      refine lv_bipush (v := 6) hx hb dX5_count_109 (by decide) ?_
      refine lv_icmp_gt (tgt := 122) hx hb dX5_count_111 (by decide) (fun c111 => ?_) (fun c111 => ?_)
      · skip
        exact absurd c111 (by decide)
      · skip
        refine lv_aload_n hx hb dX5_count_114 rfl (lv_at hl 0 rfl) ?_
        refine lv_iload_n hx hb dX5_count_115 rfl (lv_at hl 1 rfl) ?_
        refine callRi (As := [.int 2]) ⟨hx, hb, hml, hown, hts⟩ (mX5_sumOfPairs l T D z x2 x3 (h 0) xa (y 0) k0 k1 k2 k3 b t P E hk 2) (cwV 1 hts gX5_count_X5_sumOfPairs rfl rfl rfl pdX5_sumOfPairs ⟨Nat.le_of_ble_eq_true rfl, Nat.le_of_ble_eq_true rfl⟩) (hP.sub [0, 1, 2, 6, 7, 8, 9, 10, 11, 12, 13] rfl) hK xN_bl (fun U _ hW => XN_warm hW hX) (ci := 5) rfl rfl rfl hl.1 rfl rfl (Nat.le_of_ble_eq_true rfl) dX5_count_116 ⟨Nat.zero_le _, Nat.zero_le _⟩ (fun r2_ er2_ => ?_)
        obtain rfl : r2_ = cSum P 2 4 := er2_
        refine lv_goto (tgt := 124) hx hb dX5_count_119 (by decide) ?_
        exact hret _ _ _ dX5_count_124 rfl
  · skip
    subst hw
    refine lv_tableIn (off := 102) (tgt := 103) hx hb dX5_count_1 (by decide) (by decide) (by decide) (by decide) ?_
    refine lv_iload_n hx hb dX5_count_103 rfl (lv_at hl 1 rfl) ?_
    refine lv_iconst (v := 1) hx hb dX5_count_104 (by decide) ?_
    refine lv_icmp_lt (tgt := 122) hx hb dX5_count_105 (by decide) (fun c105 => ?_) (fun c105 => ?_)
    · skip
      exact absurd c105 (by decide)
    · skip
      refine lv_iload_n hx hb dX5_count_108 rfl (lv_at hl 1 rfl) ?_
      refine lv_bipush (v := 6) hx hb dX5_count_109 (by decide) ?_
      refine lv_icmp_gt (tgt := 122) hx hb dX5_count_111 (by decide) (fun c111 => ?_) (fun c111 => ?_)
      · skip
        exact absurd c111 (by decide)
      · skip
        refine lv_aload_n hx hb dX5_count_114 rfl (lv_at hl 0 rfl) ?_
        refine lv_iload_n hx hb dX5_count_115 rfl (lv_at hl 1 rfl) ?_
        refine callRi (As := [.int 3]) ⟨hx, hb, hml, hown, hts⟩ (mX5_sumOfPairs l T D z x2 x3 (h 0) xa (y 0) k0 k1 k2 k3 b t P E hk 3) (cwV 1 hts gX5_count_X5_sumOfPairs rfl rfl rfl pdX5_sumOfPairs ⟨Nat.le_of_ble_eq_true rfl, Nat.le_of_ble_eq_true rfl⟩) (hP.sub [0, 1, 2, 6, 7, 8, 9, 10, 11, 12, 13] rfl) hK xN_bl (fun U _ hW => XN_warm hW hX) (ci := 5) rfl rfl rfl hl.1 rfl rfl (Nat.le_of_ble_eq_true rfl) dX5_count_116 ⟨Nat.zero_le _, Nat.zero_le _⟩ (fun r3_ er3_ => ?_)
        obtain rfl : r3_ = cSum P 3 4 := er3_
        refine lv_goto (tgt := 124) hx hb dX5_count_119 (by decide) ?_
        exact hret _ _ _ dX5_count_124 rfl
  · skip
    subst hw
    refine lv_tableIn (off := 102) (tgt := 103) hx hb dX5_count_1 (by decide) (by decide) (by decide) (by decide) ?_
    refine lv_iload_n hx hb dX5_count_103 rfl (lv_at hl 1 rfl) ?_
    refine lv_iconst (v := 1) hx hb dX5_count_104 (by decide) ?_
    refine lv_icmp_lt (tgt := 122) hx hb dX5_count_105 (by decide) (fun c105 => ?_) (fun c105 => ?_)
    · skip
      exact absurd c105 (by decide)
    · skip
      refine lv_iload_n hx hb dX5_count_108 rfl (lv_at hl 1 rfl) ?_
      refine lv_bipush (v := 6) hx hb dX5_count_109 (by decide) ?_
      refine lv_icmp_gt (tgt := 122) hx hb dX5_count_111 (by decide) (fun c111 => ?_) (fun c111 => ?_)
      · skip
        exact absurd c111 (by decide)
      · skip
        refine lv_aload_n hx hb dX5_count_114 rfl (lv_at hl 0 rfl) ?_
        refine lv_iload_n hx hb dX5_count_115 rfl (lv_at hl 1 rfl) ?_
        refine callRi (As := [.int 4]) ⟨hx, hb, hml, hown, hts⟩ (mX5_sumOfPairs l T D z x2 x3 (h 0) xa (y 0) k0 k1 k2 k3 b t P E hk 4) (cwV 1 hts gX5_count_X5_sumOfPairs rfl rfl rfl pdX5_sumOfPairs ⟨Nat.le_of_ble_eq_true rfl, Nat.le_of_ble_eq_true rfl⟩) (hP.sub [0, 1, 2, 6, 7, 8, 9, 10, 11, 12, 13] rfl) hK xN_bl (fun U _ hW => XN_warm hW hX) (ci := 5) rfl rfl rfl hl.1 rfl rfl (Nat.le_of_ble_eq_true rfl) dX5_count_116 ⟨Nat.zero_le _, Nat.zero_le _⟩ (fun r4_ er4_ => ?_)
        obtain rfl : r4_ = cSum P 4 4 := er4_
        refine lv_goto (tgt := 124) hx hb dX5_count_119 (by decide) ?_
        exact hret _ _ _ dX5_count_124 rfl
  · skip
    subst hw
    refine lv_tableIn (off := 102) (tgt := 103) hx hb dX5_count_1 (by decide) (by decide) (by decide) (by decide) ?_
    refine lv_iload_n hx hb dX5_count_103 rfl (lv_at hl 1 rfl) ?_
    refine lv_iconst (v := 1) hx hb dX5_count_104 (by decide) ?_
    refine lv_icmp_lt (tgt := 122) hx hb dX5_count_105 (by decide) (fun c105 => ?_) (fun c105 => ?_)
    · skip
      exact absurd c105 (by decide)
    · skip
      refine lv_iload_n hx hb dX5_count_108 rfl (lv_at hl 1 rfl) ?_
      refine lv_bipush (v := 6) hx hb dX5_count_109 (by decide) ?_
      refine lv_icmp_gt (tgt := 122) hx hb dX5_count_111 (by decide) (fun c111 => ?_) (fun c111 => ?_)
      · skip
        exact absurd c111 (by decide)
      · skip
        refine lv_aload_n hx hb dX5_count_114 rfl (lv_at hl 0 rfl) ?_
        refine lv_iload_n hx hb dX5_count_115 rfl (lv_at hl 1 rfl) ?_
        refine callRi (As := [.int 5]) ⟨hx, hb, hml, hown, hts⟩ (mX5_sumOfPairs l T D z x2 x3 (h 0) xa (y 0) k0 k1 k2 k3 b t P E hk 5) (cwV 1 hts gX5_count_X5_sumOfPairs rfl rfl rfl pdX5_sumOfPairs ⟨Nat.le_of_ble_eq_true rfl, Nat.le_of_ble_eq_true rfl⟩) (hP.sub [0, 1, 2, 6, 7, 8, 9, 10, 11, 12, 13] rfl) hK xN_bl (fun U _ hW => XN_warm hW hX) (ci := 5) rfl rfl rfl hl.1 rfl rfl (Nat.le_of_ble_eq_true rfl) dX5_count_116 ⟨Nat.zero_le _, Nat.zero_le _⟩ (fun r5_ er5_ => ?_)
        obtain rfl : r5_ = cSum P 5 4 := er5_
        refine lv_goto (tgt := 124) hx hb dX5_count_119 (by decide) ?_
        exact hret _ _ _ dX5_count_124 rfl
  · skip
    subst hw
    refine lv_tableIn (off := 102) (tgt := 103) hx hb dX5_count_1 (by decide) (by decide) (by decide) (by decide) ?_
    refine lv_iload_n hx hb dX5_count_103 rfl (lv_at hl 1 rfl) ?_
    refine lv_iconst (v := 1) hx hb dX5_count_104 (by decide) ?_
    refine lv_icmp_lt (tgt := 122) hx hb dX5_count_105 (by decide) (fun c105 => ?_) (fun c105 => ?_)
    · skip
      exact absurd c105 (by decide)
    · skip
      refine lv_iload_n hx hb dX5_count_108 rfl (lv_at hl 1 rfl) ?_
      refine lv_bipush (v := 6) hx hb dX5_count_109 (by decide) ?_
      refine lv_icmp_gt (tgt := 122) hx hb dX5_count_111 (by decide) (fun c111 => ?_) (fun c111 => ?_)
      · skip
        exact absurd c111 (by decide)
      · skip
        refine lv_aload_n hx hb dX5_count_114 rfl (lv_at hl 0 rfl) ?_
        refine lv_iload_n hx hb dX5_count_115 rfl (lv_at hl 1 rfl) ?_
        refine callRi (As := [.int 6]) ⟨hx, hb, hml, hown, hts⟩ (mX5_sumOfPairs l T D z x2 x3 (h 0) xa (y 0) k0 k1 k2 k3 b t P E hk 6) (cwV 1 hts gX5_count_X5_sumOfPairs rfl rfl rfl pdX5_sumOfPairs ⟨Nat.le_of_ble_eq_true rfl, Nat.le_of_ble_eq_true rfl⟩) (hP.sub [0, 1, 2, 6, 7, 8, 9, 10, 11, 12, 13] rfl) hK xN_bl (fun U _ hW => XN_warm hW hX) (ci := 5) rfl rfl rfl hl.1 rfl rfl (Nat.le_of_ble_eq_true rfl) dX5_count_116 ⟨Nat.zero_le _, Nat.zero_le _⟩ (fun r6_ er6_ => ?_)
        obtain rfl : r6_ = cSum P 6 4 := er6_
        refine lv_goto (tgt := 124) hx hb dX5_count_119 (by decide) ?_
        exact hret _ _ _ dX5_count_124 rfl
  · skip
    subst hw
    refine lv_tableIn (off := 67) (tgt := 68) hx hb dX5_count_1 (by decide) (by decide) (by decide) (by decide) ?_
    refine lv_aload_n hx hb dX5_count_68 rfl (lv_at hl 0 rfl) ?_
    refine va_get (D := D) (ci := 5) (v := .ref (b 0)) (C := RX5) (T := TX5) (N := 10) hx hb hts inwX5_count_X5 hown hK hP 0 rfl rfl 0 (by decide) (hts (.fieldLink RX5 10 "PlateSlabs" "now" "LPlateSlabs$State;") (List.mem_of_getElem? (i := 1) rfl)) (fun _ h9 => h9) rfl dX5_count_69 ?_
    refine va_get (D := D) (ci := 2) (v := .int (t 1)) (C := RX2) (T := TX2) (N := 4) hx hb hts inwX5_count_X2 hown hK hP 1 rfl rfl 2 (by decide) (hts (.fieldLink RX5 213 "PlateSlabs$State" "couplings" "I") (List.mem_of_getElem? (i := 3) rfl)) (fun _ h9 => h9) rfl dX5_count_72 ?_
    exact hret _ _ _ dX5_count_75 rfl
  · skip
    subst hw
    refine lv_tableIn (off := 75) (tgt := 76) hx hb dX5_count_1 (by decide) (by decide) (by decide) (by decide) ?_
    refine lv_aload_n hx hb dX5_count_76 rfl (lv_at hl 0 rfl) ?_
    refine va_get (D := D) (ci := 5) (v := .ref (b 0)) (C := RX5) (T := TX5) (N := 10) hx hb hts inwX5_count_X5 hown hK hP 0 rfl rfl 0 (by decide) (hts (.fieldLink RX5 10 "PlateSlabs" "now" "LPlateSlabs$State;") (List.mem_of_getElem? (i := 1) rfl)) (fun _ h9 => h9) rfl dX5_count_77 ?_
    refine va_get (D := D) (ci := 2) (v := .int (t 2)) (C := RX2) (T := TX2) (N := 4) hx hb hts inwX5_count_X2 hown hK hP 1 rfl rfl 3 (by decide) (hts (.fieldLink RX5 216 "PlateSlabs$State" "steps" "I") (List.mem_of_getElem? (i := 4) rfl)) (fun _ h9 => h9) rfl dX5_count_80 ?_
    exact hret _ _ _ dX5_count_83 rfl
  · skip
    subst hw
    refine lv_tableIn (off := 83) (tgt := 84) hx hb dX5_count_1 (by decide) (by decide) (by decide) (by decide) ?_
    refine lv_aload_n hx hb dX5_count_84 rfl (lv_at hl 0 rfl) ?_
    refine va_get (D := D) (ci := 5) (v := .ref (h 0)) (C := RX5) (T := TX5) (N := 10) hx hb hts inwX5_count_X5 hown hK hP 0 rfl rfl 4 (by decide) (hts (.fieldLink RX5 25 "PlateSlabs" "history" "LPlateSlabs$History;") (List.mem_of_getElem? (i := 5) rfl)) (fun _ h9 => h9) rfl dX5_count_85 ?_
    refine va_get (D := D) (ci := 0) (v := .int (nI n)) (C := RX0) (T := TX0) (N := 2) hx hb hts inwX5_count_X0 hown hK hP 3 rfl rfl 1 (by decide) (hts (.fieldLink RX5 219 "PlateSlabs$History" "size" "I") (List.mem_of_getElem? (i := 6) rfl)) (fun _ h9 => h9) rfl dX5_count_88 ?_
    exact hret _ _ _ dX5_count_91 rfl
  · skip
    subst hw
    refine lv_tableIn (off := 91) (tgt := 92) hx hb dX5_count_1 (by decide) (by decide) (by decide) (by decide) ?_
    refine lv_aload_n hx hb dX5_count_92 rfl (lv_at hl 0 rfl) ?_
    refine va_get (D := D) (ci := 5) (v := .ref (y 0)) (C := RX5) (T := TX5) (N := 10) hx hb hts inwX5_count_X5 hown hK hP 0 rfl rfl 6 (by decide) (hts (.fieldLink RX5 39 "PlateSlabs" "trial" "LPlateSlabs$Trial;") (List.mem_of_getElem? (i := 7) rfl)) (fun _ h9 => h9) rfl dX5_count_93 ?_
    refine va_get (D := D) (ci := 4) (v := .ref (y 4)) (C := RX4) (T := TX4) (N := 8) hx hb hts inwX5_count_X4 hown hK hP 4 rfl rfl 0 (by decide) (hts (.fieldLink RX5 74 "PlateSlabs$Trial" "text" "LPlateSlabs$Text;") (List.mem_of_getElem? (i := 8) rfl)) (fun _ h9 => h9) rfl dX5_count_96 ?_
    refine va_get (D := D) (ci := 3) (v := .int (nI len)) (C := RX3) (T := TX3) (N := 2) hx hb hts inwX5_count_X3 hown hK hP 5 rfl rfl 1 (by decide) (hts (.fieldLink RX5 222 "PlateSlabs$Text" "length" "I") (List.mem_of_getElem? (i := 9) rfl)) (fun _ h9 => h9) rfl dX5_count_99 ?_
    exact hret _ _ _ dX5_count_102 rfl
