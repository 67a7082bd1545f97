theorem pdX5_leastVoltage : yX5_leastVoltage.cls = RX5 ∧ yX5_leastVoltage.cls ≠ "java/lang/invoke/MethodHandle" ∧ yX5_leastVoltage.cls ≠ "java/lang/invoke/VarHandle" ∧ (parseMethodDescriptor yX5_leastVoltage.desc).map (fun d => d.parameters.length) = some 1 := by decide +kernel
theorem pdX5_drawingVoltage : yX5_drawingVoltage.cls = RX5 ∧ yX5_drawingVoltage.cls ≠ "java/lang/invoke/MethodHandle" ∧ yX5_drawingVoltage.cls ≠ "java/lang/invoke/VarHandle" ∧ (parseMethodDescriptor yX5_drawingVoltage.desc).map (fun d => d.parameters.length) = some 1 := by decide +kernel
theorem inwX5_leastVoltage_X5 : ∀ w ∈ wsX50, w ∈ wsX5_leastVoltage := by decide +kernel
theorem inwX5_leastVoltage_X2 : ∀ w ∈ wsX20, w ∈ wsX5_leastVoltage := by decide +kernel
theorem inwX5_leastVoltage_X1 : ∀ w ∈ wsX10, w ∈ wsX5_leastVoltage := by decide +kernel
theorem inwX5_drawingVoltage_X5 : ∀ w ∈ wsX50, w ∈ wsX5_drawingVoltage := by decide +kernel
theorem inwX5_drawingVoltage_X2 : ∀ w ∈ wsX20, w ∈ wsX5_drawingVoltage := by decide +kernel
theorem inwX5_drawingVoltage_X1 : ∀ w ∈ wsX10, w ∈ wsX5_drawingVoltage := by decide +kernel
def rmX5_leastVoltage : Room := { frames := 2, cells := 0, slots := 0, locals := 43 }
set_option maxHeartbeats 4000000 in
set_option maxRecDepth 100000 in
theorem mX5_leastVoltage (l : Launch) (T : Nat → ClassId) (D : va_G) (z x2 x3 xh xa xy : Nat) (k0 k1 k2 k3 : Int32) (b : Nat → Nat) (t : Nat → Int32) (P : Nat → Nat → Int32) (E : Nat → Nat → Int64) (hk : ∀ p, p < 4 → kOk (P p)) (x : Int32) : RdI l yX5_leastVoltage wsX5_leastVoltage rmX5_leastVoltage T xN D [.ref z, .int x] ([(z, .inr (5, [.ref (b 0), .ref x2, .ref x3, .int k0, .ref xh, .ref xa, .ref xy, .int k1, .int k2, .int k3])), ((b 0), .inr (2, [.ref (b 1), .int (t 0), .int (t 1), .int (t 2)])), ((b 1), .inl (T 3, 4, .inr (.inr (.inr (.inr ((fun i => some (b (2 + 2 * i)))))))))] ++ stT T b P E) (fun r => r = sP x (fun p => kLv (P p)) (-1)) := by
  refine met_ri (cc := cX5_leastVoltage) (maxL := 4) (by decide) rfl (Nat.le_of_ble_eq_true rfl) ?_
  intro p_ e s m args below meth c H ls Q hx hb hts hown hml hX hH hP hK hl hret
  have hl : lv_has ls 4 [(0, .ref z), (1, .int x)] := hl
  refine lv_iload_n hx hb dX5_leastVoltage_0 rfl (lv_at hl 1 rfl) ?_
  refine callSi (As := [.int x]) ⟨hx, hb, hml, hown, hts⟩ (mX5_isPair l T D x) (va_cwS 1 hts gX5_leastVoltage_X5_isPair rfl rfl rfl (pdX5_isPair).2 ⟨Nat.le_of_ble_eq_true rfl, Nat.le_of_ble_eq_true rfl⟩) wP_nil hK xN_bl (fun U _ hW => XN_warm hW hX) hl.1 rfl rfl (Nat.le_of_ble_eq_true rfl) dX5_leastVoltage_1 ⟨Nat.zero_le _, Nat.zero_le _⟩ (fun r1_ er1_ => ?_)
  obtain rfl : r1_ = bI (0 ≤ x ∧ x ≤ 3) := er1_
  refine lv_if_ne (tgt := 9) hx hb dX5_leastVoltage_4 (by decide) (fun c4 => ?_) (fun c4 => ?_)
  · skip
    have c4 := bI_n0 c4
    obtain ⟨p, hp, rfl⟩ := pair_of c4
    refine lv_aload_n hx hb dX5_leastVoltage_9 rfl (lv_at hl 0 rfl) ?_
    refine va_get (D := D) (ci := 5) (v := .ref (b 0)) (C := RX5) (T := TX5) (N := 10) hx hb hts inwX5_leastVoltage_X5 hown hK hP 0 rfl rfl 0 (by decide) (hts (.fieldLink RX5 10 "PlateSlabs" "now" "LPlateSlabs$State;") (List.mem_of_getElem? (i := 1) rfl)) (fun _ h9 => h9) rfl dX5_leastVoltage_10 ?_
    refine va_get (D := D) (ci := 2) (v := .ref (b 1)) (C := RX2) (T := TX2) (N := 4) hx hb hts inwX5_leastVoltage_X2 hown hK hP 1 rfl rfl 0 (by decide) (hts (.fieldLink RX5 135 "PlateSlabs$State" "pairs" "[LPlateSlabs$Plates;") (List.mem_of_getElem? (i := 2) rfl)) (fun _ h9 => h9) rfl dX5_leastVoltage_13 ?_
    refine lv_iload_n hx hb dX5_leastVoltage_16 rfl (lv_at hl 1 rfl) ?_
    refine va_aldq hx hb hK hP 2 3 rfl rfl (vp_in_nI (by omega) (by decide)) dX5_leastVoltage_17 ?_
    refine lv_tpv (congrArg (fun z => va_rf ((fun i => some (b (2 + 2 * i))) z)) (nI_clamp (by omega))) ?_
    refine lv_astore_n (lv' := [(2, .ref (b (2 + 2 * p))), (0, .ref z), (1, .int (nI p))]) hx hb dX5_leastVoltage_18 rfl hl (by decide) rfl (fun ls hl => ?_)
    have hP : va_P D vwCl ([((b (2 + 2 * p)), .inr (1, [.ref (b (3 + 2 * p)), .int ((P p) 6), .int ((P p) 7), .int ((P p) 8), .int ((P p) 9), .long ((E p) 0), .long ((E p) 1), .long ((E p) 2)])), ((b (3 + 2 * p)), .inl (T 0, 6, .inl ((P p)))), ((b 0), .inr (2, [.ref (b 1), .int (t 0), .int (t 1), .int (t 2)])), ((b 1), .inl (T 3, 4, .inr (.inr (.inr (.inr ((fun i => some (b (2 + 2 * i)))))))))] ++ stO T b P E p) H := st_foc hp (wP_right (w1 := [_]) hP)
    refine lv_iconst (v := nI 0) hx hb dX5_leastVoltage_19 (by decide) ?_
    refine lv_istore_n (lv' := [(3, .int (nI 0)), (2, .ref (b (2 + 2 * p))), (0, .ref z), (1, .int (nI p))]) hx hb dX5_leastVoltage_20 rfl hl (by decide) rfl (fun ls hl => ?_)
    have loop : ∀ (j : Nat) (i : Nat) (ls : Array Slot), (32 ≤ i + j) → (i ≤ 31) → (kLv (P p) = kFirst (fun v => decide (kMove (P p) (P p 6) (kPullBy (P p) (nI v) - kSpring (P p) (P p 6)) = 1)) (31 - i) i) → lv_has ls 4 [(0, .ref z), (1, .int (nI p)), (2, .ref (b (2 + 2 * p))), (3, .int (nI i))] → W p_ l e rmX5_leastVoltage s m args below meth c H [] 0 0 Q (F0 m 21 ls []) := by
      intro j
      induction j with
      | zero => intro i ls hm hi; exact absurd hm (by omega)
      | succ j ih =>
        intro i ls hm hi ef hl
        refine lv_iload_n hx hb dX5_leastVoltage_21 rfl (lv_at hl 3 rfl) ?_
        refine lv_bipush (v := 30) hx hb dX5_leastVoltage_22 (by decide) ?_
        refine lv_icmp_gt (tgt := 47) hx hb dX5_leastVoltage_24 (by decide) (fun c24 => ?_) (fun c24 => ?_)
        · skip
          have ei : i = 31 := by
            have := mt (nI_leI (a := i) (b := 30) (by omega) (by decide)).mpr (Int32.not_le.mpr c24)
            omega
          refine lv_bipush (v := (-5)) hx hb dX5_leastVoltage_47 (by decide) ?_
          exact hret _ _ _ dX5_leastVoltage_49 (by rw [sP_t hp, ef, ei]; rfl)
        · skip
          have hi2 : i ≤ 30 := (nI_leI (by omega) (by decide)).mp (Int32.not_lt.mp c24)
          refine lv_aload_n hx hb dX5_leastVoltage_27 rfl (lv_at hl 2 rfl) ?_
          refine lv_aload_n hx hb dX5_leastVoltage_28 rfl (lv_at hl 2 rfl) ?_
          refine va_get (D := D) (ci := 1) (v := .int ((P p) 6)) (C := RX1) (T := TX1) (N := 8) hx hb hts inwX5_leastVoltage_X1 hown hK hP 0 rfl rfl 1 (by decide) (hts (.fieldLink RX5 146 "PlateSlabs$Plates" "depth" "I") (List.mem_of_getElem? (i := 3) rfl)) (fun _ h9 => h9) rfl dX5_leastVoltage_29 ?_
          refine lv_iload_n hx hb dX5_leastVoltage_32 rfl (lv_at hl 3 rfl) ?_
          refine callRi (As := [.int ((P p) 6), .int (nI i)]) ⟨hx, hb, hml, hown, hts⟩ (mX1_isDrawnInAt l T D (b (2 + 2 * p)) (b (3 + 2 * p)) (P p) (E p) (hk p hp) ((P p) 6) (nI i)) (cwV 2 hts gX5_leastVoltage_X1_isDrawnInAt rfl rfl rfl pdX1_isDrawnInAt ⟨Nat.le_of_ble_eq_true rfl, Nat.le_of_ble_eq_true rfl⟩) (hP.sub [0, 1] rfl) hK xN_bl (fun U _ hW => XN_warm hW hX) (ci := 1) rfl rfl rfl hl.1 rfl rfl (Nat.le_of_ble_eq_true rfl) dX5_leastVoltage_33 ⟨Nat.zero_le _, Nat.zero_le _⟩ (fun r2_ er2_ => ?_)
          obtain rfl : r2_ = bI (kMove (P p) ((P p) 6) (kPullBy (P p) (nI i) - kSpring (P p) ((P p) 6)) = 1) := er2_
          refine lv_if_eq (tgt := 41) hx hb dX5_leastVoltage_36 (by decide) (fun c36 => ?_) (fun c36 => ?_)
          · skip
            have c36 := bI_0 c36
            refine lv_iinc (v := nI (i + 1)) (lv' := [(3, .int (nI (i + 1))), (0, .ref z), (1, .int (nI p)), (2, .ref (b (2 + 2 * p)))]) hx hb dX5_leastVoltage_41 hl (k := 3) rfl (nI_1 i) (by decide) rfl (fun ls hl => ?_)
            refine lv_goto (tgt := 21) hx hb dX5_leastVoltage_44 (by decide) ?_
            exact ih (i + 1) ls (by omega) (by omega) (by rw [ef, show 31 - i = (31 - (i + 1)) + 1 by omega, kFirst_f (by rw [decide_eq_true_eq]; exact c36)]) (lv_sub hl [1, 2, 3, 0] rfl)
          · skip
            have c36 := bI_n0 c36
            refine lv_iload_n hx hb dX5_leastVoltage_39 rfl (lv_at hl 3 rfl) ?_
            exact hret _ _ _ dX5_leastVoltage_40 (by rw [sP_t hp, ef, show 31 - i = (31 - (i + 1)) + 1 by omega, kFirst_t (by rw [decide_eq_true_eq]; exact c36)])
    exact loop 32 0 ls (by omega) (by omega) rfl (lv_sub hl [2, 3, 1, 0] rfl)
  · skip
    have c4 := bI_0 c4
    refine lv_iconst (v := (-1)) hx hb dX5_leastVoltage_7 (by decide) ?_
    exact hret _ _ _ dX5_leastVoltage_8 (sP_f c4).symm

def rmX5_drawingVoltage : Room := { frames := 3, cells := 0, slots := 0, locals := 65 }
set_option maxHeartbeats 4000000 in
set_option maxRecDepth 100000 in
theorem mX5_drawingVoltage (l : Launch) (T : Nat → ClassId) (D : va_G) (z x2 x3 xh xa xy : Nat) (k0 k1 k2 k3 : Int32) (b : Nat → Nat) (t : Nat → Int32) (P : Nat → Nat → Int32) (E : Nat → Nat → Int64) (hk : ∀ p, p < 4 → kOk (P p)) (x : Int32) : RdI l yX5_drawingVoltage wsX5_drawingVoltage rmX5_drawingVoltage T xN D [.ref z, .int x] ([(z, .inr (5, [.ref (b 0), .ref x2, .ref x3, .int k0, .ref xh, .ref xa, .ref xy, .int k1, .int k2, .int k3])), ((b 0), .inr (2, [.ref (b 1), .int (t 0), .int (t 1), .int (t 2)])), ((b 1), .inl (T 3, 4, .inr (.inr (.inr (.inr ((fun i => some (b (2 + 2 * i)))))))))] ++ stT T b P E) (fun r => r = sP x (fun p => kDv (P p)) (-1)) := by
  refine met_ri (cc := cX5_drawingVoltage) (maxL := 3) (by decide) rfl (Nat.le_of_ble_eq_true rfl) ?_
  intro p_ e s m args below meth c H ls Q hx hb hts hown hml hX hH hP hK hl hret
  have hl : lv_has ls 3 [(0, .ref z), (1, .int x)] := hl
  refine lv_iload_n hx hb dX5_drawingVoltage_0 rfl (lv_at hl 1 rfl) ?_
  refine callSi (As := [.int x]) ⟨hx, hb, hml, hown, hts⟩ (mX5_isPair l T D x) (va_cwS 1 hts gX5_drawingVoltage_X5_isPair rfl rfl rfl (pdX5_isPair).2 ⟨Nat.le_of_ble_eq_true rfl, Nat.le_of_ble_eq_true rfl⟩) wP_nil hK xN_bl (fun U _ hW => XN_warm hW hX) hl.1 rfl rfl (Nat.le_of_ble_eq_true rfl) dX5_drawingVoltage_1 ⟨Nat.zero_le _, Nat.zero_le _⟩ (fun r1_ er1_ => ?_)
  obtain rfl : r1_ = bI (0 ≤ x ∧ x ≤ 3) := er1_
  refine lv_if_ne (tgt := 9) hx hb dX5_drawingVoltage_4 (by decide) (fun c4 => ?_) (fun c4 => ?_)
  · skip
    have c4 := bI_n0 c4
    obtain ⟨p, hp, rfl⟩ := pair_of c4
    obtain ⟨dd, hdd, hde⟩ := dp_nat (kOk_d (hk p hp))
    refine lv_iconst (v := nI 0) hx hb dX5_drawingVoltage_9 (by decide) ?_
    refine lv_istore_n (lv' := [(2, .int (nI 0)), (0, .ref z), (1, .int (nI p))]) hx hb dX5_drawingVoltage_10 rfl hl (by decide) rfl (fun ls hl => ?_)
    have loop : ∀ (j : Nat) (i : Nat) (ls : Array Slot), (32 ≤ i + j) → (i ≤ 31) → (kDv (P p) = kFirst (fun v => kDb (P p) (nI v) dd) (31 - i) i) → lv_has ls 3 [(0, .ref z), (1, .int (nI p)), (2, .int (nI i))] → W p_ l e rmX5_drawingVoltage s m args below meth c H [] 0 0 Q (F0 m 11 ls []) := by
      intro j
      induction j with
      | zero => intro i ls hm hi; exact absurd hm (by omega)
      | succ j ih =>
        intro i ls hm hi ef hl
        refine lv_iload_n hx hb dX5_drawingVoltage_11 rfl (lv_at hl 2 rfl) ?_
        refine lv_bipush (v := 30) hx hb dX5_drawingVoltage_12 (by decide) ?_
        refine lv_icmp_gt (tgt := 41) hx hb dX5_drawingVoltage_14 (by decide) (fun c14 => ?_) (fun c14 => ?_)
        · skip
          have ei : i = 31 := by
            have := mt (nI_leI (a := i) (b := 30) (by omega) (by decide)).mpr (Int32.not_le.mpr c14)
            omega
          refine lv_bipush (v := (-5)) hx hb dX5_drawingVoltage_41 (by decide) ?_
          exact hret _ _ _ dX5_drawingVoltage_43 (by rw [sP_t hp, ef, ei]; rfl)
        · skip
          have hi2 : i ≤ 30 := (nI_leI (by omega) (by decide)).mp (Int32.not_lt.mp c14)
          refine lv_aload_n hx hb dX5_drawingVoltage_17 rfl (lv_at hl 0 rfl) ?_
          refine va_get (D := D) (ci := 5) (v := .ref (b 0)) (C := RX5) (T := TX5) (N := 10) hx hb hts inwX5_drawingVoltage_X5 hown hK hP 0 rfl rfl 0 (by decide) (hts (.fieldLink RX5 10 "PlateSlabs" "now" "LPlateSlabs$State;") (List.mem_of_getElem? (i := 1) rfl)) (fun _ h9 => h9) rfl dX5_drawingVoltage_18 ?_
          refine va_get (D := D) (ci := 2) (v := .ref (b 1)) (C := RX2) (T := TX2) (N := 4) hx hb hts inwX5_drawingVoltage_X2 hown hK hP 1 rfl rfl 0 (by decide) (hts (.fieldLink RX5 135 "PlateSlabs$State" "pairs" "[LPlateSlabs$Plates;") (List.mem_of_getElem? (i := 2) rfl)) (fun _ h9 => h9) rfl dX5_drawingVoltage_21 ?_
          refine lv_iload_n hx hb dX5_drawingVoltage_24 rfl (lv_at hl 1 rfl) ?_
          refine va_aldq hx hb hK hP 2 3 rfl rfl (vp_in_nI (by omega) (by decide)) dX5_drawingVoltage_25 ?_
          refine lv_tpv (congrArg (fun z => va_rf ((fun i => some (b (2 + 2 * i))) z)) (nI_clamp (by omega))) ?_
          refine lv_iload_n hx hb dX5_drawingVoltage_26 rfl (lv_at hl 2 rfl) ?_
          refine callRi (As := [.int (nI i)]) ⟨hx, hb, hml, hown, hts⟩ (mX1_isDrawnAllTheWayIn l T D (b (2 + 2 * p)) (b (3 + 2 * p)) (P p) (E p) (hk p hp) (nI i) dd hdd hde) (cwV 1 hts gX5_drawingVoltage_X1_isDrawnAllTheWayIn rfl rfl rfl pdX1_isDrawnAllTheWayIn ⟨Nat.le_of_ble_eq_true rfl, Nat.le_of_ble_eq_true rfl⟩) ((st_foc hp (wP_right (w1 := [_]) hP)).sub [0, 1] rfl) hK xN_bl (fun U _ hW => XN_warm hW hX) (ci := 1) rfl rfl rfl hl.1 rfl rfl (Nat.le_of_ble_eq_true rfl) dX5_drawingVoltage_27 ⟨Nat.zero_le _, Nat.zero_le _⟩ (fun r2_ er2_ => ?_)
          obtain rfl : r2_ = if kDb (P p) (nI i) dd = true then 1 else 0 := er2_
          refine lv_if_eq (tgt := 35) hx hb dX5_drawingVoltage_30 (by decide) (fun c30 => ?_) (fun c30 => ?_)
          · skip
            have c30 : ¬ kDb (P p) (nI i) dd = true := b1_0 c30
            refine lv_iinc (v := nI (i + 1)) (lv' := [(2, .int (nI (i + 1))), (0, .ref z), (1, .int (nI p))]) hx hb dX5_drawingVoltage_35 hl (k := 2) rfl (nI_1 i) (by decide) rfl (fun ls hl => ?_)
            refine lv_goto (tgt := 11) hx hb dX5_drawingVoltage_38 (by decide) ?_
            exact ih (i + 1) ls (by omega) (by omega) (by rw [ef, show 31 - i = (31 - (i + 1)) + 1 by omega, kFirst_f (f := fun v => kDb (P p) (nI v) dd) c30]) (lv_sub hl [1, 2, 0] rfl)
          · skip
            have c30 : kDb (P p) (nI i) dd = true := b1_n0 c30
            refine lv_iload_n hx hb dX5_drawingVoltage_33 rfl (lv_at hl 2 rfl) ?_
            exact hret _ _ _ dX5_drawingVoltage_34 (by rw [sP_t hp, ef, show 31 - i = (31 - (i + 1)) + 1 by omega, kFirst_t (f := fun v => kDb (P p) (nI v) dd) c30])
    exact loop 32 0 ls (by omega) (by omega) (by rw [kDv, hde, nI_clamp (by omega)]) (lv_sub hl [1, 2, 0] rfl)
  · skip
    have c4 := bI_0 c4
    refine lv_iconst (v := (-1)) hx hb dX5_drawingVoltage_7 (by decide) ?_
    exact hret _ _ _ dX5_drawingVoltage_8 (sP_f c4).symm
