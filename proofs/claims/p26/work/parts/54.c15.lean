theorem pdX5_reason : yX5_reason.cls = RX5 ∧ yX5_reason.cls ≠ "java/lang/invoke/MethodHandle" ∧ yX5_reason.cls ≠ "java/lang/invoke/VarHandle" ∧ (parseMethodDescriptor yX5_reason.desc).map (fun d => d.parameters.length) = some 1 := by decide +kernel
theorem pdX5_force : yX5_force.cls = RX5 ∧ yX5_force.cls ≠ "java/lang/invoke/MethodHandle" ∧ yX5_force.cls ≠ "java/lang/invoke/VarHandle" ∧ (parseMethodDescriptor yX5_force.desc).map (fun d => d.parameters.length) = some 2 := by decide +kernel
theorem pdX5_pair : yX5_pair.cls = RX5 ∧ yX5_pair.cls ≠ "java/lang/invoke/MethodHandle" ∧ yX5_pair.cls ≠ "java/lang/invoke/VarHandle" ∧ (parseMethodDescriptor yX5_pair.desc).map (fun d => d.parameters.length) = some 2 := by decide +kernel
theorem pdX5_book : yX5_book.cls = RX5 ∧ yX5_book.cls ≠ "java/lang/invoke/MethodHandle" ∧ yX5_book.cls ≠ "java/lang/invoke/VarHandle" ∧ (parseMethodDescriptor yX5_book.desc).map (fun d => d.parameters.length) = some 2 := by decide +kernel
theorem inwX5_reason_X5 : ∀ w ∈ wsX50, w ∈ wsX5_reason := by decide +kernel
theorem inwX5_reason_X2 : ∀ w ∈ wsX20, w ∈ wsX5_reason := by decide +kernel
theorem inwX5_reason_X1 : ∀ w ∈ wsX10, w ∈ wsX5_reason := by decide +kernel
theorem inwX5_force_X5 : ∀ w ∈ wsX50, w ∈ wsX5_force := by decide +kernel
theorem inwX5_force_X2 : ∀ w ∈ wsX20, w ∈ wsX5_force := by decide +kernel
theorem inwX5_force_X1 : ∀ w ∈ wsX10, w ∈ wsX5_force := by decide +kernel
theorem inwX5_pair_X5 : ∀ w ∈ wsX50, w ∈ wsX5_pair := by decide +kernel
theorem inwX5_pair_X2 : ∀ w ∈ wsX20, w ∈ wsX5_pair := by decide +kernel
theorem inwX5_pair_X1 : ∀ w ∈ wsX10, w ∈ wsX5_pair := by decide +kernel
theorem inwX5_book_X5 : ∀ w ∈ wsX50, w ∈ wsX5_book := by decide +kernel
theorem inwX5_book_X2 : ∀ w ∈ wsX20, w ∈ wsX5_book := by decide +kernel
theorem inwX5_book_X1 : ∀ w ∈ wsX10, w ∈ wsX5_book := by decide +kernel
def rmX5_reason : Room := { frames := 4, cells := 0, slots := 0, locals := 88 }
set_option maxHeartbeats 4000000 in
set_option maxRecDepth 100000 in
theorem mX5_reason (l : Launch) (T : Nat → ClassId) (D : va_G) (z x2 x3 xh xa xy : Nat) (k0 k1 k2 k3 : Int32) (b : Nat → Nat) (t : Nat → Int32) (P : Nat → Nat → Int32) (E : Nat → Nat → Int64) (hk : ∀ p, p < 4 → kOk (P p)) (x : Int32) : RdI l yX5_reason wsX5_reason rmX5_reason T xN D [.ref z, .int x] ([(z, .inr (5, [.ref (b 0), .ref x2, .ref x3, .int k0, .ref xh, .ref xa, .ref xy, .int k1, .int k2, .int k3])), ((b 0), .inr (2, [.ref (b 1), .int (t 0), .int (t 1), .int (t 2)])), ((b 1), .inl (T 3, 4, .inr (.inr (.inr (.inr ((fun i => some (b (2 + 2 * i)))))))))] ++ stT T b P E) (fun r => r = sP x (fun p => kWhy (P p)) (-1)) := by
  refine met_ri (cc := cX5_reason) (maxL := 2) (by decide) rfl (Nat.le_of_ble_eq_true rfl) ?_
  intro p_ e s m args below meth c H ls Q hx hb hts hown hml hX hH hP hK hl hret
  have hl : lv_has ls 2 [(0, .ref z), (1, .int x)] := hl
  refine lv_iload_n hx hb dX5_reason_0 rfl (lv_at hl 1 rfl) ?_
  refine callSi (As := [.int x]) ⟨hx, hb, hml, hown, hts⟩ (mX5_isPair l T D x) (va_cwS 1 hts gX5_reason_X5_isPair rfl rfl rfl (pdX5_isPair).2 ⟨Nat.le_of_ble_eq_true rfl, Nat.le_of_ble_eq_true rfl⟩) wP_nil hK xN_bl (fun U _ hW => XN_warm hW hX) hl.1 rfl rfl (Nat.le_of_ble_eq_true rfl) dX5_reason_1 ⟨Nat.zero_le _, Nat.zero_le _⟩ (fun r1_ er1_ => ?_)
  obtain rfl : r1_ = bI (0 ≤ x ∧ x ≤ 3) := er1_
  refine lv_if_eq (tgt := 22) hx hb dX5_reason_4 (by decide) (fun c4 => ?_) (fun c4 => ?_)
  · skip
    have c4 := bI_0 c4
    refine lv_iconst (v := (-1)) hx hb dX5_reason_22 (by decide) ?_
    exact hret _ _ _ dX5_reason_23 (sP_f c4).symm
  · skip
    have c4 := bI_n0 c4
    obtain ⟨p, hp, rfl⟩ := pair_of c4
    refine lv_aload_n hx hb dX5_reason_7 rfl (lv_at hl 0 rfl) ?_
    refine va_get (D := D) (ci := 5) (v := .ref (b 0)) (C := RX5) (T := TX5) (N := 10) hx hb hts inwX5_reason_X5 hown hK hP 0 rfl rfl 0 (by decide) (hts (.fieldLink RX5 10 "PlateSlabs" "now" "LPlateSlabs$State;") (List.mem_of_getElem? (i := 1) rfl)) (fun _ h9 => h9) rfl dX5_reason_8 ?_
    refine va_get (D := D) (ci := 2) (v := .ref (b 1)) (C := RX2) (T := TX2) (N := 4) hx hb hts inwX5_reason_X2 hown hK hP 1 rfl rfl 0 (by decide) (hts (.fieldLink RX5 135 "PlateSlabs$State" "pairs" "[LPlateSlabs$Plates;") (List.mem_of_getElem? (i := 2) rfl)) (fun _ h9 => h9) rfl dX5_reason_11 ?_
    refine lv_iload_n hx hb dX5_reason_14 rfl (lv_at hl 1 rfl) ?_
    refine va_aldq hx hb hK hP 2 3 rfl rfl (vp_in_nI (by omega) (by decide)) dX5_reason_15 ?_
    refine lv_tpv (congrArg (fun z => va_rf ((fun i => some (b (2 + 2 * i))) z)) (nI_clamp (by omega))) ?_
    have hP : va_P D vwCl ([((b (2 + 2 * p)), .inr (1, [.ref (b (3 + 2 * p)), .int ((P p) 6), .int ((P p) 7), .int ((P p) 8), .int ((P p) 9), .long ((E p) 0), .long ((E p) 1), .long ((E p) 2)])), ((b (3 + 2 * p)), .inl (T 0, 6, .inl ((P p)))), ((b 0), .inr (2, [.ref (b 1), .int (t 0), .int (t 1), .int (t 2)])), ((b 1), .inl (T 3, 4, .inr (.inr (.inr (.inr ((fun i => some (b (2 + 2 * i)))))))))] ++ stO T b P E p) H := st_foc hp (wP_right (w1 := [_]) hP)
    refine callRi (As := []) ⟨hx, hb, hml, hown, hts⟩ (mX1_reasonNow l T D (b (2 + 2 * p)) (b (3 + 2 * p)) (P p) (E p) (hk p hp)) (cwV 0 hts gX5_reason_X1_reasonNow rfl rfl rfl pdX1_reasonNow ⟨Nat.le_of_ble_eq_true rfl, Nat.le_of_ble_eq_true rfl⟩) (hP.sub [0, 1] rfl) hK xN_bl (fun U _ hW => XN_warm hW hX) (ci := 1) rfl rfl rfl hl.1 rfl rfl (Nat.le_of_ble_eq_true rfl) dX5_reason_16 ⟨Nat.zero_le _, Nat.zero_le _⟩ (fun r2_ er2_ => ?_)
    obtain rfl : r2_ = kWhy (P p) := er2_
    refine lv_goto (tgt := 23) hx hb dX5_reason_19 (by decide) ?_
    exact hret _ _ _ dX5_reason_23 (by rw [sP_t hp])

def rmX5_force : Room := { frames := 3, cells := 0, slots := 0, locals := 67 }
set_option maxHeartbeats 4000000 in
set_option maxRecDepth 100000 in
theorem mX5_force (l : Launch) (T : Nat → ClassId) (D : va_G) (z x2 x3 xh xa xy : Nat) (k0 k1 k2 k3 : Int32) (b : Nat → Nat) (t : Nat → Int32) (P : Nat → Nat → Int32) (E : Nat → Nat → Int64) (hk : ∀ p, p < 4 → kOk (P p)) (x : Int32) (w : Int32) : RdI l yX5_force wsX5_force rmX5_force T xN D [.ref z, .int x, .int w] ([(z, .inr (5, [.ref (b 0), .ref x2, .ref x3, .int k0, .ref xh, .ref xa, .ref xy, .int k1, .int k2, .int k3])), ((b 0), .inr (2, [.ref (b 1), .int (t 0), .int (t 1), .int (t 2)])), ((b 1), .inl (T 3, 4, .inr (.inr (.inr (.inr ((fun i => some (b (2 + 2 * i)))))))))] ++ stT T b P E) (fun r => r = sP x (fun p => tF (P p) w) (-1)) := by
  refine met_ri (cc := cX5_force) (maxL := 3) (by decide) rfl (Nat.le_of_ble_eq_true rfl) ?_
  intro p_ e s m args below meth c H ls Q hx hb hts hown hml hX hH hP hK hl hret
  have hl : lv_has ls 3 [(0, .ref z), (1, .int x), (2, .int w)] := hl
  refine lv_iload_n hx hb dX5_force_0 rfl (lv_at hl 1 rfl) ?_
  refine callSi (As := [.int x]) ⟨hx, hb, hml, hown, hts⟩ (mX5_isPair l T D x) (va_cwS 1 hts gX5_force_X5_isPair rfl rfl rfl (pdX5_isPair).2 ⟨Nat.le_of_ble_eq_true rfl, Nat.le_of_ble_eq_true rfl⟩) wP_nil hK xN_bl (fun U _ hW => XN_warm hW hX) hl.1 rfl rfl (Nat.le_of_ble_eq_true rfl) dX5_force_1 ⟨Nat.zero_le _, Nat.zero_le _⟩ (fun r1_ er1_ => ?_)
  obtain rfl : r1_ = bI (0 ≤ x ∧ x ≤ 3) := er1_
  refine lv_if_ne (tgt := 9) hx hb dX5_force_4 (by decide) (fun c4 => ?_) (fun c4 => ?_)
  · skip
    have c4 := bI_n0 c4
    obtain ⟨p, hp, rfl⟩ := pair_of c4
    refine lv_iload_n hx hb dX5_force_9 rfl (lv_at hl 2 rfl) ?_
    refine callSi (As := [.int w]) ⟨hx, hb, hml, hown, hts⟩ (mX5_isDepth l T D w) (va_cwS 1 hts gX5_force_X5_isDepth rfl rfl rfl (pdX5_isDepth).2 ⟨Nat.le_of_ble_eq_true rfl, Nat.le_of_ble_eq_true rfl⟩) wP_nil hK xN_bl (fun U _ hW => XN_warm hW hX) hl.1 rfl rfl (Nat.le_of_ble_eq_true rfl) dX5_force_10 ⟨Nat.zero_le _, Nat.zero_le _⟩ (fun r2_ er2_ => ?_)
    obtain rfl : r2_ = bI (0 ≤ w ∧ w ≤ 40) := er2_
    refine lv_if_ne (tgt := 19) hx hb dX5_force_13 (by decide) (fun c13 => ?_) (fun c13 => ?_)
    · skip
      have c13 := bI_n0 c13
      refine lv_aload_n hx hb dX5_force_19 rfl (lv_at hl 0 rfl) ?_
      refine va_get (D := D) (ci := 5) (v := .ref (b 0)) (C := RX5) (T := TX5) (N := 10) hx hb hts inwX5_force_X5 hown hK hP 0 rfl rfl 0 (by decide) (hts (.fieldLink RX5 10 "PlateSlabs" "now" "LPlateSlabs$State;") (List.mem_of_getElem? (i := 1) rfl)) (fun _ h9 => h9) rfl dX5_force_20 ?_
      refine va_get (D := D) (ci := 2) (v := .ref (b 1)) (C := RX2) (T := TX2) (N := 4) hx hb hts inwX5_force_X2 hown hK hP 1 rfl rfl 0 (by decide) (hts (.fieldLink RX5 135 "PlateSlabs$State" "pairs" "[LPlateSlabs$Plates;") (List.mem_of_getElem? (i := 2) rfl)) (fun _ h9 => h9) rfl dX5_force_23 ?_
      refine lv_iload_n hx hb dX5_force_26 rfl (lv_at hl 1 rfl) ?_
      refine va_aldq hx hb hK hP 2 3 rfl rfl (vp_in_nI (by omega) (by decide)) dX5_force_27 ?_
      refine lv_tpv (congrArg (fun z => va_rf ((fun i => some (b (2 + 2 * i))) z)) (nI_clamp (by omega))) ?_
      have hP : va_P D vwCl ([((b (2 + 2 * p)), .inr (1, [.ref (b (3 + 2 * p)), .int ((P p) 6), .int ((P p) 7), .int ((P p) 8), .int ((P p) 9), .long ((E p) 0), .long ((E p) 1), .long ((E p) 2)])), ((b (3 + 2 * p)), .inl (T 0, 6, .inl ((P p)))), ((b 0), .inr (2, [.ref (b 1), .int (t 0), .int (t 1), .int (t 2)])), ((b 1), .inl (T 3, 4, .inr (.inr (.inr (.inr ((fun i => some (b (2 + 2 * i)))))))))] ++ stO T b P E p) H := st_foc hp (wP_right (w1 := [_]) hP)
      refine lv_iload_n hx hb dX5_force_28 rfl (lv_at hl 2 rfl) ?_
      refine callRi (As := [.int w]) ⟨hx, hb, hml, hown, hts⟩ (mX1_netAt l T D (b (2 + 2 * p)) (b (3 + 2 * p)) (P p) (E p) (hk p hp) w (dp_of c13)) (cwV 1 hts gX5_force_X1_netAt rfl rfl rfl pdX1_netAt ⟨Nat.le_of_ble_eq_true rfl, Nat.le_of_ble_eq_true rfl⟩) (hP.sub [0, 1] rfl) hK xN_bl (fun U _ hW => XN_warm hW hX) (ci := 1) rfl rfl rfl hl.1 rfl rfl (Nat.le_of_ble_eq_true rfl) dX5_force_29 ⟨Nat.zero_le _, Nat.zero_le _⟩ (fun r3_ er3_ => ?_)
      obtain rfl : r3_ = kPullAt (P p) w ((P p) 7) - kSpring (P p) w := er3_
      refine va_mabs hx hb (hml.trans hl.1.symm) hown (hts (.methodLink RX5 167 Lib.Math.abs.name) (List.mem_of_getElem? (i := 3) rfl)) (hts (.static Lib.Math.abs.name) (List.mem_of_getElem? (i := 4) rfl)) (hts (.initialized "java/lang/Math") (List.mem_of_getElem? (i := 5) rfl)) (hts (.code Lib.Math.abs.name Lib.Math.abs.code 1 (some .int)) (List.mem_of_getElem? (i := 6) rfl)) (Nat.le_of_ble_eq_true rfl) (Nat.le_of_ble_eq_true rfl) (Nat.le_of_ble_eq_true rfl) (Nat.le_of_ble_eq_true rfl) dX5_force_32 ?_
      refine lv_tpi (z := kSize (kPullAt (P p) w (P p 7) - kSpring (P p) w)) (abs_size _) ?_
      exact hret _ _ _ dX5_force_35 (by rw [sP_t hp]; rw [tF, if_pos c13])
    · skip
      have c13 := bI_0 c13
      refine lv_bipush (v := (-2)) hx hb dX5_force_16 (by decide) ?_
      exact hret _ _ _ dX5_force_18 (by rw [sP_t hp]; rw [tF, if_neg c13])
  · skip
    have c4 := bI_0 c4
    refine lv_iconst (v := (-1)) hx hb dX5_force_7 (by decide) ?_
    exact hret _ _ _ dX5_force_8 (sP_f c4).symm

theorem sw_6_12 (w : Int32) : (w.toInt < 6 ∨ 12 < w.toInt) ∨ w = 6 ∨ w = 7 ∨ w = 8 ∨ w = 9 ∨ w = 10 ∨ w = 11 ∨ w = 12 := by
  rcases sw_7_12 w with h | h
  · by_cases h6 : w = 6
    · exact Or.inr (Or.inl h6)
    · refine Or.inl ?_
      have : ¬ w.toInt = (6 : Int32).toInt := fun z => h6 (Int32.toInt_inj.mp z)
      rw [show (6 : Int32).toInt = 6 by decide] at this
      omega
  · exact Or.inr (Or.inr h)
theorem tP_out {V : Nat → Int32} {w : Int32} (h : w.toInt < 6 ∨ 12 < w.toInt) (g : ¬ (0 ≤ w ∧ w ≤ 5)) : tP V w = -2 := by
  rw [tP_def (by omega), if_neg]
  intro z
  rw [fa_le, fa_le, i_0, show (6 : Int32).toInt = 6 by decide] at z
  rw [fa_le, fa_le, i_0, show (5 : Int32).toInt = 5 by decide] at g
  omega
theorem tP_set {V : Nat → Int32} {k : Nat} (hk : k ≤ 5) : tP V (nI k) = V k := by
  have e : k = 0 ∨ k = 1 ∨ k = 2 ∨ k = 3 ∨ k = 4 ∨ k = 5 := by omega
  rcases e with rfl | rfl | rfl | rfl | rfl | rfl <;> rfl
def rmX5_pair : Room := { frames := 2, cells := 0, slots := 0, locals := 46 }
set_option maxHeartbeats 4000000 in
set_option maxRecDepth 100000 in
theorem mX5_pair (l : Launch) (T : Nat → ClassId) (D : va_G) (z x2 x3 xh xa xy : Nat) (k0 k1 k2 k3 : Int32) (b : Nat → Nat) (t : Nat → Int32) (P : Nat → Nat → Int32) (E : Nat → Nat → Int64) (hk : ∀ p, p < 4 → kOk (P p)) (x : Int32) (w : Int32) : RdI l yX5_pair wsX5_pair rmX5_pair T xN D [.ref z, .int x, .int w] ([(z, .inr (5, [.ref (b 0), .ref x2, .ref x3, .int k0, .ref xh, .ref xa, .ref xy, .int k1, .int k2, .int k3])), ((b 0), .inr (2, [.ref (b 1), .int (t 0), .int (t 1), .int (t 2)])), ((b 1), .inl (T 3, 4, .inr (.inr (.inr (.inr ((fun i => some (b (2 + 2 * i)))))))))] ++ stT T b P E) (fun r => r = sP x (fun p => tP (P p) w) (-1)) := by
  refine met_ri (cc := cX5_pair) (maxL := 4) (by decide) rfl (Nat.le_of_ble_eq_true rfl) ?_
  intro p_ e s m args below meth c H ls Q hx hb hts hown hml hX hH hP hK hl hret
  have hl : lv_has ls 4 [(0, .ref z), (1, .int x), (2, .int w)] := hl
  refine lv_iload_n hx hb dX5_pair_0 rfl (lv_at hl 1 rfl) ?_
  refine callSi (As := [.int x]) ⟨hx, hb, hml, hown, hts⟩ (mX5_isPair l T D x) (va_cwS 1 hts gX5_pair_X5_isPair rfl rfl rfl (pdX5_isPair).2 ⟨Nat.le_of_ble_eq_true rfl, Nat.le_of_ble_eq_true rfl⟩) wP_nil hK xN_bl (fun U _ hW => XN_warm hW hX) hl.1 rfl rfl (Nat.le_of_ble_eq_true rfl) dX5_pair_1 ⟨Nat.zero_le _, Nat.zero_le _⟩ (fun r1_ er1_ => ?_)
  obtain rfl : r1_ = bI (0 ≤ x ∧ x ≤ 3) := er1_
  refine lv_if_ne (tgt := 9) hx hb dX5_pair_4 (by decide) (fun c4 => ?_) (fun c4 => ?_)
  · skip
    have c4 := bI_n0 c4
    obtain ⟨p, hp, rfl⟩ := pair_of c4
    refine lv_aload_n hx hb dX5_pair_9 rfl (lv_at hl 0 rfl) ?_
    refine va_get (D := D) (ci := 5) (v := .ref (b 0)) (C := RX5) (T := TX5) (N := 10) hx hb hts inwX5_pair_X5 hown hK hP 0 rfl rfl 0 (by decide) (hts (.fieldLink RX5 10 "PlateSlabs" "now" "LPlateSlabs$State;") (List.mem_of_getElem? (i := 1) rfl)) (fun _ h9 => h9) rfl dX5_pair_10 ?_
    refine va_get (D := D) (ci := 2) (v := .ref (b 1)) (C := RX2) (T := TX2) (N := 4) hx hb hts inwX5_pair_X2 hown hK hP 1 rfl rfl 0 (by decide) (hts (.fieldLink RX5 135 "PlateSlabs$State" "pairs" "[LPlateSlabs$Plates;") (List.mem_of_getElem? (i := 2) rfl)) (fun _ h9 => h9) rfl dX5_pair_13 ?_
    refine lv_iload_n hx hb dX5_pair_16 rfl (lv_at hl 1 rfl) ?_
    refine va_aldq hx hb hK hP 2 3 rfl rfl (vp_in_nI (by omega) (by decide)) dX5_pair_17 ?_
    refine lv_tpv (congrArg (fun z => va_rf ((fun i => some (b (2 + 2 * i))) z)) (nI_clamp (by omega))) ?_
    refine lv_astore_n (lv' := [(3, .ref (b (2 + 2 * p))), (0, .ref z), (1, .int (nI p)), (2, .int w)]) hx hb dX5_pair_18 rfl hl (by decide) rfl (fun ls hl => ?_)
    have hP : va_P D vwCl ([((b (2 + 2 * p)), .inr (1, [.ref (b (3 + 2 * p)), .int ((P p) 6), .int ((P p) 7), .int ((P p) 8), .int ((P p) 9), .long ((E p) 0), .long ((E p) 1), .long ((E p) 2)])), ((b (3 + 2 * p)), .inl (T 0, 6, .inl ((P p)))), ((b 0), .inr (2, [.ref (b 1), .int (t 0), .int (t 1), .int (t 2)])), ((b 1), .inl (T 3, 4, .inr (.inr (.inr (.inr ((fun i => some (b (2 + 2 * i)))))))))] ++ stO T b P E p) H := st_foc hp (wP_right (w1 := [_]) hP)
    refine lv_iload_n hx hb dX5_pair_19 rfl (lv_at hl 3 rfl) ?_
    refine callSi (As := [.int w]) ⟨hx, hb, hml, hown, hts⟩ (mX1_isSetting l T D w) (va_cwS 1 hts gX5_pair_X1_isSetting rfl rfl rfl (pdX1_isSetting).2 ⟨Nat.le_of_ble_eq_true rfl, Nat.le_of_ble_eq_true rfl⟩) wP_nil hK xN_bl (fun U _ hW => XN_warm hW hX) hl.1 rfl rfl (Nat.le_of_ble_eq_true rfl) dX5_pair_20 ⟨Nat.zero_le _, Nat.zero_le _⟩ (fun r2_ er2_ => ?_)
    obtain rfl : r2_ = bI (0 ≤ w ∧ w ≤ 5) := er2_
    refine lv_if_eq (tgt := 33) hx hb dX5_pair_23 (by decide) (fun c23 => ?_) (fun c23 => ?_)
    · skip
      have c23 := bI_0 c23
      refine lv_iload_n hx hb dX5_pair_33 rfl (lv_at hl 3 rfl) ?_
      rcases sw_6_12 w with hw | hw | hw | hw | hw | hw | hw | hw
      · skip
        refine lv_tableOut (tgt := 134) hx hb dX5_pair_34 hw (by decide) ?_
        refine lv_bipush (v := (-2)) hx hb dX5_pair_134 (by decide) ?_
        exact hret _ _ _ dX5_pair_136 (by rw [sP_t hp]; exact (tP_out hw c23).symm)
      · skip
        subst hw
        refine lv_tableIn (off := 42) (tgt := 76) hx hb dX5_pair_34 (by decide) (by decide) (by decide) (by decide) ?_
        refine lv_aload_n hx hb dX5_pair_76 rfl (lv_at hl 0 rfl) ?_
        refine va_get (D := D) (ci := 1) (v := .int ((P p) 6)) (C := RX1) (T := TX1) (N := 8) hx hb hts inwX5_pair_X1 hown hK hP 0 rfl rfl 1 (by decide) (hts (.fieldLink RX5 146 "PlateSlabs$Plates" "depth" "I") (List.mem_of_getElem? (i := 4) rfl)) (fun _ h9 => h9) rfl dX5_pair_77 ?_
        exact hret _ _ _ dX5_pair_80 (by rw [sP_t hp]; rfl)
      · skip
        subst hw
        refine lv_tableIn (off := 47) (tgt := 81) hx hb dX5_pair_34 (by decide) (by decide) (by decide) (by decide) ?_
        refine lv_aload_n hx hb dX5_pair_81 rfl (lv_at hl 0 rfl) ?_
        refine lv_aload_n hx hb dX5_pair_82 rfl (lv_at hl 0 rfl) ?_
        refine va_get (D := D) (ci := 1) (v := .int ((P p) 6)) (C := RX1) (T := TX1) (N := 8) hx hb hts inwX5_pair_X1 hown hK hP 0 rfl rfl 1 (by decide) (hts (.fieldLink RX5 146 "PlateSlabs$Plates" "depth" "I") (List.mem_of_getElem? (i := 4) rfl)) (fun _ h9 => h9) rfl dX5_pair_83 ?_
        refine callRi (As := [.int ((P p) 6)]) ⟨hx, hb, hml, hown, hts⟩ (mX1_capacityAt l T D (b (2 + 2 * p)) (b (3 + 2 * p)) (P p) (E p) ((P p) 6)) (cwV 1 hts gX5_pair_X1_capacityAt rfl rfl rfl pdX1_capacityAt ⟨Nat.le_of_ble_eq_true rfl, Nat.le_of_ble_eq_true rfl⟩) (hP.sub [0, 1] rfl) hK xN_bl (fun U _ hW => XN_warm hW hX) (ci := 1) rfl rfl rfl hl.1 rfl rfl (Nat.le_of_ble_eq_true rfl) dX5_pair_86 ⟨Nat.zero_le _, Nat.zero_le _⟩ (fun r3_ er3_ => ?_)
        obtain rfl : r3_ = kCap (P p) ((P p) 6) := er3_
        exact hret _ _ _ dX5_pair_89 (by rw [sP_t hp]; rfl)
      · skip
        subst hw
        refine lv_tableIn (off := 56) (tgt := 90) hx hb dX5_pair_34 (by decide) (by decide) (by decide) (by decide) ?_
        refine lv_aload_n hx hb dX5_pair_90 rfl (lv_at hl 0 rfl) ?_
        refine va_get (D := D) (ci := 1) (v := .int ((P p) 7)) (C := RX1) (T := TX1) (N := 8) hx hb hts inwX5_pair_X1 hown hK hP 0 rfl rfl 2 (by decide) (hts (.fieldLink RX5 152 "PlateSlabs$Plates" "charge" "I") (List.mem_of_getElem? (i := 5) rfl)) (fun _ h9 => h9) rfl dX5_pair_91 ?_
        exact hret _ _ _ dX5_pair_94 (by rw [sP_t hp]; rfl)
      · skip
        subst hw
        refine lv_tableIn (off := 61) (tgt := 95) hx hb dX5_pair_34 (by decide) (by decide) (by decide) (by decide) ?_
        refine lv_aload_n hx hb dX5_pair_95 rfl (lv_at hl 0 rfl) ?_
        refine va_get (D := D) (ci := 1) (v := .int ((P p) 8)) (C := RX1) (T := TX1) (N := 8) hx hb hts inwX5_pair_X1 hown hK hP 0 rfl rfl 3 (by decide) (hts (.fieldLink RX5 155 "PlateSlabs$Plates" "voltage" "I") (List.mem_of_getElem? (i := 6) rfl)) (fun _ h9 => h9) rfl dX5_pair_96 ?_
        exact hret _ _ _ dX5_pair_99 (by rw [sP_t hp]; rfl)
      · skip
        subst hw
        refine lv_tableIn (off := 66) (tgt := 100) hx hb dX5_pair_34 (by decide) (by decide) (by decide) (by decide) ?_
        refine lv_aload_n hx hb dX5_pair_100 rfl (lv_at hl 0 rfl) ?_
        refine va_get (D := D) (ci := 1) (v := .int ((P p) 9)) (C := RX1) (T := TX1) (N := 8) hx hb hts inwX5_pair_X1 hown hK hP 0 rfl rfl 4 (by decide) (hts (.fieldLink RX5 158 "PlateSlabs$Plates" "isOn" "Z") (List.mem_of_getElem? (i := 7) rfl)) (fun _ h9 => h9) rfl dX5_pair_101 ?_
        refine lv_if_eq (tgt := 111) hx hb dX5_pair_104 (by decide) (fun c104 => ?_) (fun c104 => ?_)
        · skip
          have h9 := off_of c104
          refine lv_iconst (v := 0) hx hb dX5_pair_111 (by decide) ?_
          exact hret _ _ _ dX5_pair_112 (by rw [sP_t hp]; show (0 : Int32) = P p 9; exact c104.symm)
        · skip
          have h9 := on_of (hk p hp) c104
          refine lv_iconst (v := 1) hx hb dX5_pair_107 (by decide) ?_
          refine lv_goto (tgt := 112) hx hb dX5_pair_108 (by decide) ?_
          exact hret _ _ _ dX5_pair_112 (by rw [sP_t hp]; show (1 : Int32) = P p 9; exact h9.symm)
      · skip
        subst hw
        refine lv_tableIn (off := 79) (tgt := 113) hx hb dX5_pair_34 (by decide) (by decide) (by decide) (by decide) ?_
        refine lv_aload_n hx hb dX5_pair_113 rfl (lv_at hl 0 rfl) ?_
        refine lv_aload_n hx hb dX5_pair_114 rfl (lv_at hl 0 rfl) ?_
        refine va_get (D := D) (ci := 1) (v := .int ((P p) 6)) (C := RX1) (T := TX1) (N := 8) hx hb hts inwX5_pair_X1 hown hK hP 0 rfl rfl 1 (by decide) (hts (.fieldLink RX5 146 "PlateSlabs$Plates" "depth" "I") (List.mem_of_getElem? (i := 4) rfl)) (fun _ h9 => h9) rfl dX5_pair_115 ?_
        refine callRi (As := [.int ((P p) 6)]) ⟨hx, hb, hml, hown, hts⟩ (mX1_pullAt l T D (b (2 + 2 * p)) (b (3 + 2 * p)) (P p) (E p) (hk p hp) ((P p) 6) (kOk_d (hk p hp))) (cwV 1 hts gX5_pair_X1_pullAt rfl rfl rfl pdX1_pullAt ⟨Nat.le_of_ble_eq_true rfl, Nat.le_of_ble_eq_true rfl⟩) (hP.sub [0, 1] rfl) hK xN_bl (fun U _ hW => XN_warm hW hX) (ci := 1) rfl rfl rfl hl.1 rfl rfl (Nat.le_of_ble_eq_true rfl) dX5_pair_118 ⟨Nat.zero_le _, Nat.zero_le _⟩ (fun r4_ er4_ => ?_)
        obtain rfl : r4_ = kPullAt (P p) ((P p) 6) ((P p) 7) := er4_
        exact hret _ _ _ dX5_pair_121 (by rw [sP_t hp]; rfl)
      · skip
        subst hw
        refine lv_tableIn (off := 88) (tgt := 122) hx hb dX5_pair_34 (by decide) (by decide) (by decide) (by decide) ?_
        refine lv_aload_n hx hb dX5_pair_122 rfl (lv_at hl 0 rfl) ?_
        refine lv_aload_n hx hb dX5_pair_123 rfl (lv_at hl 0 rfl) ?_
        refine va_get (D := D) (ci := 1) (v := .int ((P p) 6)) (C := RX1) (T := TX1) (N := 8) hx hb hts inwX5_pair_X1 hown hK hP 0 rfl rfl 1 (by decide) (hts (.fieldLink RX5 146 "PlateSlabs$Plates" "depth" "I") (List.mem_of_getElem? (i := 4) rfl)) (fun _ h9 => h9) rfl dX5_pair_124 ?_
        refine callRi (As := [.int ((P p) 6)]) ⟨hx, hb, hml, hown, hts⟩ (mX1_drawnBackAt l T D (b (2 + 2 * p)) (b (3 + 2 * p)) (P p) (E p) ((P p) 6)) (cwV 1 hts gX5_pair_X1_drawnBackAt rfl rfl rfl pdX1_drawnBackAt ⟨Nat.le_of_ble_eq_true rfl, Nat.le_of_ble_eq_true rfl⟩) (hP.sub [0, 1] rfl) hK xN_bl (fun U _ hW => XN_warm hW hX) (ci := 1) rfl rfl rfl hl.1 rfl rfl (Nat.le_of_ble_eq_true rfl) dX5_pair_127 ⟨Nat.zero_le _, Nat.zero_le _⟩ (fun r5_ er5_ => ?_)
        obtain rfl : r5_ = kSpring (P p) ((P p) 6) := er5_
        refine va_mabs hx hb (hml.trans hl.1.symm) hown (hts (.methodLink RX5 167 Lib.Math.abs.name) (List.mem_of_getElem? (i := 8) rfl)) (hts (.static Lib.Math.abs.name) (List.mem_of_getElem? (i := 9) rfl)) (hts (.initialized "java/lang/Math") (List.mem_of_getElem? (i := 10) rfl)) (hts (.code Lib.Math.abs.name Lib.Math.abs.code 1 (some .int)) (List.mem_of_getElem? (i := 11) rfl)) (Nat.le_of_ble_eq_true rfl) (Nat.le_of_ble_eq_true rfl) (Nat.le_of_ble_eq_true rfl) (Nat.le_of_ble_eq_true rfl) dX5_pair_130 ?_
        refine lv_tpi (z := kSize (kSpring (P p) (P p 6))) (abs_size _) ?_
        exact hret _ _ _ dX5_pair_133 (by rw [sP_t hp]; rfl)
    · skip
      have c23 := bI_n0 c23
      obtain ⟨k, hkk, rfl⟩ := rng_of (n := 5) (by decide) c23
      refine lv_aload_n hx hb dX5_pair_26 rfl (lv_at hl 0 rfl) ?_
      refine va_get (D := D) (ci := 1) (v := .ref (b (3 + 2 * p))) (C := RX1) (T := TX1) (N := 8) hx hb hts inwX5_pair_X1 hown hK hP 0 rfl rfl 0 (by decide) (hts (.fieldLink RX5 142 "PlateSlabs$Plates" "settings" "[I") (List.mem_of_getElem? (i := 3) rfl)) (fun _ h9 => h9) rfl dX5_pair_27 ?_
      refine lv_iload_n hx hb dX5_pair_30 rfl (lv_at hl 3 rfl) ?_
      refine va_iald hx hb hK hP 1 0 rfl rfl (vp_in_nI (by omega) (by decide)) dX5_pair_31 ?_
      refine lv_tpi (congrArg (fun z => (P p) z) (nI_clamp (by omega))) ?_
      exact hret _ _ _ dX5_pair_32 (by rw [sP_t hp]; exact (tP_set hkk).symm)
  · skip
    have c4 := bI_0 c4
    refine lv_iconst (v := (-1)) hx hb dX5_pair_7 (by decide) ?_
    exact hret _ _ _ dX5_pair_8 (sP_f c4).symm

def rmX5_book : Room := { frames := 2, cells := 0, slots := 0, locals := 43 }
set_option maxHeartbeats 4000000 in
set_option maxRecDepth 100000 in
theorem mX5_book (l : Launch) (T : Nat → ClassId) (D : va_G) (z x2 x3 xh xa xy : Nat) (k0 k1 k2 k3 : Int32) (b : Nat → Nat) (t : Nat → Int32) (P : Nat → Nat → Int32) (E : Nat → Nat → Int64) (hk : ∀ p, p < 4 → kOk (P p)) (x : Int32) (w : Int32) : RdL l yX5_book wsX5_book rmX5_book T xN D [.ref z, .int x, .int w] ([(z, .inr (5, [.ref (b 0), .ref x2, .ref x3, .int k0, .ref xh, .ref xa, .ref xy, .int k1, .int k2, .int k3])), ((b 0), .inr (2, [.ref (b 1), .int (t 0), .int (t 1), .int (t 2)])), ((b 1), .inl (T 3, 4, .inr (.inr (.inr (.inr ((fun i => some (b (2 + 2 * i)))))))))] ++ stT T b P E) (fun r => r = sP x (fun p => tB (P p) (E p) w) (-1)) := by
  refine met_rl (cc := cX5_book) (maxL := 4) (by decide) rfl (Nat.le_of_ble_eq_true rfl) ?_
  intro p_ e s m args below meth c H ls Q hx hb hts hown hml hX hH hP hK hl hret
  have hl : lv_has ls 4 [(0, .ref z), (1, .int x), (2, .int w)] := hl
  refine lv_iload_n hx hb dX5_book_0 rfl (lv_at hl 1 rfl) ?_
  refine callSi (As := [.int x]) ⟨hx, hb, hml, hown, hts⟩ (mX5_isPair l T D x) (va_cwS 1 hts gX5_book_X5_isPair rfl rfl rfl (pdX5_isPair).2 ⟨Nat.le_of_ble_eq_true rfl, Nat.le_of_ble_eq_true rfl⟩) wP_nil hK xN_bl (fun U _ hW => XN_warm hW hX) hl.1 rfl rfl (Nat.le_of_ble_eq_true rfl) dX5_book_1 ⟨Nat.zero_le _, Nat.zero_le _⟩ (fun r1_ er1_ => ?_)
  obtain rfl : r1_ = bI (0 ≤ x ∧ x ≤ 3) := er1_
  refine lv_if_ne (tgt := 11) hx hb dX5_book_4 (by decide) (fun c4 => ?_) (fun c4 => ?_)
  · skip
    have c4 := bI_n0 c4
    obtain ⟨p, hp, rfl⟩ := pair_of c4
    refine lv_aload_n hx hb dX5_book_11 rfl (lv_at hl 0 rfl) ?_
    refine va_get (D := D) (ci := 5) (v := .ref (b 0)) (C := RX5) (T := TX5) (N := 10) hx hb hts inwX5_book_X5 hown hK hP 0 rfl rfl 0 (by decide) (hts (.fieldLink RX5 10 "PlateSlabs" "now" "LPlateSlabs$State;") (List.mem_of_getElem? (i := 2) rfl)) (fun _ h9 => h9) rfl dX5_book_12 ?_
    refine va_get (D := D) (ci := 2) (v := .ref (b 1)) (C := RX2) (T := TX2) (N := 4) hx hb hts inwX5_book_X2 hown hK hP 1 rfl rfl 0 (by decide) (hts (.fieldLink RX5 135 "PlateSlabs$State" "pairs" "[LPlateSlabs$Plates;") (List.mem_of_getElem? (i := 3) rfl)) (fun _ h9 => h9) rfl dX5_book_15 ?_
    refine lv_iload_n hx hb dX5_book_18 rfl (lv_at hl 1 rfl) ?_
    refine va_aldq hx hb hK hP 2 3 rfl rfl (vp_in_nI (by omega) (by decide)) dX5_book_19 ?_
    refine lv_tpv (congrArg (fun z => va_rf ((fun i => some (b (2 + 2 * i))) z)) (nI_clamp (by omega))) ?_
    refine lv_astore_n (lv' := [(3, .ref (b (2 + 2 * p))), (0, .ref z), (1, .int (nI p)), (2, .int w)]) hx hb dX5_book_20 rfl hl (by decide) rfl (fun ls hl => ?_)
    have hP : va_P D vwCl ([((b (2 + 2 * p)), .inr (1, [.ref (b (3 + 2 * p)), .int ((P p) 6), .int ((P p) 7), .int ((P p) 8), .int ((P p) 9), .long ((E p) 0), .long ((E p) 1), .long ((E p) 2)])), ((b (3 + 2 * p)), .inl (T 0, 6, .inl ((P p)))), ((b 0), .inr (2, [.ref (b 1), .int (t 0), .int (t 1), .int (t 2)])), ((b 1), .inl (T 3, 4, .inr (.inr (.inr (.inr ((fun i => some (b (2 + 2 * i)))))))))] ++ stO T b P E p) H := st_foc hp (wP_right (w1 := [_]) hP)
    refine lv_iload_n hx hb dX5_book_21 rfl (lv_at hl 3 rfl) ?_
    rcases sw_0_4 w with hw | hw | hw | hw | hw | hw
    · skip
      refine lv_tableOut (tgt := 96) hx hb dX5_book_22 hw (by decide) ?_
      refine lv_ldc2 (v := -2) hx hb hown (hts (.constantLong RX5 188 (-2)) (List.mem_of_getElem? (i := 7) rfl)) dX5_book_96 ?_
      exact hret _ _ _ dX5_book_99 (by rw [sP_t hp]; exact (tB_def hw).symm)
    · skip
      subst hw
      refine lv_tableIn (off := 34) (tgt := 56) hx hb dX5_book_22 (by decide) (by decide) (by decide) (by decide) ?_
      refine lv_aload_n hx hb dX5_book_56 rfl (lv_at hl 0 rfl) ?_
      refine callRl (As := []) ⟨hx, hb, hml, hown, hts⟩ (mX1_stored l T D (b (2 + 2 * p)) (b (3 + 2 * p)) (P p) (E p) (hk p hp)) (cwV 0 hts gX5_book_X1_stored rfl rfl rfl pdX1_stored ⟨Nat.le_of_ble_eq_true rfl, Nat.le_of_ble_eq_true rfl⟩) (hP.sub [0, 1] rfl) hK xN_bl (fun U _ hW => XN_warm hW hX) (ci := 1) rfl rfl rfl hl.1 rfl rfl (Nat.le_of_ble_eq_true rfl) dX5_book_57 ⟨Nat.zero_le _, Nat.zero_le _⟩ (fun r2_ er2_ => ?_)
      obtain rfl : r2_ = kStored (P p) := er2_
      exact hret _ _ _ dX5_book_60 (by rw [sP_t hp]; rfl)
    · skip
      subst hw
      refine lv_tableIn (off := 39) (tgt := 61) hx hb dX5_book_22 (by decide) (by decide) (by decide) (by decide) ?_
      refine lv_aload_n hx hb dX5_book_61 rfl (lv_at hl 0 rfl) ?_
      refine va_get (D := D) (ci := 1) (v := .long ((E p) 0)) (C := RX1) (T := TX1) (N := 8) hx hb hts inwX5_book_X1 hown hK hP 0 rfl rfl 5 (by decide) (hts (.fieldLink RX5 178 "PlateSlabs$Plates" "gave" "J") (List.mem_of_getElem? (i := 4) rfl)) (fun _ h9 => h9) rfl dX5_book_62 ?_
      exact hret _ _ _ dX5_book_65 (by rw [sP_t hp]; rfl)
    · skip
      subst hw
      refine lv_tableIn (off := 44) (tgt := 66) hx hb dX5_book_22 (by decide) (by decide) (by decide) (by decide) ?_
      refine lv_aload_n hx hb dX5_book_66 rfl (lv_at hl 0 rfl) ?_
      refine va_get (D := D) (ci := 1) (v := .long ((E p) 1)) (C := RX1) (T := TX1) (N := 8) hx hb hts inwX5_book_X1 hown hK hP 0 rfl rfl 6 (by decide) (hts (.fieldLink RX5 182 "PlateSlabs$Plates" "leaked" "J") (List.mem_of_getElem? (i := 5) rfl)) (fun _ h9 => h9) rfl dX5_book_67 ?_
      exact hret _ _ _ dX5_book_70 (by rw [sP_t hp]; rfl)
    · skip
      subst hw
      refine lv_tableIn (off := 49) (tgt := 71) hx hb dX5_book_22 (by decide) (by decide) (by decide) (by decide) ?_
      refine lv_aload_n hx hb dX5_book_71 rfl (lv_at hl 0 rfl) ?_
      refine va_get (D := D) (ci := 1) (v := .long ((E p) 2)) (C := RX1) (T := TX1) (N := 8) hx hb hts inwX5_book_X1 hown hK hP 0 rfl rfl 7 (by decide) (hts (.fieldLink RX5 185 "PlateSlabs$Plates" "sparked" "J") (List.mem_of_getElem? (i := 6) rfl)) (fun _ h9 => h9) rfl dX5_book_72 ?_
      exact hret _ _ _ dX5_book_75 (by rw [sP_t hp]; rfl)
    · skip
      subst hw
      refine lv_tableIn (off := 54) (tgt := 76) hx hb dX5_book_22 (by decide) (by decide) (by decide) (by decide) ?_
      refine lv_aload_n hx hb dX5_book_76 rfl (lv_at hl 0 rfl) ?_
      refine va_get (D := D) (ci := 1) (v := .long ((E p) 0)) (C := RX1) (T := TX1) (N := 8) hx hb hts inwX5_book_X1 hown hK hP 0 rfl rfl 5 (by decide) (hts (.fieldLink RX5 178 "PlateSlabs$Plates" "gave" "J") (List.mem_of_getElem? (i := 4) rfl)) (fun _ h9 => h9) rfl dX5_book_77 ?_
      refine lv_aload_n hx hb dX5_book_80 rfl (lv_at hl 0 rfl) ?_
      refine callRl (As := []) ⟨hx, hb, hml, hown, hts⟩ (mX1_stored l T D (b (2 + 2 * p)) (b (3 + 2 * p)) (P p) (E p) (hk p hp)) (cwV 0 hts gX5_book_X1_stored rfl rfl rfl pdX1_stored ⟨Nat.le_of_ble_eq_true rfl, Nat.le_of_ble_eq_true rfl⟩) (hP.sub [0, 1] rfl) hK xN_bl (fun U _ hW => XN_warm hW hX) (ci := 1) rfl rfl rfl hl.1 rfl rfl (Nat.le_of_ble_eq_true rfl) dX5_book_81 ⟨Nat.zero_le _, Nat.zero_le _⟩ (fun r3_ er3_ => ?_)
      obtain rfl : r3_ = kStored (P p) := er3_
      refine lv_lsub hx hb dX5_book_84 ?_
      refine lv_aload_n hx hb dX5_book_85 rfl (lv_at hl 0 rfl) ?_
      refine va_get (D := D) (ci := 1) (v := .long ((E p) 1)) (C := RX1) (T := TX1) (N := 8) hx hb hts inwX5_book_X1 hown hK hP 0 rfl rfl 6 (by decide) (hts (.fieldLink RX5 182 "PlateSlabs$Plates" "leaked" "J") (List.mem_of_getElem? (i := 5) rfl)) (fun _ h9 => h9) rfl dX5_book_86 ?_
      refine lv_lsub hx hb dX5_book_89 ?_
      refine lv_aload_n hx hb dX5_book_90 rfl (lv_at hl 0 rfl) ?_
      refine va_get (D := D) (ci := 1) (v := .long ((E p) 2)) (C := RX1) (T := TX1) (N := 8) hx hb hts inwX5_book_X1 hown hK hP 0 rfl rfl 7 (by decide) (hts (.fieldLink RX5 185 "PlateSlabs$Plates" "sparked" "J") (List.mem_of_getElem? (i := 6) rfl)) (fun _ h9 => h9) rfl dX5_book_91 ?_
      refine lv_lsub hx hb dX5_book_94 ?_
      exact hret _ _ _ dX5_book_95 (by rw [sP_t hp]; rfl)
  · skip
    have c4 := bI_0 c4
    refine lv_ldc2 (v := -1) hx hb hown (hts (.constantLong RX5 172 (-1)) (List.mem_of_getElem? (i := 1) rfl)) dX5_book_7 ?_
    exact hret _ _ _ dX5_book_10 (sP_f c4).symm
