theorem pdX6_pair : yX6_pair.cls = RX6 ∧ yX6_pair.cls ≠ "java/lang/invoke/MethodHandle" ∧ yX6_pair.cls ≠ "java/lang/invoke/VarHandle" ∧ (parseMethodDescriptor yX6_pair.desc).map (fun d => d.parameters.length) = some 2 := by decide +kernel
theorem pdX6_book : yX6_book.cls = RX6 ∧ yX6_book.cls ≠ "java/lang/invoke/MethodHandle" ∧ yX6_book.cls ≠ "java/lang/invoke/VarHandle" ∧ (parseMethodDescriptor yX6_book.desc).map (fun d => d.parameters.length) = some 2 := by decide +kernel
theorem pdX6_reason : yX6_reason.cls = RX6 ∧ yX6_reason.cls ≠ "java/lang/invoke/MethodHandle" ∧ yX6_reason.cls ≠ "java/lang/invoke/VarHandle" ∧ (parseMethodDescriptor yX6_reason.desc).map (fun d => d.parameters.length) = some 1 := by decide +kernel
theorem pdX6_force : yX6_force.cls = RX6 ∧ yX6_force.cls ≠ "java/lang/invoke/MethodHandle" ∧ yX6_force.cls ≠ "java/lang/invoke/VarHandle" ∧ (parseMethodDescriptor yX6_force.desc).map (fun d => d.parameters.length) = some 2 := by decide +kernel
theorem pdX6_leastVoltage : yX6_leastVoltage.cls = RX6 ∧ yX6_leastVoltage.cls ≠ "java/lang/invoke/MethodHandle" ∧ yX6_leastVoltage.cls ≠ "java/lang/invoke/VarHandle" ∧ (parseMethodDescriptor yX6_leastVoltage.desc).map (fun d => d.parameters.length) = some 1 := by decide +kernel
theorem pdX6_isDrawn : yX6_isDrawn.cls = RX6 ∧ yX6_isDrawn.cls ≠ "java/lang/invoke/MethodHandle" ∧ yX6_isDrawn.cls ≠ "java/lang/invoke/VarHandle" ∧ (parseMethodDescriptor yX6_isDrawn.desc).map (fun d => d.parameters.length) = some 2 := by decide +kernel
theorem pdX6_drawingVoltage : yX6_drawingVoltage.cls = RX6 ∧ yX6_drawingVoltage.cls ≠ "java/lang/invoke/MethodHandle" ∧ yX6_drawingVoltage.cls ≠ "java/lang/invoke/VarHandle" ∧ (parseMethodDescriptor yX6_drawingVoltage.desc).map (fun d => d.parameters.length) = some 1 := by decide +kernel
theorem pdX6_strongest : yX6_strongest.cls = RX6 ∧ yX6_strongest.cls ≠ "java/lang/invoke/MethodHandle" ∧ yX6_strongest.cls ≠ "java/lang/invoke/VarHandle" ∧ (parseMethodDescriptor yX6_strongest.desc).map (fun d => d.parameters.length) = some 0 := by decide +kernel
theorem pdX6_count : yX6_count.cls = RX6 ∧ yX6_count.cls ≠ "java/lang/invoke/MethodHandle" ∧ yX6_count.cls ≠ "java/lang/invoke/VarHandle" ∧ (parseMethodDescriptor yX6_count.desc).map (fun d => d.parameters.length) = some 1 := by decide +kernel
theorem inwX6_pair_X6 : ∀ w ∈ wsX60, w ∈ wsX6_pair := by decide +kernel
theorem inwX6_book_X6 : ∀ w ∈ wsX60, w ∈ wsX6_book := by decide +kernel
theorem inwX6_reason_X6 : ∀ w ∈ wsX60, w ∈ wsX6_reason := by decide +kernel
theorem inwX6_force_X6 : ∀ w ∈ wsX60, w ∈ wsX6_force := by decide +kernel
theorem inwX6_leastVoltage_X6 : ∀ w ∈ wsX60, w ∈ wsX6_leastVoltage := by decide +kernel
theorem inwX6_isDrawn_X6 : ∀ w ∈ wsX60, w ∈ wsX6_isDrawn := by decide +kernel
theorem inwX6_drawingVoltage_X6 : ∀ w ∈ wsX60, w ∈ wsX6_drawingVoltage := by decide +kernel
theorem inwX6_strongest_X6 : ∀ w ∈ wsX60, w ∈ wsX6_strongest := by decide +kernel
theorem inwX6_count_X6 : ∀ w ∈ wsX60, w ∈ wsX6_count := by decide +kernel
def rmX6_reason : Room := { frames := 7, cells := 0, slots := 0, locals := 159 }
set_option maxHeartbeats 4000000 in
set_option maxRecDepth 100000 in
theorem mX6_reason (l : Launch) (T : Nat → ClassId) (D : va_G) (a qs : Nat) (fs : List Value) (t : Nat → Int32) (P : Nat → Nat → Int32) (hf : fs[0]? = some (.ref qs)) (hk : ∀ p, p < 4 → kOk (P p)) (x : Int32) : RdI l yX6_reason wsX6_reason rmX6_reason T xN D [.ref a, .int x] [(a, .inr (6, fs)), (qs, .inl (T 0, 43, .inl (mS t P)))] (fun r => r = sP x (fun p => kWhy (P p)) (-1)) := by
  refine met_ri (cc := cX6_reason) (maxL := 2) (by decide) rfl (Nat.le_of_ble_eq_true rfl) ?_
  intro p_ e s m args below meth c H ls Q hx hb hts hown hml hX hH hP hK hl hret
  have hl : lv_has ls 2 [(0, .ref a), (1, .int x)] := hl
  refine lv_iload_n hx hb dX6_reason_0 rfl (lv_at hl 1 rfl) ?_
  refine callSi (As := [.int x]) ⟨hx, hb, hml, hown, hts⟩ (mX6_isPair l T D x) (va_cwS 1 hts gX6_reason_X6_isPair rfl rfl rfl (pdX6_isPair).2 ⟨Nat.le_of_ble_eq_true rfl, Nat.le_of_ble_eq_true rfl⟩) wP_nil hK xN_bl (fun U _ hW => XN_warm hW hX) hl.1 rfl rfl (Nat.le_of_ble_eq_true rfl) dX6_reason_1 ⟨Nat.zero_le _, Nat.zero_le _⟩ (fun r1_ er1_ => ?_)
  obtain rfl : r1_ = bI (0 ≤ x ∧ x ≤ 3) := er1_
  refine lv_if_eq (tgt := 15) hx hb dX6_reason_4 (by decide) (fun c4 => ?_) (fun c4 => ?_)
  · skip
    have c4 := bI_0 c4
    
    refine lv_iconst (v := (-1)) hx hb dX6_reason_15 (by decide) ?_
    exact hret _ _ _ dX6_reason_16 (sP_f c4).symm
  · skip
    have c4 := bI_n0 c4
    obtain ⟨p, hp, rfl⟩ := pair_of c4
    refine lv_aload_n hx hb dX6_reason_7 rfl (lv_at hl 0 rfl) ?_
    refine lv_iload_n hx hb dX6_reason_8 rfl (lv_at hl 1 rfl) ?_
    refine callRi (As := [.int (nI p)]) ⟨hx, hb, hml, hown, hts⟩ (mX6_why l T D a qs fs t P hf p hp (hk p hp)) (cwV 1 hts gX6_reason_X6_why rfl rfl rfl pdX6_why ⟨Nat.le_of_ble_eq_true rfl, Nat.le_of_ble_eq_true rfl⟩) hP hK xN_bl (fun U _ hW => XN_warm hW hX) (ci := 6) rfl rfl rfl hl.1 rfl rfl (Nat.le_of_ble_eq_true rfl) dX6_reason_9 ⟨Nat.zero_le _, Nat.zero_le _⟩ (fun r2_ er2_ => ?_)
    obtain rfl : r2_ = kWhy (P p) := er2_
    refine lv_goto (tgt := 16) hx hb dX6_reason_12 (by decide) ?_
    exact hret _ _ _ dX6_reason_16 (by rw [sP_t hp])

def rmX6_force : Room := { frames := 5, cells := 0, slots := 0, locals := 115 }
set_option maxHeartbeats 4000000 in
set_option maxRecDepth 100000 in
theorem mX6_force (l : Launch) (T : Nat → ClassId) (D : va_G) (a qs : Nat) (fs : List Value) (t : Nat → Int32) (P : Nat → Nat → Int32) (hf : fs[0]? = some (.ref qs)) (hk : ∀ p, p < 4 → kOk (P p)) (x : Int32) (d : Int32) : RdI l yX6_force wsX6_force rmX6_force T xN D [.ref a, .int x, .int d] [(a, .inr (6, fs)), (qs, .inl (T 0, 43, .inl (mS t P)))] (fun r => r = sP x (fun p => tF (P p) d) (-1)) := by
  refine met_ri (cc := cX6_force) (maxL := 3) (by decide) rfl (Nat.le_of_ble_eq_true rfl) ?_
  intro p_ e s m args below meth c H ls Q hx hb hts hown hml hX hH hP hK hl hret
  have hl : lv_has ls 3 [(0, .ref a), (1, .int x), (2, .int d)] := hl
  refine lv_iload_n hx hb dX6_force_0 rfl (lv_at hl 1 rfl) ?_
  refine callSi (As := [.int x]) ⟨hx, hb, hml, hown, hts⟩ (mX6_isPair l T D x) (va_cwS 1 hts gX6_force_X6_isPair rfl rfl rfl (pdX6_isPair).2 ⟨Nat.le_of_ble_eq_true rfl, Nat.le_of_ble_eq_true rfl⟩) wP_nil hK xN_bl (fun U _ hW => XN_warm hW hX) hl.1 rfl rfl (Nat.le_of_ble_eq_true rfl) dX6_force_1 ⟨Nat.zero_le _, Nat.zero_le _⟩ (fun r1_ er1_ => ?_)
  obtain rfl : r1_ = bI (0 ≤ x ∧ x ≤ 3) := er1_
  refine lv_if_ne (tgt := 9) hx hb dX6_force_4 (by decide) (fun c4 => ?_) (fun c4 => ?_)
  · skip
    have c4 := bI_n0 c4
    obtain ⟨p, hp, rfl⟩ := pair_of c4
    refine lv_iload_n hx hb dX6_force_9 rfl (lv_at hl 2 rfl) ?_
    refine lv_iconst (v := 0) hx hb dX6_force_10 (by decide) ?_
    refine lv_bipush (v := 40) hx hb dX6_force_11 (by decide) ?_
    refine callSi (As := [.int d, .int 0, .int 40]) ⟨hx, hb, hml, hown, hts⟩ (mX6_in l T D d 0 40) (va_cwS 3 hts gX6_force_X6_in rfl rfl rfl (pdX6_in).2 ⟨Nat.le_of_ble_eq_true rfl, Nat.le_of_ble_eq_true rfl⟩) wP_nil hK xN_bl (fun U _ hW => XN_warm hW hX) hl.1 rfl rfl (Nat.le_of_ble_eq_true rfl) dX6_force_13 ⟨Nat.zero_le _, Nat.zero_le _⟩ (fun r2_ er2_ => ?_)
    obtain rfl : r2_ = bI (0 ≤ d ∧ d ≤ 40) := er2_
    refine lv_if_eq (tgt := 45) hx hb dX6_force_16 (by decide) (fun c16 => ?_) (fun c16 => ?_)
    · skip
      have c16 := bI_0 c16
      refine lv_bipush (v := (-2)) hx hb dX6_force_45 (by decide) ?_
      exact hret _ _ _ dX6_force_47 (by rw [sP_t hp, tF, if_neg c16])
    · skip
      have c16 := bI_n0 c16
      have hd : kDp d := dp_of c16
      refine lv_aload_n hx hb dX6_force_19 rfl (lv_at hl 0 rfl) ?_
      refine lv_iload_n hx hb dX6_force_20 rfl (lv_at hl 1 rfl) ?_
      refine lv_iload_n hx hb dX6_force_21 rfl (lv_at hl 2 rfl) ?_
      refine lv_aload_n hx hb dX6_force_22 rfl (lv_at hl 0 rfl) ?_
      refine lv_iload_n hx hb dX6_force_23 rfl (lv_at hl 1 rfl) ?_
      refine lv_bipush (v := nI 7) hx hb dX6_force_24 (by decide) ?_
      refine callRi (As := [.int (nI p), .int (nI 7)]) ⟨hx, hb, hml, hown, hts⟩ (mX6_of l T D a qs fs t P hf p hp 7 (by decide)) (cwV 2 hts gX6_force_X6_of rfl rfl rfl pdX6_of ⟨Nat.le_of_ble_eq_true rfl, Nat.le_of_ble_eq_true rfl⟩) hP hK xN_bl (fun U _ hW => XN_warm hW hX) (ci := 6) rfl rfl rfl hl.1 rfl rfl (Nat.le_of_ble_eq_true rfl) dX6_force_26 ⟨Nat.zero_le _, Nat.zero_le _⟩ (fun r3_ er3_ => ?_)
      obtain rfl : r3_ = P p 7 := er3_
      refine callRi (As := [.int (nI p), .int d, .int (P p 7)]) ⟨hx, hb, hml, hown, hts⟩ (mX6_pullAt l T D a qs fs t P hf p hp d (P p 7) (hk p hp) hd) (cwV 3 hts gX6_force_X6_pullAt rfl rfl rfl pdX6_pullAt ⟨Nat.le_of_ble_eq_true rfl, Nat.le_of_ble_eq_true rfl⟩) hP hK xN_bl (fun U _ hW => XN_warm hW hX) (ci := 6) rfl rfl rfl hl.1 rfl rfl (Nat.le_of_ble_eq_true rfl) dX6_force_29 ⟨Nat.zero_le _, Nat.zero_le _⟩ (fun r4_ er4_ => ?_)
      obtain rfl : r4_ = kPullAt (P p) d (P p 7) := er4_
      refine lv_aload_n hx hb dX6_force_32 rfl (lv_at hl 0 rfl) ?_
      refine lv_iload_n hx hb dX6_force_33 rfl (lv_at hl 1 rfl) ?_
      refine lv_iload_n hx hb dX6_force_34 rfl (lv_at hl 2 rfl) ?_
      refine callRi (As := [.int (nI p), .int d]) ⟨hx, hb, hml, hown, hts⟩ (mX6_spring l T D a qs fs t P hf p hp d) (cwV 2 hts gX6_force_X6_spring rfl rfl rfl pdX6_spring ⟨Nat.le_of_ble_eq_true rfl, Nat.le_of_ble_eq_true rfl⟩) hP hK xN_bl (fun U _ hW => XN_warm hW hX) (ci := 6) rfl rfl rfl hl.1 rfl rfl (Nat.le_of_ble_eq_true rfl) dX6_force_35 ⟨Nat.zero_le _, Nat.zero_le _⟩ (fun r5_ er5_ => ?_)
      obtain rfl : r5_ = kSpring (P p) d := er5_
      refine lv_isub hx hb dX6_force_38 ?_
      refine callSi (As := [.int ((kPullAt (P p) d (P p 7)) - (kSpring (P p) d))]) ⟨hx, hb, hml, hown, hts⟩ (mX6_size l T D ((kPullAt (P p) d (P p 7)) - (kSpring (P p) d))) (va_cwS 1 hts gX6_force_X6_size rfl rfl rfl (pdX6_size).2 ⟨Nat.le_of_ble_eq_true rfl, Nat.le_of_ble_eq_true rfl⟩) wP_nil hK xN_bl (fun U _ hW => XN_warm hW hX) hl.1 rfl rfl (Nat.le_of_ble_eq_true rfl) dX6_force_39 ⟨Nat.zero_le _, Nat.zero_le _⟩ (fun r6_ er6_ => ?_)
      obtain rfl : r6_ = kSize ((kPullAt (P p) d (P p 7)) - (kSpring (P p) d)) := er6_
      refine lv_goto (tgt := 47) hx hb dX6_force_42 (by decide) ?_
      exact hret _ _ _ dX6_force_47 (by rw [sP_t hp, tF, if_pos c16])
  · skip
    have c4 := bI_0 c4
    refine lv_iconst (v := (-1)) hx hb dX6_force_7 (by decide) ?_
    exact hret _ _ _ dX6_force_8 (sP_f c4).symm

def rmX6_pair : Room := { frames := 6, cells := 0, slots := 0, locals := 136 }
set_option maxHeartbeats 4000000 in
set_option maxRecDepth 100000 in
theorem mX6_pair (l : Launch) (T : Nat → ClassId) (D : va_G) (a qs : Nat) (fs : List Value) (t : Nat → Int32) (P : Nat → Nat → Int32) (hf : fs[0]? = some (.ref qs)) (hk : ∀ p, p < 4 → kOk (P p)) (x : Int32) (w : Int32) : RdI l yX6_pair wsX6_pair rmX6_pair T xN D [.ref a, .int x, .int w] [(a, .inr (6, fs)), (qs, .inl (T 0, 43, .inl (mS t P)))] (fun r => r = sP x (fun p => tP (P p) w) (-1)) := by
  refine met_ri (cc := cX6_pair) (maxL := 3) (by decide) rfl (Nat.le_of_ble_eq_true rfl) ?_
  intro p_ e s m args below meth c H ls Q hx hb hts hown hml hX hH hP hK hl hret
  have hl : lv_has ls 3 [(0, .ref a), (1, .int x), (2, .int w)] := hl
  refine lv_iload_n hx hb dX6_pair_0 rfl (lv_at hl 1 rfl) ?_
  refine callSi (As := [.int x]) ⟨hx, hb, hml, hown, hts⟩ (mX6_isPair l T D x) (va_cwS 1 hts gX6_pair_X6_isPair rfl rfl rfl (pdX6_isPair).2 ⟨Nat.le_of_ble_eq_true rfl, Nat.le_of_ble_eq_true rfl⟩) wP_nil hK xN_bl (fun U _ hW => XN_warm hW hX) hl.1 rfl rfl (Nat.le_of_ble_eq_true rfl) dX6_pair_1 ⟨Nat.zero_le _, Nat.zero_le _⟩ (fun r1_ er1_ => ?_)
  obtain rfl : r1_ = bI (0 ≤ x ∧ x ≤ 3) := er1_
  refine lv_if_ne (tgt := 9) hx hb dX6_pair_4 (by decide) (fun c4 => ?_) (fun c4 => ?_)
  · skip
    have c4 := bI_n0 c4
    obtain ⟨p, hp, rfl⟩ := pair_of c4
    refine lv_iload_n hx hb dX6_pair_9 rfl (lv_at hl 2 rfl) ?_
    rcases sw_7_12 w with hw | hw | hw | hw | hw | hw | hw
    · skip
      refine lv_tableOut (tgt := 85) hx hb dX6_pair_10 hw (by decide) ?_
      refine lv_iload_n hx hb dX6_pair_85 rfl (lv_at hl 2 rfl) ?_
      refine lv_iconst (v := 0) hx hb dX6_pair_86 (by decide) ?_
      refine lv_bipush (v := 6) hx hb dX6_pair_87 (by decide) ?_
      refine callSi (As := [.int w, .int 0, .int 6]) ⟨hx, hb, hml, hown, hts⟩ (mX6_in l T D w 0 6) (va_cwS 3 hts gX6_pair_X6_in rfl rfl rfl (pdX6_in).2 ⟨Nat.le_of_ble_eq_true rfl, Nat.le_of_ble_eq_true rfl⟩) wP_nil hK xN_bl (fun U _ hW => XN_warm hW hX) hl.1 rfl rfl (Nat.le_of_ble_eq_true rfl) dX6_pair_89 ⟨Nat.zero_le _, Nat.zero_le _⟩ (fun r2_ er2_ => ?_)
      obtain rfl : r2_ = bI (0 ≤ w ∧ w ≤ 6) := er2_
      refine lv_if_eq (tgt := 104) hx hb dX6_pair_92 (by decide) (fun c92 => ?_) (fun c92 => ?_)
      · skip
        have c92 := bI_0 c92
        refine lv_bipush (v := (-2)) hx hb dX6_pair_104 (by decide) ?_
        exact hret _ _ _ dX6_pair_106 (by rw [sP_t hp, tP_def hw, if_neg c92])
      · skip
        have c92 := bI_n0 c92
        obtain ⟨k, hkk, rfl⟩ := rng_of (n := 6) (by decide) c92
        refine lv_aload_n hx hb dX6_pair_95 rfl (lv_at hl 0 rfl) ?_
        refine lv_iload_n hx hb dX6_pair_96 rfl (lv_at hl 1 rfl) ?_
        refine lv_iload_n hx hb dX6_pair_97 rfl (lv_at hl 2 rfl) ?_
        refine callRi (As := [.int (nI p), .int (nI k)]) ⟨hx, hb, hml, hown, hts⟩ (mX6_of l T D a qs fs t P hf p hp k (by omega)) (cwV 2 hts gX6_pair_X6_of rfl rfl rfl pdX6_of ⟨Nat.le_of_ble_eq_true rfl, Nat.le_of_ble_eq_true rfl⟩) hP hK xN_bl (fun U _ hW => XN_warm hW hX) (ci := 6) rfl rfl rfl hl.1 rfl rfl (Nat.le_of_ble_eq_true rfl) dX6_pair_98 ⟨Nat.zero_le _, Nat.zero_le _⟩ (fun r3_ er3_ => ?_)
        obtain rfl : r3_ = P p k := er3_
        refine lv_goto (tgt := 106) hx hb dX6_pair_101 (by decide) ?_
        exact hret _ _ _ dX6_pair_106 (by rw [sP_t hp, tP_def hw, if_pos c92, nI_clamp (by omega)])
    · skip
      subst hw
      refine lv_tableIn (off := 38) (tgt := 48) hx hb dX6_pair_10 (by decide) (by decide) (by decide) (by decide) ?_
      refine lv_aload_n hx hb dX6_pair_48 rfl (lv_at hl 0 rfl) ?_
      refine lv_iload_n hx hb dX6_pair_49 rfl (lv_at hl 1 rfl) ?_
      refine callRi (As := [.int (nI p)]) ⟨hx, hb, hml, hown, hts⟩ (mX6_capacityNow l T D a qs fs t P hf p hp ) (cwV 1 hts gX6_pair_X6_capacityNow rfl rfl rfl pdX6_capacityNow ⟨Nat.le_of_ble_eq_true rfl, Nat.le_of_ble_eq_true rfl⟩) hP hK xN_bl (fun U _ hW => XN_warm hW hX) (ci := 6) rfl rfl rfl hl.1 rfl rfl (Nat.le_of_ble_eq_true rfl) dX6_pair_50 ⟨Nat.zero_le _, Nat.zero_le _⟩ (fun r4_ er4_ => ?_)
      obtain rfl : r4_ = kCap (P p) (P p 6) := er4_
      exact hret _ _ _ dX6_pair_53 (by rw [sP_t hp]; rfl)
    · skip
      subst hw
      refine lv_tableIn (off := 44) (tgt := 54) hx hb dX6_pair_10 (by decide) (by decide) (by decide) (by decide) ?_
      refine lv_aload_n hx hb dX6_pair_54 rfl (lv_at hl 0 rfl) ?_
      refine lv_iload_n hx hb dX6_pair_55 rfl (lv_at hl 1 rfl) ?_
      refine lv_iload_n hx hb dX6_pair_56 rfl (lv_at hl 2 rfl) ?_
      refine lv_iconst (v := 1) hx hb dX6_pair_57 (by decide) ?_
      refine lv_isub hx hb dX6_pair_58 ?_
      refine lv_tpi (z := nI 7) (by decide) ?_
      refine callRi (As := [.int (nI p), .int (nI 7)]) ⟨hx, hb, hml, hown, hts⟩ (mX6_of l T D a qs fs t P hf p hp 7 (by decide)) (cwV 2 hts gX6_pair_X6_of rfl rfl rfl pdX6_of ⟨Nat.le_of_ble_eq_true rfl, Nat.le_of_ble_eq_true rfl⟩) hP hK xN_bl (fun U _ hW => XN_warm hW hX) (ci := 6) rfl rfl rfl hl.1 rfl rfl (Nat.le_of_ble_eq_true rfl) dX6_pair_59 ⟨Nat.zero_le _, Nat.zero_le _⟩ (fun r5_ er5_ => ?_)
      obtain rfl : r5_ = P p 7 := er5_
      exact hret _ _ _ dX6_pair_62 (by rw [sP_t hp]; rfl)
    · skip
      subst hw
      refine lv_tableIn (off := 44) (tgt := 54) hx hb dX6_pair_10 (by decide) (by decide) (by decide) (by decide) ?_
      refine lv_aload_n hx hb dX6_pair_54 rfl (lv_at hl 0 rfl) ?_
      refine lv_iload_n hx hb dX6_pair_55 rfl (lv_at hl 1 rfl) ?_
      refine lv_iload_n hx hb dX6_pair_56 rfl (lv_at hl 2 rfl) ?_
      refine lv_iconst (v := 1) hx hb dX6_pair_57 (by decide) ?_
      refine lv_isub hx hb dX6_pair_58 ?_
      refine lv_tpi (z := nI 8) (by decide) ?_
      refine callRi (As := [.int (nI p), .int (nI 8)]) ⟨hx, hb, hml, hown, hts⟩ (mX6_of l T D a qs fs t P hf p hp 8 (by decide)) (cwV 2 hts gX6_pair_X6_of rfl rfl rfl pdX6_of ⟨Nat.le_of_ble_eq_true rfl, Nat.le_of_ble_eq_true rfl⟩) hP hK xN_bl (fun U _ hW => XN_warm hW hX) (ci := 6) rfl rfl rfl hl.1 rfl rfl (Nat.le_of_ble_eq_true rfl) dX6_pair_59 ⟨Nat.zero_le _, Nat.zero_le _⟩ (fun r6_ er6_ => ?_)
      obtain rfl : r6_ = P p 8 := er6_
      exact hret _ _ _ dX6_pair_62 (by rw [sP_t hp]; rfl)
    · skip
      subst hw
      refine lv_tableIn (off := 44) (tgt := 54) hx hb dX6_pair_10 (by decide) (by decide) (by decide) (by decide) ?_
      refine lv_aload_n hx hb dX6_pair_54 rfl (lv_at hl 0 rfl) ?_
      refine lv_iload_n hx hb dX6_pair_55 rfl (lv_at hl 1 rfl) ?_
      refine lv_iload_n hx hb dX6_pair_56 rfl (lv_at hl 2 rfl) ?_
      refine lv_iconst (v := 1) hx hb dX6_pair_57 (by decide) ?_
      refine lv_isub hx hb dX6_pair_58 ?_
      refine lv_tpi (z := nI 9) (by decide) ?_
      refine callRi (As := [.int (nI p), .int (nI 9)]) ⟨hx, hb, hml, hown, hts⟩ (mX6_of l T D a qs fs t P hf p hp 9 (by decide)) (cwV 2 hts gX6_pair_X6_of rfl rfl rfl pdX6_of ⟨Nat.le_of_ble_eq_true rfl, Nat.le_of_ble_eq_true rfl⟩) hP hK xN_bl (fun U _ hW => XN_warm hW hX) (ci := 6) rfl rfl rfl hl.1 rfl rfl (Nat.le_of_ble_eq_true rfl) dX6_pair_59 ⟨Nat.zero_le _, Nat.zero_le _⟩ (fun r7_ er7_ => ?_)
      obtain rfl : r7_ = P p 9 := er7_
      exact hret _ _ _ dX6_pair_62 (by rw [sP_t hp]; rfl)
    · skip
      subst hw
      refine lv_tableIn (off := 53) (tgt := 63) hx hb dX6_pair_10 (by decide) (by decide) (by decide) (by decide) ?_
      refine lv_aload_n hx hb dX6_pair_63 rfl (lv_at hl 0 rfl) ?_
      refine lv_iload_n hx hb dX6_pair_64 rfl (lv_at hl 1 rfl) ?_
      refine callRi (As := [.int (nI p)]) ⟨hx, hb, hml, hown, hts⟩ (mX6_pullNow l T D a qs fs t P hf p hp (hk p hp)) (cwV 1 hts gX6_pair_X6_pullNow rfl rfl rfl pdX6_pullNow ⟨Nat.le_of_ble_eq_true rfl, Nat.le_of_ble_eq_true rfl⟩) hP hK xN_bl (fun U _ hW => XN_warm hW hX) (ci := 6) rfl rfl rfl hl.1 rfl rfl (Nat.le_of_ble_eq_true rfl) dX6_pair_65 ⟨Nat.zero_le _, Nat.zero_le _⟩ (fun r8_ er8_ => ?_)
      obtain rfl : r8_ = kPullAt (P p) (P p 6) (P p 7) := er8_
      exact hret _ _ _ dX6_pair_68 (by rw [sP_t hp]; rfl)
    · skip
      subst hw
      refine lv_tableIn (off := 59) (tgt := 69) hx hb dX6_pair_10 (by decide) (by decide) (by decide) (by decide) ?_
      refine lv_aload_n hx hb dX6_pair_69 rfl (lv_at hl 0 rfl) ?_
      refine lv_iload_n hx hb dX6_pair_70 rfl (lv_at hl 1 rfl) ?_
      refine lv_aload_n hx hb dX6_pair_71 rfl (lv_at hl 0 rfl) ?_
      refine lv_iload_n hx hb dX6_pair_72 rfl (lv_at hl 1 rfl) ?_
      refine lv_bipush (v := nI 6) hx hb dX6_pair_73 (by decide) ?_
      refine callRi (As := [.int (nI p), .int (nI 6)]) ⟨hx, hb, hml, hown, hts⟩ (mX6_of l T D a qs fs t P hf p hp 6 (by decide)) (cwV 2 hts gX6_pair_X6_of rfl rfl rfl pdX6_of ⟨Nat.le_of_ble_eq_true rfl, Nat.le_of_ble_eq_true rfl⟩) hP hK xN_bl (fun U _ hW => XN_warm hW hX) (ci := 6) rfl rfl rfl hl.1 rfl rfl (Nat.le_of_ble_eq_true rfl) dX6_pair_75 ⟨Nat.zero_le _, Nat.zero_le _⟩ (fun r9_ er9_ => ?_)
      obtain rfl : r9_ = P p 6 := er9_
      refine callRi (As := [.int (nI p), .int (P p 6)]) ⟨hx, hb, hml, hown, hts⟩ (mX6_spring l T D a qs fs t P hf p hp (P p 6)) (cwV 2 hts gX6_pair_X6_spring rfl rfl rfl pdX6_spring ⟨Nat.le_of_ble_eq_true rfl, Nat.le_of_ble_eq_true rfl⟩) hP hK xN_bl (fun U _ hW => XN_warm hW hX) (ci := 6) rfl rfl rfl hl.1 rfl rfl (Nat.le_of_ble_eq_true rfl) dX6_pair_78 ⟨Nat.zero_le _, Nat.zero_le _⟩ (fun r10_ er10_ => ?_)
      obtain rfl : r10_ = kSpring (P p) (P p 6) := er10_
      refine callSi (As := [.int (kSpring (P p) (P p 6))]) ⟨hx, hb, hml, hown, hts⟩ (mX6_size l T D (kSpring (P p) (P p 6))) (va_cwS 1 hts gX6_pair_X6_size rfl rfl rfl (pdX6_size).2 ⟨Nat.le_of_ble_eq_true rfl, Nat.le_of_ble_eq_true rfl⟩) wP_nil hK xN_bl (fun U _ hW => XN_warm hW hX) hl.1 rfl rfl (Nat.le_of_ble_eq_true rfl) dX6_pair_81 ⟨Nat.zero_le _, Nat.zero_le _⟩ (fun r11_ er11_ => ?_)
      obtain rfl : r11_ = kSize (kSpring (P p) (P p 6)) := er11_
      exact hret _ _ _ dX6_pair_84 (by rw [sP_t hp]; rfl)
  · skip
    have c4 := bI_0 c4
    refine lv_iconst (v := (-1)) hx hb dX6_pair_7 (by decide) ?_
    exact hret _ _ _ dX6_pair_8 (sP_f c4).symm

def rmX6_book : Room := { frames := 5, cells := 0, slots := 0, locals := 109 }
set_option maxHeartbeats 4000000 in
set_option maxRecDepth 100000 in
theorem mX6_book (l : Launch) (T : Nat → ClassId) (D : va_G) (a qs qe : Nat) (fs : List Value) (t : Nat → Int32) (P : Nat → Nat → Int32) (E : Nat → Nat → Int64) (hf : fs[0]? = some (.ref qs)) (he : fs[1]? = some (.ref qe)) (hk : ∀ p, p < 4 → kOk (P p)) (x : Int32) (w : Int32) : RdL l yX6_book wsX6_book rmX6_book T xN D [.ref a, .int x, .int w] [(a, .inr (6, fs)), (qs, .inl (T 0, 43, .inl (mS t P))), (qe, .inl (T 1, 12, .inr (.inl (mE E))))] (fun r => r = sP x (fun p => tB (P p) (E p) w) (-1)) := by
  refine met_rl (cc := cX6_book) (maxL := 3) (by decide) rfl (Nat.le_of_ble_eq_true rfl) ?_
  intro p_ e s m args below meth c H ls Q hx hb hts hown hml hX hH hP hK hl hret
  have hl : lv_has ls 3 [(0, .ref a), (1, .int x), (2, .int w)] := hl
  refine lv_iload_n hx hb dX6_book_0 rfl (lv_at hl 1 rfl) ?_
  refine callSi (As := [.int x]) ⟨hx, hb, hml, hown, hts⟩ (mX6_isPair l T D x) (va_cwS 1 hts gX6_book_X6_isPair rfl rfl rfl (pdX6_isPair).2 ⟨Nat.le_of_ble_eq_true rfl, Nat.le_of_ble_eq_true rfl⟩) wP_nil hK xN_bl (fun U _ hW => XN_warm hW hX) hl.1 rfl rfl (Nat.le_of_ble_eq_true rfl) dX6_book_1 ⟨Nat.zero_le _, Nat.zero_le _⟩ (fun r1_ er1_ => ?_)
  obtain rfl : r1_ = bI (0 ≤ x ∧ x ≤ 3) := er1_
  refine lv_if_ne (tgt := 11) hx hb dX6_book_4 (by decide) (fun c4 => ?_) (fun c4 => ?_)
  · skip
    have c4 := bI_n0 c4
    obtain ⟨p, hp, rfl⟩ := pair_of c4
    refine lv_iload_n hx hb dX6_book_11 rfl (lv_at hl 2 rfl) ?_
    rcases sw_0_4 w with hw | hw | hw | hw | hw | hw
    · skip
      refine lv_tableOut (tgt := 106) hx hb dX6_book_12 hw (by decide) ?_
      refine lv_ldc2 (v := -2) hx hb hown (hts (.constantLong RX6 203 (-2)) (List.mem_of_getElem? (i := 3) rfl)) dX6_book_106 ?_
      exact hret _ _ _ dX6_book_109 (by rw [sP_t hp]; exact (tB_def hw).symm)
    · skip
      subst hw
      refine lv_tableIn (off := 36) (tgt := 48) hx hb dX6_book_12 (by decide) (by decide) (by decide) (by decide) ?_
      refine lv_aload_n hx hb dX6_book_48 rfl (lv_at hl 0 rfl) ?_
      refine lv_iload_n hx hb dX6_book_49 rfl (lv_at hl 1 rfl) ?_
      refine callRl (As := [.int (nI p)]) ⟨hx, hb, hml, hown, hts⟩ (mX6_stored l T D a qs fs t P hf p hp (hk p hp)) (cwV 1 hts gX6_book_X6_stored rfl rfl rfl pdX6_stored ⟨Nat.le_of_ble_eq_true rfl, Nat.le_of_ble_eq_true rfl⟩) (hP.sub [0, 1] rfl) hK xN_bl (fun U _ hW => XN_warm hW hX) (ci := 6) rfl rfl rfl hl.1 rfl rfl (Nat.le_of_ble_eq_true rfl) dX6_book_50 ⟨Nat.zero_le _, Nat.zero_le _⟩ (fun r2_ er2_ => ?_)
      obtain rfl : r2_ = kStored (P p) := er2_
      exact hret _ _ _ dX6_book_53 (by rw [sP_t hp]; rfl)
    · skip
      subst hw
      refine lv_tableIn (off := 42) (tgt := 54) hx hb dX6_book_12 (by decide) (by decide) (by decide) (by decide) ?_
      refine lv_aload_n hx hb dX6_book_54 rfl (lv_at hl 0 rfl) ?_
      refine va_get (D := D) (ci := 6) (v := .ref qe) (C := RX6) (T := TX6) (N := 22) hx hb hts inwX6_book_X6 hown hK hP 0 rfl rfl 1 (by decide) (hts (.fieldLink RX6 13 "PlateSlabsModel" "e" "[J") (List.mem_of_getElem? (i := 2) rfl)) (fun _ h9 => h9) he dX6_book_55 ?_
      refine lv_iconst (v := nI 3) hx hb dX6_book_58 (by decide) ?_
      refine lv_iload_n hx hb dX6_book_59 rfl (lv_at hl 1 rfl) ?_
      refine lv_imul hx hb dX6_book_60 ?_
      refine lv_iload_n hx hb dX6_book_61 rfl (lv_at hl 2 rfl) ?_
      refine lv_iadd hx hb dX6_book_62 ?_
      refine lv_iconst (v := 1) hx hb dX6_book_63 (by decide) ?_
      refine lv_isub hx hb dX6_book_64 ?_
      refine lv_tpi (z := nI (3 * p + 0)) (by exact bk_ix p 0) ?_
      refine va_lald hx hb hK hP 2 1 rfl rfl (vp_in_nI (by omega) (by decide)) dX6_book_65 ?_
      refine lv_tpl (congrArg (fun z => (mE E) z) (nI_clamp (by omega))) ?_
      refine lv_tpl (z := E p 0) (mE_at E (by decide)) ?_
      exact hret _ _ _ dX6_book_66 (by rw [sP_t hp]; rfl)
    · skip
      subst hw
      refine lv_tableIn (off := 42) (tgt := 54) hx hb dX6_book_12 (by decide) (by decide) (by decide) (by decide) ?_
      refine lv_aload_n hx hb dX6_book_54 rfl (lv_at hl 0 rfl) ?_
      refine va_get (D := D) (ci := 6) (v := .ref qe) (C := RX6) (T := TX6) (N := 22) hx hb hts inwX6_book_X6 hown hK hP 0 rfl rfl 1 (by decide) (hts (.fieldLink RX6 13 "PlateSlabsModel" "e" "[J") (List.mem_of_getElem? (i := 2) rfl)) (fun _ h9 => h9) he dX6_book_55 ?_
      refine lv_iconst (v := nI 3) hx hb dX6_book_58 (by decide) ?_
      refine lv_iload_n hx hb dX6_book_59 rfl (lv_at hl 1 rfl) ?_
      refine lv_imul hx hb dX6_book_60 ?_
      refine lv_iload_n hx hb dX6_book_61 rfl (lv_at hl 2 rfl) ?_
      refine lv_iadd hx hb dX6_book_62 ?_
      refine lv_iconst (v := 1) hx hb dX6_book_63 (by decide) ?_
      refine lv_isub hx hb dX6_book_64 ?_
      refine lv_tpi (z := nI (3 * p + 1)) (by exact bk_ix p 1) ?_
      refine va_lald hx hb hK hP 2 1 rfl rfl (vp_in_nI (by omega) (by decide)) dX6_book_65 ?_
      refine lv_tpl (congrArg (fun z => (mE E) z) (nI_clamp (by omega))) ?_
      refine lv_tpl (z := E p 1) (mE_at E (by decide)) ?_
      exact hret _ _ _ dX6_book_66 (by rw [sP_t hp]; rfl)
    · skip
      subst hw
      refine lv_tableIn (off := 42) (tgt := 54) hx hb dX6_book_12 (by decide) (by decide) (by decide) (by decide) ?_
      refine lv_aload_n hx hb dX6_book_54 rfl (lv_at hl 0 rfl) ?_
      refine va_get (D := D) (ci := 6) (v := .ref qe) (C := RX6) (T := TX6) (N := 22) hx hb hts inwX6_book_X6 hown hK hP 0 rfl rfl 1 (by decide) (hts (.fieldLink RX6 13 "PlateSlabsModel" "e" "[J") (List.mem_of_getElem? (i := 2) rfl)) (fun _ h9 => h9) he dX6_book_55 ?_
      refine lv_iconst (v := nI 3) hx hb dX6_book_58 (by decide) ?_
      refine lv_iload_n hx hb dX6_book_59 rfl (lv_at hl 1 rfl) ?_
      refine lv_imul hx hb dX6_book_60 ?_
      refine lv_iload_n hx hb dX6_book_61 rfl (lv_at hl 2 rfl) ?_
      refine lv_iadd hx hb dX6_book_62 ?_
      refine lv_iconst (v := 1) hx hb dX6_book_63 (by decide) ?_
      refine lv_isub hx hb dX6_book_64 ?_
      refine lv_tpi (z := nI (3 * p + 2)) (by exact bk_ix p 2) ?_
      refine va_lald hx hb hK hP 2 1 rfl rfl (vp_in_nI (by omega) (by decide)) dX6_book_65 ?_
      refine lv_tpl (congrArg (fun z => (mE E) z) (nI_clamp (by omega))) ?_
      refine lv_tpl (z := E p 2) (mE_at E (by decide)) ?_
      exact hret _ _ _ dX6_book_66 (by rw [sP_t hp]; rfl)
    · skip
      subst hw
      refine lv_tableIn (off := 55) (tgt := 67) hx hb dX6_book_12 (by decide) (by decide) (by decide) (by decide) ?_
      refine lv_aload_n hx hb dX6_book_67 rfl (lv_at hl 0 rfl) ?_
      refine va_get (D := D) (ci := 6) (v := .ref qe) (C := RX6) (T := TX6) (N := 22) hx hb hts inwX6_book_X6 hown hK hP 0 rfl rfl 1 (by decide) (hts (.fieldLink RX6 13 "PlateSlabsModel" "e" "[J") (List.mem_of_getElem? (i := 2) rfl)) (fun _ h9 => h9) he dX6_book_68 ?_
      refine lv_iconst (v := nI 3) hx hb dX6_book_71 (by decide) ?_
      refine lv_iload_n hx hb dX6_book_72 rfl (lv_at hl 1 rfl) ?_
      refine lv_imul hx hb dX6_book_73 ?_
      refine lv_iconst (v := nI 0) hx hb dX6_book_74 (by decide) ?_
      refine lv_iadd hx hb dX6_book_75 ?_
      refine lv_tpi (z := nI (3 * p + 0)) (by rw [pk_mul, nI_add]) ?_
      refine va_lald hx hb hK hP 2 1 rfl rfl (vp_in_nI (by omega) (by decide)) dX6_book_76 ?_
      refine lv_tpl (congrArg (fun z => (mE E) z) (nI_clamp (by omega))) ?_
      refine lv_tpl (z := E p 0) (mE_at E (by decide)) ?_
      refine lv_aload_n hx hb dX6_book_77 rfl (lv_at hl 0 rfl) ?_
      refine lv_iload_n hx hb dX6_book_78 rfl (lv_at hl 1 rfl) ?_
      refine callRl (As := [.int (nI p)]) ⟨hx, hb, hml, hown, hts⟩ (mX6_stored l T D a qs fs t P hf p hp (hk p hp)) (cwV 1 hts gX6_book_X6_stored rfl rfl rfl pdX6_stored ⟨Nat.le_of_ble_eq_true rfl, Nat.le_of_ble_eq_true rfl⟩) (hP.sub [0, 1] rfl) hK xN_bl (fun U _ hW => XN_warm hW hX) (ci := 6) rfl rfl rfl hl.1 rfl rfl (Nat.le_of_ble_eq_true rfl) dX6_book_79 ⟨Nat.zero_le _, Nat.zero_le _⟩ (fun r3_ er3_ => ?_)
      obtain rfl : r3_ = kStored (P p) := er3_
      refine lv_lsub hx hb dX6_book_82 ?_
      refine lv_aload_n hx hb dX6_book_83 rfl (lv_at hl 0 rfl) ?_
      refine va_get (D := D) (ci := 6) (v := .ref qe) (C := RX6) (T := TX6) (N := 22) hx hb hts inwX6_book_X6 hown hK hP 0 rfl rfl 1 (by decide) (hts (.fieldLink RX6 13 "PlateSlabsModel" "e" "[J") (List.mem_of_getElem? (i := 2) rfl)) (fun _ h9 => h9) he dX6_book_84 ?_
      refine lv_iconst (v := nI 3) hx hb dX6_book_87 (by decide) ?_
      refine lv_iload_n hx hb dX6_book_88 rfl (lv_at hl 1 rfl) ?_
      refine lv_imul hx hb dX6_book_89 ?_
      refine lv_iconst (v := nI 1) hx hb dX6_book_90 (by decide) ?_
      refine lv_iadd hx hb dX6_book_91 ?_
      refine lv_tpi (z := nI (3 * p + 1)) (by rw [pk_mul, nI_add]) ?_
      refine va_lald hx hb hK hP 2 1 rfl rfl (vp_in_nI (by omega) (by decide)) dX6_book_92 ?_
      refine lv_tpl (congrArg (fun z => (mE E) z) (nI_clamp (by omega))) ?_
      refine lv_tpl (z := E p 1) (mE_at E (by decide)) ?_
      refine lv_lsub hx hb dX6_book_93 ?_
      refine lv_aload_n hx hb dX6_book_94 rfl (lv_at hl 0 rfl) ?_
      refine va_get (D := D) (ci := 6) (v := .ref qe) (C := RX6) (T := TX6) (N := 22) hx hb hts inwX6_book_X6 hown hK hP 0 rfl rfl 1 (by decide) (hts (.fieldLink RX6 13 "PlateSlabsModel" "e" "[J") (List.mem_of_getElem? (i := 2) rfl)) (fun _ h9 => h9) he dX6_book_95 ?_
      refine lv_iconst (v := nI 3) hx hb dX6_book_98 (by decide) ?_
      refine lv_iload_n hx hb dX6_book_99 rfl (lv_at hl 1 rfl) ?_
      refine lv_imul hx hb dX6_book_100 ?_
      refine lv_iconst (v := nI 2) hx hb dX6_book_101 (by decide) ?_
      refine lv_iadd hx hb dX6_book_102 ?_
      refine lv_tpi (z := nI (3 * p + 2)) (by rw [pk_mul, nI_add]) ?_
      refine va_lald hx hb hK hP 2 1 rfl rfl (vp_in_nI (by omega) (by decide)) dX6_book_103 ?_
      refine lv_tpl (congrArg (fun z => (mE E) z) (nI_clamp (by omega))) ?_
      refine lv_tpl (z := E p 2) (mE_at E (by decide)) ?_
      refine lv_lsub hx hb dX6_book_104 ?_
      exact hret _ _ _ dX6_book_105 (by rw [sP_t hp]; rfl)
  · skip
    have c4 := bI_0 c4
    refine lv_ldc2 (v := -1) hx hb hown (hts (.constantLong RX6 201 (-1)) (List.mem_of_getElem? (i := 1) rfl)) dX6_book_7 ?_
    exact hret _ _ _ dX6_book_10 (sP_f c4).symm

def rmX6_leastVoltage : Room := { frames := 3, cells := 0, slots := 0, locals := 66 }
set_option maxHeartbeats 4000000 in
set_option maxRecDepth 100000 in
theorem mX6_leastVoltage (l : Launch) (T : Nat → ClassId) (D : va_G) (a qs : Nat) (fs : List Value) (t : Nat → Int32) (P : Nat → Nat → Int32) (hf : fs[0]? = some (.ref qs)) (hk : ∀ p, p < 4 → kOk (P p)) (x : Int32) : RdI l yX6_leastVoltage wsX6_leastVoltage rmX6_leastVoltage T xN D [.ref a, .int x] [(a, .inr (6, fs)), (qs, .inl (T 0, 43, .inl (mS t P)))] (fun r => r = sP x (fun p => kLv (P p)) (-1)) := by
  refine met_ri (cc := cX6_leastVoltage) (maxL := 4) (by decide) rfl (Nat.le_of_ble_eq_true rfl) ?_
  intro p_ e s m args below meth c H ls Q hx hb hts hown hml hX hH hP hK hl hret
  have hl : lv_has ls 4 [(0, .ref a), (1, .int x)] := hl
  refine lv_iload_n hx hb dX6_leastVoltage_0 rfl (lv_at hl 1 rfl) ?_
  refine callSi (As := [.int x]) ⟨hx, hb, hml, hown, hts⟩ (mX6_isPair l T D x) (va_cwS 1 hts gX6_leastVoltage_X6_isPair rfl rfl rfl (pdX6_isPair).2 ⟨Nat.le_of_ble_eq_true rfl, Nat.le_of_ble_eq_true rfl⟩) wP_nil hK xN_bl (fun U _ hW => XN_warm hW hX) hl.1 rfl rfl (Nat.le_of_ble_eq_true rfl) dX6_leastVoltage_1 ⟨Nat.zero_le _, Nat.zero_le _⟩ (fun r1_ er1_ => ?_)
  obtain rfl : r1_ = bI (0 ≤ x ∧ x ≤ 3) := er1_
  refine lv_if_ne (tgt := 9) hx hb dX6_leastVoltage_4 (by decide) (fun c4 => ?_) (fun c4 => ?_)
  · skip
    have c4 := bI_n0 c4
    obtain ⟨p, hp, rfl⟩ := pair_of c4
    refine lv_aload_n hx hb dX6_leastVoltage_9 rfl (lv_at hl 0 rfl) ?_
    refine lv_iload_n hx hb dX6_leastVoltage_10 rfl (lv_at hl 1 rfl) ?_
    refine lv_bipush (v := nI 6) hx hb dX6_leastVoltage_11 (by decide) ?_
    refine callRi (As := [.int (nI p), .int (nI 6)]) ⟨hx, hb, hml, hown, hts⟩ (mX6_of l T D a qs fs t P hf p hp 6 (by decide)) (cwV 2 hts gX6_leastVoltage_X6_of rfl rfl rfl pdX6_of ⟨Nat.le_of_ble_eq_true rfl, Nat.le_of_ble_eq_true rfl⟩) hP hK xN_bl (fun U _ hW => XN_warm hW hX) (ci := 6) rfl rfl rfl hl.1 rfl rfl (Nat.le_of_ble_eq_true rfl) dX6_leastVoltage_13 ⟨Nat.zero_le _, Nat.zero_le _⟩ (fun r2_ er2_ => ?_)
    obtain rfl : r2_ = P p 6 := er2_
    refine lv_topi (fun x1_ ex1_ => ?_)
    refine lv_istore_n (lv' := [(2, .int x1_), (0, .ref a), (1, .int (nI p))]) hx hb dX6_leastVoltage_16 rfl hl (by decide) rfl (fun ls hl => ?_)
    refine lv_iconst (v := nI 0) hx hb dX6_leastVoltage_17 (by decide) ?_
    refine lv_istore_n (lv' := [(3, .int (nI 0)), (2, .int x1_), (0, .ref a), (1, .int (nI p))]) hx hb dX6_leastVoltage_18 rfl hl (by decide) rfl (fun ls hl => ?_)
    have loop : ∀ (j : Nat) (i : Nat) (ls : Array Slot), (32 ≤ i + j) → (i ≤ 31) → (kLv (P p) = kFirst (fun v => decide (kMove (P p) (P p 6) (kPullBy (P p) (nI v) - kSpring (P p) (P p 6)) = 1)) (31 - i) i) → lv_has ls 4 [(0, .ref a), (1, .int (nI p)), (2, .int x1_), (3, .int (nI i))] → W p_ l e rmX6_leastVoltage s m args below meth c H [] 0 0 Q (F0 m 19 ls []) := by
      intro j
      induction j with
      | zero => intro i ls hm hi; exact absurd hm (by omega)
      | succ j ih =>
        intro i ls hm hi ef hl
        refine lv_iload_n hx hb dX6_leastVoltage_19 rfl (lv_at hl 3 rfl) ?_
        refine lv_bipush (v := 30) hx hb dX6_leastVoltage_20 (by decide) ?_
        refine lv_icmp_gt (tgt := 56) hx hb dX6_leastVoltage_22 (by decide) (fun c22 => ?_) (fun c22 => ?_)
        · skip
          have ei : i = 31 := by
            have := mt (nI_leI (a := i) (b := 30) (by omega) (by decide)).mpr (Int32.not_le.mpr c22)
            omega
          refine lv_bipush (v := (-5)) hx hb dX6_leastVoltage_56 (by decide) ?_
          exact hret _ _ _ dX6_leastVoltage_58 (by rw [sP_t hp, ef, ei]; rfl)
        · skip
          have hi2 : i ≤ 30 := (nI_leI (by omega) (by decide)).mp (Int32.not_lt.mp c22)
          refine lv_aload_n hx hb dX6_leastVoltage_25 rfl (lv_at hl 0 rfl) ?_
          refine lv_iload_n hx hb dX6_leastVoltage_26 rfl (lv_at hl 1 rfl) ?_
          refine lv_iload_n hx hb dX6_leastVoltage_27 rfl (lv_at hl 2 rfl) ?_
          refine lv_aload_n hx hb dX6_leastVoltage_28 rfl (lv_at hl 0 rfl) ?_
          refine lv_iload_n hx hb dX6_leastVoltage_29 rfl (lv_at hl 1 rfl) ?_
          refine lv_iload_n hx hb dX6_leastVoltage_30 rfl (lv_at hl 3 rfl) ?_
          refine callRi (As := [.int (nI p), .int (nI i)]) ⟨hx, hb, hml, hown, hts⟩ (mX6_pullBy l T D a qs fs t P hf p hp (nI i)) (cwV 2 hts gX6_leastVoltage_X6_pullBy rfl rfl rfl pdX6_pullBy ⟨Nat.le_of_ble_eq_true rfl, Nat.le_of_ble_eq_true rfl⟩) hP hK xN_bl (fun U _ hW => XN_warm hW hX) (ci := 6) rfl rfl rfl hl.1 rfl rfl (Nat.le_of_ble_eq_true rfl) dX6_leastVoltage_31 ⟨Nat.zero_le _, Nat.zero_le _⟩ (fun r3_ er3_ => ?_)
          obtain rfl : r3_ = kPullBy (P p) (nI i) := er3_
          refine lv_aload_n hx hb dX6_leastVoltage_34 rfl (lv_at hl 0 rfl) ?_
          refine lv_iload_n hx hb dX6_leastVoltage_35 rfl (lv_at hl 1 rfl) ?_
          refine lv_iload_n hx hb dX6_leastVoltage_36 rfl (lv_at hl 2 rfl) ?_
          refine callRi (As := [.int (nI p), .int x1_]) ⟨hx, hb, hml, hown, hts⟩ (mX6_spring l T D a qs fs t P hf p hp x1_) (cwV 2 hts gX6_leastVoltage_X6_spring rfl rfl rfl pdX6_spring ⟨Nat.le_of_ble_eq_true rfl, Nat.le_of_ble_eq_true rfl⟩) hP hK xN_bl (fun U _ hW => XN_warm hW hX) (ci := 6) rfl rfl rfl hl.1 rfl rfl (Nat.le_of_ble_eq_true rfl) dX6_leastVoltage_37 ⟨Nat.zero_le _, Nat.zero_le _⟩ (fun r4_ er4_ => ?_)
          obtain rfl : r4_ = kSpring (P p) x1_ := er4_
          refine lv_isub hx hb dX6_leastVoltage_40 ?_
          refine callRi (As := [.int (nI p), .int x1_, .int ((kPullBy (P p) (nI i)) - (kSpring (P p) x1_))]) ⟨hx, hb, hml, hown, hts⟩ (mX6_move l T D a qs fs t P hf p hp x1_ ((kPullBy (P p) (nI i)) - (kSpring (P p) x1_))) (cwV 3 hts gX6_leastVoltage_X6_move rfl rfl rfl pdX6_move ⟨Nat.le_of_ble_eq_true rfl, Nat.le_of_ble_eq_true rfl⟩) hP hK xN_bl (fun U _ hW => XN_warm hW hX) (ci := 6) rfl rfl rfl hl.1 rfl rfl (Nat.le_of_ble_eq_true rfl) dX6_leastVoltage_41 ⟨Nat.zero_le _, Nat.zero_le _⟩ (fun r5_ er5_ => ?_)
          obtain rfl : r5_ = kMove (P p) x1_ ((kPullBy (P p) (nI i)) - (kSpring (P p) x1_)) := er5_
          refine lv_iconst (v := 1) hx hb dX6_leastVoltage_44 (by decide) ?_
          refine lv_icmp_ne (tgt := 50) hx hb dX6_leastVoltage_45 (by decide) (fun c45 => ?_) (fun c45 => ?_)
          · skip
            refine lv_iinc (v := nI (i + 1)) (lv' := [(3, .int (nI (i + 1))), (0, .ref a), (1, .int (nI p)), (2, .int x1_)]) hx hb dX6_leastVoltage_50 hl (k := 3) rfl (nI_1 i) (by decide) rfl (fun ls hl => ?_)
            refine lv_goto (tgt := 19) hx hb dX6_leastVoltage_53 (by decide) ?_
            exact ih (i + 1) ls (by omega) (by omega) (by rw [ef, show 31 - i = (31 - (i + 1)) + 1 by omega, kFirst_f (by rw [decide_eq_true_eq, ← ex1_]; exact c45)]) (lv_sub hl [1, 2, 3, 0] rfl)
          · skip
            refine lv_iload_n hx hb dX6_leastVoltage_48 rfl (lv_at hl 3 rfl) ?_
            exact hret _ _ _ dX6_leastVoltage_49 (by rw [sP_t hp, ef, show 31 - i = (31 - (i + 1)) + 1 by omega, kFirst_t (by rw [decide_eq_true_eq, ← ex1_]; exact c45)])
    exact loop 32 0 ls (by omega) (by omega) rfl (lv_sub hl [2, 3, 1, 0] rfl)
  · skip
    have c4 := bI_0 c4
    refine lv_iconst (v := (-1)) hx hb dX6_leastVoltage_7 (by decide) ?_
    exact hret _ _ _ dX6_leastVoltage_8 (sP_f c4).symm

def rmX6_isDrawn : Room := { frames := 3, cells := 0, slots := 0, locals := 66 }
set_option maxHeartbeats 4000000 in
set_option maxRecDepth 100000 in
theorem mX6_isDrawn (l : Launch) (T : Nat → ClassId) (D : va_G) (a qs : Nat) (fs : List Value) (t : Nat → Int32) (P : Nat → Nat → Int32) (hf : fs[0]? = some (.ref qs)) (p : Nat) (hp : p < 4) (v : Int32) (d : Nat) (hd : d ≤ 40) (he : P p 6 = nI d) : RdI l yX6_isDrawn wsX6_isDrawn rmX6_isDrawn T xN D [.ref a, .int (nI p), .int v] [(a, .inr (6, fs)), (qs, .inl (T 0, 43, .inl (mS t P)))] (fun r => r = if kDb (P p) v d = true then 1 else 0) := by
  refine met_rz (cc := cX6_isDrawn) (maxL := 4) (by decide) rfl (Nat.le_of_ble_eq_true rfl) (fun r h => bI_01 h) ?_
  intro p_ e s m args below meth c H ls Q hx hb hts hown hml hX hH hP hK hl hret
  have hl : lv_has ls 4 [(0, .ref a), (1, .int (nI p)), (2, .int v)] := hl
  refine lv_aload_n hx hb dX6_isDrawn_0 rfl (lv_at hl 0 rfl) ?_
  refine lv_iload_n hx hb dX6_isDrawn_1 rfl (lv_at hl 1 rfl) ?_
  refine lv_bipush (v := nI 6) hx hb dX6_isDrawn_2 (by decide) ?_
  refine callRi (As := [.int (nI p), .int (nI 6)]) ⟨hx, hb, hml, hown, hts⟩ (mX6_of l T D a qs fs t P hf p hp 6 (by decide)) (cwV 2 hts gX6_isDrawn_X6_of rfl rfl rfl pdX6_of ⟨Nat.le_of_ble_eq_true rfl, Nat.le_of_ble_eq_true rfl⟩) hP hK xN_bl (fun U _ hW => XN_warm hW hX) (ci := 6) rfl rfl rfl hl.1 rfl rfl (Nat.le_of_ble_eq_true rfl) dX6_isDrawn_4 ⟨Nat.zero_le _, Nat.zero_le _⟩ (fun r1_ er1_ => ?_)
  obtain rfl : r1_ = P p 6 := er1_
  refine lv_tpi (z := nI d) (he) ?_
  refine lv_istore_n (lv' := [(3, .int (nI d)), (0, .ref a), (1, .int (nI p)), (2, .int v)]) hx hb dX6_isDrawn_7 rfl hl (by decide) rfl (fun ls hl => ?_)
  have loop : ∀ (j : Nat) (i : Nat) (ls : Array Slot), (41 ≤ i + j) → (i ≤ 40) → (d ≤ i) → (∀ j2, j2 < 40 → d ≤ j2 → j2 < i → kMove (P p) (nI j2) (kPullBy (P p) v - kSpring (P p) (nI j2)) = 1) → lv_has ls 4 [(0, .ref a), (1, .int (nI p)), (2, .int v), (3, .int (nI i))] → W p_ l e rmX6_isDrawn s m args below meth c H [] 0 0 Q (F0 m 8 ls []) := by
    intro j
    induction j with
    | zero => intro i ls hm hi; exact absurd hm (by omega)
    | succ j ih =>
      intro i ls hm hi hs ef hl
      refine lv_iload_n hx hb dX6_isDrawn_8 rfl (lv_at hl 3 rfl) ?_
      refine lv_bipush (v := 40) hx hb dX6_isDrawn_9 (by decide) ?_
      refine lv_icmp_ge (tgt := 43) hx hb dX6_isDrawn_11 (by decide) (fun c11 => ?_) (fun c11 => ?_)
      · skip
        have ei : i = 40 := by
          have := (nI_leI (a := 40) (b := i) (by decide) (by omega)).mp c11
          omega
        refine lv_iload_n hx hb dX6_isDrawn_43 rfl (lv_at hl 3 rfl) ?_
        refine lv_bipush (v := 40) hx hb dX6_isDrawn_44 (by decide) ?_
        refine lv_icmp_ne (tgt := 53) hx hb dX6_isDrawn_46 (by decide) (fun c46 => ?_) (fun c46 => ?_)
        · skip
          exact absurd (by rw [ei]; rfl) c46
        · skip
          refine lv_iconst (v := 1) hx hb dX6_isDrawn_49 (by decide) ?_
          refine lv_goto (tgt := 54) hx hb dX6_isDrawn_50 (by decide) ?_
          exact hret _ _ _ dX6_isDrawn_54 (dB_t (fun j2 h1 h2 => ef j2 h1 h2 (by omega)))
      · skip
        have hlt : i < 40 := by
          have := mt (nI_leI (a := 40) (b := i) (by decide) (by omega)).mpr c11
          omega
        refine lv_aload_n hx hb dX6_isDrawn_14 rfl (lv_at hl 0 rfl) ?_
        refine lv_iload_n hx hb dX6_isDrawn_15 rfl (lv_at hl 1 rfl) ?_
        refine lv_iload_n hx hb dX6_isDrawn_16 rfl (lv_at hl 3 rfl) ?_
        refine lv_aload_n hx hb dX6_isDrawn_17 rfl (lv_at hl 0 rfl) ?_
        refine lv_iload_n hx hb dX6_isDrawn_18 rfl (lv_at hl 1 rfl) ?_
        refine lv_iload_n hx hb dX6_isDrawn_19 rfl (lv_at hl 2 rfl) ?_
        refine callRi (As := [.int (nI p), .int v]) ⟨hx, hb, hml, hown, hts⟩ (mX6_pullBy l T D a qs fs t P hf p hp v) (cwV 2 hts gX6_isDrawn_X6_pullBy rfl rfl rfl pdX6_pullBy ⟨Nat.le_of_ble_eq_true rfl, Nat.le_of_ble_eq_true rfl⟩) hP hK xN_bl (fun U _ hW => XN_warm hW hX) (ci := 6) rfl rfl rfl hl.1 rfl rfl (Nat.le_of_ble_eq_true rfl) dX6_isDrawn_20 ⟨Nat.zero_le _, Nat.zero_le _⟩ (fun r2_ er2_ => ?_)
        obtain rfl : r2_ = kPullBy (P p) v := er2_
        refine lv_aload_n hx hb dX6_isDrawn_23 rfl (lv_at hl 0 rfl) ?_
        refine lv_iload_n hx hb dX6_isDrawn_24 rfl (lv_at hl 1 rfl) ?_
        refine lv_iload_n hx hb dX6_isDrawn_25 rfl (lv_at hl 3 rfl) ?_
        refine callRi (As := [.int (nI p), .int (nI i)]) ⟨hx, hb, hml, hown, hts⟩ (mX6_spring l T D a qs fs t P hf p hp (nI i)) (cwV 2 hts gX6_isDrawn_X6_spring rfl rfl rfl pdX6_spring ⟨Nat.le_of_ble_eq_true rfl, Nat.le_of_ble_eq_true rfl⟩) hP hK xN_bl (fun U _ hW => XN_warm hW hX) (ci := 6) rfl rfl rfl hl.1 rfl rfl (Nat.le_of_ble_eq_true rfl) dX6_isDrawn_26 ⟨Nat.zero_le _, Nat.zero_le _⟩ (fun r3_ er3_ => ?_)
        obtain rfl : r3_ = kSpring (P p) (nI i) := er3_
        refine lv_isub hx hb dX6_isDrawn_29 ?_
        refine callRi (As := [.int (nI p), .int (nI i), .int ((kPullBy (P p) v) - (kSpring (P p) (nI i)))]) ⟨hx, hb, hml, hown, hts⟩ (mX6_move l T D a qs fs t P hf p hp (nI i) ((kPullBy (P p) v) - (kSpring (P p) (nI i)))) (cwV 3 hts gX6_isDrawn_X6_move rfl rfl rfl pdX6_move ⟨Nat.le_of_ble_eq_true rfl, Nat.le_of_ble_eq_true rfl⟩) hP hK xN_bl (fun U _ hW => XN_warm hW hX) (ci := 6) rfl rfl rfl hl.1 rfl rfl (Nat.le_of_ble_eq_true rfl) dX6_isDrawn_30 ⟨Nat.zero_le _, Nat.zero_le _⟩ (fun r4_ er4_ => ?_)
        obtain rfl : r4_ = kMove (P p) (nI i) ((kPullBy (P p) v) - (kSpring (P p) (nI i))) := er4_
        refine lv_iconst (v := 1) hx hb dX6_isDrawn_33 (by decide) ?_
        refine lv_icmp_ne (tgt := 43) hx hb dX6_isDrawn_34 (by decide) (fun c34 => ?_) (fun c34 => ?_)
        · skip
          refine lv_iload_n hx hb dX6_isDrawn_43 rfl (lv_at hl 3 rfl) ?_
          refine lv_bipush (v := 40) hx hb dX6_isDrawn_44 (by decide) ?_
          refine lv_icmp_ne (tgt := 53) hx hb dX6_isDrawn_46 (by decide) (fun c46 => ?_) (fun c46 => ?_)
          · skip
            refine lv_iconst (v := 0) hx hb dX6_isDrawn_53 (by decide) ?_
            exact hret _ _ _ dX6_isDrawn_54 (dB_f (fun z => c34 (z i hlt hs)))
          · skip
            exact absurd ((nI_eq (a := i) (b := 40) (by omega) (by decide)).mp c46) (by omega)
        · skip
          refine lv_iinc (v := nI (i + 1)) (lv' := [(3, .int (nI (i + 1))), (0, .ref a), (1, .int (nI p)), (2, .int v)]) hx hb dX6_isDrawn_37 hl (k := 3) rfl (nI_1 i) (by decide) rfl (fun ls hl => ?_)
          refine lv_goto (tgt := 8) hx hb dX6_isDrawn_40 (by decide) ?_
          exact ih (i + 1) ls (by omega) (by omega) (by omega) (fun j2 h1 h2 h3 => (Nat.lt_or_ge j2 i).elim (fun z => ef j2 h1 h2 z) (fun z => by rw [show j2 = i by omega]; exact c34)) (lv_sub hl [1, 2, 3, 0] rfl)
  exact loop 41 d ls (by omega) (by omega) (Nat.le_refl _) (fun j2 _ h2 h3 => absurd h3 (by omega)) (lv_sub hl [1, 2, 3, 0] rfl)

def rmX6_drawingVoltage : Room := { frames := 4, cells := 0, slots := 0, locals := 89 }
set_option maxHeartbeats 4000000 in
set_option maxRecDepth 100000 in
theorem mX6_drawingVoltage (l : Launch) (T : Nat → ClassId) (D : va_G) (a qs : Nat) (fs : List Value) (t : Nat → Int32) (P : Nat → Nat → Int32) (hf : fs[0]? = some (.ref qs)) (hk : ∀ p, p < 4 → kOk (P p)) (x : Int32) : RdI l yX6_drawingVoltage wsX6_drawingVoltage rmX6_drawingVoltage T xN D [.ref a, .int x] [(a, .inr (6, fs)), (qs, .inl (T 0, 43, .inl (mS t P)))] (fun r => r = sP x (fun p => kDv (P p)) (-1)) := by
  refine met_ri (cc := cX6_drawingVoltage) (maxL := 3) (by decide) rfl (Nat.le_of_ble_eq_true rfl) ?_
  intro p_ e s m args below meth c H ls Q hx hb hts hown hml hX hH hP hK hl hret
  have hl : lv_has ls 3 [(0, .ref a), (1, .int x)] := hl
  refine lv_iload_n hx hb dX6_drawingVoltage_0 rfl (lv_at hl 1 rfl) ?_
  refine callSi (As := [.int x]) ⟨hx, hb, hml, hown, hts⟩ (mX6_isPair l T D x) (va_cwS 1 hts gX6_drawingVoltage_X6_isPair rfl rfl rfl (pdX6_isPair).2 ⟨Nat.le_of_ble_eq_true rfl, Nat.le_of_ble_eq_true rfl⟩) wP_nil hK xN_bl (fun U _ hW => XN_warm hW hX) hl.1 rfl rfl (Nat.le_of_ble_eq_true rfl) dX6_drawingVoltage_1 ⟨Nat.zero_le _, Nat.zero_le _⟩ (fun r1_ er1_ => ?_)
  obtain rfl : r1_ = bI (0 ≤ x ∧ x ≤ 3) := er1_
  refine lv_if_ne (tgt := 9) hx hb dX6_drawingVoltage_4 (by decide) (fun c4 => ?_) (fun c4 => ?_)
  · skip
    have c4 := bI_n0 c4
    obtain ⟨p, hp, rfl⟩ := pair_of c4
    obtain ⟨dd, hdd, hde⟩ := dp_nat (kOk_d (hk p hp))
    refine lv_iconst (v := nI 0) hx hb dX6_drawingVoltage_9 (by decide) ?_
    refine lv_istore_n (lv' := [(2, .int (nI 0)), (0, .ref a), (1, .int (nI p))]) hx hb dX6_drawingVoltage_10 rfl hl (by decide) rfl (fun ls hl => ?_)
    have loop : ∀ (j : Nat) (i : Nat) (ls : Array Slot), (32 ≤ i + j) → (i ≤ 31) → (kDv (P p) = kFirst (fun v => kDb (P p) (nI v) dd) (31 - i) i) → lv_has ls 3 [(0, .ref a), (1, .int (nI p)), (2, .int (nI i))] → W p_ l e rmX6_drawingVoltage s m args below meth c H [] 0 0 Q (F0 m 11 ls []) := by
      intro j
      induction j with
      | zero => intro i ls hm hi; exact absurd hm (by omega)
      | succ j ih =>
        intro i ls hm hi ef hl
        refine lv_iload_n hx hb dX6_drawingVoltage_11 rfl (lv_at hl 2 rfl) ?_
        refine lv_bipush (v := 30) hx hb dX6_drawingVoltage_12 (by decide) ?_
        refine lv_icmp_gt (tgt := 34) hx hb dX6_drawingVoltage_14 (by decide) (fun c14 => ?_) (fun c14 => ?_)
        · skip
          have ei : i = 31 := by
            have := mt (nI_leI (a := i) (b := 30) (by omega) (by decide)).mpr (Int32.not_le.mpr c14)
            omega
          refine lv_bipush (v := (-5)) hx hb dX6_drawingVoltage_34 (by decide) ?_
          exact hret _ _ _ dX6_drawingVoltage_36 (by rw [sP_t hp, ef, ei]; rfl)
        · skip
          have hi2 : i ≤ 30 := (nI_leI (by omega) (by decide)).mp (Int32.not_lt.mp c14)
          refine lv_aload_n hx hb dX6_drawingVoltage_17 rfl (lv_at hl 0 rfl) ?_
          refine lv_iload_n hx hb dX6_drawingVoltage_18 rfl (lv_at hl 1 rfl) ?_
          refine lv_iload_n hx hb dX6_drawingVoltage_19 rfl (lv_at hl 2 rfl) ?_
          refine callRi (As := [.int (nI p), .int (nI i)]) ⟨hx, hb, hml, hown, hts⟩ (mX6_isDrawn l T D a qs fs t P hf p hp (nI i) dd hdd hde) (cwV 2 hts gX6_drawingVoltage_X6_isDrawn rfl rfl rfl pdX6_isDrawn ⟨Nat.le_of_ble_eq_true rfl, Nat.le_of_ble_eq_true rfl⟩) hP hK xN_bl (fun U _ hW => XN_warm hW hX) (ci := 6) rfl rfl rfl hl.1 rfl rfl (Nat.le_of_ble_eq_true rfl) dX6_drawingVoltage_20 ⟨Nat.zero_le _, Nat.zero_le _⟩ (fun r2_ er2_ => ?_)
          obtain rfl : r2_ = if kDb (P p) (nI i) dd = true then 1 else 0 := er2_
          refine lv_if_eq (tgt := 28) hx hb dX6_drawingVoltage_23 (by decide) (fun c23 => ?_) (fun c23 => ?_)
          · skip
            have c23 : ¬ kDb (P p) (nI i) dd = true := b1_0 c23
            refine lv_iinc (v := nI (i + 1)) (lv' := [(2, .int (nI (i + 1))), (0, .ref a), (1, .int (nI p))]) hx hb dX6_drawingVoltage_28 hl (k := 2) rfl (nI_1 i) (by decide) rfl (fun ls hl => ?_)
            refine lv_goto (tgt := 11) hx hb dX6_drawingVoltage_31 (by decide) ?_
            exact ih (i + 1) ls (by omega) (by omega) (by rw [ef, show 31 - i = (31 - (i + 1)) + 1 by omega, kFirst_f (f := fun v => kDb (P p) (nI v) dd) c23]) (lv_sub hl [1, 2, 0] rfl)
          · skip
            have c23 : kDb (P p) (nI i) dd = true := b1_n0 c23
            refine lv_iload_n hx hb dX6_drawingVoltage_26 rfl (lv_at hl 2 rfl) ?_
            exact hret _ _ _ dX6_drawingVoltage_27 (by rw [sP_t hp, ef, show 31 - i = (31 - (i + 1)) + 1 by omega, kFirst_t (f := fun v => kDb (P p) (nI v) dd) c23])
    exact loop 32 0 ls (by omega) (by omega) (by rw [kDv, hde, nI_clamp (by omega)]) (lv_sub hl [1, 2, 0] rfl)
  · skip
    have c4 := bI_0 c4
    refine lv_iconst (v := (-1)) hx hb dX6_drawingVoltage_7 (by decide) ?_
    exact hret _ _ _ dX6_drawingVoltage_8 (sP_f c4).symm

def rmX6_strongest : Room := { frames := 6, cells := 0, slots := 0, locals := 136 }
set_option maxHeartbeats 4000000 in
set_option maxRecDepth 100000 in
theorem mX6_strongest (l : Launch) (T : Nat → ClassId) (D : va_G) (a qs : Nat) (fs : List Value) (t : Nat → Int32) (P : Nat → Nat → Int32) (hf : fs[0]? = some (.ref qs)) (hk : ∀ p, p < 4 → kOk (P p)) : RdI l yX6_strongest wsX6_strongest rmX6_strongest T xN D [.ref a] [(a, .inr (6, fs)), (qs, .inl (T 0, 43, .inl (mS t P)))] (fun r => r = oI (sMax P 4 none)) := by
  refine met_ri (cc := cX6_strongest) (maxL := 3) (by decide) rfl (Nat.le_of_ble_eq_true rfl) ?_
  intro p_ e s m args below meth c H ls Q hx hb hts hown hml hX hH hP hK hl hret
  have hl : lv_has ls 3 [(0, .ref a)] := hl
  refine lv_bipush (v := (-5)) hx hb dX6_strongest_0 (by decide) ?_
  refine lv_topi (fun x1_ ex1_ => ?_)
  refine lv_istore_n (lv' := [(1, .int x1_), (0, .ref a)]) hx hb dX6_strongest_2 rfl hl (by decide) rfl (fun ls hl => ?_)
  refine lv_iconst (v := 3) hx hb dX6_strongest_3 (by decide) ?_
  refine lv_istore_n (lv' := [(2, .int 3), (1, .int x1_), (0, .ref a)]) hx hb dX6_strongest_4 rfl hl (by decide) rfl (fun ls hl => ?_)
  have loop : ∀ (i : Nat) (x y : Int32) (o : Option Nat) (ls : Array Slot), i ≤ 4 → x = nI i + (-1) → y = oI o → (∀ f, o = some f → f < 4) → sMax P 4 none = sMax P i o → lv_has ls 3 [(0, .ref a), (1, .int y), (2, .int x)] → W p_ l e rmX6_strongest s m args below meth c H [] 0 0 Q (F0 m 5 ls []) := by
    intro i
    induction i with
    | zero =>
      intro x y o ls hi ex ey ho ef hl
      refine lv_iload_n hx hb dX6_strongest_5 rfl (lv_at hl 2 rfl) ?_
      refine lv_if_lt (tgt := 48) hx hb dX6_strongest_6 (by decide) (fun c6 => ?_) (fun c6 => ?_)
      · skip
        refine lv_iload_n hx hb dX6_strongest_48 rfl (lv_at hl 1 rfl) ?_
        exact hret _ _ _ dX6_strongest_49 (by rw [ey, ef]; rfl)
      · skip
        exact absurd (by rw [ex]; decide) c6
    | succ p ih =>
      intro x y o ls hi ex ey ho ef hl
      have hp : p < 4 := by omega
      have ex : x = nI p := by rw [ex]; exact pk_m1 p
      subst ex
      refine lv_iload_n hx hb dX6_strongest_5 rfl (lv_at hl 2 rfl) ?_
      refine lv_if_lt (tgt := 48) hx hb dX6_strongest_6 (by decide) (fun c6 => ?_) (fun c6 => ?_)
      · skip
        exact absurd c6 (nI_pos (by omega))
      · skip
        refine lv_aload_n hx hb dX6_strongest_9 rfl (lv_at hl 0 rfl) ?_
        refine lv_iload_n hx hb dX6_strongest_10 rfl (lv_at hl 2 rfl) ?_
        refine callRi (As := [.int (nI p)]) ⟨hx, hb, hml, hown, hts⟩ (mX6_pullNow l T D a qs fs t P hf p hp (hk p hp)) (cwV 1 hts gX6_strongest_X6_pullNow rfl rfl rfl pdX6_pullNow ⟨Nat.le_of_ble_eq_true rfl, Nat.le_of_ble_eq_true rfl⟩) hP hK xN_bl (fun U _ hW => XN_warm hW hX) (ci := 6) rfl rfl rfl hl.1 rfl rfl (Nat.le_of_ble_eq_true rfl) dX6_strongest_11 ⟨Nat.zero_le _, Nat.zero_le _⟩ (fun r2_ er2_ => ?_)
        obtain rfl : r2_ = kPullAt (P p) (P p 6) (P p 7) := er2_
        refine lv_if_le (tgt := 40) hx hb dX6_strongest_14 (by decide) (fun c14 => ?_) (fun c14 => ?_)
        · skip
          have c14 : ¬ 0 < kPl (P p) := Int32.not_lt.mpr c14
          refine lv_iload_n hx hb dX6_strongest_40 rfl (lv_at hl 1 rfl) ?_
          refine lv_istore_n (lv' := [(1, .int y), (0, .ref a), (2, .int (nI p))]) hx hb dX6_strongest_41 rfl hl (by decide) rfl (fun ls hl => ?_)
          obtain ⟨z_, ez_⟩ : ∃ y : Int32, y = (nI p) + (-1) := ⟨_, rfl⟩
          refine lv_iinc (v := z_) (lv' := [(2, .int z_), (1, .int y), (0, .ref a)]) hx hb dX6_strongest_42 hl (k := 2) rfl (by rw [ez_]; rfl) (by decide) rfl (fun ls hl => ?_)
          refine lv_goto (tgt := 5) hx hb dX6_strongest_45 (by decide) ?_
          exact ih _ _ o ls (by omega) ez_ ey (fun f z => ho f z) (by rw [ef]; show sMax P p (sStep P p o) = _; rw [sStep_no c14]) (lv_sub hl [2, 1, 0] rfl)
        · skip
          have c14 : 0 < kPl (P p) := Int32.not_le.mp c14
          have hst : o = none ∨ ∃ f, o = some f ∧ f < 4 := by
            cases o with
            | none => exact Or.inl rfl
            | some f => exact Or.inr ⟨f, rfl, ho f rfl⟩
          refine lv_iload_n hx hb dX6_strongest_17 rfl (lv_at hl 1 rfl) ?_
          refine lv_bipush (v := (-5)) hx hb dX6_strongest_18 (by decide) ?_
          refine lv_icmp_eq (tgt := 36) hx hb dX6_strongest_20 (by decide) (fun c20 => ?_) (fun c20 => ?_)
          · skip
            have ho0 : o = none := by
              rcases hst with z | ⟨f, z, hf4⟩
              · exact z
              · rw [ey, z] at c20
                exact absurd c20 (nI_nm5 (by omega))
            refine lv_iload_n hx hb dX6_strongest_36 rfl (lv_at hl 2 rfl) ?_
            refine lv_goto (tgt := 41) hx hb dX6_strongest_37 (by decide) ?_
            refine lv_istore_n (lv' := [(1, .int (nI p)), (0, .ref a), (2, .int (nI p))]) hx hb dX6_strongest_41 rfl hl (by decide) rfl (fun ls hl => ?_)
            obtain ⟨z_, ez_⟩ : ∃ y : Int32, y = (nI p) + (-1) := ⟨_, rfl⟩
            refine lv_iinc (v := z_) (lv' := [(2, .int z_), (1, .int (nI p)), (0, .ref a)]) hx hb dX6_strongest_42 hl (k := 2) rfl (by rw [ez_]; rfl) (by decide) rfl (fun ls hl => ?_)
            refine lv_goto (tgt := 5) hx hb dX6_strongest_45 (by decide) ?_
            exact ih _ _ (some p) ls (by omega) ez_ rfl (fun f z => by cases z; exact hp) (by rw [ef]; show sMax P p (sStep P p o) = _; rw [ho0, sStep_none c14]) (lv_sub hl [2, 1, 0] rfl)
          · skip
            obtain ⟨f, hof, hf4⟩ : ∃ f, o = some f ∧ f < 4 := by
              rcases hst with z | z
              · rw [ey, z] at c20
                exact absurd rfl c20
              · exact z
            have ey2 : y = nI f := by rw [ey, hof]; rfl
            subst ey2
            refine lv_aload_n hx hb dX6_strongest_23 rfl (lv_at hl 0 rfl) ?_
            refine lv_iload_n hx hb dX6_strongest_24 rfl (lv_at hl 2 rfl) ?_
            refine callRi (As := [.int (nI p)]) ⟨hx, hb, hml, hown, hts⟩ (mX6_pullNow l T D a qs fs t P hf p hp (hk p hp)) (cwV 1 hts gX6_strongest_X6_pullNow rfl rfl rfl pdX6_pullNow ⟨Nat.le_of_ble_eq_true rfl, Nat.le_of_ble_eq_true rfl⟩) hP hK xN_bl (fun U _ hW => XN_warm hW hX) (ci := 6) rfl rfl rfl hl.1 rfl rfl (Nat.le_of_ble_eq_true rfl) dX6_strongest_25 ⟨Nat.zero_le _, Nat.zero_le _⟩ (fun r3_ er3_ => ?_)
            obtain rfl : r3_ = kPullAt (P p) (P p 6) (P p 7) := er3_
            refine lv_aload_n hx hb dX6_strongest_28 rfl (lv_at hl 0 rfl) ?_
            refine lv_iload_n hx hb dX6_strongest_29 rfl (lv_at hl 1 rfl) ?_
            refine callRi (As := [.int (nI f)]) ⟨hx, hb, hml, hown, hts⟩ (mX6_pullNow l T D a qs fs t P hf f hf4 (hk f hf4)) (cwV 1 hts gX6_strongest_X6_pullNow rfl rfl rfl pdX6_pullNow ⟨Nat.le_of_ble_eq_true rfl, Nat.le_of_ble_eq_true rfl⟩) hP hK xN_bl (fun U _ hW => XN_warm hW hX) (ci := 6) rfl rfl rfl hl.1 rfl rfl (Nat.le_of_ble_eq_true rfl) dX6_strongest_30 ⟨Nat.zero_le _, Nat.zero_le _⟩ (fun r4_ er4_ => ?_)
            obtain rfl : r4_ = kPullAt (P f) (P f 6) (P f 7) := er4_
            refine lv_icmp_lt (tgt := 40) hx hb dX6_strongest_33 (by decide) (fun c33 => ?_) (fun c33 => ?_)
            · skip
              have c33 : ¬ kPl (P f) ≤ kPl (P p) := Int32.not_le.mpr c33
              refine lv_iload_n hx hb dX6_strongest_40 rfl (lv_at hl 1 rfl) ?_
              refine lv_istore_n (lv' := [(1, .int (nI f)), (0, .ref a), (2, .int (nI p))]) hx hb dX6_strongest_41 rfl hl (by decide) rfl (fun ls hl => ?_)
              obtain ⟨z_, ez_⟩ : ∃ y : Int32, y = (nI p) + (-1) := ⟨_, rfl⟩
              refine lv_iinc (v := z_) (lv' := [(2, .int z_), (1, .int (nI f)), (0, .ref a)]) hx hb dX6_strongest_42 hl (k := 2) rfl (by rw [ez_]; rfl) (by decide) rfl (fun ls hl => ?_)
              refine lv_goto (tgt := 5) hx hb dX6_strongest_45 (by decide) ?_
              exact ih _ _ (some f) ls (by omega) ez_ rfl (fun g z => by cases z; exact hf4) (by rw [ef]; show sMax P p (sStep P p o) = _; rw [hof, sStep_less c33]) (lv_sub hl [2, 1, 0] rfl)
            · skip
              have c33 : kPl (P f) ≤ kPl (P p) := Int32.not_lt.mp c33
              refine lv_iload_n hx hb dX6_strongest_36 rfl (lv_at hl 2 rfl) ?_
              refine lv_goto (tgt := 41) hx hb dX6_strongest_37 (by decide) ?_
              refine lv_istore_n (lv' := [(1, .int (nI p)), (0, .ref a), (2, .int (nI p))]) hx hb dX6_strongest_41 rfl hl (by decide) rfl (fun ls hl => ?_)
              obtain ⟨z_, ez_⟩ : ∃ y : Int32, y = (nI p) + (-1) := ⟨_, rfl⟩
              refine lv_iinc (v := z_) (lv' := [(2, .int z_), (1, .int (nI p)), (0, .ref a)]) hx hb dX6_strongest_42 hl (k := 2) rfl (by rw [ez_]; rfl) (by decide) rfl (fun ls hl => ?_)
              refine lv_goto (tgt := 5) hx hb dX6_strongest_45 (by decide) ?_
              exact ih _ _ (some p) ls (by omega) ez_ rfl (fun f z => by cases z; exact hp) (by rw [ef]; show sMax P p (sStep P p o) = _; rw [hof, sStep_more c14 c33]) (lv_sub hl [2, 1, 0] rfl)
  exact loop 4 3 x1_ none ls (by omega) (by decide) ex1_ (fun f z => by cases z) rfl (lv_sub hl [2, 1, 0] rfl)

def rmX6_count : Room := { frames := 7, cells := 0, slots := 0, locals := 159 }
set_option maxHeartbeats 4000000 in
set_option maxRecDepth 100000 in
theorem mX6_count (l : Launch) (T : Nat → ClassId) (D : va_G) (a qs : Nat) (fs : List Value) (t : Nat → Int32) (P : Nat → Nat → Int32) (hf : fs[0]? = some (.ref qs)) (hk : ∀ p, p < 4 → kOk (P p)) (kn len : Int32) (hkn : fs[9]? = some (.int kn)) (hln : fs[11]? = some (.int len)) (w : Int32) : RdI l yX6_count wsX6_count rmX6_count T xN D [.ref a, .int w] [(a, .inr (6, fs)), (qs, .inl (T 0, 43, .inl (mS t P)))] (fun r => r = tC t P kn len w) := by
  refine met_ri (cc := cX6_count) (maxL := 4) (by decide) rfl (Nat.le_of_ble_eq_true rfl) ?_
  intro p_ e s m args below meth c H ls Q hx hb hts hown hml hX hH hP hK hl hret
  have hl : lv_has ls 4 [(0, .ref a), (1, .int w)] := hl
  refine lv_iconst (v := 0) hx hb dX6_count_0 (by decide) ?_
  refine lv_istore_n (lv' := [(2, .int 0), (0, .ref a), (1, .int w)]) hx hb dX6_count_1 rfl hl (by decide) rfl (fun ls hl => ?_)
  refine lv_iconst (v := nI 0) hx hb dX6_count_2 (by decide) ?_
  refine lv_istore_n (lv' := [(3, .int (nI 0)), (2, .int 0), (0, .ref a), (1, .int w)]) hx hb dX6_count_3 rfl hl (by decide) rfl (fun ls hl => ?_)
  have loop : ∀ (j : Nat) (i : Nat) (y : Int32) (ls : Array Slot), (5 ≤ i + j) → (i ≤ 4) → (y = cSum P w i) → lv_has ls 4 [(0, .ref a), (1, .int w), (2, .int y), (3, .int (nI i))] → W p_ l e rmX6_count s m args below meth c H [] 0 0 Q (F0 m 4 ls []) := by
    intro j
    induction j with
    | zero => intro i y ls hm hi; exact absurd hm (by omega)
    | succ j ih =>
      intro i y ls hm hi ey hl
      refine lv_iload_n hx hb dX6_count_4 rfl (lv_at hl 3 rfl) ?_
      refine lv_iconst (v := 4) hx hb dX6_count_5 (by decide) ?_
      refine lv_icmp_ge (tgt := 115) hx hb dX6_count_6 (by decide) (fun c6 => ?_) (fun c6 => ?_)
      · skip
        have ei : i = 4 := by
          have := (nI_leI (a := 4) (b := i) (by decide) (by omega)).mp c6
          omega
        rw [ei] at ey
        refine lv_iload_n hx hb dX6_count_115 rfl (lv_at hl 1 rfl) ?_
        rcases sw_0_10 w with hw | hw | hw | hw | hw | hw | hw | hw | hw | hw | hw | hw
        · skip
          refine lv_tableOut (tgt := 209) hx hb dX6_count_116 hw (by decide) ?_
          refine lv_bipush (v := (-2)) hx hb dX6_count_209 (by decide) ?_
          exact hret _ _ _ dX6_count_211 (tC_def hw).symm
        · skip
          subst hw
          refine lv_tableIn (off := 60) (tgt := 176) hx hb dX6_count_116 (by decide) (by decide) (by decide) (by decide) ?_
          refine lv_aload_n hx hb dX6_count_176 rfl (lv_at hl 0 rfl) ?_
          refine va_get (D := D) (ci := 6) (v := .ref qs) (C := RX6) (T := TX6) (N := 22) hx hb hts inwX6_count_X6 hown hK hP 0 rfl rfl 0 (by decide) (hts (.fieldLink RX6 7 "PlateSlabsModel" "s" "[I") (List.mem_of_getElem? (i := 1) rfl)) (fun _ h9 => h9) hf dX6_count_177 ?_
          refine lv_iconst (v := 0) hx hb dX6_count_180 (by decide) ?_
          refine va_iald hx hb hK hP 1 0 rfl rfl (in_lit (by decide)) dX6_count_181 ?_
          refine lv_tpi (congrArg (fun z => (mS t P) z) (cl_0)) ?_
          refine lv_tpi (z := t 0) (mS_t t P (by decide)) ?_
          exact hret _ _ _ dX6_count_182 rfl
        · skip
          subst hw
          refine lv_tableIn (off := 67) (tgt := 183) hx hb dX6_count_116 (by decide) (by decide) (by decide) (by decide) ?_
          refine lv_iload_n hx hb dX6_count_183 rfl (lv_at hl 2 rfl) ?_
          exact hret _ _ _ dX6_count_184 (by rw [ey]; rfl)
        · skip
          subst hw
          refine lv_tableIn (off := 67) (tgt := 183) hx hb dX6_count_116 (by decide) (by decide) (by decide) (by decide) ?_
          refine lv_iload_n hx hb dX6_count_183 rfl (lv_at hl 2 rfl) ?_
          exact hret _ _ _ dX6_count_184 (by rw [ey]; rfl)
        · skip
          subst hw
          refine lv_tableIn (off := 67) (tgt := 183) hx hb dX6_count_116 (by decide) (by decide) (by decide) (by decide) ?_
          refine lv_iload_n hx hb dX6_count_183 rfl (lv_at hl 2 rfl) ?_
          exact hret _ _ _ dX6_count_184 (by rw [ey]; rfl)
        · skip
          subst hw
          refine lv_tableIn (off := 67) (tgt := 183) hx hb dX6_count_116 (by decide) (by decide) (by decide) (by decide) ?_
          refine lv_iload_n hx hb dX6_count_183 rfl (lv_at hl 2 rfl) ?_
          exact hret _ _ _ dX6_count_184 (by rw [ey]; rfl)
        · skip
          subst hw
          refine lv_tableIn (off := 67) (tgt := 183) hx hb dX6_count_116 (by decide) (by decide) (by decide) (by decide) ?_
          refine lv_iload_n hx hb dX6_count_183 rfl (lv_at hl 2 rfl) ?_
          exact hret _ _ _ dX6_count_184 (by rw [ey]; rfl)
        · skip
          subst hw
          refine lv_tableIn (off := 67) (tgt := 183) hx hb dX6_count_116 (by decide) (by decide) (by decide) (by decide) ?_
          refine lv_iload_n hx hb dX6_count_183 rfl (lv_at hl 2 rfl) ?_
          exact hret _ _ _ dX6_count_184 (by rw [ey]; rfl)
        · skip
          subst hw
          refine lv_tableIn (off := 69) (tgt := 185) hx hb dX6_count_116 (by decide) (by decide) (by decide) (by decide) ?_
          refine lv_aload_n hx hb dX6_count_185 rfl (lv_at hl 0 rfl) ?_
          refine va_get (D := D) (ci := 6) (v := .ref qs) (C := RX6) (T := TX6) (N := 22) hx hb hts inwX6_count_X6 hown hK hP 0 rfl rfl 0 (by decide) (hts (.fieldLink RX6 7 "PlateSlabsModel" "s" "[I") (List.mem_of_getElem? (i := 1) rfl)) (fun _ h9 => h9) hf dX6_count_186 ?_
          refine lv_iconst (v := 1) hx hb dX6_count_189 (by decide) ?_
          refine va_iald hx hb hK hP 1 0 rfl rfl (in_lit (by decide)) dX6_count_190 ?_
          refine lv_tpi (congrArg (fun z => (mS t P) z) (cl_1)) ?_
          refine lv_tpi (z := t 1) (mS_t t P (by decide)) ?_
          exact hret _ _ _ dX6_count_191 rfl
        · skip
          subst hw
          refine lv_tableIn (off := 76) (tgt := 192) hx hb dX6_count_116 (by decide) (by decide) (by decide) (by decide) ?_
          refine lv_aload_n hx hb dX6_count_192 rfl (lv_at hl 0 rfl) ?_
          refine va_get (D := D) (ci := 6) (v := .ref qs) (C := RX6) (T := TX6) (N := 22) hx hb hts inwX6_count_X6 hown hK hP 0 rfl rfl 0 (by decide) (hts (.fieldLink RX6 7 "PlateSlabsModel" "s" "[I") (List.mem_of_getElem? (i := 1) rfl)) (fun _ h9 => h9) hf dX6_count_193 ?_
          refine lv_iconst (v := 2) hx hb dX6_count_196 (by decide) ?_
          refine va_iald hx hb hK hP 1 0 rfl rfl (in_lit (by decide)) dX6_count_197 ?_
          refine lv_tpi (congrArg (fun z => (mS t P) z) (cl_2)) ?_
          refine lv_tpi (z := t 2) (mS_t t P (by decide)) ?_
          exact hret _ _ _ dX6_count_198 rfl
        · skip
          subst hw
          refine lv_tableIn (off := 83) (tgt := 199) hx hb dX6_count_116 (by decide) (by decide) (by decide) (by decide) ?_
          refine lv_aload_n hx hb dX6_count_199 rfl (lv_at hl 0 rfl) ?_
          refine va_get (D := D) (ci := 6) (v := .int kn) (C := RX6) (T := TX6) (N := 22) hx hb hts inwX6_count_X6 hown hK hP 0 rfl rfl 9 (by decide) (hts (.fieldLink RX6 56 "PlateSlabsModel" "known" "I") (List.mem_of_getElem? (i := 2) rfl)) (fun _ h9 => h9) hkn dX6_count_200 ?_
          exact hret _ _ _ dX6_count_203 rfl
        · skip
          subst hw
          refine lv_tableIn (off := 88) (tgt := 204) hx hb dX6_count_116 (by decide) (by decide) (by decide) (by decide) ?_
          refine lv_aload_n hx hb dX6_count_204 rfl (lv_at hl 0 rfl) ?_
          refine va_get (D := D) (ci := 6) (v := .int len) (C := RX6) (T := TX6) (N := 22) hx hb hts inwX6_count_X6 hown hK hP 0 rfl rfl 11 (by decide) (hts (.fieldLink RX6 149 "PlateSlabsModel" "length" "I") (List.mem_of_getElem? (i := 3) rfl)) (fun _ h9 => h9) hln dX6_count_205 ?_
          exact hret _ _ _ dX6_count_208 rfl
      · skip
        have hi4 : i < 4 := by
          have := mt (nI_leI (a := 4) (b := i) (by decide) (by omega)).mpr c6
          omega
        refine lv_iload_n hx hb dX6_count_9 rfl (lv_at hl 2 rfl) ?_
        refine lv_iload_n hx hb dX6_count_10 rfl (lv_at hl 1 rfl) ?_
        refine lv_iconst (v := 1) hx hb dX6_count_11 (by decide) ?_
        refine lv_icmp_ne (tgt := 25) hx hb dX6_count_12 (by decide) (fun c12 => ?_) (fun c12 => ?_)
        · skip
          refine lv_iload_n hx hb dX6_count_25 rfl (lv_at hl 1 rfl) ?_
          refine lv_iconst (v := 2) hx hb dX6_count_26 (by decide) ?_
          refine lv_icmp_ne (tgt := 47) hx hb dX6_count_27 (by decide) (fun c27 => ?_) (fun c27 => ?_)
          · skip
            refine lv_iload_n hx hb dX6_count_47 rfl (lv_at hl 1 rfl) ?_
            refine lv_iconst (v := 3) hx hb dX6_count_48 (by decide) ?_
            refine lv_icmp_ne (tgt := 62) hx hb dX6_count_49 (by decide) (fun c49 => ?_) (fun c49 => ?_)
            · skip
              refine lv_iload_n hx hb dX6_count_62 rfl (lv_at hl 1 rfl) ?_
              refine lv_iconst (v := 4) hx hb dX6_count_63 (by decide) ?_
              refine lv_icmp_ne (tgt := 75) hx hb dX6_count_64 (by decide) (fun c64 => ?_) (fun c64 => ?_)
              · skip
                refine lv_iload_n hx hb dX6_count_75 rfl (lv_at hl 1 rfl) ?_
                refine lv_iconst (v := 5) hx hb dX6_count_76 (by decide) ?_
                refine lv_icmp_ne (tgt := 90) hx hb dX6_count_77 (by decide) (fun c77 => ?_) (fun c77 => ?_)
                · skip
                  refine lv_aload_n hx hb dX6_count_90 rfl (lv_at hl 0 rfl) ?_
                  refine lv_iload_n hx hb dX6_count_91 rfl (lv_at hl 3 rfl) ?_
                  refine lv_bipush (v := nI 6) hx hb dX6_count_92 (by decide) ?_
                  refine callRi (As := [.int (nI i), .int (nI 6)]) ⟨hx, hb, hml, hown, hts⟩ (mX6_of l T D a qs fs t P hf i hi4 6 (by decide)) (cwV 2 hts gX6_count_X6_of rfl rfl rfl pdX6_of ⟨Nat.le_of_ble_eq_true rfl, Nat.le_of_ble_eq_true rfl⟩) hP hK xN_bl (fun U _ hW => XN_warm hW hX) (ci := 6) rfl rfl rfl hl.1 rfl rfl (Nat.le_of_ble_eq_true rfl) dX6_count_94 ⟨Nat.zero_le _, Nat.zero_le _⟩ (fun r1_ er1_ => ?_)
                  obtain rfl : r1_ = P i 6 := er1_
                  refine lv_bipush (v := 40) hx hb dX6_count_97 (by decide) ?_
                  refine lv_icmp_ne (tgt := 106) hx hb dX6_count_99 (by decide) (fun c99 => ?_) (fun c99 => ?_)
                  · skip
                    refine lv_iconst (v := 0) hx hb dX6_count_106 (by decide) ?_
                    refine lv_iadd hx hb dX6_count_107 ?_
                    refine lv_topi (fun y9_ ey9_ => ?_)
                    refine lv_istore_n (lv' := [(2, .int y9_), (0, .ref a), (1, .int w), (3, .int (nI i))]) hx hb dX6_count_108 rfl hl (by decide) rfl (fun ls hl => ?_)
                    refine lv_iinc (v := nI (i + 1)) (lv' := [(3, .int (nI (i + 1))), (2, .int y9_), (0, .ref a), (1, .int w)]) hx hb dX6_count_109 hl (k := 3) rfl (nI_1 i) (by decide) rfl (fun ls hl => ?_)
                    refine lv_goto (tgt := 4) hx hb dX6_count_112 (by decide) ?_
                    exact ih (i + 1) _ ls (by omega) (by omega) (by rw [ey9_, ey, cSum]; congr 1; rw [cPart, if_neg c12, if_neg c27, if_neg c49, if_neg c64, if_neg c77, if_neg c99]) (lv_sub hl [2, 3, 1, 0] rfl)
                  · skip
                    refine lv_iconst (v := 1) hx hb dX6_count_102 (by decide) ?_
                    refine lv_goto (tgt := 107) hx hb dX6_count_103 (by decide) ?_
                    refine lv_iadd hx hb dX6_count_107 ?_
                    refine lv_topi (fun y9_ ey9_ => ?_)
                    refine lv_istore_n (lv' := [(2, .int y9_), (0, .ref a), (1, .int w), (3, .int (nI i))]) hx hb dX6_count_108 rfl hl (by decide) rfl (fun ls hl => ?_)
                    refine lv_iinc (v := nI (i + 1)) (lv' := [(3, .int (nI (i + 1))), (2, .int y9_), (0, .ref a), (1, .int w)]) hx hb dX6_count_109 hl (k := 3) rfl (nI_1 i) (by decide) rfl (fun ls hl => ?_)
                    refine lv_goto (tgt := 4) hx hb dX6_count_112 (by decide) ?_
                    exact ih (i + 1) _ ls (by omega) (by omega) (by rw [ey9_, ey, cSum]; congr 1; rw [cPart, if_neg c12, if_neg c27, if_neg c49, if_neg c64, if_neg c77, if_pos c99]) (lv_sub hl [2, 3, 1, 0] rfl)
                · skip
                  refine lv_aload_n hx hb dX6_count_80 rfl (lv_at hl 0 rfl) ?_
                  refine lv_iload_n hx hb dX6_count_81 rfl (lv_at hl 3 rfl) ?_
                  refine lv_bipush (v := nI 6) hx hb dX6_count_82 (by decide) ?_
                  refine callRi (As := [.int (nI i), .int (nI 6)]) ⟨hx, hb, hml, hown, hts⟩ (mX6_of l T D a qs fs t P hf i hi4 6 (by decide)) (cwV 2 hts gX6_count_X6_of rfl rfl rfl pdX6_of ⟨Nat.le_of_ble_eq_true rfl, Nat.le_of_ble_eq_true rfl⟩) hP hK xN_bl (fun U _ hW => XN_warm hW hX) (ci := 6) rfl rfl rfl hl.1 rfl rfl (Nat.le_of_ble_eq_true rfl) dX6_count_84 ⟨Nat.zero_le _, Nat.zero_le _⟩ (fun r2_ er2_ => ?_)
                  obtain rfl : r2_ = P i 6 := er2_
                  refine lv_goto (tgt := 107) hx hb dX6_count_87 (by decide) ?_
                  refine lv_iadd hx hb dX6_count_107 ?_
                  refine lv_topi (fun y9_ ey9_ => ?_)
                  refine lv_istore_n (lv' := [(2, .int y9_), (0, .ref a), (1, .int w), (3, .int (nI i))]) hx hb dX6_count_108 rfl hl (by decide) rfl (fun ls hl => ?_)
                  refine lv_iinc (v := nI (i + 1)) (lv' := [(3, .int (nI (i + 1))), (2, .int y9_), (0, .ref a), (1, .int w)]) hx hb dX6_count_109 hl (k := 3) rfl (nI_1 i) (by decide) rfl (fun ls hl => ?_)
                  refine lv_goto (tgt := 4) hx hb dX6_count_112 (by decide) ?_
                  exact ih (i + 1) _ ls (by omega) (by omega) (by rw [ey9_, ey, cSum]; congr 1; rw [cPart, if_neg c12, if_neg c27, if_neg c49, if_neg c64, if_pos c77]) (lv_sub hl [2, 3, 1, 0] rfl)
              · skip
                refine lv_aload_n hx hb dX6_count_67 rfl (lv_at hl 0 rfl) ?_
                refine lv_iload_n hx hb dX6_count_68 rfl (lv_at hl 3 rfl) ?_
                refine callRi (As := [.int (nI i)]) ⟨hx, hb, hml, hown, hts⟩ (mX6_capacityNow l T D a qs fs t P hf i hi4 ) (cwV 1 hts gX6_count_X6_capacityNow rfl rfl rfl pdX6_capacityNow ⟨Nat.le_of_ble_eq_true rfl, Nat.le_of_ble_eq_true rfl⟩) hP hK xN_bl (fun U _ hW => XN_warm hW hX) (ci := 6) rfl rfl rfl hl.1 rfl rfl (Nat.le_of_ble_eq_true rfl) dX6_count_69 ⟨Nat.zero_le _, Nat.zero_le _⟩ (fun r3_ er3_ => ?_)
                obtain rfl : r3_ = kCap (P i) (P i 6) := er3_
                refine lv_goto (tgt := 107) hx hb dX6_count_72 (by decide) ?_
                refine lv_iadd hx hb dX6_count_107 ?_
                refine lv_topi (fun y9_ ey9_ => ?_)
                refine lv_istore_n (lv' := [(2, .int y9_), (0, .ref a), (1, .int w), (3, .int (nI i))]) hx hb dX6_count_108 rfl hl (by decide) rfl (fun ls hl => ?_)
                refine lv_iinc (v := nI (i + 1)) (lv' := [(3, .int (nI (i + 1))), (2, .int y9_), (0, .ref a), (1, .int w)]) hx hb dX6_count_109 hl (k := 3) rfl (nI_1 i) (by decide) rfl (fun ls hl => ?_)
                refine lv_goto (tgt := 4) hx hb dX6_count_112 (by decide) ?_
                exact ih (i + 1) _ ls (by omega) (by omega) (by rw [ey9_, ey, cSum]; congr 1; rw [cPart, if_neg c12, if_neg c27, if_neg c49, if_pos c64]) (lv_sub hl [2, 3, 1, 0] rfl)
            · skip
              refine lv_aload_n hx hb dX6_count_52 rfl (lv_at hl 0 rfl) ?_
              refine lv_iload_n hx hb dX6_count_53 rfl (lv_at hl 3 rfl) ?_
              refine lv_bipush (v := nI 7) hx hb dX6_count_54 (by decide) ?_
              refine callRi (As := [.int (nI i), .int (nI 7)]) ⟨hx, hb, hml, hown, hts⟩ (mX6_of l T D a qs fs t P hf i hi4 7 (by decide)) (cwV 2 hts gX6_count_X6_of rfl rfl rfl pdX6_of ⟨Nat.le_of_ble_eq_true rfl, Nat.le_of_ble_eq_true rfl⟩) hP hK xN_bl (fun U _ hW => XN_warm hW hX) (ci := 6) rfl rfl rfl hl.1 rfl rfl (Nat.le_of_ble_eq_true rfl) dX6_count_56 ⟨Nat.zero_le _, Nat.zero_le _⟩ (fun r4_ er4_ => ?_)
              obtain rfl : r4_ = P i 7 := er4_
              refine lv_goto (tgt := 107) hx hb dX6_count_59 (by decide) ?_
              refine lv_iadd hx hb dX6_count_107 ?_
              refine lv_topi (fun y9_ ey9_ => ?_)
              refine lv_istore_n (lv' := [(2, .int y9_), (0, .ref a), (1, .int w), (3, .int (nI i))]) hx hb dX6_count_108 rfl hl (by decide) rfl (fun ls hl => ?_)
              refine lv_iinc (v := nI (i + 1)) (lv' := [(3, .int (nI (i + 1))), (2, .int y9_), (0, .ref a), (1, .int w)]) hx hb dX6_count_109 hl (k := 3) rfl (nI_1 i) (by decide) rfl (fun ls hl => ?_)
              refine lv_goto (tgt := 4) hx hb dX6_count_112 (by decide) ?_
              exact ih (i + 1) _ ls (by omega) (by omega) (by rw [ey9_, ey, cSum]; congr 1; rw [cPart, if_neg c12, if_neg c27, if_pos c49]) (lv_sub hl [2, 3, 1, 0] rfl)
          · skip
            refine lv_aload_n hx hb dX6_count_30 rfl (lv_at hl 0 rfl) ?_
            refine lv_iload_n hx hb dX6_count_31 rfl (lv_at hl 3 rfl) ?_
            refine callRi (As := [.int (nI i)]) ⟨hx, hb, hml, hown, hts⟩ (mX6_why l T D a qs fs t P hf i hi4 (hk i hi4)) (cwV 1 hts gX6_count_X6_why rfl rfl rfl pdX6_why ⟨Nat.le_of_ble_eq_true rfl, Nat.le_of_ble_eq_true rfl⟩) hP hK xN_bl (fun U _ hW => XN_warm hW hX) (ci := 6) rfl rfl rfl hl.1 rfl rfl (Nat.le_of_ble_eq_true rfl) dX6_count_32 ⟨Nat.zero_le _, Nat.zero_le _⟩ (fun r5_ er5_ => ?_)
            obtain rfl : r5_ = kWhy (P i) := er5_
            refine lv_iconst (v := 2) hx hb dX6_count_35 (by decide) ?_
            refine lv_icmp_ge (tgt := 43) hx hb dX6_count_36 (by decide) (fun c36 => ?_) (fun c36 => ?_)
            · skip
              refine lv_iconst (v := 0) hx hb dX6_count_43 (by decide) ?_
              refine lv_goto (tgt := 107) hx hb dX6_count_44 (by decide) ?_
              refine lv_iadd hx hb dX6_count_107 ?_
              refine lv_topi (fun y9_ ey9_ => ?_)
              refine lv_istore_n (lv' := [(2, .int y9_), (0, .ref a), (1, .int w), (3, .int (nI i))]) hx hb dX6_count_108 rfl hl (by decide) rfl (fun ls hl => ?_)
              refine lv_iinc (v := nI (i + 1)) (lv' := [(3, .int (nI (i + 1))), (2, .int y9_), (0, .ref a), (1, .int w)]) hx hb dX6_count_109 hl (k := 3) rfl (nI_1 i) (by decide) rfl (fun ls hl => ?_)
              refine lv_goto (tgt := 4) hx hb dX6_count_112 (by decide) ?_
              exact ih (i + 1) _ ls (by omega) (by omega) (by rw [ey9_, ey, cSum]; congr 1; rw [cPart, if_neg c12, if_pos c27, if_neg (Int32.not_lt.mpr c36)]) (lv_sub hl [2, 3, 1, 0] rfl)
            · skip
              refine lv_iconst (v := 1) hx hb dX6_count_39 (by decide) ?_
              refine lv_goto (tgt := 107) hx hb dX6_count_40 (by decide) ?_
              refine lv_iadd hx hb dX6_count_107 ?_
              refine lv_topi (fun y9_ ey9_ => ?_)
              refine lv_istore_n (lv' := [(2, .int y9_), (0, .ref a), (1, .int w), (3, .int (nI i))]) hx hb dX6_count_108 rfl hl (by decide) rfl (fun ls hl => ?_)
              refine lv_iinc (v := nI (i + 1)) (lv' := [(3, .int (nI (i + 1))), (2, .int y9_), (0, .ref a), (1, .int w)]) hx hb dX6_count_109 hl (k := 3) rfl (nI_1 i) (by decide) rfl (fun ls hl => ?_)
              refine lv_goto (tgt := 4) hx hb dX6_count_112 (by decide) ?_
              exact ih (i + 1) _ ls (by omega) (by omega) (by rw [ey9_, ey, cSum]; congr 1; rw [cPart, if_neg c12, if_pos c27, if_pos (Int32.not_le.mp c36)]) (lv_sub hl [2, 3, 1, 0] rfl)
        · skip
          refine lv_aload_n hx hb dX6_count_15 rfl (lv_at hl 0 rfl) ?_
          refine lv_iload_n hx hb dX6_count_16 rfl (lv_at hl 3 rfl) ?_
          refine lv_bipush (v := nI 9) hx hb dX6_count_17 (by decide) ?_
          refine callRi (As := [.int (nI i), .int (nI 9)]) ⟨hx, hb, hml, hown, hts⟩ (mX6_of l T D a qs fs t P hf i hi4 9 (by decide)) (cwV 2 hts gX6_count_X6_of rfl rfl rfl pdX6_of ⟨Nat.le_of_ble_eq_true rfl, Nat.le_of_ble_eq_true rfl⟩) hP hK xN_bl (fun U _ hW => XN_warm hW hX) (ci := 6) rfl rfl rfl hl.1 rfl rfl (Nat.le_of_ble_eq_true rfl) dX6_count_19 ⟨Nat.zero_le _, Nat.zero_le _⟩ (fun r6_ er6_ => ?_)
          obtain rfl : r6_ = P i 9 := er6_
          refine lv_goto (tgt := 107) hx hb dX6_count_22 (by decide) ?_
          refine lv_iadd hx hb dX6_count_107 ?_
          refine lv_topi (fun y9_ ey9_ => ?_)
          refine lv_istore_n (lv' := [(2, .int y9_), (0, .ref a), (1, .int w), (3, .int (nI i))]) hx hb dX6_count_108 rfl hl (by decide) rfl (fun ls hl => ?_)
          refine lv_iinc (v := nI (i + 1)) (lv' := [(3, .int (nI (i + 1))), (2, .int y9_), (0, .ref a), (1, .int w)]) hx hb dX6_count_109 hl (k := 3) rfl (nI_1 i) (by decide) rfl (fun ls hl => ?_)
          refine lv_goto (tgt := 4) hx hb dX6_count_112 (by decide) ?_
          exact ih (i + 1) _ ls (by omega) (by omega) (by rw [ey9_, ey, cSum]; congr 1; rw [cPart, if_pos c12]) (lv_sub hl [2, 3, 1, 0] rfl)
  exact loop 5 0 0 ls (by omega) (by omega) rfl (lv_sub hl [2, 3, 1, 0] rfl)

