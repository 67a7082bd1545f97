theorem pdX3_append : yX3_append.cls = RX3 ∧ yX3_append.cls ≠ "java/lang/invoke/MethodHandle" ∧ yX3_append.cls ≠ "java/lang/invoke/VarHandle" ∧ (parseMethodDescriptor yX3_append.desc).map (fun d => d.parameters.length) = some 1 := by decide +kernel
theorem pdX3_empty : yX3_empty.cls = RX3 ∧ yX3_empty.cls ≠ "java/lang/invoke/MethodHandle" ∧ yX3_empty.cls ≠ "java/lang/invoke/VarHandle" ∧ (parseMethodDescriptor yX3_empty.desc).map (fun d => d.parameters.length) = some 0 := by decide +kernel
theorem pdX3_signAt : yX3_signAt.cls = RX3 ∧ yX3_signAt.cls ≠ "java/lang/invoke/MethodHandle" ∧ yX3_signAt.cls ≠ "java/lang/invoke/VarHandle" ∧ (parseMethodDescriptor yX3_signAt.desc).map (fun d => d.parameters.length) = some 1 := by decide +kernel
theorem pdX4_digitAt : yX4_digitAt.cls = RX4 ∧ yX4_digitAt.cls ≠ "java/lang/invoke/MethodHandle" ∧ yX4_digitAt.cls ≠ "java/lang/invoke/VarHandle" ∧ (parseMethodDescriptor yX4_digitAt.desc).map (fun d => d.parameters.length) = some 1 := by decide +kernel
theorem pdX4_isThing : yX4_isThing.cls = RX4 ∧ yX4_isThing.cls ≠ "java/lang/invoke/MethodHandle" ∧ yX4_isThing.cls ≠ "java/lang/invoke/VarHandle" ∧ (parseMethodDescriptor yX4_isThing.desc).map (fun d => d.parameters.length) = some 1 := by decide +kernel
theorem pdX4_readSign : yX4_readSign.cls = RX4 ∧ yX4_readSign.cls ≠ "java/lang/invoke/MethodHandle" ∧ yX4_readSign.cls ≠ "java/lang/invoke/VarHandle" ∧ (parseMethodDescriptor yX4_readSign.desc).map (fun d => d.parameters.length) = some 1 := by decide +kernel
theorem pdX4_readPair : yX4_readPair.cls = RX4 ∧ yX4_readPair.cls ≠ "java/lang/invoke/MethodHandle" ∧ yX4_readPair.cls ≠ "java/lang/invoke/VarHandle" ∧ (parseMethodDescriptor yX4_readPair.desc).map (fun d => d.parameters.length) = some 0 := by decide +kernel
theorem pdX4_readOther : yX4_readOther.cls = RX4 ∧ yX4_readOther.cls ≠ "java/lang/invoke/MethodHandle" ∧ yX4_readOther.cls ≠ "java/lang/invoke/VarHandle" ∧ (parseMethodDescriptor yX4_readOther.desc).map (fun d => d.parameters.length) = some 0 := by decide +kernel
theorem pdX4_readNumber : yX4_readNumber.cls = RX4 ∧ yX4_readNumber.cls ≠ "java/lang/invoke/MethodHandle" ∧ yX4_readNumber.cls ≠ "java/lang/invoke/VarHandle" ∧ (parseMethodDescriptor yX4_readNumber.desc).map (fun d => d.parameters.length) = some 2 := by decide +kernel
theorem inwX3_append_X3 : ∀ w ∈ wsX30, w ∈ wsX3_append := by decide +kernel
theorem inwX3_empty_X3 : ∀ w ∈ wsX30, w ∈ wsX3_empty := by decide +kernel
theorem inwX3_signAt_X3 : ∀ w ∈ wsX30, w ∈ wsX3_signAt := by decide +kernel
theorem inwX4_digitAt_X4 : ∀ w ∈ wsX40, w ∈ wsX4_digitAt := by decide +kernel
theorem inwX4_digitAt_X3 : ∀ w ∈ wsX30, w ∈ wsX4_digitAt := by decide +kernel
theorem inwX4_isThing_X4 : ∀ w ∈ wsX40, w ∈ wsX4_isThing := by decide +kernel
theorem inwX4_readSign_X4 : ∀ w ∈ wsX40, w ∈ wsX4_readSign := by decide +kernel
theorem inwX4_readSign_X3 : ∀ w ∈ wsX30, w ∈ wsX4_readSign := by decide +kernel
theorem inwX4_readPair_X4 : ∀ w ∈ wsX40, w ∈ wsX4_readPair := by decide +kernel
theorem inwX4_readPair_X3 : ∀ w ∈ wsX30, w ∈ wsX4_readPair := by decide +kernel
theorem inwX4_readOther_X4 : ∀ w ∈ wsX40, w ∈ wsX4_readOther := by decide +kernel
theorem inwX4_readOther_X3 : ∀ w ∈ wsX30, w ∈ wsX4_readOther := by decide +kernel
theorem inwX4_readNumber_X4 : ∀ w ∈ wsX40, w ∈ wsX4_readNumber := by decide +kernel
theorem inwX4_readNumber_X3 : ∀ w ∈ wsX30, w ∈ wsX4_readNumber := by decide +kernel
def rmX3_append : Room := { frames := 0, cells := 0, slots := 0, locals := 0 }
set_option maxHeartbeats 4000000 in
set_option maxRecDepth 100000 in
theorem mX3_append (l : Launch) (T : Nat → ClassId) (D : va_G) (y : Nat → Nat) (tx : Nat → Int32) (len : Nat) (hlen : len ≤ 60) (x : Int32) (hx1 : isCh x) : MuI l yX3_append wsX3_append rmX3_append T xN D [.ref (y 4), .int x] [((y 4), .inr (3, [.ref (y 5), .int (nI len)])), ((y 5), .inl (T 2, 60, .inl (tx)))] (S := (Nat → Int32) × Nat) (fun r u => (len = 60 ∧ r = -3 ∧ u = (tx, len)) ∨ (len < 60 ∧ r = nI (len + 1) ∧ u = (upd tx len x, len + 1))) (fun u => txW T y u.1 u.2) 0 0 := by
  refine met_mi (cc := cX3_append) (maxL := 2) (by decide) rfl (Nat.le_of_ble_eq_true rfl) ?_
  intro p_ e s m args below meth c ls A Q hx hb hts hown hml hX hP hD hK hS hA hl hret
  have hl : lv_has ls 2 [(0, .ref (y 4)), (1, .int x)] := hl
  obtain ⟨H, hH⟩ : ∃ H, H = s.heap := ⟨_, rfl⟩
  have hS : va_S A s.heap H [] := by rw [hH]; exact hS
  rw [← hH] at hP ⊢
  refine lv_aload_n hx hb dX3_append_0 rfl (lv_at hl 0 rfl) ?_
  refine va_get (D := D) (ci := 3) (v := .int (nI len)) (C := RX3) (T := TX3) (N := 2) hx hb hts inwX3_append_X3 hown hK hP 0 rfl rfl 1 (by decide) (hts (.fieldLink RX3 15 "PlateSlabs$Text" "length" "I") (List.mem_of_getElem? (i := 1) rfl)) (fun _ h9 => h9) rfl dX3_append_1 ?_
  refine lv_bipush (v := nI 60) hx hb dX3_append_4 (by decide) ?_
  refine lv_icmp_lt (tgt := 12) hx hb dX3_append_6 (by decide) (fun c6 => ?_) (fun c6 => ?_)
  · skip
    have hlt : len < 60 := (nI_ltI (by omega) (by decide)).mp c6
    refine lv_aload_n hx hb dX3_append_12 rfl (lv_at hl 0 rfl) ?_
    refine va_get (D := D) (ci := 3) (v := .ref (y 5)) (C := RX3) (T := TX3) (N := 2) hx hb hts inwX3_append_X3 hown hK hP 0 rfl rfl 0 (by decide) (hts (.fieldLink RX3 9 "PlateSlabs$Text" "signs" "[C") (List.mem_of_getElem? (i := 2) rfl)) (fun _ h9 => h9) rfl dX3_append_13 ?_
    refine lv_aload_n hx hb dX3_append_16 rfl (lv_at hl 0 rfl) ?_
    refine va_get (D := D) (ci := 3) (v := .int (nI len)) (C := RX3) (T := TX3) (N := 2) hx hb hts inwX3_append_X3 hown hK hP 0 rfl rfl 1 (by decide) (hts (.fieldLink RX3 15 "PlateSlabs$Text" "length" "I") (List.mem_of_getElem? (i := 1) rfl)) (fun _ h9 => h9) rfl dX3_append_17 ?_
    refine lv_iload_n hx hb dX3_append_20 rfl (lv_at hl 1 rfl) ?_
    refine va_cast hx hb hK hP hD hS 1 2 rfl rfl (vp_in_nI (by omega) (by decide)) dX3_append_21 (fun H locs hP hD hS => ?_)
    rw [nI_clamp (show len < 2 ^ 31 by omega)] at hP hD
    have hP : va_P D vwCl [((y 4), .inr (3, [.ref (y 5), .int (nI len)])), ((y 5), .inl (T 2, 60, .inl (upd tx len (vp_nar .char x))))] H := hP
    have hD : va_D A [((y 4), .inr (3, [.ref (y 5), .int (nI len)])), ((y 5), .inl (T 2, 60, .inl (upd tx len (vp_nar .char x))))] := hD
    rw [nar_ch hx1] at hP hD
    have hP : va_P D vwCl [((y 4), .inr (3, [.ref (y 5), .int (nI len)])), ((y 5), .inl (T 2, 60, .inl (upd tx len x)))] H := hP
    have hD : va_D A [((y 4), .inr (3, [.ref (y 5), .int (nI len)])), ((y 5), .inl (T 2, 60, .inl (upd tx len x)))] := hD
    skip
    refine lv_aload_n hx hb dX3_append_22 rfl (lv_at hl 0 rfl) ?_
    refine lv_dup hx hb dX3_append_23 rfl ?_
    refine va_get (D := D) (ci := 3) (v := .int (nI len)) (C := RX3) (T := TX3) (N := 2) hx hb hts inwX3_append_X3 hown hK hP 0 rfl rfl 1 (by decide) (hts (.fieldLink RX3 15 "PlateSlabs$Text" "length" "I") (List.mem_of_getElem? (i := 1) rfl)) (fun _ h9 => h9) rfl dX3_append_24 ?_
    refine lv_iconst (v := 1) hx hb dX3_append_27 (by decide) ?_
    refine lv_iadd hx hb dX3_append_28 ?_
    refine lv_tpi (z := nI (len + 1)) (nI_1 len) ?_
    refine va_put (D := D) (ci := 3) (v := .int (nI (len + 1))) (C := RX3) (T := TX3) (N := 2) hx hb hts inwX3_append_X3 tyX3 tyX3_ok nmX3 hown hK hP hD hS 0 rfl rfl 1 (by decide) (hts (.fieldLink RX3 15 "PlateSlabs$Text" "length" "I") (List.mem_of_getElem? (i := 1) rfl)) (fun _ h9 => h9) rfl (tyX3_ok 1 (by decide)) (rfl) (rfl) (Nat.le_of_ble_eq_true rfl) dX3_append_29 (fun H locs hP hD hS => ?_)
    have hP : va_P D vwCl [((y 4), .inr (3, [.ref (y 5), .int (nI (len + 1))])), ((y 5), .inl (T 2, 60, .inl (upd tx len x)))] H := hP
    have hD : va_D A [((y 4), .inr (3, [.ref (y 5), .int (nI (len + 1))])), ((y 5), .inl (T 2, 60, .inl (upd tx len x)))] := hD
    refine lv_aload_n hx hb dX3_append_32 rfl (lv_at hl 0 rfl) ?_
    refine va_get (D := D) (ci := 3) (v := .int (nI (len + 1))) (C := RX3) (T := TX3) (N := 2) hx hb hts inwX3_append_X3 hown hK hP 0 rfl rfl 1 (by decide) (hts (.fieldLink RX3 15 "PlateSlabs$Text" "length" "I") (List.mem_of_getElem? (i := 1) rfl)) (fun _ h9 => h9) rfl dX3_append_33 ?_
    exact hret _ _ _ (upd tx len x, len + 1) _ _ dX3_append_36 hS hP hD (Or.inr ⟨hlt, rfl, rfl⟩)
  · skip
    have hlt : len = 60 := by
      have := mt (nI_ltI (a := len) (b := 60) (by omega) (by decide)).mpr c6
      omega
    refine lv_bipush (v := (-3)) hx hb dX3_append_9 (by decide) ?_
    exact hret _ _ _ (tx, len) _ _ dX3_append_11 hS hP hD (Or.inl ⟨hlt, rfl, rfl⟩)

def rmX3_empty : Room := { frames := 0, cells := 0, slots := 0, locals := 0 }
set_option maxHeartbeats 4000000 in
set_option maxRecDepth 100000 in
theorem mX3_empty (l : Launch) (T : Nat → ClassId) (D : va_G) (y : Nat → Nat) (tx : Nat → Int32) (len : Nat) (hlen : len ≤ 60) : MuI l yX3_empty wsX3_empty rmX3_empty T xN D [.ref (y 4)] [((y 4), .inr (3, [.ref (y 5), .int (nI len)])), ((y 5), .inl (T 2, 60, .inl (tx)))] (S := Unit) (fun r _ => r = nI len) (fun _ => [((y 4), .inr (3, [.ref (y 5), .int (nI 0)])), ((y 5), .inl (T 2, 60, .inl (tx)))]) 0 0 := by
  refine met_mi (cc := cX3_empty) (maxL := 2) (by decide) rfl (Nat.le_of_ble_eq_true rfl) ?_
  intro p_ e s m args below meth c ls A Q hx hb hts hown hml hX hP hD hK hS hA hl hret
  have hl : lv_has ls 2 [(0, .ref (y 4))] := hl
  obtain ⟨H, hH⟩ : ∃ H, H = s.heap := ⟨_, rfl⟩
  have hS : va_S A s.heap H [] := by rw [hH]; exact hS
  rw [← hH] at hP ⊢
  refine lv_aload_n hx hb dX3_empty_0 rfl (lv_at hl 0 rfl) ?_
  refine va_get (D := D) (ci := 3) (v := .int (nI len)) (C := RX3) (T := TX3) (N := 2) hx hb hts inwX3_empty_X3 hown hK hP 0 rfl rfl 1 (by decide) (hts (.fieldLink RX3 15 "PlateSlabs$Text" "length" "I") (List.mem_of_getElem? (i := 1) rfl)) (fun _ h9 => h9) rfl dX3_empty_1 ?_
  refine lv_istore_n (lv' := [(1, .int (nI len)), (0, .ref (y 4))]) hx hb dX3_empty_4 rfl hl (by decide) rfl (fun ls hl => ?_)
  refine lv_aload_n hx hb dX3_empty_5 rfl (lv_at hl 1 rfl) ?_
  refine lv_iconst (v := nI 0) hx hb dX3_empty_6 (by decide) ?_
  refine va_put (D := D) (ci := 3) (v := .int (nI 0)) (C := RX3) (T := TX3) (N := 2) hx hb hts inwX3_empty_X3 tyX3 tyX3_ok nmX3 hown hK hP hD hS 0 rfl rfl 1 (by decide) (hts (.fieldLink RX3 15 "PlateSlabs$Text" "length" "I") (List.mem_of_getElem? (i := 1) rfl)) (fun _ h9 => h9) rfl (tyX3_ok 1 (by decide)) (rfl) (rfl) (Nat.le_of_ble_eq_true rfl) dX3_empty_7 (fun H locs hP hD hS => ?_)
  have hP : va_P D vwCl [((y 4), .inr (3, [.ref (y 5), .int (nI 0)])), ((y 5), .inl (T 2, 60, .inl (tx)))] H := hP
  have hD : va_D A [((y 4), .inr (3, [.ref (y 5), .int (nI 0)])), ((y 5), .inl (T 2, 60, .inl (tx)))] := hD
  refine lv_iload_n hx hb dX3_empty_10 rfl (lv_at hl 0 rfl) ?_
  exact hret _ _ _ () _ _ dX3_empty_11 hS hP hD rfl

def rmX3_signAt : Room := { frames := 0, cells := 0, slots := 0, locals := 0 }
set_option maxHeartbeats 4000000 in
set_option maxRecDepth 100000 in
theorem mX3_signAt (l : Launch) (T : Nat → ClassId) (D : va_G) (y : Nat → Nat) (tx : Nat → Int32) (len : Nat) (hlen : len ≤ 60) (hch : ∀ j, isCh (tx j)) (i : Nat) (hi : i ≤ 61) : RdI l yX3_signAt wsX3_signAt rmX3_signAt T xN D [.ref (y 4), .int (nI i)] [((y 4), .inr (3, [.ref (y 5), .int (nI len)])), ((y 5), .inl (T 2, 60, .inl (tx)))] (fun r => r = tch tx len i) := by
  refine met_rc (cc := cX3_signAt) (maxL := 2) (by decide) rfl (Nat.le_of_ble_eq_true rfl) (fun r h => by rw [h, tch]; split; exact hch i; exact ch_0) ?_
  intro p_ e s m args below meth c H ls Q hx hb hts hown hml hX hH hP hK hl hret
  have hl : lv_has ls 2 [(0, .ref (y 4)), (1, .int (nI i))] := hl
  refine lv_iload_n hx hb dX3_signAt_0 rfl (lv_at hl 1 rfl) ?_
  refine lv_if_lt (tgt := 21) hx hb dX3_signAt_1 (by decide) (fun c1 => ?_) (fun c1 => ?_)
  · skip
    exact absurd c1 (Int32.not_lt.mpr (nI_pos' (by omega)))
  · skip
    refine lv_iload_n hx hb dX3_signAt_4 rfl (lv_at hl 1 rfl) ?_
    refine lv_aload_n hx hb dX3_signAt_5 rfl (lv_at hl 0 rfl) ?_
    refine va_get (D := D) (ci := 3) (v := .int (nI len)) (C := RX3) (T := TX3) (N := 2) hx hb hts inwX3_signAt_X3 hown hK hP 0 rfl rfl 1 (by decide) (hts (.fieldLink RX3 15 "PlateSlabs$Text" "length" "I") (List.mem_of_getElem? (i := 1) rfl)) (fun _ h9 => h9) rfl dX3_signAt_6 ?_
    refine lv_icmp_ge (tgt := 21) hx hb dX3_signAt_9 (by decide) (fun c9 => ?_) (fun c9 => ?_)
    · skip
      have hlt : ¬ i < len := by
        have := (nI_leI (by omega) (by omega)).mp c9
        omega
      refine lv_iconst (v := 0) hx hb dX3_signAt_21 (by decide) ?_
      exact hret _ _ _ dX3_signAt_22 (tch_out hlt).symm
    · skip
      have hlt : i < len := by
        have := mt (nI_leI (a := len) (b := i) (by omega) (by omega)).mpr c9
        omega
      refine lv_aload_n hx hb dX3_signAt_12 rfl (lv_at hl 0 rfl) ?_
      refine va_get (D := D) (ci := 3) (v := .ref (y 5)) (C := RX3) (T := TX3) (N := 2) hx hb hts inwX3_signAt_X3 hown hK hP 0 rfl rfl 0 (by decide) (hts (.fieldLink RX3 9 "PlateSlabs$Text" "signs" "[C") (List.mem_of_getElem? (i := 2) rfl)) (fun _ h9 => h9) rfl dX3_signAt_13 ?_
      refine lv_iload_n hx hb dX3_signAt_16 rfl (lv_at hl 1 rfl) ?_
      refine va_cald hx hb hK hP 1 2 rfl rfl (vp_in_nI (by omega) (by decide)) dX3_signAt_17 ?_
      refine lv_tpi (congrArg (fun z => tx z) (nI_clamp (by omega))) ?_
      refine lv_goto (tgt := 22) hx hb dX3_signAt_18 (by decide) ?_
      exact hret _ _ _ dX3_signAt_22 (tch_in hlt).symm

def rmX4_digitAt : Room := { frames := 1, cells := 0, slots := 0, locals := 21 }
set_option maxHeartbeats 4000000 in
set_option maxRecDepth 100000 in
theorem mX4_digitAt (l : Launch) (T : Nat → ClassId) (D : va_G) (y : Nat → Nat) (w tx : Nat → Int32) (len : Nat) (hlen : len ≤ 60) (hch : ∀ j, isCh (tx j)) (i : Nat) (hi : i ≤ 61) : RdI l yX4_digitAt wsX4_digitAt rmX4_digitAt T xN D [.ref (y 0), .int (nI i)] [((y 0), .inr (4, [.ref (y 4), .ref (y 1), .ref (y 2), .ref (y 3), .int (w 0), .int (w 1), .int (w 2), .int (w 3)])), ((y 4), .inr (3, [.ref (y 5), .int (nI len)])), ((y 5), .inl (T 2, 60, .inl (tx)))] (fun r => r = dI (tch tx len i)) := by
  refine met_ri (cc := cX4_digitAt) (maxL := 3) (by decide) rfl (Nat.le_of_ble_eq_true rfl) ?_
  intro p_ e s m args below meth c H ls Q hx hb hts hown hml hX hH hP hK hl hret
  have hl : lv_has ls 3 [(0, .ref (y 0)), (1, .int (nI i))] := hl
  refine lv_aload_n hx hb dX4_digitAt_0 rfl (lv_at hl 0 rfl) ?_
  refine va_get (D := D) (ci := 4) (v := .ref (y 4)) (C := RX4) (T := TX4) (N := 8) hx hb hts inwX4_digitAt_X4 hown hK hP 0 rfl rfl 0 (by decide) (hts (.fieldLink RX4 12 "PlateSlabs$Trial" "text" "LPlateSlabs$Text;") (List.mem_of_getElem? (i := 1) rfl)) (fun _ h9 => h9) rfl dX4_digitAt_1 ?_
  refine lv_iload_n hx hb dX4_digitAt_4 rfl (lv_at hl 1 rfl) ?_
  refine callRi (As := [.int (nI i)]) ⟨hx, hb, hml, hown, hts⟩ (mX3_signAt l T D y tx len hlen hch i (by omega)) (cwV 1 hts gX4_digitAt_X3_signAt rfl rfl rfl pdX3_signAt ⟨Nat.le_of_ble_eq_true rfl, Nat.le_of_ble_eq_true rfl⟩) (hP.sub [1, 2] rfl) hK xN_bl (fun U _ hW => XN_warm hW hX) (ci := 3) rfl rfl rfl hl.1 rfl rfl (Nat.le_of_ble_eq_true rfl) dX4_digitAt_5 ⟨Nat.zero_le _, Nat.zero_le _⟩ (fun r1_ er1_ => ?_)
  obtain rfl : r1_ = tch tx len i := er1_
  refine lv_istore_n (lv' := [(2, .int (tch tx len i)), (0, .ref (y 0)), (1, .int (nI i))]) hx hb dX4_digitAt_8 rfl hl (by decide) rfl (fun ls hl => ?_)
  refine lv_iload_n hx hb dX4_digitAt_9 rfl (lv_at hl 0 rfl) ?_
  refine lv_bipush (v := 48) hx hb dX4_digitAt_10 (by decide) ?_
  refine lv_icmp_lt (tgt := 28) hx hb dX4_digitAt_12 (by decide) (fun c12 => ?_) (fun c12 => ?_)
  · skip
    refine lv_iconst (v := (-1)) hx hb dX4_digitAt_28 (by decide) ?_
    exact hret _ _ _ dX4_digitAt_29 (if_neg (fun z => absurd z.1 (Int32.not_le.mpr c12))).symm
  · skip
    refine lv_iload_n hx hb dX4_digitAt_15 rfl (lv_at hl 0 rfl) ?_
    refine lv_bipush (v := 57) hx hb dX4_digitAt_16 (by decide) ?_
    refine lv_icmp_gt (tgt := 28) hx hb dX4_digitAt_18 (by decide) (fun c18 => ?_) (fun c18 => ?_)
    · skip
      refine lv_iconst (v := (-1)) hx hb dX4_digitAt_28 (by decide) ?_
      exact hret _ _ _ dX4_digitAt_29 (if_neg (fun z => absurd z.2 (Int32.not_le.mpr c18))).symm
    · skip
      refine lv_iload_n hx hb dX4_digitAt_21 rfl (lv_at hl 0 rfl) ?_
      refine lv_bipush (v := 48) hx hb dX4_digitAt_22 (by decide) ?_
      refine lv_isub hx hb dX4_digitAt_24 ?_
      refine lv_goto (tgt := 29) hx hb dX4_digitAt_25 (by decide) ?_
      exact hret _ _ _ dX4_digitAt_29 (by rw [dI_sub ⟨Int32.not_lt.mp c12, Int32.not_lt.mp c18⟩, dI_v ⟨Int32.not_lt.mp c12, Int32.not_lt.mp c18⟩])

def rmX4_isThing : Room := { frames := 0, cells := 0, slots := 0, locals := 0 }
set_option maxHeartbeats 4000000 in
set_option maxRecDepth 100000 in
theorem mX4_isThing (l : Launch) (T : Nat → ClassId) (D : va_G) (y : Nat → Nat) (w : Nat → Int32) (x : Int32) : RdI l yX4_isThing wsX4_isThing rmX4_isThing T xN D [.ref (y 0), .int x] [((y 0), .inr (4, [.ref (y 4), .ref (y 1), .ref (y 2), .ref (y 3), .int (w 0), .int (w 1), .int (w 2), .int (w 3)]))] (fun r => r = bI (0 ≤ x ∧ x < w 0)) := by
  refine met_rz (cc := cX4_isThing) (maxL := 2) (by decide) rfl (Nat.le_of_ble_eq_true rfl) (fun r h => bI_01 h) ?_
  intro p_ e s m args below meth c H ls Q hx hb hts hown hml hX hH hP hK hl hret
  have hl : lv_has ls 2 [(0, .ref (y 0)), (1, .int x)] := hl
  refine lv_iload_n hx hb dX4_isThing_0 rfl (lv_at hl 1 rfl) ?_
  refine lv_if_lt (tgt := 16) hx hb dX4_isThing_1 (by decide) (fun c1 => ?_) (fun c1 => ?_)
  · skip
    refine lv_iconst (v := 0) hx hb dX4_isThing_16 (by decide) ?_
    exact hret _ _ _ dX4_isThing_17 (bI_f (fun z => absurd z.1 (Int32.not_le.mpr c1)))
  · skip
    refine lv_iload_n hx hb dX4_isThing_4 rfl (lv_at hl 1 rfl) ?_
    refine lv_aload_n hx hb dX4_isThing_5 rfl (lv_at hl 0 rfl) ?_
    refine va_get (D := D) (ci := 4) (v := .int (w 0)) (C := RX4) (T := TX4) (N := 8) hx hb hts inwX4_isThing_X4 hown hK hP 0 rfl rfl 4 (by decide) (hts (.fieldLink RX4 32 "PlateSlabs$Trial" "things" "I") (List.mem_of_getElem? (i := 1) rfl)) (fun _ h9 => h9) rfl dX4_isThing_6 ?_
    refine lv_icmp_ge (tgt := 16) hx hb dX4_isThing_9 (by decide) (fun c9 => ?_) (fun c9 => ?_)
    · skip
      refine lv_iconst (v := 0) hx hb dX4_isThing_16 (by decide) ?_
      exact hret _ _ _ dX4_isThing_17 (bI_f (fun z => absurd z.2 (Int32.not_lt.mpr c9)))
    · skip
      refine lv_iconst (v := 1) hx hb dX4_isThing_12 (by decide) ?_
      refine lv_goto (tgt := 17) hx hb dX4_isThing_13 (by decide) ?_
      exact hret _ _ _ dX4_isThing_17 (bI_t ⟨Int32.not_lt.mp c1, Int32.not_le.mp c9⟩)

def rmX4_readSign : Room := { frames := 1, cells := 0, slots := 0, locals := 21 }
set_option maxHeartbeats 4000000 in
set_option maxRecDepth 100000 in
theorem mX4_readSign (l : Launch) (T : Nat → ClassId) (D : va_G) (y : Nat → Nat) (w tx : Nat → Int32) (len : Nat) (hlen : len ≤ 60) (hch : ∀ j, isCh (tx j)) (i : Nat) (hi : i ≤ 61) (h1 : w 1 = nI i) (x : Int32) : MuI l yX4_readSign wsX4_readSign rmX4_readSign T xN D [.ref (y 0), .int x] [((y 0), .inr (4, [.ref (y 4), .ref (y 1), .ref (y 2), .ref (y 3), .int (w 0), .int (w 1), .int (w 2), .int (w 3)])), ((y 4), .inr (3, [.ref (y 5), .int (nI len)])), ((y 5), .inl (T 2, 60, .inl (tx)))] (S := Nat → Int32) (fun r u => (tch tx len i = x ∧ r = 1 ∧ u = upd w 1 (nI (i + 1))) ∨ (¬ tch tx len i = x ∧ r = 0 ∧ u = w)) (fun u => trX T y u tx len) 0 0 := by
  refine met_mz (cc := cX4_readSign) (maxL := 2) (by decide) rfl (Nat.le_of_ble_eq_true rfl) (fun r _ h => h.elim (fun z => Or.inr z.2.1) (fun z => Or.inl z.2.1)) ?_
  intro p_ e s m args below meth c ls A Q hx hb hts hown hml hX hP hD hK hS hA hl hret
  have hl : lv_has ls 2 [(0, .ref (y 0)), (1, .int x)] := hl
  obtain ⟨H, hH⟩ : ∃ H, H = s.heap := ⟨_, rfl⟩
  have hS : va_S A s.heap H [] := by rw [hH]; exact hS
  rw [← hH] at hP ⊢
  refine lv_aload_n hx hb dX4_readSign_0 rfl (lv_at hl 0 rfl) ?_
  refine va_get (D := D) (ci := 4) (v := .ref (y 4)) (C := RX4) (T := TX4) (N := 8) hx hb hts inwX4_readSign_X4 hown hK hP 0 rfl rfl 0 (by decide) (hts (.fieldLink RX4 12 "PlateSlabs$Trial" "text" "LPlateSlabs$Text;") (List.mem_of_getElem? (i := 1) rfl)) (fun _ h9 => h9) rfl dX4_readSign_1 ?_
  refine lv_aload_n hx hb dX4_readSign_4 rfl (lv_at hl 0 rfl) ?_
  refine va_get (D := D) (ci := 4) (v := .int (w 1)) (C := RX4) (T := TX4) (N := 8) hx hb hts inwX4_readSign_X4 hown hK hP 0 rfl rfl 5 (by decide) (hts (.fieldLink RX4 36 "PlateSlabs$Trial" "at" "I") (List.mem_of_getElem? (i := 2) rfl)) (fun _ h9 => h9) rfl dX4_readSign_5 ?_
  refine lv_tpi (z := nI i) (h1) ?_
  refine callRi (As := [.int (nI i)]) ⟨hx, hb, hml, hown, hts⟩ (mX3_signAt l T D y tx len hlen hch i (by omega)) (cwV 1 hts gX4_readSign_X3_signAt rfl rfl rfl pdX3_signAt ⟨Nat.le_of_ble_eq_true rfl, Nat.le_of_ble_eq_true rfl⟩) (hP.sub [1, 2] rfl) hK xN_bl (fun U _ hW => XN_warm hW hX) (ci := 3) rfl rfl rfl hl.1 rfl rfl (Nat.le_of_ble_eq_true rfl) dX4_readSign_8 ⟨Nat.zero_le _, Nat.zero_le _⟩ (fun r1_ er1_ => ?_)
  obtain rfl : r1_ = tch tx len i := er1_
  refine lv_iload_n hx hb dX4_readSign_11 rfl (lv_at hl 1 rfl) ?_
  refine lv_icmp_eq (tgt := 17) hx hb dX4_readSign_12 (by decide) (fun c12 => ?_) (fun c12 => ?_)
  · skip
    refine lv_aload_n hx hb dX4_readSign_17 rfl (lv_at hl 0 rfl) ?_
    refine lv_dup hx hb dX4_readSign_18 rfl ?_
    refine va_get (D := D) (ci := 4) (v := .int (w 1)) (C := RX4) (T := TX4) (N := 8) hx hb hts inwX4_readSign_X4 hown hK hP 0 rfl rfl 5 (by decide) (hts (.fieldLink RX4 36 "PlateSlabs$Trial" "at" "I") (List.mem_of_getElem? (i := 2) rfl)) (fun _ h9 => h9) rfl dX4_readSign_19 ?_
    refine lv_tpi (z := nI i) (h1) ?_
    refine lv_iconst (v := 1) hx hb dX4_readSign_22 (by decide) ?_
    refine lv_iadd hx hb dX4_readSign_23 ?_
    refine lv_tpi (z := nI (i + 1)) (nI_1 i) ?_
    refine va_put (D := D) (ci := 4) (v := .int (nI (i + 1))) (C := RX4) (T := TX4) (N := 8) hx hb hts inwX4_readSign_X4 tyX4 tyX4_ok nmX4 hown hK hP hD hS 0 rfl rfl 5 (by decide) (hts (.fieldLink RX4 36 "PlateSlabs$Trial" "at" "I") (List.mem_of_getElem? (i := 2) rfl)) (fun _ h9 => h9) rfl (tyX4_ok 5 (by decide)) (rfl) (rfl) (Nat.le_of_ble_eq_true rfl) dX4_readSign_24 (fun H locs hP hD hS => ?_)
    have hP : va_P D vwCl [((y 0), .inr (4, [.ref (y 4), .ref (y 1), .ref (y 2), .ref (y 3), .int (w 0), .int (nI (i + 1)), .int (w 2), .int (w 3)])), ((y 4), .inr (3, [.ref (y 5), .int (nI len)])), ((y 5), .inl (T 2, 60, .inl (tx)))] H := hP
    have hD : va_D A [((y 0), .inr (4, [.ref (y 4), .ref (y 1), .ref (y 2), .ref (y 3), .int (w 0), .int (nI (i + 1)), .int (w 2), .int (w 3)])), ((y 4), .inr (3, [.ref (y 5), .int (nI len)])), ((y 5), .inl (T 2, 60, .inl (tx)))] := hD
    refine lv_iconst (v := 1) hx hb dX4_readSign_27 (by decide) ?_
    exact hret _ _ _ (upd w 1 (nI (i + 1))) _ _ dX4_readSign_28 hS hP hD (Or.inl ⟨c12, rfl, rfl⟩)
  · skip
    refine lv_iconst (v := 0) hx hb dX4_readSign_15 (by decide) ?_
    exact hret _ _ _ (w) _ _ dX4_readSign_16 hS hP hD (Or.inr ⟨c12, rfl, rfl⟩)

def rmX4_readPair : Room := { frames := 2, cells := 0, slots := 0, locals := 43 }
set_option maxHeartbeats 4000000 in
set_option maxRecDepth 100000 in
theorem mX4_readPair (l : Launch) (T : Nat → ClassId) (D : va_G) (y : Nat → Nat) (w tx : Nat → Int32) (len : Nat) (hlen : len ≤ 60) (hch : ∀ j, isCh (tx j)) (i : Nat) (hi : i ≤ 61) (h1 : w 1 = nI i) : MuI l yX4_readPair wsX4_readPair rmX4_readPair T xN D [.ref (y 0)] [((y 0), .inr (4, [.ref (y 4), .ref (y 1), .ref (y 2), .ref (y 3), .int (w 0), .int (w 1), .int (w 2), .int (w 3)])), ((y 4), .inr (3, [.ref (y 5), .int (nI len)])), ((y 5), .inl (T 2, 60, .inl (tx)))] (S := Nat → Int32) (fun r u => (pd4 (tch tx len i) ∧ r = 1 ∧ u = upd (upd w 2 (nI (dg (tch tx len i)))) 1 (nI (i + 1))) ∨ (¬ pd4 (tch tx len i) ∧ r = 0 ∧ ∃ x, u = upd w 2 x)) (fun u => trX T y u tx len) 0 0 := by
  refine met_mz (cc := cX4_readPair) (maxL := 1) (by decide) rfl (Nat.le_of_ble_eq_true rfl) (fun r _ h => h.elim (fun z => Or.inr z.2.1) (fun z => Or.inl z.2.1)) ?_
  intro p_ e s m args below meth c ls A Q hx hb hts hown hml hX hP hD hK hS hA hl hret
  have hl : lv_has ls 1 [(0, .ref (y 0))] := hl
  obtain ⟨H, hH⟩ : ∃ H, H = s.heap := ⟨_, rfl⟩
  have hS : va_S A s.heap H [] := by rw [hH]; exact hS
  rw [← hH] at hP ⊢
  refine lv_aload_n hx hb dX4_readPair_0 rfl (lv_at hl 0 rfl) ?_
  refine lv_aload_n hx hb dX4_readPair_1 rfl (lv_at hl 0 rfl) ?_
  refine lv_aload_n hx hb dX4_readPair_2 rfl (lv_at hl 0 rfl) ?_
  refine va_get (D := D) (ci := 4) (v := .int (w 1)) (C := RX4) (T := TX4) (N := 8) hx hb hts inwX4_readPair_X4 hown hK hP 0 rfl rfl 5 (by decide) (hts (.fieldLink RX4 36 "PlateSlabs$Trial" "at" "I") (List.mem_of_getElem? (i := 1) rfl)) (fun _ h9 => h9) rfl dX4_readPair_3 ?_
  refine lv_tpi (z := nI i) (h1) ?_
  refine callRi (As := [.int (nI i)]) ⟨hx, hb, hml, hown, hts⟩ (mX4_digitAt l T D y w tx len hlen hch i (by omega)) (cwV 1 hts gX4_readPair_X4_digitAt rfl rfl rfl pdX4_digitAt ⟨Nat.le_of_ble_eq_true rfl, Nat.le_of_ble_eq_true rfl⟩) hP hK xN_bl (fun U _ hW => XN_warm hW hX) (ci := 4) rfl rfl rfl hl.1 rfl rfl (Nat.le_of_ble_eq_true rfl) dX4_readPair_6 ⟨Nat.zero_le _, Nat.zero_le _⟩ (fun r1_ er1_ => ?_)
  obtain rfl : r1_ = dI (tch tx len i) := er1_
  refine va_put (D := D) (ci := 4) (v := .int (dI (tch tx len i))) (C := RX4) (T := TX4) (N := 8) hx hb hts inwX4_readPair_X4 tyX4 tyX4_ok nmX4 hown hK hP hD hS 0 rfl rfl 6 (by decide) (hts (.fieldLink RX4 46 "PlateSlabs$Trial" "pair" "I") (List.mem_of_getElem? (i := 2) rfl)) (fun _ h9 => h9) rfl (tyX4_ok 6 (by decide)) (rfl) (rfl) (Nat.le_of_ble_eq_true rfl) dX4_readPair_9 (fun H locs hP hD hS => ?_)
  have hP : va_P D vwCl [((y 0), .inr (4, [.ref (y 4), .ref (y 1), .ref (y 2), .ref (y 3), .int (w 0), .int (w 1), .int (dI (tch tx len i)), .int (w 3)])), ((y 4), .inr (3, [.ref (y 5), .int (nI len)])), ((y 5), .inl (T 2, 60, .inl (tx)))] H := hP
  have hD : va_D A [((y 0), .inr (4, [.ref (y 4), .ref (y 1), .ref (y 2), .ref (y 3), .int (w 0), .int (w 1), .int (dI (tch tx len i)), .int (w 3)])), ((y 4), .inr (3, [.ref (y 5), .int (nI len)])), ((y 5), .inl (T 2, 60, .inl (tx)))] := hD
  refine lv_aload_n hx hb dX4_readPair_12 rfl (lv_at hl 0 rfl) ?_
  refine va_get (D := D) (ci := 4) (v := .int (dI (tch tx len i))) (C := RX4) (T := TX4) (N := 8) hx hb hts inwX4_readPair_X4 hown hK hP 0 rfl rfl 6 (by decide) (hts (.fieldLink RX4 46 "PlateSlabs$Trial" "pair" "I") (List.mem_of_getElem? (i := 2) rfl)) (fun _ h9 => h9) rfl dX4_readPair_13 ?_
  refine callNi (As := [.int (dI (tch tx len i))]) ⟨hx, hb, hml, hown, hts⟩ (mX5_isPair l T D (dI (tch tx len i))) ⟨va_cnB 1 hts gX4_readPair_X5_isPair_n74 rfl rfl rfl (hX.1 _ (List.mem_of_getElem? (i := 6) rfl)) (hts (.initialized RX5) (List.mem_of_getElem? (i := 17) rfl)) (pdX5_isPair).2 ⟨Nat.le_of_ble_eq_true rfl, Nat.le_of_ble_eq_true rfl⟩, (hts (.static yX5_isPair) (List.mem_of_getElem? (i := 16) rfl)), trivial⟩ wP_nil hK xN_bl (fun U _ hW => XN_warm hW hX) hl.1 rfl rfl (Nat.le_of_ble_eq_true rfl) dX4_readPair_16 ⟨Nat.zero_le _, Nat.zero_le _⟩ (fun r2_ er2_ => ?_)
  obtain rfl : r2_ = bI (0 ≤ (dI (tch tx len i)) ∧ (dI (tch tx len i)) ≤ 3) := er2_
  refine lv_if_ne (tgt := 24) hx hb dX4_readPair_19 (by decide) (fun c19 => ?_) (fun c19 => ?_)
  · skip
    have c19 := bI_n0 c19
    have hpd := (dI_pd _).mp c19
    refine lv_aload_n hx hb dX4_readPair_24 rfl (lv_at hl 0 rfl) ?_
    refine lv_dup hx hb dX4_readPair_25 rfl ?_
    refine va_get (D := D) (ci := 4) (v := .int (w 1)) (C := RX4) (T := TX4) (N := 8) hx hb hts inwX4_readPair_X4 hown hK hP 0 rfl rfl 5 (by decide) (hts (.fieldLink RX4 36 "PlateSlabs$Trial" "at" "I") (List.mem_of_getElem? (i := 1) rfl)) (fun _ h9 => h9) rfl dX4_readPair_26 ?_
    refine lv_tpi (z := nI i) (h1) ?_
    refine lv_iconst (v := 1) hx hb dX4_readPair_29 (by decide) ?_
    refine lv_iadd hx hb dX4_readPair_30 ?_
    refine lv_tpi (z := nI (i + 1)) (nI_1 i) ?_
    refine va_put (D := D) (ci := 4) (v := .int (nI (i + 1))) (C := RX4) (T := TX4) (N := 8) hx hb hts inwX4_readPair_X4 tyX4 tyX4_ok nmX4 hown hK hP hD hS 0 rfl rfl 5 (by decide) (hts (.fieldLink RX4 36 "PlateSlabs$Trial" "at" "I") (List.mem_of_getElem? (i := 1) rfl)) (fun _ h9 => h9) rfl (tyX4_ok 5 (by decide)) (rfl) (rfl) (Nat.le_of_ble_eq_true rfl) dX4_readPair_31 (fun H locs hP hD hS => ?_)
    have hP : va_P D vwCl [((y 0), .inr (4, [.ref (y 4), .ref (y 1), .ref (y 2), .ref (y 3), .int (w 0), .int (nI (i + 1)), .int (dI (tch tx len i)), .int (w 3)])), ((y 4), .inr (3, [.ref (y 5), .int (nI len)])), ((y 5), .inl (T 2, 60, .inl (tx)))] H := hP
    have hD : va_D A [((y 0), .inr (4, [.ref (y 4), .ref (y 1), .ref (y 2), .ref (y 3), .int (w 0), .int (nI (i + 1)), .int (dI (tch tx len i)), .int (w 3)])), ((y 4), .inr (3, [.ref (y 5), .int (nI len)])), ((y 5), .inl (T 2, 60, .inl (tx)))] := hD
    refine lv_iconst (v := 1) hx hb dX4_readPair_34 (by decide) ?_
    exact hret _ _ _ (upd (upd w 2 (dI (tch tx len i))) 1 (nI (i + 1))) _ _ dX4_readPair_35 hS hP hD (Or.inl ⟨hpd, rfl, by rw [dI_pdv hpd]⟩)
  · skip
    have c19 := bI_0 c19
    have hpd := mt (dI_pd _).mpr c19
    refine lv_iconst (v := 0) hx hb dX4_readPair_22 (by decide) ?_
    exact hret _ _ _ (upd w 2 (dI (tch tx len i))) _ _ dX4_readPair_23 hS hP hD (Or.inr ⟨hpd, rfl, _, rfl⟩)

def rmX4_readOther : Room := { frames := 2, cells := 0, slots := 0, locals := 43 }
set_option maxHeartbeats 4000000 in
set_option maxRecDepth 100000 in
theorem mX4_readOther (l : Launch) (T : Nat → ClassId) (D : va_G) (y : Nat → Nat) (w tx : Nat → Int32) (len : Nat) (hlen : len ≤ 60) (hch : ∀ j, isCh (tx j)) (i : Nat) (hi : i ≤ 61) (h1 : w 1 = nI i) : MuI l yX4_readOther wsX4_readOther rmX4_readOther T xN D [.ref (y 0)] [((y 0), .inr (4, [.ref (y 4), .ref (y 1), .ref (y 2), .ref (y 3), .int (w 0), .int (w 1), .int (w 2), .int (w 3)])), ((y 4), .inr (3, [.ref (y 5), .int (nI len)])), ((y 5), .inl (T 2, 60, .inl (tx)))] (S := Nat → Int32) (fun r u => (pd4 (tch tx len i) ∧ r = 1 ∧ u = upd (upd w 3 (nI (dg (tch tx len i)))) 1 (nI (i + 1))) ∨ (¬ pd4 (tch tx len i) ∧ r = 0 ∧ ∃ x, u = upd w 3 x)) (fun u => trX T y u tx len) 0 0 := by
  refine met_mz (cc := cX4_readOther) (maxL := 1) (by decide) rfl (Nat.le_of_ble_eq_true rfl) (fun r _ h => h.elim (fun z => Or.inr z.2.1) (fun z => Or.inl z.2.1)) ?_
  intro p_ e s m args below meth c ls A Q hx hb hts hown hml hX hP hD hK hS hA hl hret
  have hl : lv_has ls 1 [(0, .ref (y 0))] := hl
  obtain ⟨H, hH⟩ : ∃ H, H = s.heap := ⟨_, rfl⟩
  have hS : va_S A s.heap H [] := by rw [hH]; exact hS
  rw [← hH] at hP ⊢
  refine lv_aload_n hx hb dX4_readOther_0 rfl (lv_at hl 0 rfl) ?_
  refine lv_aload_n hx hb dX4_readOther_1 rfl (lv_at hl 0 rfl) ?_
  refine lv_aload_n hx hb dX4_readOther_2 rfl (lv_at hl 0 rfl) ?_
  refine va_get (D := D) (ci := 4) (v := .int (w 1)) (C := RX4) (T := TX4) (N := 8) hx hb hts inwX4_readOther_X4 hown hK hP 0 rfl rfl 5 (by decide) (hts (.fieldLink RX4 36 "PlateSlabs$Trial" "at" "I") (List.mem_of_getElem? (i := 1) rfl)) (fun _ h9 => h9) rfl dX4_readOther_3 ?_
  refine lv_tpi (z := nI i) (h1) ?_
  refine callRi (As := [.int (nI i)]) ⟨hx, hb, hml, hown, hts⟩ (mX4_digitAt l T D y w tx len hlen hch i (by omega)) (cwV 1 hts gX4_readOther_X4_digitAt rfl rfl rfl pdX4_digitAt ⟨Nat.le_of_ble_eq_true rfl, Nat.le_of_ble_eq_true rfl⟩) hP hK xN_bl (fun U _ hW => XN_warm hW hX) (ci := 4) rfl rfl rfl hl.1 rfl rfl (Nat.le_of_ble_eq_true rfl) dX4_readOther_6 ⟨Nat.zero_le _, Nat.zero_le _⟩ (fun r1_ er1_ => ?_)
  obtain rfl : r1_ = dI (tch tx len i) := er1_
  refine va_put (D := D) (ci := 4) (v := .int (dI (tch tx len i))) (C := RX4) (T := TX4) (N := 8) hx hb hts inwX4_readOther_X4 tyX4 tyX4_ok nmX4 hown hK hP hD hS 0 rfl rfl 7 (by decide) (hts (.fieldLink RX4 49 "PlateSlabs$Trial" "value" "I") (List.mem_of_getElem? (i := 2) rfl)) (fun _ h9 => h9) rfl (tyX4_ok 7 (by decide)) (rfl) (rfl) (Nat.le_of_ble_eq_true rfl) dX4_readOther_9 (fun H locs hP hD hS => ?_)
  have hP : va_P D vwCl [((y 0), .inr (4, [.ref (y 4), .ref (y 1), .ref (y 2), .ref (y 3), .int (w 0), .int (w 1), .int (w 2), .int (dI (tch tx len i))])), ((y 4), .inr (3, [.ref (y 5), .int (nI len)])), ((y 5), .inl (T 2, 60, .inl (tx)))] H := hP
  have hD : va_D A [((y 0), .inr (4, [.ref (y 4), .ref (y 1), .ref (y 2), .ref (y 3), .int (w 0), .int (w 1), .int (w 2), .int (dI (tch tx len i))])), ((y 4), .inr (3, [.ref (y 5), .int (nI len)])), ((y 5), .inl (T 2, 60, .inl (tx)))] := hD
  refine lv_aload_n hx hb dX4_readOther_12 rfl (lv_at hl 0 rfl) ?_
  refine va_get (D := D) (ci := 4) (v := .int (dI (tch tx len i))) (C := RX4) (T := TX4) (N := 8) hx hb hts inwX4_readOther_X4 hown hK hP 0 rfl rfl 7 (by decide) (hts (.fieldLink RX4 49 "PlateSlabs$Trial" "value" "I") (List.mem_of_getElem? (i := 2) rfl)) (fun _ h9 => h9) rfl dX4_readOther_13 ?_
  refine callNi (As := [.int (dI (tch tx len i))]) ⟨hx, hb, hml, hown, hts⟩ (mX5_isPair l T D (dI (tch tx len i))) ⟨va_cnB 1 hts gX4_readOther_X5_isPair_n74 rfl rfl rfl (hX.1 _ (List.mem_of_getElem? (i := 6) rfl)) (hts (.initialized RX5) (List.mem_of_getElem? (i := 17) rfl)) (pdX5_isPair).2 ⟨Nat.le_of_ble_eq_true rfl, Nat.le_of_ble_eq_true rfl⟩, (hts (.static yX5_isPair) (List.mem_of_getElem? (i := 16) rfl)), trivial⟩ wP_nil hK xN_bl (fun U _ hW => XN_warm hW hX) hl.1 rfl rfl (Nat.le_of_ble_eq_true rfl) dX4_readOther_16 ⟨Nat.zero_le _, Nat.zero_le _⟩ (fun r2_ er2_ => ?_)
  obtain rfl : r2_ = bI (0 ≤ (dI (tch tx len i)) ∧ (dI (tch tx len i)) ≤ 3) := er2_
  refine lv_if_ne (tgt := 24) hx hb dX4_readOther_19 (by decide) (fun c19 => ?_) (fun c19 => ?_)
  · skip
    have c19 := bI_n0 c19
    have hpd := (dI_pd _).mp c19
    refine lv_aload_n hx hb dX4_readOther_24 rfl (lv_at hl 0 rfl) ?_
    refine lv_dup hx hb dX4_readOther_25 rfl ?_
    refine va_get (D := D) (ci := 4) (v := .int (w 1)) (C := RX4) (T := TX4) (N := 8) hx hb hts inwX4_readOther_X4 hown hK hP 0 rfl rfl 5 (by decide) (hts (.fieldLink RX4 36 "PlateSlabs$Trial" "at" "I") (List.mem_of_getElem? (i := 1) rfl)) (fun _ h9 => h9) rfl dX4_readOther_26 ?_
    refine lv_tpi (z := nI i) (h1) ?_
    refine lv_iconst (v := 1) hx hb dX4_readOther_29 (by decide) ?_
    refine lv_iadd hx hb dX4_readOther_30 ?_
    refine lv_tpi (z := nI (i + 1)) (nI_1 i) ?_
    refine va_put (D := D) (ci := 4) (v := .int (nI (i + 1))) (C := RX4) (T := TX4) (N := 8) hx hb hts inwX4_readOther_X4 tyX4 tyX4_ok nmX4 hown hK hP hD hS 0 rfl rfl 5 (by decide) (hts (.fieldLink RX4 36 "PlateSlabs$Trial" "at" "I") (List.mem_of_getElem? (i := 1) rfl)) (fun _ h9 => h9) rfl (tyX4_ok 5 (by decide)) (rfl) (rfl) (Nat.le_of_ble_eq_true rfl) dX4_readOther_31 (fun H locs hP hD hS => ?_)
    have hP : va_P D vwCl [((y 0), .inr (4, [.ref (y 4), .ref (y 1), .ref (y 2), .ref (y 3), .int (w 0), .int (nI (i + 1)), .int (w 2), .int (dI (tch tx len i))])), ((y 4), .inr (3, [.ref (y 5), .int (nI len)])), ((y 5), .inl (T 2, 60, .inl (tx)))] H := hP
    have hD : va_D A [((y 0), .inr (4, [.ref (y 4), .ref (y 1), .ref (y 2), .ref (y 3), .int (w 0), .int (nI (i + 1)), .int (w 2), .int (dI (tch tx len i))])), ((y 4), .inr (3, [.ref (y 5), .int (nI len)])), ((y 5), .inl (T 2, 60, .inl (tx)))] := hD
    refine lv_iconst (v := 1) hx hb dX4_readOther_34 (by decide) ?_
    exact hret _ _ _ (upd (upd w 3 (dI (tch tx len i))) 1 (nI (i + 1))) _ _ dX4_readOther_35 hS hP hD (Or.inl ⟨hpd, rfl, by rw [dI_pdv hpd]⟩)
  · skip
    have c19 := bI_0 c19
    have hpd := mt (dI_pd _).mpr c19
    refine lv_iconst (v := 0) hx hb dX4_readOther_22 (by decide) ?_
    exact hret _ _ _ (upd w 3 (dI (tch tx len i))) _ _ dX4_readOther_23 hS hP hD (Or.inr ⟨hpd, rfl, _, rfl⟩)

