theorem pdX4_kindOf : yX4_kindOf.cls = RX4 ∧ yX4_kindOf.cls ≠ "java/lang/invoke/MethodHandle" ∧ yX4_kindOf.cls ≠ "java/lang/invoke/VarHandle" ∧ (parseMethodDescriptor yX4_kindOf.desc).map (fun d => d.parameters.length) = some 1 := by decide +kernel
theorem pdX4_pairOf : yX4_pairOf.cls = RX4 ∧ yX4_pairOf.cls ≠ "java/lang/invoke/MethodHandle" ∧ yX4_pairOf.cls ≠ "java/lang/invoke/VarHandle" ∧ (parseMethodDescriptor yX4_pairOf.desc).map (fun d => d.parameters.length) = some 1 := by decide +kernel
theorem pdX4_valueOf : yX4_valueOf.cls = RX4 ∧ yX4_valueOf.cls ≠ "java/lang/invoke/MethodHandle" ∧ yX4_valueOf.cls ≠ "java/lang/invoke/VarHandle" ∧ (parseMethodDescriptor yX4_valueOf.desc).map (fun d => d.parameters.length) = some 1 := by decide +kernel
theorem pdX4_read : yX4_read.cls = RX4 ∧ yX4_read.cls ≠ "java/lang/invoke/MethodHandle" ∧ yX4_read.cls ≠ "java/lang/invoke/VarHandle" ∧ (parseMethodDescriptor yX4_read.desc).map (fun d => d.parameters.length) = some 0 := by decide +kernel
theorem inwX4_kindOf_X4 : ∀ w ∈ wsX40, w ∈ wsX4_kindOf := by decide +kernel
theorem inwX4_pairOf_X4 : ∀ w ∈ wsX40, w ∈ wsX4_pairOf := by decide +kernel
theorem inwX4_valueOf_X4 : ∀ w ∈ wsX40, w ∈ wsX4_valueOf := by decide +kernel
theorem inwX4_read_X4 : ∀ w ∈ wsX40, w ∈ wsX4_read := by decide +kernel
theorem inwX4_read_X3 : ∀ w ∈ wsX30, w ∈ wsX4_read := by decide +kernel
def rmX4_kindOf : Room := { frames := 1, cells := 0, slots := 0, locals := 21 }
set_option maxHeartbeats 4000000 in
set_option maxRecDepth 100000 in
theorem mX4_kindOf (l : Launch) (T : Nat → ClassId) (D : va_G) (y : Nat → Nat) (w K : Nat → Int32) (n k : Nat) (hn : n ≤ 20) (h0 : w 0 = nI n) (hkn : k < n) : RdI l yX4_kindOf wsX4_kindOf rmX4_kindOf T xN D [.ref (y 0), .int (nI k)] [((y 0), .inr (4, [.ref (y 4), .ref (y 1), .ref (y 2), .ref (y 3), .int (w 0), .int (w 1), .int (w 2), .int (w 3)])), ((y 1), .inl (T 0, 20, .inl (K)))] (fun r => r = K k) := by
  refine met_ri (cc := cX4_kindOf) (maxL := 2) (by decide) rfl (Nat.le_of_ble_eq_true rfl) ?_
  intro p_ e s m args below meth c H ls Q hx hb hts hown hml hX hH hP hK hl hret
  have hl : lv_has ls 2 [(0, .ref (y 0)), (1, .int (nI k))] := hl
  refine lv_aload_n hx hb dX4_kindOf_0 rfl (lv_at hl 0 rfl) ?_
  refine lv_iload_n hx hb dX4_kindOf_1 rfl (lv_at hl 1 rfl) ?_
  refine callRi (As := [.int (nI k)]) ⟨hx, hb, hml, hown, hts⟩ (mX4_isThing l T D y w (nI k)) (cwV 1 hts gX4_kindOf_X4_isThing rfl rfl rfl pdX4_isThing ⟨Nat.le_of_ble_eq_true rfl, Nat.le_of_ble_eq_true rfl⟩) (hP.sub [0] rfl) hK xN_bl (fun U _ hW => XN_warm hW hX) (ci := 4) rfl rfl rfl hl.1 rfl rfl (Nat.le_of_ble_eq_true rfl) dX4_kindOf_2 ⟨Nat.zero_le _, Nat.zero_le _⟩ (fun r1_ er1_ => ?_)
  obtain rfl : r1_ = bI (0 ≤ (nI k) ∧ (nI k) < w 0) := er1_
  refine lv_if_eq (tgt := 17) hx hb dX4_kindOf_5 (by decide) (fun c5 => ?_) (fun c5 => ?_)
  · skip
    have c5 := bI_0 c5
    exact absurd ⟨nI_pos' (by omega), by rw [h0]; exact (nI_ltI (by omega) (by omega)).mpr hkn⟩ c5
  · skip
    have c5 := bI_n0 c5
    refine lv_aload_n hx hb dX4_kindOf_8 rfl (lv_at hl 0 rfl) ?_
    refine va_get (D := D) (ci := 4) (v := .ref (y 1)) (C := RX4) (T := TX4) (N := 8) hx hb hts inwX4_kindOf_X4 hown hK hP 0 rfl rfl 1 (by decide) (hts (.fieldLink RX4 18 "PlateSlabs$Trial" "kinds" "[I") (List.mem_of_getElem? (i := 1) rfl)) (fun _ h9 => h9) rfl dX4_kindOf_9 ?_
    refine lv_iload_n hx hb dX4_kindOf_12 rfl (lv_at hl 1 rfl) ?_
    refine va_iald hx hb hK hP 1 0 rfl rfl (vp_in_nI (by omega) (by decide)) dX4_kindOf_13 ?_
    refine lv_tpi (congrArg (fun z => K z) (nI_clamp (by omega))) ?_
    refine lv_goto (tgt := 18) hx hb dX4_kindOf_14 (by decide) ?_
    exact hret _ _ _ dX4_kindOf_18 rfl

def rmX4_pairOf : Room := { frames := 1, cells := 0, slots := 0, locals := 21 }
set_option maxHeartbeats 4000000 in
set_option maxRecDepth 100000 in
theorem mX4_pairOf (l : Launch) (T : Nat → ClassId) (D : va_G) (y : Nat → Nat) (w K : Nat → Int32) (n k : Nat) (hn : n ≤ 20) (h0 : w 0 = nI n) (hkn : k < n) : RdI l yX4_pairOf wsX4_pairOf rmX4_pairOf T xN D [.ref (y 0), .int (nI k)] [((y 0), .inr (4, [.ref (y 4), .ref (y 1), .ref (y 2), .ref (y 3), .int (w 0), .int (w 1), .int (w 2), .int (w 3)])), ((y 2), .inl (T 0, 20, .inl (K)))] (fun r => r = K k) := by
  refine met_ri (cc := cX4_pairOf) (maxL := 2) (by decide) rfl (Nat.le_of_ble_eq_true rfl) ?_
  intro p_ e s m args below meth c H ls Q hx hb hts hown hml hX hH hP hK hl hret
  have hl : lv_has ls 2 [(0, .ref (y 0)), (1, .int (nI k))] := hl
  refine lv_aload_n hx hb dX4_pairOf_0 rfl (lv_at hl 0 rfl) ?_
  refine lv_iload_n hx hb dX4_pairOf_1 rfl (lv_at hl 1 rfl) ?_
  refine callRi (As := [.int (nI k)]) ⟨hx, hb, hml, hown, hts⟩ (mX4_isThing l T D y w (nI k)) (cwV 1 hts gX4_pairOf_X4_isThing rfl rfl rfl pdX4_isThing ⟨Nat.le_of_ble_eq_true rfl, Nat.le_of_ble_eq_true rfl⟩) (hP.sub [0] rfl) hK xN_bl (fun U _ hW => XN_warm hW hX) (ci := 4) rfl rfl rfl hl.1 rfl rfl (Nat.le_of_ble_eq_true rfl) dX4_pairOf_2 ⟨Nat.zero_le _, Nat.zero_le _⟩ (fun r1_ er1_ => ?_)
  obtain rfl : r1_ = bI (0 ≤ (nI k) ∧ (nI k) < w 0) := er1_
  refine lv_if_eq (tgt := 17) hx hb dX4_pairOf_5 (by decide) (fun c5 => ?_) (fun c5 => ?_)
  · skip
    have c5 := bI_0 c5
    exact absurd ⟨nI_pos' (by omega), by rw [h0]; exact (nI_ltI (by omega) (by omega)).mpr hkn⟩ c5
  · skip
    have c5 := bI_n0 c5
    refine lv_aload_n hx hb dX4_pairOf_8 rfl (lv_at hl 0 rfl) ?_
    refine va_get (D := D) (ci := 4) (v := .ref (y 2)) (C := RX4) (T := TX4) (N := 8) hx hb hts inwX4_pairOf_X4 hown hK hP 0 rfl rfl 2 (by decide) (hts (.fieldLink RX4 22 "PlateSlabs$Trial" "pairs" "[I") (List.mem_of_getElem? (i := 1) rfl)) (fun _ h9 => h9) rfl dX4_pairOf_9 ?_
    refine lv_iload_n hx hb dX4_pairOf_12 rfl (lv_at hl 1 rfl) ?_
    refine va_iald hx hb hK hP 1 0 rfl rfl (vp_in_nI (by omega) (by decide)) dX4_pairOf_13 ?_
    refine lv_tpi (congrArg (fun z => K z) (nI_clamp (by omega))) ?_
    refine lv_goto (tgt := 18) hx hb dX4_pairOf_14 (by decide) ?_
    exact hret _ _ _ dX4_pairOf_18 rfl

def rmX4_valueOf : Room := { frames := 1, cells := 0, slots := 0, locals := 21 }
set_option maxHeartbeats 4000000 in
set_option maxRecDepth 100000 in
theorem mX4_valueOf (l : Launch) (T : Nat → ClassId) (D : va_G) (y : Nat → Nat) (w K : Nat → Int32) (n k : Nat) (hn : n ≤ 20) (h0 : w 0 = nI n) (hkn : k < n) : RdI l yX4_valueOf wsX4_valueOf rmX4_valueOf T xN D [.ref (y 0), .int (nI k)] [((y 0), .inr (4, [.ref (y 4), .ref (y 1), .ref (y 2), .ref (y 3), .int (w 0), .int (w 1), .int (w 2), .int (w 3)])), ((y 3), .inl (T 0, 20, .inl (K)))] (fun r => r = K k) := by
  refine met_ri (cc := cX4_valueOf) (maxL := 2) (by decide) rfl (Nat.le_of_ble_eq_true rfl) ?_
  intro p_ e s m args below meth c H ls Q hx hb hts hown hml hX hH hP hK hl hret
  have hl : lv_has ls 2 [(0, .ref (y 0)), (1, .int (nI k))] := hl
  refine lv_aload_n hx hb dX4_valueOf_0 rfl (lv_at hl 0 rfl) ?_
  refine lv_iload_n hx hb dX4_valueOf_1 rfl (lv_at hl 1 rfl) ?_
  refine callRi (As := [.int (nI k)]) ⟨hx, hb, hml, hown, hts⟩ (mX4_isThing l T D y w (nI k)) (cwV 1 hts gX4_valueOf_X4_isThing rfl rfl rfl pdX4_isThing ⟨Nat.le_of_ble_eq_true rfl, Nat.le_of_ble_eq_true rfl⟩) (hP.sub [0] rfl) hK xN_bl (fun U _ hW => XN_warm hW hX) (ci := 4) rfl rfl rfl hl.1 rfl rfl (Nat.le_of_ble_eq_true rfl) dX4_valueOf_2 ⟨Nat.zero_le _, Nat.zero_le _⟩ (fun r1_ er1_ => ?_)
  obtain rfl : r1_ = bI (0 ≤ (nI k) ∧ (nI k) < w 0) := er1_
  refine lv_if_eq (tgt := 17) hx hb dX4_valueOf_5 (by decide) (fun c5 => ?_) (fun c5 => ?_)
  · skip
    have c5 := bI_0 c5
    exact absurd ⟨nI_pos' (by omega), by rw [h0]; exact (nI_ltI (by omega) (by omega)).mpr hkn⟩ c5
  · skip
    have c5 := bI_n0 c5
    refine lv_aload_n hx hb dX4_valueOf_8 rfl (lv_at hl 0 rfl) ?_
    refine va_get (D := D) (ci := 4) (v := .ref (y 3)) (C := RX4) (T := TX4) (N := 8) hx hb hts inwX4_valueOf_X4 hown hK hP 0 rfl rfl 3 (by decide) (hts (.fieldLink RX4 25 "PlateSlabs$Trial" "values" "[I") (List.mem_of_getElem? (i := 1) rfl)) (fun _ h9 => h9) rfl dX4_valueOf_9 ?_
    refine lv_iload_n hx hb dX4_valueOf_12 rfl (lv_at hl 1 rfl) ?_
    refine va_iald hx hb hK hP 1 0 rfl rfl (vp_in_nI (by omega) (by decide)) dX4_valueOf_13 ?_
    refine lv_tpi (congrArg (fun z => K z) (nI_clamp (by omega))) ?_
    refine lv_goto (tgt := 18) hx hb dX4_valueOf_14 (by decide) ?_
    exact hret _ _ _ dX4_valueOf_18 rfl

def rmX4_read : Room := { frames := 4, cells := 0, slots := 0, locals := 87 }
set_option maxHeartbeats 4000000 in
set_option maxRecDepth 100000 in
theorem mX4_read (l : Launch) (T : Nat → ClassId) (D : va_G) (y : Nat → Nat) (w tx : Nat → Int32) (len : Nat) (hlen : len ≤ 60) (hch : ∀ j, isCh (tx j)) (K A9 W9 : Nat → Int32) : MuI l yX4_read wsX4_read rmX4_read T xN D [.ref (y 0)] [((y 0), .inr (4, [.ref (y 4), .ref (y 1), .ref (y 2), .ref (y 3), .int (w 0), .int (w 1), .int (w 2), .int (w 3)])), ((y 4), .inr (3, [.ref (y 5), .int (nI len)])), ((y 5), .inl (T 2, 60, .inl (tx))), ((y 1), .inl (T 0, 20, .inl (K))), ((y 2), .inl (T 0, 20, .inl (A9))), ((y 3), .inl (T 0, 20, .inl (W9)))] (S := (Nat → Int32) × (Nat → Int32) × (Nat → Int32) × (Nat → Int32)) (fun r u => (∃ m, pEnd (tch tx len) len m ∧ r = -1 ∧ u.1 0 = nI (m + 1) ∧ thHold (tch tx len) (m + 1) u.2.1 u.2.2.1 u.2.2.2) ∨ (∃ m, pBad (tch tx len) len m ∧ r = nI (tJ (tch tx len) (tAt (tch tx len) m)))) (fun u => [((y 0), .inr (4, [.ref (y 4), .ref (y 1), .ref (y 2), .ref (y 3), .int (u.1 0), .int (u.1 1), .int (u.1 2), .int (u.1 3)])), ((y 4), .inr (3, [.ref (y 5), .int (nI len)])), ((y 5), .inl (T 2, 60, .inl (tx))), ((y 1), .inl (T 0, 20, .inl (u.2.1))), ((y 2), .inl (T 0, 20, .inl (u.2.2.1))), ((y 3), .inl (T 0, 20, .inl (u.2.2.2)))]) 0 0 := by
  refine met_mi (cc := cX4_read) (maxL := 2) (by decide) rfl (Nat.le_of_ble_eq_true rfl) ?_
  intro p_ e s m args below meth c ls A Q hx hb hts hown hml hX hP hD hK hS hA hl hret
  have hl : lv_has ls 2 [(0, .ref (y 0))] := hl
  obtain ⟨H, hH⟩ : ∃ H, H = s.heap := ⟨_, rfl⟩
  have hS : va_S A s.heap H [] := by rw [hH]; exact hS
  rw [← hH] at hP ⊢
  refine lv_aload_n hx hb dX4_read_0 rfl (lv_at hl 0 rfl) ?_
  refine lv_iconst (v := 0) hx hb dX4_read_1 (by decide) ?_
  refine va_put (D := D) (ci := 4) (v := .int 0) (C := RX4) (T := TX4) (N := 8) hx hb hts inwX4_read_X4 tyX4 tyX4_ok nmX4 hown hK hP hD hS 0 rfl rfl 5 (by decide) (hts (.fieldLink RX4 36 "PlateSlabs$Trial" "at" "I") (List.mem_of_getElem? (i := 1) rfl)) (fun _ h9 => h9) rfl (tyX4_ok 5 (by decide)) (rfl) (rfl) (Nat.le_of_ble_eq_true rfl) dX4_read_2 (fun H locs hP hD hS => ?_)
  have hP : va_P D vwCl [((y 0), .inr (4, [.ref (y 4), .ref (y 1), .ref (y 2), .ref (y 3), .int (w 0), .int 0, .int (w 2), .int (w 3)])), ((y 4), .inr (3, [.ref (y 5), .int (nI len)])), ((y 5), .inl (T 2, 60, .inl (tx))), ((y 1), .inl (T 0, 20, .inl (K))), ((y 2), .inl (T 0, 20, .inl (A9))), ((y 3), .inl (T 0, 20, .inl (W9)))] H := hP
  have hD : va_D A [((y 0), .inr (4, [.ref (y 4), .ref (y 1), .ref (y 2), .ref (y 3), .int (w 0), .int 0, .int (w 2), .int (w 3)])), ((y 4), .inr (3, [.ref (y 5), .int (nI len)])), ((y 5), .inl (T 2, 60, .inl (tx))), ((y 1), .inl (T 0, 20, .inl (K))), ((y 2), .inl (T 0, 20, .inl (A9))), ((y 3), .inl (T 0, 20, .inl (W9)))] := hD
  refine lv_aload_n hx hb dX4_read_5 rfl (lv_at hl 0 rfl) ?_
  refine lv_iconst (v := 0) hx hb dX4_read_6 (by decide) ?_
  refine va_put (D := D) (ci := 4) (v := .int 0) (C := RX4) (T := TX4) (N := 8) hx hb hts inwX4_read_X4 tyX4 tyX4_ok nmX4 hown hK hP hD hS 0 rfl rfl 4 (by decide) (hts (.fieldLink RX4 32 "PlateSlabs$Trial" "things" "I") (List.mem_of_getElem? (i := 2) rfl)) (fun _ h9 => h9) rfl (tyX4_ok 4 (by decide)) (rfl) (rfl) (Nat.le_of_ble_eq_true rfl) dX4_read_7 (fun H locs hP hD hS => ?_)
  have hP : va_P D vwCl [((y 0), .inr (4, [.ref (y 4), .ref (y 1), .ref (y 2), .ref (y 3), .int 0, .int 0, .int (w 2), .int (w 3)])), ((y 4), .inr (3, [.ref (y 5), .int (nI len)])), ((y 5), .inl (T 2, 60, .inl (tx))), ((y 1), .inl (T 0, 20, .inl (K))), ((y 2), .inl (T 0, 20, .inl (A9))), ((y 3), .inl (T 0, 20, .inl (W9)))] H := hP
  have hD : va_D A [((y 0), .inr (4, [.ref (y 4), .ref (y 1), .ref (y 2), .ref (y 3), .int 0, .int 0, .int (w 2), .int (w 3)])), ((y 4), .inr (3, [.ref (y 5), .int (nI len)])), ((y 5), .inl (T 2, 60, .inl (tx))), ((y 1), .inl (T 0, 20, .inl (K))), ((y 2), .inl (T 0, 20, .inl (A9))), ((y 3), .inl (T 0, 20, .inl (W9)))] := hD
  obtain ⟨v0, ev0⟩ : ∃ z, z = upd (upd w 1 0) 0 0 := ⟨_, rfl⟩
  have hP : va_P D vwCl [((y 0), .inr (4, [.ref (y 4), .ref (y 1), .ref (y 2), .ref (y 3), .int (v0 0), .int (v0 1), .int (v0 2), .int (v0 3)])), ((y 4), .inr (3, [.ref (y 5), .int (nI len)])), ((y 5), .inl (T 2, 60, .inl (tx))), ((y 1), .inl (T 0, 20, .inl (K))), ((y 2), .inl (T 0, 20, .inl (A9))), ((y 3), .inl (T 0, 20, .inl (W9)))] H := by rw [ev0]; exact hP
  have hD : va_D A [((y 0), .inr (4, [.ref (y 4), .ref (y 1), .ref (y 2), .ref (y 3), .int (v0 0), .int (v0 1), .int (v0 2), .int (v0 3)])), ((y 4), .inr (3, [.ref (y 5), .int (nI len)])), ((y 5), .inl (T 2, 60, .inl (tx))), ((y 1), .inl (T 0, 20, .inl (K))), ((y 2), .inl (T 0, 20, .inl (A9))), ((y 3), .inl (T 0, 20, .inl (W9)))] := by rw [ev0]; exact hD
  have a0 : v0 0 = nI 0 := by rw [ev0]; rfl
  have a1 : v0 1 = nI 0 := by rw [ev0]; rfl
  have loop : ∀ (j : Nat) (n9 : Nat) (u : Nat → Int32) (K : Nat → Int32) (A9 : Nat → Int32) (W9 : Nat → Int32) (ls : Array Slot) (H : Heap) (locs : List Loc), (21 ≤ n9 + j) → (n9 ≤ 20) → (pGo (tch tx len) len n9) → (u 0 = nI n9) → (u 1 = nI (tAt (tch tx len) n9)) → (thHold (tch tx len) n9 K A9 W9) → va_P D vwCl [((y 0), .inr (4, [.ref (y 4), .ref (y 1), .ref (y 2), .ref (y 3), .int (u 0), .int (u 1), .int (u 2), .int (u 3)])), ((y 4), .inr (3, [.ref (y 5), .int (nI len)])), ((y 5), .inl (T 2, 60, .inl (tx))), ((y 1), .inl (T 0, 20, .inl (K))), ((y 2), .inl (T 0, 20, .inl (A9))), ((y 3), .inl (T 0, 20, .inl (W9)))] H → va_D A [((y 0), .inr (4, [.ref (y 4), .ref (y 1), .ref (y 2), .ref (y 3), .int (u 0), .int (u 1), .int (u 2), .int (u 3)])), ((y 4), .inr (3, [.ref (y 5), .int (nI len)])), ((y 5), .inl (T 2, 60, .inl (tx))), ((y 1), .inl (T 0, 20, .inl (K))), ((y 2), .inl (T 0, 20, .inl (A9))), ((y 3), .inl (T 0, 20, .inl (W9)))] → va_S A s.heap H locs → lv_has ls 2 [(0, .ref (y 0))] → W p_ l e rmX4_read s m args below meth c H locs 0 0 Q (F0 m 10 ls []) := by
    intro j
    induction j with
    | zero => intro n9 u K A9 W9 ls H locs hm hi; exact absurd hm (by omega)
    | succ j ih =>
      intro n9 u K A9 W9 ls H locs hm hi hgo h0u h1u hth hP hD hS hl
      have hb0 := tAt_b hgo
      have hb1 := tJ_b (i := (tAt (tch tx len) n9)) (tx := tx) hb0.2
      refine lv_aload_n hx hb dX4_read_10 rfl (lv_at hl 0 rfl) ?_
      refine va_get (D := D) (ci := 4) (v := .int (u 0)) (C := RX4) (T := TX4) (N := 8) hx hb hts inwX4_read_X4 hown hK hP 0 rfl rfl 4 (by decide) (hts (.fieldLink RX4 32 "PlateSlabs$Trial" "things" "I") (List.mem_of_getElem? (i := 2) rfl)) (fun _ h9 => h9) rfl dX4_read_11 ?_
      refine lv_tpi (z := nI n9) (h0u) ?_
      refine lv_bipush (v := nI 20) hx hb dX4_read_14 (by decide) ?_
      refine lv_icmp_ge (tgt := 123) hx hb dX4_read_16 (by decide) (fun c16 => ?_) (fun c16 => ?_)
      · skip
        have e20 : n9 = 20 := by
          have := (nI_leI (a := 20) (b := n9) (by decide) (by omega)).mp c16
          omega
        subst e20
        have hB := pBad_20 hlen hgo
        refine lv_aload_n hx hb dX4_read_123 rfl (lv_at hl 0 rfl) ?_
        refine va_get (D := D) (ci := 4) (v := .int (u 1)) (C := RX4) (T := TX4) (N := 8) hx hb hts inwX4_read_X4 hown hK hP 0 rfl rfl 5 (by decide) (hts (.fieldLink RX4 36 "PlateSlabs$Trial" "at" "I") (List.mem_of_getElem? (i := 1) rfl)) (fun _ h9 => h9) rfl dX4_read_124 ?_
        refine lv_tpi (z := nI (tAt (tch tx len) 20)) (h1u) ?_
        exact hret _ _ _ (u, K, A9, W9) _ _ dX4_read_127 hS hP hD (Or.inr ⟨20, hB.1, by rw [hB.2]⟩)
      · skip
        have hlt20 : n9 < 20 := by
          have := mt (nI_leI (a := 20) (b := n9) (by decide) (by omega)).mpr c16
          omega
        refine lv_aload_n hx hb dX4_read_19 rfl (lv_at hl 0 rfl) ?_
        refine va_get (D := D) (ci := 4) (v := .ref (y 4)) (C := RX4) (T := TX4) (N := 8) hx hb hts inwX4_read_X4 hown hK hP 0 rfl rfl 0 (by decide) (hts (.fieldLink RX4 12 "PlateSlabs$Trial" "text" "LPlateSlabs$Text;") (List.mem_of_getElem? (i := 3) rfl)) (fun _ h9 => h9) rfl dX4_read_20 ?_
        refine lv_aload_n hx hb dX4_read_23 rfl (lv_at hl 0 rfl) ?_
        refine va_get (D := D) (ci := 4) (v := .int (u 1)) (C := RX4) (T := TX4) (N := 8) hx hb hts inwX4_read_X4 hown hK hP 0 rfl rfl 5 (by decide) (hts (.fieldLink RX4 36 "PlateSlabs$Trial" "at" "I") (List.mem_of_getElem? (i := 1) rfl)) (fun _ h9 => h9) rfl dX4_read_24 ?_
        refine lv_tpi (z := nI (tAt (tch tx len) n9)) (h1u) ?_
        refine callRi (As := [.int (nI (tAt (tch tx len) n9))]) ⟨hx, hb, hml, hown, hts⟩ (mX3_signAt l T D y tx len hlen hch (tAt (tch tx len) n9) (by omega)) (cwV 1 hts gX4_read_X3_signAt rfl rfl rfl pdX3_signAt ⟨Nat.le_of_ble_eq_true rfl, Nat.le_of_ble_eq_true rfl⟩) (hP.sub [1, 2] rfl) hK xN_bl (fun U _ hW => XN_warm hW hX) (ci := 3) rfl rfl rfl hl.1 rfl rfl (Nat.le_of_ble_eq_true rfl) dX4_read_27 ⟨Nat.zero_le _, Nat.zero_le _⟩ (fun r1_ er1_ => ?_)
        obtain rfl : r1_ = tch tx len (tAt (tch tx len) n9) := er1_
        refine lv_istore_n (lv' := [(1, .int (tch tx len (tAt (tch tx len) n9))), (0, .ref (y 0))]) hx hb dX4_read_30 rfl hl (by decide) rfl (fun ls hl => ?_)
        refine lv_aload_n hx hb dX4_read_31 rfl (lv_at hl 1 rfl) ?_
        refine lv_iload_n hx hb dX4_read_32 rfl (lv_at hl 0 rfl) ?_
        refine callMi (As := [.int (tch tx len (tAt (tch tx len) n9))]) (wr := [((y 1), .inl (T 0, 20, .inl (K))), ((y 2), .inl (T 0, 20, .inl (A9))), ((y 3), .inl (T 0, 20, .inl (W9)))]) ⟨hx, hb, hml, hown, hts⟩ (mX4_readThing l T D y u tx len hlen hch (tAt (tch tx len) n9) (by have := hb0.2; omega) h1u) (cwV 1 hts gX4_read_X4_readThing rfl rfl rfl pdX4_readThing ⟨Nat.le_of_ble_eq_true rfl, Nat.le_of_ble_eq_true rfl⟩) hP hD hK hS hA xN_bl (fun U _ hW => XN_warm hW hX) (ci := 4) rfl rfl rfl hl.1 rfl rfl (Nat.le_of_ble_eq_true rfl) dX4_read_33 ⟨Nat.zero_le _, Nat.zero_le _⟩ (fun r2_ u3_ H locs eu3_ hP hD hS hkf => ?_)
        obtain ⟨u1, rfl⟩ : ∃ z, z = u3_ := ⟨_, rfl⟩
        have hP : va_P D vwCl [((y 0), .inr (4, [.ref (y 4), .ref (y 1), .ref (y 2), .ref (y 3), .int (u1 0), .int (u1 1), .int (u1 2), .int (u1 3)])), ((y 4), .inr (3, [.ref (y 5), .int (nI len)])), ((y 5), .inl (T 2, 60, .inl (tx))), ((y 1), .inl (T 0, 20, .inl (K))), ((y 2), .inl (T 0, 20, .inl (A9))), ((y 3), .inl (T 0, 20, .inl (W9)))] H := hP
        have hD : va_D A [((y 0), .inr (4, [.ref (y 4), .ref (y 1), .ref (y 2), .ref (y 3), .int (u1 0), .int (u1 1), .int (u1 2), .int (u1 3)])), ((y 4), .inr (3, [.ref (y 5), .int (nI len)])), ((y 5), .inl (T 2, 60, .inl (tx))), ((y 1), .inl (T 0, 20, .inl (K))), ((y 2), .inl (T 0, 20, .inl (A9))), ((y 3), .inl (T 0, 20, .inl (W9)))] := hD
        rcases eu3_ with ⟨hok, rfl, q0, q1, q2, q3⟩ | ⟨hno, rfl, q0, q1⟩
        · skip
          refine lv_if_ne (tgt := 44) hx hb dX4_read_36 (by decide) (fun c36 => ?_) (fun c36 => ?_)
          · skip
            refine lv_aload_n hx hb dX4_read_44 rfl (lv_at hl 1 rfl) ?_
            refine va_get (D := D) (ci := 4) (v := .ref (y 1)) (C := RX4) (T := TX4) (N := 8) hx hb hts inwX4_read_X4 hown hK hP 0 rfl rfl 1 (by decide) (hts (.fieldLink RX4 18 "PlateSlabs$Trial" "kinds" "[I") (List.mem_of_getElem? (i := 4) rfl)) (fun _ h9 => h9) rfl dX4_read_45 ?_
            refine lv_aload_n hx hb dX4_read_48 rfl (lv_at hl 1 rfl) ?_
            refine va_get (D := D) (ci := 4) (v := .int (u1 0)) (C := RX4) (T := TX4) (N := 8) hx hb hts inwX4_read_X4 hown hK hP 0 rfl rfl 4 (by decide) (hts (.fieldLink RX4 32 "PlateSlabs$Trial" "things" "I") (List.mem_of_getElem? (i := 2) rfl)) (fun _ h9 => h9) rfl dX4_read_49 ?_
            refine lv_tpi (z := nI n9) (q0.trans h0u) ?_
            refine lv_iload_n hx hb dX4_read_52 rfl (lv_at hl 0 rfl) ?_
            refine va_iast hx hb hK hP hD hS 3 0 rfl rfl (vp_in_nI (by omega) (by decide)) dX4_read_53 (fun H locs hP hD hS => ?_)
            rw [nI_clamp (show n9 < 2 ^ 31 by omega)] at hP hD
            have hP : va_P D vwCl [((y 0), .inr (4, [.ref (y 4), .ref (y 1), .ref (y 2), .ref (y 3), .int (u1 0), .int (u1 1), .int (u1 2), .int (u1 3)])), ((y 4), .inr (3, [.ref (y 5), .int (nI len)])), ((y 5), .inl (T 2, 60, .inl (tx))), ((y 1), .inl (T 0, 20, .inl (upd K n9 (tch tx len (tAt (tch tx len) n9))))), ((y 2), .inl (T 0, 20, .inl (A9))), ((y 3), .inl (T 0, 20, .inl (W9)))] H := hP
            have hD : va_D A [((y 0), .inr (4, [.ref (y 4), .ref (y 1), .ref (y 2), .ref (y 3), .int (u1 0), .int (u1 1), .int (u1 2), .int (u1 3)])), ((y 4), .inr (3, [.ref (y 5), .int (nI len)])), ((y 5), .inl (T 2, 60, .inl (tx))), ((y 1), .inl (T 0, 20, .inl (upd K n9 (tch tx len (tAt (tch tx len) n9))))), ((y 2), .inl (T 0, 20, .inl (A9))), ((y 3), .inl (T 0, 20, .inl (W9)))] := hD
            refine lv_aload_n hx hb dX4_read_54 rfl (lv_at hl 1 rfl) ?_
            refine va_get (D := D) (ci := 4) (v := .ref (y 2)) (C := RX4) (T := TX4) (N := 8) hx hb hts inwX4_read_X4 hown hK hP 0 rfl rfl 2 (by decide) (hts (.fieldLink RX4 22 "PlateSlabs$Trial" "pairs" "[I") (List.mem_of_getElem? (i := 5) rfl)) (fun _ h9 => h9) rfl dX4_read_55 ?_
            refine lv_aload_n hx hb dX4_read_58 rfl (lv_at hl 1 rfl) ?_
            refine va_get (D := D) (ci := 4) (v := .int (u1 0)) (C := RX4) (T := TX4) (N := 8) hx hb hts inwX4_read_X4 hown hK hP 0 rfl rfl 4 (by decide) (hts (.fieldLink RX4 32 "PlateSlabs$Trial" "things" "I") (List.mem_of_getElem? (i := 2) rfl)) (fun _ h9 => h9) rfl dX4_read_59 ?_
            refine lv_tpi (z := nI n9) (q0.trans h0u) ?_
            refine lv_aload_n hx hb dX4_read_62 rfl (lv_at hl 1 rfl) ?_
            refine va_get (D := D) (ci := 4) (v := .int (u1 2)) (C := RX4) (T := TX4) (N := 8) hx hb hts inwX4_read_X4 hown hK hP 0 rfl rfl 6 (by decide) (hts (.fieldLink RX4 46 "PlateSlabs$Trial" "pair" "I") (List.mem_of_getElem? (i := 6) rfl)) (fun _ h9 => h9) rfl dX4_read_63 ?_
            refine lv_tpi (z := nI (cA (tch tx len) (tAt (tch tx len) n9))) (q2) ?_
            refine va_iast hx hb hK hP hD hS 4 0 rfl rfl (vp_in_nI (by omega) (by decide)) dX4_read_66 (fun H locs hP hD hS => ?_)
            rw [nI_clamp (show n9 < 2 ^ 31 by omega)] at hP hD
            have hP : va_P D vwCl [((y 0), .inr (4, [.ref (y 4), .ref (y 1), .ref (y 2), .ref (y 3), .int (u1 0), .int (u1 1), .int (u1 2), .int (u1 3)])), ((y 4), .inr (3, [.ref (y 5), .int (nI len)])), ((y 5), .inl (T 2, 60, .inl (tx))), ((y 1), .inl (T 0, 20, .inl (upd K n9 (tch tx len (tAt (tch tx len) n9))))), ((y 2), .inl (T 0, 20, .inl (upd A9 n9 (nI (cA (tch tx len) (tAt (tch tx len) n9)))))), ((y 3), .inl (T 0, 20, .inl (W9)))] H := hP
            have hD : va_D A [((y 0), .inr (4, [.ref (y 4), .ref (y 1), .ref (y 2), .ref (y 3), .int (u1 0), .int (u1 1), .int (u1 2), .int (u1 3)])), ((y 4), .inr (3, [.ref (y 5), .int (nI len)])), ((y 5), .inl (T 2, 60, .inl (tx))), ((y 1), .inl (T 0, 20, .inl (upd K n9 (tch tx len (tAt (tch tx len) n9))))), ((y 2), .inl (T 0, 20, .inl (upd A9 n9 (nI (cA (tch tx len) (tAt (tch tx len) n9)))))), ((y 3), .inl (T 0, 20, .inl (W9)))] := hD
            refine lv_aload_n hx hb dX4_read_67 rfl (lv_at hl 1 rfl) ?_
            refine va_get (D := D) (ci := 4) (v := .ref (y 3)) (C := RX4) (T := TX4) (N := 8) hx hb hts inwX4_read_X4 hown hK hP 0 rfl rfl 3 (by decide) (hts (.fieldLink RX4 25 "PlateSlabs$Trial" "values" "[I") (List.mem_of_getElem? (i := 7) rfl)) (fun _ h9 => h9) rfl dX4_read_68 ?_
            refine lv_aload_n hx hb dX4_read_71 rfl (lv_at hl 1 rfl) ?_
            refine va_get (D := D) (ci := 4) (v := .int (u1 0)) (C := RX4) (T := TX4) (N := 8) hx hb hts inwX4_read_X4 hown hK hP 0 rfl rfl 4 (by decide) (hts (.fieldLink RX4 32 "PlateSlabs$Trial" "things" "I") (List.mem_of_getElem? (i := 2) rfl)) (fun _ h9 => h9) rfl dX4_read_72 ?_
            refine lv_tpi (z := nI n9) (q0.trans h0u) ?_
            refine lv_aload_n hx hb dX4_read_75 rfl (lv_at hl 1 rfl) ?_
            refine va_get (D := D) (ci := 4) (v := .int (u1 3)) (C := RX4) (T := TX4) (N := 8) hx hb hts inwX4_read_X4 hown hK hP 0 rfl rfl 7 (by decide) (hts (.fieldLink RX4 49 "PlateSlabs$Trial" "value" "I") (List.mem_of_getElem? (i := 8) rfl)) (fun _ h9 => h9) rfl dX4_read_76 ?_
            refine lv_tpi (z := nI (cW (tch tx len) (tAt (tch tx len) n9))) (q3) ?_
            refine va_iast hx hb hK hP hD hS 5 0 rfl rfl (vp_in_nI (by omega) (by decide)) dX4_read_79 (fun H locs hP hD hS => ?_)
            rw [nI_clamp (show n9 < 2 ^ 31 by omega)] at hP hD
            have hP : va_P D vwCl [((y 0), .inr (4, [.ref (y 4), .ref (y 1), .ref (y 2), .ref (y 3), .int (u1 0), .int (u1 1), .int (u1 2), .int (u1 3)])), ((y 4), .inr (3, [.ref (y 5), .int (nI len)])), ((y 5), .inl (T 2, 60, .inl (tx))), ((y 1), .inl (T 0, 20, .inl (upd K n9 (tch tx len (tAt (tch tx len) n9))))), ((y 2), .inl (T 0, 20, .inl (upd A9 n9 (nI (cA (tch tx len) (tAt (tch tx len) n9)))))), ((y 3), .inl (T 0, 20, .inl (upd W9 n9 (nI (cW (tch tx len) (tAt (tch tx len) n9))))))] H := hP
            have hD : va_D A [((y 0), .inr (4, [.ref (y 4), .ref (y 1), .ref (y 2), .ref (y 3), .int (u1 0), .int (u1 1), .int (u1 2), .int (u1 3)])), ((y 4), .inr (3, [.ref (y 5), .int (nI len)])), ((y 5), .inl (T 2, 60, .inl (tx))), ((y 1), .inl (T 0, 20, .inl (upd K n9 (tch tx len (tAt (tch tx len) n9))))), ((y 2), .inl (T 0, 20, .inl (upd A9 n9 (nI (cA (tch tx len) (tAt (tch tx len) n9)))))), ((y 3), .inl (T 0, 20, .inl (upd W9 n9 (nI (cW (tch tx len) (tAt (tch tx len) n9))))))] := hD
            refine lv_aload_n hx hb dX4_read_80 rfl (lv_at hl 1 rfl) ?_
            refine lv_dup hx hb dX4_read_81 rfl ?_
            refine va_get (D := D) (ci := 4) (v := .int (u1 0)) (C := RX4) (T := TX4) (N := 8) hx hb hts inwX4_read_X4 hown hK hP 0 rfl rfl 4 (by decide) (hts (.fieldLink RX4 32 "PlateSlabs$Trial" "things" "I") (List.mem_of_getElem? (i := 2) rfl)) (fun _ h9 => h9) rfl dX4_read_82 ?_
            refine lv_tpi (z := nI n9) (q0.trans h0u) ?_
            refine lv_iconst (v := 1) hx hb dX4_read_85 (by decide) ?_
            refine lv_iadd hx hb dX4_read_86 ?_
            refine lv_tpi (z := nI (n9 + 1)) (nI_1 n9) ?_
            refine va_put (D := D) (ci := 4) (v := .int (nI (n9 + 1))) (C := RX4) (T := TX4) (N := 8) hx hb hts inwX4_read_X4 tyX4 tyX4_ok nmX4 hown hK hP hD hS 0 rfl rfl 4 (by decide) (hts (.fieldLink RX4 32 "PlateSlabs$Trial" "things" "I") (List.mem_of_getElem? (i := 2) rfl)) (fun _ h9 => h9) rfl (tyX4_ok 4 (by decide)) (rfl) (rfl) (Nat.le_of_ble_eq_true rfl) dX4_read_87 (fun H locs hP hD hS => ?_)
            have hP : va_P D vwCl [((y 0), .inr (4, [.ref (y 4), .ref (y 1), .ref (y 2), .ref (y 3), .int (nI (n9 + 1)), .int (u1 1), .int (u1 2), .int (u1 3)])), ((y 4), .inr (3, [.ref (y 5), .int (nI len)])), ((y 5), .inl (T 2, 60, .inl (tx))), ((y 1), .inl (T 0, 20, .inl (upd K n9 (tch tx len (tAt (tch tx len) n9))))), ((y 2), .inl (T 0, 20, .inl (upd A9 n9 (nI (cA (tch tx len) (tAt (tch tx len) n9)))))), ((y 3), .inl (T 0, 20, .inl (upd W9 n9 (nI (cW (tch tx len) (tAt (tch tx len) n9))))))] H := hP
            have hD : va_D A [((y 0), .inr (4, [.ref (y 4), .ref (y 1), .ref (y 2), .ref (y 3), .int (nI (n9 + 1)), .int (u1 1), .int (u1 2), .int (u1 3)])), ((y 4), .inr (3, [.ref (y 5), .int (nI len)])), ((y 5), .inl (T 2, 60, .inl (tx))), ((y 1), .inl (T 0, 20, .inl (upd K n9 (tch tx len (tAt (tch tx len) n9))))), ((y 2), .inl (T 0, 20, .inl (upd A9 n9 (nI (cA (tch tx len) (tAt (tch tx len) n9)))))), ((y 3), .inl (T 0, 20, .inl (upd W9 n9 (nI (cW (tch tx len) (tAt (tch tx len) n9))))))] := hD
            obtain ⟨u2, eu2⟩ : ∃ z, z = upd u1 0 (nI (n9 + 1)) := ⟨_, rfl⟩
            have hP : va_P D vwCl [((y 0), .inr (4, [.ref (y 4), .ref (y 1), .ref (y 2), .ref (y 3), .int (u2 0), .int (u2 1), .int (u2 2), .int (u2 3)])), ((y 4), .inr (3, [.ref (y 5), .int (nI len)])), ((y 5), .inl (T 2, 60, .inl (tx))), ((y 1), .inl (T 0, 20, .inl (upd K n9 (tch tx len (tAt (tch tx len) n9))))), ((y 2), .inl (T 0, 20, .inl (upd A9 n9 (nI (cA (tch tx len) (tAt (tch tx len) n9)))))), ((y 3), .inl (T 0, 20, .inl (upd W9 n9 (nI (cW (tch tx len) (tAt (tch tx len) n9))))))] H := by rw [eu2]; exact hP
            have hD : va_D A [((y 0), .inr (4, [.ref (y 4), .ref (y 1), .ref (y 2), .ref (y 3), .int (u2 0), .int (u2 1), .int (u2 2), .int (u2 3)])), ((y 4), .inr (3, [.ref (y 5), .int (nI len)])), ((y 5), .inl (T 2, 60, .inl (tx))), ((y 1), .inl (T 0, 20, .inl (upd K n9 (tch tx len (tAt (tch tx len) n9))))), ((y 2), .inl (T 0, 20, .inl (upd A9 n9 (nI (cA (tch tx len) (tAt (tch tx len) n9)))))), ((y 3), .inl (T 0, 20, .inl (upd W9 n9 (nI (cW (tch tx len) (tAt (tch tx len) n9))))))] := by rw [eu2]; exact hD
            have t0 : u2 0 = nI (n9 + 1) := by rw [eu2]; rfl
            have q1 : u2 1 = nI (tJ (tch tx len) (tAt (tch tx len) n9)) := by rw [eu2]; exact q1
            have hth2 := thHold_s hth
            refine lv_aload_n hx hb dX4_read_90 rfl (lv_at hl 1 rfl) ?_
            refine va_get (D := D) (ci := 4) (v := .int (u2 1)) (C := RX4) (T := TX4) (N := 8) hx hb hts inwX4_read_X4 hown hK hP 0 rfl rfl 5 (by decide) (hts (.fieldLink RX4 36 "PlateSlabs$Trial" "at" "I") (List.mem_of_getElem? (i := 1) rfl)) (fun _ h9 => h9) rfl dX4_read_91 ?_
            refine lv_tpi (z := nI (tJ (tch tx len) (tAt (tch tx len) n9))) (q1) ?_
            refine lv_aload_n hx hb dX4_read_94 rfl (lv_at hl 1 rfl) ?_
            refine va_get (D := D) (ci := 4) (v := .ref (y 4)) (C := RX4) (T := TX4) (N := 8) hx hb hts inwX4_read_X4 hown hK hP 0 rfl rfl 0 (by decide) (hts (.fieldLink RX4 12 "PlateSlabs$Trial" "text" "LPlateSlabs$Text;") (List.mem_of_getElem? (i := 3) rfl)) (fun _ h9 => h9) rfl dX4_read_95 ?_
            refine va_get (D := D) (ci := 3) (v := .int (nI len)) (C := RX3) (T := TX3) (N := 2) hx hb hts inwX4_read_X3 hown hK hP 1 rfl rfl 1 (by decide) (hts (.fieldLink RX4 52 "PlateSlabs$Text" "length" "I") (List.mem_of_getElem? (i := 9) rfl)) (fun _ h9 => h9) rfl dX4_read_98 ?_
            refine lv_icmp_ne (tgt := 106) hx hb dX4_read_101 (by decide) (fun c101 => ?_) (fun c101 => ?_)
            · skip
              have hlt : (tJ (tch tx len) (tAt (tch tx len) n9)) < len := by
                have := hb1.2.1
                rcases Nat.lt_or_ge (tJ (tch tx len) (tAt (tch tx len) n9)) len with q | q
                · exact q
                · exact absurd (by rw [show (tJ (tch tx len) (tAt (tch tx len) n9)) = len by omega]) c101
              refine lv_aload_n hx hb dX4_read_106 rfl (lv_at hl 1 rfl) ?_
              refine lv_bipush (v := 59) hx hb dX4_read_107 (by decide) ?_
              refine callMi (As := [.int 59]) (wr := [((y 1), .inl (T 0, 20, .inl (upd K n9 (tch tx len (tAt (tch tx len) n9))))), ((y 2), .inl (T 0, 20, .inl (upd A9 n9 (nI (cA (tch tx len) (tAt (tch tx len) n9)))))), ((y 3), .inl (T 0, 20, .inl (upd W9 n9 (nI (cW (tch tx len) (tAt (tch tx len) n9))))))]) ⟨hx, hb, hml, hown, hts⟩ (mX4_readSign l T D y u2 tx len hlen hch (tJ (tch tx len) (tAt (tch tx len) n9)) (by have := hb1.2.1; omega) q1 59) (cwV 1 hts gX4_read_X4_readSign rfl rfl rfl pdX4_readSign ⟨Nat.le_of_ble_eq_true rfl, Nat.le_of_ble_eq_true rfl⟩) hP hD hK hS hA xN_bl (fun U _ hW => XN_warm hW hX) (ci := 4) rfl rfl rfl hl.1 rfl rfl (Nat.le_of_ble_eq_true rfl) dX4_read_109 ⟨Nat.zero_le _, Nat.zero_le _⟩ (fun r4_ u5_ H locs eu5_ hP hD hS hkf => ?_)
              obtain ⟨u3, rfl⟩ : ∃ z, z = u5_ := ⟨_, rfl⟩
              have hP : va_P D vwCl [((y 0), .inr (4, [.ref (y 4), .ref (y 1), .ref (y 2), .ref (y 3), .int (u3 0), .int (u3 1), .int (u3 2), .int (u3 3)])), ((y 4), .inr (3, [.ref (y 5), .int (nI len)])), ((y 5), .inl (T 2, 60, .inl (tx))), ((y 1), .inl (T 0, 20, .inl (upd K n9 (tch tx len (tAt (tch tx len) n9))))), ((y 2), .inl (T 0, 20, .inl (upd A9 n9 (nI (cA (tch tx len) (tAt (tch tx len) n9)))))), ((y 3), .inl (T 0, 20, .inl (upd W9 n9 (nI (cW (tch tx len) (tAt (tch tx len) n9))))))] H := hP
              have hD : va_D A [((y 0), .inr (4, [.ref (y 4), .ref (y 1), .ref (y 2), .ref (y 3), .int (u3 0), .int (u3 1), .int (u3 2), .int (u3 3)])), ((y 4), .inr (3, [.ref (y 5), .int (nI len)])), ((y 5), .inl (T 2, 60, .inl (tx))), ((y 1), .inl (T 0, 20, .inl (upd K n9 (tch tx len (tAt (tch tx len) n9))))), ((y 2), .inl (T 0, 20, .inl (upd A9 n9 (nI (cA (tch tx len) (tAt (tch tx len) n9)))))), ((y 3), .inl (T 0, 20, .inl (upd W9 n9 (nI (cW (tch tx len) (tAt (tch tx len) n9))))))] := hD
              rcases eu5_ with ⟨hsep, rfl, z⟩ | ⟨hsep, rfl, z⟩
              · skip
                have hgo2 : pGo (tch tx len) len (n9 + 1) := pGo_s hgo ⟨hok, hlt, hsep⟩
                have z0 : u3 0 = nI (n9 + 1) := by rw [z]; exact t0
                have z1 : u3 1 = nI (tAt (tch tx len) (n9 + 1)) := by rw [z]; rfl
                refine lv_if_ne (tgt := 120) hx hb dX4_read_112 (by decide) (fun c112 => ?_) (fun c112 => ?_)
                · skip
                  refine lv_goto (tgt := 10) hx hb dX4_read_120 (by decide) ?_
                  exact ih (n9 + 1) u3 (upd K n9 (tch tx len (tAt (tch tx len) n9))) (upd A9 n9 (nI (cA (tch tx len) (tAt (tch tx len) n9)))) (upd W9 n9 (nI (cW (tch tx len) (tAt (tch tx len) n9)))) ls _ _ (by omega) (by omega) hgo2 z0 z1 hth2 hP hD hS (lv_sub hl [1] rfl)
                · skip
                  exact absurd c112 (by decide)
              · skip
                have z1 : u3 1 = nI (tJ (tch tx len) (tAt (tch tx len) n9)) := by rw [z]; exact q1
                refine lv_if_ne (tgt := 120) hx hb dX4_read_112 (by decide) (fun c112 => ?_) (fun c112 => ?_)
                · skip
                  exact absurd rfl c112
                · skip
                  refine lv_aload_n hx hb dX4_read_115 rfl (lv_at hl 1 rfl) ?_
                  refine va_get (D := D) (ci := 4) (v := .int (u3 1)) (C := RX4) (T := TX4) (N := 8) hx hb hts inwX4_read_X4 hown hK hP 0 rfl rfl 5 (by decide) (hts (.fieldLink RX4 36 "PlateSlabs$Trial" "at" "I") (List.mem_of_getElem? (i := 1) rfl)) (fun _ h9 => h9) rfl dX4_read_116 ?_
                  refine lv_tpi (z := nI (tJ (tch tx len) (tAt (tch tx len) n9))) (z1) ?_
                  exact hret _ _ _ (u3, upd K n9 (tch tx len (tAt (tch tx len) n9)), upd A9 n9 (nI (cA (tch tx len) (tAt (tch tx len) n9))), upd W9 n9 (nI (cW (tch tx len) (tAt (tch tx len) n9)))) _ _ dX4_read_119 hS hP hD (Or.inr ⟨n9, ⟨hgo, Or.inr ⟨hlt, hsep⟩⟩, rfl⟩)
            · skip
              have hend : (tJ (tch tx len) (tAt (tch tx len) n9)) = len := (nI_eq (by have := hb1.2.1; omega) (by omega)).mp c101
              refine lv_iconst (v := (-1)) hx hb dX4_read_104 (by decide) ?_
              exact hret _ _ _ (u2, upd K n9 (tch tx len (tAt (tch tx len) n9)), upd A9 n9 (nI (cA (tch tx len) (tAt (tch tx len) n9))), upd W9 n9 (nI (cW (tch tx len) (tAt (tch tx len) n9)))) _ _ dX4_read_105 hS hP hD (Or.inl ⟨n9, ⟨hgo, hok, hend⟩, rfl, t0, hth2⟩)
          · skip
            exact absurd c36 (by decide)
        · skip
          refine lv_if_ne (tgt := 44) hx hb dX4_read_36 (by decide) (fun c36 => ?_) (fun c36 => ?_)
          · skip
            exact absurd rfl c36
          · skip
            refine lv_aload_n hx hb dX4_read_39 rfl (lv_at hl 1 rfl) ?_
            refine va_get (D := D) (ci := 4) (v := .int (u1 1)) (C := RX4) (T := TX4) (N := 8) hx hb hts inwX4_read_X4 hown hK hP 0 rfl rfl 5 (by decide) (hts (.fieldLink RX4 36 "PlateSlabs$Trial" "at" "I") (List.mem_of_getElem? (i := 1) rfl)) (fun _ h9 => h9) rfl dX4_read_40 ?_
            refine lv_tpi (z := nI (tJ (tch tx len) (tAt (tch tx len) n9))) (q1) ?_
            exact hret _ _ _ (u1, K, A9, W9) _ _ dX4_read_43 hS hP hD (Or.inr ⟨n9, ⟨hgo, Or.inl hno⟩, rfl⟩)
  exact loop 21 0 v0 K A9 W9 ls _ _ (by omega) (Nat.zero_le _) (fun k hk => absurd hk (by omega)) a0 a1 (fun k hk => absurd hk (by omega)) hP hD hS (lv_sub hl [0] rfl)

