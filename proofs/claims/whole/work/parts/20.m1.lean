theorem pdX6_in : yX6_in.cls = RX6 ∧ yX6_in.cls ≠ "java/lang/invoke/MethodHandle" ∧ yX6_in.cls ≠ "java/lang/invoke/VarHandle" ∧ (parseMethodDescriptor yX6_in.desc).map (fun d => d.parameters.length) = some 3 := by decide +kernel
theorem pdX6_isPair : yX6_isPair.cls = RX6 ∧ yX6_isPair.cls ≠ "java/lang/invoke/MethodHandle" ∧ yX6_isPair.cls ≠ "java/lang/invoke/VarHandle" ∧ (parseMethodDescriptor yX6_isPair.desc).map (fun d => d.parameters.length) = some 1 := by decide +kernel
theorem pdX6_at : yX6_at.cls = RX6 ∧ yX6_at.cls ≠ "java/lang/invoke/MethodHandle" ∧ yX6_at.cls ≠ "java/lang/invoke/VarHandle" ∧ (parseMethodDescriptor yX6_at.desc).map (fun d => d.parameters.length) = some 2 := by decide +kernel
theorem pdX6_of : yX6_of.cls = RX6 ∧ yX6_of.cls ≠ "java/lang/invoke/MethodHandle" ∧ yX6_of.cls ≠ "java/lang/invoke/VarHandle" ∧ (parseMethodDescriptor yX6_of.desc).map (fun d => d.parameters.length) = some 2 := by decide +kernel
theorem pdX6_isOn : yX6_isOn.cls = RX6 ∧ yX6_isOn.cls ≠ "java/lang/invoke/MethodHandle" ∧ yX6_isOn.cls ≠ "java/lang/invoke/VarHandle" ∧ (parseMethodDescriptor yX6_isOn.desc).map (fun d => d.parameters.length) = some 1 := by decide +kernel
theorem pdX6_capacity : yX6_capacity.cls = RX6 ∧ yX6_capacity.cls ≠ "java/lang/invoke/MethodHandle" ∧ yX6_capacity.cls ≠ "java/lang/invoke/VarHandle" ∧ (parseMethodDescriptor yX6_capacity.desc).map (fun d => d.parameters.length) = some 2 := by decide +kernel
theorem pdX6_capacityNow : yX6_capacityNow.cls = RX6 ∧ yX6_capacityNow.cls ≠ "java/lang/invoke/MethodHandle" ∧ yX6_capacityNow.cls ≠ "java/lang/invoke/VarHandle" ∧ (parseMethodDescriptor yX6_capacityNow.desc).map (fun d => d.parameters.length) = some 1 := by decide +kernel
theorem pdX6_stored : yX6_stored.cls = RX6 ∧ yX6_stored.cls ≠ "java/lang/invoke/MethodHandle" ∧ yX6_stored.cls ≠ "java/lang/invoke/VarHandle" ∧ (parseMethodDescriptor yX6_stored.desc).map (fun d => d.parameters.length) = some 1 := by decide +kernel
theorem pdX6_pullBy : yX6_pullBy.cls = RX6 ∧ yX6_pullBy.cls ≠ "java/lang/invoke/MethodHandle" ∧ yX6_pullBy.cls ≠ "java/lang/invoke/VarHandle" ∧ (parseMethodDescriptor yX6_pullBy.desc).map (fun d => d.parameters.length) = some 2 := by decide +kernel
theorem pdX6_pullOf : yX6_pullOf.cls = RX6 ∧ yX6_pullOf.cls ≠ "java/lang/invoke/MethodHandle" ∧ yX6_pullOf.cls ≠ "java/lang/invoke/VarHandle" ∧ (parseMethodDescriptor yX6_pullOf.desc).map (fun d => d.parameters.length) = some 3 := by decide +kernel
theorem pdX6_pullAt : yX6_pullAt.cls = RX6 ∧ yX6_pullAt.cls ≠ "java/lang/invoke/MethodHandle" ∧ yX6_pullAt.cls ≠ "java/lang/invoke/VarHandle" ∧ (parseMethodDescriptor yX6_pullAt.desc).map (fun d => d.parameters.length) = some 3 := by decide +kernel
theorem pdX6_spring : yX6_spring.cls = RX6 ∧ yX6_spring.cls ≠ "java/lang/invoke/MethodHandle" ∧ yX6_spring.cls ≠ "java/lang/invoke/VarHandle" ∧ (parseMethodDescriptor yX6_spring.desc).map (fun d => d.parameters.length) = some 2 := by decide +kernel
theorem pdX6_net : yX6_net.cls = RX6 ∧ yX6_net.cls ≠ "java/lang/invoke/MethodHandle" ∧ yX6_net.cls ≠ "java/lang/invoke/VarHandle" ∧ (parseMethodDescriptor yX6_net.desc).map (fun d => d.parameters.length) = some 1 := by decide +kernel
theorem pdX6_size : yX6_size.cls = RX6 ∧ yX6_size.cls ≠ "java/lang/invoke/MethodHandle" ∧ yX6_size.cls ≠ "java/lang/invoke/VarHandle" ∧ (parseMethodDescriptor yX6_size.desc).map (fun d => d.parameters.length) = some 1 := by decide +kernel
theorem pdX6_move : yX6_move.cls = RX6 ∧ yX6_move.cls ≠ "java/lang/invoke/MethodHandle" ∧ yX6_move.cls ≠ "java/lang/invoke/VarHandle" ∧ (parseMethodDescriptor yX6_move.desc).map (fun d => d.parameters.length) = some 3 := by decide +kernel
theorem pdX6_leak : yX6_leak.cls = RX6 ∧ yX6_leak.cls ≠ "java/lang/invoke/MethodHandle" ∧ yX6_leak.cls ≠ "java/lang/invoke/VarHandle" ∧ (parseMethodDescriptor yX6_leak.desc).map (fun d => d.parameters.length) = some 2 := by decide +kernel
theorem pdX6_half : yX6_half.cls = RX6 ∧ yX6_half.cls ≠ "java/lang/invoke/MethodHandle" ∧ yX6_half.cls ≠ "java/lang/invoke/VarHandle" ∧ (parseMethodDescriptor yX6_half.desc).map (fun d => d.parameters.length) = some 1 := by decide +kernel
theorem pdX6_least : yX6_least.cls = RX6 ∧ yX6_least.cls ≠ "java/lang/invoke/MethodHandle" ∧ yX6_least.cls ≠ "java/lang/invoke/VarHandle" ∧ (parseMethodDescriptor yX6_least.desc).map (fun d => d.parameters.length) = some 1 := by decide +kernel
theorem pdX6_most : yX6_most.cls = RX6 ∧ yX6_most.cls ≠ "java/lang/invoke/MethodHandle" ∧ yX6_most.cls ≠ "java/lang/invoke/VarHandle" ∧ (parseMethodDescriptor yX6_most.desc).map (fun d => d.parameters.length) = some 1 := by decide +kernel
theorem pdX6_pullNow : yX6_pullNow.cls = RX6 ∧ yX6_pullNow.cls ≠ "java/lang/invoke/MethodHandle" ∧ yX6_pullNow.cls ≠ "java/lang/invoke/VarHandle" ∧ (parseMethodDescriptor yX6_pullNow.desc).map (fun d => d.parameters.length) = some 1 := by decide +kernel
theorem pdX6_why : yX6_why.cls = RX6 ∧ yX6_why.cls ≠ "java/lang/invoke/MethodHandle" ∧ yX6_why.cls ≠ "java/lang/invoke/VarHandle" ∧ (parseMethodDescriptor yX6_why.desc).map (fun d => d.parameters.length) = some 1 := by decide +kernel
theorem inwX6_of_X6 : ∀ w ∈ wsX60, w ∈ wsX6_of := by decide +kernel
theorem inwX6_isOn_X6 : ∀ w ∈ wsX60, w ∈ wsX6_isOn := by decide +kernel
theorem inwX6_capacity_X6 : ∀ w ∈ wsX60, w ∈ wsX6_capacity := by decide +kernel
theorem inwX6_capacityNow_X6 : ∀ w ∈ wsX60, w ∈ wsX6_capacityNow := by decide +kernel
theorem inwX6_stored_X6 : ∀ w ∈ wsX60, w ∈ wsX6_stored := by decide +kernel
theorem inwX6_pullBy_X6 : ∀ w ∈ wsX60, w ∈ wsX6_pullBy := by decide +kernel
theorem inwX6_pullOf_X6 : ∀ w ∈ wsX60, w ∈ wsX6_pullOf := by decide +kernel
theorem inwX6_pullAt_X6 : ∀ w ∈ wsX60, w ∈ wsX6_pullAt := by decide +kernel
theorem inwX6_spring_X6 : ∀ w ∈ wsX60, w ∈ wsX6_spring := by decide +kernel
theorem inwX6_net_X6 : ∀ w ∈ wsX60, w ∈ wsX6_net := by decide +kernel
theorem inwX6_move_X6 : ∀ w ∈ wsX60, w ∈ wsX6_move := by decide +kernel
theorem inwX6_leak_X6 : ∀ w ∈ wsX60, w ∈ wsX6_leak := by decide +kernel
theorem inwX6_pullNow_X6 : ∀ w ∈ wsX60, w ∈ wsX6_pullNow := by decide +kernel
theorem inwX6_why_X6 : ∀ w ∈ wsX60, w ∈ wsX6_why := by decide +kernel
def rmX6_in : Room := { frames := 0, cells := 0, slots := 0, locals := 0 }
set_option maxHeartbeats 4000000 in
set_option maxRecDepth 100000 in
/-- least to most -/
theorem mX6_in (l : Launch) (T : Nat → ClassId) (D : va_G) (v x y : Int32) : RdI l yX6_in wsX6_in rmX6_in T xN D [.int v, .int x, .int y] [] (fun r => r = bI (x ≤ v ∧ v ≤ y)) := by
  refine met_rz (cc := cX6_in) (maxL := 3) (by decide) rfl (Nat.le_of_ble_eq_true rfl) (fun r h => bI_01 h) ?_
  intro p_ e s m args below meth c H ls Q hx hb hts hown hml hX hH hP hK hl hret
  have hl : lv_has ls 3 [(0, .int v), (1, .int x), (2, .int y)] := hl
  refine lv_iload_n hx hb dX6_in_0 rfl (lv_at hl 0 rfl) ?_
  refine lv_iload_n hx hb dX6_in_1 rfl (lv_at hl 1 rfl) ?_
  refine lv_icmp_lt (tgt := 14) hx hb dX6_in_2 (by decide) (fun c2 => ?_) (fun c2 => ?_)
  · skip
    refine lv_iconst (v := 0) hx hb dX6_in_14 (by decide) ?_
    exact hret _ _ _ dX6_in_15 (bI_f (fun h => absurd c2 (Int32.not_lt.mpr h.1)))
  · skip
    refine lv_iload_n hx hb dX6_in_5 rfl (lv_at hl 0 rfl) ?_
    refine lv_iload_n hx hb dX6_in_6 rfl (lv_at hl 2 rfl) ?_
    refine lv_icmp_gt (tgt := 14) hx hb dX6_in_7 (by decide) (fun c7 => ?_) (fun c7 => ?_)
    · skip
      refine lv_iconst (v := 0) hx hb dX6_in_14 (by decide) ?_
      exact hret _ _ _ dX6_in_15 (bI_f (fun h => absurd c7 (Int32.not_lt.mpr h.2)))
    · skip
      refine lv_iconst (v := 1) hx hb dX6_in_10 (by decide) ?_
      refine lv_goto (tgt := 15) hx hb dX6_in_11 (by decide) ?_
      exact hret _ _ _ dX6_in_15 (bI_t ⟨Int32.not_lt.mp c2, Int32.not_lt.mp c7⟩)

def rmX6_isPair : Room := { frames := 1, cells := 0, slots := 0, locals := 22 }
set_option maxHeartbeats 4000000 in
set_option maxRecDepth 100000 in
theorem mX6_isPair (l : Launch) (T : Nat → ClassId) (D : va_G) (v : Int32) : RdI l yX6_isPair wsX6_isPair rmX6_isPair T xN D [.int v] [] (fun r => r = bI (0 ≤ v ∧ v ≤ 3)) := by
  refine met_rz (cc := cX6_isPair) (maxL := 1) (by decide) rfl (Nat.le_of_ble_eq_true rfl) (fun r h => bI_01 h) ?_
  intro p_ e s m args below meth c H ls Q hx hb hts hown hml hX hH hP hK hl hret
  have hl : lv_has ls 1 [(0, .int v)] := hl
  refine lv_iload_n hx hb dX6_isPair_0 rfl (lv_at hl 0 rfl) ?_
  refine lv_iconst (v := 0) hx hb dX6_isPair_1 (by decide) ?_
  refine lv_iconst (v := 3) hx hb dX6_isPair_2 (by decide) ?_
  refine callSi (As := [.int v, .int 0, .int 3]) ⟨hx, hb, hml, hown, hts⟩ (mX6_in l T D v 0 3) (va_cwS 3 hts gX6_isPair_X6_in rfl rfl rfl (pdX6_in).2 ⟨Nat.le_of_ble_eq_true rfl, Nat.le_of_ble_eq_true rfl⟩) wP_nil hK xN_bl (fun U _ hW => XN_warm hW hX) hl.1 rfl rfl (Nat.le_of_ble_eq_true rfl) dX6_isPair_3 ⟨Nat.zero_le _, Nat.zero_le _⟩ (fun r1_ er1_ => ?_)
  obtain rfl : r1_ = bI (0 ≤ v ∧ v ≤ 3) := er1_
  exact hret _ _ _ dX6_isPair_6 rfl

def rmX6_at : Room := { frames := 0, cells := 0, slots := 0, locals := 0 }
set_option maxHeartbeats 4000000 in
set_option maxRecDepth 100000 in
theorem mX6_at (l : Launch) (T : Nat → ClassId) (D : va_G) (p k : Nat) : RdI l yX6_at wsX6_at rmX6_at T xN D [.int (nI p), .int (nI k)] [] (fun r => r = nI (3 + 10 * p + k)) := by
  refine met_ri (cc := cX6_at) (maxL := 2) (by decide) rfl (Nat.le_of_ble_eq_true rfl) ?_
  intro p_ e s m args below meth c H ls Q hx hb hts hown hml hX hH hP hK hl hret
  have hl : lv_has ls 2 [(0, .int (nI p)), (1, .int (nI k))] := hl
  refine lv_iconst (v := nI 3) hx hb dX6_at_0 (by decide) ?_
  refine lv_bipush (v := nI 10) hx hb dX6_at_1 (by decide) ?_
  refine lv_iload_n hx hb dX6_at_3 rfl (lv_at hl 0 rfl) ?_
  refine lv_imul hx hb dX6_at_4 ?_
  refine lv_iadd hx hb dX6_at_5 ?_
  refine lv_iload_n hx hb dX6_at_6 rfl (lv_at hl 1 rfl) ?_
  refine lv_iadd hx hb dX6_at_7 ?_
  exact hret _ _ _ dX6_at_8 (by rw [pk_mul, nI_add, nI_add])

def rmX6_of : Room := { frames := 1, cells := 0, slots := 0, locals := 21 }
set_option maxHeartbeats 4000000 in
set_option maxRecDepth 100000 in
theorem mX6_of (l : Launch) (T : Nat → ClassId) (D : va_G) (a qs : Nat) (fs : List Value) (t : Nat → Int32) (P : Nat → Nat → Int32) (hf : fs[0]? = some (.ref qs)) (p : Nat) (hp : p < 4) (k : Nat) (hk : k < 10) : RdI l yX6_of wsX6_of rmX6_of T xN D [.ref a, .int (nI p), .int (nI k)] [(a, .inr (6, fs)), (qs, .inl (T 0, 43, .inl (mS t P)))] (fun r => r = P p k) := by
  refine met_ri (cc := cX6_of) (maxL := 3) (by decide) rfl (Nat.le_of_ble_eq_true rfl) ?_
  intro p_ e s m args below meth c H ls Q hx hb hts hown hml hX hH hP hK hl hret
  have hl : lv_has ls 3 [(0, .ref a), (1, .int (nI p)), (2, .int (nI k))] := hl
  refine lv_aload_n hx hb dX6_of_0 rfl (lv_at hl 0 rfl) ?_
  refine va_get (D := D) (ci := 6) (v := .ref qs) (C := RX6) (T := TX6) (N := 22) hx hb hts inwX6_of_X6 hown hK hP 0 rfl rfl 0 (by decide) (hts (.fieldLink RX6 7 "PlateSlabsModel" "s" "[I") (List.mem_of_getElem? (i := 1) rfl)) (fun _ h9 => h9) hf dX6_of_1 ?_
  refine lv_iload_n hx hb dX6_of_4 rfl (lv_at hl 1 rfl) ?_
  refine lv_iload_n hx hb dX6_of_5 rfl (lv_at hl 2 rfl) ?_
  refine callSi (As := [.int (nI p), .int (nI k)]) ⟨hx, hb, hml, hown, hts⟩ (mX6_at l T D p k) (va_cwS 2 hts gX6_of_X6_at rfl rfl rfl (pdX6_at).2 ⟨Nat.le_of_ble_eq_true rfl, Nat.le_of_ble_eq_true rfl⟩) wP_nil hK xN_bl (fun U _ hW => XN_warm hW hX) hl.1 rfl rfl (Nat.le_of_ble_eq_true rfl) dX6_of_6 ⟨Nat.zero_le _, Nat.zero_le _⟩ (fun r1_ er1_ => ?_)
  obtain rfl : r1_ = nI (3 + 10 * p + k) := er1_
  refine va_iald hx hb hK hP 1 0 rfl rfl (vp_in_nI (by omega) (by decide)) dX6_of_9 ?_
  refine lv_tpi (congrArg (fun z => (mS t P) z) (nI_clamp (by omega))) ?_
  exact hret _ _ _ dX6_of_10 (mS_at t P hk)

def rmX6_isOn : Room := { frames := 2, cells := 0, slots := 0, locals := 43 }
set_option maxHeartbeats 4000000 in
set_option maxRecDepth 100000 in
theorem mX6_isOn (l : Launch) (T : Nat → ClassId) (D : va_G) (a qs : Nat) (fs : List Value) (t : Nat → Int32) (P : Nat → Nat → Int32) (hf : fs[0]? = some (.ref qs)) (p : Nat) (hp : p < 4) : RdI l yX6_isOn wsX6_isOn rmX6_isOn T xN D [.ref a, .int (nI p)] [(a, .inr (6, fs)), (qs, .inl (T 0, 43, .inl (mS t P)))] (fun r => r = bI (P p 9 = 1)) := by
  refine met_rz (cc := cX6_isOn) (maxL := 2) (by decide) rfl (Nat.le_of_ble_eq_true rfl) (fun r h => bI_01 h) ?_
  intro p_ e s m args below meth c H ls Q hx hb hts hown hml hX hH hP hK hl hret
  have hl : lv_has ls 2 [(0, .ref a), (1, .int (nI p))] := hl
  refine lv_aload_n hx hb dX6_isOn_0 rfl (lv_at hl 0 rfl) ?_
  refine lv_iload_n hx hb dX6_isOn_1 rfl (lv_at hl 1 rfl) ?_
  refine lv_bipush (v := nI 9) hx hb dX6_isOn_2 (by decide) ?_
  refine callRi (As := [.int (nI p), .int (nI 9)]) ⟨hx, hb, hml, hown, hts⟩ (mX6_of l T D a qs fs t P hf p hp 9 (by decide)) (cwV 2 hts gX6_isOn_X6_of rfl rfl rfl pdX6_of ⟨Nat.le_of_ble_eq_true rfl, Nat.le_of_ble_eq_true rfl⟩) hP hK xN_bl (fun U _ hW => XN_warm hW hX) (ci := 6) rfl rfl rfl hl.1 rfl rfl (Nat.le_of_ble_eq_true rfl) dX6_isOn_4 ⟨Nat.zero_le _, Nat.zero_le _⟩ (fun r1_ er1_ => ?_)
  obtain rfl : r1_ = P p 9 := er1_
  refine lv_iconst (v := 1) hx hb dX6_isOn_7 (by decide) ?_
  refine lv_icmp_ne (tgt := 15) hx hb dX6_isOn_8 (by decide) (fun c8 => ?_) (fun c8 => ?_)
  · skip
    refine lv_iconst (v := 0) hx hb dX6_isOn_15 (by decide) ?_
    exact hret _ _ _ dX6_isOn_16 (bI_f c8)
  · skip
    refine lv_iconst (v := 1) hx hb dX6_isOn_11 (by decide) ?_
    refine lv_goto (tgt := 16) hx hb dX6_isOn_12 (by decide) ?_
    exact hret _ _ _ dX6_isOn_16 (bI_t c8)

def rmX6_capacity : Room := { frames := 2, cells := 0, slots := 0, locals := 43 }
set_option maxHeartbeats 4000000 in
set_option maxRecDepth 100000 in
theorem mX6_capacity (l : Launch) (T : Nat → ClassId) (D : va_G) (a qs : Nat) (fs : List Value) (t : Nat → Int32) (P : Nat → Nat → Int32) (hf : fs[0]? = some (.ref qs)) (p : Nat) (hp : p < 4) (d : Int32) : RdI l yX6_capacity wsX6_capacity rmX6_capacity T xN D [.ref a, .int (nI p), .int d] [(a, .inr (6, fs)), (qs, .inl (T 0, 43, .inl (mS t P)))] (fun r => r = kCap (P p) d) := by
  refine met_ri (cc := cX6_capacity) (maxL := 3) (by decide) rfl (Nat.le_of_ble_eq_true rfl) ?_
  intro p_ e s m args below meth c H ls Q hx hb hts hown hml hX hH hP hK hl hret
  have hl : lv_has ls 3 [(0, .ref a), (1, .int (nI p)), (2, .int d)] := hl
  refine lv_aload_n hx hb dX6_capacity_0 rfl (lv_at hl 0 rfl) ?_
  refine lv_iload_n hx hb dX6_capacity_1 rfl (lv_at hl 1 rfl) ?_
  refine lv_iconst (v := nI 0) hx hb dX6_capacity_2 (by decide) ?_
  refine callRi (As := [.int (nI p), .int (nI 0)]) ⟨hx, hb, hml, hown, hts⟩ (mX6_of l T D a qs fs t P hf p hp 0 (by decide)) (cwV 2 hts gX6_capacity_X6_of rfl rfl rfl pdX6_of ⟨Nat.le_of_ble_eq_true rfl, Nat.le_of_ble_eq_true rfl⟩) hP hK xN_bl (fun U _ hW => XN_warm hW hX) (ci := 6) rfl rfl rfl hl.1 rfl rfl (Nat.le_of_ble_eq_true rfl) dX6_capacity_3 ⟨Nat.zero_le _, Nat.zero_le _⟩ (fun r1_ er1_ => ?_)
  obtain rfl : r1_ = P p 0 := er1_
  refine lv_bipush (v := 40) hx hb dX6_capacity_6 (by decide) ?_
  refine lv_aload_n hx hb dX6_capacity_8 rfl (lv_at hl 0 rfl) ?_
  refine lv_iload_n hx hb dX6_capacity_9 rfl (lv_at hl 1 rfl) ?_
  refine lv_iconst (v := nI 1) hx hb dX6_capacity_10 (by decide) ?_
  refine callRi (As := [.int (nI p), .int (nI 1)]) ⟨hx, hb, hml, hown, hts⟩ (mX6_of l T D a qs fs t P hf p hp 1 (by decide)) (cwV 2 hts gX6_capacity_X6_of rfl rfl rfl pdX6_of ⟨Nat.le_of_ble_eq_true rfl, Nat.le_of_ble_eq_true rfl⟩) hP hK xN_bl (fun U _ hW => XN_warm hW hX) (ci := 6) rfl rfl rfl hl.1 rfl rfl (Nat.le_of_ble_eq_true rfl) dX6_capacity_11 ⟨Nat.zero_le _, Nat.zero_le _⟩ (fun r2_ er2_ => ?_)
  obtain rfl : r2_ = P p 1 := er2_
  refine lv_iconst (v := 1) hx hb dX6_capacity_14 (by decide) ?_
  refine lv_isub hx hb dX6_capacity_15 ?_
  refine lv_iload_n hx hb dX6_capacity_16 rfl (lv_at hl 2 rfl) ?_
  refine lv_imul hx hb dX6_capacity_17 ?_
  refine lv_iadd hx hb dX6_capacity_18 ?_
  refine lv_imul hx hb dX6_capacity_19 ?_
  exact hret _ _ _ dX6_capacity_20 rfl

def rmX6_capacityNow : Room := { frames := 3, cells := 0, slots := 0, locals := 65 }
set_option maxHeartbeats 4000000 in
set_option maxRecDepth 100000 in
theorem mX6_capacityNow (l : Launch) (T : Nat → ClassId) (D : va_G) (a qs : Nat) (fs : List Value) (t : Nat → Int32) (P : Nat → Nat → Int32) (hf : fs[0]? = some (.ref qs)) (p : Nat) (hp : p < 4) : RdI l yX6_capacityNow wsX6_capacityNow rmX6_capacityNow T xN D [.ref a, .int (nI p)] [(a, .inr (6, fs)), (qs, .inl (T 0, 43, .inl (mS t P)))] (fun r => r = kCap (P p) (P p 6)) := by
  refine met_ri (cc := cX6_capacityNow) (maxL := 2) (by decide) rfl (Nat.le_of_ble_eq_true rfl) ?_
  intro p_ e s m args below meth c H ls Q hx hb hts hown hml hX hH hP hK hl hret
  have hl : lv_has ls 2 [(0, .ref a), (1, .int (nI p))] := hl
  refine lv_aload_n hx hb dX6_capacityNow_0 rfl (lv_at hl 0 rfl) ?_
  refine lv_iload_n hx hb dX6_capacityNow_1 rfl (lv_at hl 1 rfl) ?_
  refine lv_aload_n hx hb dX6_capacityNow_2 rfl (lv_at hl 0 rfl) ?_
  refine lv_iload_n hx hb dX6_capacityNow_3 rfl (lv_at hl 1 rfl) ?_
  refine lv_bipush (v := nI 6) hx hb dX6_capacityNow_4 (by decide) ?_
  refine callRi (As := [.int (nI p), .int (nI 6)]) ⟨hx, hb, hml, hown, hts⟩ (mX6_of l T D a qs fs t P hf p hp 6 (by decide)) (cwV 2 hts gX6_capacityNow_X6_of rfl rfl rfl pdX6_of ⟨Nat.le_of_ble_eq_true rfl, Nat.le_of_ble_eq_true rfl⟩) hP hK xN_bl (fun U _ hW => XN_warm hW hX) (ci := 6) rfl rfl rfl hl.1 rfl rfl (Nat.le_of_ble_eq_true rfl) dX6_capacityNow_6 ⟨Nat.zero_le _, Nat.zero_le _⟩ (fun r1_ er1_ => ?_)
  obtain rfl : r1_ = P p 6 := er1_
  refine callRi (As := [.int (nI p), .int (P p 6)]) ⟨hx, hb, hml, hown, hts⟩ (mX6_capacity l T D a qs fs t P hf p hp (P p 6)) (cwV 2 hts gX6_capacityNow_X6_capacity rfl rfl rfl pdX6_capacity ⟨Nat.le_of_ble_eq_true rfl, Nat.le_of_ble_eq_true rfl⟩) hP hK xN_bl (fun U _ hW => XN_warm hW hX) (ci := 6) rfl rfl rfl hl.1 rfl rfl (Nat.le_of_ble_eq_true rfl) dX6_capacityNow_9 ⟨Nat.zero_le _, Nat.zero_le _⟩ (fun r2_ er2_ => ?_)
  obtain rfl : r2_ = kCap (P p) (P p 6) := er2_
  exact hret _ _ _ dX6_capacityNow_12 rfl

def rmX6_stored : Room := { frames := 4, cells := 0, slots := 0, locals := 86 }
set_option maxHeartbeats 4000000 in
set_option maxRecDepth 100000 in
theorem mX6_stored (l : Launch) (T : Nat → ClassId) (D : va_G) (a qs : Nat) (fs : List Value) (t : Nat → Int32) (P : Nat → Nat → Int32) (hf : fs[0]? = some (.ref qs)) (p : Nat) (hp : p < 4) (hk : kOk (P p)) : RdL l yX6_stored wsX6_stored rmX6_stored T xN D [.ref a, .int (nI p)] [(a, .inr (6, fs)), (qs, .inl (T 0, 43, .inl (mS t P)))] (fun r => r = kStored (P p)) := by
  refine met_rl (cc := cX6_stored) (maxL := 4) (by decide) rfl (Nat.le_of_ble_eq_true rfl) ?_
  intro p_ e s m args below meth c H ls Q hx hb hts hown hml hX hH hP hK hl hret
  have hl : lv_has ls 4 [(0, .ref a), (1, .int (nI p))] := hl
  refine lv_aload_n hx hb dX6_stored_0 rfl (lv_at hl 0 rfl) ?_
  refine lv_iload_n hx hb dX6_stored_1 rfl (lv_at hl 1 rfl) ?_
  refine lv_bipush (v := nI 7) hx hb dX6_stored_2 (by decide) ?_
  refine callRi (As := [.int (nI p), .int (nI 7)]) ⟨hx, hb, hml, hown, hts⟩ (mX6_of l T D a qs fs t P hf p hp 7 (by decide)) (cwV 2 hts gX6_stored_X6_of rfl rfl rfl pdX6_of ⟨Nat.le_of_ble_eq_true rfl, Nat.le_of_ble_eq_true rfl⟩) hP hK xN_bl (fun U _ hW => XN_warm hW hX) (ci := 6) rfl rfl rfl hl.1 rfl rfl (Nat.le_of_ble_eq_true rfl) dX6_stored_4 ⟨Nat.zero_le _, Nat.zero_le _⟩ (fun r1_ er1_ => ?_)
  obtain rfl : r1_ = P p 7 := er1_
  refine lv_i2l hx hb dX6_stored_7 rfl ?_
  refine lv_topl (fun x1_ ex1_ => ?_)
  refine lv_lstore_n (lv' := [(2, .long x1_), (0, .ref a), (1, .int (nI p))]) hx hb dX6_stored_8 rfl hl (by decide) rfl (fun ls hl => ?_)
  refine lv_aload_n hx hb dX6_stored_9 rfl (lv_at hl 1 rfl) ?_
  refine lv_iload_n hx hb dX6_stored_10 rfl (lv_at hl 2 rfl) ?_
  refine callRi (As := [.int (nI p)]) ⟨hx, hb, hml, hown, hts⟩ (mX6_isOn l T D a qs fs t P hf p hp ) (cwV 1 hts gX6_stored_X6_isOn rfl rfl rfl pdX6_isOn ⟨Nat.le_of_ble_eq_true rfl, Nat.le_of_ble_eq_true rfl⟩) hP hK xN_bl (fun U _ hW => XN_warm hW hX) (ci := 6) rfl rfl rfl hl.1 rfl rfl (Nat.le_of_ble_eq_true rfl) dX6_stored_11 ⟨Nat.zero_le _, Nat.zero_le _⟩ (fun r2_ er2_ => ?_)
  obtain rfl : r2_ = bI (P p 9 = 1) := er2_
  refine lv_if_eq (tgt := 30) hx hb dX6_stored_14 (by decide) (fun c14 => ?_) (fun c14 => ?_)
  · skip
    have c14 := bI_0 c14
    refine lv_lload_n hx hb dX6_stored_30 rfl (lv_at hl 0 rfl) ?_
    refine lv_lload_n hx hb dX6_stored_31 rfl (lv_at hl 0 rfl) ?_
    refine lv_lmul hx hb dX6_stored_32 ?_
    refine lv_aload_n hx hb dX6_stored_33 rfl (lv_at hl 1 rfl) ?_
    refine lv_iload_n hx hb dX6_stored_34 rfl (lv_at hl 2 rfl) ?_
    refine callRi (As := [.int (nI p)]) ⟨hx, hb, hml, hown, hts⟩ (mX6_capacityNow l T D a qs fs t P hf p hp ) (cwV 1 hts gX6_stored_X6_capacityNow rfl rfl rfl pdX6_capacityNow ⟨Nat.le_of_ble_eq_true rfl, Nat.le_of_ble_eq_true rfl⟩) hP hK xN_bl (fun U _ hW => XN_warm hW hX) (ci := 6) rfl rfl rfl hl.1 rfl rfl (Nat.le_of_ble_eq_true rfl) dX6_stored_35 ⟨Nat.zero_le _, Nat.zero_le _⟩ (fun r3_ er3_ => ?_)
    obtain rfl : r3_ = kCap (P p) (P p 6) := er3_
    refine lv_i2l hx hb dX6_stored_38 rfl ?_
    refine lv_ldiv hx hb dX6_stored_39 (kCap_ne hk (kOk_d hk)) ?_
    exact hret _ _ _ dX6_stored_40 (by rw [kStored, if_neg c14, ex1_])
  · skip
    have c14 := bI_n0 c14
    refine lv_aload_n hx hb dX6_stored_17 rfl (lv_at hl 1 rfl) ?_
    refine lv_iload_n hx hb dX6_stored_18 rfl (lv_at hl 2 rfl) ?_
    refine lv_bipush (v := nI 8) hx hb dX6_stored_19 (by decide) ?_
    refine callRi (As := [.int (nI p), .int (nI 8)]) ⟨hx, hb, hml, hown, hts⟩ (mX6_of l T D a qs fs t P hf p hp 8 (by decide)) (cwV 2 hts gX6_stored_X6_of rfl rfl rfl pdX6_of ⟨Nat.le_of_ble_eq_true rfl, Nat.le_of_ble_eq_true rfl⟩) hP hK xN_bl (fun U _ hW => XN_warm hW hX) (ci := 6) rfl rfl rfl hl.1 rfl rfl (Nat.le_of_ble_eq_true rfl) dX6_stored_21 ⟨Nat.zero_le _, Nat.zero_le _⟩ (fun r4_ er4_ => ?_)
    obtain rfl : r4_ = P p 8 := er4_
    refine lv_i2l hx hb dX6_stored_24 rfl ?_
    refine lv_lload_n hx hb dX6_stored_25 rfl (lv_at hl 0 rfl) ?_
    refine lv_lmul hx hb dX6_stored_26 ?_
    refine lv_goto (tgt := 40) hx hb dX6_stored_27 (by decide) ?_
    exact hret _ _ _ dX6_stored_40 (by rw [kStored, if_pos c14, ex1_])

def rmX6_pullBy : Room := { frames := 2, cells := 0, slots := 0, locals := 43 }
set_option maxHeartbeats 4000000 in
set_option maxRecDepth 100000 in
theorem mX6_pullBy (l : Launch) (T : Nat → ClassId) (D : va_G) (a qs : Nat) (fs : List Value) (t : Nat → Int32) (P : Nat → Nat → Int32) (hf : fs[0]? = some (.ref qs)) (p : Nat) (hp : p < 4) (v : Int32) : RdI l yX6_pullBy wsX6_pullBy rmX6_pullBy T xN D [.ref a, .int (nI p), .int v] [(a, .inr (6, fs)), (qs, .inl (T 0, 43, .inl (mS t P)))] (fun r => r = kPullBy (P p) v) := by
  refine met_ri (cc := cX6_pullBy) (maxL := 3) (by decide) rfl (Nat.le_of_ble_eq_true rfl) ?_
  intro p_ e s m args below meth c H ls Q hx hb hts hown hml hX hH hP hK hl hret
  have hl : lv_has ls 3 [(0, .ref a), (1, .int (nI p)), (2, .int v)] := hl
  refine lv_aload_n hx hb dX6_pullBy_0 rfl (lv_at hl 0 rfl) ?_
  refine lv_iload_n hx hb dX6_pullBy_1 rfl (lv_at hl 1 rfl) ?_
  refine lv_iconst (v := nI 0) hx hb dX6_pullBy_2 (by decide) ?_
  refine callRi (As := [.int (nI p), .int (nI 0)]) ⟨hx, hb, hml, hown, hts⟩ (mX6_of l T D a qs fs t P hf p hp 0 (by decide)) (cwV 2 hts gX6_pullBy_X6_of rfl rfl rfl pdX6_of ⟨Nat.le_of_ble_eq_true rfl, Nat.le_of_ble_eq_true rfl⟩) hP hK xN_bl (fun U _ hW => XN_warm hW hX) (ci := 6) rfl rfl rfl hl.1 rfl rfl (Nat.le_of_ble_eq_true rfl) dX6_pullBy_3 ⟨Nat.zero_le _, Nat.zero_le _⟩ (fun r1_ er1_ => ?_)
  obtain rfl : r1_ = P p 0 := er1_
  refine lv_aload_n hx hb dX6_pullBy_6 rfl (lv_at hl 0 rfl) ?_
  refine lv_iload_n hx hb dX6_pullBy_7 rfl (lv_at hl 1 rfl) ?_
  refine lv_iconst (v := nI 1) hx hb dX6_pullBy_8 (by decide) ?_
  refine callRi (As := [.int (nI p), .int (nI 1)]) ⟨hx, hb, hml, hown, hts⟩ (mX6_of l T D a qs fs t P hf p hp 1 (by decide)) (cwV 2 hts gX6_pullBy_X6_of rfl rfl rfl pdX6_of ⟨Nat.le_of_ble_eq_true rfl, Nat.le_of_ble_eq_true rfl⟩) hP hK xN_bl (fun U _ hW => XN_warm hW hX) (ci := 6) rfl rfl rfl hl.1 rfl rfl (Nat.le_of_ble_eq_true rfl) dX6_pullBy_9 ⟨Nat.zero_le _, Nat.zero_le _⟩ (fun r2_ er2_ => ?_)
  obtain rfl : r2_ = P p 1 := er2_
  refine lv_iconst (v := 1) hx hb dX6_pullBy_12 (by decide) ?_
  refine lv_isub hx hb dX6_pullBy_13 ?_
  refine lv_imul hx hb dX6_pullBy_14 ?_
  refine lv_iload_n hx hb dX6_pullBy_15 rfl (lv_at hl 2 rfl) ?_
  refine lv_imul hx hb dX6_pullBy_16 ?_
  refine lv_iload_n hx hb dX6_pullBy_17 rfl (lv_at hl 2 rfl) ?_
  refine lv_imul hx hb dX6_pullBy_18 ?_
  exact hret _ _ _ dX6_pullBy_19 rfl

def rmX6_pullOf : Room := { frames := 3, cells := 0, slots := 0, locals := 65 }
set_option maxHeartbeats 4000000 in
set_option maxRecDepth 100000 in
theorem mX6_pullOf (l : Launch) (T : Nat → ClassId) (D : va_G) (a qs : Nat) (fs : List Value) (t : Nat → Int32) (P : Nat → Nat → Int32) (hf : fs[0]? = some (.ref qs)) (p : Nat) (hp : p < 4) (d q : Int32) (hk : kOk (P p)) (hd : kDp d) : RdI l yX6_pullOf wsX6_pullOf rmX6_pullOf T xN D [.ref a, .int (nI p), .int d, .int q] [(a, .inr (6, fs)), (qs, .inl (T 0, 43, .inl (mS t P)))] (fun r => r = kPullOf (P p) d q) := by
  refine met_ri (cc := cX6_pullOf) (maxL := 8) (by decide) rfl (Nat.le_of_ble_eq_true rfl) ?_
  intro p_ e s m args below meth c H ls Q hx hb hts hown hml hX hH hP hK hl hret
  have hl : lv_has ls 8 [(0, .ref a), (1, .int (nI p)), (2, .int d), (3, .int q)] := hl
  refine lv_iload_n hx hb dX6_pullOf_0 rfl (lv_at hl 3 rfl) ?_
  refine lv_i2l hx hb dX6_pullOf_1 rfl ?_
  refine lv_topl (fun x1_ ex1_ => ?_)
  refine lv_lstore (lv' := [(4, .long x1_), (0, .ref a), (1, .int (nI p)), (2, .int d), (3, .int q)]) hx hb dX6_pullOf_2 hl (by decide) rfl (fun ls hl => ?_)
  refine lv_aload_n hx hb dX6_pullOf_4 rfl (lv_at hl 1 rfl) ?_
  refine lv_iload_n hx hb dX6_pullOf_5 rfl (lv_at hl 2 rfl) ?_
  refine lv_iload_n hx hb dX6_pullOf_6 rfl (lv_at hl 3 rfl) ?_
  refine callRi (As := [.int (nI p), .int d]) ⟨hx, hb, hml, hown, hts⟩ (mX6_capacity l T D a qs fs t P hf p hp d) (cwV 2 hts gX6_pullOf_X6_capacity rfl rfl rfl pdX6_capacity ⟨Nat.le_of_ble_eq_true rfl, Nat.le_of_ble_eq_true rfl⟩) hP hK xN_bl (fun U _ hW => XN_warm hW hX) (ci := 6) rfl rfl rfl hl.1 rfl rfl (Nat.le_of_ble_eq_true rfl) dX6_pullOf_7 ⟨Nat.zero_le _, Nat.zero_le _⟩ (fun r1_ er1_ => ?_)
  obtain rfl : r1_ = kCap (P p) d := er1_
  refine lv_i2l hx hb dX6_pullOf_10 rfl ?_
  refine lv_topl (fun x2_ ex2_ => ?_)
  refine lv_lstore (lv' := [(6, .long x2_), (4, .long x1_), (0, .ref a), (1, .int (nI p)), (2, .int d), (3, .int q)]) hx hb dX6_pullOf_11 hl (by decide) rfl (fun ls hl => ?_)
  refine lv_aload_n hx hb dX6_pullOf_13 rfl (lv_at hl 2 rfl) ?_
  refine lv_iload_n hx hb dX6_pullOf_14 rfl (lv_at hl 3 rfl) ?_
  refine lv_iconst (v := nI 0) hx hb dX6_pullOf_15 (by decide) ?_
  refine callRi (As := [.int (nI p), .int (nI 0)]) ⟨hx, hb, hml, hown, hts⟩ (mX6_of l T D a qs fs t P hf p hp 0 (by decide)) (cwV 2 hts gX6_pullOf_X6_of rfl rfl rfl pdX6_of ⟨Nat.le_of_ble_eq_true rfl, Nat.le_of_ble_eq_true rfl⟩) hP hK xN_bl (fun U _ hW => XN_warm hW hX) (ci := 6) rfl rfl rfl hl.1 rfl rfl (Nat.le_of_ble_eq_true rfl) dX6_pullOf_16 ⟨Nat.zero_le _, Nat.zero_le _⟩ (fun r2_ er2_ => ?_)
  obtain rfl : r2_ = P p 0 := er2_
  refine lv_aload_n hx hb dX6_pullOf_19 rfl (lv_at hl 2 rfl) ?_
  refine lv_iload_n hx hb dX6_pullOf_20 rfl (lv_at hl 3 rfl) ?_
  refine lv_iconst (v := nI 1) hx hb dX6_pullOf_21 (by decide) ?_
  refine callRi (As := [.int (nI p), .int (nI 1)]) ⟨hx, hb, hml, hown, hts⟩ (mX6_of l T D a qs fs t P hf p hp 1 (by decide)) (cwV 2 hts gX6_pullOf_X6_of rfl rfl rfl pdX6_of ⟨Nat.le_of_ble_eq_true rfl, Nat.le_of_ble_eq_true rfl⟩) hP hK xN_bl (fun U _ hW => XN_warm hW hX) (ci := 6) rfl rfl rfl hl.1 rfl rfl (Nat.le_of_ble_eq_true rfl) dX6_pullOf_22 ⟨Nat.zero_le _, Nat.zero_le _⟩ (fun r3_ er3_ => ?_)
  obtain rfl : r3_ = P p 1 := er3_
  refine lv_iconst (v := 1) hx hb dX6_pullOf_25 (by decide) ?_
  refine lv_isub hx hb dX6_pullOf_26 ?_
  refine lv_imul hx hb dX6_pullOf_27 ?_
  refine lv_i2l hx hb dX6_pullOf_28 rfl ?_
  refine lv_lload hx hb dX6_pullOf_29 (lv_at hl 1 rfl) ?_
  refine lv_lmul hx hb dX6_pullOf_31 ?_
  refine lv_lload hx hb dX6_pullOf_32 (lv_at hl 1 rfl) ?_
  refine lv_lmul hx hb dX6_pullOf_34 ?_
  refine lv_lload hx hb dX6_pullOf_35 (lv_at hl 0 rfl) ?_
  refine lv_lload hx hb dX6_pullOf_37 (lv_at hl 0 rfl) ?_
  refine lv_lmul hx hb dX6_pullOf_39 ?_
  refine lv_ldiv hx hb dX6_pullOf_40 (by rw [ex2_]; exact kCap_nn hk hd) ?_
  refine lv_l2i hx hb dX6_pullOf_41 rfl ?_
  exact hret _ _ _ dX6_pullOf_42 (by rw [ex1_, ex2_]; rfl)

def rmX6_pullAt : Room := { frames := 4, cells := 0, slots := 0, locals := 92 }
set_option maxHeartbeats 4000000 in
set_option maxRecDepth 100000 in
theorem mX6_pullAt (l : Launch) (T : Nat → ClassId) (D : va_G) (a qs : Nat) (fs : List Value) (t : Nat → Int32) (P : Nat → Nat → Int32) (hf : fs[0]? = some (.ref qs)) (p : Nat) (hp : p < 4) (d q : Int32) (hk : kOk (P p)) (hd : kDp d) : RdI l yX6_pullAt wsX6_pullAt rmX6_pullAt T xN D [.ref a, .int (nI p), .int d, .int q] [(a, .inr (6, fs)), (qs, .inl (T 0, 43, .inl (mS t P)))] (fun r => r = kPullAt (P p) d q) := by
  refine met_ri (cc := cX6_pullAt) (maxL := 4) (by decide) rfl (Nat.le_of_ble_eq_true rfl) ?_
  intro p_ e s m args below meth c H ls Q hx hb hts hown hml hX hH hP hK hl hret
  have hl : lv_has ls 4 [(0, .ref a), (1, .int (nI p)), (2, .int d), (3, .int q)] := hl
  refine lv_aload_n hx hb dX6_pullAt_0 rfl (lv_at hl 0 rfl) ?_
  refine lv_iload_n hx hb dX6_pullAt_1 rfl (lv_at hl 1 rfl) ?_
  refine callRi (As := [.int (nI p)]) ⟨hx, hb, hml, hown, hts⟩ (mX6_isOn l T D a qs fs t P hf p hp ) (cwV 1 hts gX6_pullAt_X6_isOn rfl rfl rfl pdX6_isOn ⟨Nat.le_of_ble_eq_true rfl, Nat.le_of_ble_eq_true rfl⟩) hP hK xN_bl (fun U _ hW => XN_warm hW hX) (ci := 6) rfl rfl rfl hl.1 rfl rfl (Nat.le_of_ble_eq_true rfl) dX6_pullAt_2 ⟨Nat.zero_le _, Nat.zero_le _⟩ (fun r1_ er1_ => ?_)
  obtain rfl : r1_ = bI (P p 9 = 1) := er1_
  refine lv_if_eq (tgt := 23) hx hb dX6_pullAt_5 (by decide) (fun c5 => ?_) (fun c5 => ?_)
  · skip
    have c5 := bI_0 c5
    refine lv_aload_n hx hb dX6_pullAt_23 rfl (lv_at hl 0 rfl) ?_
    refine lv_iload_n hx hb dX6_pullAt_24 rfl (lv_at hl 1 rfl) ?_
    refine lv_iload_n hx hb dX6_pullAt_25 rfl (lv_at hl 2 rfl) ?_
    refine lv_iload_n hx hb dX6_pullAt_26 rfl (lv_at hl 3 rfl) ?_
    refine callRi (As := [.int (nI p), .int d, .int q]) ⟨hx, hb, hml, hown, hts⟩ (mX6_pullOf l T D a qs fs t P hf p hp d q hk hd) (cwV 3 hts gX6_pullAt_X6_pullOf rfl rfl rfl pdX6_pullOf ⟨Nat.le_of_ble_eq_true rfl, Nat.le_of_ble_eq_true rfl⟩) hP hK xN_bl (fun U _ hW => XN_warm hW hX) (ci := 6) rfl rfl rfl hl.1 rfl rfl (Nat.le_of_ble_eq_true rfl) dX6_pullAt_27 ⟨Nat.zero_le _, Nat.zero_le _⟩ (fun r2_ er2_ => ?_)
    obtain rfl : r2_ = kPullOf (P p) d q := er2_
    exact hret _ _ _ dX6_pullAt_30 (by rw [kPullAt, if_neg c5])
  · skip
    have c5 := bI_n0 c5
    refine lv_aload_n hx hb dX6_pullAt_8 rfl (lv_at hl 0 rfl) ?_
    refine lv_iload_n hx hb dX6_pullAt_9 rfl (lv_at hl 1 rfl) ?_
    refine lv_aload_n hx hb dX6_pullAt_10 rfl (lv_at hl 0 rfl) ?_
    refine lv_iload_n hx hb dX6_pullAt_11 rfl (lv_at hl 1 rfl) ?_
    refine lv_bipush (v := nI 8) hx hb dX6_pullAt_12 (by decide) ?_
    refine callRi (As := [.int (nI p), .int (nI 8)]) ⟨hx, hb, hml, hown, hts⟩ (mX6_of l T D a qs fs t P hf p hp 8 (by decide)) (cwV 2 hts gX6_pullAt_X6_of rfl rfl rfl pdX6_of ⟨Nat.le_of_ble_eq_true rfl, Nat.le_of_ble_eq_true rfl⟩) hP hK xN_bl (fun U _ hW => XN_warm hW hX) (ci := 6) rfl rfl rfl hl.1 rfl rfl (Nat.le_of_ble_eq_true rfl) dX6_pullAt_14 ⟨Nat.zero_le _, Nat.zero_le _⟩ (fun r3_ er3_ => ?_)
    obtain rfl : r3_ = P p 8 := er3_
    refine callRi (As := [.int (nI p), .int (P p 8)]) ⟨hx, hb, hml, hown, hts⟩ (mX6_pullBy l T D a qs fs t P hf p hp (P p 8)) (cwV 2 hts gX6_pullAt_X6_pullBy rfl rfl rfl pdX6_pullBy ⟨Nat.le_of_ble_eq_true rfl, Nat.le_of_ble_eq_true rfl⟩) hP hK xN_bl (fun U _ hW => XN_warm hW hX) (ci := 6) rfl rfl rfl hl.1 rfl rfl (Nat.le_of_ble_eq_true rfl) dX6_pullAt_17 ⟨Nat.zero_le _, Nat.zero_le _⟩ (fun r4_ er4_ => ?_)
    obtain rfl : r4_ = kPullBy (P p) (P p 8) := er4_
    refine lv_goto (tgt := 30) hx hb dX6_pullAt_20 (by decide) ?_
    exact hret _ _ _ dX6_pullAt_30 (by rw [kPullAt, if_pos c5])

def rmX6_spring : Room := { frames := 2, cells := 0, slots := 0, locals := 43 }
set_option maxHeartbeats 4000000 in
set_option maxRecDepth 100000 in
theorem mX6_spring (l : Launch) (T : Nat → ClassId) (D : va_G) (a qs : Nat) (fs : List Value) (t : Nat → Int32) (P : Nat → Nat → Int32) (hf : fs[0]? = some (.ref qs)) (p : Nat) (hp : p < 4) (d : Int32) : RdI l yX6_spring wsX6_spring rmX6_spring T xN D [.ref a, .int (nI p), .int d] [(a, .inr (6, fs)), (qs, .inl (T 0, 43, .inl (mS t P)))] (fun r => r = kSpring (P p) d) := by
  refine met_ri (cc := cX6_spring) (maxL := 3) (by decide) rfl (Nat.le_of_ble_eq_true rfl) ?_
  intro p_ e s m args below meth c H ls Q hx hb hts hown hml hX hH hP hK hl hret
  have hl : lv_has ls 3 [(0, .ref a), (1, .int (nI p)), (2, .int d)] := hl
  refine lv_aload_n hx hb dX6_spring_0 rfl (lv_at hl 0 rfl) ?_
  refine lv_iload_n hx hb dX6_spring_1 rfl (lv_at hl 1 rfl) ?_
  refine lv_iconst (v := nI 2) hx hb dX6_spring_2 (by decide) ?_
  refine callRi (As := [.int (nI p), .int (nI 2)]) ⟨hx, hb, hml, hown, hts⟩ (mX6_of l T D a qs fs t P hf p hp 2 (by decide)) (cwV 2 hts gX6_spring_X6_of rfl rfl rfl pdX6_of ⟨Nat.le_of_ble_eq_true rfl, Nat.le_of_ble_eq_true rfl⟩) hP hK xN_bl (fun U _ hW => XN_warm hW hX) (ci := 6) rfl rfl rfl hl.1 rfl rfl (Nat.le_of_ble_eq_true rfl) dX6_spring_3 ⟨Nat.zero_le _, Nat.zero_le _⟩ (fun r1_ er1_ => ?_)
  obtain rfl : r1_ = P p 2 := er1_
  refine lv_iload_n hx hb dX6_spring_6 rfl (lv_at hl 2 rfl) ?_
  refine lv_aload_n hx hb dX6_spring_7 rfl (lv_at hl 0 rfl) ?_
  refine lv_iload_n hx hb dX6_spring_8 rfl (lv_at hl 1 rfl) ?_
  refine lv_iconst (v := nI 3) hx hb dX6_spring_9 (by decide) ?_
  refine callRi (As := [.int (nI p), .int (nI 3)]) ⟨hx, hb, hml, hown, hts⟩ (mX6_of l T D a qs fs t P hf p hp 3 (by decide)) (cwV 2 hts gX6_spring_X6_of rfl rfl rfl pdX6_of ⟨Nat.le_of_ble_eq_true rfl, Nat.le_of_ble_eq_true rfl⟩) hP hK xN_bl (fun U _ hW => XN_warm hW hX) (ci := 6) rfl rfl rfl hl.1 rfl rfl (Nat.le_of_ble_eq_true rfl) dX6_spring_10 ⟨Nat.zero_le _, Nat.zero_le _⟩ (fun r2_ er2_ => ?_)
  obtain rfl : r2_ = P p 3 := er2_
  refine lv_isub hx hb dX6_spring_13 ?_
  refine lv_imul hx hb dX6_spring_14 ?_
  exact hret _ _ _ dX6_spring_15 rfl

def rmX6_net : Room := { frames := 5, cells := 0, slots := 0, locals := 115 }
set_option maxHeartbeats 4000000 in
set_option maxRecDepth 100000 in
theorem mX6_net (l : Launch) (T : Nat → ClassId) (D : va_G) (a qs : Nat) (fs : List Value) (t : Nat → Int32) (P : Nat → Nat → Int32) (hf : fs[0]? = some (.ref qs)) (p : Nat) (hp : p < 4) (hk : kOk (P p)) : RdI l yX6_net wsX6_net rmX6_net T xN D [.ref a, .int (nI p)] [(a, .inr (6, fs)), (qs, .inl (T 0, 43, .inl (mS t P)))] (fun r => r = kNet (P p)) := by
  refine met_ri (cc := cX6_net) (maxL := 2) (by decide) rfl (Nat.le_of_ble_eq_true rfl) ?_
  intro p_ e s m args below meth c H ls Q hx hb hts hown hml hX hH hP hK hl hret
  have hl : lv_has ls 2 [(0, .ref a), (1, .int (nI p))] := hl
  refine lv_aload_n hx hb dX6_net_0 rfl (lv_at hl 0 rfl) ?_
  refine lv_iload_n hx hb dX6_net_1 rfl (lv_at hl 1 rfl) ?_
  refine lv_aload_n hx hb dX6_net_2 rfl (lv_at hl 0 rfl) ?_
  refine lv_iload_n hx hb dX6_net_3 rfl (lv_at hl 1 rfl) ?_
  refine lv_bipush (v := nI 6) hx hb dX6_net_4 (by decide) ?_
  refine callRi (As := [.int (nI p), .int (nI 6)]) ⟨hx, hb, hml, hown, hts⟩ (mX6_of l T D a qs fs t P hf p hp 6 (by decide)) (cwV 2 hts gX6_net_X6_of rfl rfl rfl pdX6_of ⟨Nat.le_of_ble_eq_true rfl, Nat.le_of_ble_eq_true rfl⟩) hP hK xN_bl (fun U _ hW => XN_warm hW hX) (ci := 6) rfl rfl rfl hl.1 rfl rfl (Nat.le_of_ble_eq_true rfl) dX6_net_6 ⟨Nat.zero_le _, Nat.zero_le _⟩ (fun r1_ er1_ => ?_)
  obtain rfl : r1_ = P p 6 := er1_
  refine lv_aload_n hx hb dX6_net_9 rfl (lv_at hl 0 rfl) ?_
  refine lv_iload_n hx hb dX6_net_10 rfl (lv_at hl 1 rfl) ?_
  refine lv_bipush (v := nI 7) hx hb dX6_net_11 (by decide) ?_
  refine callRi (As := [.int (nI p), .int (nI 7)]) ⟨hx, hb, hml, hown, hts⟩ (mX6_of l T D a qs fs t P hf p hp 7 (by decide)) (cwV 2 hts gX6_net_X6_of rfl rfl rfl pdX6_of ⟨Nat.le_of_ble_eq_true rfl, Nat.le_of_ble_eq_true rfl⟩) hP hK xN_bl (fun U _ hW => XN_warm hW hX) (ci := 6) rfl rfl rfl hl.1 rfl rfl (Nat.le_of_ble_eq_true rfl) dX6_net_13 ⟨Nat.zero_le _, Nat.zero_le _⟩ (fun r2_ er2_ => ?_)
  obtain rfl : r2_ = P p 7 := er2_
  refine callRi (As := [.int (nI p), .int (P p 6), .int (P p 7)]) ⟨hx, hb, hml, hown, hts⟩ (mX6_pullAt l T D a qs fs t P hf p hp (P p 6) (P p 7) hk (kOk_d hk)) (cwV 3 hts gX6_net_X6_pullAt rfl rfl rfl pdX6_pullAt ⟨Nat.le_of_ble_eq_true rfl, Nat.le_of_ble_eq_true rfl⟩) hP hK xN_bl (fun U _ hW => XN_warm hW hX) (ci := 6) rfl rfl rfl hl.1 rfl rfl (Nat.le_of_ble_eq_true rfl) dX6_net_16 ⟨Nat.zero_le _, Nat.zero_le _⟩ (fun r3_ er3_ => ?_)
  obtain rfl : r3_ = kPullAt (P p) (P p 6) (P p 7) := er3_
  refine lv_aload_n hx hb dX6_net_19 rfl (lv_at hl 0 rfl) ?_
  refine lv_iload_n hx hb dX6_net_20 rfl (lv_at hl 1 rfl) ?_
  refine lv_aload_n hx hb dX6_net_21 rfl (lv_at hl 0 rfl) ?_
  refine lv_iload_n hx hb dX6_net_22 rfl (lv_at hl 1 rfl) ?_
  refine lv_bipush (v := nI 6) hx hb dX6_net_23 (by decide) ?_
  refine callRi (As := [.int (nI p), .int (nI 6)]) ⟨hx, hb, hml, hown, hts⟩ (mX6_of l T D a qs fs t P hf p hp 6 (by decide)) (cwV 2 hts gX6_net_X6_of rfl rfl rfl pdX6_of ⟨Nat.le_of_ble_eq_true rfl, Nat.le_of_ble_eq_true rfl⟩) hP hK xN_bl (fun U _ hW => XN_warm hW hX) (ci := 6) rfl rfl rfl hl.1 rfl rfl (Nat.le_of_ble_eq_true rfl) dX6_net_25 ⟨Nat.zero_le _, Nat.zero_le _⟩ (fun r4_ er4_ => ?_)
  obtain rfl : r4_ = P p 6 := er4_
  refine callRi (As := [.int (nI p), .int (P p 6)]) ⟨hx, hb, hml, hown, hts⟩ (mX6_spring l T D a qs fs t P hf p hp (P p 6)) (cwV 2 hts gX6_net_X6_spring rfl rfl rfl pdX6_spring ⟨Nat.le_of_ble_eq_true rfl, Nat.le_of_ble_eq_true rfl⟩) hP hK xN_bl (fun U _ hW => XN_warm hW hX) (ci := 6) rfl rfl rfl hl.1 rfl rfl (Nat.le_of_ble_eq_true rfl) dX6_net_28 ⟨Nat.zero_le _, Nat.zero_le _⟩ (fun r5_ er5_ => ?_)
  obtain rfl : r5_ = kSpring (P p) (P p 6) := er5_
  refine lv_isub hx hb dX6_net_31 ?_
  exact hret _ _ _ dX6_net_32 rfl

def rmX6_size : Room := { frames := 0, cells := 0, slots := 0, locals := 0 }
set_option maxHeartbeats 4000000 in
set_option maxRecDepth 100000 in
theorem mX6_size (l : Launch) (T : Nat → ClassId) (D : va_G) (v : Int32) : RdI l yX6_size wsX6_size rmX6_size T xN D [.int v] [] (fun r => r = kSize v) := by
  refine met_ri (cc := cX6_size) (maxL := 1) (by decide) rfl (Nat.le_of_ble_eq_true rfl) ?_
  intro p_ e s m args below meth c H ls Q hx hb hts hown hml hX hH hP hK hl hret
  have hl : lv_has ls 1 [(0, .int v)] := hl
  refine lv_iload_n hx hb dX6_size_0 rfl (lv_at hl 0 rfl) ?_
  refine lv_if_ge (tgt := 9) hx hb dX6_size_1 (by decide) (fun c1 => ?_) (fun c1 => ?_)
  · skip
    refine lv_iload_n hx hb dX6_size_9 rfl (lv_at hl 0 rfl) ?_
    exact hret _ _ _ dX6_size_10 (by rw [kSize, if_neg (Int32.not_lt.mpr c1)])
  · skip
    refine lv_iload_n hx hb dX6_size_4 rfl (lv_at hl 0 rfl) ?_
    refine lv_ineg hx hb dX6_size_5 ?_
    refine lv_goto (tgt := 10) hx hb dX6_size_6 (by decide) ?_
    exact hret _ _ _ dX6_size_10 (by rw [kSize, if_pos (Int32.not_le.mp c1)])

def rmX6_move : Room := { frames := 2, cells := 0, slots := 0, locals := 43 }
set_option maxHeartbeats 4000000 in
set_option maxRecDepth 100000 in
theorem mX6_move (l : Launch) (T : Nat → ClassId) (D : va_G) (a qs : Nat) (fs : List Value) (t : Nat → Int32) (P : Nat → Nat → Int32) (hf : fs[0]? = some (.ref qs)) (p : Nat) (hp : p < 4) (d n : Int32) : RdI l yX6_move wsX6_move rmX6_move T xN D [.ref a, .int (nI p), .int d, .int n] [(a, .inr (6, fs)), (qs, .inl (T 0, 43, .inl (mS t P)))] (fun r => r = kMove (P p) d n) := by
  refine met_ri (cc := cX6_move) (maxL := 4) (by decide) rfl (Nat.le_of_ble_eq_true rfl) ?_
  intro p_ e s m args below meth c H ls Q hx hb hts hown hml hX hH hP hK hl hret
  have hl : lv_has ls 4 [(0, .ref a), (1, .int (nI p)), (2, .int d), (3, .int n)] := hl
  refine lv_iload_n hx hb dX6_move_0 rfl (lv_at hl 3 rfl) ?_
  refine callSi (As := [.int n]) ⟨hx, hb, hml, hown, hts⟩ (mX6_size l T D n) (va_cwS 1 hts gX6_move_X6_size rfl rfl rfl (pdX6_size).2 ⟨Nat.le_of_ble_eq_true rfl, Nat.le_of_ble_eq_true rfl⟩) wP_nil hK xN_bl (fun U _ hW => XN_warm hW hX) hl.1 rfl rfl (Nat.le_of_ble_eq_true rfl) dX6_move_1 ⟨Nat.zero_le _, Nat.zero_le _⟩ (fun r1_ er1_ => ?_)
  obtain rfl : r1_ = kSize n := er1_
  refine lv_aload_n hx hb dX6_move_4 rfl (lv_at hl 0 rfl) ?_
  refine lv_iload_n hx hb dX6_move_5 rfl (lv_at hl 1 rfl) ?_
  refine lv_iconst (v := nI 4) hx hb dX6_move_6 (by decide) ?_
  refine callRi (As := [.int (nI p), .int (nI 4)]) ⟨hx, hb, hml, hown, hts⟩ (mX6_of l T D a qs fs t P hf p hp 4 (by decide)) (cwV 2 hts gX6_move_X6_of rfl rfl rfl pdX6_of ⟨Nat.le_of_ble_eq_true rfl, Nat.le_of_ble_eq_true rfl⟩) hP hK xN_bl (fun U _ hW => XN_warm hW hX) (ci := 6) rfl rfl rfl hl.1 rfl rfl (Nat.le_of_ble_eq_true rfl) dX6_move_7 ⟨Nat.zero_le _, Nat.zero_le _⟩ (fun r2_ er2_ => ?_)
  obtain rfl : r2_ = P p 4 := er2_
  refine lv_icmp_gt (tgt := 15) hx hb dX6_move_10 (by decide) (fun c10 => ?_) (fun c10 => ?_)
  · skip
    refine lv_iload_n hx hb dX6_move_15 rfl (lv_at hl 3 rfl) ?_
    refine lv_if_le (tgt := 33) hx hb dX6_move_16 (by decide) (fun c16 => ?_) (fun c16 => ?_)
    · skip
      refine lv_iload_n hx hb dX6_move_33 rfl (lv_at hl 2 rfl) ?_
      refine lv_if_le (tgt := 41) hx hb dX6_move_34 (by decide) (fun c34 => ?_) (fun c34 => ?_)
      · skip
        refine lv_iconst (v := 0) hx hb dX6_move_41 (by decide) ?_
        exact hret _ _ _ dX6_move_42 (by rw [kMove, if_neg (Int32.not_le.mpr c10), if_neg (Int32.not_lt.mpr c16), if_neg (Int32.not_lt.mpr c34)])
      · skip
        refine lv_iconst (v := (-1)) hx hb dX6_move_37 (by decide) ?_
        refine lv_goto (tgt := 42) hx hb dX6_move_38 (by decide) ?_
        exact hret _ _ _ dX6_move_42 (by rw [kMove, if_neg (Int32.not_le.mpr c10), if_neg (Int32.not_lt.mpr c16), if_pos (Int32.not_le.mp c34)])
    · skip
      refine lv_iload_n hx hb dX6_move_19 rfl (lv_at hl 2 rfl) ?_
      refine lv_bipush (v := 40) hx hb dX6_move_20 (by decide) ?_
      refine lv_icmp_ge (tgt := 29) hx hb dX6_move_22 (by decide) (fun c22 => ?_) (fun c22 => ?_)
      · skip
        refine lv_iconst (v := 0) hx hb dX6_move_29 (by decide) ?_
        refine lv_goto (tgt := 42) hx hb dX6_move_30 (by decide) ?_
        exact hret _ _ _ dX6_move_42 (by rw [kMove, if_neg (Int32.not_le.mpr c10), if_pos (Int32.not_le.mp c16), if_neg (Int32.not_lt.mpr c22)])
      · skip
        refine lv_iconst (v := 1) hx hb dX6_move_25 (by decide) ?_
        refine lv_goto (tgt := 42) hx hb dX6_move_26 (by decide) ?_
        exact hret _ _ _ dX6_move_42 (by rw [kMove, if_neg (Int32.not_le.mpr c10), if_pos (Int32.not_le.mp c16), if_pos (Int32.not_le.mp c22)])
  · skip
    refine lv_iconst (v := 0) hx hb dX6_move_13 (by decide) ?_
    exact hret _ _ _ dX6_move_14 (by rw [kMove, if_pos (Int32.not_lt.mp c10)])

def rmX6_leak : Room := { frames := 2, cells := 0, slots := 0, locals := 43 }
set_option maxHeartbeats 4000000 in
set_option maxRecDepth 100000 in
theorem mX6_leak (l : Launch) (T : Nat → ClassId) (D : va_G) (a qs : Nat) (fs : List Value) (t : Nat → Int32) (P : Nat → Nat → Int32) (hf : fs[0]? = some (.ref qs)) (p : Nat) (hp : p < 4) (q : Int32) : RdI l yX6_leak wsX6_leak rmX6_leak T xN D [.ref a, .int (nI p), .int q] [(a, .inr (6, fs)), (qs, .inl (T 0, 43, .inl (mS t P)))] (fun r => r = kLeak (P p) q) := by
  refine met_ri (cc := cX6_leak) (maxL := 3) (by decide) rfl (Nat.le_of_ble_eq_true rfl) ?_
  intro p_ e s m args below meth c H ls Q hx hb hts hown hml hX hH hP hK hl hret
  have hl : lv_has ls 3 [(0, .ref a), (1, .int (nI p)), (2, .int q)] := hl
  refine lv_iload_n hx hb dX6_leak_0 rfl (lv_at hl 2 rfl) ?_
  refine lv_i2l hx hb dX6_leak_1 rfl ?_
  refine lv_aload_n hx hb dX6_leak_2 rfl (lv_at hl 0 rfl) ?_
  refine lv_iload_n hx hb dX6_leak_3 rfl (lv_at hl 1 rfl) ?_
  refine lv_iconst (v := nI 5) hx hb dX6_leak_4 (by decide) ?_
  refine callRi (As := [.int (nI p), .int (nI 5)]) ⟨hx, hb, hml, hown, hts⟩ (mX6_of l T D a qs fs t P hf p hp 5 (by decide)) (cwV 2 hts gX6_leak_X6_of rfl rfl rfl pdX6_of ⟨Nat.le_of_ble_eq_true rfl, Nat.le_of_ble_eq_true rfl⟩) hP hK xN_bl (fun U _ hW => XN_warm hW hX) (ci := 6) rfl rfl rfl hl.1 rfl rfl (Nat.le_of_ble_eq_true rfl) dX6_leak_5 ⟨Nat.zero_le _, Nat.zero_le _⟩ (fun r1_ er1_ => ?_)
  obtain rfl : r1_ = P p 5 := er1_
  refine lv_i2l hx hb dX6_leak_8 rfl ?_
  refine lv_lmul hx hb dX6_leak_9 ?_
  refine lv_ldc2 (v := 1000) hx hb hown (hts (.constantLong RX6 86 (1000)) (List.mem_of_getElem? (i := 1) rfl)) dX6_leak_10 ?_
  refine lv_ldiv hx hb dX6_leak_13 (by decide) ?_
  refine lv_l2i hx hb dX6_leak_14 rfl ?_
  exact hret _ _ _ dX6_leak_15 rfl

def rmX6_half : Room := { frames := 0, cells := 0, slots := 0, locals := 0 }
set_option maxHeartbeats 4000000 in
set_option maxRecDepth 100000 in
theorem mX6_half (l : Launch) (T : Nat → ClassId) (D : va_G) (v : Int64) : RdL l yX6_half wsX6_half rmX6_half T xN D [.long v] [] (fun r => r = kHalf v) := by
  refine met_rl (cc := cX6_half) (maxL := 2) (by decide) rfl (Nat.le_of_ble_eq_true rfl) ?_
  intro p_ e s m args below meth c H ls Q hx hb hts hown hml hX hH hP hK hl hret
  have hl : lv_has ls 2 [(0, .long v)] := hl
  refine lv_lload_n hx hb dX6_half_0 rfl (lv_at hl 0 rfl) ?_
  refine lv_lconst (v := 0) hx hb dX6_half_1 (by decide) ?_
  refine W.lcmp hx hb dX6_half_2 ?_
  refine lv_if_ge (tgt := 17) hx hb dX6_half_3 (by decide) (fun c3 => ?_) (fun c3 => ?_)
  · skip
    refine lv_lload_n hx hb dX6_half_17 rfl (lv_at hl 0 rfl) ?_
    refine lv_ldc2 (v := 2) hx hb hown (hts (.constantLong RX6 88 (2)) (List.mem_of_getElem? (i := 1) rfl)) dX6_half_18 ?_
    refine lv_ldiv hx hb dX6_half_21 (by decide) ?_
    exact hret _ _ _ dX6_half_22 (by rw [kHalf, if_neg (Int64.not_lt.mpr ((lg_cmp_ge _ _).mp c3))])
  · skip
    refine lv_lconst (v := 1) hx hb dX6_half_6 (by decide) ?_
    refine lv_lload_n hx hb dX6_half_7 rfl (lv_at hl 0 rfl) ?_
    refine lv_lsub hx hb dX6_half_8 ?_
    refine lv_ldc2 (v := 2) hx hb hown (hts (.constantLong RX6 88 (2)) (List.mem_of_getElem? (i := 1) rfl)) dX6_half_9 ?_
    refine lv_ldiv hx hb dX6_half_12 (by decide) ?_
    refine lv_lneg hx hb dX6_half_13 ?_
    refine lv_goto (tgt := 22) hx hb dX6_half_14 (by decide) ?_
    exact hret _ _ _ dX6_half_22 (by rw [kHalf, if_pos (Int64.not_le.mp (mt (lg_cmp_ge _ _).mpr c3))])

def rmX6_least : Room := { frames := 0, cells := 0, slots := 0, locals := 0 }
set_option maxHeartbeats 4000000 in
set_option maxRecDepth 100000 in
theorem mX6_least (l : Launch) (T : Nat → ClassId) (D : va_G) (k : Nat) (hw : k < 6) : RdI l yX6_least wsX6_least rmX6_least T xN D [.int (nI k)] [] (fun r => r = kLo k) := by
  refine met_ri (cc := cX6_least) (maxL := 1) (by decide) rfl (Nat.le_of_ble_eq_true rfl) ?_
  intro p_ e s m args below meth c H ls Q hx hb hts hown hml hX hH hP hK hl hret
  have hl : lv_has ls 1 [(0, .int (nI k))] := hl
  refine lv_iload_n hx hb dX6_least_0 rfl (lv_at hl 0 rfl) ?_
  refine lv_iconst (v := nI 2) hx hb dX6_least_1 (by decide) ?_
  refine lv_icmp_ge (tgt := 9) hx hb dX6_least_2 (by decide) (fun c2 => ?_) (fun c2 => ?_)
  · skip
    refine lv_iconst (v := 0) hx hb dX6_least_9 (by decide) ?_
    exact hret _ _ _ dX6_least_10 (by rw [kLo, if_neg (by have := (nI_leI (by omega) (by omega)).mp c2; omega)])
  · skip
    refine lv_iconst (v := 1) hx hb dX6_least_5 (by decide) ?_
    refine lv_goto (tgt := 10) hx hb dX6_least_6 (by decide) ?_
    exact hret _ _ _ dX6_least_10 (by rw [kLo, if_pos (by have := mt (nI_leI (a := 2) (b := k) (by omega) (by omega)).mpr c2; omega)])

def rmX6_most : Room := { frames := 0, cells := 0, slots := 0, locals := 0 }
set_option maxHeartbeats 4000000 in
set_option maxRecDepth 100000 in
theorem mX6_most (l : Launch) (T : Nat → ClassId) (D : va_G) (k : Nat) (hw : k < 6) : RdI l yX6_most wsX6_most rmX6_most T xN D [.int (nI k)] [] (fun r => r = kHi k) := by
  refine met_ri (cc := cX6_most) (maxL := 1) (by decide) rfl (Nat.le_of_ble_eq_true rfl) ?_
  intro p_ e s m args below meth c H ls Q hx hb hts hown hml hX hH hP hK hl hret
  have hl : lv_has ls 1 [(0, .int (nI k))] := hl
  rcases (show k = 0 ∨ k = 1 ∨ k = 2 ∨ k = 3 ∨ k = 4 ∨ k = 5 by omega) with rfl | rfl | rfl | rfl | rfl | rfl
  · skip
    refine lv_iload_n hx hb dX6_most_0 rfl (lv_at hl 0 rfl) ?_
    refine lv_tableIn (off := 35) (tgt := 36) hx hb dX6_most_1 (by decide) (by decide) (by decide) (by decide) ?_
    refine lv_bipush (v := 9) hx hb dX6_most_36 (by decide) ?_
    exact hret _ _ _ dX6_most_38 rfl
  · skip
    refine lv_iload_n hx hb dX6_most_0 rfl (lv_at hl 0 rfl) ?_
    refine lv_tableIn (off := 35) (tgt := 36) hx hb dX6_most_1 (by decide) (by decide) (by decide) (by decide) ?_
    refine lv_bipush (v := 9) hx hb dX6_most_36 (by decide) ?_
    exact hret _ _ _ dX6_most_38 rfl
  · skip
    refine lv_iload_n hx hb dX6_most_0 rfl (lv_at hl 0 rfl) ?_
    refine lv_tableIn (off := 38) (tgt := 39) hx hb dX6_most_1 (by decide) (by decide) (by decide) (by decide) ?_
    refine lv_sipush (v := 999) hx hb dX6_most_39 (by decide) ?_
    exact hret _ _ _ dX6_most_42 rfl
  · skip
    refine lv_iload_n hx hb dX6_most_0 rfl (lv_at hl 0 rfl) ?_
    refine lv_tableIn (off := 42) (tgt := 43) hx hb dX6_most_1 (by decide) (by decide) (by decide) (by decide) ?_
    refine lv_bipush (v := 40) hx hb dX6_most_43 (by decide) ?_
    exact hret _ _ _ dX6_most_45 rfl
  · skip
    refine lv_iload_n hx hb dX6_most_0 rfl (lv_at hl 0 rfl) ?_
    refine lv_tableIn (off := 45) (tgt := 46) hx hb dX6_most_1 (by decide) (by decide) (by decide) (by decide) ?_
    refine lv_sipush (v := 9999) hx hb dX6_most_46 (by decide) ?_
    exact hret _ _ _ dX6_most_49 rfl
  · skip
    refine lv_iload_n hx hb dX6_most_0 rfl (lv_at hl 0 rfl) ?_
    refine lv_tableOut (tgt := 50) hx hb dX6_most_1 (by decide) (by decide) ?_
    refine lv_bipush (v := 100) hx hb dX6_most_50 (by decide) ?_
    exact hret _ _ _ dX6_most_52 rfl
  skip

def rmX6_pullNow : Room := { frames := 5, cells := 0, slots := 0, locals := 115 }
set_option maxHeartbeats 4000000 in
set_option maxRecDepth 100000 in
theorem mX6_pullNow (l : Launch) (T : Nat → ClassId) (D : va_G) (a qs : Nat) (fs : List Value) (t : Nat → Int32) (P : Nat → Nat → Int32) (hf : fs[0]? = some (.ref qs)) (p : Nat) (hp : p < 4) (hk : kOk (P p)) : RdI l yX6_pullNow wsX6_pullNow rmX6_pullNow T xN D [.ref a, .int (nI p)] [(a, .inr (6, fs)), (qs, .inl (T 0, 43, .inl (mS t P)))] (fun r => r = kPullAt (P p) (P p 6) (P p 7)) := by
  refine met_ri (cc := cX6_pullNow) (maxL := 2) (by decide) rfl (Nat.le_of_ble_eq_true rfl) ?_
  intro p_ e s m args below meth c H ls Q hx hb hts hown hml hX hH hP hK hl hret
  have hl : lv_has ls 2 [(0, .ref a), (1, .int (nI p))] := hl
  refine lv_aload_n hx hb dX6_pullNow_0 rfl (lv_at hl 0 rfl) ?_
  refine lv_iload_n hx hb dX6_pullNow_1 rfl (lv_at hl 1 rfl) ?_
  refine lv_aload_n hx hb dX6_pullNow_2 rfl (lv_at hl 0 rfl) ?_
  refine lv_iload_n hx hb dX6_pullNow_3 rfl (lv_at hl 1 rfl) ?_
  refine lv_bipush (v := nI 6) hx hb dX6_pullNow_4 (by decide) ?_
  refine callRi (As := [.int (nI p), .int (nI 6)]) ⟨hx, hb, hml, hown, hts⟩ (mX6_of l T D a qs fs t P hf p hp 6 (by decide)) (cwV 2 hts gX6_pullNow_X6_of rfl rfl rfl pdX6_of ⟨Nat.le_of_ble_eq_true rfl, Nat.le_of_ble_eq_true rfl⟩) hP hK xN_bl (fun U _ hW => XN_warm hW hX) (ci := 6) rfl rfl rfl hl.1 rfl rfl (Nat.le_of_ble_eq_true rfl) dX6_pullNow_6 ⟨Nat.zero_le _, Nat.zero_le _⟩ (fun r1_ er1_ => ?_)
  obtain rfl : r1_ = P p 6 := er1_
  refine lv_aload_n hx hb dX6_pullNow_9 rfl (lv_at hl 0 rfl) ?_
  refine lv_iload_n hx hb dX6_pullNow_10 rfl (lv_at hl 1 rfl) ?_
  refine lv_bipush (v := nI 7) hx hb dX6_pullNow_11 (by decide) ?_
  refine callRi (As := [.int (nI p), .int (nI 7)]) ⟨hx, hb, hml, hown, hts⟩ (mX6_of l T D a qs fs t P hf p hp 7 (by decide)) (cwV 2 hts gX6_pullNow_X6_of rfl rfl rfl pdX6_of ⟨Nat.le_of_ble_eq_true rfl, Nat.le_of_ble_eq_true rfl⟩) hP hK xN_bl (fun U _ hW => XN_warm hW hX) (ci := 6) rfl rfl rfl hl.1 rfl rfl (Nat.le_of_ble_eq_true rfl) dX6_pullNow_13 ⟨Nat.zero_le _, Nat.zero_le _⟩ (fun r2_ er2_ => ?_)
  obtain rfl : r2_ = P p 7 := er2_
  refine callRi (As := [.int (nI p), .int (P p 6), .int (P p 7)]) ⟨hx, hb, hml, hown, hts⟩ (mX6_pullAt l T D a qs fs t P hf p hp (P p 6) (P p 7) hk (kOk_d hk)) (cwV 3 hts gX6_pullNow_X6_pullAt rfl rfl rfl pdX6_pullAt ⟨Nat.le_of_ble_eq_true rfl, Nat.le_of_ble_eq_true rfl⟩) hP hK xN_bl (fun U _ hW => XN_warm hW hX) (ci := 6) rfl rfl rfl hl.1 rfl rfl (Nat.le_of_ble_eq_true rfl) dX6_pullNow_16 ⟨Nat.zero_le _, Nat.zero_le _⟩ (fun r3_ er3_ => ?_)
  obtain rfl : r3_ = kPullAt (P p) (P p 6) (P p 7) := er3_
  exact hret _ _ _ dX6_pullNow_19 rfl

def rmX6_why : Room := { frames := 6, cells := 0, slots := 0, locals := 136 }
set_option maxHeartbeats 4000000 in
set_option maxRecDepth 100000 in
theorem mX6_why (l : Launch) (T : Nat → ClassId) (D : va_G) (a qs : Nat) (fs : List Value) (t : Nat → Int32) (P : Nat → Nat → Int32) (hf : fs[0]? = some (.ref qs)) (p : Nat) (hp : p < 4) (hk : kOk (P p)) : RdI l yX6_why wsX6_why rmX6_why T xN D [.ref a, .int (nI p)] [(a, .inr (6, fs)), (qs, .inl (T 0, 43, .inl (mS t P)))] (fun r => r = kWhy (P p)) := by
  refine met_ri (cc := cX6_why) (maxL := 4) (by decide) rfl (Nat.le_of_ble_eq_true rfl) ?_
  intro p_ e s m args below meth c H ls Q hx hb hts hown hml hX hH hP hK hl hret
  have hl : lv_has ls 4 [(0, .ref a), (1, .int (nI p))] := hl
  refine lv_aload_n hx hb dX6_why_0 rfl (lv_at hl 0 rfl) ?_
  refine lv_iload_n hx hb dX6_why_1 rfl (lv_at hl 1 rfl) ?_
  refine callRi (As := [.int (nI p)]) ⟨hx, hb, hml, hown, hts⟩ (mX6_net l T D a qs fs t P hf p hp hk) (cwV 1 hts gX6_why_X6_net rfl rfl rfl pdX6_net ⟨Nat.le_of_ble_eq_true rfl, Nat.le_of_ble_eq_true rfl⟩) hP hK xN_bl (fun U _ hW => XN_warm hW hX) (ci := 6) rfl rfl rfl hl.1 rfl rfl (Nat.le_of_ble_eq_true rfl) dX6_why_2 ⟨Nat.zero_le _, Nat.zero_le _⟩ (fun r1_ er1_ => ?_)
  obtain rfl : r1_ = kNet (P p) := er1_
  refine lv_topi (fun x1_ ex1_ => ?_)
  refine lv_istore_n (lv' := [(2, .int x1_), (0, .ref a), (1, .int (nI p))]) hx hb dX6_why_5 rfl hl (by decide) rfl (fun ls hl => ?_)
  refine lv_aload_n hx hb dX6_why_6 rfl (lv_at hl 1 rfl) ?_
  refine lv_iload_n hx hb dX6_why_7 rfl (lv_at hl 2 rfl) ?_
  refine lv_aload_n hx hb dX6_why_8 rfl (lv_at hl 1 rfl) ?_
  refine lv_iload_n hx hb dX6_why_9 rfl (lv_at hl 2 rfl) ?_
  refine lv_bipush (v := nI 6) hx hb dX6_why_10 (by decide) ?_
  refine callRi (As := [.int (nI p), .int (nI 6)]) ⟨hx, hb, hml, hown, hts⟩ (mX6_of l T D a qs fs t P hf p hp 6 (by decide)) (cwV 2 hts gX6_why_X6_of rfl rfl rfl pdX6_of ⟨Nat.le_of_ble_eq_true rfl, Nat.le_of_ble_eq_true rfl⟩) hP hK xN_bl (fun U _ hW => XN_warm hW hX) (ci := 6) rfl rfl rfl hl.1 rfl rfl (Nat.le_of_ble_eq_true rfl) dX6_why_12 ⟨Nat.zero_le _, Nat.zero_le _⟩ (fun r2_ er2_ => ?_)
  obtain rfl : r2_ = P p 6 := er2_
  refine lv_iload_n hx hb dX6_why_15 rfl (lv_at hl 0 rfl) ?_
  refine callRi (As := [.int (nI p), .int (P p 6), .int x1_]) ⟨hx, hb, hml, hown, hts⟩ (mX6_move l T D a qs fs t P hf p hp (P p 6) x1_) (cwV 3 hts gX6_why_X6_move rfl rfl rfl pdX6_move ⟨Nat.le_of_ble_eq_true rfl, Nat.le_of_ble_eq_true rfl⟩) hP hK xN_bl (fun U _ hW => XN_warm hW hX) (ci := 6) rfl rfl rfl hl.1 rfl rfl (Nat.le_of_ble_eq_true rfl) dX6_why_16 ⟨Nat.zero_le _, Nat.zero_le _⟩ (fun r3_ er3_ => ?_)
  obtain rfl : r3_ = kMove (P p) (P p 6) x1_ := er3_
  refine lv_topi (fun x2_ ex2_ => ?_)
  refine lv_istore_n (lv' := [(3, .int x2_), (2, .int x1_), (0, .ref a), (1, .int (nI p))]) hx hb dX6_why_19 rfl hl (by decide) rfl (fun ls hl => ?_)
  refine lv_iload_n hx hb dX6_why_20 rfl (lv_at hl 0 rfl) ?_
  refine lv_if_le (tgt := 28) hx hb dX6_why_21 (by decide) (fun c21 => ?_) (fun c21 => ?_)
  · skip
    refine lv_iload_n hx hb dX6_why_28 rfl (lv_at hl 0 rfl) ?_
    refine lv_if_ge (tgt := 36) hx hb dX6_why_29 (by decide) (fun c29 => ?_) (fun c29 => ?_)
    · skip
      refine lv_iload_n hx hb dX6_why_36 rfl (lv_at hl 1 rfl) ?_
      refine lv_if_ne (tgt := 44) hx hb dX6_why_37 (by decide) (fun c37 => ?_) (fun c37 => ?_)
      · skip
        refine lv_iload_n hx hb dX6_why_44 rfl (lv_at hl 1 rfl) ?_
        refine callSi (As := [.int x1_]) ⟨hx, hb, hml, hown, hts⟩ (mX6_size l T D x1_) (va_cwS 1 hts gX6_why_X6_size rfl rfl rfl (pdX6_size).2 ⟨Nat.le_of_ble_eq_true rfl, Nat.le_of_ble_eq_true rfl⟩) wP_nil hK xN_bl (fun U _ hW => XN_warm hW hX) hl.1 rfl rfl (Nat.le_of_ble_eq_true rfl) dX6_why_45 ⟨Nat.zero_le _, Nat.zero_le _⟩ (fun r4_ er4_ => ?_)
        obtain rfl : r4_ = kSize x1_ := er4_
        refine lv_aload_n hx hb dX6_why_48 rfl (lv_at hl 2 rfl) ?_
        refine lv_iload_n hx hb dX6_why_49 rfl (lv_at hl 3 rfl) ?_
        refine lv_iconst (v := nI 4) hx hb dX6_why_50 (by decide) ?_
        refine callRi (As := [.int (nI p), .int (nI 4)]) ⟨hx, hb, hml, hown, hts⟩ (mX6_of l T D a qs fs t P hf p hp 4 (by decide)) (cwV 2 hts gX6_why_X6_of rfl rfl rfl pdX6_of ⟨Nat.le_of_ble_eq_true rfl, Nat.le_of_ble_eq_true rfl⟩) hP hK xN_bl (fun U _ hW => XN_warm hW hX) (ci := 6) rfl rfl rfl hl.1 rfl rfl (Nat.le_of_ble_eq_true rfl) dX6_why_51 ⟨Nat.zero_le _, Nat.zero_le _⟩ (fun r5_ er5_ => ?_)
        obtain rfl : r5_ = P p 4 := er5_
        refine lv_icmp_gt (tgt := 61) hx hb dX6_why_54 (by decide) (fun c54 => ?_) (fun c54 => ?_)
        · skip
          refine lv_iconst (v := 4) hx hb dX6_why_61 (by decide) ?_
          exact hret _ _ _ dX6_why_62 (by rw [kWhy, ← ex1_, ← ex2_, if_neg (Int32.not_lt.mpr c21), if_neg (Int32.not_lt.mpr c29), if_neg c37, if_neg (Int32.not_le.mpr c54)])
        · skip
          refine lv_iconst (v := 3) hx hb dX6_why_57 (by decide) ?_
          refine lv_goto (tgt := 62) hx hb dX6_why_58 (by decide) ?_
          exact hret _ _ _ dX6_why_62 (by rw [kWhy, ← ex1_, ← ex2_, if_neg (Int32.not_lt.mpr c21), if_neg (Int32.not_lt.mpr c29), if_neg c37, if_pos (Int32.not_lt.mp c54)])
      · skip
        refine lv_iconst (v := 2) hx hb dX6_why_40 (by decide) ?_
        refine lv_goto (tgt := 62) hx hb dX6_why_41 (by decide) ?_
        exact hret _ _ _ dX6_why_62 (by rw [kWhy, ← ex1_, ← ex2_, if_neg (Int32.not_lt.mpr c21), if_neg (Int32.not_lt.mpr c29), if_pos c37])
    · skip
      refine lv_iconst (v := 1) hx hb dX6_why_32 (by decide) ?_
      refine lv_goto (tgt := 62) hx hb dX6_why_33 (by decide) ?_
      exact hret _ _ _ dX6_why_62 (by rw [kWhy, ← ex1_, ← ex2_, if_neg (Int32.not_lt.mpr c21), if_pos (Int32.not_le.mp c29)])
  · skip
    refine lv_iconst (v := 0) hx hb dX6_why_24 (by decide) ?_
    refine lv_goto (tgt := 62) hx hb dX6_why_25 (by decide) ?_
    exact hret _ _ _ dX6_why_62 (by rw [kWhy, ← ex1_, ← ex2_, if_pos (Int32.not_le.mp c21)])

