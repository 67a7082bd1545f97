/-- the cells that hold the numbers -/
abbrev moN (T : Nat → ClassId) (a qs qe : Nat) (fs : List Value) (t : Nat → Int32) (P : Nat → Nat → Int32) (E : Nat → Nat → Int64) : va_W := [(a, .inr (6, fs)), (qs, .inl (T 0, 43, .inl (mS t P))), (qe, .inl (T 1, 12, .inr (.inl (mE E))))]
theorem pdX6_charges : yX6_charges.cls = RX6 ∧ yX6_charges.cls ≠ "java/lang/invoke/MethodHandle" ∧ yX6_charges.cls ≠ "java/lang/invoke/VarHandle" ∧ (parseMethodDescriptor yX6_charges.desc).map (fun d => d.parameters.length) = some 1 := by decide +kernel
theorem pdX6_tick : yX6_tick.cls = RX6 ∧ yX6_tick.cls ≠ "java/lang/invoke/MethodHandle" ∧ yX6_tick.cls ≠ "java/lang/invoke/VarHandle" ∧ (parseMethodDescriptor yX6_tick.desc).map (fun d => d.parameters.length) = some 1 := by decide +kernel
theorem pdX6_passes : yX6_passes.cls = RX6 ∧ yX6_passes.cls ≠ "java/lang/invoke/MethodHandle" ∧ yX6_passes.cls ≠ "java/lang/invoke/VarHandle" ∧ (parseMethodDescriptor yX6_passes.desc).map (fun d => d.parameters.length) = some 1 := by decide +kernel
theorem pdX6_turnsOn : yX6_turnsOn.cls = RX6 ∧ yX6_turnsOn.cls ≠ "java/lang/invoke/MethodHandle" ∧ yX6_turnsOn.cls ≠ "java/lang/invoke/VarHandle" ∧ (parseMethodDescriptor yX6_turnsOn.desc).map (fun d => d.parameters.length) = some 2 := by decide +kernel
theorem pdX6_turnsOff : yX6_turnsOff.cls = RX6 ∧ yX6_turnsOff.cls ≠ "java/lang/invoke/MethodHandle" ∧ yX6_turnsOff.cls ≠ "java/lang/invoke/VarHandle" ∧ (parseMethodDescriptor yX6_turnsOff.desc).map (fun d => d.parameters.length) = some 1 := by decide +kernel
theorem pdX6_lays : yX6_lays.cls = RX6 ∧ yX6_lays.cls ≠ "java/lang/invoke/MethodHandle" ∧ yX6_lays.cls ≠ "java/lang/invoke/VarHandle" ∧ (parseMethodDescriptor yX6_lays.desc).map (fun d => d.parameters.length) = some 3 := by decide +kernel
theorem pdX6_couples : yX6_couples.cls = RX6 ∧ yX6_couples.cls ≠ "java/lang/invoke/MethodHandle" ∧ yX6_couples.cls ≠ "java/lang/invoke/VarHandle" ∧ (parseMethodDescriptor yX6_couples.desc).map (fun d => d.parameters.length) = some 2 := by decide +kernel
theorem inwX6_charges_X6 : ∀ w ∈ wsX60, w ∈ wsX6_charges := by decide +kernel
theorem inwX6_tick_X6 : ∀ w ∈ wsX60, w ∈ wsX6_tick := by decide +kernel
theorem inwX6_passes_X6 : ∀ w ∈ wsX60, w ∈ wsX6_passes := by decide +kernel
theorem inwX6_turnsOn_X6 : ∀ w ∈ wsX60, w ∈ wsX6_turnsOn := by decide +kernel
theorem inwX6_turnsOff_X6 : ∀ w ∈ wsX60, w ∈ wsX6_turnsOff := by decide +kernel
theorem inwX6_lays_X6 : ∀ w ∈ wsX60, w ∈ wsX6_lays := by decide +kernel
theorem inwX6_couples_X6 : ∀ w ∈ wsX60, w ∈ wsX6_couples := by decide +kernel
def rmX6_charges : Room := { frames := 4, cells := 0, slots := 0, locals := 86 }
set_option maxHeartbeats 4000000 in
set_option maxRecDepth 100000 in
theorem mX6_charges (l : Launch) (T : Nat → ClassId) (D : va_G) (a qs qe : Nat) (fs : List Value) (t : Nat → Int32) (P : Nat → Nat → Int32) (E : Nat → Nat → Int64) (hf : fs[0]? = some (.ref qs)) (he : fs[1]? = some (.ref qe)) (p : Nat) (hp : p < 4) : MuV l yX6_charges wsX6_charges rmX6_charges T xN D [.ref a, .int (nI p)] [(a, .inr (6, fs)), (qs, .inl (T 0, 43, .inl (mS t P))), (qe, .inl (T 1, 12, .inr (.inl (mE E))))] (S := Unit) (fun _ => True) (fun _ => moN T a qs qe fs t (va_up P p (kHoldP (P p))) (va_up E p (kHoldE (P p) (E p)))) 0 0 := by
  refine met_mv (cc := cX6_charges) (maxL := 3) (by decide) rfl (Nat.le_of_ble_eq_true rfl) ?_
  intro p_ e s m args below meth c ls A Q hx hb hts hown hml hX hP hD hK hS hA hl hin hret
  have hl : lv_has ls 3 [(0, .ref a), (1, .int (nI p))] := hl
  refine lv_aload_n hx hb dX6_charges_0 rfl (lv_at hl 0 rfl) ?_
  refine lv_iload_n hx hb dX6_charges_1 rfl (lv_at hl 1 rfl) ?_
  refine callRi (As := [.int (nI p)]) ⟨hx, hb, hml, hown, hts⟩ (mX6_isOn l T D a qs fs t P hf p hp ) (cwV 1 hts gX6_charges_X6_isOn rfl rfl rfl pdX6_isOn ⟨Nat.le_of_ble_eq_true rfl, Nat.le_of_ble_eq_true rfl⟩) (hP.sub [0, 1] rfl) hK xN_bl (fun U _ hW => XN_warm hW hX) (ci := 6) rfl rfl rfl hl.1 rfl rfl (Nat.le_of_ble_eq_true rfl) dX6_charges_2 ⟨Nat.zero_le _, Nat.zero_le _⟩ (fun r1_ er1_ => ?_)
  obtain rfl : r1_ = bI (P p 9 = 1) := er1_
  refine lv_if_eq (tgt := 70) hx hb dX6_charges_5 (by decide) (fun c5 => ?_) (fun c5 => ?_)
  · skip
    have c5 := bI_0 c5
    exact hret _ _ () _ _ dX6_charges_70 hS (by rw [kHoldP, if_neg c5, kHoldE, if_neg c5, up_id, up_id]; exact hP) (by rw [kHoldP, if_neg c5, kHoldE, if_neg c5, up_id, up_id]; exact hD) trivial
  · skip
    have c5 := bI_n0 c5
    refine lv_aload_n hx hb dX6_charges_8 rfl (lv_at hl 0 rfl) ?_
    refine lv_iload_n hx hb dX6_charges_9 rfl (lv_at hl 1 rfl) ?_
    refine callRi (As := [.int (nI p)]) ⟨hx, hb, hml, hown, hts⟩ (mX6_capacityNow l T D a qs fs t P hf p hp ) (cwV 1 hts gX6_charges_X6_capacityNow rfl rfl rfl pdX6_capacityNow ⟨Nat.le_of_ble_eq_true rfl, Nat.le_of_ble_eq_true rfl⟩) (hP.sub [0, 1] rfl) hK xN_bl (fun U _ hW => XN_warm hW hX) (ci := 6) rfl rfl rfl hl.1 rfl rfl (Nat.le_of_ble_eq_true rfl) dX6_charges_10 ⟨Nat.zero_le _, Nat.zero_le _⟩ (fun r2_ er2_ => ?_)
    obtain rfl : r2_ = kCap (P p) (P p 6) := er2_
    refine lv_aload_n hx hb dX6_charges_13 rfl (lv_at hl 0 rfl) ?_
    refine lv_iload_n hx hb dX6_charges_14 rfl (lv_at hl 1 rfl) ?_
    refine lv_bipush (v := nI 8) hx hb dX6_charges_15 (by decide) ?_
    refine callRi (As := [.int (nI p), .int (nI 8)]) ⟨hx, hb, hml, hown, hts⟩ (mX6_of l T D a qs fs t P hf p hp 8 (by decide)) (cwV 2 hts gX6_charges_X6_of rfl rfl rfl pdX6_of ⟨Nat.le_of_ble_eq_true rfl, Nat.le_of_ble_eq_true rfl⟩) (hP.sub [0, 1] rfl) hK xN_bl (fun U _ hW => XN_warm hW hX) (ci := 6) rfl rfl rfl hl.1 rfl rfl (Nat.le_of_ble_eq_true rfl) dX6_charges_17 ⟨Nat.zero_le _, Nat.zero_le _⟩ (fun r3_ er3_ => ?_)
    obtain rfl : r3_ = P p 8 := er3_
    refine lv_imul hx hb dX6_charges_20 ?_
    refine lv_topi (fun x1_ ex1_ => ?_)
    refine lv_istore_n (lv' := [(2, .int x1_), (0, .ref a), (1, .int (nI p))]) hx hb dX6_charges_21 rfl hl (by decide) rfl (fun ls hl => ?_)
    refine lv_aload_n hx hb dX6_charges_22 rfl (lv_at hl 1 rfl) ?_
    refine va_get (D := D) (ci := 6) (v := .ref qe) (C := RX6) (T := TX6) (N := 22) hx hb hts inwX6_charges_X6 hown hK hP 0 rfl rfl 1 (by decide) (hts (.fieldLink RX6 13 "PlateSlabsModel" "e" "[J") (List.mem_of_getElem? (i := 1) rfl)) (fun _ h9 => h9) he dX6_charges_23 ?_
    refine lv_iconst (v := nI 3) hx hb dX6_charges_26 (by decide) ?_
    refine lv_iload_n hx hb dX6_charges_27 rfl (lv_at hl 2 rfl) ?_
    refine lv_imul hx hb dX6_charges_28 ?_
    refine lv_iconst (v := nI 0) hx hb dX6_charges_29 (by decide) ?_
    refine lv_iadd hx hb dX6_charges_30 ?_
    refine lv_tpi (z := nI (3 * p + 0)) (by rw [pk_mul, nI_add]) ?_
    refine lv_dup2_11 hx hb dX6_charges_31 rfl rfl ?_
    refine va_lald hx hb hK hP 2 1 rfl rfl (vp_in_nI (by omega) (by decide)) dX6_charges_32 ?_
    refine lv_tpl (congrArg (fun z => (mE E) z) (nI_clamp (by omega))) ?_
    refine lv_tpl (z := E p 0) (mE_at E (by decide)) ?_
    refine lv_ldc2 (v := 2) hx hb hown (hts (.constantLong RX6 88 (2)) (List.mem_of_getElem? (i := 2) rfl)) dX6_charges_33 ?_
    refine lv_aload_n hx hb dX6_charges_36 rfl (lv_at hl 1 rfl) ?_
    refine lv_iload_n hx hb dX6_charges_37 rfl (lv_at hl 2 rfl) ?_
    refine lv_bipush (v := nI 8) hx hb dX6_charges_38 (by decide) ?_
    refine callRi (As := [.int (nI p), .int (nI 8)]) ⟨hx, hb, hml, hown, hts⟩ (mX6_of l T D a qs fs t P hf p hp 8 (by decide)) (cwV 2 hts gX6_charges_X6_of rfl rfl rfl pdX6_of ⟨Nat.le_of_ble_eq_true rfl, Nat.le_of_ble_eq_true rfl⟩) (hP.sub [0, 1] rfl) hK xN_bl (fun U _ hW => XN_warm hW hX) (ci := 6) rfl rfl rfl hl.1 rfl rfl (Nat.le_of_ble_eq_true rfl) dX6_charges_40 ⟨Nat.zero_le _, Nat.zero_le _⟩ (fun r4_ er4_ => ?_)
    obtain rfl : r4_ = P p 8 := er4_
    refine lv_i2l hx hb dX6_charges_43 rfl ?_
    refine lv_lmul hx hb dX6_charges_44 ?_
    refine lv_iload_n hx hb dX6_charges_45 rfl (lv_at hl 0 rfl) ?_
    refine lv_aload_n hx hb dX6_charges_46 rfl (lv_at hl 1 rfl) ?_
    refine lv_iload_n hx hb dX6_charges_47 rfl (lv_at hl 2 rfl) ?_
    refine lv_bipush (v := nI 7) hx hb dX6_charges_48 (by decide) ?_
    refine callRi (As := [.int (nI p), .int (nI 7)]) ⟨hx, hb, hml, hown, hts⟩ (mX6_of l T D a qs fs t P hf p hp 7 (by decide)) (cwV 2 hts gX6_charges_X6_of rfl rfl rfl pdX6_of ⟨Nat.le_of_ble_eq_true rfl, Nat.le_of_ble_eq_true rfl⟩) (hP.sub [0, 1] rfl) hK xN_bl (fun U _ hW => XN_warm hW hX) (ci := 6) rfl rfl rfl hl.1 rfl rfl (Nat.le_of_ble_eq_true rfl) dX6_charges_50 ⟨Nat.zero_le _, Nat.zero_le _⟩ (fun r5_ er5_ => ?_)
    obtain rfl : r5_ = P p 7 := er5_
    refine lv_isub hx hb dX6_charges_53 ?_
    refine lv_i2l hx hb dX6_charges_54 rfl ?_
    refine lv_lmul hx hb dX6_charges_55 ?_
    refine lv_ladd hx hb dX6_charges_56 ?_
    refine va_last hx hb hK hP hD hS 2 1 rfl rfl (vp_in_nI (by omega) (by decide)) dX6_charges_57 (fun H locs hP hD hS => ?_)
    rw [nI_clamp (show 3 * p + 0 < 2 ^ 31 by omega)] at hP hD
    have hP : va_P D vwCl [(a, .inr (6, fs)), (qs, .inl (T 0, 43, .inl (mS t P))), (qe, .inl (T 1, 12, .inr (.inl (vp_updL (mE E) (3 * p + 0) ((E p 0) + ((2 * (Int32.toInt64 (P p 8))) * (Int32.toInt64 (x1_ - (P p 7)))))))))] H := hP
    have hD : va_D A [(a, .inr (6, fs)), (qs, .inl (T 0, 43, .inl (mS t P))), (qe, .inl (T 1, 12, .inr (.inl (vp_updL (mE E) (3 * p + 0) ((E p 0) + ((2 * (Int32.toInt64 (P p 8))) * (Int32.toInt64 (x1_ - (P p 7)))))))))] := hD
    rw [mE_up E (by decide)] at hP hD
    obtain ⟨E1, eE1⟩ : ∃ z, z = va_up E p (vp_updL (E p) 0 (E p 0 + 2 * (P p 8).toInt64 * (x1_ - P p 7).toInt64)) := ⟨_, rfl⟩
    rw [← eE1] at hP hD
    have hP : va_P D vwCl [(a, .inr (6, fs)), (qs, .inl (T 0, 43, .inl (mS t P))), (qe, .inl (T 1, 12, .inr (.inl (mE E1))))] H := hP
    have hD : va_D A [(a, .inr (6, fs)), (qs, .inl (T 0, 43, .inl (mS t P))), (qe, .inl (T 1, 12, .inr (.inl (mE E1))))] := hD
    refine lv_aload_n hx hb dX6_charges_58 rfl (lv_at hl 1 rfl) ?_
    refine va_get (D := D) (ci := 6) (v := .ref qs) (C := RX6) (T := TX6) (N := 22) hx hb hts inwX6_charges_X6 hown hK hP 0 rfl rfl 0 (by decide) (hts (.fieldLink RX6 7 "PlateSlabsModel" "s" "[I") (List.mem_of_getElem? (i := 3) rfl)) (fun _ h9 => h9) hf dX6_charges_59 ?_
    refine lv_iload_n hx hb dX6_charges_62 rfl (lv_at hl 2 rfl) ?_
    refine lv_bipush (v := nI 7) hx hb dX6_charges_63 (by decide) ?_
    refine callSi (As := [.int (nI p), .int (nI 7)]) ⟨hx, hb, hml, hown, hts⟩ (mX6_at l T D p 7) (va_cwS 2 hts gX6_charges_X6_at rfl rfl rfl (pdX6_at).2 ⟨Nat.le_of_ble_eq_true rfl, Nat.le_of_ble_eq_true rfl⟩) wP_nil hK xN_bl (fun U _ hW => XN_warm hW hX) hl.1 rfl rfl (Nat.le_of_ble_eq_true rfl) dX6_charges_65 ⟨Nat.zero_le _, Nat.zero_le _⟩ (fun r6_ er6_ => ?_)
    obtain rfl : r6_ = nI (3 + 10 * p + 7) := er6_
    refine lv_iload_n hx hb dX6_charges_68 rfl (lv_at hl 0 rfl) ?_
    refine va_iast hx hb hK hP hD hS 1 0 rfl rfl (vp_in_nI (by omega) (by decide)) dX6_charges_69 (fun H locs hP hD hS => ?_)
    rw [nI_clamp (show 3 + 10 * p + 7 < 2 ^ 31 by omega)] at hP hD
    have hP : va_P D vwCl [(a, .inr (6, fs)), (qs, .inl (T 0, 43, .inl (upd (mS t P) (3 + 10 * p + 7) x1_))), (qe, .inl (T 1, 12, .inr (.inl (mE E1))))] H := hP
    have hD : va_D A [(a, .inr (6, fs)), (qs, .inl (T 0, 43, .inl (upd (mS t P) (3 + 10 * p + 7) x1_))), (qe, .inl (T 1, 12, .inr (.inl (mE E1))))] := hD
    rw [mS_up t P (by decide)] at hP hD
    obtain ⟨P1, eP1⟩ : ∃ z, z = va_up P p (upd (P p) 7 x1_) := ⟨_, rfl⟩
    rw [← eP1] at hP hD
    have hP : va_P D vwCl [(a, .inr (6, fs)), (qs, .inl (T 0, 43, .inl (mS t P1))), (qe, .inl (T 1, 12, .inr (.inl (mE E1))))] H := hP
    have hD : va_D A [(a, .inr (6, fs)), (qs, .inl (T 0, 43, .inl (mS t P1))), (qe, .inl (T 1, 12, .inr (.inl (mE E1))))] := hD
    have eF : kHoldP (P p) = upd (P p) 7 x1_ := by rw [kHoldP, if_pos c5, ex1_]
    have eG : kHoldE (P p) (E p) = vp_updL (E p) 0 (E p 0 + 2 * (P p 8).toInt64 * (x1_ - P p 7).toInt64) := by rw [kHoldE, if_pos c5, ex1_]
    exact hret _ _ () _ _ dX6_charges_70 hS (by rw [eF, eG, ← eP1, ← eE1]; exact hP) (by rw [eF, eG, ← eP1, ← eE1]; exact hD) trivial

def rmX6_tick : Room := { frames := 6, cells := 0, slots := 0, locals := 136 }
set_option maxHeartbeats 4000000 in
set_option maxRecDepth 100000 in
theorem mX6_tick (l : Launch) (T : Nat → ClassId) (D : va_G) (a qs qe : Nat) (fs : List Value) (t : Nat → Int32) (P : Nat → Nat → Int32) (E : Nat → Nat → Int64) (hf : fs[0]? = some (.ref qs)) (he : fs[1]? = some (.ref qe)) (hk : ∀ p, p < 4 → kOk (P p)) (p : Nat) (hp : p < 4) : MuI l yX6_tick wsX6_tick rmX6_tick T xN D [.ref a, .int (nI p)] [(a, .inr (6, fs)), (qs, .inl (T 0, 43, .inl (mS t P))), (qe, .inl (T 1, 12, .inr (.inl (mE E))))] (S := Unit) (fun r _ => r = kMoved (P p)) (fun _ => moN T a qs qe fs (upd t 2 (t 2 + kMoved (P p))) (va_up P p (kTickP (P p))) (va_up E p (kTickE (P p) (E p)))) 0 0 := by
  refine met_mi (cc := cX6_tick) (maxL := 4) (by decide) rfl (Nat.le_of_ble_eq_true rfl) ?_
  intro p_ e s m args below meth c ls A Q hx hb hts hown hml hX hP hD hK hS hA hl hret
  have hl : lv_has ls 4 [(0, .ref a), (1, .int (nI p))] := hl
  refine lv_aload_n hx hb dX6_tick_0 rfl (lv_at hl 0 rfl) ?_
  refine lv_iload_n hx hb dX6_tick_1 rfl (lv_at hl 1 rfl) ?_
  refine callRi (As := [.int (nI p)]) ⟨hx, hb, hml, hown, hts⟩ (mX6_isOn l T D a qs fs t P hf p hp ) (cwV 1 hts gX6_tick_X6_isOn rfl rfl rfl pdX6_isOn ⟨Nat.le_of_ble_eq_true rfl, Nat.le_of_ble_eq_true rfl⟩) (hP.sub [0, 1] rfl) hK xN_bl (fun U _ hW => XN_warm hW hX) (ci := 6) rfl rfl rfl hl.1 rfl rfl (Nat.le_of_ble_eq_true rfl) dX6_tick_2 ⟨Nat.zero_le _, Nat.zero_le _⟩ (fun r1_ er1_ => ?_)
  obtain rfl : r1_ = bI (P p 9 = 1) := er1_
  have hJ60 : ∀  (ls : Array Slot) (H : Heap) (locs : List Loc), va_P D vwCl [(a, .inr (6, fs)), (qs, .inl (T 0, 43, .inl (mS t (va_up P p (kLeakP (P p)))))), (qe, .inl (T 1, 12, .inr (.inl (mE (va_up E p (kLeakE (P p) (E p)))))))] H → va_D A [(a, .inr (6, fs)), (qs, .inl (T 0, 43, .inl (mS t (va_up P p (kLeakP (P p)))))), (qe, .inl (T 1, 12, .inr (.inl (mE (va_up E p (kLeakE (P p) (E p)))))))] → va_S A s.heap H locs → lv_has ls 4 [(0, .ref a), (1, .int (nI p))] → W p_ l e rmX6_tick s m args below meth c H locs 0 0 Q (F0 m 60 ls []) := by
    intro ls H locs hP hD hS hl
    obtain ⟨P1, eP1⟩ : ∃ z, z = va_up P p (kLeakP (P p)) := ⟨_, rfl⟩
    obtain ⟨E1, eE1⟩ : ∃ z, z = va_up E p (kLeakE (P p) (E p)) := ⟨_, rfl⟩
    rw [← eP1, ← eE1] at hP hD
    have hk1 : ∀ q, q < 4 → kOk (P1 q) := by rw [eP1]; exact kOk_up hk (kOk_leak (hk p hp))
    have f1 : P1 p = kLeakP (P p) := by rw [eP1, up_0]
    have g1 : E1 p = kLeakE (P p) (E p) := by rw [eE1, up_0]
    refine lv_aload_n hx hb dX6_tick_60 rfl (lv_at hl 0 rfl) ?_
    refine lv_iload_n hx hb dX6_tick_61 rfl (lv_at hl 1 rfl) ?_
    refine lv_aload_n hx hb dX6_tick_62 rfl (lv_at hl 0 rfl) ?_
    refine lv_iload_n hx hb dX6_tick_63 rfl (lv_at hl 1 rfl) ?_
    refine lv_bipush (v := nI 6) hx hb dX6_tick_64 (by decide) ?_
    refine callRi (As := [.int (nI p), .int (nI 6)]) ⟨hx, hb, hml, hown, hts⟩ (mX6_of l T D a qs fs t P1 hf p hp 6 (by decide)) (cwV 2 hts gX6_tick_X6_of rfl rfl rfl pdX6_of ⟨Nat.le_of_ble_eq_true rfl, Nat.le_of_ble_eq_true rfl⟩) (hP.sub [0, 1] rfl) hK xN_bl (fun U _ hW => XN_warm hW hX) (ci := 6) rfl rfl rfl hl.1 rfl rfl (Nat.le_of_ble_eq_true rfl) dX6_tick_66 ⟨Nat.zero_le _, Nat.zero_le _⟩ (fun r2_ er2_ => ?_)
    obtain rfl : r2_ = P1 p 6 := er2_
    refine lv_aload_n hx hb dX6_tick_69 rfl (lv_at hl 0 rfl) ?_
    refine lv_iload_n hx hb dX6_tick_70 rfl (lv_at hl 1 rfl) ?_
    refine callRi (As := [.int (nI p)]) ⟨hx, hb, hml, hown, hts⟩ (mX6_net l T D a qs fs t P1 hf p hp (hk1 p hp)) (cwV 1 hts gX6_tick_X6_net rfl rfl rfl pdX6_net ⟨Nat.le_of_ble_eq_true rfl, Nat.le_of_ble_eq_true rfl⟩) (hP.sub [0, 1] rfl) hK xN_bl (fun U _ hW => XN_warm hW hX) (ci := 6) rfl rfl rfl hl.1 rfl rfl (Nat.le_of_ble_eq_true rfl) dX6_tick_71 ⟨Nat.zero_le _, Nat.zero_le _⟩ (fun r3_ er3_ => ?_)
    obtain rfl : r3_ = kNet (P1 p) := er3_
    refine callRi (As := [.int (nI p), .int (P1 p 6), .int (kNet (P1 p))]) ⟨hx, hb, hml, hown, hts⟩ (mX6_move l T D a qs fs t P1 hf p hp (P1 p 6) (kNet (P1 p))) (cwV 3 hts gX6_tick_X6_move rfl rfl rfl pdX6_move ⟨Nat.le_of_ble_eq_true rfl, Nat.le_of_ble_eq_true rfl⟩) (hP.sub [0, 1] rfl) hK xN_bl (fun U _ hW => XN_warm hW hX) (ci := 6) rfl rfl rfl hl.1 rfl rfl (Nat.le_of_ble_eq_true rfl) dX6_tick_74 ⟨Nat.zero_le _, Nat.zero_le _⟩ (fun r4_ er4_ => ?_)
    obtain rfl : r4_ = kMove (P1 p) (P1 p 6) (kNet (P1 p)) := er4_
    refine lv_topi (fun x2_ ex2_ => ?_)
    refine lv_istore_n (lv' := [(2, .int x2_), (0, .ref a), (1, .int (nI p))]) hx hb dX6_tick_77 rfl hl (by decide) rfl (fun ls hl => ?_)
    refine lv_aload_n hx hb dX6_tick_78 rfl (lv_at hl 1 rfl) ?_
    refine va_get (D := D) (ci := 6) (v := .ref qs) (C := RX6) (T := TX6) (N := 22) hx hb hts inwX6_tick_X6 hown hK hP 0 rfl rfl 0 (by decide) (hts (.fieldLink RX6 7 "PlateSlabsModel" "s" "[I") (List.mem_of_getElem? (i := 1) rfl)) (fun _ h9 => h9) hf dX6_tick_79 ?_
    refine lv_iload_n hx hb dX6_tick_82 rfl (lv_at hl 2 rfl) ?_
    refine lv_bipush (v := nI 6) hx hb dX6_tick_83 (by decide) ?_
    refine callSi (As := [.int (nI p), .int (nI 6)]) ⟨hx, hb, hml, hown, hts⟩ (mX6_at l T D p 6) (va_cwS 2 hts gX6_tick_X6_at rfl rfl rfl (pdX6_at).2 ⟨Nat.le_of_ble_eq_true rfl, Nat.le_of_ble_eq_true rfl⟩) wP_nil hK xN_bl (fun U _ hW => XN_warm hW hX) hl.1 rfl rfl (Nat.le_of_ble_eq_true rfl) dX6_tick_85 ⟨Nat.zero_le _, Nat.zero_le _⟩ (fun r5_ er5_ => ?_)
    obtain rfl : r5_ = nI (3 + 10 * p + 6) := er5_
    refine lv_dup2_11 hx hb dX6_tick_88 rfl rfl ?_
    refine va_iald hx hb hK hP 1 0 rfl rfl (vp_in_nI (by omega) (by decide)) dX6_tick_89 ?_
    refine lv_tpi (congrArg (fun z => (mS t P1) z) (nI_clamp (by omega))) ?_
    refine lv_tpi (z := P1 p 6) (mS_at t P1 (by decide)) ?_
    refine lv_iload_n hx hb dX6_tick_90 rfl (lv_at hl 0 rfl) ?_
    refine lv_iadd hx hb dX6_tick_91 ?_
    refine va_iast hx hb hK hP hD hS 1 0 rfl rfl (vp_in_nI (by omega) (by decide)) dX6_tick_92 (fun H locs hP hD hS => ?_)
    rw [nI_clamp (show 3 + 10 * p + 6 < 2 ^ 31 by omega)] at hP hD
    have hP : va_P D vwCl [(a, .inr (6, fs)), (qs, .inl (T 0, 43, .inl (upd (mS t P1) (3 + 10 * p + 6) ((P1 p 6) + x2_)))), (qe, .inl (T 1, 12, .inr (.inl (mE E1))))] H := hP
    have hD : va_D A [(a, .inr (6, fs)), (qs, .inl (T 0, 43, .inl (upd (mS t P1) (3 + 10 * p + 6) ((P1 p 6) + x2_)))), (qe, .inl (T 1, 12, .inr (.inl (mE E1))))] := hD
    rw [mS_up t P1 (by decide)] at hP hD
    obtain ⟨P2, eP2⟩ : ∃ z, z = va_up P1 p (upd (P1 p) 6 (P1 p 6 + x2_)) := ⟨_, rfl⟩
    rw [← eP2] at hP hD
    have hP : va_P D vwCl [(a, .inr (6, fs)), (qs, .inl (T 0, 43, .inl (mS t P2))), (qe, .inl (T 1, 12, .inr (.inl (mE E1))))] H := hP
    have hD : va_D A [(a, .inr (6, fs)), (qs, .inl (T 0, 43, .inl (mS t P2))), (qe, .inl (T 1, 12, .inr (.inl (mE E1))))] := hD
    have f2 : P2 p = kStepP (P1 p) := by rw [eP2, up_0, ex2_]; rfl
    have hk2 : ∀ q, q < 4 → kOk (P2 q) := by rw [eP2, ex2_]; exact kOk_up hk1 (kOk_step (hk1 p hp))
    refine lv_aload_n hx hb dX6_tick_93 rfl (lv_at hl 1 rfl) ?_
    refine va_get (D := D) (ci := 6) (v := .ref qs) (C := RX6) (T := TX6) (N := 22) hx hb hts inwX6_tick_X6 hown hK hP 0 rfl rfl 0 (by decide) (hts (.fieldLink RX6 7 "PlateSlabsModel" "s" "[I") (List.mem_of_getElem? (i := 1) rfl)) (fun _ h9 => h9) hf dX6_tick_94 ?_
    refine lv_iconst (v := 2) hx hb dX6_tick_97 (by decide) ?_
    refine lv_dup2_11 hx hb dX6_tick_98 rfl rfl ?_
    refine va_iald hx hb hK hP 1 0 rfl rfl (in_lit (by decide)) dX6_tick_99 ?_
    refine lv_tpi (congrArg (fun z => (mS t P2) z) (cl_2)) ?_
    refine lv_tpi (z := t 2) (mS_t t P2 (by decide)) ?_
    refine lv_iload_n hx hb dX6_tick_100 rfl (lv_at hl 0 rfl) ?_
    refine callSi (As := [.int x2_]) ⟨hx, hb, hml, hown, hts⟩ (mX6_size l T D x2_) (va_cwS 1 hts gX6_tick_X6_size rfl rfl rfl (pdX6_size).2 ⟨Nat.le_of_ble_eq_true rfl, Nat.le_of_ble_eq_true rfl⟩) wP_nil hK xN_bl (fun U _ hW => XN_warm hW hX) hl.1 rfl rfl (Nat.le_of_ble_eq_true rfl) dX6_tick_101 ⟨Nat.zero_le _, Nat.zero_le _⟩ (fun r6_ er6_ => ?_)
    obtain rfl : r6_ = kSize x2_ := er6_
    refine lv_iadd hx hb dX6_tick_104 ?_
    refine va_iast hx hb hK hP hD hS 1 0 rfl rfl (in_lit (by decide)) dX6_tick_105 (fun H locs hP hD hS => ?_)
    rw [cl_2] at hP hD
    have hP : va_P D vwCl [(a, .inr (6, fs)), (qs, .inl (T 0, 43, .inl (upd (mS t P2) 2 ((t 2) + (kSize x2_))))), (qe, .inl (T 1, 12, .inr (.inl (mE E1))))] H := hP
    have hD : va_D A [(a, .inr (6, fs)), (qs, .inl (T 0, 43, .inl (upd (mS t P2) 2 ((t 2) + (kSize x2_))))), (qe, .inl (T 1, 12, .inr (.inl (mE E1))))] := hD
    rw [mS_upt t P2 (by decide)] at hP hD
    obtain ⟨t1, et1⟩ : ∃ z, z = upd t 2 (t 2 + kSize x2_) := ⟨_, rfl⟩
    rw [← et1] at hP hD
    have hP : va_P D vwCl [(a, .inr (6, fs)), (qs, .inl (T 0, 43, .inl (mS t1 P2))), (qe, .inl (T 1, 12, .inr (.inl (mE E1))))] H := hP
    have hD : va_D A [(a, .inr (6, fs)), (qs, .inl (T 0, 43, .inl (mS t1 P2))), (qe, .inl (T 1, 12, .inr (.inl (mE E1))))] := hD
    refine lv_aload_n hx hb dX6_tick_106 rfl (lv_at hl 1 rfl) ?_
    refine lv_iload_n hx hb dX6_tick_107 rfl (lv_at hl 2 rfl) ?_
    skip
    refine callMv (As := [.int (nI p)]) (wr := []) ⟨hx, hb, hml, hown, hts⟩ (mX6_charges l T D a qs qe fs t1 P2 E1 hf he p hp) (cwV 1 hts gX6_tick_X6_charges rfl rfl rfl pdX6_charges ⟨Nat.le_of_ble_eq_true rfl, Nat.le_of_ble_eq_true rfl⟩) hP hD hK hS hA xN_bl (fun U _ hW => XN_warm hW hX) (ci := 6) rfl rfl rfl hl.1 rfl rfl (Nat.le_of_ble_eq_true rfl) dX6_tick_108 ⟨Nat.zero_le _, Nat.zero_le _⟩ (fun u8_ H locs eu8_ hP hD hS hkf => ?_)
    obtain ⟨P3, eP3⟩ : ∃ z : Nat → Nat → Int32, z = va_up P2 p (kHoldP (P2 p)) := ⟨_, rfl⟩
    obtain ⟨E3, eE3⟩ : ∃ z : Nat → Nat → Int64, z = va_up E1 p (kHoldE (P2 p) (E1 p)) := ⟨_, rfl⟩
    rw [← eP3, ← eE3] at hP hD
    have hP : va_P D vwCl [(a, .inr (6, fs)), (qs, .inl (T 0, 43, .inl (mS t1 P3))), (qe, .inl (T 1, 12, .inr (.inl (mE E3))))] H := hP
    have hD : va_D A [(a, .inr (6, fs)), (qs, .inl (T 0, 43, .inl (mS t1 P3))), (qe, .inl (T 1, 12, .inr (.inl (mE E3))))] := hD
    refine lv_iload_n hx hb dX6_tick_111 rfl (lv_at hl 0 rfl) ?_
    refine callSi (As := [.int x2_]) ⟨hx, hb, hml, hown, hts⟩ (mX6_size l T D x2_) (va_cwS 1 hts gX6_tick_X6_size rfl rfl rfl (pdX6_size).2 ⟨Nat.le_of_ble_eq_true rfl, Nat.le_of_ble_eq_true rfl⟩) wP_nil hK xN_bl (fun U _ hW => XN_warm hW hX) hl.1 rfl rfl (Nat.le_of_ble_eq_true rfl) dX6_tick_112 ⟨Nat.zero_le _, Nat.zero_le _⟩ (fun r9_ er9_ => ?_)
    obtain rfl : r9_ = kSize x2_ := er9_
    have fP : P3 = va_up P p (kTickP (P p)) := by rw [eP3, f2, f1, eP2, up_up, eP1, up_up]; rfl
    have fE : E3 = va_up E p (kTickE (P p) (E p)) := by rw [eE3, f2, f1, g1, eE1, up_up]; rfl
    have fr : kSize x2_ = kMoved (P p) := by rw [ex2_, f1]; rfl
    exact hret _ _ _ () _ _ dX6_tick_115 hS (by rw [← fP, ← fE, ← fr, ← et1]; exact hP) (by rw [← fP, ← fE, ← fr, ← et1]; exact hD) fr
  refine lv_if_ne (tgt := 60) hx hb dX6_tick_5 (by decide) (fun c5 => ?_) (fun c5 => ?_)
  · skip
    have c5 := bI_n0 c5
    exact hJ60 ls _ _ (by rw [kLeakP, if_pos c5, kLeakE, if_pos c5, up_id, up_id]; exact hP) (by rw [kLeakP, if_pos c5, kLeakE, if_pos c5, up_id, up_id]; exact hD) hS (lv_sub hl [0, 1] rfl)
  · skip
    have c5 := bI_0 c5
    refine lv_aload_n hx hb dX6_tick_8 rfl (lv_at hl 0 rfl) ?_
    refine lv_iload_n hx hb dX6_tick_9 rfl (lv_at hl 1 rfl) ?_
    refine callRl (As := [.int (nI p)]) ⟨hx, hb, hml, hown, hts⟩ (mX6_stored l T D a qs fs t P hf p hp (hk p hp)) (cwV 1 hts gX6_tick_X6_stored rfl rfl rfl pdX6_stored ⟨Nat.le_of_ble_eq_true rfl, Nat.le_of_ble_eq_true rfl⟩) (hP.sub [0, 1] rfl) hK xN_bl (fun U _ hW => XN_warm hW hX) (ci := 6) rfl rfl rfl hl.1 rfl rfl (Nat.le_of_ble_eq_true rfl) dX6_tick_10 ⟨Nat.zero_le _, Nat.zero_le _⟩ (fun r10_ er10_ => ?_)
    obtain rfl : r10_ = kStored (P p) := er10_
    refine lv_topl (fun x1_ ex1_ => ?_)
    refine lv_lstore_n (lv' := [(2, .long x1_), (0, .ref a), (1, .int (nI p))]) hx hb dX6_tick_13 rfl hl (by decide) rfl (fun ls hl => ?_)
    refine lv_aload_n hx hb dX6_tick_14 rfl (lv_at hl 1 rfl) ?_
    refine va_get (D := D) (ci := 6) (v := .ref qs) (C := RX6) (T := TX6) (N := 22) hx hb hts inwX6_tick_X6 hown hK hP 0 rfl rfl 0 (by decide) (hts (.fieldLink RX6 7 "PlateSlabsModel" "s" "[I") (List.mem_of_getElem? (i := 1) rfl)) (fun _ h9 => h9) hf dX6_tick_15 ?_
    refine lv_iload_n hx hb dX6_tick_18 rfl (lv_at hl 2 rfl) ?_
    refine lv_bipush (v := nI 7) hx hb dX6_tick_19 (by decide) ?_
    refine callSi (As := [.int (nI p), .int (nI 7)]) ⟨hx, hb, hml, hown, hts⟩ (mX6_at l T D p 7) (va_cwS 2 hts gX6_tick_X6_at rfl rfl rfl (pdX6_at).2 ⟨Nat.le_of_ble_eq_true rfl, Nat.le_of_ble_eq_true rfl⟩) wP_nil hK xN_bl (fun U _ hW => XN_warm hW hX) hl.1 rfl rfl (Nat.le_of_ble_eq_true rfl) dX6_tick_21 ⟨Nat.zero_le _, Nat.zero_le _⟩ (fun r11_ er11_ => ?_)
    obtain rfl : r11_ = nI (3 + 10 * p + 7) := er11_
    refine lv_dup2_11 hx hb dX6_tick_24 rfl rfl ?_
    refine va_iald hx hb hK hP 1 0 rfl rfl (vp_in_nI (by omega) (by decide)) dX6_tick_25 ?_
    refine lv_tpi (congrArg (fun z => (mS t P) z) (nI_clamp (by omega))) ?_
    refine lv_tpi (z := P p 7) (mS_at t P (by decide)) ?_
    refine lv_aload_n hx hb dX6_tick_26 rfl (lv_at hl 1 rfl) ?_
    refine lv_iload_n hx hb dX6_tick_27 rfl (lv_at hl 2 rfl) ?_
    refine lv_aload_n hx hb dX6_tick_28 rfl (lv_at hl 1 rfl) ?_
    refine lv_iload_n hx hb dX6_tick_29 rfl (lv_at hl 2 rfl) ?_
    refine lv_bipush (v := nI 7) hx hb dX6_tick_30 (by decide) ?_
    refine callRi (As := [.int (nI p), .int (nI 7)]) ⟨hx, hb, hml, hown, hts⟩ (mX6_of l T D a qs fs t P hf p hp 7 (by decide)) (cwV 2 hts gX6_tick_X6_of rfl rfl rfl pdX6_of ⟨Nat.le_of_ble_eq_true rfl, Nat.le_of_ble_eq_true rfl⟩) (hP.sub [0, 1] rfl) hK xN_bl (fun U _ hW => XN_warm hW hX) (ci := 6) rfl rfl rfl hl.1 rfl rfl (Nat.le_of_ble_eq_true rfl) dX6_tick_32 ⟨Nat.zero_le _, Nat.zero_le _⟩ (fun r12_ er12_ => ?_)
    obtain rfl : r12_ = P p 7 := er12_
    refine callRi (As := [.int (nI p), .int (P p 7)]) ⟨hx, hb, hml, hown, hts⟩ (mX6_leak l T D a qs fs t P hf p hp (P p 7)) (cwV 2 hts gX6_tick_X6_leak rfl rfl rfl pdX6_leak ⟨Nat.le_of_ble_eq_true rfl, Nat.le_of_ble_eq_true rfl⟩) (hP.sub [0, 1] rfl) hK xN_bl (fun U _ hW => XN_warm hW hX) (ci := 6) rfl rfl rfl hl.1 rfl rfl (Nat.le_of_ble_eq_true rfl) dX6_tick_35 ⟨Nat.zero_le _, Nat.zero_le _⟩ (fun r13_ er13_ => ?_)
    obtain rfl : r13_ = kLeak (P p) (P p 7) := er13_
    refine lv_isub hx hb dX6_tick_38 ?_
    refine va_iast hx hb hK hP hD hS 1 0 rfl rfl (vp_in_nI (by omega) (by decide)) dX6_tick_39 (fun H locs hP hD hS => ?_)
    rw [nI_clamp (show 3 + 10 * p + 7 < 2 ^ 31 by omega)] at hP hD
    have hP : va_P D vwCl [(a, .inr (6, fs)), (qs, .inl (T 0, 43, .inl (upd (mS t P) (3 + 10 * p + 7) ((P p 7) - (kLeak (P p) (P p 7)))))), (qe, .inl (T 1, 12, .inr (.inl (mE E))))] H := hP
    have hD : va_D A [(a, .inr (6, fs)), (qs, .inl (T 0, 43, .inl (upd (mS t P) (3 + 10 * p + 7) ((P p 7) - (kLeak (P p) (P p 7)))))), (qe, .inl (T 1, 12, .inr (.inl (mE E))))] := hD
    rw [mS_up t P (by decide)] at hP hD
    obtain ⟨P1, eP1⟩ : ∃ z, z = va_up P p (upd (P p) 7 (P p 7 - kLeak (P p) (P p 7))) := ⟨_, rfl⟩
    rw [← eP1] at hP hD
    have hP : va_P D vwCl [(a, .inr (6, fs)), (qs, .inl (T 0, 43, .inl (mS t P1))), (qe, .inl (T 1, 12, .inr (.inl (mE E))))] H := hP
    have hD : va_D A [(a, .inr (6, fs)), (qs, .inl (T 0, 43, .inl (mS t P1))), (qe, .inl (T 1, 12, .inr (.inl (mE E))))] := hD
    have eF : kLeakP (P p) = P1 p := by rw [kLeakP, if_neg c5, eP1, up_0]
    have hkP1 : kOk (P1 p) := by rw [← eF]; exact kOk_leak (hk p hp)
    refine lv_aload_n hx hb dX6_tick_40 rfl (lv_at hl 1 rfl) ?_
    refine va_get (D := D) (ci := 6) (v := .ref qe) (C := RX6) (T := TX6) (N := 22) hx hb hts inwX6_tick_X6 hown hK hP 0 rfl rfl 1 (by decide) (hts (.fieldLink RX6 13 "PlateSlabsModel" "e" "[J") (List.mem_of_getElem? (i := 2) rfl)) (fun _ h9 => h9) he dX6_tick_41 ?_
    refine lv_iconst (v := nI 3) hx hb dX6_tick_44 (by decide) ?_
    refine lv_iload_n hx hb dX6_tick_45 rfl (lv_at hl 2 rfl) ?_
    refine lv_imul hx hb dX6_tick_46 ?_
    refine lv_iconst (v := nI 1) hx hb dX6_tick_47 (by decide) ?_
    refine lv_iadd hx hb dX6_tick_48 ?_
    refine lv_tpi (z := nI (3 * p + 1)) (by rw [pk_mul, nI_add]) ?_
    refine lv_dup2_11 hx hb dX6_tick_49 rfl rfl ?_
    refine va_lald hx hb hK hP 2 1 rfl rfl (vp_in_nI (by omega) (by decide)) dX6_tick_50 ?_
    refine lv_tpl (congrArg (fun z => (mE E) z) (nI_clamp (by omega))) ?_
    refine lv_tpl (z := E p 1) (mE_at E (by decide)) ?_
    refine lv_lload_n hx hb dX6_tick_51 rfl (lv_at hl 0 rfl) ?_
    refine lv_aload_n hx hb dX6_tick_52 rfl (lv_at hl 1 rfl) ?_
    refine lv_iload_n hx hb dX6_tick_53 rfl (lv_at hl 2 rfl) ?_
    refine callRl (As := [.int (nI p)]) ⟨hx, hb, hml, hown, hts⟩ (mX6_stored l T D a qs fs t P1 hf p hp hkP1) (cwV 1 hts gX6_tick_X6_stored rfl rfl rfl pdX6_stored ⟨Nat.le_of_ble_eq_true rfl, Nat.le_of_ble_eq_true rfl⟩) (hP.sub [0, 1] rfl) hK xN_bl (fun U _ hW => XN_warm hW hX) (ci := 6) rfl rfl rfl hl.1 rfl rfl (Nat.le_of_ble_eq_true rfl) dX6_tick_54 ⟨Nat.zero_le _, Nat.zero_le _⟩ (fun r14_ er14_ => ?_)
    obtain rfl : r14_ = kStored (P1 p) := er14_
    refine lv_lsub hx hb dX6_tick_57 ?_
    refine lv_ladd hx hb dX6_tick_58 ?_
    refine va_last hx hb hK hP hD hS 2 1 rfl rfl (vp_in_nI (by omega) (by decide)) dX6_tick_59 (fun H locs hP hD hS => ?_)
    rw [nI_clamp (show 3 * p + 1 < 2 ^ 31 by omega)] at hP hD
    have hP : va_P D vwCl [(a, .inr (6, fs)), (qs, .inl (T 0, 43, .inl (mS t P1))), (qe, .inl (T 1, 12, .inr (.inl (vp_updL (mE E) (3 * p + 1) ((E p 1) + (x1_ - (kStored (P1 p))))))))] H := hP
    have hD : va_D A [(a, .inr (6, fs)), (qs, .inl (T 0, 43, .inl (mS t P1))), (qe, .inl (T 1, 12, .inr (.inl (vp_updL (mE E) (3 * p + 1) ((E p 1) + (x1_ - (kStored (P1 p))))))))] := hD
    rw [mE_up E (by decide)] at hP hD
    obtain ⟨E1, eE1⟩ : ∃ z, z = va_up E p (vp_updL (E p) 1 (E p 1 + (x1_ - kStored (P1 p)))) := ⟨_, rfl⟩
    rw [← eE1] at hP hD
    have hP : va_P D vwCl [(a, .inr (6, fs)), (qs, .inl (T 0, 43, .inl (mS t P1))), (qe, .inl (T 1, 12, .inr (.inl (mE E1))))] H := hP
    have hD : va_D A [(a, .inr (6, fs)), (qs, .inl (T 0, 43, .inl (mS t P1))), (qe, .inl (T 1, 12, .inr (.inl (mE E1))))] := hD
    have eU : va_up P p (P1 p) = P1 := by rw [eP1, up_0]
    have eV : va_up E p (kLeakE (P p) (E p)) = E1 := by rw [kLeakE, if_neg c5, eF, ← ex1_, ← eE1]
    exact hJ60 ls _ _ (by rw [eF, eU, eV]; exact hP) (by rw [eF, eU, eV]; exact hD) hS (lv_sub hl [1, 2] rfl)

def rmX6_turnsOff : Room := { frames := 3, cells := 0, slots := 0, locals := 64 }
set_option maxHeartbeats 4000000 in
set_option maxRecDepth 100000 in
theorem mX6_turnsOff (l : Launch) (T : Nat → ClassId) (D : va_G) (a qs qe : Nat) (fs : List Value) (t : Nat → Int32) (P : Nat → Nat → Int32) (E : Nat → Nat → Int64) (hf : fs[0]? = some (.ref qs)) (he : fs[1]? = some (.ref qe)) (p : Nat) (hp : p < 4) : MuI l yX6_turnsOff wsX6_turnsOff rmX6_turnsOff T xN D [.ref a, .int (nI p)] [(a, .inr (6, fs)), (qs, .inl (T 0, 43, .inl (mS t P))), (qe, .inl (T 1, 12, .inr (.inl (mE E))))] (S := SG) (fun r u => (r, u) = oOff p (t, P, E)) (fun u => moN T a qs qe fs u.1 u.2.1 u.2.2) 0 0 := by
  refine met_mi (cc := cX6_turnsOff) (maxL := 2) (by decide) rfl (Nat.le_of_ble_eq_true rfl) ?_
  intro p_ e s m args below meth c ls A Q hx hb hts hown hml hX hP hD hK hS hA hl hret
  have hl : lv_has ls 2 [(0, .ref a), (1, .int (nI p))] := hl
  refine lv_aload_n hx hb dX6_turnsOff_0 rfl (lv_at hl 0 rfl) ?_
  refine lv_iload_n hx hb dX6_turnsOff_1 rfl (lv_at hl 1 rfl) ?_
  refine callRi (As := [.int (nI p)]) ⟨hx, hb, hml, hown, hts⟩ (mX6_isOn l T D a qs fs t P hf p hp ) (cwV 1 hts gX6_turnsOff_X6_isOn rfl rfl rfl pdX6_isOn ⟨Nat.le_of_ble_eq_true rfl, Nat.le_of_ble_eq_true rfl⟩) (hP.sub [0, 1] rfl) hK xN_bl (fun U _ hW => XN_warm hW hX) (ci := 6) rfl rfl rfl hl.1 rfl rfl (Nat.le_of_ble_eq_true rfl) dX6_turnsOff_2 ⟨Nat.zero_le _, Nat.zero_le _⟩ (fun r1_ er1_ => ?_)
  obtain rfl : r1_ = bI (P p 9 = 1) := er1_
  refine lv_if_ne (tgt := 11) hx hb dX6_turnsOff_5 (by decide) (fun c5 => ?_) (fun c5 => ?_)
  · skip
    have c5 := bI_n0 c5
    refine lv_aload_n hx hb dX6_turnsOff_11 rfl (lv_at hl 0 rfl) ?_
    refine va_get (D := D) (ci := 6) (v := .ref qs) (C := RX6) (T := TX6) (N := 22) hx hb hts inwX6_turnsOff_X6 hown hK hP 0 rfl rfl 0 (by decide) (hts (.fieldLink RX6 7 "PlateSlabsModel" "s" "[I") (List.mem_of_getElem? (i := 1) rfl)) (fun _ h9 => h9) hf dX6_turnsOff_12 ?_
    refine lv_iload_n hx hb dX6_turnsOff_15 rfl (lv_at hl 1 rfl) ?_
    refine lv_bipush (v := nI 9) hx hb dX6_turnsOff_16 (by decide) ?_
    refine callSi (As := [.int (nI p), .int (nI 9)]) ⟨hx, hb, hml, hown, hts⟩ (mX6_at l T D p 9) (va_cwS 2 hts gX6_turnsOff_X6_at rfl rfl rfl (pdX6_at).2 ⟨Nat.le_of_ble_eq_true rfl, Nat.le_of_ble_eq_true rfl⟩) wP_nil hK xN_bl (fun U _ hW => XN_warm hW hX) hl.1 rfl rfl (Nat.le_of_ble_eq_true rfl) dX6_turnsOff_18 ⟨Nat.zero_le _, Nat.zero_le _⟩ (fun r2_ er2_ => ?_)
    obtain rfl : r2_ = nI (3 + 10 * p + 9) := er2_
    refine lv_iconst (v := 0) hx hb dX6_turnsOff_21 (by decide) ?_
    refine va_iast hx hb hK hP hD hS 1 0 rfl rfl (vp_in_nI (by omega) (by decide)) dX6_turnsOff_22 (fun H locs hP hD hS => ?_)
    rw [nI_clamp (show 3 + 10 * p + 9 < 2 ^ 31 by omega)] at hP hD
    have hP : va_P D vwCl [(a, .inr (6, fs)), (qs, .inl (T 0, 43, .inl (upd (mS t P) (3 + 10 * p + 9) 0))), (qe, .inl (T 1, 12, .inr (.inl (mE E))))] H := hP
    have hD : va_D A [(a, .inr (6, fs)), (qs, .inl (T 0, 43, .inl (upd (mS t P) (3 + 10 * p + 9) 0))), (qe, .inl (T 1, 12, .inr (.inl (mE E))))] := hD
    rw [mS_up t P (by decide)] at hP hD
    obtain ⟨P1, eP1⟩ : ∃ z, z = va_up P p (upd (P p) 9 0) := ⟨_, rfl⟩
    rw [← eP1] at hP hD
    have hP : va_P D vwCl [(a, .inr (6, fs)), (qs, .inl (T 0, 43, .inl (mS t P1))), (qe, .inl (T 1, 12, .inr (.inl (mE E))))] H := hP
    have hD : va_D A [(a, .inr (6, fs)), (qs, .inl (T 0, 43, .inl (mS t P1))), (qe, .inl (T 1, 12, .inr (.inl (mE E))))] := hD
    refine lv_aload_n hx hb dX6_turnsOff_23 rfl (lv_at hl 0 rfl) ?_
    refine lv_iload_n hx hb dX6_turnsOff_24 rfl (lv_at hl 1 rfl) ?_
    refine lv_bipush (v := nI 7) hx hb dX6_turnsOff_25 (by decide) ?_
    refine callRi (As := [.int (nI p), .int (nI 7)]) ⟨hx, hb, hml, hown, hts⟩ (mX6_of l T D a qs fs t P1 hf p hp 7 (by decide)) (cwV 2 hts gX6_turnsOff_X6_of rfl rfl rfl pdX6_of ⟨Nat.le_of_ble_eq_true rfl, Nat.le_of_ble_eq_true rfl⟩) (hP.sub [0, 1] rfl) hK xN_bl (fun U _ hW => XN_warm hW hX) (ci := 6) rfl rfl rfl hl.1 rfl rfl (Nat.le_of_ble_eq_true rfl) dX6_turnsOff_27 ⟨Nat.zero_le _, Nat.zero_le _⟩ (fun r3_ er3_ => ?_)
    obtain rfl : r3_ = P1 p 7 := er3_
    exact hret _ _ _ (t, P1, E) _ _ dX6_turnsOff_30 hS hP hD (by rw [oOff, if_neg (not_not_intro c5), eP1, up_0]; rfl)
  · skip
    have c5 := bI_0 c5
    refine lv_bipush (v := (-5)) hx hb dX6_turnsOff_8 (by decide) ?_
    exact hret _ _ _ (t, P, E) _ _ dX6_turnsOff_10 hS hP hD (by rw [oOff, if_pos c5])

def rmX6_turnsOn : Room := { frames := 5, cells := 0, slots := 0, locals := 108 }
set_option maxHeartbeats 4000000 in
set_option maxRecDepth 100000 in
theorem mX6_turnsOn (l : Launch) (T : Nat → ClassId) (D : va_G) (a qs qe : Nat) (fs : List Value) (t : Nat → Int32) (P : Nat → Nat → Int32) (E : Nat → Nat → Int64) (hf : fs[0]? = some (.ref qs)) (he : fs[1]? = some (.ref qe)) (p : Nat) (hp : p < 4) (v : Int32) : MuI l yX6_turnsOn wsX6_turnsOn rmX6_turnsOn T xN D [.ref a, .int (nI p), .int v] [(a, .inr (6, fs)), (qs, .inl (T 0, 43, .inl (mS t P))), (qe, .inl (T 1, 12, .inr (.inl (mE E))))] (S := SG) (fun r u => (r, u) = oOn p v (t, P, E)) (fun u => moN T a qs qe fs u.1 u.2.1 u.2.2) 0 0 := by
  refine met_mi (cc := cX6_turnsOn) (maxL := 3) (by decide) rfl (Nat.le_of_ble_eq_true rfl) ?_
  intro p_ e s m args below meth c ls A Q hx hb hts hown hml hX hP hD hK hS hA hl hret
  have hl : lv_has ls 3 [(0, .ref a), (1, .int (nI p)), (2, .int v)] := hl
  refine lv_aload_n hx hb dX6_turnsOn_0 rfl (lv_at hl 0 rfl) ?_
  refine lv_iload_n hx hb dX6_turnsOn_1 rfl (lv_at hl 1 rfl) ?_
  refine callRi (As := [.int (nI p)]) ⟨hx, hb, hml, hown, hts⟩ (mX6_isOn l T D a qs fs t P hf p hp ) (cwV 1 hts gX6_turnsOn_X6_isOn rfl rfl rfl pdX6_isOn ⟨Nat.le_of_ble_eq_true rfl, Nat.le_of_ble_eq_true rfl⟩) (hP.sub [0, 1] rfl) hK xN_bl (fun U _ hW => XN_warm hW hX) (ci := 6) rfl rfl rfl hl.1 rfl rfl (Nat.le_of_ble_eq_true rfl) dX6_turnsOn_2 ⟨Nat.zero_le _, Nat.zero_le _⟩ (fun r1_ er1_ => ?_)
  obtain rfl : r1_ = bI (P p 9 = 1) := er1_
  refine lv_if_eq (tgt := 22) hx hb dX6_turnsOn_5 (by decide) (fun c5 => ?_) (fun c5 => ?_)
  · skip
    have c5 := bI_0 c5
    refine lv_aload_n hx hb dX6_turnsOn_22 rfl (lv_at hl 0 rfl) ?_
    refine va_get (D := D) (ci := 6) (v := .ref qs) (C := RX6) (T := TX6) (N := 22) hx hb hts inwX6_turnsOn_X6 hown hK hP 0 rfl rfl 0 (by decide) (hts (.fieldLink RX6 7 "PlateSlabsModel" "s" "[I") (List.mem_of_getElem? (i := 1) rfl)) (fun _ h9 => h9) hf dX6_turnsOn_23 ?_
    refine lv_iload_n hx hb dX6_turnsOn_26 rfl (lv_at hl 1 rfl) ?_
    refine lv_bipush (v := nI 9) hx hb dX6_turnsOn_27 (by decide) ?_
    refine callSi (As := [.int (nI p), .int (nI 9)]) ⟨hx, hb, hml, hown, hts⟩ (mX6_at l T D p 9) (va_cwS 2 hts gX6_turnsOn_X6_at rfl rfl rfl (pdX6_at).2 ⟨Nat.le_of_ble_eq_true rfl, Nat.le_of_ble_eq_true rfl⟩) wP_nil hK xN_bl (fun U _ hW => XN_warm hW hX) hl.1 rfl rfl (Nat.le_of_ble_eq_true rfl) dX6_turnsOn_29 ⟨Nat.zero_le _, Nat.zero_le _⟩ (fun r2_ er2_ => ?_)
    obtain rfl : r2_ = nI (3 + 10 * p + 9) := er2_
    refine lv_iconst (v := 1) hx hb dX6_turnsOn_32 (by decide) ?_
    refine va_iast hx hb hK hP hD hS 1 0 rfl rfl (vp_in_nI (by omega) (by decide)) dX6_turnsOn_33 (fun H locs hP hD hS => ?_)
    rw [nI_clamp (show 3 + 10 * p + 9 < 2 ^ 31 by omega)] at hP hD
    have hP : va_P D vwCl [(a, .inr (6, fs)), (qs, .inl (T 0, 43, .inl (upd (mS t P) (3 + 10 * p + 9) 1))), (qe, .inl (T 1, 12, .inr (.inl (mE E))))] H := hP
    have hD : va_D A [(a, .inr (6, fs)), (qs, .inl (T 0, 43, .inl (upd (mS t P) (3 + 10 * p + 9) 1))), (qe, .inl (T 1, 12, .inr (.inl (mE E))))] := hD
    rw [mS_up t P (by decide)] at hP hD
    obtain ⟨P1, eP1⟩ : ∃ z, z = va_up P p (upd (P p) 9 1) := ⟨_, rfl⟩
    rw [← eP1] at hP hD
    have hP : va_P D vwCl [(a, .inr (6, fs)), (qs, .inl (T 0, 43, .inl (mS t P1))), (qe, .inl (T 1, 12, .inr (.inl (mE E))))] H := hP
    have hD : va_D A [(a, .inr (6, fs)), (qs, .inl (T 0, 43, .inl (mS t P1))), (qe, .inl (T 1, 12, .inr (.inl (mE E))))] := hD
    refine lv_aload_n hx hb dX6_turnsOn_34 rfl (lv_at hl 0 rfl) ?_
    refine va_get (D := D) (ci := 6) (v := .ref qs) (C := RX6) (T := TX6) (N := 22) hx hb hts inwX6_turnsOn_X6 hown hK hP 0 rfl rfl 0 (by decide) (hts (.fieldLink RX6 7 "PlateSlabsModel" "s" "[I") (List.mem_of_getElem? (i := 1) rfl)) (fun _ h9 => h9) hf dX6_turnsOn_35 ?_
    refine lv_iload_n hx hb dX6_turnsOn_38 rfl (lv_at hl 1 rfl) ?_
    refine lv_bipush (v := nI 8) hx hb dX6_turnsOn_39 (by decide) ?_
    refine callSi (As := [.int (nI p), .int (nI 8)]) ⟨hx, hb, hml, hown, hts⟩ (mX6_at l T D p 8) (va_cwS 2 hts gX6_turnsOn_X6_at rfl rfl rfl (pdX6_at).2 ⟨Nat.le_of_ble_eq_true rfl, Nat.le_of_ble_eq_true rfl⟩) wP_nil hK xN_bl (fun U _ hW => XN_warm hW hX) hl.1 rfl rfl (Nat.le_of_ble_eq_true rfl) dX6_turnsOn_41 ⟨Nat.zero_le _, Nat.zero_le _⟩ (fun r3_ er3_ => ?_)
    obtain rfl : r3_ = nI (3 + 10 * p + 8) := er3_
    refine lv_iload_n hx hb dX6_turnsOn_44 rfl (lv_at hl 2 rfl) ?_
    refine va_iast hx hb hK hP hD hS 1 0 rfl rfl (vp_in_nI (by omega) (by decide)) dX6_turnsOn_45 (fun H locs hP hD hS => ?_)
    rw [nI_clamp (show 3 + 10 * p + 8 < 2 ^ 31 by omega)] at hP hD
    have hP : va_P D vwCl [(a, .inr (6, fs)), (qs, .inl (T 0, 43, .inl (upd (mS t P1) (3 + 10 * p + 8) v))), (qe, .inl (T 1, 12, .inr (.inl (mE E))))] H := hP
    have hD : va_D A [(a, .inr (6, fs)), (qs, .inl (T 0, 43, .inl (upd (mS t P1) (3 + 10 * p + 8) v))), (qe, .inl (T 1, 12, .inr (.inl (mE E))))] := hD
    rw [mS_up t P1 (by decide)] at hP hD
    obtain ⟨P2, eP2⟩ : ∃ z, z = va_up P1 p (upd (P1 p) 8 v) := ⟨_, rfl⟩
    rw [← eP2] at hP hD
    have hP : va_P D vwCl [(a, .inr (6, fs)), (qs, .inl (T 0, 43, .inl (mS t P2))), (qe, .inl (T 1, 12, .inr (.inl (mE E))))] H := hP
    have hD : va_D A [(a, .inr (6, fs)), (qs, .inl (T 0, 43, .inl (mS t P2))), (qe, .inl (T 1, 12, .inr (.inl (mE E))))] := hD
    have f2 : P2 p = upd (upd (P p) 9 1) 8 v := by rw [eP2, up_0, eP1, up_0]
    refine lv_aload_n hx hb dX6_turnsOn_46 rfl (lv_at hl 0 rfl) ?_
    refine lv_iload_n hx hb dX6_turnsOn_47 rfl (lv_at hl 1 rfl) ?_
    refine callMv (As := [.int (nI p)]) (wr := []) ⟨hx, hb, hml, hown, hts⟩ (mX6_charges l T D a qs qe fs t P2 E hf he p hp) (cwV 1 hts gX6_turnsOn_X6_charges rfl rfl rfl pdX6_charges ⟨Nat.le_of_ble_eq_true rfl, Nat.le_of_ble_eq_true rfl⟩) hP hD hK hS hA xN_bl (fun U _ hW => XN_warm hW hX) (ci := 6) rfl rfl rfl hl.1 rfl rfl (Nat.le_of_ble_eq_true rfl) dX6_turnsOn_48 ⟨Nat.zero_le _, Nat.zero_le _⟩ (fun u5_ H locs eu5_ hP hD hS hkf => ?_)
    obtain ⟨P3, eP3⟩ : ∃ z : Nat → Nat → Int32, z = va_up P2 p (kHoldP (P2 p)) := ⟨_, rfl⟩
    obtain ⟨E3, eE3⟩ : ∃ z : Nat → Nat → Int64, z = va_up E p (kHoldE (P2 p) (E p)) := ⟨_, rfl⟩
    rw [← eP3, ← eE3] at hP hD
    have hP : va_P D vwCl [(a, .inr (6, fs)), (qs, .inl (T 0, 43, .inl (mS t P3))), (qe, .inl (T 1, 12, .inr (.inl (mE E3))))] H := hP
    have hD : va_D A [(a, .inr (6, fs)), (qs, .inl (T 0, 43, .inl (mS t P3))), (qe, .inl (T 1, 12, .inr (.inl (mE E3))))] := hD
    refine lv_aload_n hx hb dX6_turnsOn_51 rfl (lv_at hl 0 rfl) ?_
    refine lv_iload_n hx hb dX6_turnsOn_52 rfl (lv_at hl 1 rfl) ?_
    refine lv_bipush (v := nI 7) hx hb dX6_turnsOn_53 (by decide) ?_
    refine callRi (As := [.int (nI p), .int (nI 7)]) ⟨hx, hb, hml, hown, hts⟩ (mX6_of l T D a qs fs t P3 hf p hp 7 (by decide)) (cwV 2 hts gX6_turnsOn_X6_of rfl rfl rfl pdX6_of ⟨Nat.le_of_ble_eq_true rfl, Nat.le_of_ble_eq_true rfl⟩) (hP.sub [0, 1] rfl) hK xN_bl (fun U _ hW => XN_warm hW hX) (ci := 6) rfl rfl rfl hl.1 rfl rfl (Nat.le_of_ble_eq_true rfl) dX6_turnsOn_55 ⟨Nat.zero_le _, Nat.zero_le _⟩ (fun r6_ er6_ => ?_)
    obtain rfl : r6_ = P3 p 7 := er6_
    exact hret _ _ _ (t, P3, E3) _ _ dX6_turnsOn_58 hS hP hD (by rw [oOn, if_neg (by exact fun z => c5 z.1), eP3, eE3, f2, up_0, eP2, eP1, up_up, up_up]; rfl)
  · skip
    have c5 := bI_n0 c5
    refine lv_aload_n hx hb dX6_turnsOn_8 rfl (lv_at hl 0 rfl) ?_
    refine lv_iload_n hx hb dX6_turnsOn_9 rfl (lv_at hl 1 rfl) ?_
    refine lv_bipush (v := nI 8) hx hb dX6_turnsOn_10 (by decide) ?_
    refine callRi (As := [.int (nI p), .int (nI 8)]) ⟨hx, hb, hml, hown, hts⟩ (mX6_of l T D a qs fs t P hf p hp 8 (by decide)) (cwV 2 hts gX6_turnsOn_X6_of rfl rfl rfl pdX6_of ⟨Nat.le_of_ble_eq_true rfl, Nat.le_of_ble_eq_true rfl⟩) (hP.sub [0, 1] rfl) hK xN_bl (fun U _ hW => XN_warm hW hX) (ci := 6) rfl rfl rfl hl.1 rfl rfl (Nat.le_of_ble_eq_true rfl) dX6_turnsOn_12 ⟨Nat.zero_le _, Nat.zero_le _⟩ (fun r7_ er7_ => ?_)
    obtain rfl : r7_ = P p 8 := er7_
    refine lv_iload_n hx hb dX6_turnsOn_15 rfl (lv_at hl 2 rfl) ?_
    refine lv_icmp_ne (tgt := 22) hx hb dX6_turnsOn_16 (by decide) (fun c16 => ?_) (fun c16 => ?_)
    · skip
      refine lv_aload_n hx hb dX6_turnsOn_22 rfl (lv_at hl 0 rfl) ?_
      refine va_get (D := D) (ci := 6) (v := .ref qs) (C := RX6) (T := TX6) (N := 22) hx hb hts inwX6_turnsOn_X6 hown hK hP 0 rfl rfl 0 (by decide) (hts (.fieldLink RX6 7 "PlateSlabsModel" "s" "[I") (List.mem_of_getElem? (i := 1) rfl)) (fun _ h9 => h9) hf dX6_turnsOn_23 ?_
      refine lv_iload_n hx hb dX6_turnsOn_26 rfl (lv_at hl 1 rfl) ?_
      refine lv_bipush (v := nI 9) hx hb dX6_turnsOn_27 (by decide) ?_
      refine callSi (As := [.int (nI p), .int (nI 9)]) ⟨hx, hb, hml, hown, hts⟩ (mX6_at l T D p 9) (va_cwS 2 hts gX6_turnsOn_X6_at rfl rfl rfl (pdX6_at).2 ⟨Nat.le_of_ble_eq_true rfl, Nat.le_of_ble_eq_true rfl⟩) wP_nil hK xN_bl (fun U _ hW => XN_warm hW hX) hl.1 rfl rfl (Nat.le_of_ble_eq_true rfl) dX6_turnsOn_29 ⟨Nat.zero_le _, Nat.zero_le _⟩ (fun r8_ er8_ => ?_)
      obtain rfl : r8_ = nI (3 + 10 * p + 9) := er8_
      refine lv_iconst (v := 1) hx hb dX6_turnsOn_32 (by decide) ?_
      refine va_iast hx hb hK hP hD hS 1 0 rfl rfl (vp_in_nI (by omega) (by decide)) dX6_turnsOn_33 (fun H locs hP hD hS => ?_)
      rw [nI_clamp (show 3 + 10 * p + 9 < 2 ^ 31 by omega)] at hP hD
      have hP : va_P D vwCl [(a, .inr (6, fs)), (qs, .inl (T 0, 43, .inl (upd (mS t P) (3 + 10 * p + 9) 1))), (qe, .inl (T 1, 12, .inr (.inl (mE E))))] H := hP
      have hD : va_D A [(a, .inr (6, fs)), (qs, .inl (T 0, 43, .inl (upd (mS t P) (3 + 10 * p + 9) 1))), (qe, .inl (T 1, 12, .inr (.inl (mE E))))] := hD
      rw [mS_up t P (by decide)] at hP hD
      obtain ⟨P1, eP1⟩ : ∃ z, z = va_up P p (upd (P p) 9 1) := ⟨_, rfl⟩
      rw [← eP1] at hP hD
      have hP : va_P D vwCl [(a, .inr (6, fs)), (qs, .inl (T 0, 43, .inl (mS t P1))), (qe, .inl (T 1, 12, .inr (.inl (mE E))))] H := hP
      have hD : va_D A [(a, .inr (6, fs)), (qs, .inl (T 0, 43, .inl (mS t P1))), (qe, .inl (T 1, 12, .inr (.inl (mE E))))] := hD
      refine lv_aload_n hx hb dX6_turnsOn_34 rfl (lv_at hl 0 rfl) ?_
      refine va_get (D := D) (ci := 6) (v := .ref qs) (C := RX6) (T := TX6) (N := 22) hx hb hts inwX6_turnsOn_X6 hown hK hP 0 rfl rfl 0 (by decide) (hts (.fieldLink RX6 7 "PlateSlabsModel" "s" "[I") (List.mem_of_getElem? (i := 1) rfl)) (fun _ h9 => h9) hf dX6_turnsOn_35 ?_
      refine lv_iload_n hx hb dX6_turnsOn_38 rfl (lv_at hl 1 rfl) ?_
      refine lv_bipush (v := nI 8) hx hb dX6_turnsOn_39 (by decide) ?_
      refine callSi (As := [.int (nI p), .int (nI 8)]) ⟨hx, hb, hml, hown, hts⟩ (mX6_at l T D p 8) (va_cwS 2 hts gX6_turnsOn_X6_at rfl rfl rfl (pdX6_at).2 ⟨Nat.le_of_ble_eq_true rfl, Nat.le_of_ble_eq_true rfl⟩) wP_nil hK xN_bl (fun U _ hW => XN_warm hW hX) hl.1 rfl rfl (Nat.le_of_ble_eq_true rfl) dX6_turnsOn_41 ⟨Nat.zero_le _, Nat.zero_le _⟩ (fun r9_ er9_ => ?_)
      obtain rfl : r9_ = nI (3 + 10 * p + 8) := er9_
      refine lv_iload_n hx hb dX6_turnsOn_44 rfl (lv_at hl 2 rfl) ?_
      refine va_iast hx hb hK hP hD hS 1 0 rfl rfl (vp_in_nI (by omega) (by decide)) dX6_turnsOn_45 (fun H locs hP hD hS => ?_)
      rw [nI_clamp (show 3 + 10 * p + 8 < 2 ^ 31 by omega)] at hP hD
      have hP : va_P D vwCl [(a, .inr (6, fs)), (qs, .inl (T 0, 43, .inl (upd (mS t P1) (3 + 10 * p + 8) v))), (qe, .inl (T 1, 12, .inr (.inl (mE E))))] H := hP
      have hD : va_D A [(a, .inr (6, fs)), (qs, .inl (T 0, 43, .inl (upd (mS t P1) (3 + 10 * p + 8) v))), (qe, .inl (T 1, 12, .inr (.inl (mE E))))] := hD
      rw [mS_up t P1 (by decide)] at hP hD
      obtain ⟨P2, eP2⟩ : ∃ z, z = va_up P1 p (upd (P1 p) 8 v) := ⟨_, rfl⟩
      rw [← eP2] at hP hD
      have hP : va_P D vwCl [(a, .inr (6, fs)), (qs, .inl (T 0, 43, .inl (mS t P2))), (qe, .inl (T 1, 12, .inr (.inl (mE E))))] H := hP
      have hD : va_D A [(a, .inr (6, fs)), (qs, .inl (T 0, 43, .inl (mS t P2))), (qe, .inl (T 1, 12, .inr (.inl (mE E))))] := hD
      have f2 : P2 p = upd (upd (P p) 9 1) 8 v := by rw [eP2, up_0, eP1, up_0]
      refine lv_aload_n hx hb dX6_turnsOn_46 rfl (lv_at hl 0 rfl) ?_
      refine lv_iload_n hx hb dX6_turnsOn_47 rfl (lv_at hl 1 rfl) ?_
      refine callMv (As := [.int (nI p)]) (wr := []) ⟨hx, hb, hml, hown, hts⟩ (mX6_charges l T D a qs qe fs t P2 E hf he p hp) (cwV 1 hts gX6_turnsOn_X6_charges rfl rfl rfl pdX6_charges ⟨Nat.le_of_ble_eq_true rfl, Nat.le_of_ble_eq_true rfl⟩) hP hD hK hS hA xN_bl (fun U _ hW => XN_warm hW hX) (ci := 6) rfl rfl rfl hl.1 rfl rfl (Nat.le_of_ble_eq_true rfl) dX6_turnsOn_48 ⟨Nat.zero_le _, Nat.zero_le _⟩ (fun u11_ H locs eu11_ hP hD hS hkf => ?_)
      obtain ⟨P3, eP3⟩ : ∃ z : Nat → Nat → Int32, z = va_up P2 p (kHoldP (P2 p)) := ⟨_, rfl⟩
      obtain ⟨E3, eE3⟩ : ∃ z : Nat → Nat → Int64, z = va_up E p (kHoldE (P2 p) (E p)) := ⟨_, rfl⟩
      rw [← eP3, ← eE3] at hP hD
      have hP : va_P D vwCl [(a, .inr (6, fs)), (qs, .inl (T 0, 43, .inl (mS t P3))), (qe, .inl (T 1, 12, .inr (.inl (mE E3))))] H := hP
      have hD : va_D A [(a, .inr (6, fs)), (qs, .inl (T 0, 43, .inl (mS t P3))), (qe, .inl (T 1, 12, .inr (.inl (mE E3))))] := hD
      refine lv_aload_n hx hb dX6_turnsOn_51 rfl (lv_at hl 0 rfl) ?_
      refine lv_iload_n hx hb dX6_turnsOn_52 rfl (lv_at hl 1 rfl) ?_
      refine lv_bipush (v := nI 7) hx hb dX6_turnsOn_53 (by decide) ?_
      refine callRi (As := [.int (nI p), .int (nI 7)]) ⟨hx, hb, hml, hown, hts⟩ (mX6_of l T D a qs fs t P3 hf p hp 7 (by decide)) (cwV 2 hts gX6_turnsOn_X6_of rfl rfl rfl pdX6_of ⟨Nat.le_of_ble_eq_true rfl, Nat.le_of_ble_eq_true rfl⟩) (hP.sub [0, 1] rfl) hK xN_bl (fun U _ hW => XN_warm hW hX) (ci := 6) rfl rfl rfl hl.1 rfl rfl (Nat.le_of_ble_eq_true rfl) dX6_turnsOn_55 ⟨Nat.zero_le _, Nat.zero_le _⟩ (fun r12_ er12_ => ?_)
      obtain rfl : r12_ = P3 p 7 := er12_
      exact hret _ _ _ (t, P3, E3) _ _ dX6_turnsOn_58 hS hP hD (by rw [oOn, if_neg (by exact fun z => c16 z.2), eP3, eE3, f2, up_0, eP2, eP1, up_up, up_up]; rfl)
    · skip
      refine lv_bipush (v := (-5)) hx hb dX6_turnsOn_19 (by decide) ?_
      exact hret _ _ _ (t, P, E) _ _ dX6_turnsOn_21 hS hP hD (by rw [oOn, if_pos ⟨c5, c16⟩])

def rmX6_lays : Room := { frames := 5, cells := 0, slots := 0, locals := 108 }
set_option maxHeartbeats 4000000 in
set_option maxRecDepth 100000 in
theorem mX6_lays (l : Launch) (T : Nat → ClassId) (D : va_G) (a qs qe : Nat) (fs : List Value) (t : Nat → Int32) (P : Nat → Nat → Int32) (E : Nat → Nat → Int64) (hf : fs[0]? = some (.ref qs)) (he : fs[1]? = some (.ref qe)) (p : Nat) (hp : p < 4) (k : Nat) (hw : k < 10) (v : Int32) : MuI l yX6_lays wsX6_lays rmX6_lays T xN D [.ref a, .int (nI p), .int (nI k), .int v] [(a, .inr (6, fs)), (qs, .inl (T 0, 43, .inl (mS t P))), (qe, .inl (T 1, 12, .inr (.inl (mE E))))] (S := SG) (fun r u => (r, u) = oLay p k v (t, P, E)) (fun u => moN T a qs qe fs u.1 u.2.1 u.2.2) 0 0 := by
  refine met_mi (cc := cX6_lays) (maxL := 5) (by decide) rfl (Nat.le_of_ble_eq_true rfl) ?_
  intro p_ e s m args below meth c ls A Q hx hb hts hown hml hX hP hD hK hS hA hl hret
  have hl : lv_has ls 5 [(0, .ref a), (1, .int (nI p)), (2, .int (nI k)), (3, .int v)] := hl
  refine lv_aload_n hx hb dX6_lays_0 rfl (lv_at hl 0 rfl) ?_
  refine lv_iload_n hx hb dX6_lays_1 rfl (lv_at hl 1 rfl) ?_
  refine lv_iload_n hx hb dX6_lays_2 rfl (lv_at hl 2 rfl) ?_
  refine callRi (As := [.int (nI p), .int (nI k)]) ⟨hx, hb, hml, hown, hts⟩ (mX6_of l T D a qs fs t P hf p hp k (by exact hw)) (cwV 2 hts gX6_lays_X6_of rfl rfl rfl pdX6_of ⟨Nat.le_of_ble_eq_true rfl, Nat.le_of_ble_eq_true rfl⟩) (hP.sub [0, 1] rfl) hK xN_bl (fun U _ hW => XN_warm hW hX) (ci := 6) rfl rfl rfl hl.1 rfl rfl (Nat.le_of_ble_eq_true rfl) dX6_lays_3 ⟨Nat.zero_le _, Nat.zero_le _⟩ (fun r1_ er1_ => ?_)
  obtain rfl : r1_ = P p k := er1_
  refine lv_topi (fun x1_ ex1_ => ?_)
  refine lv_istore (lv' := [(4, .int x1_), (0, .ref a), (1, .int (nI p)), (2, .int (nI k)), (3, .int v)]) hx hb dX6_lays_6 hl (by decide) rfl (fun ls hl => ?_)
  refine lv_iload hx hb dX6_lays_8 (lv_at hl 0 rfl) ?_
  refine lv_iload_n hx hb dX6_lays_10 rfl (lv_at hl 4 rfl) ?_
  refine lv_icmp_ne (tgt := 17) hx hb dX6_lays_11 (by decide) (fun c11 => ?_) (fun c11 => ?_)
  · skip
    refine lv_aload_n hx hb dX6_lays_17 rfl (lv_at hl 1 rfl) ?_
    refine va_get (D := D) (ci := 6) (v := .ref qs) (C := RX6) (T := TX6) (N := 22) hx hb hts inwX6_lays_X6 hown hK hP 0 rfl rfl 0 (by decide) (hts (.fieldLink RX6 7 "PlateSlabsModel" "s" "[I") (List.mem_of_getElem? (i := 1) rfl)) (fun _ h9 => h9) hf dX6_lays_18 ?_
    refine lv_iload_n hx hb dX6_lays_21 rfl (lv_at hl 2 rfl) ?_
    refine lv_iload_n hx hb dX6_lays_22 rfl (lv_at hl 3 rfl) ?_
    refine callSi (As := [.int (nI p), .int (nI k)]) ⟨hx, hb, hml, hown, hts⟩ (mX6_at l T D p k) (va_cwS 2 hts gX6_lays_X6_at rfl rfl rfl (pdX6_at).2 ⟨Nat.le_of_ble_eq_true rfl, Nat.le_of_ble_eq_true rfl⟩) wP_nil hK xN_bl (fun U _ hW => XN_warm hW hX) hl.1 rfl rfl (Nat.le_of_ble_eq_true rfl) dX6_lays_23 ⟨Nat.zero_le _, Nat.zero_le _⟩ (fun r2_ er2_ => ?_)
    obtain rfl : r2_ = nI (3 + 10 * p + k) := er2_
    refine lv_iload_n hx hb dX6_lays_26 rfl (lv_at hl 4 rfl) ?_
    refine va_iast hx hb hK hP hD hS 1 0 rfl rfl (vp_in_nI (by omega) (by decide)) dX6_lays_27 (fun H locs hP hD hS => ?_)
    rw [nI_clamp (show 3 + 10 * p + k < 2 ^ 31 by omega)] at hP hD
    have hP : va_P D vwCl [(a, .inr (6, fs)), (qs, .inl (T 0, 43, .inl (upd (mS t P) (3 + 10 * p + k) v))), (qe, .inl (T 1, 12, .inr (.inl (mE E))))] H := hP
    have hD : va_D A [(a, .inr (6, fs)), (qs, .inl (T 0, 43, .inl (upd (mS t P) (3 + 10 * p + k) v))), (qe, .inl (T 1, 12, .inr (.inl (mE E))))] := hD
    rw [mS_up t P (by exact hw)] at hP hD
    obtain ⟨P1, eP1⟩ : ∃ z, z = va_up P p (upd (P p) k v) := ⟨_, rfl⟩
    rw [← eP1] at hP hD
    have hP : va_P D vwCl [(a, .inr (6, fs)), (qs, .inl (T 0, 43, .inl (mS t P1))), (qe, .inl (T 1, 12, .inr (.inl (mE E))))] H := hP
    have hD : va_D A [(a, .inr (6, fs)), (qs, .inl (T 0, 43, .inl (mS t P1))), (qe, .inl (T 1, 12, .inr (.inl (mE E))))] := hD
    have f1 : P1 p = upd (P p) k v := by rw [eP1, up_0]
    refine lv_aload_n hx hb dX6_lays_28 rfl (lv_at hl 1 rfl) ?_
    refine lv_iload_n hx hb dX6_lays_29 rfl (lv_at hl 2 rfl) ?_
    refine callMv (As := [.int (nI p)]) (wr := []) ⟨hx, hb, hml, hown, hts⟩ (mX6_charges l T D a qs qe fs t P1 E hf he p hp) (cwV 1 hts gX6_lays_X6_charges rfl rfl rfl pdX6_charges ⟨Nat.le_of_ble_eq_true rfl, Nat.le_of_ble_eq_true rfl⟩) hP hD hK hS hA xN_bl (fun U _ hW => XN_warm hW hX) (ci := 6) rfl rfl rfl hl.1 rfl rfl (Nat.le_of_ble_eq_true rfl) dX6_lays_30 ⟨Nat.zero_le _, Nat.zero_le _⟩ (fun u4_ H locs eu4_ hP hD hS hkf => ?_)
    obtain ⟨P3, eP3⟩ : ∃ z : Nat → Nat → Int32, z = va_up P1 p (kHoldP (P1 p)) := ⟨_, rfl⟩
    obtain ⟨E3, eE3⟩ : ∃ z : Nat → Nat → Int64, z = va_up E p (kHoldE (P1 p) (E p)) := ⟨_, rfl⟩
    rw [← eP3, ← eE3] at hP hD
    have hP : va_P D vwCl [(a, .inr (6, fs)), (qs, .inl (T 0, 43, .inl (mS t P3))), (qe, .inl (T 1, 12, .inr (.inl (mE E3))))] H := hP
    have hD : va_D A [(a, .inr (6, fs)), (qs, .inl (T 0, 43, .inl (mS t P3))), (qe, .inl (T 1, 12, .inr (.inl (mE E3))))] := hD
    refine lv_iload hx hb dX6_lays_33 (lv_at hl 0 rfl) ?_
    exact hret _ _ _ (t, P3, E3) _ _ dX6_lays_35 hS hP hD (by subst ex1_; rw [oLay, if_neg c11, eP3, eE3, f1, eP1, up_up])
  · skip
    refine lv_bipush (v := (-5)) hx hb dX6_lays_14 (by decide) ?_
    exact hret _ _ _ (t, P, E) _ _ dX6_lays_16 hS hP hD (by subst ex1_; rw [oLay, if_pos c11])

def rmX6_passes : Room := { frames := 7, cells := 0, slots := 0, locals := 159 }
set_option maxHeartbeats 4000000 in
set_option maxRecDepth 100000 in
theorem mX6_passes (l : Launch) (T : Nat → ClassId) (D : va_G) (a qs qe : Nat) (fs : List Value) (t : Nat → Int32) (P : Nat → Nat → Int32) (E : Nat → Nat → Int64) (hf : fs[0]? = some (.ref qs)) (he : fs[1]? = some (.ref qe)) (hk : ∀ p, p < 4 → kOk (P p)) (n : Nat) (hn : n < 1000) : MuI l yX6_passes wsX6_passes rmX6_passes T xN D [.ref a, .int (nI n)] [(a, .inr (6, fs)), (qs, .inl (T 0, 43, .inl (mS t P))), (qe, .inl (T 1, 12, .inr (.inl (mE E))))] (S := SG) (fun r u => (r, u) = oPass n (t, P, E)) (fun u => moN T a qs qe fs u.1 u.2.1 u.2.2) 0 0 := by
  refine met_mi (cc := cX6_passes) (maxL := 4) (by decide) rfl (Nat.le_of_ble_eq_true rfl) ?_
  intro p_ e s m args below meth c ls A Q hx hb hts hown hml hX hP hD hK hS hA hl hret
  have hl : lv_has ls 4 [(0, .ref a), (1, .int (nI n))] := hl
  refine lv_aload_n hx hb dX6_passes_0 rfl (lv_at hl 0 rfl) ?_
  refine va_get (D := D) (ci := 6) (v := .ref qs) (C := RX6) (T := TX6) (N := 22) hx hb hts inwX6_passes_X6 hown hK hP 0 rfl rfl 0 (by decide) (hts (.fieldLink RX6 7 "PlateSlabsModel" "s" "[I") (List.mem_of_getElem? (i := 1) rfl)) (fun _ h9 => h9) hf dX6_passes_1 ?_
  refine lv_iconst (v := 0) hx hb dX6_passes_4 (by decide) ?_
  refine va_iald hx hb hK hP 1 0 rfl rfl (in_lit (by decide)) dX6_passes_5 ?_
  refine lv_tpi (congrArg (fun z => (mS t P) z) (cl_0)) ?_
  refine lv_tpi (z := t 0) (mS_t t P (by decide)) ?_
  refine lv_iload_n hx hb dX6_passes_6 rfl (lv_at hl 1 rfl) ?_
  refine lv_iadd hx hb dX6_passes_7 ?_
  refine lv_ldc (v := 99999) hx hb hown (hts (.constant RX6 107 (99999)) (List.mem_of_getElem? (i := 2) rfl)) dX6_passes_8 ?_
  refine lv_icmp_le (tgt := 16) hx hb dX6_passes_10 (by decide) (fun c10 => ?_) (fun c10 => ?_)
  · skip
    refine lv_iconst (v := 0) hx hb dX6_passes_16 (by decide) ?_
    refine lv_istore_n (lv' := [(2, .int 0), (0, .ref a), (1, .int (nI n))]) hx hb dX6_passes_17 rfl hl (by decide) rfl (fun ls hl => ?_)
    refine lv_iconst (v := 0) hx hb dX6_passes_18 (by decide) ?_
    refine lv_istore_n (lv' := [(3, .int 0), (2, .int 0), (0, .ref a), (1, .int (nI n))]) hx hb dX6_passes_19 rfl hl (by decide) rfl (fun ls hl => ?_)
    have loop : ∀ (j : Nat) (i : Nat) (x2 : Int32) (x3 : Int32) (g : SG) (ls : Array Slot) (H : Heap) (locs : List Loc), (n + 1 ≤ i + j) → (i ≤ n) → (x3 = nI i) → (x2 = kLast i (t, P, E)) → (g = oTicks i (t, P, E)) → va_P D vwCl [(a, .inr (6, fs)), (qs, .inl (T 0, 43, .inl (mS g.1 g.2.1))), (qe, .inl (T 1, 12, .inr (.inl (mE g.2.2))))] H → va_D A [(a, .inr (6, fs)), (qs, .inl (T 0, 43, .inl (mS g.1 g.2.1))), (qe, .inl (T 1, 12, .inr (.inl (mE g.2.2))))] → va_S A s.heap H locs → lv_has ls 4 [(0, .ref a), (1, .int (nI n)), (2, .int x2), (3, .int x3)] → W p_ l e rmX6_passes s m args below meth c H locs 0 0 Q (F0 m 20 ls []) := by
      intro j
      induction j with
      | zero => intro i x2 x3 g ls H locs hm hi; exact absurd hm (by omega)
      | succ j ih =>
        intro i x2 x3 g ls H locs hm hi e3 e2 eg hP hD hS hl
        obtain ⟨t0, P0, E0⟩ := g
        have hk0 : ∀ q, q < 4 → kOk (P0 q) := by
          have z := kOk_ticks (g := (t, P, E)) hk i
          rw [← eg] at z
          exact z
        have hP : va_P D vwCl [(a, .inr (6, fs)), (qs, .inl (T 0, 43, .inl (mS t0 P0))), (qe, .inl (T 1, 12, .inr (.inl (mE E0))))] H := hP
        have hD : va_D A [(a, .inr (6, fs)), (qs, .inl (T 0, 43, .inl (mS t0 P0))), (qe, .inl (T 1, 12, .inr (.inl (mE E0))))] := hD
        skip
        refine lv_iload_n hx hb dX6_passes_20 rfl (lv_at hl 3 rfl) ?_
        refine lv_iload_n hx hb dX6_passes_21 rfl (lv_at hl 1 rfl) ?_
        refine lv_icmp_ge (tgt := 55) hx hb dX6_passes_22 (by decide) (fun c22 => ?_) (fun c22 => ?_)
        · skip
          have ei : i = n := by
            rw [e3] at c22
            have := (nI_leI (by omega) (by omega)).mp c22
            omega
          rw [ei] at eg e2
          refine lv_aload_n hx hb dX6_passes_55 rfl (lv_at hl 0 rfl) ?_
          refine va_get (D := D) (ci := 6) (v := .ref qs) (C := RX6) (T := TX6) (N := 22) hx hb hts inwX6_passes_X6 hown hK hP 0 rfl rfl 0 (by decide) (hts (.fieldLink RX6 7 "PlateSlabsModel" "s" "[I") (List.mem_of_getElem? (i := 1) rfl)) (fun _ h9 => h9) hf dX6_passes_56 ?_
          refine lv_iconst (v := 0) hx hb dX6_passes_59 (by decide) ?_
          refine lv_dup2_11 hx hb dX6_passes_60 rfl rfl ?_
          refine va_iald hx hb hK hP 1 0 rfl rfl (in_lit (by decide)) dX6_passes_61 ?_
          refine lv_tpi (congrArg (fun z => (mS t0 P0) z) (cl_0)) ?_
          refine lv_tpi (z := t0 0) (mS_t t0 P0 (by decide)) ?_
          refine lv_iload_n hx hb dX6_passes_62 rfl (lv_at hl 1 rfl) ?_
          refine lv_iadd hx hb dX6_passes_63 ?_
          refine va_iast hx hb hK hP hD hS 1 0 rfl rfl (in_lit (by decide)) dX6_passes_64 (fun H locs hP hD hS => ?_)
          rw [cl_0] at hP hD
          have hP : va_P D vwCl [(a, .inr (6, fs)), (qs, .inl (T 0, 43, .inl (upd (mS t0 P0) 0 ((t0 0) + (nI n))))), (qe, .inl (T 1, 12, .inr (.inl (mE E0))))] H := hP
          have hD : va_D A [(a, .inr (6, fs)), (qs, .inl (T 0, 43, .inl (upd (mS t0 P0) 0 ((t0 0) + (nI n))))), (qe, .inl (T 1, 12, .inr (.inl (mE E0))))] := hD
          rw [mS_upt t0 P0 (by decide)] at hP hD
          obtain ⟨t5, et5⟩ : ∃ z, z = upd t0 0 (t0 0 + nI n) := ⟨_, rfl⟩
          rw [← et5] at hP hD
          have hP : va_P D vwCl [(a, .inr (6, fs)), (qs, .inl (T 0, 43, .inl (mS t5 P0))), (qe, .inl (T 1, 12, .inr (.inl (mE E0))))] H := hP
          have hD : va_D A [(a, .inr (6, fs)), (qs, .inl (T 0, 43, .inl (mS t5 P0))), (qe, .inl (T 1, 12, .inr (.inl (mE E0))))] := hD
          refine lv_iload_n hx hb dX6_passes_65 rfl (lv_at hl 2 rfl) ?_
          exact hret _ _ _ (t5, P0, E0) _ _ dX6_passes_66 hS hP hD (by rw [oPass, if_neg (Int32.not_lt.mpr c10), ← eg, et5, e2])
        · skip
          have hlt : i < n := by
            rw [e3] at c22
            have := mt (nI_leI (a := n) (b := i) (by omega) (by omega)).mpr c22
            omega
          refine lv_aload_n hx hb dX6_passes_25 rfl (lv_at hl 0 rfl) ?_
          refine lv_iconst (v := nI 0) hx hb dX6_passes_26 (by decide) ?_
          refine callMi (As := [.int (nI 0)]) (wr := []) ⟨hx, hb, hml, hown, hts⟩ (mX6_tick l T D a qs qe fs t0 P0 E0 hf he hk0 0 (by decide)) (cwV 1 hts gX6_passes_X6_tick rfl rfl rfl pdX6_tick ⟨Nat.le_of_ble_eq_true rfl, Nat.le_of_ble_eq_true rfl⟩) hP hD hK hS hA xN_bl (fun U _ hW => XN_warm hW hX) (ci := 6) rfl rfl rfl hl.1 rfl rfl (Nat.le_of_ble_eq_true rfl) dX6_passes_27 ⟨Nat.zero_le _, Nat.zero_le _⟩ (fun r1_ u2_ H locs eu2_ hP hD hS hkf => ?_)
          obtain ⟨t1, et1⟩ : ∃ z : Nat → Int32, z = upd t0 2 (t0 2 + kMoved (P0 0)) := ⟨_, rfl⟩
          obtain ⟨P1, eP1⟩ : ∃ z : Nat → Nat → Int32, z = va_up P0 0 (kTickP (P0 0)) := ⟨_, rfl⟩
          obtain ⟨E1, eE1⟩ : ∃ z : Nat → Nat → Int64, z = va_up E0 0 (kTickE (P0 0) (E0 0)) := ⟨_, rfl⟩
          rw [← et1, ← eP1, ← eE1] at hP hD
          have hP : va_P D vwCl [(a, .inr (6, fs)), (qs, .inl (T 0, 43, .inl (mS t1 P1))), (qe, .inl (T 1, 12, .inr (.inl (mE E1))))] H := hP
          have hD : va_D A [(a, .inr (6, fs)), (qs, .inl (T 0, 43, .inl (mS t1 P1))), (qe, .inl (T 1, 12, .inr (.inl (mE E1))))] := hD
          obtain rfl : r1_ = kMoved (P0 0) := eu2_
          have hk1 : ∀ q, q < 4 → kOk (P1 q) := by rw [eP1]; exact kOk_up hk0 (kOk_tick (hk0 0 (by decide)))
          refine lv_aload_n hx hb dX6_passes_30 rfl (lv_at hl 0 rfl) ?_
          refine lv_iconst (v := nI 1) hx hb dX6_passes_31 (by decide) ?_
          refine callMi (As := [.int (nI 1)]) (wr := []) ⟨hx, hb, hml, hown, hts⟩ (mX6_tick l T D a qs qe fs t1 P1 E1 hf he hk1 1 (by decide)) (cwV 1 hts gX6_passes_X6_tick rfl rfl rfl pdX6_tick ⟨Nat.le_of_ble_eq_true rfl, Nat.le_of_ble_eq_true rfl⟩) hP hD hK hS hA xN_bl (fun U _ hW => XN_warm hW hX) (ci := 6) rfl rfl rfl hl.1 rfl rfl (Nat.le_of_ble_eq_true rfl) dX6_passes_32 ⟨Nat.zero_le _, Nat.zero_le _⟩ (fun r3_ u4_ H locs eu4_ hP hD hS hkf => ?_)
          obtain ⟨t2, et2⟩ : ∃ z : Nat → Int32, z = upd t1 2 (t1 2 + kMoved (P1 1)) := ⟨_, rfl⟩
          obtain ⟨P2, eP2⟩ : ∃ z : Nat → Nat → Int32, z = va_up P1 1 (kTickP (P1 1)) := ⟨_, rfl⟩
          obtain ⟨E2, eE2⟩ : ∃ z : Nat → Nat → Int64, z = va_up E1 1 (kTickE (P1 1) (E1 1)) := ⟨_, rfl⟩
          rw [← et2, ← eP2, ← eE2] at hP hD
          have hP : va_P D vwCl [(a, .inr (6, fs)), (qs, .inl (T 0, 43, .inl (mS t2 P2))), (qe, .inl (T 1, 12, .inr (.inl (mE E2))))] H := hP
          have hD : va_D A [(a, .inr (6, fs)), (qs, .inl (T 0, 43, .inl (mS t2 P2))), (qe, .inl (T 1, 12, .inr (.inl (mE E2))))] := hD
          obtain rfl : r3_ = kMoved (P1 1) := eu4_
          have hk2 : ∀ q, q < 4 → kOk (P2 q) := by rw [eP2]; exact kOk_up hk1 (kOk_tick (hk1 1 (by decide)))
          refine lv_iadd hx hb dX6_passes_35 ?_
          refine lv_aload_n hx hb dX6_passes_36 rfl (lv_at hl 0 rfl) ?_
          refine lv_iconst (v := nI 2) hx hb dX6_passes_37 (by decide) ?_
          refine callMi (As := [.int (nI 2)]) (wr := []) ⟨hx, hb, hml, hown, hts⟩ (mX6_tick l T D a qs qe fs t2 P2 E2 hf he hk2 2 (by decide)) (cwV 1 hts gX6_passes_X6_tick rfl rfl rfl pdX6_tick ⟨Nat.le_of_ble_eq_true rfl, Nat.le_of_ble_eq_true rfl⟩) hP hD hK hS hA xN_bl (fun U _ hW => XN_warm hW hX) (ci := 6) rfl rfl rfl hl.1 rfl rfl (Nat.le_of_ble_eq_true rfl) dX6_passes_38 ⟨Nat.zero_le _, Nat.zero_le _⟩ (fun r5_ u6_ H locs eu6_ hP hD hS hkf => ?_)
          obtain ⟨t3, et3⟩ : ∃ z : Nat → Int32, z = upd t2 2 (t2 2 + kMoved (P2 2)) := ⟨_, rfl⟩
          obtain ⟨P3, eP3⟩ : ∃ z : Nat → Nat → Int32, z = va_up P2 2 (kTickP (P2 2)) := ⟨_, rfl⟩
          obtain ⟨E3, eE3⟩ : ∃ z : Nat → Nat → Int64, z = va_up E2 2 (kTickE (P2 2) (E2 2)) := ⟨_, rfl⟩
          rw [← et3, ← eP3, ← eE3] at hP hD
          have hP : va_P D vwCl [(a, .inr (6, fs)), (qs, .inl (T 0, 43, .inl (mS t3 P3))), (qe, .inl (T 1, 12, .inr (.inl (mE E3))))] H := hP
          have hD : va_D A [(a, .inr (6, fs)), (qs, .inl (T 0, 43, .inl (mS t3 P3))), (qe, .inl (T 1, 12, .inr (.inl (mE E3))))] := hD
          obtain rfl : r5_ = kMoved (P2 2) := eu6_
          have hk3 : ∀ q, q < 4 → kOk (P3 q) := by rw [eP3]; exact kOk_up hk2 (kOk_tick (hk2 2 (by decide)))
          refine lv_iadd hx hb dX6_passes_41 ?_
          refine lv_aload_n hx hb dX6_passes_42 rfl (lv_at hl 0 rfl) ?_
          refine lv_iconst (v := nI 3) hx hb dX6_passes_43 (by decide) ?_
          refine callMi (As := [.int (nI 3)]) (wr := []) ⟨hx, hb, hml, hown, hts⟩ (mX6_tick l T D a qs qe fs t3 P3 E3 hf he hk3 3 (by decide)) (cwV 1 hts gX6_passes_X6_tick rfl rfl rfl pdX6_tick ⟨Nat.le_of_ble_eq_true rfl, Nat.le_of_ble_eq_true rfl⟩) hP hD hK hS hA xN_bl (fun U _ hW => XN_warm hW hX) (ci := 6) rfl rfl rfl hl.1 rfl rfl (Nat.le_of_ble_eq_true rfl) dX6_passes_44 ⟨Nat.zero_le _, Nat.zero_le _⟩ (fun r7_ u8_ H locs eu8_ hP hD hS hkf => ?_)
          obtain ⟨t4, et4⟩ : ∃ z : Nat → Int32, z = upd t3 2 (t3 2 + kMoved (P3 3)) := ⟨_, rfl⟩
          obtain ⟨P4, eP4⟩ : ∃ z : Nat → Nat → Int32, z = va_up P3 3 (kTickP (P3 3)) := ⟨_, rfl⟩
          obtain ⟨E4, eE4⟩ : ∃ z : Nat → Nat → Int64, z = va_up E3 3 (kTickE (P3 3) (E3 3)) := ⟨_, rfl⟩
          rw [← et4, ← eP4, ← eE4] at hP hD
          have hP : va_P D vwCl [(a, .inr (6, fs)), (qs, .inl (T 0, 43, .inl (mS t4 P4))), (qe, .inl (T 1, 12, .inr (.inl (mE E4))))] H := hP
          have hD : va_D A [(a, .inr (6, fs)), (qs, .inl (T 0, 43, .inl (mS t4 P4))), (qe, .inl (T 1, 12, .inr (.inl (mE E4))))] := hD
          obtain rfl : r7_ = kMoved (P3 3) := eu8_
          refine lv_iadd hx hb dX6_passes_47 ?_
          refine lv_topi (fun x3_ ex3_ => ?_)
          refine lv_istore_n (lv' := [(2, .int x3_), (0, .ref a), (1, .int (nI n)), (3, .int x3)]) hx hb dX6_passes_48 rfl hl (by decide) rfl (fun ls hl => ?_)
          obtain ⟨x4_, ex4_⟩ : ∃ y : Int32, y = x3 + 1 := ⟨_, rfl⟩
          refine lv_iinc (v := x4_) (lv' := [(3, .int x4_), (2, .int x3_), (0, .ref a), (1, .int (nI n))]) hx hb dX6_passes_49 hl (k := 3) rfl (by rw [ex4_]; rfl) (by decide) rfl (fun ls hl => ?_)
          refine lv_goto (tgt := 20) hx hb dX6_passes_52 (by decide) ?_
          have fm : kMoved (P0 0) + kMoved (P1 1) + kMoved (P2 2) + kMoved (P3 3) = kMv P0 := by rw [eP3, eP2, eP1]; rfl
          have ft : t4 = upd t0 2 (t0 2 + kMv P0) := by rw [← fm, et4, et3, et2, et1, upd_upd, upd_upd, upd_upd, upd_0, upd_0, upd_0, Int32.add_assoc, Int32.add_assoc, Int32.add_assoc, ← Int32.add_assoc (kMoved (P0 0)), ← Int32.add_assoc (kMoved (P0 0) + kMoved (P1 1))]
          have fP : P4 = kAll P0 := by rw [eP4, eP3, eP2, eP1]; rfl
          have fE : E4 = kAllE P0 E0 := by rw [eE4, eE3, eE2, eE1, eP3, eP2, eP1]; rfl
          exact ih (i + 1) _ _ (t4, P4, E4) ls _ _ (by omega) (by omega) (by rw [ex4_, e3, nI_1]) (by rw [ex3_, fm]; show kMv P0 = kMv (oTicks i (t, P, E)).2.1; rw [← eg]) (by show _ = oTick (oTicks i (t, P, E)); rw [← eg, ft, fP, fE]; rfl) hP hD hS (lv_sub hl [2, 3, 1, 0] rfl)
    exact loop (n + 1) 0 0 0 (t, P, E) _ _ _ (by omega) (Nat.zero_le _) rfl rfl rfl hP hD hS (lv_sub hl [2, 3, 1, 0] rfl)
  · skip
    refine lv_bipush (v := (-3)) hx hb dX6_passes_13 (by decide) ?_
    exact hret _ _ _ (t, P, E) _ _ dX6_passes_15 hS hP hD (by rw [oPass, if_pos (Int32.not_le.mp c10)])

def rmX6_couples : Room := { frames := 5, cells := 0, slots := 0, locals := 109 }
set_option maxHeartbeats 4000000 in
set_option maxRecDepth 100000 in
theorem mX6_couples (l : Launch) (T : Nat → ClassId) (D : va_G) (a qs qe : Nat) (fs : List Value) (t : Nat → Int32) (P : Nat → Nat → Int32) (E : Nat → Nat → Int64) (hf : fs[0]? = some (.ref qs)) (he : fs[1]? = some (.ref qe)) (hk : ∀ p, p < 4 → kOk (P p)) (p : Nat) (hp : p < 4) (q : Nat) (hq : q < 4) : MuI l yX6_couples wsX6_couples rmX6_couples T xN D [.ref a, .int (nI p), .int (nI q)] [(a, .inr (6, fs)), (qs, .inl (T 0, 43, .inl (mS t P))), (qe, .inl (T 1, 12, .inr (.inl (mE E))))] (S := SG) (fun r u => (r, u) = oCpl p q (t, P, E)) (fun u => moN T a qs qe fs u.1 u.2.1 u.2.2) 0 0 := by
  refine met_mi (cc := cX6_couples) (maxL := 11) (by decide) rfl (Nat.le_of_ble_eq_true rfl) ?_
  intro p_ e s m args below meth c ls A Q hx hb hts hown hml hX hP hD hK hS hA hl hret
  have hl : lv_has ls 11 [(0, .ref a), (1, .int (nI p)), (2, .int (nI q))] := hl
  refine lv_iload_n hx hb dX6_couples_0 rfl (lv_at hl 1 rfl) ?_
  refine lv_iload_n hx hb dX6_couples_1 rfl (lv_at hl 2 rfl) ?_
  refine lv_icmp_ne (tgt := 8) hx hb dX6_couples_2 (by decide) (fun c2 => ?_) (fun c2 => ?_)
  · skip
    have hpq : ¬ p = q := fun z => c2 (by rw [z])
    refine lv_aload_n hx hb dX6_couples_8 rfl (lv_at hl 0 rfl) ?_
    refine lv_iload_n hx hb dX6_couples_9 rfl (lv_at hl 1 rfl) ?_
    refine callRi (As := [.int (nI p)]) ⟨hx, hb, hml, hown, hts⟩ (mX6_isOn l T D a qs fs t P hf p hp ) (cwV 1 hts gX6_couples_X6_isOn rfl rfl rfl pdX6_isOn ⟨Nat.le_of_ble_eq_true rfl, Nat.le_of_ble_eq_true rfl⟩) (hP.sub [0, 1] rfl) hK xN_bl (fun U _ hW => XN_warm hW hX) (ci := 6) rfl rfl rfl hl.1 rfl rfl (Nat.le_of_ble_eq_true rfl) dX6_couples_10 ⟨Nat.zero_le _, Nat.zero_le _⟩ (fun r1_ er1_ => ?_)
    obtain rfl : r1_ = bI (P p 9 = 1) := er1_
    refine lv_if_ne (tgt := 24) hx hb dX6_couples_13 (by decide) (fun c13 => ?_) (fun c13 => ?_)
    · skip
      have c13 := bI_n0 c13
      refine lv_bipush (v := (-4)) hx hb dX6_couples_24 (by decide) ?_
      exact hret _ _ _ (t, P, E) _ _ dX6_couples_26 hS hP hD (by rw [oCpl, if_neg hpq, if_pos (by exact Or.inl c13)])
    · skip
      have c13 := bI_0 c13
      refine lv_aload_n hx hb dX6_couples_16 rfl (lv_at hl 0 rfl) ?_
      refine lv_iload_n hx hb dX6_couples_17 rfl (lv_at hl 2 rfl) ?_
      refine callRi (As := [.int (nI q)]) ⟨hx, hb, hml, hown, hts⟩ (mX6_isOn l T D a qs fs t P hf q hq ) (cwV 1 hts gX6_couples_X6_isOn rfl rfl rfl pdX6_isOn ⟨Nat.le_of_ble_eq_true rfl, Nat.le_of_ble_eq_true rfl⟩) (hP.sub [0, 1] rfl) hK xN_bl (fun U _ hW => XN_warm hW hX) (ci := 6) rfl rfl rfl hl.1 rfl rfl (Nat.le_of_ble_eq_true rfl) dX6_couples_18 ⟨Nat.zero_le _, Nat.zero_le _⟩ (fun r2_ er2_ => ?_)
      obtain rfl : r2_ = bI (P q 9 = 1) := er2_
      refine lv_if_eq (tgt := 27) hx hb dX6_couples_21 (by decide) (fun c21 => ?_) (fun c21 => ?_)
      · skip
        have c21 := bI_0 c21
        have hof : ¬ (P p 9 = 1 ∨ P q 9 = 1) := fun z => z.elim c13 c21
        refine lv_aload_n hx hb dX6_couples_27 rfl (lv_at hl 0 rfl) ?_
        refine lv_iload_n hx hb dX6_couples_28 rfl (lv_at hl 1 rfl) ?_
        refine lv_bipush (v := nI 7) hx hb dX6_couples_29 (by decide) ?_
        refine callRi (As := [.int (nI p), .int (nI 7)]) ⟨hx, hb, hml, hown, hts⟩ (mX6_of l T D a qs fs t P hf p hp 7 (by decide)) (cwV 2 hts gX6_couples_X6_of rfl rfl rfl pdX6_of ⟨Nat.le_of_ble_eq_true rfl, Nat.le_of_ble_eq_true rfl⟩) (hP.sub [0, 1] rfl) hK xN_bl (fun U _ hW => XN_warm hW hX) (ci := 6) rfl rfl rfl hl.1 rfl rfl (Nat.le_of_ble_eq_true rfl) dX6_couples_31 ⟨Nat.zero_le _, Nat.zero_le _⟩ (fun r3_ er3_ => ?_)
        obtain rfl : r3_ = P p 7 := er3_
        refine lv_aload_n hx hb dX6_couples_34 rfl (lv_at hl 0 rfl) ?_
        refine lv_iload_n hx hb dX6_couples_35 rfl (lv_at hl 2 rfl) ?_
        refine lv_bipush (v := nI 7) hx hb dX6_couples_36 (by decide) ?_
        refine callRi (As := [.int (nI q), .int (nI 7)]) ⟨hx, hb, hml, hown, hts⟩ (mX6_of l T D a qs fs t P hf q hq 7 (by decide)) (cwV 2 hts gX6_couples_X6_of rfl rfl rfl pdX6_of ⟨Nat.le_of_ble_eq_true rfl, Nat.le_of_ble_eq_true rfl⟩) (hP.sub [0, 1] rfl) hK xN_bl (fun U _ hW => XN_warm hW hX) (ci := 6) rfl rfl rfl hl.1 rfl rfl (Nat.le_of_ble_eq_true rfl) dX6_couples_38 ⟨Nat.zero_le _, Nat.zero_le _⟩ (fun r4_ er4_ => ?_)
        obtain rfl : r4_ = P q 7 := er4_
        refine lv_iadd hx hb dX6_couples_41 ?_
        refine lv_i2l hx hb dX6_couples_42 rfl ?_
        refine lv_topl (fun x3_ ex3_ => ?_)
        refine lv_lstore_n (lv' := [(3, .long x3_), (0, .ref a), (1, .int (nI p)), (2, .int (nI q))]) hx hb dX6_couples_43 rfl hl (by decide) rfl (fun ls hl => ?_)
        refine lv_lload_n hx hb dX6_couples_44 rfl (lv_at hl 0 rfl) ?_
        refine lv_aload_n hx hb dX6_couples_45 rfl (lv_at hl 1 rfl) ?_
        refine lv_iload_n hx hb dX6_couples_46 rfl (lv_at hl 2 rfl) ?_
        refine callRi (As := [.int (nI p)]) ⟨hx, hb, hml, hown, hts⟩ (mX6_capacityNow l T D a qs fs t P hf p hp ) (cwV 1 hts gX6_couples_X6_capacityNow rfl rfl rfl pdX6_capacityNow ⟨Nat.le_of_ble_eq_true rfl, Nat.le_of_ble_eq_true rfl⟩) (hP.sub [0, 1] rfl) hK xN_bl (fun U _ hW => XN_warm hW hX) (ci := 6) rfl rfl rfl hl.1 rfl rfl (Nat.le_of_ble_eq_true rfl) dX6_couples_47 ⟨Nat.zero_le _, Nat.zero_le _⟩ (fun r5_ er5_ => ?_)
        obtain rfl : r5_ = kCap (P p) (P p 6) := er5_
        refine lv_i2l hx hb dX6_couples_50 rfl ?_
        refine lv_lmul hx hb dX6_couples_51 ?_
        refine lv_aload_n hx hb dX6_couples_52 rfl (lv_at hl 1 rfl) ?_
        refine lv_iload_n hx hb dX6_couples_53 rfl (lv_at hl 2 rfl) ?_
        refine callRi (As := [.int (nI p)]) ⟨hx, hb, hml, hown, hts⟩ (mX6_capacityNow l T D a qs fs t P hf p hp ) (cwV 1 hts gX6_couples_X6_capacityNow rfl rfl rfl pdX6_capacityNow ⟨Nat.le_of_ble_eq_true rfl, Nat.le_of_ble_eq_true rfl⟩) (hP.sub [0, 1] rfl) hK xN_bl (fun U _ hW => XN_warm hW hX) (ci := 6) rfl rfl rfl hl.1 rfl rfl (Nat.le_of_ble_eq_true rfl) dX6_couples_54 ⟨Nat.zero_le _, Nat.zero_le _⟩ (fun r6_ er6_ => ?_)
        obtain rfl : r6_ = kCap (P p) (P p 6) := er6_
        refine lv_aload_n hx hb dX6_couples_57 rfl (lv_at hl 1 rfl) ?_
        refine lv_iload_n hx hb dX6_couples_58 rfl (lv_at hl 3 rfl) ?_
        refine callRi (As := [.int (nI q)]) ⟨hx, hb, hml, hown, hts⟩ (mX6_capacityNow l T D a qs fs t P hf q hq ) (cwV 1 hts gX6_couples_X6_capacityNow rfl rfl rfl pdX6_capacityNow ⟨Nat.le_of_ble_eq_true rfl, Nat.le_of_ble_eq_true rfl⟩) (hP.sub [0, 1] rfl) hK xN_bl (fun U _ hW => XN_warm hW hX) (ci := 6) rfl rfl rfl hl.1 rfl rfl (Nat.le_of_ble_eq_true rfl) dX6_couples_59 ⟨Nat.zero_le _, Nat.zero_le _⟩ (fun r7_ er7_ => ?_)
        obtain rfl : r7_ = kCap (P q) (P q 6) := er7_
        refine lv_iadd hx hb dX6_couples_62 ?_
        refine lv_i2l hx hb dX6_couples_63 rfl ?_
        refine lv_ldiv hx hb dX6_couples_64 (kCap_ne2 (hk p hp) (hk q hq)) ?_
        refine lv_l2i hx hb dX6_couples_65 rfl ?_
        refine lv_topi (fun x5_ ex5_ => ?_)
        refine lv_istore (lv' := [(5, .int x5_), (3, .long x3_), (0, .ref a), (1, .int (nI p)), (2, .int (nI q))]) hx hb dX6_couples_66 hl (by decide) rfl (fun ls hl => ?_)
        have f5 : x5_ = kMine (P p) (P q) := by rw [ex5_, ex3_]; rfl
        refine lv_lload_n hx hb dX6_couples_68 rfl (lv_at hl 1 rfl) ?_
        refine lv_l2i hx hb dX6_couples_69 rfl ?_
        refine lv_iload hx hb dX6_couples_70 (lv_at hl 0 rfl) ?_
        refine lv_isub hx hb dX6_couples_72 ?_
        refine lv_topi (fun x6_ ex6_ => ?_)
        refine lv_istore (lv' := [(6, .int x6_), (5, .int x5_), (3, .long x3_), (0, .ref a), (1, .int (nI p)), (2, .int (nI q))]) hx hb dX6_couples_73 hl (by decide) rfl (fun ls hl => ?_)
        have f6 : x6_ = kRest (P p) (P q) := by rw [ex6_, f5, ex3_]; rfl
        refine lv_iload hx hb dX6_couples_75 (lv_at hl 1 rfl) ?_
        refine lv_ldc (v := 200000) hx hb hown (hts (.constant RX6 111 (200000)) (List.mem_of_getElem? (i := 1) rfl)) dX6_couples_77 ?_
        refine lv_icmp_gt (tgt := 89) hx hb dX6_couples_79 (by decide) (fun c79 => ?_) (fun c79 => ?_)
        · skip
          refine lv_bipush (v := (-3)) hx hb dX6_couples_89 (by decide) ?_
          exact hret _ _ _ (t, P, E) _ _ dX6_couples_91 hS hP hD (by rw [oCpl, if_neg hpq, if_neg hof, if_pos (by rw [← f5, ← f6]; exact Or.inl c79)])
        · skip
          refine lv_iload hx hb dX6_couples_82 (lv_at hl 0 rfl) ?_
          refine lv_ldc (v := 200000) hx hb hown (hts (.constant RX6 111 (200000)) (List.mem_of_getElem? (i := 1) rfl)) dX6_couples_84 ?_
          refine lv_icmp_le (tgt := 92) hx hb dX6_couples_86 (by decide) (fun c86 => ?_) (fun c86 => ?_)
          · skip
            have hfu : ¬ (200000 < kMine (P p) (P q) ∨ 200000 < kRest (P p) (P q)) := by
              rw [← f5, ← f6]
              exact fun z => z.elim c79 (fun z2 => absurd z2 (Int32.not_lt.mpr c86))
            refine lv_iload hx hb dX6_couples_92 (lv_at hl 1 rfl) ?_
            refine lv_aload_n hx hb dX6_couples_94 rfl (lv_at hl 3 rfl) ?_
            refine lv_iload_n hx hb dX6_couples_95 rfl (lv_at hl 4 rfl) ?_
            refine lv_bipush (v := nI 7) hx hb dX6_couples_96 (by decide) ?_
            refine callRi (As := [.int (nI p), .int (nI 7)]) ⟨hx, hb, hml, hown, hts⟩ (mX6_of l T D a qs fs t P hf p hp 7 (by decide)) (cwV 2 hts gX6_couples_X6_of rfl rfl rfl pdX6_of ⟨Nat.le_of_ble_eq_true rfl, Nat.le_of_ble_eq_true rfl⟩) (hP.sub [0, 1] rfl) hK xN_bl (fun U _ hW => XN_warm hW hX) (ci := 6) rfl rfl rfl hl.1 rfl rfl (Nat.le_of_ble_eq_true rfl) dX6_couples_98 ⟨Nat.zero_le _, Nat.zero_le _⟩ (fun r8_ er8_ => ?_)
            obtain rfl : r8_ = P p 7 := er8_
            refine lv_icmp_ne (tgt := 107) hx hb dX6_couples_101 (by decide) (fun c101 => ?_) (fun c101 => ?_)
            · skip
              have hnm : ¬ kMine (P p) (P q) = P p 7 := by
                rw [← f5]
                exact c101
              refine lv_aload_n hx hb dX6_couples_107 rfl (lv_at hl 3 rfl) ?_
              refine lv_iload_n hx hb dX6_couples_108 rfl (lv_at hl 4 rfl) ?_
              refine callRl (As := [.int (nI p)]) ⟨hx, hb, hml, hown, hts⟩ (mX6_stored l T D a qs fs t P hf p hp (hk p hp)) (cwV 1 hts gX6_couples_X6_stored rfl rfl rfl pdX6_stored ⟨Nat.le_of_ble_eq_true rfl, Nat.le_of_ble_eq_true rfl⟩) (hP.sub [0, 1] rfl) hK xN_bl (fun U _ hW => XN_warm hW hX) (ci := 6) rfl rfl rfl hl.1 rfl rfl (Nat.le_of_ble_eq_true rfl) dX6_couples_109 ⟨Nat.zero_le _, Nat.zero_le _⟩ (fun r9_ er9_ => ?_)
              obtain rfl : r9_ = kStored (P p) := er9_
              refine lv_aload_n hx hb dX6_couples_112 rfl (lv_at hl 3 rfl) ?_
              refine lv_iload_n hx hb dX6_couples_113 rfl (lv_at hl 5 rfl) ?_
              refine callRl (As := [.int (nI q)]) ⟨hx, hb, hml, hown, hts⟩ (mX6_stored l T D a qs fs t P hf q hq (hk q hq)) (cwV 1 hts gX6_couples_X6_stored rfl rfl rfl pdX6_stored ⟨Nat.le_of_ble_eq_true rfl, Nat.le_of_ble_eq_true rfl⟩) (hP.sub [0, 1] rfl) hK xN_bl (fun U _ hW => XN_warm hW hX) (ci := 6) rfl rfl rfl hl.1 rfl rfl (Nat.le_of_ble_eq_true rfl) dX6_couples_114 ⟨Nat.zero_le _, Nat.zero_le _⟩ (fun r10_ er10_ => ?_)
              obtain rfl : r10_ = kStored (P q) := er10_
              refine lv_ladd hx hb dX6_couples_117 ?_
              refine lv_topl (fun x7_ ex7_ => ?_)
              refine lv_lstore (lv' := [(7, .long x7_), (6, .int x6_), (5, .int x5_), (3, .long x3_), (0, .ref a), (1, .int (nI p)), (2, .int (nI q))]) hx hb dX6_couples_118 hl (by decide) rfl (fun ls hl => ?_)
              refine lv_aload_n hx hb dX6_couples_120 rfl (lv_at hl 4 rfl) ?_
              refine va_get (D := D) (ci := 6) (v := .ref qs) (C := RX6) (T := TX6) (N := 22) hx hb hts inwX6_couples_X6 hown hK hP 0 rfl rfl 0 (by decide) (hts (.fieldLink RX6 7 "PlateSlabsModel" "s" "[I") (List.mem_of_getElem? (i := 2) rfl)) (fun _ h9 => h9) hf dX6_couples_121 ?_
              refine lv_iload_n hx hb dX6_couples_124 rfl (lv_at hl 5 rfl) ?_
              refine lv_bipush (v := nI 7) hx hb dX6_couples_125 (by decide) ?_
              refine callSi (As := [.int (nI p), .int (nI 7)]) ⟨hx, hb, hml, hown, hts⟩ (mX6_at l T D p 7) (va_cwS 2 hts gX6_couples_X6_at rfl rfl rfl (pdX6_at).2 ⟨Nat.le_of_ble_eq_true rfl, Nat.le_of_ble_eq_true rfl⟩) wP_nil hK xN_bl (fun U _ hW => XN_warm hW hX) hl.1 rfl rfl (Nat.le_of_ble_eq_true rfl) dX6_couples_127 ⟨Nat.zero_le _, Nat.zero_le _⟩ (fun r11_ er11_ => ?_)
              obtain rfl : r11_ = nI (3 + 10 * p + 7) := er11_
              refine lv_iload hx hb dX6_couples_130 (lv_at hl 2 rfl) ?_
              refine va_iast hx hb hK hP hD hS 1 0 rfl rfl (vp_in_nI (by omega) (by decide)) dX6_couples_132 (fun H locs hP hD hS => ?_)
              rw [nI_clamp (show 3 + 10 * p + 7 < 2 ^ 31 by omega)] at hP hD
              have hP : va_P D vwCl [(a, .inr (6, fs)), (qs, .inl (T 0, 43, .inl (upd (mS t P) (3 + 10 * p + 7) x5_))), (qe, .inl (T 1, 12, .inr (.inl (mE E))))] H := hP
              have hD : va_D A [(a, .inr (6, fs)), (qs, .inl (T 0, 43, .inl (upd (mS t P) (3 + 10 * p + 7) x5_))), (qe, .inl (T 1, 12, .inr (.inl (mE E))))] := hD
              rw [mS_up t P (by decide)] at hP hD
              obtain ⟨P1, eP1⟩ : ∃ z, z = va_up P p (upd (P p) 7 x5_) := ⟨_, rfl⟩
              rw [← eP1] at hP hD
              have hP : va_P D vwCl [(a, .inr (6, fs)), (qs, .inl (T 0, 43, .inl (mS t P1))), (qe, .inl (T 1, 12, .inr (.inl (mE E))))] H := hP
              have hD : va_D A [(a, .inr (6, fs)), (qs, .inl (T 0, 43, .inl (mS t P1))), (qe, .inl (T 1, 12, .inr (.inl (mE E))))] := hD
              have f1p : P1 p = upd (P p) 7 x5_ := by rw [eP1, up_0]
              have f1q : P1 q = P q := by rw [eP1, up_n (fun z => hpq z.symm)]
              refine lv_aload_n hx hb dX6_couples_133 rfl (lv_at hl 4 rfl) ?_
              refine va_get (D := D) (ci := 6) (v := .ref qs) (C := RX6) (T := TX6) (N := 22) hx hb hts inwX6_couples_X6 hown hK hP 0 rfl rfl 0 (by decide) (hts (.fieldLink RX6 7 "PlateSlabsModel" "s" "[I") (List.mem_of_getElem? (i := 2) rfl)) (fun _ h9 => h9) hf dX6_couples_134 ?_
              refine lv_iload_n hx hb dX6_couples_137 rfl (lv_at hl 6 rfl) ?_
              refine lv_bipush (v := nI 7) hx hb dX6_couples_138 (by decide) ?_
              refine callSi (As := [.int (nI q), .int (nI 7)]) ⟨hx, hb, hml, hown, hts⟩ (mX6_at l T D q 7) (va_cwS 2 hts gX6_couples_X6_at rfl rfl rfl (pdX6_at).2 ⟨Nat.le_of_ble_eq_true rfl, Nat.le_of_ble_eq_true rfl⟩) wP_nil hK xN_bl (fun U _ hW => XN_warm hW hX) hl.1 rfl rfl (Nat.le_of_ble_eq_true rfl) dX6_couples_140 ⟨Nat.zero_le _, Nat.zero_le _⟩ (fun r12_ er12_ => ?_)
              obtain rfl : r12_ = nI (3 + 10 * q + 7) := er12_
              refine lv_iload hx hb dX6_couples_143 (lv_at hl 1 rfl) ?_
              refine va_iast hx hb hK hP hD hS 1 0 rfl rfl (vp_in_nI (by omega) (by decide)) dX6_couples_145 (fun H locs hP hD hS => ?_)
              rw [nI_clamp (show 3 + 10 * q + 7 < 2 ^ 31 by omega)] at hP hD
              have hP : va_P D vwCl [(a, .inr (6, fs)), (qs, .inl (T 0, 43, .inl (upd (mS t P1) (3 + 10 * q + 7) x6_))), (qe, .inl (T 1, 12, .inr (.inl (mE E))))] H := hP
              have hD : va_D A [(a, .inr (6, fs)), (qs, .inl (T 0, 43, .inl (upd (mS t P1) (3 + 10 * q + 7) x6_))), (qe, .inl (T 1, 12, .inr (.inl (mE E))))] := hD
              rw [mS_up t P1 (by decide)] at hP hD
              obtain ⟨P2, eP2⟩ : ∃ z, z = va_up P1 q (upd (P1 q) 7 x6_) := ⟨_, rfl⟩
              rw [← eP2] at hP hD
              have hP : va_P D vwCl [(a, .inr (6, fs)), (qs, .inl (T 0, 43, .inl (mS t P2))), (qe, .inl (T 1, 12, .inr (.inl (mE E))))] H := hP
              have hD : va_D A [(a, .inr (6, fs)), (qs, .inl (T 0, 43, .inl (mS t P2))), (qe, .inl (T 1, 12, .inr (.inl (mE E))))] := hD
              have f2p : P2 p = upd (P p) 7 x5_ := by rw [eP2, up_n hpq, f1p]
              have f2q : P2 q = upd (P q) 7 x6_ := by rw [eP2, up_0, f1q]
              have hx5 : 0 ≤ x5_.toInt ∧ x5_.toInt ≤ 200000 := by
                rw [f5]
                exact kMine_bd (hk p hp) (hk q hq) hfu
              have hx6 : 0 ≤ x6_.toInt ∧ x6_.toInt ≤ 200000 := by
                rw [f6]
                exact kRest_bd (hk p hp) (hk q hq) hfu
              have hk2p : kOk (P2 p) := by rw [f2p]; exact kOk_u7 (hk p hp) hx5
              have hk2q : kOk (P2 q) := by rw [f2q]; exact kOk_u7 (hk q hq) hx6
              refine lv_lload hx hb dX6_couples_146 (lv_at hl 0 rfl) ?_
              refine lv_aload_n hx hb dX6_couples_148 rfl (lv_at hl 4 rfl) ?_
              refine lv_iload_n hx hb dX6_couples_149 rfl (lv_at hl 5 rfl) ?_
              refine callRl (As := [.int (nI p)]) ⟨hx, hb, hml, hown, hts⟩ (mX6_stored l T D a qs fs t P2 hf p hp hk2p) (cwV 1 hts gX6_couples_X6_stored rfl rfl rfl pdX6_stored ⟨Nat.le_of_ble_eq_true rfl, Nat.le_of_ble_eq_true rfl⟩) (hP.sub [0, 1] rfl) hK xN_bl (fun U _ hW => XN_warm hW hX) (ci := 6) rfl rfl rfl hl.1 rfl rfl (Nat.le_of_ble_eq_true rfl) dX6_couples_150 ⟨Nat.zero_le _, Nat.zero_le _⟩ (fun r13_ er13_ => ?_)
              obtain rfl : r13_ = kStored (P2 p) := er13_
              refine lv_lsub hx hb dX6_couples_153 ?_
              refine lv_aload_n hx hb dX6_couples_154 rfl (lv_at hl 4 rfl) ?_
              refine lv_iload_n hx hb dX6_couples_155 rfl (lv_at hl 6 rfl) ?_
              refine callRl (As := [.int (nI q)]) ⟨hx, hb, hml, hown, hts⟩ (mX6_stored l T D a qs fs t P2 hf q hq hk2q) (cwV 1 hts gX6_couples_X6_stored rfl rfl rfl pdX6_stored ⟨Nat.le_of_ble_eq_true rfl, Nat.le_of_ble_eq_true rfl⟩) (hP.sub [0, 1] rfl) hK xN_bl (fun U _ hW => XN_warm hW hX) (ci := 6) rfl rfl rfl hl.1 rfl rfl (Nat.le_of_ble_eq_true rfl) dX6_couples_156 ⟨Nat.zero_le _, Nat.zero_le _⟩ (fun r14_ er14_ => ?_)
              obtain rfl : r14_ = kStored (P2 q) := er14_
              refine lv_lsub hx hb dX6_couples_159 ?_
              refine lv_topl (fun x9_ ex9_ => ?_)
              refine lv_lstore (lv' := [(9, .long x9_), (7, .long x7_), (6, .int x6_), (5, .int x5_), (3, .long x3_), (0, .ref a), (1, .int (nI p)), (2, .int (nI q))]) hx hb dX6_couples_160 hl (by decide) rfl (fun ls hl => ?_)
              have f9 : x9_ = kLoss (P p) (P q) := by rw [ex9_, ex7_, f2p, f2q, f5, f6]; rfl
              refine lv_aload_n hx hb dX6_couples_162 rfl (lv_at hl 5 rfl) ?_
              refine va_get (D := D) (ci := 6) (v := .ref qe) (C := RX6) (T := TX6) (N := 22) hx hb hts inwX6_couples_X6 hown hK hP 0 rfl rfl 1 (by decide) (hts (.fieldLink RX6 13 "PlateSlabsModel" "e" "[J") (List.mem_of_getElem? (i := 3) rfl)) (fun _ h9 => h9) he dX6_couples_163 ?_
              refine lv_iconst (v := nI 3) hx hb dX6_couples_166 (by decide) ?_
              refine lv_iload_n hx hb dX6_couples_167 rfl (lv_at hl 6 rfl) ?_
              refine lv_imul hx hb dX6_couples_168 ?_
              refine lv_iconst (v := nI 2) hx hb dX6_couples_169 (by decide) ?_
              refine lv_iadd hx hb dX6_couples_170 ?_
              refine lv_tpi (z := nI (3 * p + 2)) (by rw [pk_mul, nI_add]) ?_
              refine lv_dup2_11 hx hb dX6_couples_171 rfl rfl ?_
              refine va_lald hx hb hK hP 2 1 rfl rfl (vp_in_nI (by omega) (by decide)) dX6_couples_172 ?_
              refine lv_tpl (congrArg (fun z => (mE E) z) (nI_clamp (by omega))) ?_
              refine lv_tpl (z := E p 2) (mE_at E (by decide)) ?_
              refine lv_lload hx hb dX6_couples_173 (lv_at hl 0 rfl) ?_
              refine callSl (As := [.long x9_]) ⟨hx, hb, hml, hown, hts⟩ (mX6_half l T D x9_) (va_cwS 1 hts gX6_couples_X6_half rfl rfl rfl (pdX6_half).2 ⟨Nat.le_of_ble_eq_true rfl, Nat.le_of_ble_eq_true rfl⟩) wP_nil hK xN_bl (fun U _ hW => XN_warm hW hX) hl.1 rfl rfl (Nat.le_of_ble_eq_true rfl) dX6_couples_175 ⟨Nat.zero_le _, Nat.zero_le _⟩ (fun r15_ er15_ => ?_)
              obtain rfl : r15_ = kHalf x9_ := er15_
              refine lv_ladd hx hb dX6_couples_178 ?_
              refine va_last hx hb hK hP hD hS 2 1 rfl rfl (vp_in_nI (by omega) (by decide)) dX6_couples_179 (fun H locs hP hD hS => ?_)
              rw [nI_clamp (show 3 * p + 2 < 2 ^ 31 by omega)] at hP hD
              have hP : va_P D vwCl [(a, .inr (6, fs)), (qs, .inl (T 0, 43, .inl (mS t P2))), (qe, .inl (T 1, 12, .inr (.inl (vp_updL (mE E) (3 * p + 2) ((E p 2) + (kHalf x9_))))))] H := hP
              have hD : va_D A [(a, .inr (6, fs)), (qs, .inl (T 0, 43, .inl (mS t P2))), (qe, .inl (T 1, 12, .inr (.inl (vp_updL (mE E) (3 * p + 2) ((E p 2) + (kHalf x9_))))))] := hD
              rw [mE_up E (by decide)] at hP hD
              obtain ⟨E1, eE1⟩ : ∃ z, z = va_up E p (vp_updL (E p) 2 (E p 2 + kHalf x9_)) := ⟨_, rfl⟩
              rw [← eE1] at hP hD
              have hP : va_P D vwCl [(a, .inr (6, fs)), (qs, .inl (T 0, 43, .inl (mS t P2))), (qe, .inl (T 1, 12, .inr (.inl (mE E1))))] H := hP
              have hD : va_D A [(a, .inr (6, fs)), (qs, .inl (T 0, 43, .inl (mS t P2))), (qe, .inl (T 1, 12, .inr (.inl (mE E1))))] := hD
              have g1q : E1 q = E q := by rw [eE1, up_n (fun z => hpq z.symm)]
              refine lv_aload_n hx hb dX6_couples_180 rfl (lv_at hl 5 rfl) ?_
              refine va_get (D := D) (ci := 6) (v := .ref qe) (C := RX6) (T := TX6) (N := 22) hx hb hts inwX6_couples_X6 hown hK hP 0 rfl rfl 1 (by decide) (hts (.fieldLink RX6 13 "PlateSlabsModel" "e" "[J") (List.mem_of_getElem? (i := 3) rfl)) (fun _ h9 => h9) he dX6_couples_181 ?_
              refine lv_iconst (v := nI 3) hx hb dX6_couples_184 (by decide) ?_
              refine lv_iload_n hx hb dX6_couples_185 rfl (lv_at hl 7 rfl) ?_
              refine lv_imul hx hb dX6_couples_186 ?_
              refine lv_iconst (v := nI 2) hx hb dX6_couples_187 (by decide) ?_
              refine lv_iadd hx hb dX6_couples_188 ?_
              refine lv_tpi (z := nI (3 * q + 2)) (by rw [pk_mul, nI_add]) ?_
              refine lv_dup2_11 hx hb dX6_couples_189 rfl rfl ?_
              refine va_lald hx hb hK hP 2 1 rfl rfl (vp_in_nI (by omega) (by decide)) dX6_couples_190 ?_
              refine lv_tpl (congrArg (fun z => (mE E1) z) (nI_clamp (by omega))) ?_
              refine lv_tpl (z := E1 q 2) (mE_at E1 (by decide)) ?_
              refine lv_lload hx hb dX6_couples_191 (lv_at hl 0 rfl) ?_
              refine lv_lload hx hb dX6_couples_193 (lv_at hl 0 rfl) ?_
              refine callSl (As := [.long x9_]) ⟨hx, hb, hml, hown, hts⟩ (mX6_half l T D x9_) (va_cwS 1 hts gX6_couples_X6_half rfl rfl rfl (pdX6_half).2 ⟨Nat.le_of_ble_eq_true rfl, Nat.le_of_ble_eq_true rfl⟩) wP_nil hK xN_bl (fun U _ hW => XN_warm hW hX) hl.1 rfl rfl (Nat.le_of_ble_eq_true rfl) dX6_couples_195 ⟨Nat.zero_le _, Nat.zero_le _⟩ (fun r16_ er16_ => ?_)
              obtain rfl : r16_ = kHalf x9_ := er16_
              refine lv_lsub hx hb dX6_couples_198 ?_
              refine lv_ladd hx hb dX6_couples_199 ?_
              refine va_last hx hb hK hP hD hS 2 1 rfl rfl (vp_in_nI (by omega) (by decide)) dX6_couples_200 (fun H locs hP hD hS => ?_)
              rw [nI_clamp (show 3 * q + 2 < 2 ^ 31 by omega)] at hP hD
              have hP : va_P D vwCl [(a, .inr (6, fs)), (qs, .inl (T 0, 43, .inl (mS t P2))), (qe, .inl (T 1, 12, .inr (.inl (vp_updL (mE E1) (3 * q + 2) ((E1 q 2) + (x9_ - (kHalf x9_)))))))] H := hP
              have hD : va_D A [(a, .inr (6, fs)), (qs, .inl (T 0, 43, .inl (mS t P2))), (qe, .inl (T 1, 12, .inr (.inl (vp_updL (mE E1) (3 * q + 2) ((E1 q 2) + (x9_ - (kHalf x9_)))))))] := hD
              rw [mE_up E1 (by decide)] at hP hD
              obtain ⟨E2, eE2⟩ : ∃ z, z = va_up E1 q (vp_updL (E1 q) 2 (E1 q 2 + (x9_ - kHalf x9_))) := ⟨_, rfl⟩
              rw [← eE2] at hP hD
              have hP : va_P D vwCl [(a, .inr (6, fs)), (qs, .inl (T 0, 43, .inl (mS t P2))), (qe, .inl (T 1, 12, .inr (.inl (mE E2))))] H := hP
              have hD : va_D A [(a, .inr (6, fs)), (qs, .inl (T 0, 43, .inl (mS t P2))), (qe, .inl (T 1, 12, .inr (.inl (mE E2))))] := hD
              refine lv_aload_n hx hb dX6_couples_201 rfl (lv_at hl 5 rfl) ?_
              refine va_get (D := D) (ci := 6) (v := .ref qs) (C := RX6) (T := TX6) (N := 22) hx hb hts inwX6_couples_X6 hown hK hP 0 rfl rfl 0 (by decide) (hts (.fieldLink RX6 7 "PlateSlabsModel" "s" "[I") (List.mem_of_getElem? (i := 2) rfl)) (fun _ h9 => h9) hf dX6_couples_202 ?_
              refine lv_iconst (v := 1) hx hb dX6_couples_205 (by decide) ?_
              refine lv_dup2_11 hx hb dX6_couples_206 rfl rfl ?_
              refine va_iald hx hb hK hP 1 0 rfl rfl (in_lit (by decide)) dX6_couples_207 ?_
              refine lv_tpi (congrArg (fun z => (mS t P2) z) (cl_1)) ?_
              refine lv_tpi (z := t 1) (mS_t t P2 (by decide)) ?_
              refine lv_iconst (v := 1) hx hb dX6_couples_208 (by decide) ?_
              refine lv_iadd hx hb dX6_couples_209 ?_
              refine va_iast hx hb hK hP hD hS 1 0 rfl rfl (in_lit (by decide)) dX6_couples_210 (fun H locs hP hD hS => ?_)
              rw [cl_1] at hP hD
              have hP : va_P D vwCl [(a, .inr (6, fs)), (qs, .inl (T 0, 43, .inl (upd (mS t P2) 1 ((t 1) + 1)))), (qe, .inl (T 1, 12, .inr (.inl (mE E2))))] H := hP
              have hD : va_D A [(a, .inr (6, fs)), (qs, .inl (T 0, 43, .inl (upd (mS t P2) 1 ((t 1) + 1)))), (qe, .inl (T 1, 12, .inr (.inl (mE E2))))] := hD
              rw [mS_upt t P2 (by decide)] at hP hD
              obtain ⟨t1, et1⟩ : ∃ z, z = upd t 1 (t 1 + 1) := ⟨_, rfl⟩
              rw [← et1] at hP hD
              have hP : va_P D vwCl [(a, .inr (6, fs)), (qs, .inl (T 0, 43, .inl (mS t1 P2))), (qe, .inl (T 1, 12, .inr (.inl (mE E2))))] H := hP
              have hD : va_D A [(a, .inr (6, fs)), (qs, .inl (T 0, 43, .inl (mS t1 P2))), (qe, .inl (T 1, 12, .inr (.inl (mE E2))))] := hD
              refine lv_iload hx hb dX6_couples_211 (lv_at hl 3 rfl) ?_
              exact hret _ _ _ (t1, P2, E2) _ _ dX6_couples_213 hS hP hD (by rw [oCpl, if_neg hpq, if_neg hof, if_neg hfu, if_neg hnm, ← f5, ← f6, ← f9, et1, eE2, g1q, eE1, eP2, f1q, eP1])
            · skip
              refine lv_bipush (v := (-5)) hx hb dX6_couples_104 (by decide) ?_
              exact hret _ _ _ (t, P, E) _ _ dX6_couples_106 hS hP hD (by rw [oCpl, if_neg hpq, if_neg hof, if_neg hfu, if_pos (by rw [← f5]; exact c101)])
          · skip
            refine lv_bipush (v := (-3)) hx hb dX6_couples_89 (by decide) ?_
            exact hret _ _ _ (t, P, E) _ _ dX6_couples_91 hS hP hD (by rw [oCpl, if_neg hpq, if_neg hof, if_pos (by rw [← f5, ← f6]; exact Or.inr (Int32.not_le.mp c86))])
      · skip
        have c21 := bI_n0 c21
        refine lv_bipush (v := (-4)) hx hb dX6_couples_24 (by decide) ?_
        exact hret _ _ _ (t, P, E) _ _ dX6_couples_26 hS hP hD (by rw [oCpl, if_neg hpq, if_pos (by exact Or.inr c21)])
  · skip
    obtain rfl : p = q := by
      exact (nI_eq (by omega) (by omega)).mp c2
    refine lv_bipush (v := (-2)) hx hb dX6_couples_5 (by decide) ?_
    exact hret _ _ _ (t, P, E) _ _ dX6_couples_7 hS hP hD (by rw [oCpl, if_pos rfl])

