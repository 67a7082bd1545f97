theorem pdX6_goes : yX6_goes.cls = RX6 ∧ yX6_goes.cls ≠ "java/lang/invoke/MethodHandle" ∧ yX6_goes.cls ≠ "java/lang/invoke/VarHandle" ∧ (parseMethodDescriptor yX6_goes.desc).map (fun d => d.parameters.length) = some 1 := by decide +kernel
theorem pdX6_sets : yX6_sets.cls = RX6 ∧ yX6_sets.cls ≠ "java/lang/invoke/MethodHandle" ∧ yX6_sets.cls ≠ "java/lang/invoke/VarHandle" ∧ (parseMethodDescriptor yX6_sets.desc).map (fun d => d.parameters.length) = some 1 := by decide +kernel
theorem pdX6_restsIn : yX6_restsIn.cls = RX6 ∧ yX6_restsIn.cls ≠ "java/lang/invoke/MethodHandle" ∧ yX6_restsIn.cls ≠ "java/lang/invoke/VarHandle" ∧ (parseMethodDescriptor yX6_restsIn.desc).map (fun d => d.parameters.length) = some 1 := by decide +kernel
theorem pdX6_depthIn : yX6_depthIn.cls = RX6 ∧ yX6_depthIn.cls ≠ "java/lang/invoke/MethodHandle" ∧ yX6_depthIn.cls ≠ "java/lang/invoke/VarHandle" ∧ (parseMethodDescriptor yX6_depthIn.desc).map (fun d => d.parameters.length) = some 2 := by decide +kernel
theorem inwX6_goes_X6 : ∀ w ∈ wsX60, w ∈ wsX6_goes := by decide +kernel
theorem inwX6_sets_X6 : ∀ w ∈ wsX60, w ∈ wsX6_sets := by decide +kernel
theorem inwX6_restsIn_X6 : ∀ w ∈ wsX60, w ∈ wsX6_restsIn := by decide +kernel
theorem inwX6_depthIn_X6 : ∀ w ∈ wsX60, w ∈ wsX6_depthIn := by decide +kernel
def rmX6_sets : Room := { frames := 2, cells := 0, slots := 0, locals := 43 }
set_option maxHeartbeats 4000000 in
set_option maxRecDepth 100000 in
theorem mX6_sets (l : Launch) (T : Nat → ClassId) (D : va_G) (b : Nat → Nat) (v : Nat → Int32) (t : Nat → Int32) (P : Nat → Nat → Int32) (hk : ∀ p, p < 4 → kOk (P p)) (p : Nat) (hp : p < 4) : MuV l yX6_sets wsX6_sets rmX6_sets T xN D [.ref (b 0), .int (nI p)] [(b 0, .inr (6, moF b v)), ((b 1), .inl (T 0, 43, .inl (mS t P)))] (S := Unit) (fun _ => True) (fun _ => moG T b (upd (upd v 11 (P p 6)) 12 (P p 7)) (mS t P)) 0 0 := by
  refine met_mv (cc := cX6_sets) (maxL := 2) (by decide) rfl (Nat.le_of_ble_eq_true rfl) ?_
  intro p_ e s m args below meth c ls A Q hx hb hts hown hml hX hP hD hK hS hA hl hin hret
  have hl : lv_has ls 2 [(0, .ref (b 0)), (1, .int (nI p))] := hl
  refine lv_aload_n hx hb dX6_sets_0 rfl (lv_at hl 0 rfl) ?_
  refine lv_aload_n hx hb dX6_sets_1 rfl (lv_at hl 0 rfl) ?_
  refine lv_iload_n hx hb dX6_sets_2 rfl (lv_at hl 1 rfl) ?_
  refine lv_bipush (v := nI 6) hx hb dX6_sets_3 (by decide) ?_
  refine callRi (As := [.int (nI p), .int (nI 6)]) ⟨hx, hb, hml, hown, hts⟩ (mX6_of l T D (b 0) (b 1) (moF b v) t P rfl p hp 6 (by decide)) (cwV 2 hts gX6_sets_X6_of rfl rfl rfl pdX6_of ⟨Nat.le_of_ble_eq_true rfl, Nat.le_of_ble_eq_true rfl⟩) hP hK xN_bl (fun U _ hW => XN_warm hW hX) (ci := 6) rfl rfl rfl hl.1 rfl rfl (Nat.le_of_ble_eq_true rfl) dX6_sets_5 ⟨Nat.zero_le _, Nat.zero_le _⟩ (fun r1_ er1_ => ?_)
  obtain rfl : r1_ = P p 6 := er1_
  refine va_put (D := D) (ci := 6) (v := .int (P p 6)) (C := RX6) (T := TX6) (N := 22) hx hb hts inwX6_sets_X6 tyX6 tyX6_ok nmX6 hown hK hP hD hS 0 rfl rfl 20 (by decide) (hts (.fieldLink RX6 211 "PlateSlabsModel" "goneTo" "I") (List.mem_of_getElem? (i := 1) rfl)) (fun _ h9 => h9) rfl (tyX6_ok 20 (by decide)) (rfl) rfl (Nat.le_of_ble_eq_true rfl) dX6_sets_8 (fun H locs hP hD hS => ?_)
  have hP : va_P D vwCl [(b 0, .inr (6, moF b (upd v 11 (P p 6)))), ((b 1), .inl (T 0, 43, .inl (mS t P)))] H := hP
  have hD : va_D A [(b 0, .inr (6, moF b (upd v 11 (P p 6)))), ((b 1), .inl (T 0, 43, .inl (mS t P)))] := hD
  refine lv_aload_n hx hb dX6_sets_11 rfl (lv_at hl 0 rfl) ?_
  refine lv_aload_n hx hb dX6_sets_12 rfl (lv_at hl 0 rfl) ?_
  refine lv_iload_n hx hb dX6_sets_13 rfl (lv_at hl 1 rfl) ?_
  refine lv_bipush (v := nI 7) hx hb dX6_sets_14 (by decide) ?_
  refine callRi (As := [.int (nI p), .int (nI 7)]) ⟨hx, hb, hml, hown, hts⟩ (mX6_of l T D (b 0) (b 1) (moF b (upd v 11 (P p 6))) t P rfl p hp 7 (by decide)) (cwV 2 hts gX6_sets_X6_of rfl rfl rfl pdX6_of ⟨Nat.le_of_ble_eq_true rfl, Nat.le_of_ble_eq_true rfl⟩) hP hK xN_bl (fun U _ hW => XN_warm hW hX) (ci := 6) rfl rfl rfl hl.1 rfl rfl (Nat.le_of_ble_eq_true rfl) dX6_sets_16 ⟨Nat.zero_le _, Nat.zero_le _⟩ (fun r2_ er2_ => ?_)
  obtain rfl : r2_ = P p 7 := er2_
  refine va_put (D := D) (ci := 6) (v := .int (P p 7)) (C := RX6) (T := TX6) (N := 22) hx hb hts inwX6_sets_X6 tyX6 tyX6_ok nmX6 hown hK hP hD hS 0 rfl rfl 21 (by decide) (hts (.fieldLink RX6 208 "PlateSlabsModel" "leftOver" "I") (List.mem_of_getElem? (i := 2) rfl)) (fun _ h9 => h9) rfl (tyX6_ok 21 (by decide)) (rfl) rfl (Nat.le_of_ble_eq_true rfl) dX6_sets_19 (fun H locs hP hD hS => ?_)
  have hP : va_P D vwCl [(b 0, .inr (6, moF b (upd (upd v 11 (P p 6)) 12 (P p 7)))), ((b 1), .inl (T 0, 43, .inl (mS t P)))] H := hP
  have hD : va_D A [(b 0, .inr (6, moF b (upd (upd v 11 (P p 6)) 12 (P p 7)))), ((b 1), .inl (T 0, 43, .inl (mS t P)))] := hD
  exact hret _ _ () _ _ dX6_sets_22 hS hP hD trivial

def rmX6_goes : Room := { frames := 5, cells := 0, slots := 0, locals := 115 }
set_option maxHeartbeats 4000000 in
set_option maxRecDepth 100000 in
theorem mX6_goes (l : Launch) (T : Nat → ClassId) (D : va_G) (b : Nat → Nat) (v : Nat → Int32) (t : Nat → Int32) (P : Nat → Nat → Int32) (hk : ∀ p, p < 4 → kOk (P p)) (p : Nat) (hp : p < 4) (hd : kDp (v 11)) : MuI l yX6_goes wsX6_goes rmX6_goes T xN D [.ref (b 0), .int (nI p)] [(b 0, .inr (6, moF b v)), ((b 1), .inl (T 0, 43, .inl (mS t P)))] (S := Unit) (fun r _ => r = kGby (P p) (v 11) (v 12)) (fun _ => moG T b (upd (upd v 12 (kGq (P p) (v 12))) 11 (v 11 + kGby (P p) (v 11) (v 12))) (mS t P)) 0 0 := by
  refine met_mi (cc := cX6_goes) (maxL := 3) (by decide) rfl (Nat.le_of_ble_eq_true rfl) ?_
  intro p_ e s m args below meth c ls A Q hx hb hts hown hml hX hP hD hK hS hA hl hret
  have hl : lv_has ls 3 [(0, .ref (b 0)), (1, .int (nI p))] := hl
  refine lv_aload_n hx hb dX6_goes_0 rfl (lv_at hl 0 rfl) ?_
  refine lv_dup hx hb dX6_goes_1 rfl ?_
  refine va_get (D := D) (ci := 6) (v := .int (v 12)) (C := RX6) (T := TX6) (N := 22) hx hb hts inwX6_goes_X6 hown hK hP 0 rfl rfl 21 (by decide) (hts (.fieldLink RX6 208 "PlateSlabsModel" "leftOver" "I") (List.mem_of_getElem? (i := 1) rfl)) (fun _ h9 => h9) rfl dX6_goes_2 ?_
  refine lv_aload_n hx hb dX6_goes_5 rfl (lv_at hl 0 rfl) ?_
  refine lv_iload_n hx hb dX6_goes_6 rfl (lv_at hl 1 rfl) ?_
  refine callRi (As := [.int (nI p)]) ⟨hx, hb, hml, hown, hts⟩ (mX6_isOn l T D (b 0) (b 1) (moF b v) t P rfl p hp ) (cwV 1 hts gX6_goes_X6_isOn rfl rfl rfl pdX6_isOn ⟨Nat.le_of_ble_eq_true rfl, Nat.le_of_ble_eq_true rfl⟩) hP hK xN_bl (fun U _ hW => XN_warm hW hX) (ci := 6) rfl rfl rfl hl.1 rfl rfl (Nat.le_of_ble_eq_true rfl) dX6_goes_7 ⟨Nat.zero_le _, Nat.zero_le _⟩ (fun r1_ er1_ => ?_)
  obtain rfl : r1_ = bI (P p 9 = 1) := er1_
  refine lv_if_eq (tgt := 17) hx hb dX6_goes_10 (by decide) (fun c10 => ?_) (fun c10 => ?_)
  · skip
    have c10 := bI_0 c10
    refine lv_aload_n hx hb dX6_goes_17 rfl (lv_at hl 0 rfl) ?_
    refine lv_iload_n hx hb dX6_goes_18 rfl (lv_at hl 1 rfl) ?_
    refine lv_aload_n hx hb dX6_goes_19 rfl (lv_at hl 0 rfl) ?_
    refine va_get (D := D) (ci := 6) (v := .int (v 12)) (C := RX6) (T := TX6) (N := 22) hx hb hts inwX6_goes_X6 hown hK hP 0 rfl rfl 21 (by decide) (hts (.fieldLink RX6 208 "PlateSlabsModel" "leftOver" "I") (List.mem_of_getElem? (i := 1) rfl)) (fun _ h9 => h9) rfl dX6_goes_20 ?_
    refine callRi (As := [.int (nI p), .int (v 12)]) ⟨hx, hb, hml, hown, hts⟩ (mX6_leak l T D (b 0) (b 1) (moF b v) t P rfl p hp (v 12)) (cwV 2 hts gX6_goes_X6_leak rfl rfl rfl pdX6_leak ⟨Nat.le_of_ble_eq_true rfl, Nat.le_of_ble_eq_true rfl⟩) hP hK xN_bl (fun U _ hW => XN_warm hW hX) (ci := 6) rfl rfl rfl hl.1 rfl rfl (Nat.le_of_ble_eq_true rfl) dX6_goes_23 ⟨Nat.zero_le _, Nat.zero_le _⟩ (fun r2_ er2_ => ?_)
    obtain rfl : r2_ = kLeak (P p) (v 12) := er2_
    refine lv_isub hx hb dX6_goes_26 ?_
    refine lv_topi (fun x8_ ex8_ => ?_)
    refine va_put (D := D) (ci := 6) (v := .int x8_) (C := RX6) (T := TX6) (N := 22) hx hb hts inwX6_goes_X6 tyX6 tyX6_ok nmX6 hown hK hP hD hS 0 rfl rfl 21 (by decide) (hts (.fieldLink RX6 208 "PlateSlabsModel" "leftOver" "I") (List.mem_of_getElem? (i := 1) rfl)) (fun _ h9 => h9) rfl (tyX6_ok 21 (by decide)) (rfl) rfl (Nat.le_of_ble_eq_true rfl) dX6_goes_27 (fun H locs hP hD hS => ?_)
    have hP : va_P D vwCl [(b 0, .inr (6, moF b (upd v 12 x8_))), ((b 1), .inl (T 0, 43, .inl (mS t P)))] H := hP
    have hD : va_D A [(b 0, .inr (6, moF b (upd v 12 x8_))), ((b 1), .inl (T 0, 43, .inl (mS t P)))] := hD
    have fq : kGq (P p) (v 12) = x8_ := by rw [ex8_]; exact if_neg c10
    refine lv_aload_n hx hb dX6_goes_30 rfl (lv_at hl 0 rfl) ?_
    refine lv_iload_n hx hb dX6_goes_31 rfl (lv_at hl 1 rfl) ?_
    refine lv_aload_n hx hb dX6_goes_32 rfl (lv_at hl 0 rfl) ?_
    refine va_get (D := D) (ci := 6) (v := .int (v 11)) (C := RX6) (T := TX6) (N := 22) hx hb hts inwX6_goes_X6 hown hK hP 0 rfl rfl 20 (by decide) (hts (.fieldLink RX6 211 "PlateSlabsModel" "goneTo" "I") (List.mem_of_getElem? (i := 2) rfl)) (fun _ h9 => h9) rfl dX6_goes_33 ?_
    refine lv_aload_n hx hb dX6_goes_36 rfl (lv_at hl 0 rfl) ?_
    refine lv_iload_n hx hb dX6_goes_37 rfl (lv_at hl 1 rfl) ?_
    refine lv_aload_n hx hb dX6_goes_38 rfl (lv_at hl 0 rfl) ?_
    refine va_get (D := D) (ci := 6) (v := .int (v 11)) (C := RX6) (T := TX6) (N := 22) hx hb hts inwX6_goes_X6 hown hK hP 0 rfl rfl 20 (by decide) (hts (.fieldLink RX6 211 "PlateSlabsModel" "goneTo" "I") (List.mem_of_getElem? (i := 2) rfl)) (fun _ h9 => h9) rfl dX6_goes_39 ?_
    refine lv_aload_n hx hb dX6_goes_42 rfl (lv_at hl 0 rfl) ?_
    refine va_get (D := D) (ci := 6) (v := .int x8_) (C := RX6) (T := TX6) (N := 22) hx hb hts inwX6_goes_X6 hown hK hP 0 rfl rfl 21 (by decide) (hts (.fieldLink RX6 208 "PlateSlabsModel" "leftOver" "I") (List.mem_of_getElem? (i := 1) rfl)) (fun _ h9 => h9) rfl dX6_goes_43 ?_
    refine callRi (As := [.int (nI p), .int (v 11), .int x8_]) ⟨hx, hb, hml, hown, hts⟩ (mX6_pullAt l T D (b 0) (b 1) (moF b (upd v 12 x8_)) t P rfl p hp (v 11) x8_ (hk p hp) hd) (cwV 3 hts gX6_goes_X6_pullAt rfl rfl rfl pdX6_pullAt ⟨Nat.le_of_ble_eq_true rfl, Nat.le_of_ble_eq_true rfl⟩) hP hK xN_bl (fun U _ hW => XN_warm hW hX) (ci := 6) rfl rfl rfl hl.1 rfl rfl (Nat.le_of_ble_eq_true rfl) dX6_goes_46 ⟨Nat.zero_le _, Nat.zero_le _⟩ (fun r3_ er3_ => ?_)
    obtain rfl : r3_ = kPullAt (P p) (v 11) x8_ := er3_
    refine lv_aload_n hx hb dX6_goes_49 rfl (lv_at hl 0 rfl) ?_
    refine lv_iload_n hx hb dX6_goes_50 rfl (lv_at hl 1 rfl) ?_
    refine lv_aload_n hx hb dX6_goes_51 rfl (lv_at hl 0 rfl) ?_
    refine va_get (D := D) (ci := 6) (v := .int (v 11)) (C := RX6) (T := TX6) (N := 22) hx hb hts inwX6_goes_X6 hown hK hP 0 rfl rfl 20 (by decide) (hts (.fieldLink RX6 211 "PlateSlabsModel" "goneTo" "I") (List.mem_of_getElem? (i := 2) rfl)) (fun _ h9 => h9) rfl dX6_goes_52 ?_
    refine callRi (As := [.int (nI p), .int (v 11)]) ⟨hx, hb, hml, hown, hts⟩ (mX6_spring l T D (b 0) (b 1) (moF b (upd v 12 x8_)) t P rfl p hp (v 11)) (cwV 2 hts gX6_goes_X6_spring rfl rfl rfl pdX6_spring ⟨Nat.le_of_ble_eq_true rfl, Nat.le_of_ble_eq_true rfl⟩) hP hK xN_bl (fun U _ hW => XN_warm hW hX) (ci := 6) rfl rfl rfl hl.1 rfl rfl (Nat.le_of_ble_eq_true rfl) dX6_goes_55 ⟨Nat.zero_le _, Nat.zero_le _⟩ (fun r4_ er4_ => ?_)
    obtain rfl : r4_ = kSpring (P p) (v 11) := er4_
    refine lv_isub hx hb dX6_goes_58 ?_
    refine callRi (As := [.int (nI p), .int (v 11), .int ((kPullAt (P p) (v 11) x8_) - (kSpring (P p) (v 11)))]) ⟨hx, hb, hml, hown, hts⟩ (mX6_move l T D (b 0) (b 1) (moF b (upd v 12 x8_)) t P rfl p hp (v 11) ((kPullAt (P p) (v 11) x8_) - (kSpring (P p) (v 11)))) (cwV 3 hts gX6_goes_X6_move rfl rfl rfl pdX6_move ⟨Nat.le_of_ble_eq_true rfl, Nat.le_of_ble_eq_true rfl⟩) hP hK xN_bl (fun U _ hW => XN_warm hW hX) (ci := 6) rfl rfl rfl hl.1 rfl rfl (Nat.le_of_ble_eq_true rfl) dX6_goes_59 ⟨Nat.zero_le _, Nat.zero_le _⟩ (fun r5_ er5_ => ?_)
    obtain rfl : r5_ = kMove (P p) (v 11) ((kPullAt (P p) (v 11) x8_) - (kSpring (P p) (v 11))) := er5_
    refine lv_topi (fun x9_ ex9_ => ?_)
    refine lv_istore_n (lv' := [(2, .int x9_), (0, .ref (b 0)), (1, .int (nI p))]) hx hb dX6_goes_62 rfl hl (by decide) rfl (fun ls hl => ?_)
    refine lv_aload_n hx hb dX6_goes_63 rfl (lv_at hl 1 rfl) ?_
    refine lv_dup hx hb dX6_goes_64 rfl ?_
    refine va_get (D := D) (ci := 6) (v := .int (v 11)) (C := RX6) (T := TX6) (N := 22) hx hb hts inwX6_goes_X6 hown hK hP 0 rfl rfl 20 (by decide) (hts (.fieldLink RX6 211 "PlateSlabsModel" "goneTo" "I") (List.mem_of_getElem? (i := 2) rfl)) (fun _ h9 => h9) rfl dX6_goes_65 ?_
    refine lv_iload_n hx hb dX6_goes_68 rfl (lv_at hl 0 rfl) ?_
    refine lv_iadd hx hb dX6_goes_69 ?_
    refine va_put (D := D) (ci := 6) (v := .int ((v 11) + x9_)) (C := RX6) (T := TX6) (N := 22) hx hb hts inwX6_goes_X6 tyX6 tyX6_ok nmX6 hown hK hP hD hS 0 rfl rfl 20 (by decide) (hts (.fieldLink RX6 211 "PlateSlabsModel" "goneTo" "I") (List.mem_of_getElem? (i := 2) rfl)) (fun _ h9 => h9) rfl (tyX6_ok 20 (by decide)) (rfl) rfl (Nat.le_of_ble_eq_true rfl) dX6_goes_70 (fun H locs hP hD hS => ?_)
    have hP : va_P D vwCl [(b 0, .inr (6, moF b (upd (upd v 12 x8_) 11 ((v 11) + x9_)))), ((b 1), .inl (T 0, 43, .inl (mS t P)))] H := hP
    have hD : va_D A [(b 0, .inr (6, moF b (upd (upd v 12 x8_) 11 ((v 11) + x9_)))), ((b 1), .inl (T 0, 43, .inl (mS t P)))] := hD
    refine lv_iload_n hx hb dX6_goes_73 rfl (lv_at hl 0 rfl) ?_
    exact hret _ _ _ () _ _ dX6_goes_74 hS (by rw [kGby, fq, ← ex9_]; exact hP) (by rw [kGby, fq, ← ex9_]; exact hD) (by rw [ex9_, kGby, fq])
  · skip
    have c10 := bI_n0 c10
    refine lv_iconst (v := 0) hx hb dX6_goes_13 (by decide) ?_
    refine lv_goto (tgt := 26) hx hb dX6_goes_14 (by decide) ?_
    refine lv_isub hx hb dX6_goes_26 ?_
    refine lv_tpi (z := v 12) (Int32.sub_zero _) ?_
    refine lv_topi (fun x8_ ex8_ => ?_)
    refine va_put (D := D) (ci := 6) (v := .int x8_) (C := RX6) (T := TX6) (N := 22) hx hb hts inwX6_goes_X6 tyX6 tyX6_ok nmX6 hown hK hP hD hS 0 rfl rfl 21 (by decide) (hts (.fieldLink RX6 208 "PlateSlabsModel" "leftOver" "I") (List.mem_of_getElem? (i := 1) rfl)) (fun _ h9 => h9) rfl (tyX6_ok 21 (by decide)) (rfl) rfl (Nat.le_of_ble_eq_true rfl) dX6_goes_27 (fun H locs hP hD hS => ?_)
    have hP : va_P D vwCl [(b 0, .inr (6, moF b (upd v 12 x8_))), ((b 1), .inl (T 0, 43, .inl (mS t P)))] H := hP
    have hD : va_D A [(b 0, .inr (6, moF b (upd v 12 x8_))), ((b 1), .inl (T 0, 43, .inl (mS t P)))] := hD
    have fq : kGq (P p) (v 12) = x8_ := by rw [ex8_]; exact if_pos c10
    refine lv_aload_n hx hb dX6_goes_30 rfl (lv_at hl 0 rfl) ?_
    refine lv_iload_n hx hb dX6_goes_31 rfl (lv_at hl 1 rfl) ?_
    refine lv_aload_n hx hb dX6_goes_32 rfl (lv_at hl 0 rfl) ?_
    refine va_get (D := D) (ci := 6) (v := .int (v 11)) (C := RX6) (T := TX6) (N := 22) hx hb hts inwX6_goes_X6 hown hK hP 0 rfl rfl 20 (by decide) (hts (.fieldLink RX6 211 "PlateSlabsModel" "goneTo" "I") (List.mem_of_getElem? (i := 2) rfl)) (fun _ h9 => h9) rfl dX6_goes_33 ?_
    refine lv_aload_n hx hb dX6_goes_36 rfl (lv_at hl 0 rfl) ?_
    refine lv_iload_n hx hb dX6_goes_37 rfl (lv_at hl 1 rfl) ?_
    refine lv_aload_n hx hb dX6_goes_38 rfl (lv_at hl 0 rfl) ?_
    refine va_get (D := D) (ci := 6) (v := .int (v 11)) (C := RX6) (T := TX6) (N := 22) hx hb hts inwX6_goes_X6 hown hK hP 0 rfl rfl 20 (by decide) (hts (.fieldLink RX6 211 "PlateSlabsModel" "goneTo" "I") (List.mem_of_getElem? (i := 2) rfl)) (fun _ h9 => h9) rfl dX6_goes_39 ?_
    refine lv_aload_n hx hb dX6_goes_42 rfl (lv_at hl 0 rfl) ?_
    refine va_get (D := D) (ci := 6) (v := .int x8_) (C := RX6) (T := TX6) (N := 22) hx hb hts inwX6_goes_X6 hown hK hP 0 rfl rfl 21 (by decide) (hts (.fieldLink RX6 208 "PlateSlabsModel" "leftOver" "I") (List.mem_of_getElem? (i := 1) rfl)) (fun _ h9 => h9) rfl dX6_goes_43 ?_
    refine callRi (As := [.int (nI p), .int (v 11), .int x8_]) ⟨hx, hb, hml, hown, hts⟩ (mX6_pullAt l T D (b 0) (b 1) (moF b (upd v 12 x8_)) t P rfl p hp (v 11) x8_ (hk p hp) hd) (cwV 3 hts gX6_goes_X6_pullAt rfl rfl rfl pdX6_pullAt ⟨Nat.le_of_ble_eq_true rfl, Nat.le_of_ble_eq_true rfl⟩) hP hK xN_bl (fun U _ hW => XN_warm hW hX) (ci := 6) rfl rfl rfl hl.1 rfl rfl (Nat.le_of_ble_eq_true rfl) dX6_goes_46 ⟨Nat.zero_le _, Nat.zero_le _⟩ (fun r6_ er6_ => ?_)
    obtain rfl : r6_ = kPullAt (P p) (v 11) x8_ := er6_
    refine lv_aload_n hx hb dX6_goes_49 rfl (lv_at hl 0 rfl) ?_
    refine lv_iload_n hx hb dX6_goes_50 rfl (lv_at hl 1 rfl) ?_
    refine lv_aload_n hx hb dX6_goes_51 rfl (lv_at hl 0 rfl) ?_
    refine va_get (D := D) (ci := 6) (v := .int (v 11)) (C := RX6) (T := TX6) (N := 22) hx hb hts inwX6_goes_X6 hown hK hP 0 rfl rfl 20 (by decide) (hts (.fieldLink RX6 211 "PlateSlabsModel" "goneTo" "I") (List.mem_of_getElem? (i := 2) rfl)) (fun _ h9 => h9) rfl dX6_goes_52 ?_
    refine callRi (As := [.int (nI p), .int (v 11)]) ⟨hx, hb, hml, hown, hts⟩ (mX6_spring l T D (b 0) (b 1) (moF b (upd v 12 x8_)) t P rfl p hp (v 11)) (cwV 2 hts gX6_goes_X6_spring rfl rfl rfl pdX6_spring ⟨Nat.le_of_ble_eq_true rfl, Nat.le_of_ble_eq_true rfl⟩) hP hK xN_bl (fun U _ hW => XN_warm hW hX) (ci := 6) rfl rfl rfl hl.1 rfl rfl (Nat.le_of_ble_eq_true rfl) dX6_goes_55 ⟨Nat.zero_le _, Nat.zero_le _⟩ (fun r7_ er7_ => ?_)
    obtain rfl : r7_ = kSpring (P p) (v 11) := er7_
    refine lv_isub hx hb dX6_goes_58 ?_
    refine callRi (As := [.int (nI p), .int (v 11), .int ((kPullAt (P p) (v 11) x8_) - (kSpring (P p) (v 11)))]) ⟨hx, hb, hml, hown, hts⟩ (mX6_move l T D (b 0) (b 1) (moF b (upd v 12 x8_)) t P rfl p hp (v 11) ((kPullAt (P p) (v 11) x8_) - (kSpring (P p) (v 11)))) (cwV 3 hts gX6_goes_X6_move rfl rfl rfl pdX6_move ⟨Nat.le_of_ble_eq_true rfl, Nat.le_of_ble_eq_true rfl⟩) hP hK xN_bl (fun U _ hW => XN_warm hW hX) (ci := 6) rfl rfl rfl hl.1 rfl rfl (Nat.le_of_ble_eq_true rfl) dX6_goes_59 ⟨Nat.zero_le _, Nat.zero_le _⟩ (fun r8_ er8_ => ?_)
    obtain rfl : r8_ = kMove (P p) (v 11) ((kPullAt (P p) (v 11) x8_) - (kSpring (P p) (v 11))) := er8_
    refine lv_topi (fun x9_ ex9_ => ?_)
    refine lv_istore_n (lv' := [(2, .int x9_), (0, .ref (b 0)), (1, .int (nI p))]) hx hb dX6_goes_62 rfl hl (by decide) rfl (fun ls hl => ?_)
    refine lv_aload_n hx hb dX6_goes_63 rfl (lv_at hl 1 rfl) ?_
    refine lv_dup hx hb dX6_goes_64 rfl ?_
    refine va_get (D := D) (ci := 6) (v := .int (v 11)) (C := RX6) (T := TX6) (N := 22) hx hb hts inwX6_goes_X6 hown hK hP 0 rfl rfl 20 (by decide) (hts (.fieldLink RX6 211 "PlateSlabsModel" "goneTo" "I") (List.mem_of_getElem? (i := 2) rfl)) (fun _ h9 => h9) rfl dX6_goes_65 ?_
    refine lv_iload_n hx hb dX6_goes_68 rfl (lv_at hl 0 rfl) ?_
    refine lv_iadd hx hb dX6_goes_69 ?_
    refine va_put (D := D) (ci := 6) (v := .int ((v 11) + x9_)) (C := RX6) (T := TX6) (N := 22) hx hb hts inwX6_goes_X6 tyX6 tyX6_ok nmX6 hown hK hP hD hS 0 rfl rfl 20 (by decide) (hts (.fieldLink RX6 211 "PlateSlabsModel" "goneTo" "I") (List.mem_of_getElem? (i := 2) rfl)) (fun _ h9 => h9) rfl (tyX6_ok 20 (by decide)) (rfl) rfl (Nat.le_of_ble_eq_true rfl) dX6_goes_70 (fun H locs hP hD hS => ?_)
    have hP : va_P D vwCl [(b 0, .inr (6, moF b (upd (upd v 12 x8_) 11 ((v 11) + x9_)))), ((b 1), .inl (T 0, 43, .inl (mS t P)))] H := hP
    have hD : va_D A [(b 0, .inr (6, moF b (upd (upd v 12 x8_) 11 ((v 11) + x9_)))), ((b 1), .inl (T 0, 43, .inl (mS t P)))] := hD
    refine lv_iload_n hx hb dX6_goes_73 rfl (lv_at hl 0 rfl) ?_
    exact hret _ _ _ () _ _ dX6_goes_74 hS (by rw [kGby, fq, ← ex9_]; exact hP) (by rw [kGby, fq, ← ex9_]; exact hD) (by rw [ex9_, kGby, fq])

def rmX6_restsIn : Room := { frames := 6, cells := 0, slots := 0, locals := 137 }
set_option maxHeartbeats 4000000 in
set_option maxRecDepth 100000 in
theorem mX6_restsIn (l : Launch) (T : Nat → ClassId) (D : va_G) (b : Nat → Nat) (v : Nat → Int32) (t : Nat → Int32) (P : Nat → Nat → Int32) (hk : ∀ p, p < 4 → kOk (P p)) (x : Int32) : MuI l yX6_restsIn wsX6_restsIn rmX6_restsIn T xN D [.ref (b 0), .int x] [(b 0, .inr (6, moF b v)), ((b 1), .inl (T 0, 43, .inl (mS t P)))] (S := Nat → Int32) (fun r u => r = sP x (fun p => kRs (P p)) (-1) ∧ ∀ k, k < 11 → u k = v k) (fun u => moG T b u (mS t P)) 0 0 := by
  refine met_mi (cc := cX6_restsIn) (maxL := 3) (by decide) rfl (Nat.le_of_ble_eq_true rfl) ?_
  intro p_ e s m args below meth c ls A Q hx hb hts hown hml hX hP hD hK hS hA hl hret
  have hl : lv_has ls 3 [(0, .ref (b 0)), (1, .int x)] := hl
  obtain ⟨H, hH⟩ : ∃ H, H = s.heap := ⟨_, rfl⟩
  have hS : va_S A s.heap H [] := by rw [hH]; exact hS
  rw [← hH] at hP ⊢
  refine lv_iload_n hx hb dX6_restsIn_0 rfl (lv_at hl 1 rfl) ?_
  refine callSi (As := [.int x]) ⟨hx, hb, hml, hown, hts⟩ (mX6_isPair l T D x) (va_cwS 1 hts gX6_restsIn_X6_isPair rfl rfl rfl (pdX6_isPair).2 ⟨Nat.le_of_ble_eq_true rfl, Nat.le_of_ble_eq_true rfl⟩) wP_nil hK xN_bl (fun U _ hW => XN_warm hW hX) hl.1 rfl rfl (Nat.le_of_ble_eq_true rfl) dX6_restsIn_1 ⟨Nat.zero_le _, Nat.zero_le _⟩ (fun r1_ er1_ => ?_)
  obtain rfl : r1_ = bI (0 ≤ x ∧ x ≤ 3) := er1_
  refine lv_if_ne (tgt := 9) hx hb dX6_restsIn_4 (by decide) (fun c4 => ?_) (fun c4 => ?_)
  · skip
    have c4 := bI_n0 c4
    obtain ⟨p, hp, rfl⟩ := pair_of c4
    refine lv_aload_n hx hb dX6_restsIn_9 rfl (lv_at hl 0 rfl) ?_
    refine lv_iload_n hx hb dX6_restsIn_10 rfl (lv_at hl 1 rfl) ?_
    refine callMv (As := [.int (nI p)]) (wr := []) ⟨hx, hb, hml, hown, hts⟩ (mX6_sets l T D b v t P hk p hp ) (cwV 1 hts gX6_restsIn_X6_sets rfl rfl rfl pdX6_sets ⟨Nat.le_of_ble_eq_true rfl, Nat.le_of_ble_eq_true rfl⟩) hP hD hK hS hA xN_bl (fun U _ hW => XN_warm hW hX) (ci := 6) rfl rfl rfl hl.1 rfl rfl (Nat.le_of_ble_eq_true rfl) dX6_restsIn_11 ⟨Nat.zero_le _, Nat.zero_le _⟩ (fun u3_ H locs eu3_ hP hD hS hkf => ?_)
    have hP : va_P D vwCl [(b 0, .inr (6, moF b (upd (upd v 11 (P p 6)) 12 (P p 7)))), ((b 1), .inl (T 0, 43, .inl (mS t P)))] H := hP
    have hD : va_D A [(b 0, .inr (6, moF b (upd (upd v 11 (P p 6)) 12 (P p 7)))), ((b 1), .inl (T 0, 43, .inl (mS t P)))] := hD
    refine lv_iconst (v := nI 0) hx hb dX6_restsIn_14 (by decide) ?_
    refine lv_istore_n (lv' := [(2, .int (nI 0)), (0, .ref (b 0)), (1, .int (nI p))]) hx hb dX6_restsIn_15 rfl hl (by decide) rfl (fun ls hl => ?_)
    have loop : ∀ (j : Nat) (i : Nat) (u : Nat → Int32) (ls : Array Slot) (H : Heap) (locs : List Loc), (401 + 1 ≤ i + j) → (i ≤ 401) → (∀ k, k < 11 → u k = v k) → (u 11 = (gIt (P p) i).1) → (u 12 = (gIt (P p) i).2) → (kRs (P p) = kFirst (fun n => decide (gBy (P p) n = 0)) (401 - i) i) → va_P D vwCl [(b 0, .inr (6, moF b u)), ((b 1), .inl (T 0, 43, .inl (mS t P)))] H → va_D A [(b 0, .inr (6, moF b u)), ((b 1), .inl (T 0, 43, .inl (mS t P)))] → va_S A s.heap H locs → lv_has ls 3 [(0, .ref (b 0)), (1, .int (nI p)), (2, .int (nI i))] → W p_ l e rmX6_restsIn s m args below meth c H locs 0 0 Q (F0 m 16 ls []) := by
      intro j
      induction j with
      | zero => intro i u ls H locs hm hi; exact absurd hm (by omega)
      | succ j ih =>
        intro i u ls H locs hm hi hu hu1 hu2 ef hP hD hS hl
        refine lv_iload_n hx hb dX6_restsIn_16 rfl (lv_at hl 2 rfl) ?_
        refine lv_sipush (v := 400) hx hb dX6_restsIn_17 (by decide) ?_
        refine lv_icmp_gt (tgt := 39) hx hb dX6_restsIn_20 (by decide) (fun c20 => ?_) (fun c20 => ?_)
        · skip
          have ei : i = 401 := by
            have := mt (nI_leI (a := i) (b := 400) (by omega) (by decide)).mpr (Int32.not_le.mpr c20)
            omega
          refine lv_bipush (v := (-5)) hx hb dX6_restsIn_39 (by decide) ?_
          exact hret _ _ _ _ _ _ dX6_restsIn_41 hS hP hD ⟨by rw [sP_t hp, ef, ei]; rfl, hu⟩
        · skip
          have hi2 : i ≤ 400 := (nI_leI (by omega) (by decide)).mp (Int32.not_lt.mp c20)
          refine lv_aload_n hx hb dX6_restsIn_23 rfl (lv_at hl 0 rfl) ?_
          refine lv_iload_n hx hb dX6_restsIn_24 rfl (lv_at hl 1 rfl) ?_
          refine callMi (As := [.int (nI p)]) (wr := []) ⟨hx, hb, hml, hown, hts⟩ (mX6_goes l T D b u t P hk p hp (by rw [hu1]; exact gIt_d (hk p hp) i)) (cwV 1 hts gX6_restsIn_X6_goes rfl rfl rfl pdX6_goes ⟨Nat.le_of_ble_eq_true rfl, Nat.le_of_ble_eq_true rfl⟩) hP hD hK hS hA xN_bl (fun U _ hW => XN_warm hW hX) (ci := 6) rfl rfl rfl hl.1 rfl rfl (Nat.le_of_ble_eq_true rfl) dX6_restsIn_25 ⟨Nat.zero_le _, Nat.zero_le _⟩ (fun r4_ u5_ H locs eu5_ hP hD hS hkf => ?_)
          obtain rfl : r4_ = kGby (P p) (u 11) (u 12) := eu5_
          have hP : va_P D vwCl [(b 0, .inr (6, moF b (upd (upd u 12 (kGq (P p) (u 12))) 11 (u 11 + kGby (P p) (u 11) (u 12))))), ((b 1), .inl (T 0, 43, .inl (mS t P)))] H := hP
          have hD : va_D A [(b 0, .inr (6, moF b (upd (upd u 12 (kGq (P p) (u 12))) 11 (u 11 + kGby (P p) (u 11) (u 12))))), ((b 1), .inl (T 0, 43, .inl (mS t P)))] := hD
          refine lv_if_ne (tgt := 33) hx hb dX6_restsIn_28 (by decide) (fun c28 => ?_) (fun c28 => ?_)
          · skip
            refine lv_iinc (v := nI (i + 1)) (lv' := [(2, .int (nI (i + 1))), (0, .ref (b 0)), (1, .int (nI p))]) hx hb dX6_restsIn_33 hl (k := 2) rfl (nI_1 i) (by decide) rfl (fun ls hl => ?_)
            refine lv_goto (tgt := 16) hx hb dX6_restsIn_36 (by decide) ?_
            exact ih (i + 1) _ ls _ _ (by omega) (by omega) (fun k hk2 => by rw [upd_n (by omega), upd_n (by omega)]; exact hu k hk2) (by rw [upd_0, hu1, hu2]; rfl) (by rw [upd_n (by decide), upd_0, hu2]; rfl) (by rw [ef, show 401 - i = (401 - (i + 1)) + 1 by omega, kFirst_f (f := fun n => decide (gBy (P p) n = 0)) (by rw [decide_eq_true_eq, gBy, ← hu1, ← hu2]; exact c28)]) hP hD hS (lv_sub hl [1, 2, 0] rfl)
          · skip
            refine lv_iload_n hx hb dX6_restsIn_31 rfl (lv_at hl 2 rfl) ?_
            exact hret _ _ _ _ _ _ dX6_restsIn_32 hS hP hD ⟨by rw [sP_t hp, ef, show 401 - i = (401 - (i + 1)) + 1 by omega, kFirst_t (f := fun n => decide (gBy (P p) n = 0)) (by rw [decide_eq_true_eq, gBy, ← hu1, ← hu2]; exact c28)], fun k hk2 => by rw [upd_n (by omega), upd_n (by omega)]; exact hu k hk2⟩
    exact loop (401 + 1) 0 _ ls _ _ (by omega) (by omega) (fun k hk2 => by rw [upd_n (by omega), upd_n (by omega)]) rfl rfl rfl hP hD hS (lv_sub hl [1, 2, 0] rfl)
  · skip
    have c4 := bI_0 c4
    refine lv_iconst (v := (-1)) hx hb dX6_restsIn_7 (by decide) ?_
    exact hret _ _ _ v _ _ dX6_restsIn_8 hS hP hD ⟨(sP_f c4).symm, fun _ _ => rfl⟩

def rmX6_depthIn : Room := { frames := 6, cells := 0, slots := 0, locals := 137 }
set_option maxHeartbeats 4000000 in
set_option maxRecDepth 100000 in
theorem mX6_depthIn (l : Launch) (T : Nat → ClassId) (D : va_G) (b : Nat → Nat) (v : Nat → Int32) (t : Nat → Int32) (P : Nat → Nat → Int32) (hk : ∀ p, p < 4 → kOk (P p)) (x w : Int32) : MuI l yX6_depthIn wsX6_depthIn rmX6_depthIn T xN D [.ref (b 0), .int x, .int w] [(b 0, .inr (6, moF b v)), ((b 1), .inl (T 0, 43, .inl (mS t P)))] (S := Nat → Int32) (fun r u => r = sP x (fun p => tD (P p) w) (-1) ∧ ∀ k, k < 11 → u k = v k) (fun u => moG T b u (mS t P)) 0 0 := by
  refine met_mi (cc := cX6_depthIn) (maxL := 5) (by decide) rfl (Nat.le_of_ble_eq_true rfl) ?_
  intro p_ e s m args below meth c ls A Q hx hb hts hown hml hX hP hD hK hS hA hl hret
  have hl : lv_has ls 5 [(0, .ref (b 0)), (1, .int x), (2, .int w)] := hl
  obtain ⟨H, hH⟩ : ∃ H, H = s.heap := ⟨_, rfl⟩
  have hS : va_S A s.heap H [] := by rw [hH]; exact hS
  rw [← hH] at hP ⊢
  refine lv_iload_n hx hb dX6_depthIn_0 rfl (lv_at hl 1 rfl) ?_
  refine callSi (As := [.int x]) ⟨hx, hb, hml, hown, hts⟩ (mX6_isPair l T D x) (va_cwS 1 hts gX6_depthIn_X6_isPair rfl rfl rfl (pdX6_isPair).2 ⟨Nat.le_of_ble_eq_true rfl, Nat.le_of_ble_eq_true rfl⟩) wP_nil hK xN_bl (fun U _ hW => XN_warm hW hX) hl.1 rfl rfl (Nat.le_of_ble_eq_true rfl) dX6_depthIn_1 ⟨Nat.zero_le _, Nat.zero_le _⟩ (fun r1_ er1_ => ?_)
  obtain rfl : r1_ = bI (0 ≤ x ∧ x ≤ 3) := er1_
  refine lv_if_ne (tgt := 9) hx hb dX6_depthIn_4 (by decide) (fun c4 => ?_) (fun c4 => ?_)
  · skip
    have c4 := bI_n0 c4
    obtain ⟨p, hp, rfl⟩ := pair_of c4
    refine lv_iload_n hx hb dX6_depthIn_9 rfl (lv_at hl 2 rfl) ?_
    refine lv_iconst (v := 1) hx hb dX6_depthIn_10 (by decide) ?_
    refine lv_sipush (v := 400) hx hb dX6_depthIn_11 (by decide) ?_
    refine callSi (As := [.int w, .int 1, .int 400]) ⟨hx, hb, hml, hown, hts⟩ (mX6_in l T D w 1 400) (va_cwS 3 hts gX6_depthIn_X6_in rfl rfl rfl (pdX6_in).2 ⟨Nat.le_of_ble_eq_true rfl, Nat.le_of_ble_eq_true rfl⟩) wP_nil hK xN_bl (fun U _ hW => XN_warm hW hX) hl.1 rfl rfl (Nat.le_of_ble_eq_true rfl) dX6_depthIn_14 ⟨Nat.zero_le _, Nat.zero_le _⟩ (fun r2_ er2_ => ?_)
    obtain rfl : r2_ = bI (1 ≤ w ∧ w ≤ 400) := er2_
    refine lv_if_ne (tgt := 23) hx hb dX6_depthIn_17 (by decide) (fun c17 => ?_) (fun c17 => ?_)
    · skip
      have c17 := bI_n0 c17
      obtain ⟨n, hn, rfl⟩ := rng_of (x := w) (n := 400) (by decide) ⟨Int32.le_trans (by decide) c17.1, c17.2⟩
      refine lv_aload_n hx hb dX6_depthIn_23 rfl (lv_at hl 0 rfl) ?_
      refine lv_iload_n hx hb dX6_depthIn_24 rfl (lv_at hl 1 rfl) ?_
      refine callMv (As := [.int (nI p)]) (wr := []) ⟨hx, hb, hml, hown, hts⟩ (mX6_sets l T D b v t P hk p hp ) (cwV 1 hts gX6_depthIn_X6_sets rfl rfl rfl pdX6_sets ⟨Nat.le_of_ble_eq_true rfl, Nat.le_of_ble_eq_true rfl⟩) hP hD hK hS hA xN_bl (fun U _ hW => XN_warm hW hX) (ci := 6) rfl rfl rfl hl.1 rfl rfl (Nat.le_of_ble_eq_true rfl) dX6_depthIn_25 ⟨Nat.zero_le _, Nat.zero_le _⟩ (fun u4_ H locs eu4_ hP hD hS hkf => ?_)
      have hP : va_P D vwCl [(b 0, .inr (6, moF b (upd (upd v 11 (P p 6)) 12 (P p 7)))), ((b 1), .inl (T 0, 43, .inl (mS t P)))] H := hP
      have hD : va_D A [(b 0, .inr (6, moF b (upd (upd v 11 (P p 6)) 12 (P p 7)))), ((b 1), .inl (T 0, 43, .inl (mS t P)))] := hD
      refine lv_iconst (v := nI 0) hx hb dX6_depthIn_28 (by decide) ?_
      refine lv_istore_n (lv' := [(3, .int (nI 0)), (0, .ref (b 0)), (1, .int (nI p)), (2, .int (nI n))]) hx hb dX6_depthIn_29 rfl hl (by decide) rfl (fun ls hl => ?_)
      have loop : ∀ (j : Nat) (i : Nat) (u : Nat → Int32) (ls : Array Slot) (H : Heap) (locs : List Loc), (n + 1 ≤ i + j) → (i ≤ n) → (∀ k, k < 11 → u k = v k) → (u 11 = (gIt (P p) i).1) → (u 12 = (gIt (P p) i).2) → True → va_P D vwCl [(b 0, .inr (6, moF b u)), ((b 1), .inl (T 0, 43, .inl (mS t P)))] H → va_D A [(b 0, .inr (6, moF b u)), ((b 1), .inl (T 0, 43, .inl (mS t P)))] → va_S A s.heap H locs → lv_has ls 5 [(0, .ref (b 0)), (1, .int (nI p)), (2, .int (nI n)), (3, .int (nI i))] → W p_ l e rmX6_depthIn s m args below meth c H locs 0 0 Q (F0 m 30 ls []) := by
        intro j
        induction j with
        | zero => intro i u ls H locs hm hi; exact absurd hm (by omega)
        | succ j ih =>
          intro i u ls H locs hm hi hu hu1 hu2 ef hP hD hS hl
          refine lv_iload_n hx hb dX6_depthIn_30 rfl (lv_at hl 3 rfl) ?_
          refine lv_iload_n hx hb dX6_depthIn_31 rfl (lv_at hl 2 rfl) ?_
          refine lv_icmp_ge (tgt := 48) hx hb dX6_depthIn_32 (by decide) (fun c32 => ?_) (fun c32 => ?_)
          · skip
            have ei : i = n := by
              have := (nI_leI (a := n) (b := i) (by omega) (by omega)).mp c32
              omega
            refine lv_aload_n hx hb dX6_depthIn_48 rfl (lv_at hl 0 rfl) ?_
            refine va_get (D := D) (ci := 6) (v := .int (u 11)) (C := RX6) (T := TX6) (N := 22) hx hb hts inwX6_depthIn_X6 hown hK hP 0 rfl rfl 20 (by decide) (hts (.fieldLink RX6 211 "PlateSlabsModel" "goneTo" "I") (List.mem_of_getElem? (i := 1) rfl)) (fun _ h9 => h9) rfl dX6_depthIn_49 ?_
            exact hret _ _ _ _ _ _ dX6_depthIn_52 hS hP hD ⟨by rw [sP_t hp, tD, if_pos c17, nI_clamp (by omega), hu1, ei], hu⟩
          · skip
            have hlt : i < n := by
              have := mt (nI_leI (a := n) (b := i) (by omega) (by omega)).mpr c32
              omega
            refine lv_aload_n hx hb dX6_depthIn_35 rfl (lv_at hl 0 rfl) ?_
            refine lv_iload_n hx hb dX6_depthIn_36 rfl (lv_at hl 1 rfl) ?_
            refine callMi (As := [.int (nI p)]) (wr := []) ⟨hx, hb, hml, hown, hts⟩ (mX6_goes l T D b u t P hk p hp (by rw [hu1]; exact gIt_d (hk p hp) i)) (cwV 1 hts gX6_depthIn_X6_goes rfl rfl rfl pdX6_goes ⟨Nat.le_of_ble_eq_true rfl, Nat.le_of_ble_eq_true rfl⟩) hP hD hK hS hA xN_bl (fun U _ hW => XN_warm hW hX) (ci := 6) rfl rfl rfl hl.1 rfl rfl (Nat.le_of_ble_eq_true rfl) dX6_depthIn_37 ⟨Nat.zero_le _, Nat.zero_le _⟩ (fun r5_ u6_ H locs eu6_ hP hD hS hkf => ?_)
            obtain rfl : r5_ = kGby (P p) (u 11) (u 12) := eu6_
            have hP : va_P D vwCl [(b 0, .inr (6, moF b (upd (upd u 12 (kGq (P p) (u 12))) 11 (u 11 + kGby (P p) (u 11) (u 12))))), ((b 1), .inl (T 0, 43, .inl (mS t P)))] H := hP
            have hD : va_D A [(b 0, .inr (6, moF b (upd (upd u 12 (kGq (P p) (u 12))) 11 (u 11 + kGby (P p) (u 11) (u 12))))), ((b 1), .inl (T 0, 43, .inl (mS t P)))] := hD
            refine lv_topi (fun x7_ ex7_ => ?_)
            refine lv_istore (lv' := [(4, .int x7_), (0, .ref (b 0)), (1, .int (nI p)), (2, .int (nI n)), (3, .int (nI i))]) hx hb dX6_depthIn_40 hl (by decide) rfl (fun ls hl => ?_)
            refine lv_iinc (v := nI (i + 1)) (lv' := [(3, .int (nI (i + 1))), (4, .int x7_), (0, .ref (b 0)), (1, .int (nI p)), (2, .int (nI n))]) hx hb dX6_depthIn_42 hl (k := 4) rfl (nI_1 i) (by decide) rfl (fun ls hl => ?_)
            refine lv_goto (tgt := 30) hx hb dX6_depthIn_45 (by decide) ?_
            exact ih (i + 1) _ ls _ _ (by omega) (by omega) (fun k hk2 => by rw [upd_n (by omega), upd_n (by omega)]; exact hu k hk2) (by rw [upd_0, hu1, hu2]; rfl) (by rw [upd_n (by decide), upd_0, hu2]; rfl) trivial hP hD hS (lv_sub hl [2, 3, 4, 0] rfl)
      exact loop (n + 1) 0 _ ls _ _ (by omega) (by omega) (fun k hk2 => by rw [upd_n (by omega), upd_n (by omega)]) rfl rfl trivial hP hD hS (lv_sub hl [1, 2, 3, 0] rfl)
    · skip
      have c17 := bI_0 c17
      refine lv_bipush (v := (-2)) hx hb dX6_depthIn_20 (by decide) ?_
      exact hret _ _ _ v _ _ dX6_depthIn_22 hS hP hD ⟨by rw [sP_t hp, tD, if_neg c17], fun _ _ => rfl⟩
  · skip
    have c4 := bI_0 c4
    refine lv_iconst (v := (-1)) hx hb dX6_depthIn_7 (by decide) ?_
    exact hret _ _ _ v _ _ dX6_depthIn_8 hS hP hD ⟨(sP_f c4).symm, fun _ _ => rfl⟩

