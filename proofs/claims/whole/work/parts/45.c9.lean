theorem pdX4_readThing : yX4_readThing.cls = RX4 ∧ yX4_readThing.cls ≠ "java/lang/invoke/MethodHandle" ∧ yX4_readThing.cls ≠ "java/lang/invoke/VarHandle" ∧ (parseMethodDescriptor yX4_readThing.desc).map (fun d => d.parameters.length) = some 1 := by decide +kernel
theorem inwX4_readThing_X4 : ∀ w ∈ wsX40, w ∈ wsX4_readThing := by decide +kernel
theorem inwX4_readThing_X3 : ∀ w ∈ wsX30, w ∈ wsX4_readThing := by decide +kernel
def rmX4_readNumber : Room := { frames := 2, cells := 0, slots := 0, locals := 43 }
set_option maxHeartbeats 4000000 in
set_option maxRecDepth 100000 in
theorem mX4_readNumber (l : Launch) (T : Nat → ClassId) (D : va_G) (y : Nat → Nat) (w tx : Nat → Int32) (len : Nat) (hlen : len ≤ 60) (hch : ∀ j, isCh (tx j)) (i : Nat) (hi : i ≤ 61) (h1 : w 1 = nI i) (lo hi9 : Nat) (hlo : lo ≤ 9) (hhi : hi9 ≤ 99) : MuI l yX4_readNumber wsX4_readNumber rmX4_readNumber T xN D [.ref (y 0), .int (nI lo), .int (nI hi9)] [((y 0), .inr (4, [.ref (y 4), .ref (y 1), .ref (y 2), .ref (y 3), .int (w 0), .int (w 1), .int (w 2), .int (w 3)])), ((y 4), .inr (3, [.ref (y 5), .int (nI len)])), ((y 5), .inl (T 2, 60, .inl (tx)))] (S := Nat → Int32) (fun r u => (nOk (tch tx len) i lo ∧ r = 1 ∧ u 0 = w 0 ∧ u 2 = w 2 ∧ u 3 = nI (nW (tch tx len) i hi9) ∧ u 1 = nI (nJ (tch tx len) i hi9)) ∨ (¬ nOk (tch tx len) i lo ∧ r = 0 ∧ u 0 = w 0 ∧ u 1 = nI i)) (fun u => trX T y u tx len) 0 0 := by
  refine met_mz (cc := cX4_readNumber) (maxL := 4) (by decide) rfl (Nat.le_of_ble_eq_true rfl) (fun r _ h => h.elim (fun z => Or.inr z.2.1) (fun z => Or.inl z.2.1)) ?_
  intro p_ e s m args below meth c ls A Q hx hb hts hown hml hX hP hD hK hS hA hl hret
  have hl : lv_has ls 4 [(0, .ref (y 0)), (1, .int (nI lo)), (2, .int (nI hi9))] := hl
  obtain ⟨H, hH⟩ : ∃ H, H = s.heap := ⟨_, rfl⟩
  have hS : va_S A s.heap H [] := by rw [hH]; exact hS
  rw [← hH] at hP ⊢
  refine lv_aload_n hx hb dX4_readNumber_0 rfl (lv_at hl 0 rfl) ?_
  refine lv_aload_n hx hb dX4_readNumber_1 rfl (lv_at hl 0 rfl) ?_
  refine lv_aload_n hx hb dX4_readNumber_2 rfl (lv_at hl 0 rfl) ?_
  refine va_get (D := D) (ci := 4) (v := .int (w 1)) (C := RX4) (T := TX4) (N := 8) hx hb hts inwX4_readNumber_X4 hown hK hP 0 rfl rfl 5 (by decide) (hts (.fieldLink RX4 36 "PlateSlabs$Trial" "at" "I") (List.mem_of_getElem? (i := 1) rfl)) (fun _ h9 => h9) rfl dX4_readNumber_3 ?_
  refine lv_tpi (z := nI i) (h1) ?_
  refine callRi (As := [.int (nI i)]) ⟨hx, hb, hml, hown, hts⟩ (mX4_digitAt l T D y w tx len hlen hch i (by omega)) (cwV 1 hts gX4_readNumber_X4_digitAt rfl rfl rfl pdX4_digitAt ⟨Nat.le_of_ble_eq_true rfl, Nat.le_of_ble_eq_true rfl⟩) hP hK xN_bl (fun U _ hW => XN_warm hW hX) (ci := 4) rfl rfl rfl hl.1 rfl rfl (Nat.le_of_ble_eq_true rfl) dX4_readNumber_6 ⟨Nat.zero_le _, Nat.zero_le _⟩ (fun r1_ er1_ => ?_)
  obtain rfl : r1_ = dI (tch tx len i) := er1_
  refine va_put (D := D) (ci := 4) (v := .int (dI (tch tx len i))) (C := RX4) (T := TX4) (N := 8) hx hb hts inwX4_readNumber_X4 tyX4 tyX4_ok nmX4 hown hK hP hD hS 0 rfl rfl 7 (by decide) (hts (.fieldLink RX4 49 "PlateSlabs$Trial" "value" "I") (List.mem_of_getElem? (i := 2) rfl)) (fun _ h9 => h9) rfl (tyX4_ok 7 (by decide)) (rfl) (rfl) (Nat.le_of_ble_eq_true rfl) dX4_readNumber_9 (fun H locs hP hD hS => ?_)
  have hP : va_P D vwCl [((y 0), .inr (4, [.ref (y 4), .ref (y 1), .ref (y 2), .ref (y 3), .int (w 0), .int (w 1), .int (w 2), .int (dI (tch tx len i))])), ((y 4), .inr (3, [.ref (y 5), .int (nI len)])), ((y 5), .inl (T 2, 60, .inl (tx)))] H := hP
  have hD : va_D A [((y 0), .inr (4, [.ref (y 4), .ref (y 1), .ref (y 2), .ref (y 3), .int (w 0), .int (w 1), .int (w 2), .int (dI (tch tx len i))])), ((y 4), .inr (3, [.ref (y 5), .int (nI len)])), ((y 5), .inl (T 2, 60, .inl (tx)))] := hD
  refine lv_aload_n hx hb dX4_readNumber_12 rfl (lv_at hl 0 rfl) ?_
  refine va_get (D := D) (ci := 4) (v := .int (dI (tch tx len i))) (C := RX4) (T := TX4) (N := 8) hx hb hts inwX4_readNumber_X4 hown hK hP 0 rfl rfl 7 (by decide) (hts (.fieldLink RX4 49 "PlateSlabs$Trial" "value" "I") (List.mem_of_getElem? (i := 2) rfl)) (fun _ h9 => h9) rfl dX4_readNumber_13 ?_
  refine lv_iload_n hx hb dX4_readNumber_16 rfl (lv_at hl 1 rfl) ?_
  refine lv_icmp_ge (tgt := 22) hx hb dX4_readNumber_17 (by decide) (fun c17 => ?_) (fun c17 => ?_)
  · skip
    have hok : nOk (tch tx len) i lo := (dI_ok hlo).mp (Int32.not_lt.mpr c17)
    have hil := tch_pos (dg_lo hlo hok).1
    have hd9 := dg_of (dg_lo hlo hok)
    refine lv_aload_n hx hb dX4_readNumber_22 rfl (lv_at hl 0 rfl) ?_
    refine lv_dup hx hb dX4_readNumber_23 rfl ?_
    refine va_get (D := D) (ci := 4) (v := .int (w 1)) (C := RX4) (T := TX4) (N := 8) hx hb hts inwX4_readNumber_X4 hown hK hP 0 rfl rfl 5 (by decide) (hts (.fieldLink RX4 36 "PlateSlabs$Trial" "at" "I") (List.mem_of_getElem? (i := 1) rfl)) (fun _ h9 => h9) rfl dX4_readNumber_24 ?_
    refine lv_tpi (z := nI i) (h1) ?_
    refine lv_iconst (v := 1) hx hb dX4_readNumber_27 (by decide) ?_
    refine lv_iadd hx hb dX4_readNumber_28 ?_
    refine lv_tpi (z := nI (i + 1)) (nI_1 i) ?_
    refine va_put (D := D) (ci := 4) (v := .int (nI (i + 1))) (C := RX4) (T := TX4) (N := 8) hx hb hts inwX4_readNumber_X4 tyX4 tyX4_ok nmX4 hown hK hP hD hS 0 rfl rfl 5 (by decide) (hts (.fieldLink RX4 36 "PlateSlabs$Trial" "at" "I") (List.mem_of_getElem? (i := 1) rfl)) (fun _ h9 => h9) rfl (tyX4_ok 5 (by decide)) (rfl) (rfl) (Nat.le_of_ble_eq_true rfl) dX4_readNumber_29 (fun H locs hP hD hS => ?_)
    have hP : va_P D vwCl [((y 0), .inr (4, [.ref (y 4), .ref (y 1), .ref (y 2), .ref (y 3), .int (w 0), .int (nI (i + 1)), .int (w 2), .int (dI (tch tx len i))])), ((y 4), .inr (3, [.ref (y 5), .int (nI len)])), ((y 5), .inl (T 2, 60, .inl (tx)))] H := hP
    have hD : va_D A [((y 0), .inr (4, [.ref (y 4), .ref (y 1), .ref (y 2), .ref (y 3), .int (w 0), .int (nI (i + 1)), .int (w 2), .int (dI (tch tx len i))])), ((y 4), .inr (3, [.ref (y 5), .int (nI len)])), ((y 5), .inl (T 2, 60, .inl (tx)))] := hD
    refine lv_aload_n hx hb dX4_readNumber_32 rfl (lv_at hl 0 rfl) ?_
    refine lv_aload_n hx hb dX4_readNumber_33 rfl (lv_at hl 0 rfl) ?_
    refine va_get (D := D) (ci := 4) (v := .int (nI (i + 1))) (C := RX4) (T := TX4) (N := 8) hx hb hts inwX4_readNumber_X4 hown hK hP 0 rfl rfl 5 (by decide) (hts (.fieldLink RX4 36 "PlateSlabs$Trial" "at" "I") (List.mem_of_getElem? (i := 1) rfl)) (fun _ h9 => h9) rfl dX4_readNumber_34 ?_
    refine callRi (As := [.int (nI (i + 1))]) ⟨hx, hb, hml, hown, hts⟩ (mX4_digitAt l T D y (upd (upd w 3 (dI (tch tx len i))) 1 (nI (i + 1))) tx len hlen hch (i + 1) (by omega)) (cwV 1 hts gX4_readNumber_X4_digitAt rfl rfl rfl pdX4_digitAt ⟨Nat.le_of_ble_eq_true rfl, Nat.le_of_ble_eq_true rfl⟩) hP hK xN_bl (fun U _ hW => XN_warm hW hX) (ci := 4) rfl rfl rfl hl.1 rfl rfl (Nat.le_of_ble_eq_true rfl) dX4_readNumber_37 ⟨Nat.zero_le _, Nat.zero_le _⟩ (fun r2_ er2_ => ?_)
    obtain rfl : r2_ = dI (tch tx len (i + 1)) := er2_
    refine lv_istore_n (lv' := [(3, .int (dI (tch tx len (i + 1)))), (0, .ref (y 0)), (1, .int (nI lo)), (2, .int (nI hi9))]) hx hb dX4_readNumber_40 rfl hl (by decide) rfl (fun ls hl => ?_)
    refine lv_aload_n hx hb dX4_readNumber_41 rfl (lv_at hl 1 rfl) ?_
    refine va_get (D := D) (ci := 4) (v := .int (dI (tch tx len i))) (C := RX4) (T := TX4) (N := 8) hx hb hts inwX4_readNumber_X4 hown hK hP 0 rfl rfl 7 (by decide) (hts (.fieldLink RX4 49 "PlateSlabs$Trial" "value" "I") (List.mem_of_getElem? (i := 2) rfl)) (fun _ h9 => h9) rfl dX4_readNumber_42 ?_
    refine lv_tpi (z := nI (dg (tch tx len i))) (dI_okv hlo hok) ?_
    refine lv_if_le (tgt := 89) hx hb dX4_readNumber_45 (by decide) (fun c45 => ?_) (fun c45 => ?_)
    · skip
      have h0 : ¬ 0 < dg (tch tx len i) := fun z => by
        have := (nI_leI (b := 0) (by omega) (by decide)).mp c45
        omega
      refine lv_iconst (v := 1) hx hb dX4_readNumber_89 (by decide) ?_
      exact hret _ _ _ (upd (upd w 3 (dI (tch tx len i))) 1 (nI (i + 1))) _ _ dX4_readNumber_90 hS hP hD (Or.inl ⟨hok, rfl, rfl, rfl, by rw [(nW_f (hi := hi9) (fun z => h0 z.1)).1]; exact dI_okv hlo hok, by rw [(nW_f (hi := hi9) (fun z => h0 z.1)).2]; rfl⟩)
    · skip
      have h0 : 0 < dg (tch tx len i) := by
        have := mt (nI_leI (a := dg (tch tx len i)) (b := 0) (by omega) (by decide)).mpr c45
        omega
      refine lv_iload_n hx hb dX4_readNumber_48 rfl (lv_at hl 0 rfl) ?_
      refine lv_iconst (v := (-1)) hx hb dX4_readNumber_49 (by decide) ?_
      refine lv_icmp_eq (tgt := 89) hx hb dX4_readNumber_50 (by decide) (fun c50 => ?_) (fun c50 => ?_)
      · skip
        refine lv_iconst (v := 1) hx hb dX4_readNumber_89 (by decide) ?_
        exact hret _ _ _ (upd (upd w 3 (dI (tch tx len i))) 1 (nI (i + 1))) _ _ dX4_readNumber_90 hS hP hD (Or.inl ⟨hok, rfl, rfl, rfl, by rw [(nW_f (hi := hi9) (fun z => (dI_m1.mpr z.2.1) c50)).1]; exact dI_okv hlo hok, by rw [(nW_f (hi := hi9) (fun z => (dI_m1.mpr z.2.1) c50)).2]; rfl⟩)
      · skip
        have hdg := dI_m1.mp c50
        have hd8 := dg_of hdg
        refine lv_aload_n hx hb dX4_readNumber_53 rfl (lv_at hl 1 rfl) ?_
        refine va_get (D := D) (ci := 4) (v := .int (dI (tch tx len i))) (C := RX4) (T := TX4) (N := 8) hx hb hts inwX4_readNumber_X4 hown hK hP 0 rfl rfl 7 (by decide) (hts (.fieldLink RX4 49 "PlateSlabs$Trial" "value" "I") (List.mem_of_getElem? (i := 2) rfl)) (fun _ h9 => h9) rfl dX4_readNumber_54 ?_
        refine lv_tpi (z := nI (dg (tch tx len i))) (dI_okv hlo hok) ?_
        refine lv_bipush (v := 10) hx hb dX4_readNumber_57 (by decide) ?_
        refine lv_imul hx hb dX4_readNumber_59 ?_
        refine lv_iload_n hx hb dX4_readNumber_60 rfl (lv_at hl 0 rfl) ?_
        refine lv_iadd hx hb dX4_readNumber_61 ?_
        refine lv_tpi (z := nI (10 * dg (tch tx len i) + dg (tch tx len (i + 1)))) (by rw [dI_v hdg, num4]) ?_
        refine lv_iload_n hx hb dX4_readNumber_62 rfl (lv_at hl 3 rfl) ?_
        refine lv_icmp_gt (tgt := 89) hx hb dX4_readNumber_63 (by decide) (fun c63 => ?_) (fun c63 => ?_)
        · skip
          refine lv_iconst (v := 1) hx hb dX4_readNumber_89 (by decide) ?_
          exact hret _ _ _ (upd (upd w 3 (dI (tch tx len i))) 1 (nI (i + 1))) _ _ dX4_readNumber_90 hS hP hD (Or.inl ⟨hok, rfl, rfl, rfl, by rw [(nW_f (hi := hi9) (fun z => absurd c63 (Int32.not_lt.mpr ((nI_leI (by omega) (by omega)).mpr z.2.2)))).1]; exact dI_okv hlo hok, by rw [(nW_f (hi := hi9) (fun z => absurd c63 (Int32.not_lt.mpr ((nI_leI (by omega) (by omega)).mpr z.2.2)))).2]; rfl⟩)
        · skip
          have hle : 10 * dg (tch tx len i) + dg (tch tx len (i + 1)) ≤ hi9 := (nI_leI (by omega) (by omega)).mp (Int32.not_lt.mp c63)
          refine lv_aload_n hx hb dX4_readNumber_66 rfl (lv_at hl 1 rfl) ?_
          refine lv_aload_n hx hb dX4_readNumber_67 rfl (lv_at hl 1 rfl) ?_
          refine va_get (D := D) (ci := 4) (v := .int (dI (tch tx len i))) (C := RX4) (T := TX4) (N := 8) hx hb hts inwX4_readNumber_X4 hown hK hP 0 rfl rfl 7 (by decide) (hts (.fieldLink RX4 49 "PlateSlabs$Trial" "value" "I") (List.mem_of_getElem? (i := 2) rfl)) (fun _ h9 => h9) rfl dX4_readNumber_68 ?_
          refine lv_tpi (z := nI (dg (tch tx len i))) (dI_okv hlo hok) ?_
          refine lv_bipush (v := 10) hx hb dX4_readNumber_71 (by decide) ?_
          refine lv_imul hx hb dX4_readNumber_73 ?_
          refine lv_iload_n hx hb dX4_readNumber_74 rfl (lv_at hl 0 rfl) ?_
          refine lv_iadd hx hb dX4_readNumber_75 ?_
          refine lv_tpi (z := nI (10 * dg (tch tx len i) + dg (tch tx len (i + 1)))) (by rw [dI_v hdg, num4]) ?_
          refine va_put (D := D) (ci := 4) (v := .int (nI (10 * dg (tch tx len i) + dg (tch tx len (i + 1))))) (C := RX4) (T := TX4) (N := 8) hx hb hts inwX4_readNumber_X4 tyX4 tyX4_ok nmX4 hown hK hP hD hS 0 rfl rfl 7 (by decide) (hts (.fieldLink RX4 49 "PlateSlabs$Trial" "value" "I") (List.mem_of_getElem? (i := 2) rfl)) (fun _ h9 => h9) rfl (tyX4_ok 7 (by decide)) (rfl) (rfl) (Nat.le_of_ble_eq_true rfl) dX4_readNumber_76 (fun H locs hP hD hS => ?_)
          have hP : va_P D vwCl [((y 0), .inr (4, [.ref (y 4), .ref (y 1), .ref (y 2), .ref (y 3), .int (w 0), .int (nI (i + 1)), .int (w 2), .int (nI (10 * dg (tch tx len i) + dg (tch tx len (i + 1))))])), ((y 4), .inr (3, [.ref (y 5), .int (nI len)])), ((y 5), .inl (T 2, 60, .inl (tx)))] H := hP
          have hD : va_D A [((y 0), .inr (4, [.ref (y 4), .ref (y 1), .ref (y 2), .ref (y 3), .int (w 0), .int (nI (i + 1)), .int (w 2), .int (nI (10 * dg (tch tx len i) + dg (tch tx len (i + 1))))])), ((y 4), .inr (3, [.ref (y 5), .int (nI len)])), ((y 5), .inl (T 2, 60, .inl (tx)))] := hD
          refine lv_aload_n hx hb dX4_readNumber_79 rfl (lv_at hl 1 rfl) ?_
          refine lv_dup hx hb dX4_readNumber_80 rfl ?_
          refine va_get (D := D) (ci := 4) (v := .int (nI (i + 1))) (C := RX4) (T := TX4) (N := 8) hx hb hts inwX4_readNumber_X4 hown hK hP 0 rfl rfl 5 (by decide) (hts (.fieldLink RX4 36 "PlateSlabs$Trial" "at" "I") (List.mem_of_getElem? (i := 1) rfl)) (fun _ h9 => h9) rfl dX4_readNumber_81 ?_
          refine lv_iconst (v := 1) hx hb dX4_readNumber_84 (by decide) ?_
          refine lv_iadd hx hb dX4_readNumber_85 ?_
          refine lv_tpi (z := nI (i + 2)) (nI_1 (i + 1)) ?_
          refine va_put (D := D) (ci := 4) (v := .int (nI (i + 2))) (C := RX4) (T := TX4) (N := 8) hx hb hts inwX4_readNumber_X4 tyX4 tyX4_ok nmX4 hown hK hP hD hS 0 rfl rfl 5 (by decide) (hts (.fieldLink RX4 36 "PlateSlabs$Trial" "at" "I") (List.mem_of_getElem? (i := 1) rfl)) (fun _ h9 => h9) rfl (tyX4_ok 5 (by decide)) (rfl) (rfl) (Nat.le_of_ble_eq_true rfl) dX4_readNumber_86 (fun H locs hP hD hS => ?_)
          have hP : va_P D vwCl [((y 0), .inr (4, [.ref (y 4), .ref (y 1), .ref (y 2), .ref (y 3), .int (w 0), .int (nI (i + 2)), .int (w 2), .int (nI (10 * dg (tch tx len i) + dg (tch tx len (i + 1))))])), ((y 4), .inr (3, [.ref (y 5), .int (nI len)])), ((y 5), .inl (T 2, 60, .inl (tx)))] H := hP
          have hD : va_D A [((y 0), .inr (4, [.ref (y 4), .ref (y 1), .ref (y 2), .ref (y 3), .int (w 0), .int (nI (i + 2)), .int (w 2), .int (nI (10 * dg (tch tx len i) + dg (tch tx len (i + 1))))])), ((y 4), .inr (3, [.ref (y 5), .int (nI len)])), ((y 5), .inl (T 2, 60, .inl (tx)))] := hD
          refine lv_iconst (v := 1) hx hb dX4_readNumber_89 (by decide) ?_
          exact hret _ _ _ (upd (upd w 3 (nI (10 * dg (tch tx len i) + dg (tch tx len (i + 1))))) 1 (nI (i + 2))) _ _ dX4_readNumber_90 hS hP hD (Or.inl ⟨hok, rfl, rfl, rfl, by rw [(nW_t h0 hdg hle).1]; rfl, by rw [(nW_t h0 hdg hle).2]; rfl⟩)
  · skip
    have hno : ¬ nOk (tch tx len) i lo := fun z => c17 (Int32.not_lt.mp ((dI_ok hlo).mpr z))
    refine lv_iconst (v := 0) hx hb dX4_readNumber_20 (by decide) ?_
    exact hret _ _ _ (upd w 3 (dI (tch tx len i))) _ _ dX4_readNumber_21 hS hP hD (Or.inr ⟨hno, rfl, rfl, h1⟩)

theorem kind_no {x : Int32} (h1 : ¬ x = 98) (h2 : ¬ x = 111) (h3 : ¬ x = 100) (h4 : ¬ x = 99) (h5 : ¬ x = 46) : Op.lookupswitch.offset [((46 : Int), (182 : Int)), (98, 49), (99, 153), (100, 112), (111, 90)] 207 x.toInt = 207 := by
  have k : ∀ c : Int32, ¬ x = c → ¬ x.toInt = c.toInt := fun c h z => h (Int32.toInt_inj.mp z)
  have a1 := k 98 h1
  have a2 := k 111 h2
  have a3 := k 100 h3
  have a4 := k 99 h4
  have a5 := k 46 h5
  rw [show (98 : Int32).toInt = 98 by decide] at a1
  rw [show (111 : Int32).toInt = 111 by decide] at a2
  rw [show (100 : Int32).toInt = 100 by decide] at a3
  rw [show (99 : Int32).toInt = 99 by decide] at a4
  rw [show (46 : Int32).toInt = 46 by decide] at a5
  simp [Op.lookupswitch.offset, a1, a2, a3, a4, a5, Ne.symm a1, Ne.symm a2, Ne.symm a3, Ne.symm a4, Ne.symm a5]
def rmX4_readThing : Room := { frames := 3, cells := 0, slots := 0, locals := 66 }
set_option maxHeartbeats 4000000 in
set_option maxRecDepth 100000 in
theorem mX4_readThing (l : Launch) (T : Nat → ClassId) (D : va_G) (y : Nat → Nat) (w tx : Nat → Int32) (len : Nat) (hlen : len ≤ 60) (hch : ∀ j, isCh (tx j)) (i : Nat) (hi : i ≤ 60) (h1 : w 1 = nI i) : MuI l yX4_readThing wsX4_readThing rmX4_readThing T xN D [.ref (y 0), .int (tch tx len i)] [((y 0), .inr (4, [.ref (y 4), .ref (y 1), .ref (y 2), .ref (y 3), .int (w 0), .int (w 1), .int (w 2), .int (w 3)])), ((y 4), .inr (3, [.ref (y 5), .int (nI len)])), ((y 5), .inl (T 2, 60, .inl (tx)))] (S := Nat → Int32) (fun r u => (tOk (tch tx len) i ∧ r = 1 ∧ u 0 = w 0 ∧ u 1 = nI (tJ (tch tx len) i) ∧ u 2 = nI (cA (tch tx len) i) ∧ u 3 = nI (cW (tch tx len) i)) ∨ (¬ tOk (tch tx len) i ∧ r = 0 ∧ u 0 = w 0 ∧ u 1 = nI (tJ (tch tx len) i))) (fun u => trX T y u tx len) 0 0 := by
  refine met_mz (cc := cX4_readThing) (maxL := 2) (by decide) rfl (Nat.le_of_ble_eq_true rfl) (fun r _ h => h.elim (fun z => Or.inr z.2.1) (fun z => Or.inl z.2.1)) ?_
  intro p_ e s m args below meth c ls A Q hx hb hts hown hml hX hP hD hK hS hA hl hret
  have hl : lv_has ls 2 [(0, .ref (y 0)), (1, .int (tch tx len i))] := hl
  obtain ⟨H, hH⟩ : ∃ H, H = s.heap := ⟨_, rfl⟩
  have hS : va_S A s.heap H [] := by rw [hH]; exact hS
  rw [← hH] at hP ⊢
  obtain ⟨ch, ech⟩ : ∃ z, z = tch tx len i := ⟨_, rfl⟩
  rw [← ech] at hl
  rcases kind5 ch with hZ | hZ | hZ | hZ | hZ | hZ
  · skip
    subst hZ
    have hi1 : i + 1 ≤ len := tch_pos1 (c := 98) (by decide) (by rw [← ech]; exact Int32.le_refl _)
    by_cases y1 : pd4 (tch tx len (i + 1))
    · skip
      have hi2 : i + 2 ≤ len := by
        have := tch_pos1 (c := 48) (by decide) y1.1
        omega
      by_cases y2 : tch tx len (i + 2) = 61
      · skip
        have hi3 : i + 3 ≤ len := by
          have := tch_pos1 (c := 61) (by decide) (by rw [y2]; exact Int32.le_refl _)
          omega
        by_cases y3 : nOk (tch tx len) (i + 3) 0
        · skip
          refine lv_aload_n hx hb dX4_readThing_0 rfl (lv_at hl 0 rfl) ?_
          refine lv_iconst (v := nI 0) hx hb dX4_readThing_1 (by decide) ?_
          refine va_put (D := D) (ci := 4) (v := .int (nI 0)) (C := RX4) (T := TX4) (N := 8) hx hb hts inwX4_readThing_X4 tyX4 tyX4_ok nmX4 hown hK hP hD hS 0 rfl rfl 6 (by decide) (hts (.fieldLink RX4 46 "PlateSlabs$Trial" "pair" "I") (List.mem_of_getElem? (i := 1) rfl)) (fun _ h9 => h9) rfl (tyX4_ok 6 (by decide)) (rfl) (rfl) (Nat.le_of_ble_eq_true rfl) dX4_readThing_2 (fun H locs hP hD hS => ?_)
          have hP : va_P D vwCl [((y 0), .inr (4, [.ref (y 4), .ref (y 1), .ref (y 2), .ref (y 3), .int (w 0), .int (w 1), .int (nI 0), .int (w 3)])), ((y 4), .inr (3, [.ref (y 5), .int (nI len)])), ((y 5), .inl (T 2, 60, .inl (tx)))] H := hP
          have hD : va_D A [((y 0), .inr (4, [.ref (y 4), .ref (y 1), .ref (y 2), .ref (y 3), .int (w 0), .int (w 1), .int (nI 0), .int (w 3)])), ((y 4), .inr (3, [.ref (y 5), .int (nI len)])), ((y 5), .inl (T 2, 60, .inl (tx)))] := hD
          refine lv_aload_n hx hb dX4_readThing_5 rfl (lv_at hl 0 rfl) ?_
          refine lv_iconst (v := nI 0) hx hb dX4_readThing_6 (by decide) ?_
          refine va_put (D := D) (ci := 4) (v := .int (nI 0)) (C := RX4) (T := TX4) (N := 8) hx hb hts inwX4_readThing_X4 tyX4 tyX4_ok nmX4 hown hK hP hD hS 0 rfl rfl 7 (by decide) (hts (.fieldLink RX4 49 "PlateSlabs$Trial" "value" "I") (List.mem_of_getElem? (i := 2) rfl)) (fun _ h9 => h9) rfl (tyX4_ok 7 (by decide)) (rfl) (rfl) (Nat.le_of_ble_eq_true rfl) dX4_readThing_7 (fun H locs hP hD hS => ?_)
          have hP : va_P D vwCl [((y 0), .inr (4, [.ref (y 4), .ref (y 1), .ref (y 2), .ref (y 3), .int (w 0), .int (w 1), .int (nI 0), .int (nI 0)])), ((y 4), .inr (3, [.ref (y 5), .int (nI len)])), ((y 5), .inl (T 2, 60, .inl (tx)))] H := hP
          have hD : va_D A [((y 0), .inr (4, [.ref (y 4), .ref (y 1), .ref (y 2), .ref (y 3), .int (w 0), .int (w 1), .int (nI 0), .int (nI 0)])), ((y 4), .inr (3, [.ref (y 5), .int (nI len)])), ((y 5), .inl (T 2, 60, .inl (tx)))] := hD
          refine lv_iload_n hx hb dX4_readThing_10 rfl (lv_at hl 1 rfl) ?_
          obtain ⟨v0, ev0⟩ : ∃ z, z = upd (upd w 2 (nI 0)) 3 (nI 0) := ⟨_, rfl⟩
          have hP : va_P D vwCl [((y 0), .inr (4, [.ref (y 4), .ref (y 1), .ref (y 2), .ref (y 3), .int (v0 0), .int (v0 1), .int (v0 2), .int (v0 3)])), ((y 4), .inr (3, [.ref (y 5), .int (nI len)])), ((y 5), .inl (T 2, 60, .inl (tx)))] H := by rw [ev0]; exact hP
          have hD : va_D A [((y 0), .inr (4, [.ref (y 4), .ref (y 1), .ref (y 2), .ref (y 3), .int (v0 0), .int (v0 1), .int (v0 2), .int (v0 3)])), ((y 4), .inr (3, [.ref (y 5), .int (nI len)])), ((y 5), .inl (T 2, 60, .inl (tx)))] := by rw [ev0]; exact hD
          have f0v0 : v0 0 = w 0 := by rw [ev0]; rfl
          have f1v0 : v0 1 = nI i := by rw [ev0]; exact h1
          have f2v0 : v0 2 = nI 0 := by rw [ev0]; rfl
          have f3v0 : v0 3 = nI 0 := by rw [ev0]; rfl
          have hP : va_P D vwCl [((y 0), .inr (4, [.ref (y 4), .ref (y 1), .ref (y 2), .ref (y 3), .int (v0 0), .int (v0 1), .int (v0 2), .int (v0 3)])), ((y 4), .inr (3, [.ref (y 5), .int (nI len)])), ((y 5), .inl (T 2, 60, .inl (tx)))] H := hP
          have hD : va_D A [((y 0), .inr (4, [.ref (y 4), .ref (y 1), .ref (y 2), .ref (y 3), .int (v0 0), .int (v0 1), .int (v0 2), .int (v0 3)])), ((y 4), .inr (3, [.ref (y 5), .int (nI len)])), ((y 5), .inl (T 2, 60, .inl (tx)))] := hD
          refine lv_lookup (off := 49) (tgt := 60) hx hb dX4_readThing_11 (by decide) (by decide) (by decide) ?_
          refine lv_aload_n hx hb dX4_readThing_60 rfl (lv_at hl 0 rfl) ?_
          refine lv_bipush (v := 98) hx hb dX4_readThing_61 (by decide) ?_
          refine callMi (As := [.int 98]) (wr := []) ⟨hx, hb, hml, hown, hts⟩ (mX4_readSign l T D y v0 tx len hlen hch i (by omega) f1v0 98) (cwV 1 hts gX4_readThing_X4_readSign rfl rfl rfl pdX4_readSign ⟨Nat.le_of_ble_eq_true rfl, Nat.le_of_ble_eq_true rfl⟩) hP hD hK hS hA xN_bl (fun U _ hW => XN_warm hW hX) (ci := 4) rfl rfl rfl hl.1 rfl rfl (Nat.le_of_ble_eq_true rfl) dX4_readThing_63 ⟨Nat.zero_le _, Nat.zero_le _⟩ (fun r1_ u2_ H locs eu2_ hP hD hS hkf => ?_)
          obtain ⟨u0, rfl⟩ : ∃ z, z = u2_ := ⟨_, rfl⟩
          obtain ⟨-, rfl, qu0⟩ := eu2_.resolve_right (fun z => z.1 ech.symm)
          have f1u0 : u0 1 = nI (i + 1) := by rw [qu0]; rfl
          have f0u0 : u0 0 = w 0 := by rw [qu0]; exact f0v0
          have f2u0 : u0 2 = nI 0 := by rw [qu0]; exact f2v0
          have f3u0 : u0 3 = nI 0 := by rw [qu0]; exact f3v0
          have hP : va_P D vwCl [((y 0), .inr (4, [.ref (y 4), .ref (y 1), .ref (y 2), .ref (y 3), .int (u0 0), .int (u0 1), .int (u0 2), .int (u0 3)])), ((y 4), .inr (3, [.ref (y 5), .int (nI len)])), ((y 5), .inl (T 2, 60, .inl (tx)))] H := hP
          have hD : va_D A [((y 0), .inr (4, [.ref (y 4), .ref (y 1), .ref (y 2), .ref (y 3), .int (u0 0), .int (u0 1), .int (u0 2), .int (u0 3)])), ((y 4), .inr (3, [.ref (y 5), .int (nI len)])), ((y 5), .inl (T 2, 60, .inl (tx)))] := hD
          refine lv_if_eq (tgt := 99) hx hb dX4_readThing_66 (by decide) (fun c66 => ?_) (fun c66 => ?_)
          · skip
            exact absurd c66 (by decide)
          · skip
            refine lv_aload_n hx hb dX4_readThing_69 rfl (lv_at hl 0 rfl) ?_
            refine callMi (As := []) (wr := []) ⟨hx, hb, hml, hown, hts⟩ (mX4_readPair l T D y u0 tx len hlen hch (i + 1) (by omega) f1u0) (cwV 0 hts gX4_readThing_X4_readPair rfl rfl rfl pdX4_readPair ⟨Nat.le_of_ble_eq_true rfl, Nat.le_of_ble_eq_true rfl⟩) hP hD hK hS hA xN_bl (fun U _ hW => XN_warm hW hX) (ci := 4) rfl rfl rfl hl.1 rfl rfl (Nat.le_of_ble_eq_true rfl) dX4_readThing_70 ⟨Nat.zero_le _, Nat.zero_le _⟩ (fun r3_ u4_ H locs eu4_ hP hD hS hkf => ?_)
            obtain ⟨u1, rfl⟩ : ∃ z, z = u4_ := ⟨_, rfl⟩
            obtain ⟨-, rfl, qu1⟩ := eu4_.resolve_right (fun z => z.1 y1)
            have f1u1 : u1 1 = nI (i + 2) := by rw [qu1]; rfl
            have f0u1 : u1 0 = w 0 := by rw [qu1]; exact f0u0
            have f2u1 : u1 2 = nI (dg (tch tx len (i + 1))) := by rw [qu1]; rfl
            have f3u1 : u1 3 = nI 0 := by rw [qu1]; exact f3u0
            have hP : va_P D vwCl [((y 0), .inr (4, [.ref (y 4), .ref (y 1), .ref (y 2), .ref (y 3), .int (u1 0), .int (u1 1), .int (u1 2), .int (u1 3)])), ((y 4), .inr (3, [.ref (y 5), .int (nI len)])), ((y 5), .inl (T 2, 60, .inl (tx)))] H := hP
            have hD : va_D A [((y 0), .inr (4, [.ref (y 4), .ref (y 1), .ref (y 2), .ref (y 3), .int (u1 0), .int (u1 1), .int (u1 2), .int (u1 3)])), ((y 4), .inr (3, [.ref (y 5), .int (nI len)])), ((y 5), .inl (T 2, 60, .inl (tx)))] := hD
            refine lv_if_eq (tgt := 99) hx hb dX4_readThing_73 (by decide) (fun c73 => ?_) (fun c73 => ?_)
            · skip
              exact absurd c73 (by decide)
            · skip
              refine lv_aload_n hx hb dX4_readThing_76 rfl (lv_at hl 0 rfl) ?_
              refine lv_bipush (v := 61) hx hb dX4_readThing_77 (by decide) ?_
              refine callMi (As := [.int 61]) (wr := []) ⟨hx, hb, hml, hown, hts⟩ (mX4_readSign l T D y u1 tx len hlen hch (i + 2) (by omega) f1u1 61) (cwV 1 hts gX4_readThing_X4_readSign rfl rfl rfl pdX4_readSign ⟨Nat.le_of_ble_eq_true rfl, Nat.le_of_ble_eq_true rfl⟩) hP hD hK hS hA xN_bl (fun U _ hW => XN_warm hW hX) (ci := 4) rfl rfl rfl hl.1 rfl rfl (Nat.le_of_ble_eq_true rfl) dX4_readThing_79 ⟨Nat.zero_le _, Nat.zero_le _⟩ (fun r5_ u6_ H locs eu6_ hP hD hS hkf => ?_)
              obtain ⟨u2, rfl⟩ : ∃ z, z = u6_ := ⟨_, rfl⟩
              obtain ⟨-, rfl, qu2⟩ := eu6_.resolve_right (fun z => z.1 y2)
              have f1u2 : u2 1 = nI (i + 3) := by rw [qu2]; rfl
              have f0u2 : u2 0 = w 0 := by rw [qu2]; exact f0u1
              have f2u2 : u2 2 = nI (dg (tch tx len (i + 1))) := by rw [qu2]; exact f2u1
              have f3u2 : u2 3 = nI 0 := by rw [qu2]; exact f3u1
              have hP : va_P D vwCl [((y 0), .inr (4, [.ref (y 4), .ref (y 1), .ref (y 2), .ref (y 3), .int (u2 0), .int (u2 1), .int (u2 2), .int (u2 3)])), ((y 4), .inr (3, [.ref (y 5), .int (nI len)])), ((y 5), .inl (T 2, 60, .inl (tx)))] H := hP
              have hD : va_D A [((y 0), .inr (4, [.ref (y 4), .ref (y 1), .ref (y 2), .ref (y 3), .int (u2 0), .int (u2 1), .int (u2 2), .int (u2 3)])), ((y 4), .inr (3, [.ref (y 5), .int (nI len)])), ((y 5), .inl (T 2, 60, .inl (tx)))] := hD
              refine lv_if_eq (tgt := 99) hx hb dX4_readThing_82 (by decide) (fun c82 => ?_) (fun c82 => ?_)
              · skip
                exact absurd c82 (by decide)
              · skip
                refine lv_aload_n hx hb dX4_readThing_85 rfl (lv_at hl 0 rfl) ?_
                refine lv_iconst (v := 0) hx hb dX4_readThing_86 (by decide) ?_
                refine lv_bipush (v := 30) hx hb dX4_readThing_87 (by decide) ?_
                refine callMi (As := [.int (nI 0), .int (nI 30)]) (wr := []) ⟨hx, hb, hml, hown, hts⟩ (mX4_readNumber l T D y u2 tx len hlen hch (i + 3) (by omega) f1u2 0 30 (by decide) (by decide)) (cwV 2 hts gX4_readThing_X4_readNumber rfl rfl rfl pdX4_readNumber ⟨Nat.le_of_ble_eq_true rfl, Nat.le_of_ble_eq_true rfl⟩) hP hD hK hS hA xN_bl (fun U _ hW => XN_warm hW hX) (ci := 4) rfl rfl rfl hl.1 rfl rfl (Nat.le_of_ble_eq_true rfl) dX4_readThing_89 ⟨Nat.zero_le _, Nat.zero_le _⟩ (fun r7_ u8_ H locs eu8_ hP hD hS hkf => ?_)
                obtain ⟨u3, rfl⟩ : ∃ z, z = u8_ := ⟨_, rfl⟩
                obtain ⟨-, rfl, q0, q2, q3, q1⟩ := eu8_.resolve_right (fun z => z.1 y3)
                have f0u3 : u3 0 = w 0 := q0.trans f0u2
                have f2u3 : u3 2 = nI (dg (tch tx len (i + 1))) := q2.trans f2u2
                have hP : va_P D vwCl [((y 0), .inr (4, [.ref (y 4), .ref (y 1), .ref (y 2), .ref (y 3), .int (u3 0), .int (u3 1), .int (u3 2), .int (u3 3)])), ((y 4), .inr (3, [.ref (y 5), .int (nI len)])), ((y 5), .inl (T 2, 60, .inl (tx)))] H := hP
                have hD : va_D A [((y 0), .inr (4, [.ref (y 4), .ref (y 1), .ref (y 2), .ref (y 3), .int (u3 0), .int (u3 1), .int (u3 2), .int (u3 3)])), ((y 4), .inr (3, [.ref (y 5), .int (nI len)])), ((y 5), .inl (T 2, 60, .inl (tx)))] := hD
                refine lv_if_eq (tgt := 99) hx hb dX4_readThing_92 (by decide) (fun c92 => ?_) (fun c92 => ?_)
                · skip
                  exact absurd c92 (by decide)
                · skip
                  refine lv_iconst (v := 1) hx hb dX4_readThing_95 (by decide) ?_
                  refine lv_goto (tgt := 100) hx hb dX4_readThing_96 (by decide) ?_
                  have hL := th_b1 (c := tch tx len) (i := i) (Or.inl ech.symm : tch tx len i = 98 ∨ tch tx len i = 100) y1 y2 y3
                  have hC := cA_n (c := tch tx len) (i := i) (by rw [← ech]; decide)
                  exact hret _ _ _ u3 _ _ dX4_readThing_100 hS hP hD (Or.inl ⟨hL.1, rfl, f0u3, by rw [hL.2.2.2, ← ech, show tHi 98 = 30 from if_pos rfl]; exact q1, by rw [hC.1, hL.2.1]; exact f2u3, by rw [hC.2, hL.2.2.1, ← ech, show tHi 98 = 30 from if_pos rfl]; exact q3⟩)
        · skip
          refine lv_aload_n hx hb dX4_readThing_0 rfl (lv_at hl 0 rfl) ?_
          refine lv_iconst (v := nI 0) hx hb dX4_readThing_1 (by decide) ?_
          refine va_put (D := D) (ci := 4) (v := .int (nI 0)) (C := RX4) (T := TX4) (N := 8) hx hb hts inwX4_readThing_X4 tyX4 tyX4_ok nmX4 hown hK hP hD hS 0 rfl rfl 6 (by decide) (hts (.fieldLink RX4 46 "PlateSlabs$Trial" "pair" "I") (List.mem_of_getElem? (i := 1) rfl)) (fun _ h9 => h9) rfl (tyX4_ok 6 (by decide)) (rfl) (rfl) (Nat.le_of_ble_eq_true rfl) dX4_readThing_2 (fun H locs hP hD hS => ?_)
          have hP : va_P D vwCl [((y 0), .inr (4, [.ref (y 4), .ref (y 1), .ref (y 2), .ref (y 3), .int (w 0), .int (w 1), .int (nI 0), .int (w 3)])), ((y 4), .inr (3, [.ref (y 5), .int (nI len)])), ((y 5), .inl (T 2, 60, .inl (tx)))] H := hP
          have hD : va_D A [((y 0), .inr (4, [.ref (y 4), .ref (y 1), .ref (y 2), .ref (y 3), .int (w 0), .int (w 1), .int (nI 0), .int (w 3)])), ((y 4), .inr (3, [.ref (y 5), .int (nI len)])), ((y 5), .inl (T 2, 60, .inl (tx)))] := hD
          refine lv_aload_n hx hb dX4_readThing_5 rfl (lv_at hl 0 rfl) ?_
          refine lv_iconst (v := nI 0) hx hb dX4_readThing_6 (by decide) ?_
          refine va_put (D := D) (ci := 4) (v := .int (nI 0)) (C := RX4) (T := TX4) (N := 8) hx hb hts inwX4_readThing_X4 tyX4 tyX4_ok nmX4 hown hK hP hD hS 0 rfl rfl 7 (by decide) (hts (.fieldLink RX4 49 "PlateSlabs$Trial" "value" "I") (List.mem_of_getElem? (i := 2) rfl)) (fun _ h9 => h9) rfl (tyX4_ok 7 (by decide)) (rfl) (rfl) (Nat.le_of_ble_eq_true rfl) dX4_readThing_7 (fun H locs hP hD hS => ?_)
          have hP : va_P D vwCl [((y 0), .inr (4, [.ref (y 4), .ref (y 1), .ref (y 2), .ref (y 3), .int (w 0), .int (w 1), .int (nI 0), .int (nI 0)])), ((y 4), .inr (3, [.ref (y 5), .int (nI len)])), ((y 5), .inl (T 2, 60, .inl (tx)))] H := hP
          have hD : va_D A [((y 0), .inr (4, [.ref (y 4), .ref (y 1), .ref (y 2), .ref (y 3), .int (w 0), .int (w 1), .int (nI 0), .int (nI 0)])), ((y 4), .inr (3, [.ref (y 5), .int (nI len)])), ((y 5), .inl (T 2, 60, .inl (tx)))] := hD
          refine lv_iload_n hx hb dX4_readThing_10 rfl (lv_at hl 1 rfl) ?_
          obtain ⟨v0, ev0⟩ : ∃ z, z = upd (upd w 2 (nI 0)) 3 (nI 0) := ⟨_, rfl⟩
          have hP : va_P D vwCl [((y 0), .inr (4, [.ref (y 4), .ref (y 1), .ref (y 2), .ref (y 3), .int (v0 0), .int (v0 1), .int (v0 2), .int (v0 3)])), ((y 4), .inr (3, [.ref (y 5), .int (nI len)])), ((y 5), .inl (T 2, 60, .inl (tx)))] H := by rw [ev0]; exact hP
          have hD : va_D A [((y 0), .inr (4, [.ref (y 4), .ref (y 1), .ref (y 2), .ref (y 3), .int (v0 0), .int (v0 1), .int (v0 2), .int (v0 3)])), ((y 4), .inr (3, [.ref (y 5), .int (nI len)])), ((y 5), .inl (T 2, 60, .inl (tx)))] := by rw [ev0]; exact hD
          have f0v0 : v0 0 = w 0 := by rw [ev0]; rfl
          have f1v0 : v0 1 = nI i := by rw [ev0]; exact h1
          have f2v0 : v0 2 = nI 0 := by rw [ev0]; rfl
          have f3v0 : v0 3 = nI 0 := by rw [ev0]; rfl
          have hP : va_P D vwCl [((y 0), .inr (4, [.ref (y 4), .ref (y 1), .ref (y 2), .ref (y 3), .int (v0 0), .int (v0 1), .int (v0 2), .int (v0 3)])), ((y 4), .inr (3, [.ref (y 5), .int (nI len)])), ((y 5), .inl (T 2, 60, .inl (tx)))] H := hP
          have hD : va_D A [((y 0), .inr (4, [.ref (y 4), .ref (y 1), .ref (y 2), .ref (y 3), .int (v0 0), .int (v0 1), .int (v0 2), .int (v0 3)])), ((y 4), .inr (3, [.ref (y 5), .int (nI len)])), ((y 5), .inl (T 2, 60, .inl (tx)))] := hD
          refine lv_lookup (off := 49) (tgt := 60) hx hb dX4_readThing_11 (by decide) (by decide) (by decide) ?_
          refine lv_aload_n hx hb dX4_readThing_60 rfl (lv_at hl 0 rfl) ?_
          refine lv_bipush (v := 98) hx hb dX4_readThing_61 (by decide) ?_
          refine callMi (As := [.int 98]) (wr := []) ⟨hx, hb, hml, hown, hts⟩ (mX4_readSign l T D y v0 tx len hlen hch i (by omega) f1v0 98) (cwV 1 hts gX4_readThing_X4_readSign rfl rfl rfl pdX4_readSign ⟨Nat.le_of_ble_eq_true rfl, Nat.le_of_ble_eq_true rfl⟩) hP hD hK hS hA xN_bl (fun U _ hW => XN_warm hW hX) (ci := 4) rfl rfl rfl hl.1 rfl rfl (Nat.le_of_ble_eq_true rfl) dX4_readThing_63 ⟨Nat.zero_le _, Nat.zero_le _⟩ (fun r9_ u10_ H locs eu10_ hP hD hS hkf => ?_)
          obtain ⟨u0, rfl⟩ : ∃ z, z = u10_ := ⟨_, rfl⟩
          obtain ⟨-, rfl, qu0⟩ := eu10_.resolve_right (fun z => z.1 ech.symm)
          have f1u0 : u0 1 = nI (i + 1) := by rw [qu0]; rfl
          have f0u0 : u0 0 = w 0 := by rw [qu0]; exact f0v0
          have f2u0 : u0 2 = nI 0 := by rw [qu0]; exact f2v0
          have f3u0 : u0 3 = nI 0 := by rw [qu0]; exact f3v0
          have hP : va_P D vwCl [((y 0), .inr (4, [.ref (y 4), .ref (y 1), .ref (y 2), .ref (y 3), .int (u0 0), .int (u0 1), .int (u0 2), .int (u0 3)])), ((y 4), .inr (3, [.ref (y 5), .int (nI len)])), ((y 5), .inl (T 2, 60, .inl (tx)))] H := hP
          have hD : va_D A [((y 0), .inr (4, [.ref (y 4), .ref (y 1), .ref (y 2), .ref (y 3), .int (u0 0), .int (u0 1), .int (u0 2), .int (u0 3)])), ((y 4), .inr (3, [.ref (y 5), .int (nI len)])), ((y 5), .inl (T 2, 60, .inl (tx)))] := hD
          refine lv_if_eq (tgt := 99) hx hb dX4_readThing_66 (by decide) (fun c66 => ?_) (fun c66 => ?_)
          · skip
            exact absurd c66 (by decide)
          · skip
            refine lv_aload_n hx hb dX4_readThing_69 rfl (lv_at hl 0 rfl) ?_
            refine callMi (As := []) (wr := []) ⟨hx, hb, hml, hown, hts⟩ (mX4_readPair l T D y u0 tx len hlen hch (i + 1) (by omega) f1u0) (cwV 0 hts gX4_readThing_X4_readPair rfl rfl rfl pdX4_readPair ⟨Nat.le_of_ble_eq_true rfl, Nat.le_of_ble_eq_true rfl⟩) hP hD hK hS hA xN_bl (fun U _ hW => XN_warm hW hX) (ci := 4) rfl rfl rfl hl.1 rfl rfl (Nat.le_of_ble_eq_true rfl) dX4_readThing_70 ⟨Nat.zero_le _, Nat.zero_le _⟩ (fun r11_ u12_ H locs eu12_ hP hD hS hkf => ?_)
            obtain ⟨u1, rfl⟩ : ∃ z, z = u12_ := ⟨_, rfl⟩
            obtain ⟨-, rfl, qu1⟩ := eu12_.resolve_right (fun z => z.1 y1)
            have f1u1 : u1 1 = nI (i + 2) := by rw [qu1]; rfl
            have f0u1 : u1 0 = w 0 := by rw [qu1]; exact f0u0
            have f2u1 : u1 2 = nI (dg (tch tx len (i + 1))) := by rw [qu1]; rfl
            have f3u1 : u1 3 = nI 0 := by rw [qu1]; exact f3u0
            have hP : va_P D vwCl [((y 0), .inr (4, [.ref (y 4), .ref (y 1), .ref (y 2), .ref (y 3), .int (u1 0), .int (u1 1), .int (u1 2), .int (u1 3)])), ((y 4), .inr (3, [.ref (y 5), .int (nI len)])), ((y 5), .inl (T 2, 60, .inl (tx)))] H := hP
            have hD : va_D A [((y 0), .inr (4, [.ref (y 4), .ref (y 1), .ref (y 2), .ref (y 3), .int (u1 0), .int (u1 1), .int (u1 2), .int (u1 3)])), ((y 4), .inr (3, [.ref (y 5), .int (nI len)])), ((y 5), .inl (T 2, 60, .inl (tx)))] := hD
            refine lv_if_eq (tgt := 99) hx hb dX4_readThing_73 (by decide) (fun c73 => ?_) (fun c73 => ?_)
            · skip
              exact absurd c73 (by decide)
            · skip
              refine lv_aload_n hx hb dX4_readThing_76 rfl (lv_at hl 0 rfl) ?_
              refine lv_bipush (v := 61) hx hb dX4_readThing_77 (by decide) ?_
              refine callMi (As := [.int 61]) (wr := []) ⟨hx, hb, hml, hown, hts⟩ (mX4_readSign l T D y u1 tx len hlen hch (i + 2) (by omega) f1u1 61) (cwV 1 hts gX4_readThing_X4_readSign rfl rfl rfl pdX4_readSign ⟨Nat.le_of_ble_eq_true rfl, Nat.le_of_ble_eq_true rfl⟩) hP hD hK hS hA xN_bl (fun U _ hW => XN_warm hW hX) (ci := 4) rfl rfl rfl hl.1 rfl rfl (Nat.le_of_ble_eq_true rfl) dX4_readThing_79 ⟨Nat.zero_le _, Nat.zero_le _⟩ (fun r13_ u14_ H locs eu14_ hP hD hS hkf => ?_)
              obtain ⟨u2, rfl⟩ : ∃ z, z = u14_ := ⟨_, rfl⟩
              obtain ⟨-, rfl, qu2⟩ := eu14_.resolve_right (fun z => z.1 y2)
              have f1u2 : u2 1 = nI (i + 3) := by rw [qu2]; rfl
              have f0u2 : u2 0 = w 0 := by rw [qu2]; exact f0u1
              have f2u2 : u2 2 = nI (dg (tch tx len (i + 1))) := by rw [qu2]; exact f2u1
              have f3u2 : u2 3 = nI 0 := by rw [qu2]; exact f3u1
              have hP : va_P D vwCl [((y 0), .inr (4, [.ref (y 4), .ref (y 1), .ref (y 2), .ref (y 3), .int (u2 0), .int (u2 1), .int (u2 2), .int (u2 3)])), ((y 4), .inr (3, [.ref (y 5), .int (nI len)])), ((y 5), .inl (T 2, 60, .inl (tx)))] H := hP
              have hD : va_D A [((y 0), .inr (4, [.ref (y 4), .ref (y 1), .ref (y 2), .ref (y 3), .int (u2 0), .int (u2 1), .int (u2 2), .int (u2 3)])), ((y 4), .inr (3, [.ref (y 5), .int (nI len)])), ((y 5), .inl (T 2, 60, .inl (tx)))] := hD
              refine lv_if_eq (tgt := 99) hx hb dX4_readThing_82 (by decide) (fun c82 => ?_) (fun c82 => ?_)
              · skip
                exact absurd c82 (by decide)
              · skip
                refine lv_aload_n hx hb dX4_readThing_85 rfl (lv_at hl 0 rfl) ?_
                refine lv_iconst (v := 0) hx hb dX4_readThing_86 (by decide) ?_
                refine lv_bipush (v := 30) hx hb dX4_readThing_87 (by decide) ?_
                refine callMi (As := [.int (nI 0), .int (nI 30)]) (wr := []) ⟨hx, hb, hml, hown, hts⟩ (mX4_readNumber l T D y u2 tx len hlen hch (i + 3) (by omega) f1u2 0 30 (by decide) (by decide)) (cwV 2 hts gX4_readThing_X4_readNumber rfl rfl rfl pdX4_readNumber ⟨Nat.le_of_ble_eq_true rfl, Nat.le_of_ble_eq_true rfl⟩) hP hD hK hS hA xN_bl (fun U _ hW => XN_warm hW hX) (ci := 4) rfl rfl rfl hl.1 rfl rfl (Nat.le_of_ble_eq_true rfl) dX4_readThing_89 ⟨Nat.zero_le _, Nat.zero_le _⟩ (fun r15_ u16_ H locs eu16_ hP hD hS hkf => ?_)
                obtain ⟨u3, rfl⟩ : ∃ z, z = u16_ := ⟨_, rfl⟩
                obtain ⟨-, rfl, q0, q1⟩ := eu16_.resolve_left (fun z => y3 z.1)
                have f0u3 : u3 0 = w 0 := q0.trans f0u2
                have hP : va_P D vwCl [((y 0), .inr (4, [.ref (y 4), .ref (y 1), .ref (y 2), .ref (y 3), .int (u3 0), .int (u3 1), .int (u3 2), .int (u3 3)])), ((y 4), .inr (3, [.ref (y 5), .int (nI len)])), ((y 5), .inl (T 2, 60, .inl (tx)))] H := hP
                have hD : va_D A [((y 0), .inr (4, [.ref (y 4), .ref (y 1), .ref (y 2), .ref (y 3), .int (u3 0), .int (u3 1), .int (u3 2), .int (u3 3)])), ((y 4), .inr (3, [.ref (y 5), .int (nI len)])), ((y 5), .inl (T 2, 60, .inl (tx)))] := hD
                refine lv_if_eq (tgt := 99) hx hb dX4_readThing_92 (by decide) (fun c92 => ?_) (fun c92 => ?_)
                · skip
                  refine lv_iconst (v := 0) hx hb dX4_readThing_99 (by decide) ?_
                  have hL := th_b02 (c := tch tx len) (i := i) (Or.inl ech.symm : tch tx len i = 98 ∨ tch tx len i = 100) y1 y2 y3
                  exact hret _ _ _ u3 _ _ dX4_readThing_100 hS hP hD (Or.inr ⟨hL.1, rfl, f0u3, by rw [hL.2]; exact q1⟩)
                · skip
                  exact absurd rfl c92
      · skip
        refine lv_aload_n hx hb dX4_readThing_0 rfl (lv_at hl 0 rfl) ?_
        refine lv_iconst (v := nI 0) hx hb dX4_readThing_1 (by decide) ?_
        refine va_put (D := D) (ci := 4) (v := .int (nI 0)) (C := RX4) (T := TX4) (N := 8) hx hb hts inwX4_readThing_X4 tyX4 tyX4_ok nmX4 hown hK hP hD hS 0 rfl rfl 6 (by decide) (hts (.fieldLink RX4 46 "PlateSlabs$Trial" "pair" "I") (List.mem_of_getElem? (i := 1) rfl)) (fun _ h9 => h9) rfl (tyX4_ok 6 (by decide)) (rfl) (rfl) (Nat.le_of_ble_eq_true rfl) dX4_readThing_2 (fun H locs hP hD hS => ?_)
        have hP : va_P D vwCl [((y 0), .inr (4, [.ref (y 4), .ref (y 1), .ref (y 2), .ref (y 3), .int (w 0), .int (w 1), .int (nI 0), .int (w 3)])), ((y 4), .inr (3, [.ref (y 5), .int (nI len)])), ((y 5), .inl (T 2, 60, .inl (tx)))] H := hP
        have hD : va_D A [((y 0), .inr (4, [.ref (y 4), .ref (y 1), .ref (y 2), .ref (y 3), .int (w 0), .int (w 1), .int (nI 0), .int (w 3)])), ((y 4), .inr (3, [.ref (y 5), .int (nI len)])), ((y 5), .inl (T 2, 60, .inl (tx)))] := hD
        refine lv_aload_n hx hb dX4_readThing_5 rfl (lv_at hl 0 rfl) ?_
        refine lv_iconst (v := nI 0) hx hb dX4_readThing_6 (by decide) ?_
        refine va_put (D := D) (ci := 4) (v := .int (nI 0)) (C := RX4) (T := TX4) (N := 8) hx hb hts inwX4_readThing_X4 tyX4 tyX4_ok nmX4 hown hK hP hD hS 0 rfl rfl 7 (by decide) (hts (.fieldLink RX4 49 "PlateSlabs$Trial" "value" "I") (List.mem_of_getElem? (i := 2) rfl)) (fun _ h9 => h9) rfl (tyX4_ok 7 (by decide)) (rfl) (rfl) (Nat.le_of_ble_eq_true rfl) dX4_readThing_7 (fun H locs hP hD hS => ?_)
        have hP : va_P D vwCl [((y 0), .inr (4, [.ref (y 4), .ref (y 1), .ref (y 2), .ref (y 3), .int (w 0), .int (w 1), .int (nI 0), .int (nI 0)])), ((y 4), .inr (3, [.ref (y 5), .int (nI len)])), ((y 5), .inl (T 2, 60, .inl (tx)))] H := hP
        have hD : va_D A [((y 0), .inr (4, [.ref (y 4), .ref (y 1), .ref (y 2), .ref (y 3), .int (w 0), .int (w 1), .int (nI 0), .int (nI 0)])), ((y 4), .inr (3, [.ref (y 5), .int (nI len)])), ((y 5), .inl (T 2, 60, .inl (tx)))] := hD
        refine lv_iload_n hx hb dX4_readThing_10 rfl (lv_at hl 1 rfl) ?_
        obtain ⟨v0, ev0⟩ : ∃ z, z = upd (upd w 2 (nI 0)) 3 (nI 0) := ⟨_, rfl⟩
        have hP : va_P D vwCl [((y 0), .inr (4, [.ref (y 4), .ref (y 1), .ref (y 2), .ref (y 3), .int (v0 0), .int (v0 1), .int (v0 2), .int (v0 3)])), ((y 4), .inr (3, [.ref (y 5), .int (nI len)])), ((y 5), .inl (T 2, 60, .inl (tx)))] H := by rw [ev0]; exact hP
        have hD : va_D A [((y 0), .inr (4, [.ref (y 4), .ref (y 1), .ref (y 2), .ref (y 3), .int (v0 0), .int (v0 1), .int (v0 2), .int (v0 3)])), ((y 4), .inr (3, [.ref (y 5), .int (nI len)])), ((y 5), .inl (T 2, 60, .inl (tx)))] := by rw [ev0]; exact hD
        have f0v0 : v0 0 = w 0 := by rw [ev0]; rfl
        have f1v0 : v0 1 = nI i := by rw [ev0]; exact h1
        have f2v0 : v0 2 = nI 0 := by rw [ev0]; rfl
        have f3v0 : v0 3 = nI 0 := by rw [ev0]; rfl
        have hP : va_P D vwCl [((y 0), .inr (4, [.ref (y 4), .ref (y 1), .ref (y 2), .ref (y 3), .int (v0 0), .int (v0 1), .int (v0 2), .int (v0 3)])), ((y 4), .inr (3, [.ref (y 5), .int (nI len)])), ((y 5), .inl (T 2, 60, .inl (tx)))] H := hP
        have hD : va_D A [((y 0), .inr (4, [.ref (y 4), .ref (y 1), .ref (y 2), .ref (y 3), .int (v0 0), .int (v0 1), .int (v0 2), .int (v0 3)])), ((y 4), .inr (3, [.ref (y 5), .int (nI len)])), ((y 5), .inl (T 2, 60, .inl (tx)))] := hD
        refine lv_lookup (off := 49) (tgt := 60) hx hb dX4_readThing_11 (by decide) (by decide) (by decide) ?_
        refine lv_aload_n hx hb dX4_readThing_60 rfl (lv_at hl 0 rfl) ?_
        refine lv_bipush (v := 98) hx hb dX4_readThing_61 (by decide) ?_
        refine callMi (As := [.int 98]) (wr := []) ⟨hx, hb, hml, hown, hts⟩ (mX4_readSign l T D y v0 tx len hlen hch i (by omega) f1v0 98) (cwV 1 hts gX4_readThing_X4_readSign rfl rfl rfl pdX4_readSign ⟨Nat.le_of_ble_eq_true rfl, Nat.le_of_ble_eq_true rfl⟩) hP hD hK hS hA xN_bl (fun U _ hW => XN_warm hW hX) (ci := 4) rfl rfl rfl hl.1 rfl rfl (Nat.le_of_ble_eq_true rfl) dX4_readThing_63 ⟨Nat.zero_le _, Nat.zero_le _⟩ (fun r17_ u18_ H locs eu18_ hP hD hS hkf => ?_)
        obtain ⟨u0, rfl⟩ : ∃ z, z = u18_ := ⟨_, rfl⟩
        obtain ⟨-, rfl, qu0⟩ := eu18_.resolve_right (fun z => z.1 ech.symm)
        have f1u0 : u0 1 = nI (i + 1) := by rw [qu0]; rfl
        have f0u0 : u0 0 = w 0 := by rw [qu0]; exact f0v0
        have f2u0 : u0 2 = nI 0 := by rw [qu0]; exact f2v0
        have f3u0 : u0 3 = nI 0 := by rw [qu0]; exact f3v0
        have hP : va_P D vwCl [((y 0), .inr (4, [.ref (y 4), .ref (y 1), .ref (y 2), .ref (y 3), .int (u0 0), .int (u0 1), .int (u0 2), .int (u0 3)])), ((y 4), .inr (3, [.ref (y 5), .int (nI len)])), ((y 5), .inl (T 2, 60, .inl (tx)))] H := hP
        have hD : va_D A [((y 0), .inr (4, [.ref (y 4), .ref (y 1), .ref (y 2), .ref (y 3), .int (u0 0), .int (u0 1), .int (u0 2), .int (u0 3)])), ((y 4), .inr (3, [.ref (y 5), .int (nI len)])), ((y 5), .inl (T 2, 60, .inl (tx)))] := hD
        refine lv_if_eq (tgt := 99) hx hb dX4_readThing_66 (by decide) (fun c66 => ?_) (fun c66 => ?_)
        · skip
          exact absurd c66 (by decide)
        · skip
          refine lv_aload_n hx hb dX4_readThing_69 rfl (lv_at hl 0 rfl) ?_
          refine callMi (As := []) (wr := []) ⟨hx, hb, hml, hown, hts⟩ (mX4_readPair l T D y u0 tx len hlen hch (i + 1) (by omega) f1u0) (cwV 0 hts gX4_readThing_X4_readPair rfl rfl rfl pdX4_readPair ⟨Nat.le_of_ble_eq_true rfl, Nat.le_of_ble_eq_true rfl⟩) hP hD hK hS hA xN_bl (fun U _ hW => XN_warm hW hX) (ci := 4) rfl rfl rfl hl.1 rfl rfl (Nat.le_of_ble_eq_true rfl) dX4_readThing_70 ⟨Nat.zero_le _, Nat.zero_le _⟩ (fun r19_ u20_ H locs eu20_ hP hD hS hkf => ?_)
          obtain ⟨u1, rfl⟩ : ∃ z, z = u20_ := ⟨_, rfl⟩
          obtain ⟨-, rfl, qu1⟩ := eu20_.resolve_right (fun z => z.1 y1)
          have f1u1 : u1 1 = nI (i + 2) := by rw [qu1]; rfl
          have f0u1 : u1 0 = w 0 := by rw [qu1]; exact f0u0
          have f2u1 : u1 2 = nI (dg (tch tx len (i + 1))) := by rw [qu1]; rfl
          have f3u1 : u1 3 = nI 0 := by rw [qu1]; exact f3u0
          have hP : va_P D vwCl [((y 0), .inr (4, [.ref (y 4), .ref (y 1), .ref (y 2), .ref (y 3), .int (u1 0), .int (u1 1), .int (u1 2), .int (u1 3)])), ((y 4), .inr (3, [.ref (y 5), .int (nI len)])), ((y 5), .inl (T 2, 60, .inl (tx)))] H := hP
          have hD : va_D A [((y 0), .inr (4, [.ref (y 4), .ref (y 1), .ref (y 2), .ref (y 3), .int (u1 0), .int (u1 1), .int (u1 2), .int (u1 3)])), ((y 4), .inr (3, [.ref (y 5), .int (nI len)])), ((y 5), .inl (T 2, 60, .inl (tx)))] := hD
          refine lv_if_eq (tgt := 99) hx hb dX4_readThing_73 (by decide) (fun c73 => ?_) (fun c73 => ?_)
          · skip
            exact absurd c73 (by decide)
          · skip
            refine lv_aload_n hx hb dX4_readThing_76 rfl (lv_at hl 0 rfl) ?_
            refine lv_bipush (v := 61) hx hb dX4_readThing_77 (by decide) ?_
            refine callMi (As := [.int 61]) (wr := []) ⟨hx, hb, hml, hown, hts⟩ (mX4_readSign l T D y u1 tx len hlen hch (i + 2) (by omega) f1u1 61) (cwV 1 hts gX4_readThing_X4_readSign rfl rfl rfl pdX4_readSign ⟨Nat.le_of_ble_eq_true rfl, Nat.le_of_ble_eq_true rfl⟩) hP hD hK hS hA xN_bl (fun U _ hW => XN_warm hW hX) (ci := 4) rfl rfl rfl hl.1 rfl rfl (Nat.le_of_ble_eq_true rfl) dX4_readThing_79 ⟨Nat.zero_le _, Nat.zero_le _⟩ (fun r21_ u22_ H locs eu22_ hP hD hS hkf => ?_)
            obtain ⟨u2, rfl⟩ : ∃ z, z = u22_ := ⟨_, rfl⟩
            obtain ⟨-, rfl, qu2⟩ := eu22_.resolve_left (fun z => y2 z.1)
            have f0u2 : u2 0 = w 0 := by rw [qu2]; exact f0u1
            have f1u2 : u2 1 = nI (i + 2) := by rw [qu2]; exact f1u1
            have hP : va_P D vwCl [((y 0), .inr (4, [.ref (y 4), .ref (y 1), .ref (y 2), .ref (y 3), .int (u2 0), .int (u2 1), .int (u2 2), .int (u2 3)])), ((y 4), .inr (3, [.ref (y 5), .int (nI len)])), ((y 5), .inl (T 2, 60, .inl (tx)))] H := hP
            have hD : va_D A [((y 0), .inr (4, [.ref (y 4), .ref (y 1), .ref (y 2), .ref (y 3), .int (u2 0), .int (u2 1), .int (u2 2), .int (u2 3)])), ((y 4), .inr (3, [.ref (y 5), .int (nI len)])), ((y 5), .inl (T 2, 60, .inl (tx)))] := hD
            refine lv_if_eq (tgt := 99) hx hb dX4_readThing_82 (by decide) (fun c82 => ?_) (fun c82 => ?_)
            · skip
              refine lv_iconst (v := 0) hx hb dX4_readThing_99 (by decide) ?_
              have hL := th_b01 (c := tch tx len) (i := i) (Or.inl ech.symm : tch tx len i = 98 ∨ tch tx len i = 100) y1 y2
              exact hret _ _ _ u2 _ _ dX4_readThing_100 hS hP hD (Or.inr ⟨hL.1, rfl, f0u2, by rw [hL.2]; exact f1u2⟩)
            · skip
              exact absurd rfl c82
    · skip
      refine lv_aload_n hx hb dX4_readThing_0 rfl (lv_at hl 0 rfl) ?_
      refine lv_iconst (v := nI 0) hx hb dX4_readThing_1 (by decide) ?_
      refine va_put (D := D) (ci := 4) (v := .int (nI 0)) (C := RX4) (T := TX4) (N := 8) hx hb hts inwX4_readThing_X4 tyX4 tyX4_ok nmX4 hown hK hP hD hS 0 rfl rfl 6 (by decide) (hts (.fieldLink RX4 46 "PlateSlabs$Trial" "pair" "I") (List.mem_of_getElem? (i := 1) rfl)) (fun _ h9 => h9) rfl (tyX4_ok 6 (by decide)) (rfl) (rfl) (Nat.le_of_ble_eq_true rfl) dX4_readThing_2 (fun H locs hP hD hS => ?_)
      have hP : va_P D vwCl [((y 0), .inr (4, [.ref (y 4), .ref (y 1), .ref (y 2), .ref (y 3), .int (w 0), .int (w 1), .int (nI 0), .int (w 3)])), ((y 4), .inr (3, [.ref (y 5), .int (nI len)])), ((y 5), .inl (T 2, 60, .inl (tx)))] H := hP
      have hD : va_D A [((y 0), .inr (4, [.ref (y 4), .ref (y 1), .ref (y 2), .ref (y 3), .int (w 0), .int (w 1), .int (nI 0), .int (w 3)])), ((y 4), .inr (3, [.ref (y 5), .int (nI len)])), ((y 5), .inl (T 2, 60, .inl (tx)))] := hD
      refine lv_aload_n hx hb dX4_readThing_5 rfl (lv_at hl 0 rfl) ?_
      refine lv_iconst (v := nI 0) hx hb dX4_readThing_6 (by decide) ?_
      refine va_put (D := D) (ci := 4) (v := .int (nI 0)) (C := RX4) (T := TX4) (N := 8) hx hb hts inwX4_readThing_X4 tyX4 tyX4_ok nmX4 hown hK hP hD hS 0 rfl rfl 7 (by decide) (hts (.fieldLink RX4 49 "PlateSlabs$Trial" "value" "I") (List.mem_of_getElem? (i := 2) rfl)) (fun _ h9 => h9) rfl (tyX4_ok 7 (by decide)) (rfl) (rfl) (Nat.le_of_ble_eq_true rfl) dX4_readThing_7 (fun H locs hP hD hS => ?_)
      have hP : va_P D vwCl [((y 0), .inr (4, [.ref (y 4), .ref (y 1), .ref (y 2), .ref (y 3), .int (w 0), .int (w 1), .int (nI 0), .int (nI 0)])), ((y 4), .inr (3, [.ref (y 5), .int (nI len)])), ((y 5), .inl (T 2, 60, .inl (tx)))] H := hP
      have hD : va_D A [((y 0), .inr (4, [.ref (y 4), .ref (y 1), .ref (y 2), .ref (y 3), .int (w 0), .int (w 1), .int (nI 0), .int (nI 0)])), ((y 4), .inr (3, [.ref (y 5), .int (nI len)])), ((y 5), .inl (T 2, 60, .inl (tx)))] := hD
      refine lv_iload_n hx hb dX4_readThing_10 rfl (lv_at hl 1 rfl) ?_
      obtain ⟨v0, ev0⟩ : ∃ z, z = upd (upd w 2 (nI 0)) 3 (nI 0) := ⟨_, rfl⟩
      have hP : va_P D vwCl [((y 0), .inr (4, [.ref (y 4), .ref (y 1), .ref (y 2), .ref (y 3), .int (v0 0), .int (v0 1), .int (v0 2), .int (v0 3)])), ((y 4), .inr (3, [.ref (y 5), .int (nI len)])), ((y 5), .inl (T 2, 60, .inl (tx)))] H := by rw [ev0]; exact hP
      have hD : va_D A [((y 0), .inr (4, [.ref (y 4), .ref (y 1), .ref (y 2), .ref (y 3), .int (v0 0), .int (v0 1), .int (v0 2), .int (v0 3)])), ((y 4), .inr (3, [.ref (y 5), .int (nI len)])), ((y 5), .inl (T 2, 60, .inl (tx)))] := by rw [ev0]; exact hD
      have f0v0 : v0 0 = w 0 := by rw [ev0]; rfl
      have f1v0 : v0 1 = nI i := by rw [ev0]; exact h1
      have f2v0 : v0 2 = nI 0 := by rw [ev0]; rfl
      have f3v0 : v0 3 = nI 0 := by rw [ev0]; rfl
      have hP : va_P D vwCl [((y 0), .inr (4, [.ref (y 4), .ref (y 1), .ref (y 2), .ref (y 3), .int (v0 0), .int (v0 1), .int (v0 2), .int (v0 3)])), ((y 4), .inr (3, [.ref (y 5), .int (nI len)])), ((y 5), .inl (T 2, 60, .inl (tx)))] H := hP
      have hD : va_D A [((y 0), .inr (4, [.ref (y 4), .ref (y 1), .ref (y 2), .ref (y 3), .int (v0 0), .int (v0 1), .int (v0 2), .int (v0 3)])), ((y 4), .inr (3, [.ref (y 5), .int (nI len)])), ((y 5), .inl (T 2, 60, .inl (tx)))] := hD
      refine lv_lookup (off := 49) (tgt := 60) hx hb dX4_readThing_11 (by decide) (by decide) (by decide) ?_
      refine lv_aload_n hx hb dX4_readThing_60 rfl (lv_at hl 0 rfl) ?_
      refine lv_bipush (v := 98) hx hb dX4_readThing_61 (by decide) ?_
      refine callMi (As := [.int 98]) (wr := []) ⟨hx, hb, hml, hown, hts⟩ (mX4_readSign l T D y v0 tx len hlen hch i (by omega) f1v0 98) (cwV 1 hts gX4_readThing_X4_readSign rfl rfl rfl pdX4_readSign ⟨Nat.le_of_ble_eq_true rfl, Nat.le_of_ble_eq_true rfl⟩) hP hD hK hS hA xN_bl (fun U _ hW => XN_warm hW hX) (ci := 4) rfl rfl rfl hl.1 rfl rfl (Nat.le_of_ble_eq_true rfl) dX4_readThing_63 ⟨Nat.zero_le _, Nat.zero_le _⟩ (fun r23_ u24_ H locs eu24_ hP hD hS hkf => ?_)
      obtain ⟨u0, rfl⟩ : ∃ z, z = u24_ := ⟨_, rfl⟩
      obtain ⟨-, rfl, qu0⟩ := eu24_.resolve_right (fun z => z.1 ech.symm)
      have f1u0 : u0 1 = nI (i + 1) := by rw [qu0]; rfl
      have f0u0 : u0 0 = w 0 := by rw [qu0]; exact f0v0
      have f2u0 : u0 2 = nI 0 := by rw [qu0]; exact f2v0
      have f3u0 : u0 3 = nI 0 := by rw [qu0]; exact f3v0
      have hP : va_P D vwCl [((y 0), .inr (4, [.ref (y 4), .ref (y 1), .ref (y 2), .ref (y 3), .int (u0 0), .int (u0 1), .int (u0 2), .int (u0 3)])), ((y 4), .inr (3, [.ref (y 5), .int (nI len)])), ((y 5), .inl (T 2, 60, .inl (tx)))] H := hP
      have hD : va_D A [((y 0), .inr (4, [.ref (y 4), .ref (y 1), .ref (y 2), .ref (y 3), .int (u0 0), .int (u0 1), .int (u0 2), .int (u0 3)])), ((y 4), .inr (3, [.ref (y 5), .int (nI len)])), ((y 5), .inl (T 2, 60, .inl (tx)))] := hD
      refine lv_if_eq (tgt := 99) hx hb dX4_readThing_66 (by decide) (fun c66 => ?_) (fun c66 => ?_)
      · skip
        exact absurd c66 (by decide)
      · skip
        refine lv_aload_n hx hb dX4_readThing_69 rfl (lv_at hl 0 rfl) ?_
        refine callMi (As := []) (wr := []) ⟨hx, hb, hml, hown, hts⟩ (mX4_readPair l T D y u0 tx len hlen hch (i + 1) (by omega) f1u0) (cwV 0 hts gX4_readThing_X4_readPair rfl rfl rfl pdX4_readPair ⟨Nat.le_of_ble_eq_true rfl, Nat.le_of_ble_eq_true rfl⟩) hP hD hK hS hA xN_bl (fun U _ hW => XN_warm hW hX) (ci := 4) rfl rfl rfl hl.1 rfl rfl (Nat.le_of_ble_eq_true rfl) dX4_readThing_70 ⟨Nat.zero_le _, Nat.zero_le _⟩ (fun r25_ u26_ H locs eu26_ hP hD hS hkf => ?_)
        obtain ⟨u1, rfl⟩ : ∃ z, z = u26_ := ⟨_, rfl⟩
        obtain ⟨-, rfl, x9, qu1⟩ := eu26_.resolve_left (fun z => y1 z.1)
        have f0u1 : u1 0 = w 0 := by rw [qu1]; exact f0u0
        have f1u1 : u1 1 = nI (i + 1) := by rw [qu1]; exact f1u0
        have hP : va_P D vwCl [((y 0), .inr (4, [.ref (y 4), .ref (y 1), .ref (y 2), .ref (y 3), .int (u1 0), .int (u1 1), .int (u1 2), .int (u1 3)])), ((y 4), .inr (3, [.ref (y 5), .int (nI len)])), ((y 5), .inl (T 2, 60, .inl (tx)))] H := hP
        have hD : va_D A [((y 0), .inr (4, [.ref (y 4), .ref (y 1), .ref (y 2), .ref (y 3), .int (u1 0), .int (u1 1), .int (u1 2), .int (u1 3)])), ((y 4), .inr (3, [.ref (y 5), .int (nI len)])), ((y 5), .inl (T 2, 60, .inl (tx)))] := hD
        refine lv_if_eq (tgt := 99) hx hb dX4_readThing_73 (by decide) (fun c73 => ?_) (fun c73 => ?_)
        · skip
          refine lv_iconst (v := 0) hx hb dX4_readThing_99 (by decide) ?_
          have hL := th_b0 (c := tch tx len) (i := i) (Or.inl ech.symm : tch tx len i = 98 ∨ tch tx len i = 100) y1
          exact hret _ _ _ u1 _ _ dX4_readThing_100 hS hP hD (Or.inr ⟨hL.1, rfl, f0u1, by rw [hL.2]; exact f1u1⟩)
        · skip
          exact absurd rfl c73
  · skip
    subst hZ
    have hi1 : i + 1 ≤ len := tch_pos1 (c := 111) (by decide) (by rw [← ech]; exact Int32.le_refl _)
    by_cases y1 : pd4 (tch tx len (i + 1))
    · skip
      have hi2 : i + 2 ≤ len := by
        have := tch_pos1 (c := 48) (by decide) y1.1
        omega
      refine lv_aload_n hx hb dX4_readThing_0 rfl (lv_at hl 0 rfl) ?_
      refine lv_iconst (v := nI 0) hx hb dX4_readThing_1 (by decide) ?_
      refine va_put (D := D) (ci := 4) (v := .int (nI 0)) (C := RX4) (T := TX4) (N := 8) hx hb hts inwX4_readThing_X4 tyX4 tyX4_ok nmX4 hown hK hP hD hS 0 rfl rfl 6 (by decide) (hts (.fieldLink RX4 46 "PlateSlabs$Trial" "pair" "I") (List.mem_of_getElem? (i := 1) rfl)) (fun _ h9 => h9) rfl (tyX4_ok 6 (by decide)) (rfl) (rfl) (Nat.le_of_ble_eq_true rfl) dX4_readThing_2 (fun H locs hP hD hS => ?_)
      have hP : va_P D vwCl [((y 0), .inr (4, [.ref (y 4), .ref (y 1), .ref (y 2), .ref (y 3), .int (w 0), .int (w 1), .int (nI 0), .int (w 3)])), ((y 4), .inr (3, [.ref (y 5), .int (nI len)])), ((y 5), .inl (T 2, 60, .inl (tx)))] H := hP
      have hD : va_D A [((y 0), .inr (4, [.ref (y 4), .ref (y 1), .ref (y 2), .ref (y 3), .int (w 0), .int (w 1), .int (nI 0), .int (w 3)])), ((y 4), .inr (3, [.ref (y 5), .int (nI len)])), ((y 5), .inl (T 2, 60, .inl (tx)))] := hD
      refine lv_aload_n hx hb dX4_readThing_5 rfl (lv_at hl 0 rfl) ?_
      refine lv_iconst (v := nI 0) hx hb dX4_readThing_6 (by decide) ?_
      refine va_put (D := D) (ci := 4) (v := .int (nI 0)) (C := RX4) (T := TX4) (N := 8) hx hb hts inwX4_readThing_X4 tyX4 tyX4_ok nmX4 hown hK hP hD hS 0 rfl rfl 7 (by decide) (hts (.fieldLink RX4 49 "PlateSlabs$Trial" "value" "I") (List.mem_of_getElem? (i := 2) rfl)) (fun _ h9 => h9) rfl (tyX4_ok 7 (by decide)) (rfl) (rfl) (Nat.le_of_ble_eq_true rfl) dX4_readThing_7 (fun H locs hP hD hS => ?_)
      have hP : va_P D vwCl [((y 0), .inr (4, [.ref (y 4), .ref (y 1), .ref (y 2), .ref (y 3), .int (w 0), .int (w 1), .int (nI 0), .int (nI 0)])), ((y 4), .inr (3, [.ref (y 5), .int (nI len)])), ((y 5), .inl (T 2, 60, .inl (tx)))] H := hP
      have hD : va_D A [((y 0), .inr (4, [.ref (y 4), .ref (y 1), .ref (y 2), .ref (y 3), .int (w 0), .int (w 1), .int (nI 0), .int (nI 0)])), ((y 4), .inr (3, [.ref (y 5), .int (nI len)])), ((y 5), .inl (T 2, 60, .inl (tx)))] := hD
      refine lv_iload_n hx hb dX4_readThing_10 rfl (lv_at hl 1 rfl) ?_
      obtain ⟨v0, ev0⟩ : ∃ z, z = upd (upd w 2 (nI 0)) 3 (nI 0) := ⟨_, rfl⟩
      have hP : va_P D vwCl [((y 0), .inr (4, [.ref (y 4), .ref (y 1), .ref (y 2), .ref (y 3), .int (v0 0), .int (v0 1), .int (v0 2), .int (v0 3)])), ((y 4), .inr (3, [.ref (y 5), .int (nI len)])), ((y 5), .inl (T 2, 60, .inl (tx)))] H := by rw [ev0]; exact hP
      have hD : va_D A [((y 0), .inr (4, [.ref (y 4), .ref (y 1), .ref (y 2), .ref (y 3), .int (v0 0), .int (v0 1), .int (v0 2), .int (v0 3)])), ((y 4), .inr (3, [.ref (y 5), .int (nI len)])), ((y 5), .inl (T 2, 60, .inl (tx)))] := by rw [ev0]; exact hD
      have f0v0 : v0 0 = w 0 := by rw [ev0]; rfl
      have f1v0 : v0 1 = nI i := by rw [ev0]; exact h1
      have f2v0 : v0 2 = nI 0 := by rw [ev0]; rfl
      have f3v0 : v0 3 = nI 0 := by rw [ev0]; rfl
      have hP : va_P D vwCl [((y 0), .inr (4, [.ref (y 4), .ref (y 1), .ref (y 2), .ref (y 3), .int (v0 0), .int (v0 1), .int (v0 2), .int (v0 3)])), ((y 4), .inr (3, [.ref (y 5), .int (nI len)])), ((y 5), .inl (T 2, 60, .inl (tx)))] H := hP
      have hD : va_D A [((y 0), .inr (4, [.ref (y 4), .ref (y 1), .ref (y 2), .ref (y 3), .int (v0 0), .int (v0 1), .int (v0 2), .int (v0 3)])), ((y 4), .inr (3, [.ref (y 5), .int (nI len)])), ((y 5), .inl (T 2, 60, .inl (tx)))] := hD
      refine lv_lookup (off := 90) (tgt := 101) hx hb dX4_readThing_11 (by decide) (by decide) (by decide) ?_
      refine lv_aload_n hx hb dX4_readThing_101 rfl (lv_at hl 0 rfl) ?_
      refine lv_bipush (v := 111) hx hb dX4_readThing_102 (by decide) ?_
      refine callMi (As := [.int 111]) (wr := []) ⟨hx, hb, hml, hown, hts⟩ (mX4_readSign l T D y v0 tx len hlen hch i (by omega) f1v0 111) (cwV 1 hts gX4_readThing_X4_readSign rfl rfl rfl pdX4_readSign ⟨Nat.le_of_ble_eq_true rfl, Nat.le_of_ble_eq_true rfl⟩) hP hD hK hS hA xN_bl (fun U _ hW => XN_warm hW hX) (ci := 4) rfl rfl rfl hl.1 rfl rfl (Nat.le_of_ble_eq_true rfl) dX4_readThing_104 ⟨Nat.zero_le _, Nat.zero_le _⟩ (fun r27_ u28_ H locs eu28_ hP hD hS hkf => ?_)
      obtain ⟨u0, rfl⟩ : ∃ z, z = u28_ := ⟨_, rfl⟩
      obtain ⟨-, rfl, qu0⟩ := eu28_.resolve_right (fun z => z.1 ech.symm)
      have f1u0 : u0 1 = nI (i + 1) := by rw [qu0]; rfl
      have f0u0 : u0 0 = w 0 := by rw [qu0]; exact f0v0
      have f2u0 : u0 2 = nI 0 := by rw [qu0]; exact f2v0
      have f3u0 : u0 3 = nI 0 := by rw [qu0]; exact f3v0
      have hP : va_P D vwCl [((y 0), .inr (4, [.ref (y 4), .ref (y 1), .ref (y 2), .ref (y 3), .int (u0 0), .int (u0 1), .int (u0 2), .int (u0 3)])), ((y 4), .inr (3, [.ref (y 5), .int (nI len)])), ((y 5), .inl (T 2, 60, .inl (tx)))] H := hP
      have hD : va_D A [((y 0), .inr (4, [.ref (y 4), .ref (y 1), .ref (y 2), .ref (y 3), .int (u0 0), .int (u0 1), .int (u0 2), .int (u0 3)])), ((y 4), .inr (3, [.ref (y 5), .int (nI len)])), ((y 5), .inl (T 2, 60, .inl (tx)))] := hD
      refine lv_if_eq (tgt := 121) hx hb dX4_readThing_107 (by decide) (fun c107 => ?_) (fun c107 => ?_)
      · skip
        exact absurd c107 (by decide)
      · skip
        refine lv_aload_n hx hb dX4_readThing_110 rfl (lv_at hl 0 rfl) ?_
        refine callMi (As := []) (wr := []) ⟨hx, hb, hml, hown, hts⟩ (mX4_readPair l T D y u0 tx len hlen hch (i + 1) (by omega) f1u0) (cwV 0 hts gX4_readThing_X4_readPair rfl rfl rfl pdX4_readPair ⟨Nat.le_of_ble_eq_true rfl, Nat.le_of_ble_eq_true rfl⟩) hP hD hK hS hA xN_bl (fun U _ hW => XN_warm hW hX) (ci := 4) rfl rfl rfl hl.1 rfl rfl (Nat.le_of_ble_eq_true rfl) dX4_readThing_111 ⟨Nat.zero_le _, Nat.zero_le _⟩ (fun r29_ u30_ H locs eu30_ hP hD hS hkf => ?_)
        obtain ⟨u1, rfl⟩ : ∃ z, z = u30_ := ⟨_, rfl⟩
        obtain ⟨-, rfl, qu1⟩ := eu30_.resolve_right (fun z => z.1 y1)
        have f1u1 : u1 1 = nI (i + 2) := by rw [qu1]; rfl
        have f0u1 : u1 0 = w 0 := by rw [qu1]; exact f0u0
        have f2u1 : u1 2 = nI (dg (tch tx len (i + 1))) := by rw [qu1]; rfl
        have f3u1 : u1 3 = nI 0 := by rw [qu1]; exact f3u0
        have hP : va_P D vwCl [((y 0), .inr (4, [.ref (y 4), .ref (y 1), .ref (y 2), .ref (y 3), .int (u1 0), .int (u1 1), .int (u1 2), .int (u1 3)])), ((y 4), .inr (3, [.ref (y 5), .int (nI len)])), ((y 5), .inl (T 2, 60, .inl (tx)))] H := hP
        have hD : va_D A [((y 0), .inr (4, [.ref (y 4), .ref (y 1), .ref (y 2), .ref (y 3), .int (u1 0), .int (u1 1), .int (u1 2), .int (u1 3)])), ((y 4), .inr (3, [.ref (y 5), .int (nI len)])), ((y 5), .inl (T 2, 60, .inl (tx)))] := hD
        refine lv_if_eq (tgt := 121) hx hb dX4_readThing_114 (by decide) (fun c114 => ?_) (fun c114 => ?_)
        · skip
          exact absurd c114 (by decide)
        · skip
          refine lv_iconst (v := 1) hx hb dX4_readThing_117 (by decide) ?_
          refine lv_goto (tgt := 122) hx hb dX4_readThing_118 (by decide) ?_
          have hL := th_o1 (c := tch tx len) (i := i) ech.symm y1
          have hC := cA_n (c := tch tx len) (i := i) (by rw [← ech]; decide)
          exact hret _ _ _ u1 _ _ dX4_readThing_122 hS hP hD (Or.inl ⟨hL.1, rfl, f0u1, by rw [hL.2.2.2]; exact f1u1, by rw [hC.1, hL.2.1]; exact f2u1, by rw [hC.2, hL.2.2.1]; exact f3u1⟩)
    · skip
      refine lv_aload_n hx hb dX4_readThing_0 rfl (lv_at hl 0 rfl) ?_
      refine lv_iconst (v := nI 0) hx hb dX4_readThing_1 (by decide) ?_
      refine va_put (D := D) (ci := 4) (v := .int (nI 0)) (C := RX4) (T := TX4) (N := 8) hx hb hts inwX4_readThing_X4 tyX4 tyX4_ok nmX4 hown hK hP hD hS 0 rfl rfl 6 (by decide) (hts (.fieldLink RX4 46 "PlateSlabs$Trial" "pair" "I") (List.mem_of_getElem? (i := 1) rfl)) (fun _ h9 => h9) rfl (tyX4_ok 6 (by decide)) (rfl) (rfl) (Nat.le_of_ble_eq_true rfl) dX4_readThing_2 (fun H locs hP hD hS => ?_)
      have hP : va_P D vwCl [((y 0), .inr (4, [.ref (y 4), .ref (y 1), .ref (y 2), .ref (y 3), .int (w 0), .int (w 1), .int (nI 0), .int (w 3)])), ((y 4), .inr (3, [.ref (y 5), .int (nI len)])), ((y 5), .inl (T 2, 60, .inl (tx)))] H := hP
      have hD : va_D A [((y 0), .inr (4, [.ref (y 4), .ref (y 1), .ref (y 2), .ref (y 3), .int (w 0), .int (w 1), .int (nI 0), .int (w 3)])), ((y 4), .inr (3, [.ref (y 5), .int (nI len)])), ((y 5), .inl (T 2, 60, .inl (tx)))] := hD
      refine lv_aload_n hx hb dX4_readThing_5 rfl (lv_at hl 0 rfl) ?_
      refine lv_iconst (v := nI 0) hx hb dX4_readThing_6 (by decide) ?_
      refine va_put (D := D) (ci := 4) (v := .int (nI 0)) (C := RX4) (T := TX4) (N := 8) hx hb hts inwX4_readThing_X4 tyX4 tyX4_ok nmX4 hown hK hP hD hS 0 rfl rfl 7 (by decide) (hts (.fieldLink RX4 49 "PlateSlabs$Trial" "value" "I") (List.mem_of_getElem? (i := 2) rfl)) (fun _ h9 => h9) rfl (tyX4_ok 7 (by decide)) (rfl) (rfl) (Nat.le_of_ble_eq_true rfl) dX4_readThing_7 (fun H locs hP hD hS => ?_)
      have hP : va_P D vwCl [((y 0), .inr (4, [.ref (y 4), .ref (y 1), .ref (y 2), .ref (y 3), .int (w 0), .int (w 1), .int (nI 0), .int (nI 0)])), ((y 4), .inr (3, [.ref (y 5), .int (nI len)])), ((y 5), .inl (T 2, 60, .inl (tx)))] H := hP
      have hD : va_D A [((y 0), .inr (4, [.ref (y 4), .ref (y 1), .ref (y 2), .ref (y 3), .int (w 0), .int (w 1), .int (nI 0), .int (nI 0)])), ((y 4), .inr (3, [.ref (y 5), .int (nI len)])), ((y 5), .inl (T 2, 60, .inl (tx)))] := hD
      refine lv_iload_n hx hb dX4_readThing_10 rfl (lv_at hl 1 rfl) ?_
      obtain ⟨v0, ev0⟩ : ∃ z, z = upd (upd w 2 (nI 0)) 3 (nI 0) := ⟨_, rfl⟩
      have hP : va_P D vwCl [((y 0), .inr (4, [.ref (y 4), .ref (y 1), .ref (y 2), .ref (y 3), .int (v0 0), .int (v0 1), .int (v0 2), .int (v0 3)])), ((y 4), .inr (3, [.ref (y 5), .int (nI len)])), ((y 5), .inl (T 2, 60, .inl (tx)))] H := by rw [ev0]; exact hP
      have hD : va_D A [((y 0), .inr (4, [.ref (y 4), .ref (y 1), .ref (y 2), .ref (y 3), .int (v0 0), .int (v0 1), .int (v0 2), .int (v0 3)])), ((y 4), .inr (3, [.ref (y 5), .int (nI len)])), ((y 5), .inl (T 2, 60, .inl (tx)))] := by rw [ev0]; exact hD
      have f0v0 : v0 0 = w 0 := by rw [ev0]; rfl
      have f1v0 : v0 1 = nI i := by rw [ev0]; exact h1
      have f2v0 : v0 2 = nI 0 := by rw [ev0]; rfl
      have f3v0 : v0 3 = nI 0 := by rw [ev0]; rfl
      have hP : va_P D vwCl [((y 0), .inr (4, [.ref (y 4), .ref (y 1), .ref (y 2), .ref (y 3), .int (v0 0), .int (v0 1), .int (v0 2), .int (v0 3)])), ((y 4), .inr (3, [.ref (y 5), .int (nI len)])), ((y 5), .inl (T 2, 60, .inl (tx)))] H := hP
      have hD : va_D A [((y 0), .inr (4, [.ref (y 4), .ref (y 1), .ref (y 2), .ref (y 3), .int (v0 0), .int (v0 1), .int (v0 2), .int (v0 3)])), ((y 4), .inr (3, [.ref (y 5), .int (nI len)])), ((y 5), .inl (T 2, 60, .inl (tx)))] := hD
      refine lv_lookup (off := 90) (tgt := 101) hx hb dX4_readThing_11 (by decide) (by decide) (by decide) ?_
      refine lv_aload_n hx hb dX4_readThing_101 rfl (lv_at hl 0 rfl) ?_
      refine lv_bipush (v := 111) hx hb dX4_readThing_102 (by decide) ?_
      refine callMi (As := [.int 111]) (wr := []) ⟨hx, hb, hml, hown, hts⟩ (mX4_readSign l T D y v0 tx len hlen hch i (by omega) f1v0 111) (cwV 1 hts gX4_readThing_X4_readSign rfl rfl rfl pdX4_readSign ⟨Nat.le_of_ble_eq_true rfl, Nat.le_of_ble_eq_true rfl⟩) hP hD hK hS hA xN_bl (fun U _ hW => XN_warm hW hX) (ci := 4) rfl rfl rfl hl.1 rfl rfl (Nat.le_of_ble_eq_true rfl) dX4_readThing_104 ⟨Nat.zero_le _, Nat.zero_le _⟩ (fun r31_ u32_ H locs eu32_ hP hD hS hkf => ?_)
      obtain ⟨u0, rfl⟩ : ∃ z, z = u32_ := ⟨_, rfl⟩
      obtain ⟨-, rfl, qu0⟩ := eu32_.resolve_right (fun z => z.1 ech.symm)
      have f1u0 : u0 1 = nI (i + 1) := by rw [qu0]; rfl
      have f0u0 : u0 0 = w 0 := by rw [qu0]; exact f0v0
      have f2u0 : u0 2 = nI 0 := by rw [qu0]; exact f2v0
      have f3u0 : u0 3 = nI 0 := by rw [qu0]; exact f3v0
      have hP : va_P D vwCl [((y 0), .inr (4, [.ref (y 4), .ref (y 1), .ref (y 2), .ref (y 3), .int (u0 0), .int (u0 1), .int (u0 2), .int (u0 3)])), ((y 4), .inr (3, [.ref (y 5), .int (nI len)])), ((y 5), .inl (T 2, 60, .inl (tx)))] H := hP
      have hD : va_D A [((y 0), .inr (4, [.ref (y 4), .ref (y 1), .ref (y 2), .ref (y 3), .int (u0 0), .int (u0 1), .int (u0 2), .int (u0 3)])), ((y 4), .inr (3, [.ref (y 5), .int (nI len)])), ((y 5), .inl (T 2, 60, .inl (tx)))] := hD
      refine lv_if_eq (tgt := 121) hx hb dX4_readThing_107 (by decide) (fun c107 => ?_) (fun c107 => ?_)
      · skip
        exact absurd c107 (by decide)
      · skip
        refine lv_aload_n hx hb dX4_readThing_110 rfl (lv_at hl 0 rfl) ?_
        refine callMi (As := []) (wr := []) ⟨hx, hb, hml, hown, hts⟩ (mX4_readPair l T D y u0 tx len hlen hch (i + 1) (by omega) f1u0) (cwV 0 hts gX4_readThing_X4_readPair rfl rfl rfl pdX4_readPair ⟨Nat.le_of_ble_eq_true rfl, Nat.le_of_ble_eq_true rfl⟩) hP hD hK hS hA xN_bl (fun U _ hW => XN_warm hW hX) (ci := 4) rfl rfl rfl hl.1 rfl rfl (Nat.le_of_ble_eq_true rfl) dX4_readThing_111 ⟨Nat.zero_le _, Nat.zero_le _⟩ (fun r33_ u34_ H locs eu34_ hP hD hS hkf => ?_)
        obtain ⟨u1, rfl⟩ : ∃ z, z = u34_ := ⟨_, rfl⟩
        obtain ⟨-, rfl, x9, qu1⟩ := eu34_.resolve_left (fun z => y1 z.1)
        have f0u1 : u1 0 = w 0 := by rw [qu1]; exact f0u0
        have f1u1 : u1 1 = nI (i + 1) := by rw [qu1]; exact f1u0
        have hP : va_P D vwCl [((y 0), .inr (4, [.ref (y 4), .ref (y 1), .ref (y 2), .ref (y 3), .int (u1 0), .int (u1 1), .int (u1 2), .int (u1 3)])), ((y 4), .inr (3, [.ref (y 5), .int (nI len)])), ((y 5), .inl (T 2, 60, .inl (tx)))] H := hP
        have hD : va_D A [((y 0), .inr (4, [.ref (y 4), .ref (y 1), .ref (y 2), .ref (y 3), .int (u1 0), .int (u1 1), .int (u1 2), .int (u1 3)])), ((y 4), .inr (3, [.ref (y 5), .int (nI len)])), ((y 5), .inl (T 2, 60, .inl (tx)))] := hD
        refine lv_if_eq (tgt := 121) hx hb dX4_readThing_114 (by decide) (fun c114 => ?_) (fun c114 => ?_)
        · skip
          refine lv_iconst (v := 0) hx hb dX4_readThing_121 (by decide) ?_
          have hL := th_o0 (c := tch tx len) (i := i) ech.symm y1
          exact hret _ _ _ u1 _ _ dX4_readThing_122 hS hP hD (Or.inr ⟨hL.1, rfl, f0u1, by rw [hL.2]; exact f1u1⟩)
        · skip
          exact absurd rfl c114
  · skip
    subst hZ
    have hi1 : i + 1 ≤ len := tch_pos1 (c := 100) (by decide) (by rw [← ech]; exact Int32.le_refl _)
    by_cases y1 : pd4 (tch tx len (i + 1))
    · skip
      have hi2 : i + 2 ≤ len := by
        have := tch_pos1 (c := 48) (by decide) y1.1
        omega
      by_cases y2 : tch tx len (i + 2) = 61
      · skip
        have hi3 : i + 3 ≤ len := by
          have := tch_pos1 (c := 61) (by decide) (by rw [y2]; exact Int32.le_refl _)
          omega
        by_cases y3 : nOk (tch tx len) (i + 3) 0
        · skip
          refine lv_aload_n hx hb dX4_readThing_0 rfl (lv_at hl 0 rfl) ?_
          refine lv_iconst (v := nI 0) hx hb dX4_readThing_1 (by decide) ?_
          refine va_put (D := D) (ci := 4) (v := .int (nI 0)) (C := RX4) (T := TX4) (N := 8) hx hb hts inwX4_readThing_X4 tyX4 tyX4_ok nmX4 hown hK hP hD hS 0 rfl rfl 6 (by decide) (hts (.fieldLink RX4 46 "PlateSlabs$Trial" "pair" "I") (List.mem_of_getElem? (i := 1) rfl)) (fun _ h9 => h9) rfl (tyX4_ok 6 (by decide)) (rfl) (rfl) (Nat.le_of_ble_eq_true rfl) dX4_readThing_2 (fun H locs hP hD hS => ?_)
          have hP : va_P D vwCl [((y 0), .inr (4, [.ref (y 4), .ref (y 1), .ref (y 2), .ref (y 3), .int (w 0), .int (w 1), .int (nI 0), .int (w 3)])), ((y 4), .inr (3, [.ref (y 5), .int (nI len)])), ((y 5), .inl (T 2, 60, .inl (tx)))] H := hP
          have hD : va_D A [((y 0), .inr (4, [.ref (y 4), .ref (y 1), .ref (y 2), .ref (y 3), .int (w 0), .int (w 1), .int (nI 0), .int (w 3)])), ((y 4), .inr (3, [.ref (y 5), .int (nI len)])), ((y 5), .inl (T 2, 60, .inl (tx)))] := hD
          refine lv_aload_n hx hb dX4_readThing_5 rfl (lv_at hl 0 rfl) ?_
          refine lv_iconst (v := nI 0) hx hb dX4_readThing_6 (by decide) ?_
          refine va_put (D := D) (ci := 4) (v := .int (nI 0)) (C := RX4) (T := TX4) (N := 8) hx hb hts inwX4_readThing_X4 tyX4 tyX4_ok nmX4 hown hK hP hD hS 0 rfl rfl 7 (by decide) (hts (.fieldLink RX4 49 "PlateSlabs$Trial" "value" "I") (List.mem_of_getElem? (i := 2) rfl)) (fun _ h9 => h9) rfl (tyX4_ok 7 (by decide)) (rfl) (rfl) (Nat.le_of_ble_eq_true rfl) dX4_readThing_7 (fun H locs hP hD hS => ?_)
          have hP : va_P D vwCl [((y 0), .inr (4, [.ref (y 4), .ref (y 1), .ref (y 2), .ref (y 3), .int (w 0), .int (w 1), .int (nI 0), .int (nI 0)])), ((y 4), .inr (3, [.ref (y 5), .int (nI len)])), ((y 5), .inl (T 2, 60, .inl (tx)))] H := hP
          have hD : va_D A [((y 0), .inr (4, [.ref (y 4), .ref (y 1), .ref (y 2), .ref (y 3), .int (w 0), .int (w 1), .int (nI 0), .int (nI 0)])), ((y 4), .inr (3, [.ref (y 5), .int (nI len)])), ((y 5), .inl (T 2, 60, .inl (tx)))] := hD
          refine lv_iload_n hx hb dX4_readThing_10 rfl (lv_at hl 1 rfl) ?_
          obtain ⟨v0, ev0⟩ : ∃ z, z = upd (upd w 2 (nI 0)) 3 (nI 0) := ⟨_, rfl⟩
          have hP : va_P D vwCl [((y 0), .inr (4, [.ref (y 4), .ref (y 1), .ref (y 2), .ref (y 3), .int (v0 0), .int (v0 1), .int (v0 2), .int (v0 3)])), ((y 4), .inr (3, [.ref (y 5), .int (nI len)])), ((y 5), .inl (T 2, 60, .inl (tx)))] H := by rw [ev0]; exact hP
          have hD : va_D A [((y 0), .inr (4, [.ref (y 4), .ref (y 1), .ref (y 2), .ref (y 3), .int (v0 0), .int (v0 1), .int (v0 2), .int (v0 3)])), ((y 4), .inr (3, [.ref (y 5), .int (nI len)])), ((y 5), .inl (T 2, 60, .inl (tx)))] := by rw [ev0]; exact hD
          have f0v0 : v0 0 = w 0 := by rw [ev0]; rfl
          have f1v0 : v0 1 = nI i := by rw [ev0]; exact h1
          have f2v0 : v0 2 = nI 0 := by rw [ev0]; rfl
          have f3v0 : v0 3 = nI 0 := by rw [ev0]; rfl
          have hP : va_P D vwCl [((y 0), .inr (4, [.ref (y 4), .ref (y 1), .ref (y 2), .ref (y 3), .int (v0 0), .int (v0 1), .int (v0 2), .int (v0 3)])), ((y 4), .inr (3, [.ref (y 5), .int (nI len)])), ((y 5), .inl (T 2, 60, .inl (tx)))] H := hP
          have hD : va_D A [((y 0), .inr (4, [.ref (y 4), .ref (y 1), .ref (y 2), .ref (y 3), .int (v0 0), .int (v0 1), .int (v0 2), .int (v0 3)])), ((y 4), .inr (3, [.ref (y 5), .int (nI len)])), ((y 5), .inl (T 2, 60, .inl (tx)))] := hD
          refine lv_lookup (off := 112) (tgt := 123) hx hb dX4_readThing_11 (by decide) (by decide) (by decide) ?_
          refine lv_aload_n hx hb dX4_readThing_123 rfl (lv_at hl 0 rfl) ?_
          refine lv_bipush (v := 100) hx hb dX4_readThing_124 (by decide) ?_
          refine callMi (As := [.int 100]) (wr := []) ⟨hx, hb, hml, hown, hts⟩ (mX4_readSign l T D y v0 tx len hlen hch i (by omega) f1v0 100) (cwV 1 hts gX4_readThing_X4_readSign rfl rfl rfl pdX4_readSign ⟨Nat.le_of_ble_eq_true rfl, Nat.le_of_ble_eq_true rfl⟩) hP hD hK hS hA xN_bl (fun U _ hW => XN_warm hW hX) (ci := 4) rfl rfl rfl hl.1 rfl rfl (Nat.le_of_ble_eq_true rfl) dX4_readThing_126 ⟨Nat.zero_le _, Nat.zero_le _⟩ (fun r35_ u36_ H locs eu36_ hP hD hS hkf => ?_)
          obtain ⟨u0, rfl⟩ : ∃ z, z = u36_ := ⟨_, rfl⟩
          obtain ⟨-, rfl, qu0⟩ := eu36_.resolve_right (fun z => z.1 ech.symm)
          have f1u0 : u0 1 = nI (i + 1) := by rw [qu0]; rfl
          have f0u0 : u0 0 = w 0 := by rw [qu0]; exact f0v0
          have f2u0 : u0 2 = nI 0 := by rw [qu0]; exact f2v0
          have f3u0 : u0 3 = nI 0 := by rw [qu0]; exact f3v0
          have hP : va_P D vwCl [((y 0), .inr (4, [.ref (y 4), .ref (y 1), .ref (y 2), .ref (y 3), .int (u0 0), .int (u0 1), .int (u0 2), .int (u0 3)])), ((y 4), .inr (3, [.ref (y 5), .int (nI len)])), ((y 5), .inl (T 2, 60, .inl (tx)))] H := hP
          have hD : va_D A [((y 0), .inr (4, [.ref (y 4), .ref (y 1), .ref (y 2), .ref (y 3), .int (u0 0), .int (u0 1), .int (u0 2), .int (u0 3)])), ((y 4), .inr (3, [.ref (y 5), .int (nI len)])), ((y 5), .inl (T 2, 60, .inl (tx)))] := hD
          refine lv_if_eq (tgt := 162) hx hb dX4_readThing_129 (by decide) (fun c129 => ?_) (fun c129 => ?_)
          · skip
            exact absurd c129 (by decide)
          · skip
            refine lv_aload_n hx hb dX4_readThing_132 rfl (lv_at hl 0 rfl) ?_
            refine callMi (As := []) (wr := []) ⟨hx, hb, hml, hown, hts⟩ (mX4_readPair l T D y u0 tx len hlen hch (i + 1) (by omega) f1u0) (cwV 0 hts gX4_readThing_X4_readPair rfl rfl rfl pdX4_readPair ⟨Nat.le_of_ble_eq_true rfl, Nat.le_of_ble_eq_true rfl⟩) hP hD hK hS hA xN_bl (fun U _ hW => XN_warm hW hX) (ci := 4) rfl rfl rfl hl.1 rfl rfl (Nat.le_of_ble_eq_true rfl) dX4_readThing_133 ⟨Nat.zero_le _, Nat.zero_le _⟩ (fun r37_ u38_ H locs eu38_ hP hD hS hkf => ?_)
            obtain ⟨u1, rfl⟩ : ∃ z, z = u38_ := ⟨_, rfl⟩
            obtain ⟨-, rfl, qu1⟩ := eu38_.resolve_right (fun z => z.1 y1)
            have f1u1 : u1 1 = nI (i + 2) := by rw [qu1]; rfl
            have f0u1 : u1 0 = w 0 := by rw [qu1]; exact f0u0
            have f2u1 : u1 2 = nI (dg (tch tx len (i + 1))) := by rw [qu1]; rfl
            have f3u1 : u1 3 = nI 0 := by rw [qu1]; exact f3u0
            have hP : va_P D vwCl [((y 0), .inr (4, [.ref (y 4), .ref (y 1), .ref (y 2), .ref (y 3), .int (u1 0), .int (u1 1), .int (u1 2), .int (u1 3)])), ((y 4), .inr (3, [.ref (y 5), .int (nI len)])), ((y 5), .inl (T 2, 60, .inl (tx)))] H := hP
            have hD : va_D A [((y 0), .inr (4, [.ref (y 4), .ref (y 1), .ref (y 2), .ref (y 3), .int (u1 0), .int (u1 1), .int (u1 2), .int (u1 3)])), ((y 4), .inr (3, [.ref (y 5), .int (nI len)])), ((y 5), .inl (T 2, 60, .inl (tx)))] := hD
            refine lv_if_eq (tgt := 162) hx hb dX4_readThing_136 (by decide) (fun c136 => ?_) (fun c136 => ?_)
            · skip
              exact absurd c136 (by decide)
            · skip
              refine lv_aload_n hx hb dX4_readThing_139 rfl (lv_at hl 0 rfl) ?_
              refine lv_bipush (v := 61) hx hb dX4_readThing_140 (by decide) ?_
              refine callMi (As := [.int 61]) (wr := []) ⟨hx, hb, hml, hown, hts⟩ (mX4_readSign l T D y u1 tx len hlen hch (i + 2) (by omega) f1u1 61) (cwV 1 hts gX4_readThing_X4_readSign rfl rfl rfl pdX4_readSign ⟨Nat.le_of_ble_eq_true rfl, Nat.le_of_ble_eq_true rfl⟩) hP hD hK hS hA xN_bl (fun U _ hW => XN_warm hW hX) (ci := 4) rfl rfl rfl hl.1 rfl rfl (Nat.le_of_ble_eq_true rfl) dX4_readThing_142 ⟨Nat.zero_le _, Nat.zero_le _⟩ (fun r39_ u40_ H locs eu40_ hP hD hS hkf => ?_)
              obtain ⟨u2, rfl⟩ : ∃ z, z = u40_ := ⟨_, rfl⟩
              obtain ⟨-, rfl, qu2⟩ := eu40_.resolve_right (fun z => z.1 y2)
              have f1u2 : u2 1 = nI (i + 3) := by rw [qu2]; rfl
              have f0u2 : u2 0 = w 0 := by rw [qu2]; exact f0u1
              have f2u2 : u2 2 = nI (dg (tch tx len (i + 1))) := by rw [qu2]; exact f2u1
              have f3u2 : u2 3 = nI 0 := by rw [qu2]; exact f3u1
              have hP : va_P D vwCl [((y 0), .inr (4, [.ref (y 4), .ref (y 1), .ref (y 2), .ref (y 3), .int (u2 0), .int (u2 1), .int (u2 2), .int (u2 3)])), ((y 4), .inr (3, [.ref (y 5), .int (nI len)])), ((y 5), .inl (T 2, 60, .inl (tx)))] H := hP
              have hD : va_D A [((y 0), .inr (4, [.ref (y 4), .ref (y 1), .ref (y 2), .ref (y 3), .int (u2 0), .int (u2 1), .int (u2 2), .int (u2 3)])), ((y 4), .inr (3, [.ref (y 5), .int (nI len)])), ((y 5), .inl (T 2, 60, .inl (tx)))] := hD
              refine lv_if_eq (tgt := 162) hx hb dX4_readThing_145 (by decide) (fun c145 => ?_) (fun c145 => ?_)
              · skip
                exact absurd c145 (by decide)
              · skip
                refine lv_aload_n hx hb dX4_readThing_148 rfl (lv_at hl 0 rfl) ?_
                refine lv_iconst (v := 0) hx hb dX4_readThing_149 (by decide) ?_
                refine lv_bipush (v := 40) hx hb dX4_readThing_150 (by decide) ?_
                refine callMi (As := [.int (nI 0), .int (nI 40)]) (wr := []) ⟨hx, hb, hml, hown, hts⟩ (mX4_readNumber l T D y u2 tx len hlen hch (i + 3) (by omega) f1u2 0 40 (by decide) (by decide)) (cwV 2 hts gX4_readThing_X4_readNumber rfl rfl rfl pdX4_readNumber ⟨Nat.le_of_ble_eq_true rfl, Nat.le_of_ble_eq_true rfl⟩) hP hD hK hS hA xN_bl (fun U _ hW => XN_warm hW hX) (ci := 4) rfl rfl rfl hl.1 rfl rfl (Nat.le_of_ble_eq_true rfl) dX4_readThing_152 ⟨Nat.zero_le _, Nat.zero_le _⟩ (fun r41_ u42_ H locs eu42_ hP hD hS hkf => ?_)
                obtain ⟨u3, rfl⟩ : ∃ z, z = u42_ := ⟨_, rfl⟩
                obtain ⟨-, rfl, q0, q2, q3, q1⟩ := eu42_.resolve_right (fun z => z.1 y3)
                have f0u3 : u3 0 = w 0 := q0.trans f0u2
                have f2u3 : u3 2 = nI (dg (tch tx len (i + 1))) := q2.trans f2u2
                have hP : va_P D vwCl [((y 0), .inr (4, [.ref (y 4), .ref (y 1), .ref (y 2), .ref (y 3), .int (u3 0), .int (u3 1), .int (u3 2), .int (u3 3)])), ((y 4), .inr (3, [.ref (y 5), .int (nI len)])), ((y 5), .inl (T 2, 60, .inl (tx)))] H := hP
                have hD : va_D A [((y 0), .inr (4, [.ref (y 4), .ref (y 1), .ref (y 2), .ref (y 3), .int (u3 0), .int (u3 1), .int (u3 2), .int (u3 3)])), ((y 4), .inr (3, [.ref (y 5), .int (nI len)])), ((y 5), .inl (T 2, 60, .inl (tx)))] := hD
                refine lv_if_eq (tgt := 162) hx hb dX4_readThing_155 (by decide) (fun c155 => ?_) (fun c155 => ?_)
                · skip
                  exact absurd c155 (by decide)
                · skip
                  refine lv_iconst (v := 1) hx hb dX4_readThing_158 (by decide) ?_
                  refine lv_goto (tgt := 163) hx hb dX4_readThing_159 (by decide) ?_
                  have hL := th_b1 (c := tch tx len) (i := i) (Or.inr ech.symm : tch tx len i = 98 ∨ tch tx len i = 100) y1 y2 y3
                  have hC := cA_n (c := tch tx len) (i := i) (by rw [← ech]; decide)
                  exact hret _ _ _ u3 _ _ dX4_readThing_163 hS hP hD (Or.inl ⟨hL.1, rfl, f0u3, by rw [hL.2.2.2, ← ech, show tHi 100 = 40 from if_neg (by decide)]; exact q1, by rw [hC.1, hL.2.1]; exact f2u3, by rw [hC.2, hL.2.2.1, ← ech, show tHi 100 = 40 from if_neg (by decide)]; exact q3⟩)
        · skip
          refine lv_aload_n hx hb dX4_readThing_0 rfl (lv_at hl 0 rfl) ?_
          refine lv_iconst (v := nI 0) hx hb dX4_readThing_1 (by decide) ?_
          refine va_put (D := D) (ci := 4) (v := .int (nI 0)) (C := RX4) (T := TX4) (N := 8) hx hb hts inwX4_readThing_X4 tyX4 tyX4_ok nmX4 hown hK hP hD hS 0 rfl rfl 6 (by decide) (hts (.fieldLink RX4 46 "PlateSlabs$Trial" "pair" "I") (List.mem_of_getElem? (i := 1) rfl)) (fun _ h9 => h9) rfl (tyX4_ok 6 (by decide)) (rfl) (rfl) (Nat.le_of_ble_eq_true rfl) dX4_readThing_2 (fun H locs hP hD hS => ?_)
          have hP : va_P D vwCl [((y 0), .inr (4, [.ref (y 4), .ref (y 1), .ref (y 2), .ref (y 3), .int (w 0), .int (w 1), .int (nI 0), .int (w 3)])), ((y 4), .inr (3, [.ref (y 5), .int (nI len)])), ((y 5), .inl (T 2, 60, .inl (tx)))] H := hP
          have hD : va_D A [((y 0), .inr (4, [.ref (y 4), .ref (y 1), .ref (y 2), .ref (y 3), .int (w 0), .int (w 1), .int (nI 0), .int (w 3)])), ((y 4), .inr (3, [.ref (y 5), .int (nI len)])), ((y 5), .inl (T 2, 60, .inl (tx)))] := hD
          refine lv_aload_n hx hb dX4_readThing_5 rfl (lv_at hl 0 rfl) ?_
          refine lv_iconst (v := nI 0) hx hb dX4_readThing_6 (by decide) ?_
          refine va_put (D := D) (ci := 4) (v := .int (nI 0)) (C := RX4) (T := TX4) (N := 8) hx hb hts inwX4_readThing_X4 tyX4 tyX4_ok nmX4 hown hK hP hD hS 0 rfl rfl 7 (by decide) (hts (.fieldLink RX4 49 "PlateSlabs$Trial" "value" "I") (List.mem_of_getElem? (i := 2) rfl)) (fun _ h9 => h9) rfl (tyX4_ok 7 (by decide)) (rfl) (rfl) (Nat.le_of_ble_eq_true rfl) dX4_readThing_7 (fun H locs hP hD hS => ?_)
          have hP : va_P D vwCl [((y 0), .inr (4, [.ref (y 4), .ref (y 1), .ref (y 2), .ref (y 3), .int (w 0), .int (w 1), .int (nI 0), .int (nI 0)])), ((y 4), .inr (3, [.ref (y 5), .int (nI len)])), ((y 5), .inl (T 2, 60, .inl (tx)))] H := hP
          have hD : va_D A [((y 0), .inr (4, [.ref (y 4), .ref (y 1), .ref (y 2), .ref (y 3), .int (w 0), .int (w 1), .int (nI 0), .int (nI 0)])), ((y 4), .inr (3, [.ref (y 5), .int (nI len)])), ((y 5), .inl (T 2, 60, .inl (tx)))] := hD
          refine lv_iload_n hx hb dX4_readThing_10 rfl (lv_at hl 1 rfl) ?_
          obtain ⟨v0, ev0⟩ : ∃ z, z = upd (upd w 2 (nI 0)) 3 (nI 0) := ⟨_, rfl⟩
          have hP : va_P D vwCl [((y 0), .inr (4, [.ref (y 4), .ref (y 1), .ref (y 2), .ref (y 3), .int (v0 0), .int (v0 1), .int (v0 2), .int (v0 3)])), ((y 4), .inr (3, [.ref (y 5), .int (nI len)])), ((y 5), .inl (T 2, 60, .inl (tx)))] H := by rw [ev0]; exact hP
          have hD : va_D A [((y 0), .inr (4, [.ref (y 4), .ref (y 1), .ref (y 2), .ref (y 3), .int (v0 0), .int (v0 1), .int (v0 2), .int (v0 3)])), ((y 4), .inr (3, [.ref (y 5), .int (nI len)])), ((y 5), .inl (T 2, 60, .inl (tx)))] := by rw [ev0]; exact hD
          have f0v0 : v0 0 = w 0 := by rw [ev0]; rfl
          have f1v0 : v0 1 = nI i := by rw [ev0]; exact h1
          have f2v0 : v0 2 = nI 0 := by rw [ev0]; rfl
          have f3v0 : v0 3 = nI 0 := by rw [ev0]; rfl
          have hP : va_P D vwCl [((y 0), .inr (4, [.ref (y 4), .ref (y 1), .ref (y 2), .ref (y 3), .int (v0 0), .int (v0 1), .int (v0 2), .int (v0 3)])), ((y 4), .inr (3, [.ref (y 5), .int (nI len)])), ((y 5), .inl (T 2, 60, .inl (tx)))] H := hP
          have hD : va_D A [((y 0), .inr (4, [.ref (y 4), .ref (y 1), .ref (y 2), .ref (y 3), .int (v0 0), .int (v0 1), .int (v0 2), .int (v0 3)])), ((y 4), .inr (3, [.ref (y 5), .int (nI len)])), ((y 5), .inl (T 2, 60, .inl (tx)))] := hD
          refine lv_lookup (off := 112) (tgt := 123) hx hb dX4_readThing_11 (by decide) (by decide) (by decide) ?_
          refine lv_aload_n hx hb dX4_readThing_123 rfl (lv_at hl 0 rfl) ?_
          refine lv_bipush (v := 100) hx hb dX4_readThing_124 (by decide) ?_
          refine callMi (As := [.int 100]) (wr := []) ⟨hx, hb, hml, hown, hts⟩ (mX4_readSign l T D y v0 tx len hlen hch i (by omega) f1v0 100) (cwV 1 hts gX4_readThing_X4_readSign rfl rfl rfl pdX4_readSign ⟨Nat.le_of_ble_eq_true rfl, Nat.le_of_ble_eq_true rfl⟩) hP hD hK hS hA xN_bl (fun U _ hW => XN_warm hW hX) (ci := 4) rfl rfl rfl hl.1 rfl rfl (Nat.le_of_ble_eq_true rfl) dX4_readThing_126 ⟨Nat.zero_le _, Nat.zero_le _⟩ (fun r43_ u44_ H locs eu44_ hP hD hS hkf => ?_)
          obtain ⟨u0, rfl⟩ : ∃ z, z = u44_ := ⟨_, rfl⟩
          obtain ⟨-, rfl, qu0⟩ := eu44_.resolve_right (fun z => z.1 ech.symm)
          have f1u0 : u0 1 = nI (i + 1) := by rw [qu0]; rfl
          have f0u0 : u0 0 = w 0 := by rw [qu0]; exact f0v0
          have f2u0 : u0 2 = nI 0 := by rw [qu0]; exact f2v0
          have f3u0 : u0 3 = nI 0 := by rw [qu0]; exact f3v0
          have hP : va_P D vwCl [((y 0), .inr (4, [.ref (y 4), .ref (y 1), .ref (y 2), .ref (y 3), .int (u0 0), .int (u0 1), .int (u0 2), .int (u0 3)])), ((y 4), .inr (3, [.ref (y 5), .int (nI len)])), ((y 5), .inl (T 2, 60, .inl (tx)))] H := hP
          have hD : va_D A [((y 0), .inr (4, [.ref (y 4), .ref (y 1), .ref (y 2), .ref (y 3), .int (u0 0), .int (u0 1), .int (u0 2), .int (u0 3)])), ((y 4), .inr (3, [.ref (y 5), .int (nI len)])), ((y 5), .inl (T 2, 60, .inl (tx)))] := hD
          refine lv_if_eq (tgt := 162) hx hb dX4_readThing_129 (by decide) (fun c129 => ?_) (fun c129 => ?_)
          · skip
            exact absurd c129 (by decide)
          · skip
            refine lv_aload_n hx hb dX4_readThing_132 rfl (lv_at hl 0 rfl) ?_
            refine callMi (As := []) (wr := []) ⟨hx, hb, hml, hown, hts⟩ (mX4_readPair l T D y u0 tx len hlen hch (i + 1) (by omega) f1u0) (cwV 0 hts gX4_readThing_X4_readPair rfl rfl rfl pdX4_readPair ⟨Nat.le_of_ble_eq_true rfl, Nat.le_of_ble_eq_true rfl⟩) hP hD hK hS hA xN_bl (fun U _ hW => XN_warm hW hX) (ci := 4) rfl rfl rfl hl.1 rfl rfl (Nat.le_of_ble_eq_true rfl) dX4_readThing_133 ⟨Nat.zero_le _, Nat.zero_le _⟩ (fun r45_ u46_ H locs eu46_ hP hD hS hkf => ?_)
            obtain ⟨u1, rfl⟩ : ∃ z, z = u46_ := ⟨_, rfl⟩
            obtain ⟨-, rfl, qu1⟩ := eu46_.resolve_right (fun z => z.1 y1)
            have f1u1 : u1 1 = nI (i + 2) := by rw [qu1]; rfl
            have f0u1 : u1 0 = w 0 := by rw [qu1]; exact f0u0
            have f2u1 : u1 2 = nI (dg (tch tx len (i + 1))) := by rw [qu1]; rfl
            have f3u1 : u1 3 = nI 0 := by rw [qu1]; exact f3u0
            have hP : va_P D vwCl [((y 0), .inr (4, [.ref (y 4), .ref (y 1), .ref (y 2), .ref (y 3), .int (u1 0), .int (u1 1), .int (u1 2), .int (u1 3)])), ((y 4), .inr (3, [.ref (y 5), .int (nI len)])), ((y 5), .inl (T 2, 60, .inl (tx)))] H := hP
            have hD : va_D A [((y 0), .inr (4, [.ref (y 4), .ref (y 1), .ref (y 2), .ref (y 3), .int (u1 0), .int (u1 1), .int (u1 2), .int (u1 3)])), ((y 4), .inr (3, [.ref (y 5), .int (nI len)])), ((y 5), .inl (T 2, 60, .inl (tx)))] := hD
            refine lv_if_eq (tgt := 162) hx hb dX4_readThing_136 (by decide) (fun c136 => ?_) (fun c136 => ?_)
            · skip
              exact absurd c136 (by decide)
            · skip
              refine lv_aload_n hx hb dX4_readThing_139 rfl (lv_at hl 0 rfl) ?_
              refine lv_bipush (v := 61) hx hb dX4_readThing_140 (by decide) ?_
              refine callMi (As := [.int 61]) (wr := []) ⟨hx, hb, hml, hown, hts⟩ (mX4_readSign l T D y u1 tx len hlen hch (i + 2) (by omega) f1u1 61) (cwV 1 hts gX4_readThing_X4_readSign rfl rfl rfl pdX4_readSign ⟨Nat.le_of_ble_eq_true rfl, Nat.le_of_ble_eq_true rfl⟩) hP hD hK hS hA xN_bl (fun U _ hW => XN_warm hW hX) (ci := 4) rfl rfl rfl hl.1 rfl rfl (Nat.le_of_ble_eq_true rfl) dX4_readThing_142 ⟨Nat.zero_le _, Nat.zero_le _⟩ (fun r47_ u48_ H locs eu48_ hP hD hS hkf => ?_)
              obtain ⟨u2, rfl⟩ : ∃ z, z = u48_ := ⟨_, rfl⟩
              obtain ⟨-, rfl, qu2⟩ := eu48_.resolve_right (fun z => z.1 y2)
              have f1u2 : u2 1 = nI (i + 3) := by rw [qu2]; rfl
              have f0u2 : u2 0 = w 0 := by rw [qu2]; exact f0u1
              have f2u2 : u2 2 = nI (dg (tch tx len (i + 1))) := by rw [qu2]; exact f2u1
              have f3u2 : u2 3 = nI 0 := by rw [qu2]; exact f3u1
              have hP : va_P D vwCl [((y 0), .inr (4, [.ref (y 4), .ref (y 1), .ref (y 2), .ref (y 3), .int (u2 0), .int (u2 1), .int (u2 2), .int (u2 3)])), ((y 4), .inr (3, [.ref (y 5), .int (nI len)])), ((y 5), .inl (T 2, 60, .inl (tx)))] H := hP
              have hD : va_D A [((y 0), .inr (4, [.ref (y 4), .ref (y 1), .ref (y 2), .ref (y 3), .int (u2 0), .int (u2 1), .int (u2 2), .int (u2 3)])), ((y 4), .inr (3, [.ref (y 5), .int (nI len)])), ((y 5), .inl (T 2, 60, .inl (tx)))] := hD
              refine lv_if_eq (tgt := 162) hx hb dX4_readThing_145 (by decide) (fun c145 => ?_) (fun c145 => ?_)
              · skip
                exact absurd c145 (by decide)
              · skip
                refine lv_aload_n hx hb dX4_readThing_148 rfl (lv_at hl 0 rfl) ?_
                refine lv_iconst (v := 0) hx hb dX4_readThing_149 (by decide) ?_
                refine lv_bipush (v := 40) hx hb dX4_readThing_150 (by decide) ?_
                refine callMi (As := [.int (nI 0), .int (nI 40)]) (wr := []) ⟨hx, hb, hml, hown, hts⟩ (mX4_readNumber l T D y u2 tx len hlen hch (i + 3) (by omega) f1u2 0 40 (by decide) (by decide)) (cwV 2 hts gX4_readThing_X4_readNumber rfl rfl rfl pdX4_readNumber ⟨Nat.le_of_ble_eq_true rfl, Nat.le_of_ble_eq_true rfl⟩) hP hD hK hS hA xN_bl (fun U _ hW => XN_warm hW hX) (ci := 4) rfl rfl rfl hl.1 rfl rfl (Nat.le_of_ble_eq_true rfl) dX4_readThing_152 ⟨Nat.zero_le _, Nat.zero_le _⟩ (fun r49_ u50_ H locs eu50_ hP hD hS hkf => ?_)
                obtain ⟨u3, rfl⟩ : ∃ z, z = u50_ := ⟨_, rfl⟩
                obtain ⟨-, rfl, q0, q1⟩ := eu50_.resolve_left (fun z => y3 z.1)
                have f0u3 : u3 0 = w 0 := q0.trans f0u2
                have hP : va_P D vwCl [((y 0), .inr (4, [.ref (y 4), .ref (y 1), .ref (y 2), .ref (y 3), .int (u3 0), .int (u3 1), .int (u3 2), .int (u3 3)])), ((y 4), .inr (3, [.ref (y 5), .int (nI len)])), ((y 5), .inl (T 2, 60, .inl (tx)))] H := hP
                have hD : va_D A [((y 0), .inr (4, [.ref (y 4), .ref (y 1), .ref (y 2), .ref (y 3), .int (u3 0), .int (u3 1), .int (u3 2), .int (u3 3)])), ((y 4), .inr (3, [.ref (y 5), .int (nI len)])), ((y 5), .inl (T 2, 60, .inl (tx)))] := hD
                refine lv_if_eq (tgt := 162) hx hb dX4_readThing_155 (by decide) (fun c155 => ?_) (fun c155 => ?_)
                · skip
                  refine lv_iconst (v := 0) hx hb dX4_readThing_162 (by decide) ?_
                  have hL := th_b02 (c := tch tx len) (i := i) (Or.inr ech.symm : tch tx len i = 98 ∨ tch tx len i = 100) y1 y2 y3
                  exact hret _ _ _ u3 _ _ dX4_readThing_163 hS hP hD (Or.inr ⟨hL.1, rfl, f0u3, by rw [hL.2]; exact q1⟩)
                · skip
                  exact absurd rfl c155
      · skip
        refine lv_aload_n hx hb dX4_readThing_0 rfl (lv_at hl 0 rfl) ?_
        refine lv_iconst (v := nI 0) hx hb dX4_readThing_1 (by decide) ?_
        refine va_put (D := D) (ci := 4) (v := .int (nI 0)) (C := RX4) (T := TX4) (N := 8) hx hb hts inwX4_readThing_X4 tyX4 tyX4_ok nmX4 hown hK hP hD hS 0 rfl rfl 6 (by decide) (hts (.fieldLink RX4 46 "PlateSlabs$Trial" "pair" "I") (List.mem_of_getElem? (i := 1) rfl)) (fun _ h9 => h9) rfl (tyX4_ok 6 (by decide)) (rfl) (rfl) (Nat.le_of_ble_eq_true rfl) dX4_readThing_2 (fun H locs hP hD hS => ?_)
        have hP : va_P D vwCl [((y 0), .inr (4, [.ref (y 4), .ref (y 1), .ref (y 2), .ref (y 3), .int (w 0), .int (w 1), .int (nI 0), .int (w 3)])), ((y 4), .inr (3, [.ref (y 5), .int (nI len)])), ((y 5), .inl (T 2, 60, .inl (tx)))] H := hP
        have hD : va_D A [((y 0), .inr (4, [.ref (y 4), .ref (y 1), .ref (y 2), .ref (y 3), .int (w 0), .int (w 1), .int (nI 0), .int (w 3)])), ((y 4), .inr (3, [.ref (y 5), .int (nI len)])), ((y 5), .inl (T 2, 60, .inl (tx)))] := hD
        refine lv_aload_n hx hb dX4_readThing_5 rfl (lv_at hl 0 rfl) ?_
        refine lv_iconst (v := nI 0) hx hb dX4_readThing_6 (by decide) ?_
        refine va_put (D := D) (ci := 4) (v := .int (nI 0)) (C := RX4) (T := TX4) (N := 8) hx hb hts inwX4_readThing_X4 tyX4 tyX4_ok nmX4 hown hK hP hD hS 0 rfl rfl 7 (by decide) (hts (.fieldLink RX4 49 "PlateSlabs$Trial" "value" "I") (List.mem_of_getElem? (i := 2) rfl)) (fun _ h9 => h9) rfl (tyX4_ok 7 (by decide)) (rfl) (rfl) (Nat.le_of_ble_eq_true rfl) dX4_readThing_7 (fun H locs hP hD hS => ?_)
        have hP : va_P D vwCl [((y 0), .inr (4, [.ref (y 4), .ref (y 1), .ref (y 2), .ref (y 3), .int (w 0), .int (w 1), .int (nI 0), .int (nI 0)])), ((y 4), .inr (3, [.ref (y 5), .int (nI len)])), ((y 5), .inl (T 2, 60, .inl (tx)))] H := hP
        have hD : va_D A [((y 0), .inr (4, [.ref (y 4), .ref (y 1), .ref (y 2), .ref (y 3), .int (w 0), .int (w 1), .int (nI 0), .int (nI 0)])), ((y 4), .inr (3, [.ref (y 5), .int (nI len)])), ((y 5), .inl (T 2, 60, .inl (tx)))] := hD
        refine lv_iload_n hx hb dX4_readThing_10 rfl (lv_at hl 1 rfl) ?_
        obtain ⟨v0, ev0⟩ : ∃ z, z = upd (upd w 2 (nI 0)) 3 (nI 0) := ⟨_, rfl⟩
        have hP : va_P D vwCl [((y 0), .inr (4, [.ref (y 4), .ref (y 1), .ref (y 2), .ref (y 3), .int (v0 0), .int (v0 1), .int (v0 2), .int (v0 3)])), ((y 4), .inr (3, [.ref (y 5), .int (nI len)])), ((y 5), .inl (T 2, 60, .inl (tx)))] H := by rw [ev0]; exact hP
        have hD : va_D A [((y 0), .inr (4, [.ref (y 4), .ref (y 1), .ref (y 2), .ref (y 3), .int (v0 0), .int (v0 1), .int (v0 2), .int (v0 3)])), ((y 4), .inr (3, [.ref (y 5), .int (nI len)])), ((y 5), .inl (T 2, 60, .inl (tx)))] := by rw [ev0]; exact hD
        have f0v0 : v0 0 = w 0 := by rw [ev0]; rfl
        have f1v0 : v0 1 = nI i := by rw [ev0]; exact h1
        have f2v0 : v0 2 = nI 0 := by rw [ev0]; rfl
        have f3v0 : v0 3 = nI 0 := by rw [ev0]; rfl
        have hP : va_P D vwCl [((y 0), .inr (4, [.ref (y 4), .ref (y 1), .ref (y 2), .ref (y 3), .int (v0 0), .int (v0 1), .int (v0 2), .int (v0 3)])), ((y 4), .inr (3, [.ref (y 5), .int (nI len)])), ((y 5), .inl (T 2, 60, .inl (tx)))] H := hP
        have hD : va_D A [((y 0), .inr (4, [.ref (y 4), .ref (y 1), .ref (y 2), .ref (y 3), .int (v0 0), .int (v0 1), .int (v0 2), .int (v0 3)])), ((y 4), .inr (3, [.ref (y 5), .int (nI len)])), ((y 5), .inl (T 2, 60, .inl (tx)))] := hD
        refine lv_lookup (off := 112) (tgt := 123) hx hb dX4_readThing_11 (by decide) (by decide) (by decide) ?_
        refine lv_aload_n hx hb dX4_readThing_123 rfl (lv_at hl 0 rfl) ?_
        refine lv_bipush (v := 100) hx hb dX4_readThing_124 (by decide) ?_
        refine callMi (As := [.int 100]) (wr := []) ⟨hx, hb, hml, hown, hts⟩ (mX4_readSign l T D y v0 tx len hlen hch i (by omega) f1v0 100) (cwV 1 hts gX4_readThing_X4_readSign rfl rfl rfl pdX4_readSign ⟨Nat.le_of_ble_eq_true rfl, Nat.le_of_ble_eq_true rfl⟩) hP hD hK hS hA xN_bl (fun U _ hW => XN_warm hW hX) (ci := 4) rfl rfl rfl hl.1 rfl rfl (Nat.le_of_ble_eq_true rfl) dX4_readThing_126 ⟨Nat.zero_le _, Nat.zero_le _⟩ (fun r51_ u52_ H locs eu52_ hP hD hS hkf => ?_)
        obtain ⟨u0, rfl⟩ : ∃ z, z = u52_ := ⟨_, rfl⟩
        obtain ⟨-, rfl, qu0⟩ := eu52_.resolve_right (fun z => z.1 ech.symm)
        have f1u0 : u0 1 = nI (i + 1) := by rw [qu0]; rfl
        have f0u0 : u0 0 = w 0 := by rw [qu0]; exact f0v0
        have f2u0 : u0 2 = nI 0 := by rw [qu0]; exact f2v0
        have f3u0 : u0 3 = nI 0 := by rw [qu0]; exact f3v0
        have hP : va_P D vwCl [((y 0), .inr (4, [.ref (y 4), .ref (y 1), .ref (y 2), .ref (y 3), .int (u0 0), .int (u0 1), .int (u0 2), .int (u0 3)])), ((y 4), .inr (3, [.ref (y 5), .int (nI len)])), ((y 5), .inl (T 2, 60, .inl (tx)))] H := hP
        have hD : va_D A [((y 0), .inr (4, [.ref (y 4), .ref (y 1), .ref (y 2), .ref (y 3), .int (u0 0), .int (u0 1), .int (u0 2), .int (u0 3)])), ((y 4), .inr (3, [.ref (y 5), .int (nI len)])), ((y 5), .inl (T 2, 60, .inl (tx)))] := hD
        refine lv_if_eq (tgt := 162) hx hb dX4_readThing_129 (by decide) (fun c129 => ?_) (fun c129 => ?_)
        · skip
          exact absurd c129 (by decide)
        · skip
          refine lv_aload_n hx hb dX4_readThing_132 rfl (lv_at hl 0 rfl) ?_
          refine callMi (As := []) (wr := []) ⟨hx, hb, hml, hown, hts⟩ (mX4_readPair l T D y u0 tx len hlen hch (i + 1) (by omega) f1u0) (cwV 0 hts gX4_readThing_X4_readPair rfl rfl rfl pdX4_readPair ⟨Nat.le_of_ble_eq_true rfl, Nat.le_of_ble_eq_true rfl⟩) hP hD hK hS hA xN_bl (fun U _ hW => XN_warm hW hX) (ci := 4) rfl rfl rfl hl.1 rfl rfl (Nat.le_of_ble_eq_true rfl) dX4_readThing_133 ⟨Nat.zero_le _, Nat.zero_le _⟩ (fun r53_ u54_ H locs eu54_ hP hD hS hkf => ?_)
          obtain ⟨u1, rfl⟩ : ∃ z, z = u54_ := ⟨_, rfl⟩
          obtain ⟨-, rfl, qu1⟩ := eu54_.resolve_right (fun z => z.1 y1)
          have f1u1 : u1 1 = nI (i + 2) := by rw [qu1]; rfl
          have f0u1 : u1 0 = w 0 := by rw [qu1]; exact f0u0
          have f2u1 : u1 2 = nI (dg (tch tx len (i + 1))) := by rw [qu1]; rfl
          have f3u1 : u1 3 = nI 0 := by rw [qu1]; exact f3u0
          have hP : va_P D vwCl [((y 0), .inr (4, [.ref (y 4), .ref (y 1), .ref (y 2), .ref (y 3), .int (u1 0), .int (u1 1), .int (u1 2), .int (u1 3)])), ((y 4), .inr (3, [.ref (y 5), .int (nI len)])), ((y 5), .inl (T 2, 60, .inl (tx)))] H := hP
          have hD : va_D A [((y 0), .inr (4, [.ref (y 4), .ref (y 1), .ref (y 2), .ref (y 3), .int (u1 0), .int (u1 1), .int (u1 2), .int (u1 3)])), ((y 4), .inr (3, [.ref (y 5), .int (nI len)])), ((y 5), .inl (T 2, 60, .inl (tx)))] := hD
          refine lv_if_eq (tgt := 162) hx hb dX4_readThing_136 (by decide) (fun c136 => ?_) (fun c136 => ?_)
          · skip
            exact absurd c136 (by decide)
          · skip
            refine lv_aload_n hx hb dX4_readThing_139 rfl (lv_at hl 0 rfl) ?_
            refine lv_bipush (v := 61) hx hb dX4_readThing_140 (by decide) ?_
            refine callMi (As := [.int 61]) (wr := []) ⟨hx, hb, hml, hown, hts⟩ (mX4_readSign l T D y u1 tx len hlen hch (i + 2) (by omega) f1u1 61) (cwV 1 hts gX4_readThing_X4_readSign rfl rfl rfl pdX4_readSign ⟨Nat.le_of_ble_eq_true rfl, Nat.le_of_ble_eq_true rfl⟩) hP hD hK hS hA xN_bl (fun U _ hW => XN_warm hW hX) (ci := 4) rfl rfl rfl hl.1 rfl rfl (Nat.le_of_ble_eq_true rfl) dX4_readThing_142 ⟨Nat.zero_le _, Nat.zero_le _⟩ (fun r55_ u56_ H locs eu56_ hP hD hS hkf => ?_)
            obtain ⟨u2, rfl⟩ : ∃ z, z = u56_ := ⟨_, rfl⟩
            obtain ⟨-, rfl, qu2⟩ := eu56_.resolve_left (fun z => y2 z.1)
            have f0u2 : u2 0 = w 0 := by rw [qu2]; exact f0u1
            have f1u2 : u2 1 = nI (i + 2) := by rw [qu2]; exact f1u1
            have hP : va_P D vwCl [((y 0), .inr (4, [.ref (y 4), .ref (y 1), .ref (y 2), .ref (y 3), .int (u2 0), .int (u2 1), .int (u2 2), .int (u2 3)])), ((y 4), .inr (3, [.ref (y 5), .int (nI len)])), ((y 5), .inl (T 2, 60, .inl (tx)))] H := hP
            have hD : va_D A [((y 0), .inr (4, [.ref (y 4), .ref (y 1), .ref (y 2), .ref (y 3), .int (u2 0), .int (u2 1), .int (u2 2), .int (u2 3)])), ((y 4), .inr (3, [.ref (y 5), .int (nI len)])), ((y 5), .inl (T 2, 60, .inl (tx)))] := hD
            refine lv_if_eq (tgt := 162) hx hb dX4_readThing_145 (by decide) (fun c145 => ?_) (fun c145 => ?_)
            · skip
              refine lv_iconst (v := 0) hx hb dX4_readThing_162 (by decide) ?_
              have hL := th_b01 (c := tch tx len) (i := i) (Or.inr ech.symm : tch tx len i = 98 ∨ tch tx len i = 100) y1 y2
              exact hret _ _ _ u2 _ _ dX4_readThing_163 hS hP hD (Or.inr ⟨hL.1, rfl, f0u2, by rw [hL.2]; exact f1u2⟩)
            · skip
              exact absurd rfl c145
    · skip
      refine lv_aload_n hx hb dX4_readThing_0 rfl (lv_at hl 0 rfl) ?_
      refine lv_iconst (v := nI 0) hx hb dX4_readThing_1 (by decide) ?_
      refine va_put (D := D) (ci := 4) (v := .int (nI 0)) (C := RX4) (T := TX4) (N := 8) hx hb hts inwX4_readThing_X4 tyX4 tyX4_ok nmX4 hown hK hP hD hS 0 rfl rfl 6 (by decide) (hts (.fieldLink RX4 46 "PlateSlabs$Trial" "pair" "I") (List.mem_of_getElem? (i := 1) rfl)) (fun _ h9 => h9) rfl (tyX4_ok 6 (by decide)) (rfl) (rfl) (Nat.le_of_ble_eq_true rfl) dX4_readThing_2 (fun H locs hP hD hS => ?_)
      have hP : va_P D vwCl [((y 0), .inr (4, [.ref (y 4), .ref (y 1), .ref (y 2), .ref (y 3), .int (w 0), .int (w 1), .int (nI 0), .int (w 3)])), ((y 4), .inr (3, [.ref (y 5), .int (nI len)])), ((y 5), .inl (T 2, 60, .inl (tx)))] H := hP
      have hD : va_D A [((y 0), .inr (4, [.ref (y 4), .ref (y 1), .ref (y 2), .ref (y 3), .int (w 0), .int (w 1), .int (nI 0), .int (w 3)])), ((y 4), .inr (3, [.ref (y 5), .int (nI len)])), ((y 5), .inl (T 2, 60, .inl (tx)))] := hD
      refine lv_aload_n hx hb dX4_readThing_5 rfl (lv_at hl 0 rfl) ?_
      refine lv_iconst (v := nI 0) hx hb dX4_readThing_6 (by decide) ?_
      refine va_put (D := D) (ci := 4) (v := .int (nI 0)) (C := RX4) (T := TX4) (N := 8) hx hb hts inwX4_readThing_X4 tyX4 tyX4_ok nmX4 hown hK hP hD hS 0 rfl rfl 7 (by decide) (hts (.fieldLink RX4 49 "PlateSlabs$Trial" "value" "I") (List.mem_of_getElem? (i := 2) rfl)) (fun _ h9 => h9) rfl (tyX4_ok 7 (by decide)) (rfl) (rfl) (Nat.le_of_ble_eq_true rfl) dX4_readThing_7 (fun H locs hP hD hS => ?_)
      have hP : va_P D vwCl [((y 0), .inr (4, [.ref (y 4), .ref (y 1), .ref (y 2), .ref (y 3), .int (w 0), .int (w 1), .int (nI 0), .int (nI 0)])), ((y 4), .inr (3, [.ref (y 5), .int (nI len)])), ((y 5), .inl (T 2, 60, .inl (tx)))] H := hP
      have hD : va_D A [((y 0), .inr (4, [.ref (y 4), .ref (y 1), .ref (y 2), .ref (y 3), .int (w 0), .int (w 1), .int (nI 0), .int (nI 0)])), ((y 4), .inr (3, [.ref (y 5), .int (nI len)])), ((y 5), .inl (T 2, 60, .inl (tx)))] := hD
      refine lv_iload_n hx hb dX4_readThing_10 rfl (lv_at hl 1 rfl) ?_
      obtain ⟨v0, ev0⟩ : ∃ z, z = upd (upd w 2 (nI 0)) 3 (nI 0) := ⟨_, rfl⟩
      have hP : va_P D vwCl [((y 0), .inr (4, [.ref (y 4), .ref (y 1), .ref (y 2), .ref (y 3), .int (v0 0), .int (v0 1), .int (v0 2), .int (v0 3)])), ((y 4), .inr (3, [.ref (y 5), .int (nI len)])), ((y 5), .inl (T 2, 60, .inl (tx)))] H := by rw [ev0]; exact hP
      have hD : va_D A [((y 0), .inr (4, [.ref (y 4), .ref (y 1), .ref (y 2), .ref (y 3), .int (v0 0), .int (v0 1), .int (v0 2), .int (v0 3)])), ((y 4), .inr (3, [.ref (y 5), .int (nI len)])), ((y 5), .inl (T 2, 60, .inl (tx)))] := by rw [ev0]; exact hD
      have f0v0 : v0 0 = w 0 := by rw [ev0]; rfl
      have f1v0 : v0 1 = nI i := by rw [ev0]; exact h1
      have f2v0 : v0 2 = nI 0 := by rw [ev0]; rfl
      have f3v0 : v0 3 = nI 0 := by rw [ev0]; rfl
      have hP : va_P D vwCl [((y 0), .inr (4, [.ref (y 4), .ref (y 1), .ref (y 2), .ref (y 3), .int (v0 0), .int (v0 1), .int (v0 2), .int (v0 3)])), ((y 4), .inr (3, [.ref (y 5), .int (nI len)])), ((y 5), .inl (T 2, 60, .inl (tx)))] H := hP
      have hD : va_D A [((y 0), .inr (4, [.ref (y 4), .ref (y 1), .ref (y 2), .ref (y 3), .int (v0 0), .int (v0 1), .int (v0 2), .int (v0 3)])), ((y 4), .inr (3, [.ref (y 5), .int (nI len)])), ((y 5), .inl (T 2, 60, .inl (tx)))] := hD
      refine lv_lookup (off := 112) (tgt := 123) hx hb dX4_readThing_11 (by decide) (by decide) (by decide) ?_
      refine lv_aload_n hx hb dX4_readThing_123 rfl (lv_at hl 0 rfl) ?_
      refine lv_bipush (v := 100) hx hb dX4_readThing_124 (by decide) ?_
      refine callMi (As := [.int 100]) (wr := []) ⟨hx, hb, hml, hown, hts⟩ (mX4_readSign l T D y v0 tx len hlen hch i (by omega) f1v0 100) (cwV 1 hts gX4_readThing_X4_readSign rfl rfl rfl pdX4_readSign ⟨Nat.le_of_ble_eq_true rfl, Nat.le_of_ble_eq_true rfl⟩) hP hD hK hS hA xN_bl (fun U _ hW => XN_warm hW hX) (ci := 4) rfl rfl rfl hl.1 rfl rfl (Nat.le_of_ble_eq_true rfl) dX4_readThing_126 ⟨Nat.zero_le _, Nat.zero_le _⟩ (fun r57_ u58_ H locs eu58_ hP hD hS hkf => ?_)
      obtain ⟨u0, rfl⟩ : ∃ z, z = u58_ := ⟨_, rfl⟩
      obtain ⟨-, rfl, qu0⟩ := eu58_.resolve_right (fun z => z.1 ech.symm)
      have f1u0 : u0 1 = nI (i + 1) := by rw [qu0]; rfl
      have f0u0 : u0 0 = w 0 := by rw [qu0]; exact f0v0
      have f2u0 : u0 2 = nI 0 := by rw [qu0]; exact f2v0
      have f3u0 : u0 3 = nI 0 := by rw [qu0]; exact f3v0
      have hP : va_P D vwCl [((y 0), .inr (4, [.ref (y 4), .ref (y 1), .ref (y 2), .ref (y 3), .int (u0 0), .int (u0 1), .int (u0 2), .int (u0 3)])), ((y 4), .inr (3, [.ref (y 5), .int (nI len)])), ((y 5), .inl (T 2, 60, .inl (tx)))] H := hP
      have hD : va_D A [((y 0), .inr (4, [.ref (y 4), .ref (y 1), .ref (y 2), .ref (y 3), .int (u0 0), .int (u0 1), .int (u0 2), .int (u0 3)])), ((y 4), .inr (3, [.ref (y 5), .int (nI len)])), ((y 5), .inl (T 2, 60, .inl (tx)))] := hD
      refine lv_if_eq (tgt := 162) hx hb dX4_readThing_129 (by decide) (fun c129 => ?_) (fun c129 => ?_)
      · skip
        exact absurd c129 (by decide)
      · skip
        refine lv_aload_n hx hb dX4_readThing_132 rfl (lv_at hl 0 rfl) ?_
        refine callMi (As := []) (wr := []) ⟨hx, hb, hml, hown, hts⟩ (mX4_readPair l T D y u0 tx len hlen hch (i + 1) (by omega) f1u0) (cwV 0 hts gX4_readThing_X4_readPair rfl rfl rfl pdX4_readPair ⟨Nat.le_of_ble_eq_true rfl, Nat.le_of_ble_eq_true rfl⟩) hP hD hK hS hA xN_bl (fun U _ hW => XN_warm hW hX) (ci := 4) rfl rfl rfl hl.1 rfl rfl (Nat.le_of_ble_eq_true rfl) dX4_readThing_133 ⟨Nat.zero_le _, Nat.zero_le _⟩ (fun r59_ u60_ H locs eu60_ hP hD hS hkf => ?_)
        obtain ⟨u1, rfl⟩ : ∃ z, z = u60_ := ⟨_, rfl⟩
        obtain ⟨-, rfl, x9, qu1⟩ := eu60_.resolve_left (fun z => y1 z.1)
        have f0u1 : u1 0 = w 0 := by rw [qu1]; exact f0u0
        have f1u1 : u1 1 = nI (i + 1) := by rw [qu1]; exact f1u0
        have hP : va_P D vwCl [((y 0), .inr (4, [.ref (y 4), .ref (y 1), .ref (y 2), .ref (y 3), .int (u1 0), .int (u1 1), .int (u1 2), .int (u1 3)])), ((y 4), .inr (3, [.ref (y 5), .int (nI len)])), ((y 5), .inl (T 2, 60, .inl (tx)))] H := hP
        have hD : va_D A [((y 0), .inr (4, [.ref (y 4), .ref (y 1), .ref (y 2), .ref (y 3), .int (u1 0), .int (u1 1), .int (u1 2), .int (u1 3)])), ((y 4), .inr (3, [.ref (y 5), .int (nI len)])), ((y 5), .inl (T 2, 60, .inl (tx)))] := hD
        refine lv_if_eq (tgt := 162) hx hb dX4_readThing_136 (by decide) (fun c136 => ?_) (fun c136 => ?_)
        · skip
          refine lv_iconst (v := 0) hx hb dX4_readThing_162 (by decide) ?_
          have hL := th_b0 (c := tch tx len) (i := i) (Or.inr ech.symm : tch tx len i = 98 ∨ tch tx len i = 100) y1
          exact hret _ _ _ u1 _ _ dX4_readThing_163 hS hP hD (Or.inr ⟨hL.1, rfl, f0u1, by rw [hL.2]; exact f1u1⟩)
        · skip
          exact absurd rfl c136
  · skip
    subst hZ
    have hi1 : i + 1 ≤ len := tch_pos1 (c := 99) (by decide) (by rw [← ech]; exact Int32.le_refl _)
    by_cases y1 : pd4 (tch tx len (i + 1))
    · skip
      have hi2 : i + 2 ≤ len := by
        have := tch_pos1 (c := 48) (by decide) y1.1
        omega
      by_cases y2 : pd4 (tch tx len (i + 2))
      · skip
        have hi3 : i + 3 ≤ len := by
          have := tch_pos1 (c := 48) (by decide) y2.1
          omega
        refine lv_aload_n hx hb dX4_readThing_0 rfl (lv_at hl 0 rfl) ?_
        refine lv_iconst (v := nI 0) hx hb dX4_readThing_1 (by decide) ?_
        refine va_put (D := D) (ci := 4) (v := .int (nI 0)) (C := RX4) (T := TX4) (N := 8) hx hb hts inwX4_readThing_X4 tyX4 tyX4_ok nmX4 hown hK hP hD hS 0 rfl rfl 6 (by decide) (hts (.fieldLink RX4 46 "PlateSlabs$Trial" "pair" "I") (List.mem_of_getElem? (i := 1) rfl)) (fun _ h9 => h9) rfl (tyX4_ok 6 (by decide)) (rfl) (rfl) (Nat.le_of_ble_eq_true rfl) dX4_readThing_2 (fun H locs hP hD hS => ?_)
        have hP : va_P D vwCl [((y 0), .inr (4, [.ref (y 4), .ref (y 1), .ref (y 2), .ref (y 3), .int (w 0), .int (w 1), .int (nI 0), .int (w 3)])), ((y 4), .inr (3, [.ref (y 5), .int (nI len)])), ((y 5), .inl (T 2, 60, .inl (tx)))] H := hP
        have hD : va_D A [((y 0), .inr (4, [.ref (y 4), .ref (y 1), .ref (y 2), .ref (y 3), .int (w 0), .int (w 1), .int (nI 0), .int (w 3)])), ((y 4), .inr (3, [.ref (y 5), .int (nI len)])), ((y 5), .inl (T 2, 60, .inl (tx)))] := hD
        refine lv_aload_n hx hb dX4_readThing_5 rfl (lv_at hl 0 rfl) ?_
        refine lv_iconst (v := nI 0) hx hb dX4_readThing_6 (by decide) ?_
        refine va_put (D := D) (ci := 4) (v := .int (nI 0)) (C := RX4) (T := TX4) (N := 8) hx hb hts inwX4_readThing_X4 tyX4 tyX4_ok nmX4 hown hK hP hD hS 0 rfl rfl 7 (by decide) (hts (.fieldLink RX4 49 "PlateSlabs$Trial" "value" "I") (List.mem_of_getElem? (i := 2) rfl)) (fun _ h9 => h9) rfl (tyX4_ok 7 (by decide)) (rfl) (rfl) (Nat.le_of_ble_eq_true rfl) dX4_readThing_7 (fun H locs hP hD hS => ?_)
        have hP : va_P D vwCl [((y 0), .inr (4, [.ref (y 4), .ref (y 1), .ref (y 2), .ref (y 3), .int (w 0), .int (w 1), .int (nI 0), .int (nI 0)])), ((y 4), .inr (3, [.ref (y 5), .int (nI len)])), ((y 5), .inl (T 2, 60, .inl (tx)))] H := hP
        have hD : va_D A [((y 0), .inr (4, [.ref (y 4), .ref (y 1), .ref (y 2), .ref (y 3), .int (w 0), .int (w 1), .int (nI 0), .int (nI 0)])), ((y 4), .inr (3, [.ref (y 5), .int (nI len)])), ((y 5), .inl (T 2, 60, .inl (tx)))] := hD
        refine lv_iload_n hx hb dX4_readThing_10 rfl (lv_at hl 1 rfl) ?_
        obtain ⟨v0, ev0⟩ : ∃ z, z = upd (upd w 2 (nI 0)) 3 (nI 0) := ⟨_, rfl⟩
        have hP : va_P D vwCl [((y 0), .inr (4, [.ref (y 4), .ref (y 1), .ref (y 2), .ref (y 3), .int (v0 0), .int (v0 1), .int (v0 2), .int (v0 3)])), ((y 4), .inr (3, [.ref (y 5), .int (nI len)])), ((y 5), .inl (T 2, 60, .inl (tx)))] H := by rw [ev0]; exact hP
        have hD : va_D A [((y 0), .inr (4, [.ref (y 4), .ref (y 1), .ref (y 2), .ref (y 3), .int (v0 0), .int (v0 1), .int (v0 2), .int (v0 3)])), ((y 4), .inr (3, [.ref (y 5), .int (nI len)])), ((y 5), .inl (T 2, 60, .inl (tx)))] := by rw [ev0]; exact hD
        have f0v0 : v0 0 = w 0 := by rw [ev0]; rfl
        have f1v0 : v0 1 = nI i := by rw [ev0]; exact h1
        have f2v0 : v0 2 = nI 0 := by rw [ev0]; rfl
        have f3v0 : v0 3 = nI 0 := by rw [ev0]; rfl
        have hP : va_P D vwCl [((y 0), .inr (4, [.ref (y 4), .ref (y 1), .ref (y 2), .ref (y 3), .int (v0 0), .int (v0 1), .int (v0 2), .int (v0 3)])), ((y 4), .inr (3, [.ref (y 5), .int (nI len)])), ((y 5), .inl (T 2, 60, .inl (tx)))] H := hP
        have hD : va_D A [((y 0), .inr (4, [.ref (y 4), .ref (y 1), .ref (y 2), .ref (y 3), .int (v0 0), .int (v0 1), .int (v0 2), .int (v0 3)])), ((y 4), .inr (3, [.ref (y 5), .int (nI len)])), ((y 5), .inl (T 2, 60, .inl (tx)))] := hD
        refine lv_lookup (off := 153) (tgt := 164) hx hb dX4_readThing_11 (by decide) (by decide) (by decide) ?_
        refine lv_aload_n hx hb dX4_readThing_164 rfl (lv_at hl 0 rfl) ?_
        refine lv_bipush (v := 99) hx hb dX4_readThing_165 (by decide) ?_
        refine callMi (As := [.int 99]) (wr := []) ⟨hx, hb, hml, hown, hts⟩ (mX4_readSign l T D y v0 tx len hlen hch i (by omega) f1v0 99) (cwV 1 hts gX4_readThing_X4_readSign rfl rfl rfl pdX4_readSign ⟨Nat.le_of_ble_eq_true rfl, Nat.le_of_ble_eq_true rfl⟩) hP hD hK hS hA xN_bl (fun U _ hW => XN_warm hW hX) (ci := 4) rfl rfl rfl hl.1 rfl rfl (Nat.le_of_ble_eq_true rfl) dX4_readThing_167 ⟨Nat.zero_le _, Nat.zero_le _⟩ (fun r61_ u62_ H locs eu62_ hP hD hS hkf => ?_)
        obtain ⟨u0, rfl⟩ : ∃ z, z = u62_ := ⟨_, rfl⟩
        obtain ⟨-, rfl, qu0⟩ := eu62_.resolve_right (fun z => z.1 ech.symm)
        have f1u0 : u0 1 = nI (i + 1) := by rw [qu0]; rfl
        have f0u0 : u0 0 = w 0 := by rw [qu0]; exact f0v0
        have f2u0 : u0 2 = nI 0 := by rw [qu0]; exact f2v0
        have f3u0 : u0 3 = nI 0 := by rw [qu0]; exact f3v0
        have hP : va_P D vwCl [((y 0), .inr (4, [.ref (y 4), .ref (y 1), .ref (y 2), .ref (y 3), .int (u0 0), .int (u0 1), .int (u0 2), .int (u0 3)])), ((y 4), .inr (3, [.ref (y 5), .int (nI len)])), ((y 5), .inl (T 2, 60, .inl (tx)))] H := hP
        have hD : va_D A [((y 0), .inr (4, [.ref (y 4), .ref (y 1), .ref (y 2), .ref (y 3), .int (u0 0), .int (u0 1), .int (u0 2), .int (u0 3)])), ((y 4), .inr (3, [.ref (y 5), .int (nI len)])), ((y 5), .inl (T 2, 60, .inl (tx)))] := hD
        refine lv_if_eq (tgt := 191) hx hb dX4_readThing_170 (by decide) (fun c170 => ?_) (fun c170 => ?_)
        · skip
          exact absurd c170 (by decide)
        · skip
          refine lv_aload_n hx hb dX4_readThing_173 rfl (lv_at hl 0 rfl) ?_
          refine callMi (As := []) (wr := []) ⟨hx, hb, hml, hown, hts⟩ (mX4_readPair l T D y u0 tx len hlen hch (i + 1) (by omega) f1u0) (cwV 0 hts gX4_readThing_X4_readPair rfl rfl rfl pdX4_readPair ⟨Nat.le_of_ble_eq_true rfl, Nat.le_of_ble_eq_true rfl⟩) hP hD hK hS hA xN_bl (fun U _ hW => XN_warm hW hX) (ci := 4) rfl rfl rfl hl.1 rfl rfl (Nat.le_of_ble_eq_true rfl) dX4_readThing_174 ⟨Nat.zero_le _, Nat.zero_le _⟩ (fun r63_ u64_ H locs eu64_ hP hD hS hkf => ?_)
          obtain ⟨u1, rfl⟩ : ∃ z, z = u64_ := ⟨_, rfl⟩
          obtain ⟨-, rfl, qu1⟩ := eu64_.resolve_right (fun z => z.1 y1)
          have f1u1 : u1 1 = nI (i + 2) := by rw [qu1]; rfl
          have f0u1 : u1 0 = w 0 := by rw [qu1]; exact f0u0
          have f2u1 : u1 2 = nI (dg (tch tx len (i + 1))) := by rw [qu1]; rfl
          have f3u1 : u1 3 = nI 0 := by rw [qu1]; exact f3u0
          have hP : va_P D vwCl [((y 0), .inr (4, [.ref (y 4), .ref (y 1), .ref (y 2), .ref (y 3), .int (u1 0), .int (u1 1), .int (u1 2), .int (u1 3)])), ((y 4), .inr (3, [.ref (y 5), .int (nI len)])), ((y 5), .inl (T 2, 60, .inl (tx)))] H := hP
          have hD : va_D A [((y 0), .inr (4, [.ref (y 4), .ref (y 1), .ref (y 2), .ref (y 3), .int (u1 0), .int (u1 1), .int (u1 2), .int (u1 3)])), ((y 4), .inr (3, [.ref (y 5), .int (nI len)])), ((y 5), .inl (T 2, 60, .inl (tx)))] := hD
          refine lv_if_eq (tgt := 191) hx hb dX4_readThing_177 (by decide) (fun c177 => ?_) (fun c177 => ?_)
          · skip
            exact absurd c177 (by decide)
          · skip
            refine lv_aload_n hx hb dX4_readThing_180 rfl (lv_at hl 0 rfl) ?_
            refine callMi (As := []) (wr := []) ⟨hx, hb, hml, hown, hts⟩ (mX4_readOther l T D y u1 tx len hlen hch (i + 2) (by omega) f1u1) (cwV 0 hts gX4_readThing_X4_readOther rfl rfl rfl pdX4_readOther ⟨Nat.le_of_ble_eq_true rfl, Nat.le_of_ble_eq_true rfl⟩) hP hD hK hS hA xN_bl (fun U _ hW => XN_warm hW hX) (ci := 4) rfl rfl rfl hl.1 rfl rfl (Nat.le_of_ble_eq_true rfl) dX4_readThing_181 ⟨Nat.zero_le _, Nat.zero_le _⟩ (fun r65_ u66_ H locs eu66_ hP hD hS hkf => ?_)
            obtain ⟨u2, rfl⟩ : ∃ z, z = u66_ := ⟨_, rfl⟩
            obtain ⟨-, rfl, qu2⟩ := eu66_.resolve_right (fun z => z.1 y2)
            have f1u2 : u2 1 = nI (i + 3) := by rw [qu2]; rfl
            have f0u2 : u2 0 = w 0 := by rw [qu2]; exact f0u1
            have f2u2 : u2 2 = nI (dg (tch tx len (i + 1))) := by rw [qu2]; exact f2u1
            have f3u2 : u2 3 = nI (dg (tch tx len (i + 2))) := by rw [qu2]; rfl
            have hP : va_P D vwCl [((y 0), .inr (4, [.ref (y 4), .ref (y 1), .ref (y 2), .ref (y 3), .int (u2 0), .int (u2 1), .int (u2 2), .int (u2 3)])), ((y 4), .inr (3, [.ref (y 5), .int (nI len)])), ((y 5), .inl (T 2, 60, .inl (tx)))] H := hP
            have hD : va_D A [((y 0), .inr (4, [.ref (y 4), .ref (y 1), .ref (y 2), .ref (y 3), .int (u2 0), .int (u2 1), .int (u2 2), .int (u2 3)])), ((y 4), .inr (3, [.ref (y 5), .int (nI len)])), ((y 5), .inl (T 2, 60, .inl (tx)))] := hD
            refine lv_if_eq (tgt := 191) hx hb dX4_readThing_184 (by decide) (fun c184 => ?_) (fun c184 => ?_)
            · skip
              exact absurd c184 (by decide)
            · skip
              refine lv_iconst (v := 1) hx hb dX4_readThing_187 (by decide) ?_
              refine lv_goto (tgt := 192) hx hb dX4_readThing_188 (by decide) ?_
              have hL := th_c1 (c := tch tx len) (i := i) ech.symm y1 y2
              have hC := cA_n (c := tch tx len) (i := i) (by rw [← ech]; decide)
              exact hret _ _ _ u2 _ _ dX4_readThing_192 hS hP hD (Or.inl ⟨hL.1, rfl, f0u2, by rw [hL.2.2.2]; exact f1u2, by rw [hC.1, hL.2.1]; exact f2u2, by rw [hC.2, hL.2.2.1]; exact f3u2⟩)
      · skip
        refine lv_aload_n hx hb dX4_readThing_0 rfl (lv_at hl 0 rfl) ?_
        refine lv_iconst (v := nI 0) hx hb dX4_readThing_1 (by decide) ?_
        refine va_put (D := D) (ci := 4) (v := .int (nI 0)) (C := RX4) (T := TX4) (N := 8) hx hb hts inwX4_readThing_X4 tyX4 tyX4_ok nmX4 hown hK hP hD hS 0 rfl rfl 6 (by decide) (hts (.fieldLink RX4 46 "PlateSlabs$Trial" "pair" "I") (List.mem_of_getElem? (i := 1) rfl)) (fun _ h9 => h9) rfl (tyX4_ok 6 (by decide)) (rfl) (rfl) (Nat.le_of_ble_eq_true rfl) dX4_readThing_2 (fun H locs hP hD hS => ?_)
        have hP : va_P D vwCl [((y 0), .inr (4, [.ref (y 4), .ref (y 1), .ref (y 2), .ref (y 3), .int (w 0), .int (w 1), .int (nI 0), .int (w 3)])), ((y 4), .inr (3, [.ref (y 5), .int (nI len)])), ((y 5), .inl (T 2, 60, .inl (tx)))] H := hP
        have hD : va_D A [((y 0), .inr (4, [.ref (y 4), .ref (y 1), .ref (y 2), .ref (y 3), .int (w 0), .int (w 1), .int (nI 0), .int (w 3)])), ((y 4), .inr (3, [.ref (y 5), .int (nI len)])), ((y 5), .inl (T 2, 60, .inl (tx)))] := hD
        refine lv_aload_n hx hb dX4_readThing_5 rfl (lv_at hl 0 rfl) ?_
        refine lv_iconst (v := nI 0) hx hb dX4_readThing_6 (by decide) ?_
        refine va_put (D := D) (ci := 4) (v := .int (nI 0)) (C := RX4) (T := TX4) (N := 8) hx hb hts inwX4_readThing_X4 tyX4 tyX4_ok nmX4 hown hK hP hD hS 0 rfl rfl 7 (by decide) (hts (.fieldLink RX4 49 "PlateSlabs$Trial" "value" "I") (List.mem_of_getElem? (i := 2) rfl)) (fun _ h9 => h9) rfl (tyX4_ok 7 (by decide)) (rfl) (rfl) (Nat.le_of_ble_eq_true rfl) dX4_readThing_7 (fun H locs hP hD hS => ?_)
        have hP : va_P D vwCl [((y 0), .inr (4, [.ref (y 4), .ref (y 1), .ref (y 2), .ref (y 3), .int (w 0), .int (w 1), .int (nI 0), .int (nI 0)])), ((y 4), .inr (3, [.ref (y 5), .int (nI len)])), ((y 5), .inl (T 2, 60, .inl (tx)))] H := hP
        have hD : va_D A [((y 0), .inr (4, [.ref (y 4), .ref (y 1), .ref (y 2), .ref (y 3), .int (w 0), .int (w 1), .int (nI 0), .int (nI 0)])), ((y 4), .inr (3, [.ref (y 5), .int (nI len)])), ((y 5), .inl (T 2, 60, .inl (tx)))] := hD
        refine lv_iload_n hx hb dX4_readThing_10 rfl (lv_at hl 1 rfl) ?_
        obtain ⟨v0, ev0⟩ : ∃ z, z = upd (upd w 2 (nI 0)) 3 (nI 0) := ⟨_, rfl⟩
        have hP : va_P D vwCl [((y 0), .inr (4, [.ref (y 4), .ref (y 1), .ref (y 2), .ref (y 3), .int (v0 0), .int (v0 1), .int (v0 2), .int (v0 3)])), ((y 4), .inr (3, [.ref (y 5), .int (nI len)])), ((y 5), .inl (T 2, 60, .inl (tx)))] H := by rw [ev0]; exact hP
        have hD : va_D A [((y 0), .inr (4, [.ref (y 4), .ref (y 1), .ref (y 2), .ref (y 3), .int (v0 0), .int (v0 1), .int (v0 2), .int (v0 3)])), ((y 4), .inr (3, [.ref (y 5), .int (nI len)])), ((y 5), .inl (T 2, 60, .inl (tx)))] := by rw [ev0]; exact hD
        have f0v0 : v0 0 = w 0 := by rw [ev0]; rfl
        have f1v0 : v0 1 = nI i := by rw [ev0]; exact h1
        have f2v0 : v0 2 = nI 0 := by rw [ev0]; rfl
        have f3v0 : v0 3 = nI 0 := by rw [ev0]; rfl
        have hP : va_P D vwCl [((y 0), .inr (4, [.ref (y 4), .ref (y 1), .ref (y 2), .ref (y 3), .int (v0 0), .int (v0 1), .int (v0 2), .int (v0 3)])), ((y 4), .inr (3, [.ref (y 5), .int (nI len)])), ((y 5), .inl (T 2, 60, .inl (tx)))] H := hP
        have hD : va_D A [((y 0), .inr (4, [.ref (y 4), .ref (y 1), .ref (y 2), .ref (y 3), .int (v0 0), .int (v0 1), .int (v0 2), .int (v0 3)])), ((y 4), .inr (3, [.ref (y 5), .int (nI len)])), ((y 5), .inl (T 2, 60, .inl (tx)))] := hD
        refine lv_lookup (off := 153) (tgt := 164) hx hb dX4_readThing_11 (by decide) (by decide) (by decide) ?_
        refine lv_aload_n hx hb dX4_readThing_164 rfl (lv_at hl 0 rfl) ?_
        refine lv_bipush (v := 99) hx hb dX4_readThing_165 (by decide) ?_
        refine callMi (As := [.int 99]) (wr := []) ⟨hx, hb, hml, hown, hts⟩ (mX4_readSign l T D y v0 tx len hlen hch i (by omega) f1v0 99) (cwV 1 hts gX4_readThing_X4_readSign rfl rfl rfl pdX4_readSign ⟨Nat.le_of_ble_eq_true rfl, Nat.le_of_ble_eq_true rfl⟩) hP hD hK hS hA xN_bl (fun U _ hW => XN_warm hW hX) (ci := 4) rfl rfl rfl hl.1 rfl rfl (Nat.le_of_ble_eq_true rfl) dX4_readThing_167 ⟨Nat.zero_le _, Nat.zero_le _⟩ (fun r67_ u68_ H locs eu68_ hP hD hS hkf => ?_)
        obtain ⟨u0, rfl⟩ : ∃ z, z = u68_ := ⟨_, rfl⟩
        obtain ⟨-, rfl, qu0⟩ := eu68_.resolve_right (fun z => z.1 ech.symm)
        have f1u0 : u0 1 = nI (i + 1) := by rw [qu0]; rfl
        have f0u0 : u0 0 = w 0 := by rw [qu0]; exact f0v0
        have f2u0 : u0 2 = nI 0 := by rw [qu0]; exact f2v0
        have f3u0 : u0 3 = nI 0 := by rw [qu0]; exact f3v0
        have hP : va_P D vwCl [((y 0), .inr (4, [.ref (y 4), .ref (y 1), .ref (y 2), .ref (y 3), .int (u0 0), .int (u0 1), .int (u0 2), .int (u0 3)])), ((y 4), .inr (3, [.ref (y 5), .int (nI len)])), ((y 5), .inl (T 2, 60, .inl (tx)))] H := hP
        have hD : va_D A [((y 0), .inr (4, [.ref (y 4), .ref (y 1), .ref (y 2), .ref (y 3), .int (u0 0), .int (u0 1), .int (u0 2), .int (u0 3)])), ((y 4), .inr (3, [.ref (y 5), .int (nI len)])), ((y 5), .inl (T 2, 60, .inl (tx)))] := hD
        refine lv_if_eq (tgt := 191) hx hb dX4_readThing_170 (by decide) (fun c170 => ?_) (fun c170 => ?_)
        · skip
          exact absurd c170 (by decide)
        · skip
          refine lv_aload_n hx hb dX4_readThing_173 rfl (lv_at hl 0 rfl) ?_
          refine callMi (As := []) (wr := []) ⟨hx, hb, hml, hown, hts⟩ (mX4_readPair l T D y u0 tx len hlen hch (i + 1) (by omega) f1u0) (cwV 0 hts gX4_readThing_X4_readPair rfl rfl rfl pdX4_readPair ⟨Nat.le_of_ble_eq_true rfl, Nat.le_of_ble_eq_true rfl⟩) hP hD hK hS hA xN_bl (fun U _ hW => XN_warm hW hX) (ci := 4) rfl rfl rfl hl.1 rfl rfl (Nat.le_of_ble_eq_true rfl) dX4_readThing_174 ⟨Nat.zero_le _, Nat.zero_le _⟩ (fun r69_ u70_ H locs eu70_ hP hD hS hkf => ?_)
          obtain ⟨u1, rfl⟩ : ∃ z, z = u70_ := ⟨_, rfl⟩
          obtain ⟨-, rfl, qu1⟩ := eu70_.resolve_right (fun z => z.1 y1)
          have f1u1 : u1 1 = nI (i + 2) := by rw [qu1]; rfl
          have f0u1 : u1 0 = w 0 := by rw [qu1]; exact f0u0
          have f2u1 : u1 2 = nI (dg (tch tx len (i + 1))) := by rw [qu1]; rfl
          have f3u1 : u1 3 = nI 0 := by rw [qu1]; exact f3u0
          have hP : va_P D vwCl [((y 0), .inr (4, [.ref (y 4), .ref (y 1), .ref (y 2), .ref (y 3), .int (u1 0), .int (u1 1), .int (u1 2), .int (u1 3)])), ((y 4), .inr (3, [.ref (y 5), .int (nI len)])), ((y 5), .inl (T 2, 60, .inl (tx)))] H := hP
          have hD : va_D A [((y 0), .inr (4, [.ref (y 4), .ref (y 1), .ref (y 2), .ref (y 3), .int (u1 0), .int (u1 1), .int (u1 2), .int (u1 3)])), ((y 4), .inr (3, [.ref (y 5), .int (nI len)])), ((y 5), .inl (T 2, 60, .inl (tx)))] := hD
          refine lv_if_eq (tgt := 191) hx hb dX4_readThing_177 (by decide) (fun c177 => ?_) (fun c177 => ?_)
          · skip
            exact absurd c177 (by decide)
          · skip
            refine lv_aload_n hx hb dX4_readThing_180 rfl (lv_at hl 0 rfl) ?_
            refine callMi (As := []) (wr := []) ⟨hx, hb, hml, hown, hts⟩ (mX4_readOther l T D y u1 tx len hlen hch (i + 2) (by omega) f1u1) (cwV 0 hts gX4_readThing_X4_readOther rfl rfl rfl pdX4_readOther ⟨Nat.le_of_ble_eq_true rfl, Nat.le_of_ble_eq_true rfl⟩) hP hD hK hS hA xN_bl (fun U _ hW => XN_warm hW hX) (ci := 4) rfl rfl rfl hl.1 rfl rfl (Nat.le_of_ble_eq_true rfl) dX4_readThing_181 ⟨Nat.zero_le _, Nat.zero_le _⟩ (fun r71_ u72_ H locs eu72_ hP hD hS hkf => ?_)
            obtain ⟨u2, rfl⟩ : ∃ z, z = u72_ := ⟨_, rfl⟩
            obtain ⟨-, rfl, x9, qu2⟩ := eu72_.resolve_left (fun z => y2 z.1)
            have f0u2 : u2 0 = w 0 := by rw [qu2]; exact f0u1
            have f1u2 : u2 1 = nI (i + 2) := by rw [qu2]; exact f1u1
            have hP : va_P D vwCl [((y 0), .inr (4, [.ref (y 4), .ref (y 1), .ref (y 2), .ref (y 3), .int (u2 0), .int (u2 1), .int (u2 2), .int (u2 3)])), ((y 4), .inr (3, [.ref (y 5), .int (nI len)])), ((y 5), .inl (T 2, 60, .inl (tx)))] H := hP
            have hD : va_D A [((y 0), .inr (4, [.ref (y 4), .ref (y 1), .ref (y 2), .ref (y 3), .int (u2 0), .int (u2 1), .int (u2 2), .int (u2 3)])), ((y 4), .inr (3, [.ref (y 5), .int (nI len)])), ((y 5), .inl (T 2, 60, .inl (tx)))] := hD
            refine lv_if_eq (tgt := 191) hx hb dX4_readThing_184 (by decide) (fun c184 => ?_) (fun c184 => ?_)
            · skip
              refine lv_iconst (v := 0) hx hb dX4_readThing_191 (by decide) ?_
              have hL := th_c01 (c := tch tx len) (i := i) ech.symm y1 y2
              exact hret _ _ _ u2 _ _ dX4_readThing_192 hS hP hD (Or.inr ⟨hL.1, rfl, f0u2, by rw [hL.2]; exact f1u2⟩)
            · skip
              exact absurd rfl c184
    · skip
      refine lv_aload_n hx hb dX4_readThing_0 rfl (lv_at hl 0 rfl) ?_
      refine lv_iconst (v := nI 0) hx hb dX4_readThing_1 (by decide) ?_
      refine va_put (D := D) (ci := 4) (v := .int (nI 0)) (C := RX4) (T := TX4) (N := 8) hx hb hts inwX4_readThing_X4 tyX4 tyX4_ok nmX4 hown hK hP hD hS 0 rfl rfl 6 (by decide) (hts (.fieldLink RX4 46 "PlateSlabs$Trial" "pair" "I") (List.mem_of_getElem? (i := 1) rfl)) (fun _ h9 => h9) rfl (tyX4_ok 6 (by decide)) (rfl) (rfl) (Nat.le_of_ble_eq_true rfl) dX4_readThing_2 (fun H locs hP hD hS => ?_)
      have hP : va_P D vwCl [((y 0), .inr (4, [.ref (y 4), .ref (y 1), .ref (y 2), .ref (y 3), .int (w 0), .int (w 1), .int (nI 0), .int (w 3)])), ((y 4), .inr (3, [.ref (y 5), .int (nI len)])), ((y 5), .inl (T 2, 60, .inl (tx)))] H := hP
      have hD : va_D A [((y 0), .inr (4, [.ref (y 4), .ref (y 1), .ref (y 2), .ref (y 3), .int (w 0), .int (w 1), .int (nI 0), .int (w 3)])), ((y 4), .inr (3, [.ref (y 5), .int (nI len)])), ((y 5), .inl (T 2, 60, .inl (tx)))] := hD
      refine lv_aload_n hx hb dX4_readThing_5 rfl (lv_at hl 0 rfl) ?_
      refine lv_iconst (v := nI 0) hx hb dX4_readThing_6 (by decide) ?_
      refine va_put (D := D) (ci := 4) (v := .int (nI 0)) (C := RX4) (T := TX4) (N := 8) hx hb hts inwX4_readThing_X4 tyX4 tyX4_ok nmX4 hown hK hP hD hS 0 rfl rfl 7 (by decide) (hts (.fieldLink RX4 49 "PlateSlabs$Trial" "value" "I") (List.mem_of_getElem? (i := 2) rfl)) (fun _ h9 => h9) rfl (tyX4_ok 7 (by decide)) (rfl) (rfl) (Nat.le_of_ble_eq_true rfl) dX4_readThing_7 (fun H locs hP hD hS => ?_)
      have hP : va_P D vwCl [((y 0), .inr (4, [.ref (y 4), .ref (y 1), .ref (y 2), .ref (y 3), .int (w 0), .int (w 1), .int (nI 0), .int (nI 0)])), ((y 4), .inr (3, [.ref (y 5), .int (nI len)])), ((y 5), .inl (T 2, 60, .inl (tx)))] H := hP
      have hD : va_D A [((y 0), .inr (4, [.ref (y 4), .ref (y 1), .ref (y 2), .ref (y 3), .int (w 0), .int (w 1), .int (nI 0), .int (nI 0)])), ((y 4), .inr (3, [.ref (y 5), .int (nI len)])), ((y 5), .inl (T 2, 60, .inl (tx)))] := hD
      refine lv_iload_n hx hb dX4_readThing_10 rfl (lv_at hl 1 rfl) ?_
      obtain ⟨v0, ev0⟩ : ∃ z, z = upd (upd w 2 (nI 0)) 3 (nI 0) := ⟨_, rfl⟩
      have hP : va_P D vwCl [((y 0), .inr (4, [.ref (y 4), .ref (y 1), .ref (y 2), .ref (y 3), .int (v0 0), .int (v0 1), .int (v0 2), .int (v0 3)])), ((y 4), .inr (3, [.ref (y 5), .int (nI len)])), ((y 5), .inl (T 2, 60, .inl (tx)))] H := by rw [ev0]; exact hP
      have hD : va_D A [((y 0), .inr (4, [.ref (y 4), .ref (y 1), .ref (y 2), .ref (y 3), .int (v0 0), .int (v0 1), .int (v0 2), .int (v0 3)])), ((y 4), .inr (3, [.ref (y 5), .int (nI len)])), ((y 5), .inl (T 2, 60, .inl (tx)))] := by rw [ev0]; exact hD
      have f0v0 : v0 0 = w 0 := by rw [ev0]; rfl
      have f1v0 : v0 1 = nI i := by rw [ev0]; exact h1
      have f2v0 : v0 2 = nI 0 := by rw [ev0]; rfl
      have f3v0 : v0 3 = nI 0 := by rw [ev0]; rfl
      have hP : va_P D vwCl [((y 0), .inr (4, [.ref (y 4), .ref (y 1), .ref (y 2), .ref (y 3), .int (v0 0), .int (v0 1), .int (v0 2), .int (v0 3)])), ((y 4), .inr (3, [.ref (y 5), .int (nI len)])), ((y 5), .inl (T 2, 60, .inl (tx)))] H := hP
      have hD : va_D A [((y 0), .inr (4, [.ref (y 4), .ref (y 1), .ref (y 2), .ref (y 3), .int (v0 0), .int (v0 1), .int (v0 2), .int (v0 3)])), ((y 4), .inr (3, [.ref (y 5), .int (nI len)])), ((y 5), .inl (T 2, 60, .inl (tx)))] := hD
      refine lv_lookup (off := 153) (tgt := 164) hx hb dX4_readThing_11 (by decide) (by decide) (by decide) ?_
      refine lv_aload_n hx hb dX4_readThing_164 rfl (lv_at hl 0 rfl) ?_
      refine lv_bipush (v := 99) hx hb dX4_readThing_165 (by decide) ?_
      refine callMi (As := [.int 99]) (wr := []) ⟨hx, hb, hml, hown, hts⟩ (mX4_readSign l T D y v0 tx len hlen hch i (by omega) f1v0 99) (cwV 1 hts gX4_readThing_X4_readSign rfl rfl rfl pdX4_readSign ⟨Nat.le_of_ble_eq_true rfl, Nat.le_of_ble_eq_true rfl⟩) hP hD hK hS hA xN_bl (fun U _ hW => XN_warm hW hX) (ci := 4) rfl rfl rfl hl.1 rfl rfl (Nat.le_of_ble_eq_true rfl) dX4_readThing_167 ⟨Nat.zero_le _, Nat.zero_le _⟩ (fun r73_ u74_ H locs eu74_ hP hD hS hkf => ?_)
      obtain ⟨u0, rfl⟩ : ∃ z, z = u74_ := ⟨_, rfl⟩
      obtain ⟨-, rfl, qu0⟩ := eu74_.resolve_right (fun z => z.1 ech.symm)
      have f1u0 : u0 1 = nI (i + 1) := by rw [qu0]; rfl
      have f0u0 : u0 0 = w 0 := by rw [qu0]; exact f0v0
      have f2u0 : u0 2 = nI 0 := by rw [qu0]; exact f2v0
      have f3u0 : u0 3 = nI 0 := by rw [qu0]; exact f3v0
      have hP : va_P D vwCl [((y 0), .inr (4, [.ref (y 4), .ref (y 1), .ref (y 2), .ref (y 3), .int (u0 0), .int (u0 1), .int (u0 2), .int (u0 3)])), ((y 4), .inr (3, [.ref (y 5), .int (nI len)])), ((y 5), .inl (T 2, 60, .inl (tx)))] H := hP
      have hD : va_D A [((y 0), .inr (4, [.ref (y 4), .ref (y 1), .ref (y 2), .ref (y 3), .int (u0 0), .int (u0 1), .int (u0 2), .int (u0 3)])), ((y 4), .inr (3, [.ref (y 5), .int (nI len)])), ((y 5), .inl (T 2, 60, .inl (tx)))] := hD
      refine lv_if_eq (tgt := 191) hx hb dX4_readThing_170 (by decide) (fun c170 => ?_) (fun c170 => ?_)
      · skip
        exact absurd c170 (by decide)
      · skip
        refine lv_aload_n hx hb dX4_readThing_173 rfl (lv_at hl 0 rfl) ?_
        refine callMi (As := []) (wr := []) ⟨hx, hb, hml, hown, hts⟩ (mX4_readPair l T D y u0 tx len hlen hch (i + 1) (by omega) f1u0) (cwV 0 hts gX4_readThing_X4_readPair rfl rfl rfl pdX4_readPair ⟨Nat.le_of_ble_eq_true rfl, Nat.le_of_ble_eq_true rfl⟩) hP hD hK hS hA xN_bl (fun U _ hW => XN_warm hW hX) (ci := 4) rfl rfl rfl hl.1 rfl rfl (Nat.le_of_ble_eq_true rfl) dX4_readThing_174 ⟨Nat.zero_le _, Nat.zero_le _⟩ (fun r75_ u76_ H locs eu76_ hP hD hS hkf => ?_)
        obtain ⟨u1, rfl⟩ : ∃ z, z = u76_ := ⟨_, rfl⟩
        obtain ⟨-, rfl, x9, qu1⟩ := eu76_.resolve_left (fun z => y1 z.1)
        have f0u1 : u1 0 = w 0 := by rw [qu1]; exact f0u0
        have f1u1 : u1 1 = nI (i + 1) := by rw [qu1]; exact f1u0
        have hP : va_P D vwCl [((y 0), .inr (4, [.ref (y 4), .ref (y 1), .ref (y 2), .ref (y 3), .int (u1 0), .int (u1 1), .int (u1 2), .int (u1 3)])), ((y 4), .inr (3, [.ref (y 5), .int (nI len)])), ((y 5), .inl (T 2, 60, .inl (tx)))] H := hP
        have hD : va_D A [((y 0), .inr (4, [.ref (y 4), .ref (y 1), .ref (y 2), .ref (y 3), .int (u1 0), .int (u1 1), .int (u1 2), .int (u1 3)])), ((y 4), .inr (3, [.ref (y 5), .int (nI len)])), ((y 5), .inl (T 2, 60, .inl (tx)))] := hD
        refine lv_if_eq (tgt := 191) hx hb dX4_readThing_177 (by decide) (fun c177 => ?_) (fun c177 => ?_)
        · skip
          refine lv_iconst (v := 0) hx hb dX4_readThing_191 (by decide) ?_
          have hL := th_c0 (c := tch tx len) (i := i) ech.symm y1
          exact hret _ _ _ u1 _ _ dX4_readThing_192 hS hP hD (Or.inr ⟨hL.1, rfl, f0u1, by rw [hL.2]; exact f1u1⟩)
        · skip
          exact absurd rfl c177
  · skip
    subst hZ
    have hi1 : i + 1 ≤ len := tch_pos1 (c := 46) (by decide) (by rw [← ech]; exact Int32.le_refl _)
    by_cases y1 : nOk (tch tx len) (i + 1) 1
    · skip
      refine lv_aload_n hx hb dX4_readThing_0 rfl (lv_at hl 0 rfl) ?_
      refine lv_iconst (v := nI 0) hx hb dX4_readThing_1 (by decide) ?_
      refine va_put (D := D) (ci := 4) (v := .int (nI 0)) (C := RX4) (T := TX4) (N := 8) hx hb hts inwX4_readThing_X4 tyX4 tyX4_ok nmX4 hown hK hP hD hS 0 rfl rfl 6 (by decide) (hts (.fieldLink RX4 46 "PlateSlabs$Trial" "pair" "I") (List.mem_of_getElem? (i := 1) rfl)) (fun _ h9 => h9) rfl (tyX4_ok 6 (by decide)) (rfl) (rfl) (Nat.le_of_ble_eq_true rfl) dX4_readThing_2 (fun H locs hP hD hS => ?_)
      have hP : va_P D vwCl [((y 0), .inr (4, [.ref (y 4), .ref (y 1), .ref (y 2), .ref (y 3), .int (w 0), .int (w 1), .int (nI 0), .int (w 3)])), ((y 4), .inr (3, [.ref (y 5), .int (nI len)])), ((y 5), .inl (T 2, 60, .inl (tx)))] H := hP
      have hD : va_D A [((y 0), .inr (4, [.ref (y 4), .ref (y 1), .ref (y 2), .ref (y 3), .int (w 0), .int (w 1), .int (nI 0), .int (w 3)])), ((y 4), .inr (3, [.ref (y 5), .int (nI len)])), ((y 5), .inl (T 2, 60, .inl (tx)))] := hD
      refine lv_aload_n hx hb dX4_readThing_5 rfl (lv_at hl 0 rfl) ?_
      refine lv_iconst (v := nI 0) hx hb dX4_readThing_6 (by decide) ?_
      refine va_put (D := D) (ci := 4) (v := .int (nI 0)) (C := RX4) (T := TX4) (N := 8) hx hb hts inwX4_readThing_X4 tyX4 tyX4_ok nmX4 hown hK hP hD hS 0 rfl rfl 7 (by decide) (hts (.fieldLink RX4 49 "PlateSlabs$Trial" "value" "I") (List.mem_of_getElem? (i := 2) rfl)) (fun _ h9 => h9) rfl (tyX4_ok 7 (by decide)) (rfl) (rfl) (Nat.le_of_ble_eq_true rfl) dX4_readThing_7 (fun H locs hP hD hS => ?_)
      have hP : va_P D vwCl [((y 0), .inr (4, [.ref (y 4), .ref (y 1), .ref (y 2), .ref (y 3), .int (w 0), .int (w 1), .int (nI 0), .int (nI 0)])), ((y 4), .inr (3, [.ref (y 5), .int (nI len)])), ((y 5), .inl (T 2, 60, .inl (tx)))] H := hP
      have hD : va_D A [((y 0), .inr (4, [.ref (y 4), .ref (y 1), .ref (y 2), .ref (y 3), .int (w 0), .int (w 1), .int (nI 0), .int (nI 0)])), ((y 4), .inr (3, [.ref (y 5), .int (nI len)])), ((y 5), .inl (T 2, 60, .inl (tx)))] := hD
      refine lv_iload_n hx hb dX4_readThing_10 rfl (lv_at hl 1 rfl) ?_
      obtain ⟨v0, ev0⟩ : ∃ z, z = upd (upd w 2 (nI 0)) 3 (nI 0) := ⟨_, rfl⟩
      have hP : va_P D vwCl [((y 0), .inr (4, [.ref (y 4), .ref (y 1), .ref (y 2), .ref (y 3), .int (v0 0), .int (v0 1), .int (v0 2), .int (v0 3)])), ((y 4), .inr (3, [.ref (y 5), .int (nI len)])), ((y 5), .inl (T 2, 60, .inl (tx)))] H := by rw [ev0]; exact hP
      have hD : va_D A [((y 0), .inr (4, [.ref (y 4), .ref (y 1), .ref (y 2), .ref (y 3), .int (v0 0), .int (v0 1), .int (v0 2), .int (v0 3)])), ((y 4), .inr (3, [.ref (y 5), .int (nI len)])), ((y 5), .inl (T 2, 60, .inl (tx)))] := by rw [ev0]; exact hD
      have f0v0 : v0 0 = w 0 := by rw [ev0]; rfl
      have f1v0 : v0 1 = nI i := by rw [ev0]; exact h1
      have f2v0 : v0 2 = nI 0 := by rw [ev0]; rfl
      have f3v0 : v0 3 = nI 0 := by rw [ev0]; rfl
      have hP : va_P D vwCl [((y 0), .inr (4, [.ref (y 4), .ref (y 1), .ref (y 2), .ref (y 3), .int (v0 0), .int (v0 1), .int (v0 2), .int (v0 3)])), ((y 4), .inr (3, [.ref (y 5), .int (nI len)])), ((y 5), .inl (T 2, 60, .inl (tx)))] H := hP
      have hD : va_D A [((y 0), .inr (4, [.ref (y 4), .ref (y 1), .ref (y 2), .ref (y 3), .int (v0 0), .int (v0 1), .int (v0 2), .int (v0 3)])), ((y 4), .inr (3, [.ref (y 5), .int (nI len)])), ((y 5), .inl (T 2, 60, .inl (tx)))] := hD
      refine lv_lookup (off := 182) (tgt := 193) hx hb dX4_readThing_11 (by decide) (by decide) (by decide) ?_
      refine lv_aload_n hx hb dX4_readThing_193 rfl (lv_at hl 0 rfl) ?_
      refine lv_bipush (v := 46) hx hb dX4_readThing_194 (by decide) ?_
      refine callMi (As := [.int 46]) (wr := []) ⟨hx, hb, hml, hown, hts⟩ (mX4_readSign l T D y v0 tx len hlen hch i (by omega) f1v0 46) (cwV 1 hts gX4_readThing_X4_readSign rfl rfl rfl pdX4_readSign ⟨Nat.le_of_ble_eq_true rfl, Nat.le_of_ble_eq_true rfl⟩) hP hD hK hS hA xN_bl (fun U _ hW => XN_warm hW hX) (ci := 4) rfl rfl rfl hl.1 rfl rfl (Nat.le_of_ble_eq_true rfl) dX4_readThing_196 ⟨Nat.zero_le _, Nat.zero_le _⟩ (fun r77_ u78_ H locs eu78_ hP hD hS hkf => ?_)
      obtain ⟨u0, rfl⟩ : ∃ z, z = u78_ := ⟨_, rfl⟩
      obtain ⟨-, rfl, qu0⟩ := eu78_.resolve_right (fun z => z.1 ech.symm)
      have f1u0 : u0 1 = nI (i + 1) := by rw [qu0]; rfl
      have f0u0 : u0 0 = w 0 := by rw [qu0]; exact f0v0
      have f2u0 : u0 2 = nI 0 := by rw [qu0]; exact f2v0
      have f3u0 : u0 3 = nI 0 := by rw [qu0]; exact f3v0
      have hP : va_P D vwCl [((y 0), .inr (4, [.ref (y 4), .ref (y 1), .ref (y 2), .ref (y 3), .int (u0 0), .int (u0 1), .int (u0 2), .int (u0 3)])), ((y 4), .inr (3, [.ref (y 5), .int (nI len)])), ((y 5), .inl (T 2, 60, .inl (tx)))] H := hP
      have hD : va_D A [((y 0), .inr (4, [.ref (y 4), .ref (y 1), .ref (y 2), .ref (y 3), .int (u0 0), .int (u0 1), .int (u0 2), .int (u0 3)])), ((y 4), .inr (3, [.ref (y 5), .int (nI len)])), ((y 5), .inl (T 2, 60, .inl (tx)))] := hD
      refine lv_if_eq (tgt := 216) hx hb dX4_readThing_199 (by decide) (fun c199 => ?_) (fun c199 => ?_)
      · skip
        exact absurd c199 (by decide)
      · skip
        refine lv_aload_n hx hb dX4_readThing_202 rfl (lv_at hl 0 rfl) ?_
        refine lv_iconst (v := 1) hx hb dX4_readThing_203 (by decide) ?_
        refine lv_bipush (v := 99) hx hb dX4_readThing_204 (by decide) ?_
        refine callMi (As := [.int (nI 1), .int (nI 99)]) (wr := []) ⟨hx, hb, hml, hown, hts⟩ (mX4_readNumber l T D y u0 tx len hlen hch (i + 1) (by omega) f1u0 1 99 (by decide) (by decide)) (cwV 2 hts gX4_readThing_X4_readNumber rfl rfl rfl pdX4_readNumber ⟨Nat.le_of_ble_eq_true rfl, Nat.le_of_ble_eq_true rfl⟩) hP hD hK hS hA xN_bl (fun U _ hW => XN_warm hW hX) (ci := 4) rfl rfl rfl hl.1 rfl rfl (Nat.le_of_ble_eq_true rfl) dX4_readThing_206 ⟨Nat.zero_le _, Nat.zero_le _⟩ (fun r79_ u80_ H locs eu80_ hP hD hS hkf => ?_)
        obtain ⟨u1, rfl⟩ : ∃ z, z = u80_ := ⟨_, rfl⟩
        obtain ⟨-, rfl, q0, q2, q3, q1⟩ := eu80_.resolve_right (fun z => z.1 y1)
        have f0u1 : u1 0 = w 0 := q0.trans f0u0
        have f2u1 : u1 2 = nI 0 := q2.trans f2u0
        have hP : va_P D vwCl [((y 0), .inr (4, [.ref (y 4), .ref (y 1), .ref (y 2), .ref (y 3), .int (u1 0), .int (u1 1), .int (u1 2), .int (u1 3)])), ((y 4), .inr (3, [.ref (y 5), .int (nI len)])), ((y 5), .inl (T 2, 60, .inl (tx)))] H := hP
        have hD : va_D A [((y 0), .inr (4, [.ref (y 4), .ref (y 1), .ref (y 2), .ref (y 3), .int (u1 0), .int (u1 1), .int (u1 2), .int (u1 3)])), ((y 4), .inr (3, [.ref (y 5), .int (nI len)])), ((y 5), .inl (T 2, 60, .inl (tx)))] := hD
        refine lv_if_eq (tgt := 216) hx hb dX4_readThing_209 (by decide) (fun c209 => ?_) (fun c209 => ?_)
        · skip
          exact absurd c209 (by decide)
        · skip
          refine lv_iconst (v := 1) hx hb dX4_readThing_212 (by decide) ?_
          refine lv_goto (tgt := 217) hx hb dX4_readThing_213 (by decide) ?_
          have hL := th_n1 (c := tch tx len) (i := i) ech.symm y1
          have hC := cA_46 (c := tch tx len) (i := i) ech.symm
          exact hret _ _ _ u1 _ _ dX4_readThing_217 hS hP hD (Or.inl ⟨hL.1, rfl, f0u1, by rw [hL.2.2.2]; exact q1, by rw [hC.1]; exact f2u1, by rw [hC.2, hL.2.1]; exact q3⟩)
    · skip
      refine lv_aload_n hx hb dX4_readThing_0 rfl (lv_at hl 0 rfl) ?_
      refine lv_iconst (v := nI 0) hx hb dX4_readThing_1 (by decide) ?_
      refine va_put (D := D) (ci := 4) (v := .int (nI 0)) (C := RX4) (T := TX4) (N := 8) hx hb hts inwX4_readThing_X4 tyX4 tyX4_ok nmX4 hown hK hP hD hS 0 rfl rfl 6 (by decide) (hts (.fieldLink RX4 46 "PlateSlabs$Trial" "pair" "I") (List.mem_of_getElem? (i := 1) rfl)) (fun _ h9 => h9) rfl (tyX4_ok 6 (by decide)) (rfl) (rfl) (Nat.le_of_ble_eq_true rfl) dX4_readThing_2 (fun H locs hP hD hS => ?_)
      have hP : va_P D vwCl [((y 0), .inr (4, [.ref (y 4), .ref (y 1), .ref (y 2), .ref (y 3), .int (w 0), .int (w 1), .int (nI 0), .int (w 3)])), ((y 4), .inr (3, [.ref (y 5), .int (nI len)])), ((y 5), .inl (T 2, 60, .inl (tx)))] H := hP
      have hD : va_D A [((y 0), .inr (4, [.ref (y 4), .ref (y 1), .ref (y 2), .ref (y 3), .int (w 0), .int (w 1), .int (nI 0), .int (w 3)])), ((y 4), .inr (3, [.ref (y 5), .int (nI len)])), ((y 5), .inl (T 2, 60, .inl (tx)))] := hD
      refine lv_aload_n hx hb dX4_readThing_5 rfl (lv_at hl 0 rfl) ?_
      refine lv_iconst (v := nI 0) hx hb dX4_readThing_6 (by decide) ?_
      refine va_put (D := D) (ci := 4) (v := .int (nI 0)) (C := RX4) (T := TX4) (N := 8) hx hb hts inwX4_readThing_X4 tyX4 tyX4_ok nmX4 hown hK hP hD hS 0 rfl rfl 7 (by decide) (hts (.fieldLink RX4 49 "PlateSlabs$Trial" "value" "I") (List.mem_of_getElem? (i := 2) rfl)) (fun _ h9 => h9) rfl (tyX4_ok 7 (by decide)) (rfl) (rfl) (Nat.le_of_ble_eq_true rfl) dX4_readThing_7 (fun H locs hP hD hS => ?_)
      have hP : va_P D vwCl [((y 0), .inr (4, [.ref (y 4), .ref (y 1), .ref (y 2), .ref (y 3), .int (w 0), .int (w 1), .int (nI 0), .int (nI 0)])), ((y 4), .inr (3, [.ref (y 5), .int (nI len)])), ((y 5), .inl (T 2, 60, .inl (tx)))] H := hP
      have hD : va_D A [((y 0), .inr (4, [.ref (y 4), .ref (y 1), .ref (y 2), .ref (y 3), .int (w 0), .int (w 1), .int (nI 0), .int (nI 0)])), ((y 4), .inr (3, [.ref (y 5), .int (nI len)])), ((y 5), .inl (T 2, 60, .inl (tx)))] := hD
      refine lv_iload_n hx hb dX4_readThing_10 rfl (lv_at hl 1 rfl) ?_
      obtain ⟨v0, ev0⟩ : ∃ z, z = upd (upd w 2 (nI 0)) 3 (nI 0) := ⟨_, rfl⟩
      have hP : va_P D vwCl [((y 0), .inr (4, [.ref (y 4), .ref (y 1), .ref (y 2), .ref (y 3), .int (v0 0), .int (v0 1), .int (v0 2), .int (v0 3)])), ((y 4), .inr (3, [.ref (y 5), .int (nI len)])), ((y 5), .inl (T 2, 60, .inl (tx)))] H := by rw [ev0]; exact hP
      have hD : va_D A [((y 0), .inr (4, [.ref (y 4), .ref (y 1), .ref (y 2), .ref (y 3), .int (v0 0), .int (v0 1), .int (v0 2), .int (v0 3)])), ((y 4), .inr (3, [.ref (y 5), .int (nI len)])), ((y 5), .inl (T 2, 60, .inl (tx)))] := by rw [ev0]; exact hD
      have f0v0 : v0 0 = w 0 := by rw [ev0]; rfl
      have f1v0 : v0 1 = nI i := by rw [ev0]; exact h1
      have f2v0 : v0 2 = nI 0 := by rw [ev0]; rfl
      have f3v0 : v0 3 = nI 0 := by rw [ev0]; rfl
      have hP : va_P D vwCl [((y 0), .inr (4, [.ref (y 4), .ref (y 1), .ref (y 2), .ref (y 3), .int (v0 0), .int (v0 1), .int (v0 2), .int (v0 3)])), ((y 4), .inr (3, [.ref (y 5), .int (nI len)])), ((y 5), .inl (T 2, 60, .inl (tx)))] H := hP
      have hD : va_D A [((y 0), .inr (4, [.ref (y 4), .ref (y 1), .ref (y 2), .ref (y 3), .int (v0 0), .int (v0 1), .int (v0 2), .int (v0 3)])), ((y 4), .inr (3, [.ref (y 5), .int (nI len)])), ((y 5), .inl (T 2, 60, .inl (tx)))] := hD
      refine lv_lookup (off := 182) (tgt := 193) hx hb dX4_readThing_11 (by decide) (by decide) (by decide) ?_
      refine lv_aload_n hx hb dX4_readThing_193 rfl (lv_at hl 0 rfl) ?_
      refine lv_bipush (v := 46) hx hb dX4_readThing_194 (by decide) ?_
      refine callMi (As := [.int 46]) (wr := []) ⟨hx, hb, hml, hown, hts⟩ (mX4_readSign l T D y v0 tx len hlen hch i (by omega) f1v0 46) (cwV 1 hts gX4_readThing_X4_readSign rfl rfl rfl pdX4_readSign ⟨Nat.le_of_ble_eq_true rfl, Nat.le_of_ble_eq_true rfl⟩) hP hD hK hS hA xN_bl (fun U _ hW => XN_warm hW hX) (ci := 4) rfl rfl rfl hl.1 rfl rfl (Nat.le_of_ble_eq_true rfl) dX4_readThing_196 ⟨Nat.zero_le _, Nat.zero_le _⟩ (fun r81_ u82_ H locs eu82_ hP hD hS hkf => ?_)
      obtain ⟨u0, rfl⟩ : ∃ z, z = u82_ := ⟨_, rfl⟩
      obtain ⟨-, rfl, qu0⟩ := eu82_.resolve_right (fun z => z.1 ech.symm)
      have f1u0 : u0 1 = nI (i + 1) := by rw [qu0]; rfl
      have f0u0 : u0 0 = w 0 := by rw [qu0]; exact f0v0
      have f2u0 : u0 2 = nI 0 := by rw [qu0]; exact f2v0
      have f3u0 : u0 3 = nI 0 := by rw [qu0]; exact f3v0
      have hP : va_P D vwCl [((y 0), .inr (4, [.ref (y 4), .ref (y 1), .ref (y 2), .ref (y 3), .int (u0 0), .int (u0 1), .int (u0 2), .int (u0 3)])), ((y 4), .inr (3, [.ref (y 5), .int (nI len)])), ((y 5), .inl (T 2, 60, .inl (tx)))] H := hP
      have hD : va_D A [((y 0), .inr (4, [.ref (y 4), .ref (y 1), .ref (y 2), .ref (y 3), .int (u0 0), .int (u0 1), .int (u0 2), .int (u0 3)])), ((y 4), .inr (3, [.ref (y 5), .int (nI len)])), ((y 5), .inl (T 2, 60, .inl (tx)))] := hD
      refine lv_if_eq (tgt := 216) hx hb dX4_readThing_199 (by decide) (fun c199 => ?_) (fun c199 => ?_)
      · skip
        exact absurd c199 (by decide)
      · skip
        refine lv_aload_n hx hb dX4_readThing_202 rfl (lv_at hl 0 rfl) ?_
        refine lv_iconst (v := 1) hx hb dX4_readThing_203 (by decide) ?_
        refine lv_bipush (v := 99) hx hb dX4_readThing_204 (by decide) ?_
        refine callMi (As := [.int (nI 1), .int (nI 99)]) (wr := []) ⟨hx, hb, hml, hown, hts⟩ (mX4_readNumber l T D y u0 tx len hlen hch (i + 1) (by omega) f1u0 1 99 (by decide) (by decide)) (cwV 2 hts gX4_readThing_X4_readNumber rfl rfl rfl pdX4_readNumber ⟨Nat.le_of_ble_eq_true rfl, Nat.le_of_ble_eq_true rfl⟩) hP hD hK hS hA xN_bl (fun U _ hW => XN_warm hW hX) (ci := 4) rfl rfl rfl hl.1 rfl rfl (Nat.le_of_ble_eq_true rfl) dX4_readThing_206 ⟨Nat.zero_le _, Nat.zero_le _⟩ (fun r83_ u84_ H locs eu84_ hP hD hS hkf => ?_)
        obtain ⟨u1, rfl⟩ : ∃ z, z = u84_ := ⟨_, rfl⟩
        obtain ⟨-, rfl, q0, q1⟩ := eu84_.resolve_left (fun z => y1 z.1)
        have f0u1 : u1 0 = w 0 := q0.trans f0u0
        have hP : va_P D vwCl [((y 0), .inr (4, [.ref (y 4), .ref (y 1), .ref (y 2), .ref (y 3), .int (u1 0), .int (u1 1), .int (u1 2), .int (u1 3)])), ((y 4), .inr (3, [.ref (y 5), .int (nI len)])), ((y 5), .inl (T 2, 60, .inl (tx)))] H := hP
        have hD : va_D A [((y 0), .inr (4, [.ref (y 4), .ref (y 1), .ref (y 2), .ref (y 3), .int (u1 0), .int (u1 1), .int (u1 2), .int (u1 3)])), ((y 4), .inr (3, [.ref (y 5), .int (nI len)])), ((y 5), .inl (T 2, 60, .inl (tx)))] := hD
        refine lv_if_eq (tgt := 216) hx hb dX4_readThing_209 (by decide) (fun c209 => ?_) (fun c209 => ?_)
        · skip
          refine lv_iconst (v := 0) hx hb dX4_readThing_216 (by decide) ?_
          have hL := th_n0 (c := tch tx len) (i := i) ech.symm y1
          exact hret _ _ _ u1 _ _ dX4_readThing_217 hS hP hD (Or.inr ⟨hL.1, rfl, f0u1, by rw [hL.2]; exact q1⟩)
        · skip
          exact absurd rfl c209
  · skip
    refine lv_aload_n hx hb dX4_readThing_0 rfl (lv_at hl 0 rfl) ?_
    refine lv_iconst (v := nI 0) hx hb dX4_readThing_1 (by decide) ?_
    refine va_put (D := D) (ci := 4) (v := .int (nI 0)) (C := RX4) (T := TX4) (N := 8) hx hb hts inwX4_readThing_X4 tyX4 tyX4_ok nmX4 hown hK hP hD hS 0 rfl rfl 6 (by decide) (hts (.fieldLink RX4 46 "PlateSlabs$Trial" "pair" "I") (List.mem_of_getElem? (i := 1) rfl)) (fun _ h9 => h9) rfl (tyX4_ok 6 (by decide)) (rfl) (rfl) (Nat.le_of_ble_eq_true rfl) dX4_readThing_2 (fun H locs hP hD hS => ?_)
    have hP : va_P D vwCl [((y 0), .inr (4, [.ref (y 4), .ref (y 1), .ref (y 2), .ref (y 3), .int (w 0), .int (w 1), .int (nI 0), .int (w 3)])), ((y 4), .inr (3, [.ref (y 5), .int (nI len)])), ((y 5), .inl (T 2, 60, .inl (tx)))] H := hP
    have hD : va_D A [((y 0), .inr (4, [.ref (y 4), .ref (y 1), .ref (y 2), .ref (y 3), .int (w 0), .int (w 1), .int (nI 0), .int (w 3)])), ((y 4), .inr (3, [.ref (y 5), .int (nI len)])), ((y 5), .inl (T 2, 60, .inl (tx)))] := hD
    refine lv_aload_n hx hb dX4_readThing_5 rfl (lv_at hl 0 rfl) ?_
    refine lv_iconst (v := nI 0) hx hb dX4_readThing_6 (by decide) ?_
    refine va_put (D := D) (ci := 4) (v := .int (nI 0)) (C := RX4) (T := TX4) (N := 8) hx hb hts inwX4_readThing_X4 tyX4 tyX4_ok nmX4 hown hK hP hD hS 0 rfl rfl 7 (by decide) (hts (.fieldLink RX4 49 "PlateSlabs$Trial" "value" "I") (List.mem_of_getElem? (i := 2) rfl)) (fun _ h9 => h9) rfl (tyX4_ok 7 (by decide)) (rfl) (rfl) (Nat.le_of_ble_eq_true rfl) dX4_readThing_7 (fun H locs hP hD hS => ?_)
    have hP : va_P D vwCl [((y 0), .inr (4, [.ref (y 4), .ref (y 1), .ref (y 2), .ref (y 3), .int (w 0), .int (w 1), .int (nI 0), .int (nI 0)])), ((y 4), .inr (3, [.ref (y 5), .int (nI len)])), ((y 5), .inl (T 2, 60, .inl (tx)))] H := hP
    have hD : va_D A [((y 0), .inr (4, [.ref (y 4), .ref (y 1), .ref (y 2), .ref (y 3), .int (w 0), .int (w 1), .int (nI 0), .int (nI 0)])), ((y 4), .inr (3, [.ref (y 5), .int (nI len)])), ((y 5), .inl (T 2, 60, .inl (tx)))] := hD
    refine lv_iload_n hx hb dX4_readThing_10 rfl (lv_at hl 1 rfl) ?_
    obtain ⟨v0, ev0⟩ : ∃ z, z = upd (upd w 2 (nI 0)) 3 (nI 0) := ⟨_, rfl⟩
    have hP : va_P D vwCl [((y 0), .inr (4, [.ref (y 4), .ref (y 1), .ref (y 2), .ref (y 3), .int (v0 0), .int (v0 1), .int (v0 2), .int (v0 3)])), ((y 4), .inr (3, [.ref (y 5), .int (nI len)])), ((y 5), .inl (T 2, 60, .inl (tx)))] H := by rw [ev0]; exact hP
    have hD : va_D A [((y 0), .inr (4, [.ref (y 4), .ref (y 1), .ref (y 2), .ref (y 3), .int (v0 0), .int (v0 1), .int (v0 2), .int (v0 3)])), ((y 4), .inr (3, [.ref (y 5), .int (nI len)])), ((y 5), .inl (T 2, 60, .inl (tx)))] := by rw [ev0]; exact hD
    have f0v0 : v0 0 = w 0 := by rw [ev0]; rfl
    have f1v0 : v0 1 = nI i := by rw [ev0]; exact h1
    have f2v0 : v0 2 = nI 0 := by rw [ev0]; rfl
    have f3v0 : v0 3 = nI 0 := by rw [ev0]; rfl
    have hP : va_P D vwCl [((y 0), .inr (4, [.ref (y 4), .ref (y 1), .ref (y 2), .ref (y 3), .int (v0 0), .int (v0 1), .int (v0 2), .int (v0 3)])), ((y 4), .inr (3, [.ref (y 5), .int (nI len)])), ((y 5), .inl (T 2, 60, .inl (tx)))] H := hP
    have hD : va_D A [((y 0), .inr (4, [.ref (y 4), .ref (y 1), .ref (y 2), .ref (y 3), .int (v0 0), .int (v0 1), .int (v0 2), .int (v0 3)])), ((y 4), .inr (3, [.ref (y 5), .int (nI len)])), ((y 5), .inl (T 2, 60, .inl (tx)))] := hD
    refine lv_lookup (off := 207) (tgt := 218) hx hb dX4_readThing_11 (by decide) (kind_no hZ.1 hZ.2.1 hZ.2.2.1 hZ.2.2.2.1 hZ.2.2.2.2) (by decide) ?_
    refine lv_iconst (v := 0) hx hb dX4_readThing_218 (by decide) ?_
    have hL := th_x (c := tch tx len) (i := i) (fun z => hZ.1 (ech.trans z)) (fun z => hZ.2.1 (ech.trans z)) (fun z => hZ.2.2.1 (ech.trans z)) (fun z => hZ.2.2.2.1 (ech.trans z)) (fun z => hZ.2.2.2.2 (ech.trans z))
    exact hret _ _ _ v0 _ _ dX4_readThing_219 hS hP hD (Or.inr ⟨hL.1, rfl, f0v0, by rw [hL.2]; exact f1v0⟩)

