def rmX6_perform : Room := { frames := 10, cells := 0, slots := 0, locals := 227 }
set_option maxHeartbeats 4000000 in
set_option maxRecDepth 100000 in
theorem mX6_perform (l : Launch) (T : Nat → ClassId) (D : va_G) (b : Nat → Nat) (v : Nat → Int32) (g : SG) (hg : gOk g) (ia : Nat → Int32) (ea : Nat → Int64) (ik : Nat → Int32) (ek : Nat → Int64) (ib : Nat → Int32) (eb : Nat → Int64) (tx : Nat → Int32) (n : Nat) (hn : n ≤ 4) (hv : v 1 = nI n) (len : Nat) (hlen : len ≤ 60) (h2 : v 2 = nI len) : MuI l yX6_perform wsX6_perform rmX6_perform T xN D [.ref (b 0)] (moW T b v (mS g.1 g.2.1) (mE g.2.2) ia ea ik ek ib eb tx) (S := MW) (fun r u => pfP n len v g ik ek ib eb tx r u) (fun u => moU T b u) 0 0 := by
  refine met_mi (cc := cX6_perform) (maxL := 3) (by decide) rfl (Nat.le_of_ble_eq_true rfl) ?_
  intro p_ e s m args below meth c ls A Q hx hb hts hown hml hX hP hD hK hS hA hl hret
  have hl : lv_has ls 3 [(0, .ref (b 0))] := hl
  obtain ⟨H, hH⟩ : ∃ H, H = s.heap := ⟨_, rfl⟩
  have hS : va_S A s.heap H [] := by rw [hH]; exact hS
  rw [← hH] at hP ⊢
  refine lv_aload_n hx hb dX6_perform_0 rfl (lv_at hl 0 rfl) ?_
  refine lv_iconst (v := 0) hx hb dX6_perform_1 (by decide) ?_
  refine callMi (As := [.int 0]) (wr := [((b 1), .inl (T 0, 43, .inl (mS g.1 g.2.1))), ((b 2), .inl (T 1, 12, .inr (.inl (mE g.2.2)))), ((b 3), .inl (T 0, 43, .inl (ia))), ((b 4), .inl (T 1, 12, .inr (.inl (ea)))), ((b 5), .inl (T 0, 43, .inl (ik))), ((b 6), .inl (T 1, 12, .inr (.inl (ek)))), ((b 7), .inl (T 0, 172, .inl (ib))), ((b 8), .inl (T 1, 48, .inr (.inl (eb))))]) ⟨hx, hb, hml, hown, hts⟩ (mX6_runs0 l T D b v tx len hlen h2) (cwV 1 hts gX6_perform_X6_runs rfl rfl rfl pdX6_runs ⟨Nat.le_of_ble_eq_true rfl, Nat.le_of_ble_eq_true rfl⟩) (p10_x hP) (d10_x hD) hK hS hA xN_bl (fun U _ hW => XN_warm hW hX) (ci := 6) rfl rfl rfl hl.1 rfl rfl (Nat.le_of_ble_eq_true rfl) dX6_perform_2 ⟨Nat.zero_le _, Nat.zero_le _⟩ (fun r1_ u2_ H locs eu2_ hP hD hS hkf => ?_)
  have hP := p10_xi hP
  have hD := d10_xi hD
  obtain ⟨u1, rfl⟩ : ∃ z, z = u2_ := ⟨_, rfl⟩
  have hP : va_P D vwCl (moW T b u1 (mS g.1 g.2.1) (mE g.2.2) ia ea ik ek ib eb tx) H := hP
  have hD : va_D A (moW T b u1 (mS g.1 g.2.1) (mE g.2.2) ia ea ik ek ib eb tx) := hD
  obtain ⟨q1, q10, q⟩ := eu2_
  have f2 : u1 2 = nI len := (q1 2 (by omega)).trans h2
  rcases q with ⟨m0, he, q6⟩ | ⟨m0, he, q6, q5⟩
  · skip
    refine lv_istore_n (lv' := [(1, .int r1_), (0, .ref (b 0))]) hx hb dX6_perform_5 rfl hl (by decide) rfl (fun ls hl => ?_)
    refine lv_aload_n hx hb dX6_perform_6 rfl (lv_at hl 1 rfl) ?_
    refine va_get (D := D) (ci := 6) (v := .int (u1 6)) (C := RX6) (T := TX6) (N := 22) hx hb hts inwX6_perform_X6 hown hK hP 0 rfl rfl 15 (by decide) (hts (.fieldLink RX6 152 "PlateSlabsModel" "isWrong" "Z") (List.mem_of_getElem? (i := 1) rfl)) (fun _ h9 => h9) rfl dX6_perform_7 ?_
    refine lv_tpi (z := 0) (q6) ?_
    refine lv_if_eq (tgt := 21) hx hb dX6_perform_10 (by decide) (fun c10 => ?_) (fun c10 => ?_)
    · skip
      refine lv_aload_n hx hb dX6_perform_21 rfl (lv_at hl 1 rfl) ?_
      refine callMv (As := []) (wr := []) ⟨hx, hb, hml, hown, hts⟩ (mX6_looks l T D b u1 (mS g.1 g.2.1) (mE g.2.2) ia ea ik ek ib eb tx ) (cwV 0 hts gX6_perform_X6_looks rfl rfl rfl pdX6_looks ⟨Nat.le_of_ble_eq_true rfl, Nat.le_of_ble_eq_true rfl⟩) hP hD hK hS hA xN_bl (fun U _ hW => XN_warm hW hX) (ci := 6) rfl rfl rfl hl.1 rfl rfl (Nat.le_of_ble_eq_true rfl) dX6_perform_22 ⟨Nat.zero_le _, Nat.zero_le _⟩ (fun u4_ H locs eu4_ hP hD hS hkf => ?_)
      have hP : va_P D vwCl (moW T b u1 (mS g.1 g.2.1) (mE g.2.2) (mS g.1 g.2.1) (mE g.2.2) ik ek ib eb tx) H := hP
      have hD : va_D A (moW T b u1 (mS g.1 g.2.1) (mE g.2.2) (mS g.1 g.2.1) (mE g.2.2) ik ek ib eb tx) := hD
      refine lv_aload_n hx hb dX6_perform_25 rfl (lv_at hl 1 rfl) ?_
      refine lv_iconst (v := 1) hx hb dX6_perform_26 (by decide) ?_
      refine callMi (As := [.int 1]) (wr := [((b 3), .inl (T 0, 43, .inl (mS g.1 g.2.1))), ((b 4), .inl (T 1, 12, .inr (.inl (mE g.2.2)))), ((b 5), .inl (T 0, 43, .inl (ik))), ((b 6), .inl (T 1, 12, .inr (.inl (ek)))), ((b 7), .inl (T 0, 172, .inl (ib))), ((b 8), .inl (T 1, 48, .inr (.inl (eb))))]) ⟨hx, hb, hml, hown, hts⟩ (mX6_runs1 l T D b u1 tx len hlen f2 g hg m0 he) (cwV 1 hts gX6_perform_X6_runs rfl rfl rfl pdX6_runs ⟨Nat.le_of_ble_eq_true rfl, Nat.le_of_ble_eq_true rfl⟩) (p10_d hP) (d10_d hD) hK hS hA xN_bl (fun U _ hW => XN_warm hW hX) (ci := 6) rfl rfl rfl hl.1 rfl rfl (Nat.le_of_ble_eq_true rfl) dX6_perform_27 ⟨Nat.zero_le _, Nat.zero_le _⟩ (fun r5_ u6_ H locs eu6_ hP hD hS hkf => ?_)
      have hP := p10_di hP
      have hD := d10_di hD
      obtain ⟨u2, g2⟩ := u6_
      have hP : va_P D vwCl (moW T b u2 (mS g2.1 g2.2.1) (mE g2.2.2) (mS g.1 g.2.1) (mE g.2.2) ik ek ib eb tx) H := hP
      have hD : va_D A (moW T b u2 (mS g2.1 g2.2.1) (mE g2.2.2) (mS g.1 g.2.1) (mE g.2.2) ik ek ib eb tx) := hD
      obtain ⟨qS, q⟩ := eu6_
      have qS2 : vS v u2 := fun k hk => (qS k hk).trans (q1 k hk)
      have q21 : u2 1 = nI n := (qS2 1 (by omega)).trans hv
      rcases q with ⟨k0, hk0, hne, hE, hr, q9⟩ | ⟨hne, hr, q9, hg2⟩
      · skip
        change u2 10 = _ at q9
        refine lv_istore_n (lv' := [(2, .int r5_), (1, .int r1_), (0, .ref (b 0))]) hx hb dX6_perform_30 rfl hl (by decide) rfl (fun ls hl => ?_)
        refine lv_aload_n hx hb dX6_perform_31 rfl (lv_at hl 2 rfl) ?_
        refine va_get (D := D) (ci := 6) (v := .int (u2 10)) (C := RX6) (T := TX6) (N := 22) hx hb hts inwX6_perform_X6 hown hK hP 0 rfl rfl 19 (by decide) (hts (.fieldLink RX6 178 "PlateSlabsModel" "stop" "I") (List.mem_of_getElem? (i := 3) rfl)) (fun _ h9 => h9) rfl dX6_perform_32 ?_
        refine lv_tpi (z := rK (tch tx len) g k0) (q9) ?_
        refine lv_if_ge (tgt := 58) hx hb dX6_perform_35 (by decide) (fun c35 => ?_) (fun c35 => ?_)
        · skip
          exact absurd c35 (Int32.not_le.mpr hE.1)
        · skip
          refine lv_aload_n hx hb dX6_perform_38 rfl (lv_at hl 2 rfl) ?_
          refine lv_iload_n hx hb dX6_perform_39 rfl (lv_at hl 0 rfl) ?_
          refine va_put (D := D) (ci := 6) (v := .int r5_) (C := RX6) (T := TX6) (N := 22) hx hb hts inwX6_perform_X6 tyX6 tyX6_ok nmX6 hown hK hP hD hS 0 rfl rfl 12 (by decide) (hts (.fieldLink RX6 38 "PlateSlabsModel" "stopAt" "I") (List.mem_of_getElem? (i := 4) rfl)) (fun _ h9 => h9) rfl (tyX6_ok 12 (by decide)) (rfl) rfl (Nat.le_of_ble_eq_true rfl) dX6_perform_40 (fun H locs hP hD hS => ?_)
          have hP : va_P D vwCl (moW T b (upd u2 3 r5_) (mS g2.1 g2.2.1) (mE g2.2.2) (mS g.1 g.2.1) (mE g.2.2) ik ek ib eb tx) H := hP
          have hD : va_D A (moW T b (upd u2 3 r5_) (mS g2.1 g2.2.1) (mE g2.2.2) (mS g.1 g.2.1) (mE g.2.2) ik ek ib eb tx) := hD
          refine lv_aload_n hx hb dX6_perform_43 rfl (lv_at hl 2 rfl) ?_
          refine lv_aload_n hx hb dX6_perform_44 rfl (lv_at hl 2 rfl) ?_
          refine va_get (D := D) (ci := 6) (v := .int (u2 10)) (C := RX6) (T := TX6) (N := 22) hx hb hts inwX6_perform_X6 hown hK hP 0 rfl rfl 19 (by decide) (hts (.fieldLink RX6 178 "PlateSlabsModel" "stop" "I") (List.mem_of_getElem? (i := 3) rfl)) (fun _ h9 => h9) rfl dX6_perform_45 ?_
          refine lv_tpi (z := rK (tch tx len) g k0) (q9) ?_
          refine va_put (D := D) (ci := 6) (v := .int (rK (tch tx len) g k0)) (C := RX6) (T := TX6) (N := 22) hx hb hts inwX6_perform_X6 tyX6 tyX6_ok nmX6 hown hK hP hD hS 0 rfl rfl 13 (by decide) (hts (.fieldLink RX6 42 "PlateSlabsModel" "stopBy" "I") (List.mem_of_getElem? (i := 5) rfl)) (fun _ h9 => h9) rfl (tyX6_ok 13 (by decide)) (rfl) rfl (Nat.le_of_ble_eq_true rfl) dX6_perform_48 (fun H locs hP hD hS => ?_)
          have hP : va_P D vwCl (moW T b (upd (upd u2 3 r5_) 4 (rK (tch tx len) g k0)) (mS g2.1 g2.2.1) (mE g2.2.2) (mS g.1 g.2.1) (mE g.2.2) ik ek ib eb tx) H := hP
          have hD : va_D A (moW T b (upd (upd u2 3 r5_) 4 (rK (tch tx len) g k0)) (mS g2.1 g2.2.1) (mE g2.2.2) (mS g.1 g.2.1) (mE g.2.2) ik ek ib eb tx) := hD
          refine lv_aload_n hx hb dX6_perform_51 rfl (lv_at hl 2 rfl) ?_
          refine callMv (As := []) (wr := []) ⟨hx, hb, hml, hown, hts⟩ (mX6_looksBack l T D b (upd (upd u2 3 r5_) 4 (rK (tch tx len) g k0)) (mS g2.1 g2.2.1) (mE g2.2.2) (mS g.1 g.2.1) (mE g.2.2) ik ek ib eb tx ) (cwV 0 hts gX6_perform_X6_looksBack rfl rfl rfl pdX6_looksBack ⟨Nat.le_of_ble_eq_true rfl, Nat.le_of_ble_eq_true rfl⟩) hP hD hK hS hA xN_bl (fun U _ hW => XN_warm hW hX) (ci := 6) rfl rfl rfl hl.1 rfl rfl (Nat.le_of_ble_eq_true rfl) dX6_perform_52 ⟨Nat.zero_le _, Nat.zero_le _⟩ (fun u8_ H locs eu8_ hP hD hS hkf => ?_)
          have hP : va_P D vwCl (moW T b (upd (upd u2 3 r5_) 4 (rK (tch tx len) g k0)) (mS g.1 g.2.1) (mE g.2.2) (mS g.1 g.2.1) (mE g.2.2) ik ek ib eb tx) H := hP
          have hD : va_D A (moW T b (upd (upd u2 3 r5_) 4 (rK (tch tx len) g k0)) (mS g.1 g.2.1) (mE g.2.2) (mS g.1 g.2.1) (mE g.2.2) ik ek ib eb tx) := hD
          refine lv_bipush (v := (-4)) hx hb dX6_perform_55 (by decide) ?_
          exact hret _ _ _ (upd (upd u2 3 r5_) 4 (rK (tch tx len) g k0), mS g.1 g.2.1, mE g.2.2, mS g.1 g.2.1, mE g.2.2, ik, ek, ib, eb, tx) _ _ dX6_perform_57 hS hP hD ⟨u2, _, _, qS2, Or.inr (Or.inl ⟨m0, k0, he, hk0, hne, hE, rfl, by rw [hr]⟩)⟩
      · skip
        change u2 10 = _ at q9
        change g2 = _ at hg2
        subst hg2
        have hP : va_P D vwCl (moW T b u2 (mS (sK (tch tx len) g (m0 + 1)).1 (sK (tch tx len) g (m0 + 1)).2.1) (mE (sK (tch tx len) g (m0 + 1)).2.2) (mS g.1 g.2.1) (mE g.2.2) ik ek ib eb tx) H := hP
        have hD : va_D A (moW T b u2 (mS (sK (tch tx len) g (m0 + 1)).1 (sK (tch tx len) g (m0 + 1)).2.1) (mE (sK (tch tx len) g (m0 + 1)).2.2) (mS g.1 g.2.1) (mE g.2.2) ik ek ib eb tx) := hD
        refine lv_istore_n (lv' := [(2, .int r5_), (1, .int r1_), (0, .ref (b 0))]) hx hb dX6_perform_30 rfl hl (by decide) rfl (fun ls hl => ?_)
        refine lv_aload_n hx hb dX6_perform_31 rfl (lv_at hl 2 rfl) ?_
        refine va_get (D := D) (ci := 6) (v := .int (u2 10)) (C := RX6) (T := TX6) (N := 22) hx hb hts inwX6_perform_X6 hown hK hP 0 rfl rfl 19 (by decide) (hts (.fieldLink RX6 178 "PlateSlabsModel" "stop" "I") (List.mem_of_getElem? (i := 3) rfl)) (fun _ h9 => h9) rfl dX6_perform_32 ?_
        refine lv_tpi (z := 0) (q9) ?_
        refine lv_if_ge (tgt := 58) hx hb dX6_perform_35 (by decide) (fun c35 => ?_) (fun c35 => ?_)
        · skip
          refine lv_aload_n hx hb dX6_perform_58 rfl (lv_at hl 2 rfl) ?_
          refine callMv (As := []) (wr := []) ⟨hx, hb, hml, hown, hts⟩ (mX6_records l T D b u2 (mS (sK (tch tx len) g (m0 + 1)).1 (sK (tch tx len) g (m0 + 1)).2.1) (mE (sK (tch tx len) g (m0 + 1)).2.2) (mS g.1 g.2.1) (mE g.2.2) ik ek ib eb tx n hn q21) (cwV 0 hts gX6_perform_X6_records rfl rfl rfl pdX6_records ⟨Nat.le_of_ble_eq_true rfl, Nat.le_of_ble_eq_true rfl⟩) hP hD hK hS hA xN_bl (fun U _ hW => XN_warm hW hX) (ci := 6) rfl rfl rfl hl.1 rfl rfl (Nat.le_of_ble_eq_true rfl) dX6_perform_59 ⟨Nat.zero_le _, Nat.zero_le _⟩ (fun u10_ H locs eu10_ hP hD hS hkf => ?_)
          have hP : va_P D vwCl (moW T b (upd u2 1 (nI (rcN n))) (mS (sK (tch tx len) g (m0 + 1)).1 (sK (tch tx len) g (m0 + 1)).2.1) (mE (sK (tch tx len) g (m0 + 1)).2.2) (mS g.1 g.2.1) (mE g.2.2) ik ek (rcI n ib (mS g.1 g.2.1)) (rcE n eb (mE g.2.2)) tx) H := hP
          have hD : va_D A (moW T b (upd u2 1 (nI (rcN n))) (mS (sK (tch tx len) g (m0 + 1)).1 (sK (tch tx len) g (m0 + 1)).2.1) (mE (sK (tch tx len) g (m0 + 1)).2.2) (mS g.1 g.2.1) (mE g.2.2) ik ek (rcI n ib (mS g.1 g.2.1)) (rcE n eb (mE g.2.2)) tx) := hD
          refine lv_iload_n hx hb dX6_perform_62 rfl (lv_at hl 0 rfl) ?_
          exact hret _ _ _ (upd u2 1 (nI (rcN n)), mS (sK (tch tx len) g (m0 + 1)).1 (sK (tch tx len) g (m0 + 1)).2.1, mE (sK (tch tx len) g (m0 + 1)).2.2, mS g.1 g.2.1, mE g.2.2, ik, ek, rcI n ib (mS g.1 g.2.1), rcE n eb (mE g.2.2), tx) _ _ dX6_perform_63 hS hP hD ⟨u2, _, _, qS2, Or.inr (Or.inr ⟨m0, he, hne, hr, rfl⟩)⟩
        · skip
          exact absurd (by decide) c35
    · skip
      exact absurd rfl c10
  · skip
    refine lv_istore_n (lv' := [(1, .int r1_), (0, .ref (b 0))]) hx hb dX6_perform_5 rfl hl (by decide) rfl (fun ls hl => ?_)
    refine lv_aload_n hx hb dX6_perform_6 rfl (lv_at hl 1 rfl) ?_
    refine va_get (D := D) (ci := 6) (v := .int (u1 6)) (C := RX6) (T := TX6) (N := 22) hx hb hts inwX6_perform_X6 hown hK hP 0 rfl rfl 15 (by decide) (hts (.fieldLink RX6 152 "PlateSlabsModel" "isWrong" "Z") (List.mem_of_getElem? (i := 1) rfl)) (fun _ h9 => h9) rfl dX6_perform_7 ?_
    refine lv_tpi (z := 1) (q6) ?_
    refine lv_if_eq (tgt := 21) hx hb dX6_perform_10 (by decide) (fun c10 => ?_) (fun c10 => ?_)
    · skip
      exact absurd c10 (by decide)
    · skip
      refine lv_bipush (v := (-100)) hx hb dX6_perform_13 (by decide) ?_
      refine lv_aload_n hx hb dX6_perform_15 rfl (lv_at hl 1 rfl) ?_
      refine va_get (D := D) (ci := 6) (v := .int (u1 5)) (C := RX6) (T := TX6) (N := 22) hx hb hts inwX6_perform_X6 hown hK hP 0 rfl rfl 14 (by decide) (hts (.fieldLink RX6 156 "PlateSlabsModel" "position" "I") (List.mem_of_getElem? (i := 2) rfl)) (fun _ h9 => h9) rfl dX6_perform_16 ?_
      refine lv_tpi (z := nI (tJ (tch tx len) (tAt (tch tx len) m0))) (q5) ?_
      refine lv_isub hx hb dX6_perform_19 ?_
      exact hret _ _ _ (u1, mS g.1 g.2.1, mE g.2.2, ia, ea, ik, ek, ib, eb, tx) _ _ dX6_perform_20 hS hP hD ⟨u1, _, _, q1, Or.inl ⟨m0, he, rfl, rfl⟩⟩

def rmX6_stopped : Room := { frames := 0, cells := 0, slots := 0, locals := 0 }
set_option maxHeartbeats 4000000 in
set_option maxRecDepth 100000 in
theorem mX6_stopped (l : Launch) (T : Nat → ClassId) (D : va_G) (b : Nat → Nat) (v : Nat → Int32) (w : Int32) : RdI l yX6_stopped wsX6_stopped rmX6_stopped T xN D [.ref (b 0), .int w] [(b 0, .inr (6, moF b v))] (fun r => r = if w = 0 then v 3 else if w = 1 then v 4 else -2) := by
  refine met_ri (cc := cX6_stopped) (maxL := 2) (by decide) rfl (Nat.le_of_ble_eq_true rfl) ?_
  intro p_ e s m args below meth c H ls Q hx hb hts hown hml hX hH hP hK hl hret
  have hl : lv_has ls 2 [(0, .ref (b 0)), (1, .int w)] := hl
  refine lv_iload_n hx hb dX6_stopped_0 rfl (lv_at hl 1 rfl) ?_
  refine lv_if_ne (tgt := 11) hx hb dX6_stopped_1 (by decide) (fun c1 => ?_) (fun c1 => ?_)
  · skip
    refine lv_iload_n hx hb dX6_stopped_11 rfl (lv_at hl 1 rfl) ?_
    refine lv_iconst (v := 1) hx hb dX6_stopped_12 (by decide) ?_
    refine lv_icmp_ne (tgt := 23) hx hb dX6_stopped_13 (by decide) (fun c13 => ?_) (fun c13 => ?_)
    · skip
      refine lv_bipush (v := (-2)) hx hb dX6_stopped_23 (by decide) ?_
      exact hret _ _ _ dX6_stopped_25 (by rw [if_neg c1, if_neg c13])
    · skip
      refine lv_aload_n hx hb dX6_stopped_16 rfl (lv_at hl 0 rfl) ?_
      refine va_get (D := D) (ci := 6) (v := .int (v 4)) (C := RX6) (T := TX6) (N := 22) hx hb hts inwX6_stopped_X6 hown hK hP 0 rfl rfl 13 (by decide) (hts (.fieldLink RX6 42 "PlateSlabsModel" "stopBy" "I") (List.mem_of_getElem? (i := 2) rfl)) (fun _ h9 => h9) rfl dX6_stopped_17 ?_
      refine lv_goto (tgt := 25) hx hb dX6_stopped_20 (by decide) ?_
      exact hret _ _ _ dX6_stopped_25 (by rw [if_neg c1, if_pos c13])
  · skip
    skip
    refine lv_aload_n hx hb dX6_stopped_4 rfl (lv_at hl 0 rfl) ?_
    refine va_get (D := D) (ci := 6) (v := .int (v 3)) (C := RX6) (T := TX6) (N := 22) hx hb hts inwX6_stopped_X6 hown hK hP 0 rfl rfl 12 (by decide) (hts (.fieldLink RX6 38 "PlateSlabsModel" "stopAt" "I") (List.mem_of_getElem? (i := 1) rfl)) (fun _ h9 => h9) rfl dX6_stopped_5 ?_
    refine lv_goto (tgt := 25) hx hb dX6_stopped_8 (by decide) ?_
    exact hret _ _ _ dX6_stopped_25 ((if_pos c1).symm)

