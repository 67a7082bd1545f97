theorem pdX6_readThing : yX6_readThing.cls = RX6 ∧ yX6_readThing.cls ≠ "java/lang/invoke/MethodHandle" ∧ yX6_readThing.cls ≠ "java/lang/invoke/VarHandle" ∧ (parseMethodDescriptor yX6_readThing.desc).map (fun d => d.parameters.length) = some 0 := by decide +kernel
theorem inwX6_readThing_X6 : ∀ w ∈ wsX60, w ∈ wsX6_readThing := by decide +kernel
def rmX6_readThing : Room := { frames := 3, cells := 0, slots := 0, locals := 69 }
set_option maxHeartbeats 4000000 in
set_option maxRecDepth 100000 in
theorem mX6_readThing (l : Launch) (T : Nat → ClassId) (D : va_G) (b : Nat → Nat) (v : Nat → Int32) (tx : Nat → Int32) (i len : Nat) (hlen : len ≤ 60) (hil : i ≤ len) (h2 : v 2 = nI len) (h5 : v 5 = nI i) (h6 : v 6 = 0) : MuV l yX6_readThing wsX6_readThing rmX6_readThing T xN D [.ref (b 0)] [(b 0, .inr (6, moF b v)), ((b 9), .inl (T 0, 60, .inl (tx)))] (S := Nat → Int32) (fun u => thP (tch tx len) v u i) (fun u => moX T b u tx) 0 0 := by
  refine met_mv (cc := cX6_readThing) (maxL := 2) (by decide) rfl (Nat.le_of_ble_eq_true rfl) ?_
  intro p_ e s m args below meth c ls A Q hx hb hts hown hml hX hP hD hK hS hA hl hin hret
  have hl : lv_has ls 2 [(0, .ref (b 0))] := hl
  obtain ⟨H, hH⟩ : ∃ H, H = s.heap := ⟨_, rfl⟩
  have hS : va_S A s.heap H [] := by rw [hH]; exact hS
  rw [← hH] at hP ⊢
  refine lv_aload_n hx hb dX6_readThing_0 rfl (lv_at hl 0 rfl) ?_
  refine lv_aload_n hx hb dX6_readThing_1 rfl (lv_at hl 0 rfl) ?_
  refine va_get (D := D) (ci := 6) (v := .int (v 5)) (C := RX6) (T := TX6) (N := 22) hx hb hts inwX6_readThing_X6 hown hK hP 0 rfl rfl 14 (by decide) (hts (.fieldLink RX6 156 "PlateSlabsModel" "position" "I") (List.mem_of_getElem? (i := 1) rfl)) (fun _ h9 => h9) rfl dX6_readThing_2 ?_
  refine lv_aload_n hx hb dX6_readThing_5 rfl (lv_at hl 0 rfl) ?_
  refine va_get (D := D) (ci := 6) (v := .int (v 2)) (C := RX6) (T := TX6) (N := 22) hx hb hts inwX6_readThing_X6 hown hK hP 0 rfl rfl 11 (by decide) (hts (.fieldLink RX6 149 "PlateSlabsModel" "length" "I") (List.mem_of_getElem? (i := 2) rfl)) (fun _ h9 => h9) rfl dX6_readThing_6 ?_
  have hJ25 : ∀  (ls : Array Slot) (H : Heap) (locs : List Loc), va_P D vwCl [(b 0, .inr (6, moF b v)), ((b 9), .inl (T 0, 60, .inl (tx)))] H → va_D A [(b 0, .inr (6, moF b v)), ((b 9), .inl (T 0, 60, .inl (tx)))] → va_S A s.heap H locs → lv_has ls 2 [(0, .ref (b 0))] → W p_ l e rmX6_readThing s m args below meth c H locs 0 0 Q (F0 m 25 ls [.int (tch tx len i), .ref (b 0)]) := by
    intro ls H locs hP hD hS hl
    refine lv_topi (fun ch ech => ?_)
    refine va_put (D := D) (ci := 6) (v := .int ch) (C := RX6) (T := TX6) (N := 22) hx hb hts inwX6_readThing_X6 tyX6 tyX6_ok nmX6 hown hK hP hD hS 0 rfl rfl 16 (by decide) (hts (.fieldLink RX6 166 "PlateSlabsModel" "letter" "I") (List.mem_of_getElem? (i := 4) rfl)) (fun _ h9 => h9) rfl (tyX6_ok 16 (by decide)) (rfl) rfl (Nat.le_of_ble_eq_true rfl) dX6_readThing_25 (fun H locs hP hD hS => ?_)
    have hP : va_P D vwCl [(b 0, .inr (6, moF b (upd v 7 ch))), ((b 9), .inl (T 0, 60, .inl (tx)))] H := hP
    have hD : va_D A [(b 0, .inr (6, moF b (upd v 7 ch))), ((b 9), .inl (T 0, 60, .inl (tx)))] := hD
    rcases kind5 ch with hZ | hZ | hZ | hZ | hZ | hZ
    · skip
      subst hZ
      have hi1 : i + 1 ≤ len := tch_pos1 (c := 98) (by decide) (by rw [← ech]; exact Int32.le_refl _)
      by_cases y1 : pd4 (tch tx len (i + 1))
      · skip
        have hi2 : i + 2 ≤ len := by
          have := tch_pos1 (c := 48) (by decide) y1.1
          omega
        by_cases y2 : tch tx len (i + 2) = 61
        · skip
          have hi3 : i + 3 ≤ len := by
            have := tch_pos1 (c := 61) (by decide) (by rw [y2]; exact Int32.le_refl _)
            omega
          by_cases y3 : nOk (tch tx len) (i + 3) 0
          · skip
            have hP : va_P D vwCl [(b 0, .inr (6, moF b (upd v 7 98))), ((b 9), .inl (T 0, 60, .inl (tx)))] H := hP
            have hD : va_D A [(b 0, .inr (6, moF b (upd v 7 98))), ((b 9), .inl (T 0, 60, .inl (tx)))] := hD
            refine lv_aload_n hx hb dX6_readThing_28 rfl (lv_at hl 0 rfl) ?_
            refine lv_aload_n hx hb dX6_readThing_29 rfl (lv_at hl 0 rfl) ?_
            refine va_get (D := D) (ci := 6) (v := .int (v 6)) (C := RX6) (T := TX6) (N := 22) hx hb hts inwX6_readThing_X6 hown hK hP 0 rfl rfl 15 (by decide) (hts (.fieldLink RX6 152 "PlateSlabsModel" "isWrong" "Z") (List.mem_of_getElem? (i := 5) rfl)) (fun _ h9 => h9) rfl dX6_readThing_30 ?_
            refine lv_if_ne (tgt := 81) hx hb dX6_readThing_33 (by decide) (fun c33 => ?_) (fun c33 => ?_)
            · skip
              exact absurd h6 c33
            · skip
              refine lv_aload_n hx hb dX6_readThing_36 rfl (lv_at hl 0 rfl) ?_
              refine va_get (D := D) (ci := 6) (v := .int 98) (C := RX6) (T := TX6) (N := 22) hx hb hts inwX6_readThing_X6 hown hK hP 0 rfl rfl 16 (by decide) (hts (.fieldLink RX6 166 "PlateSlabsModel" "letter" "I") (List.mem_of_getElem? (i := 4) rfl)) (fun _ h9 => h9) rfl dX6_readThing_37 ?_
              refine lv_bipush (v := 98) hx hb dX6_readThing_40 (by decide) ?_
              refine lv_icmp_eq (tgt := 85) hx hb dX6_readThing_42 (by decide) (fun c42 => ?_) (fun c42 => ?_)
              · skip
                refine lv_iconst (v := 0) hx hb dX6_readThing_85 (by decide) ?_
                refine va_put (D := D) (ci := 6) (v := .int 0) (C := RX6) (T := TX6) (N := 22) hx hb hts inwX6_readThing_X6 tyX6 tyX6_ok nmX6 hown hK hP hD hS 0 rfl rfl 15 (by decide) (hts (.fieldLink RX6 152 "PlateSlabsModel" "isWrong" "Z") (List.mem_of_getElem? (i := 5) rfl)) (fun _ h9 => h9) rfl (tyX6_ok 15 (by decide)) (rfl) rfl (Nat.le_of_ble_eq_true rfl) dX6_readThing_86 (fun H locs hP hD hS => ?_)
                have hP : va_P D vwCl [(b 0, .inr (6, moF b (upd (upd v 7 98) 6 0))), ((b 9), .inl (T 0, 60, .inl (tx)))] H := hP
                have hD : va_D A [(b 0, .inr (6, moF b (upd (upd v 7 98) 6 0))), ((b 9), .inl (T 0, 60, .inl (tx)))] := hD
                refine lv_aload_n hx hb dX6_readThing_89 rfl (lv_at hl 0 rfl) ?_
                refine lv_dup hx hb dX6_readThing_90 rfl ?_
                refine va_get (D := D) (ci := 6) (v := .int (v 5)) (C := RX6) (T := TX6) (N := 22) hx hb hts inwX6_readThing_X6 hown hK hP 0 rfl rfl 14 (by decide) (hts (.fieldLink RX6 156 "PlateSlabsModel" "position" "I") (List.mem_of_getElem? (i := 1) rfl)) (fun _ h9 => h9) rfl dX6_readThing_91 ?_
                refine lv_aload_n hx hb dX6_readThing_94 rfl (lv_at hl 0 rfl) ?_
                refine va_get (D := D) (ci := 6) (v := .int 0) (C := RX6) (T := TX6) (N := 22) hx hb hts inwX6_readThing_X6 hown hK hP 0 rfl rfl 15 (by decide) (hts (.fieldLink RX6 152 "PlateSlabsModel" "isWrong" "Z") (List.mem_of_getElem? (i := 5) rfl)) (fun _ h9 => h9) rfl dX6_readThing_95 ?_
                refine lv_if_eq (tgt := 105) hx hb dX6_readThing_98 (by decide) (fun c98 => ?_) (fun c98 => ?_)
                · skip
                  refine lv_iconst (v := 1) hx hb dX6_readThing_105 (by decide) ?_
                  refine lv_iadd hx hb dX6_readThing_106 ?_
                  refine lv_tpi (z := nI (i + 1)) (by rw [h5]; exact nI_1 i) ?_
                  refine va_put (D := D) (ci := 6) (v := .int (nI (i + 1))) (C := RX6) (T := TX6) (N := 22) hx hb hts inwX6_readThing_X6 tyX6 tyX6_ok nmX6 hown hK hP hD hS 0 rfl rfl 14 (by decide) (hts (.fieldLink RX6 156 "PlateSlabsModel" "position" "I") (List.mem_of_getElem? (i := 1) rfl)) (fun _ h9 => h9) rfl (tyX6_ok 14 (by decide)) (rfl) rfl (Nat.le_of_ble_eq_true rfl) dX6_readThing_107 (fun H locs hP hD hS => ?_)
                  have hP : va_P D vwCl [(b 0, .inr (6, moF b (upd (upd (upd v 7 98) 6 0) 5 (nI (i + 1))))), ((b 9), .inl (T 0, 60, .inl (tx)))] H := hP
                  have hD : va_D A [(b 0, .inr (6, moF b (upd (upd (upd v 7 98) 6 0) 5 (nI (i + 1))))), ((b 9), .inl (T 0, 60, .inl (tx)))] := hD
                  obtain ⟨v0, ev0⟩ : ∃ z, z = upd (upd (upd v 7 98) 6 0) 5 (nI (i + 1)) := ⟨_, rfl⟩
                  rw [← ev0] at hP hD
                  have Tv0 : vT v v0 := by rw [ev0]; exact (vT_u (vT_u (vT_u (vT_rf v) _ (by decide) (by decide)) _ (by decide) (by decide)) _ (by decide) (by decide))
                  have f2v0 : v0 2 = nI len := by rw [ev0]; exact h2
                  have f5v0 : v0 5 = nI (i + 1) := by rw [ev0]; rfl
                  have f6v0 : v0 6 = 0 := by rw [ev0]; rfl
                  have f7v0 : v0 7 = 98 := by rw [ev0]; rfl
                  have hP : va_P D vwCl [(b 0, .inr (6, moF b v0)), ((b 9), .inl (T 0, 60, .inl (tx)))] H := hP
                  have hD : va_D A [(b 0, .inr (6, moF b v0)), ((b 9), .inl (T 0, 60, .inl (tx)))] := hD
                  refine lv_aload_n hx hb dX6_readThing_110 rfl (lv_at hl 0 rfl) ?_
                  refine lv_aload_n hx hb dX6_readThing_111 rfl (lv_at hl 0 rfl) ?_
                  refine va_get (D := D) (ci := 6) (v := .int (v0 7)) (C := RX6) (T := TX6) (N := 22) hx hb hts inwX6_readThing_X6 hown hK hP 0 rfl rfl 16 (by decide) (hts (.fieldLink RX6 166 "PlateSlabsModel" "letter" "I") (List.mem_of_getElem? (i := 4) rfl)) (fun _ h9 => h9) rfl dX6_readThing_112 ?_
                  refine lv_tpi (z := 98) (f7v0) ?_
                  refine lv_bipush (v := 46) hx hb dX6_readThing_115 (by decide) ?_
                  refine lv_icmp_ne (tgt := 130) hx hb dX6_readThing_117 (by decide) (fun c117 => ?_) (fun c117 => ?_)
                  · skip
                    refine lv_aload_n hx hb dX6_readThing_130 rfl (lv_at hl 0 rfl) ?_
                    refine lv_bipush (v := 48) hx hb dX6_readThing_131 (by decide) ?_
                    refine lv_bipush (v := 51) hx hb dX6_readThing_133 (by decide) ?_
                    refine callMi (As := [.int 48, .int 51]) (wr := []) ⟨hx, hb, hml, hown, hts⟩ (mX6_takes l T D b v0 tx (i + 1) len hlen hi1 f2v0 f5v0 (Or.inl f6v0) 48 51) (cwV 2 hts gX6_readThing_X6_takes rfl rfl rfl pdX6_takes ⟨Nat.le_of_ble_eq_true rfl, Nat.le_of_ble_eq_true rfl⟩) hP hD hK hS hA xN_bl (fun U _ hW => XN_warm hW hX) (ci := 6) rfl rfl rfl hl.1 rfl rfl (Nat.le_of_ble_eq_true rfl) dX6_readThing_135 ⟨Nat.zero_le _, Nat.zero_le _⟩ (fun r1_ u2_ H locs eu2_ hP hD hS hkf => ?_)
                    obtain ⟨v1, rfl⟩ : ∃ z, z = u2_ := ⟨_, rfl⟩
                    obtain ⟨jv1, kv1⟩ := eu2_
                    have hP : va_P D vwCl [(b 0, .inr (6, moF b v1)), ((b 9), .inl (T 0, 60, .inl (tx)))] H := hP
                    have hD : va_D A [(b 0, .inr (6, moF b v1)), ((b 9), .inl (T 0, 60, .inl (tx)))] := hD
                    have f2v1 : v1 2 = nI len := (kv1.1 2 (by decide) (by decide)).trans f2v0
                    have f7v1 : v1 7 = 98 := (kv1.1 7 (by decide) (by decide)).trans f7v0
                    have Tv1 : vT v v1 := vT_R Tv0 kv1.1
                    obtain ⟨-, f6v1, f5v1⟩ := kv1.2.resolve_right (fun z => z.1 ⟨f6v0, y1⟩)
                    refine lv_tpi (z := nI (dg (tch tx len (i + 1)))) (by rw [jv1]; exact pd_dg y1) ?_
                    skip
                    refine va_put (D := D) (ci := 6) (v := .int (nI (dg (tch tx len (i + 1))))) (C := RX6) (T := TX6) (N := 22) hx hb hts inwX6_readThing_X6 tyX6 tyX6_ok nmX6 hown hK hP hD hS 0 rfl rfl 17 (by decide) (hts (.fieldLink RX6 172 "PlateSlabsModel" "first" "I") (List.mem_of_getElem? (i := 6) rfl)) (fun _ h9 => h9) rfl (tyX6_ok 17 (by decide)) (rfl) rfl (Nat.le_of_ble_eq_true rfl) dX6_readThing_138 (fun H locs hP hD hS => ?_)
                    have hP : va_P D vwCl [(b 0, .inr (6, moF b (upd v1 8 (nI (dg (tch tx len (i + 1))))))), ((b 9), .inl (T 0, 60, .inl (tx)))] H := hP
                    have hD : va_D A [(b 0, .inr (6, moF b (upd v1 8 (nI (dg (tch tx len (i + 1))))))), ((b 9), .inl (T 0, 60, .inl (tx)))] := hD
                    obtain ⟨u1, eu1⟩ : ∃ z, z = upd v1 8 (nI (dg (tch tx len (i + 1)))) := ⟨_, rfl⟩
                    rw [← eu1] at hP hD
                    have Tu1 : vT v u1 := by rw [eu1]; exact (vT_u Tv1 _ (by decide) (by decide))
                    have f2u1 : u1 2 = nI len := by rw [eu1]; exact f2v1
                    have f5u1 : u1 5 = nI (i + 2) := by rw [eu1]; exact f5v1
                    have f6u1 : u1 6 = 0 := by rw [eu1]; exact f6v1
                    have f7u1 : u1 7 = 98 := by rw [eu1]; exact f7v1
                    have f8u1 : u1 8 = nI (dg (tch tx len (i + 1))) := by rw [eu1]; rfl
                    have hP : va_P D vwCl [(b 0, .inr (6, moF b u1)), ((b 9), .inl (T 0, 60, .inl (tx)))] H := hP
                    have hD : va_D A [(b 0, .inr (6, moF b u1)), ((b 9), .inl (T 0, 60, .inl (tx)))] := hD
                    refine lv_aload_n hx hb dX6_readThing_141 rfl (lv_at hl 0 rfl) ?_
                    refine lv_iconst (v := 0) hx hb dX6_readThing_142 (by decide) ?_
                    refine va_put (D := D) (ci := 6) (v := .int 0) (C := RX6) (T := TX6) (N := 22) hx hb hts inwX6_readThing_X6 tyX6 tyX6_ok nmX6 hown hK hP hD hS 0 rfl rfl 18 (by decide) (hts (.fieldLink RX6 175 "PlateSlabsModel" "second" "I") (List.mem_of_getElem? (i := 7) rfl)) (fun _ h9 => h9) rfl (tyX6_ok 18 (by decide)) (rfl) rfl (Nat.le_of_ble_eq_true rfl) dX6_readThing_143 (fun H locs hP hD hS => ?_)
                    have hP : va_P D vwCl [(b 0, .inr (6, moF b (upd u1 9 0))), ((b 9), .inl (T 0, 60, .inl (tx)))] H := hP
                    have hD : va_D A [(b 0, .inr (6, moF b (upd u1 9 0))), ((b 9), .inl (T 0, 60, .inl (tx)))] := hD
                    obtain ⟨u2, eu2⟩ : ∃ z, z = upd u1 9 0 := ⟨_, rfl⟩
                    rw [← eu2] at hP hD
                    have Tu2 : vT v u2 := by rw [eu2]; exact (vT_u Tu1 _ (by decide) (by decide))
                    have f2u2 : u2 2 = nI len := by rw [eu2]; exact f2u1
                    have f5u2 : u2 5 = nI (i + 2) := by rw [eu2]; exact f5u1
                    have f6u2 : u2 6 = 0 := by rw [eu2]; exact f6u1
                    have f7u2 : u2 7 = 98 := by rw [eu2]; exact f7u1
                    have f8u2 : u2 8 = nI (dg (tch tx len (i + 1))) := by rw [eu2]; exact f8u1
                    have f9u2 : u2 9 = 0 := by rw [eu2]; rfl
                    have hP : va_P D vwCl [(b 0, .inr (6, moF b u2)), ((b 9), .inl (T 0, 60, .inl (tx)))] H := hP
                    have hD : va_D A [(b 0, .inr (6, moF b u2)), ((b 9), .inl (T 0, 60, .inl (tx)))] := hD
                    refine lv_aload_n hx hb dX6_readThing_146 rfl (lv_at hl 0 rfl) ?_
                    refine va_get (D := D) (ci := 6) (v := .int (u2 7)) (C := RX6) (T := TX6) (N := 22) hx hb hts inwX6_readThing_X6 hown hK hP 0 rfl rfl 16 (by decide) (hts (.fieldLink RX6 166 "PlateSlabsModel" "letter" "I") (List.mem_of_getElem? (i := 4) rfl)) (fun _ h9 => h9) rfl dX6_readThing_147 ?_
                    refine lv_tpi (z := 98) (f7u2) ?_
                    refine lv_bipush (v := 98) hx hb dX6_readThing_150 (by decide) ?_
                    refine lv_icmp_eq (tgt := 164) hx hb dX6_readThing_152 (by decide) (fun c152 => ?_) (fun c152 => ?_)
                    · skip
                      refine lv_aload_n hx hb dX6_readThing_164 rfl (lv_at hl 0 rfl) ?_
                      refine lv_bipush (v := 61) hx hb dX6_readThing_165 (by decide) ?_
                      refine lv_bipush (v := 61) hx hb dX6_readThing_167 (by decide) ?_
                      refine callMi (As := [.int 61, .int 61]) (wr := []) ⟨hx, hb, hml, hown, hts⟩ (mX6_takes l T D b u2 tx (i + 2) len hlen hi2 f2u2 f5u2 (Or.inl f6u2) 61 61) (cwV 2 hts gX6_readThing_X6_takes rfl rfl rfl pdX6_takes ⟨Nat.le_of_ble_eq_true rfl, Nat.le_of_ble_eq_true rfl⟩) hP hD hK hS hA xN_bl (fun U _ hW => XN_warm hW hX) (ci := 6) rfl rfl rfl hl.1 rfl rfl (Nat.le_of_ble_eq_true rfl) dX6_readThing_169 ⟨Nat.zero_le _, Nat.zero_le _⟩ (fun r3_ u4_ H locs eu4_ hP hD hS hkf => ?_)
                      obtain ⟨v3, rfl⟩ : ∃ z, z = u4_ := ⟨_, rfl⟩
                      obtain ⟨jv3, kv3⟩ := eu4_
                      have hP : va_P D vwCl [(b 0, .inr (6, moF b v3)), ((b 9), .inl (T 0, 60, .inl (tx)))] H := hP
                      have hD : va_D A [(b 0, .inr (6, moF b v3)), ((b 9), .inl (T 0, 60, .inl (tx)))] := hD
                      have f2v3 : v3 2 = nI len := (kv3.1 2 (by decide) (by decide)).trans f2u2
                      have f7v3 : v3 7 = 98 := (kv3.1 7 (by decide) (by decide)).trans f7u2
                      have f8v3 : v3 8 = nI (dg (tch tx len (i + 1))) := (kv3.1 8 (by decide) (by decide)).trans f8u2
                      have f9v3 : v3 9 = 0 := (kv3.1 9 (by decide) (by decide)).trans f9u2
                      have Tv3 : vT v v3 := vT_R Tu2 kv3.1
                      obtain ⟨-, f6v3, f5v3⟩ := kv3.2.resolve_right (fun z => z.1 ⟨f6u2, eq61.mpr y2⟩)
                      skip
                      refine lv_istore_n (lv' := [(1, .int r3_), (0, .ref (b 0))]) hx hb dX6_readThing_172 rfl hl (by decide) rfl (fun ls hl => ?_)
                      refine lv_aload_n hx hb dX6_readThing_173 rfl (lv_at hl 1 rfl) ?_
                      refine lv_aload_n hx hb dX6_readThing_174 rfl (lv_at hl 1 rfl) ?_
                      refine lv_iconst (v := 0) hx hb dX6_readThing_175 (by decide) ?_
                      refine lv_aload_n hx hb dX6_readThing_176 rfl (lv_at hl 1 rfl) ?_
                      refine va_get (D := D) (ci := 6) (v := .int (v3 7)) (C := RX6) (T := TX6) (N := 22) hx hb hts inwX6_readThing_X6 hown hK hP 0 rfl rfl 16 (by decide) (hts (.fieldLink RX6 166 "PlateSlabsModel" "letter" "I") (List.mem_of_getElem? (i := 4) rfl)) (fun _ h9 => h9) rfl dX6_readThing_177 ?_
                      refine lv_tpi (z := 98) (f7v3) ?_
                      refine lv_bipush (v := 98) hx hb dX6_readThing_180 (by decide) ?_
                      refine lv_icmp_ne (tgt := 190) hx hb dX6_readThing_182 (by decide) (fun c182 => ?_) (fun c182 => ?_)
                      · skip
                        exact absurd rfl c182
                      · skip
                        refine lv_bipush (v := 30) hx hb dX6_readThing_185 (by decide) ?_
                        refine lv_goto (tgt := 192) hx hb dX6_readThing_187 (by decide) ?_
                        refine callMi (As := [.int 0, .int 30]) (wr := []) ⟨hx, hb, hml, hown, hts⟩ (mX6_takesNumber l T D b v3 tx (i + 3) len hlen hi3 f2v3 f5v3 (Or.inl f6v3) 0 30 (by decide) (by decide)) (cwV 2 hts gX6_readThing_X6_takesNumber rfl rfl rfl pdX6_takesNumber ⟨Nat.le_of_ble_eq_true rfl, Nat.le_of_ble_eq_true rfl⟩) hP hD hK hS hA xN_bl (fun U _ hW => XN_warm hW hX) (ci := 6) rfl rfl rfl hl.1 rfl rfl (Nat.le_of_ble_eq_true rfl) dX6_readThing_192 ⟨Nat.zero_le _, Nat.zero_le _⟩ (fun r5_ u6_ H locs eu6_ hP hD hS hkf => ?_)
                        obtain ⟨v4, rfl⟩ : ∃ z, z = u6_ := ⟨_, rfl⟩
                        have kv4 := eu6_
                        have hP : va_P D vwCl [(b 0, .inr (6, moF b v4)), ((b 9), .inl (T 0, 60, .inl (tx)))] H := hP
                        have hD : va_D A [(b 0, .inr (6, moF b v4)), ((b 9), .inl (T 0, 60, .inl (tx)))] := hD
                        have f2v4 : v4 2 = nI len := (kv4.1 2 (by decide) (by decide)).trans f2v3
                        have f7v4 : v4 7 = 98 := (kv4.1 7 (by decide) (by decide)).trans f7v3
                        have f8v4 : v4 8 = nI (dg (tch tx len (i + 1))) := (kv4.1 8 (by decide) (by decide)).trans f8v3
                        have f9v4 : v4 9 = 0 := (kv4.1 9 (by decide) (by decide)).trans f9v3
                        have Tv4 : vT v v4 := vT_R Tv3 kv4.1
                        obtain ⟨wv4, j2v4, -, nv4, rv4, f6v4, g5v4⟩ := kv4.2.resolve_right (fun z => z.1 ⟨f6v3, y3⟩)
                        obtain ⟨-, av4, bv4⟩ := num_fn nv4
                        have f5v4 : v4 5 = nI (nJ (tch tx len) (i + 3) 30) := by rw [g5v4, bv4]
                        refine lv_tpi (z := nI (nW (tch tx len) (i + 3) 30)) (by rw [rv4, av4]) ?_
                        skip
                        refine va_put (D := D) (ci := 6) (v := .int (nI (nW (tch tx len) (i + 3) 30))) (C := RX6) (T := TX6) (N := 22) hx hb hts inwX6_readThing_X6 tyX6 tyX6_ok nmX6 hown hK hP hD hS 0 rfl rfl 18 (by decide) (hts (.fieldLink RX6 175 "PlateSlabsModel" "second" "I") (List.mem_of_getElem? (i := 7) rfl)) (fun _ h9 => h9) rfl (tyX6_ok 18 (by decide)) (rfl) rfl (Nat.le_of_ble_eq_true rfl) dX6_readThing_195 (fun H locs hP hD hS => ?_)
                        have hP : va_P D vwCl [(b 0, .inr (6, moF b (upd v4 9 (nI (nW (tch tx len) (i + 3) 30))))), ((b 9), .inl (T 0, 60, .inl (tx)))] H := hP
                        have hD : va_D A [(b 0, .inr (6, moF b (upd v4 9 (nI (nW (tch tx len) (i + 3) 30))))), ((b 9), .inl (T 0, 60, .inl (tx)))] := hD
                        refine lv_goto (tgt := 222) hx hb dX6_readThing_198 (by decide) ?_
                        obtain ⟨u9, eu9⟩ : ∃ z, z = upd v4 9 (nI (nW (tch tx len) (i + 3) 30)) := ⟨_, rfl⟩
                        rw [← eu9] at hP hD
                        have Tu9 : vT v u9 := by rw [eu9]; exact (vT_u Tv4 _ (by decide) (by decide))
                        have f2u9 : u9 2 = nI len := by rw [eu9]; exact f2v4
                        have f5u9 : u9 5 = nI (nJ (tch tx len) (i + 3) 30) := by rw [eu9]; exact f5v4
                        have f6u9 : u9 6 = 0 := by rw [eu9]; exact f6v4
                        have f7u9 : u9 7 = 98 := by rw [eu9]; exact f7v4
                        have f8u9 : u9 8 = nI (dg (tch tx len (i + 1))) := by rw [eu9]; exact f8v4
                        have f9u9 : u9 9 = nI (nW (tch tx len) (i + 3) 30) := by rw [eu9]; rfl
                        have hP : va_P D vwCl [(b 0, .inr (6, moF b u9)), ((b 9), .inl (T 0, 60, .inl (tx)))] H := hP
                        have hD : va_D A [(b 0, .inr (6, moF b u9)), ((b 9), .inl (T 0, 60, .inl (tx)))] := hD
                        have hL := th_b1 (c := tch tx len) (i := i) (Or.inl ech.symm : tch tx len i = 98 ∨ tch tx len i = 100) y1 y2 y3
                        exact hret _ _ u9 _ _ dX6_readThing_222 hS hP hD ⟨Tu9, by rw [hL.2.2.2, ← ech, show tHi 98 = 30 from if_pos rfl]; exact f5u9, Or.inl ⟨hL.1, f6u9, by rw [← ech]; exact f7u9, by rw [hL.2.1]; exact f8u9, by rw [hL.2.2.1, ← ech, show tHi 98 = 30 from if_pos rfl]; exact f9u9⟩⟩
                    · skip
                      exact absurd rfl c152
                  · skip
                    exact absurd c117 (by decide)
                · skip
                  exact absurd rfl c98
              · skip
                exact absurd rfl c42
          · skip
            have hP : va_P D vwCl [(b 0, .inr (6, moF b (upd v 7 98))), ((b 9), .inl (T 0, 60, .inl (tx)))] H := hP
            have hD : va_D A [(b 0, .inr (6, moF b (upd v 7 98))), ((b 9), .inl (T 0, 60, .inl (tx)))] := hD
            refine lv_aload_n hx hb dX6_readThing_28 rfl (lv_at hl 0 rfl) ?_
            refine lv_aload_n hx hb dX6_readThing_29 rfl (lv_at hl 0 rfl) ?_
            refine va_get (D := D) (ci := 6) (v := .int (v 6)) (C := RX6) (T := TX6) (N := 22) hx hb hts inwX6_readThing_X6 hown hK hP 0 rfl rfl 15 (by decide) (hts (.fieldLink RX6 152 "PlateSlabsModel" "isWrong" "Z") (List.mem_of_getElem? (i := 5) rfl)) (fun _ h9 => h9) rfl dX6_readThing_30 ?_
            refine lv_if_ne (tgt := 81) hx hb dX6_readThing_33 (by decide) (fun c33 => ?_) (fun c33 => ?_)
            · skip
              exact absurd h6 c33
            · skip
              refine lv_aload_n hx hb dX6_readThing_36 rfl (lv_at hl 0 rfl) ?_
              refine va_get (D := D) (ci := 6) (v := .int 98) (C := RX6) (T := TX6) (N := 22) hx hb hts inwX6_readThing_X6 hown hK hP 0 rfl rfl 16 (by decide) (hts (.fieldLink RX6 166 "PlateSlabsModel" "letter" "I") (List.mem_of_getElem? (i := 4) rfl)) (fun _ h9 => h9) rfl dX6_readThing_37 ?_
              refine lv_bipush (v := 98) hx hb dX6_readThing_40 (by decide) ?_
              refine lv_icmp_eq (tgt := 85) hx hb dX6_readThing_42 (by decide) (fun c42 => ?_) (fun c42 => ?_)
              · skip
                refine lv_iconst (v := 0) hx hb dX6_readThing_85 (by decide) ?_
                refine va_put (D := D) (ci := 6) (v := .int 0) (C := RX6) (T := TX6) (N := 22) hx hb hts inwX6_readThing_X6 tyX6 tyX6_ok nmX6 hown hK hP hD hS 0 rfl rfl 15 (by decide) (hts (.fieldLink RX6 152 "PlateSlabsModel" "isWrong" "Z") (List.mem_of_getElem? (i := 5) rfl)) (fun _ h9 => h9) rfl (tyX6_ok 15 (by decide)) (rfl) rfl (Nat.le_of_ble_eq_true rfl) dX6_readThing_86 (fun H locs hP hD hS => ?_)
                have hP : va_P D vwCl [(b 0, .inr (6, moF b (upd (upd v 7 98) 6 0))), ((b 9), .inl (T 0, 60, .inl (tx)))] H := hP
                have hD : va_D A [(b 0, .inr (6, moF b (upd (upd v 7 98) 6 0))), ((b 9), .inl (T 0, 60, .inl (tx)))] := hD
                refine lv_aload_n hx hb dX6_readThing_89 rfl (lv_at hl 0 rfl) ?_
                refine lv_dup hx hb dX6_readThing_90 rfl ?_
                refine va_get (D := D) (ci := 6) (v := .int (v 5)) (C := RX6) (T := TX6) (N := 22) hx hb hts inwX6_readThing_X6 hown hK hP 0 rfl rfl 14 (by decide) (hts (.fieldLink RX6 156 "PlateSlabsModel" "position" "I") (List.mem_of_getElem? (i := 1) rfl)) (fun _ h9 => h9) rfl dX6_readThing_91 ?_
                refine lv_aload_n hx hb dX6_readThing_94 rfl (lv_at hl 0 rfl) ?_
                refine va_get (D := D) (ci := 6) (v := .int 0) (C := RX6) (T := TX6) (N := 22) hx hb hts inwX6_readThing_X6 hown hK hP 0 rfl rfl 15 (by decide) (hts (.fieldLink RX6 152 "PlateSlabsModel" "isWrong" "Z") (List.mem_of_getElem? (i := 5) rfl)) (fun _ h9 => h9) rfl dX6_readThing_95 ?_
                refine lv_if_eq (tgt := 105) hx hb dX6_readThing_98 (by decide) (fun c98 => ?_) (fun c98 => ?_)
                · skip
                  refine lv_iconst (v := 1) hx hb dX6_readThing_105 (by decide) ?_
                  refine lv_iadd hx hb dX6_readThing_106 ?_
                  refine lv_tpi (z := nI (i + 1)) (by rw [h5]; exact nI_1 i) ?_
                  refine va_put (D := D) (ci := 6) (v := .int (nI (i + 1))) (C := RX6) (T := TX6) (N := 22) hx hb hts inwX6_readThing_X6 tyX6 tyX6_ok nmX6 hown hK hP hD hS 0 rfl rfl 14 (by decide) (hts (.fieldLink RX6 156 "PlateSlabsModel" "position" "I") (List.mem_of_getElem? (i := 1) rfl)) (fun _ h9 => h9) rfl (tyX6_ok 14 (by decide)) (rfl) rfl (Nat.le_of_ble_eq_true rfl) dX6_readThing_107 (fun H locs hP hD hS => ?_)
                  have hP : va_P D vwCl [(b 0, .inr (6, moF b (upd (upd (upd v 7 98) 6 0) 5 (nI (i + 1))))), ((b 9), .inl (T 0, 60, .inl (tx)))] H := hP
                  have hD : va_D A [(b 0, .inr (6, moF b (upd (upd (upd v 7 98) 6 0) 5 (nI (i + 1))))), ((b 9), .inl (T 0, 60, .inl (tx)))] := hD
                  obtain ⟨v0, ev0⟩ : ∃ z, z = upd (upd (upd v 7 98) 6 0) 5 (nI (i + 1)) := ⟨_, rfl⟩
                  rw [← ev0] at hP hD
                  have Tv0 : vT v v0 := by rw [ev0]; exact (vT_u (vT_u (vT_u (vT_rf v) _ (by decide) (by decide)) _ (by decide) (by decide)) _ (by decide) (by decide))
                  have f2v0 : v0 2 = nI len := by rw [ev0]; exact h2
                  have f5v0 : v0 5 = nI (i + 1) := by rw [ev0]; rfl
                  have f6v0 : v0 6 = 0 := by rw [ev0]; rfl
                  have f7v0 : v0 7 = 98 := by rw [ev0]; rfl
                  have hP : va_P D vwCl [(b 0, .inr (6, moF b v0)), ((b 9), .inl (T 0, 60, .inl (tx)))] H := hP
                  have hD : va_D A [(b 0, .inr (6, moF b v0)), ((b 9), .inl (T 0, 60, .inl (tx)))] := hD
                  refine lv_aload_n hx hb dX6_readThing_110 rfl (lv_at hl 0 rfl) ?_
                  refine lv_aload_n hx hb dX6_readThing_111 rfl (lv_at hl 0 rfl) ?_
                  refine va_get (D := D) (ci := 6) (v := .int (v0 7)) (C := RX6) (T := TX6) (N := 22) hx hb hts inwX6_readThing_X6 hown hK hP 0 rfl rfl 16 (by decide) (hts (.fieldLink RX6 166 "PlateSlabsModel" "letter" "I") (List.mem_of_getElem? (i := 4) rfl)) (fun _ h9 => h9) rfl dX6_readThing_112 ?_
                  refine lv_tpi (z := 98) (f7v0) ?_
                  refine lv_bipush (v := 46) hx hb dX6_readThing_115 (by decide) ?_
                  refine lv_icmp_ne (tgt := 130) hx hb dX6_readThing_117 (by decide) (fun c117 => ?_) (fun c117 => ?_)
                  · skip
                    refine lv_aload_n hx hb dX6_readThing_130 rfl (lv_at hl 0 rfl) ?_
                    refine lv_bipush (v := 48) hx hb dX6_readThing_131 (by decide) ?_
                    refine lv_bipush (v := 51) hx hb dX6_readThing_133 (by decide) ?_
                    refine callMi (As := [.int 48, .int 51]) (wr := []) ⟨hx, hb, hml, hown, hts⟩ (mX6_takes l T D b v0 tx (i + 1) len hlen hi1 f2v0 f5v0 (Or.inl f6v0) 48 51) (cwV 2 hts gX6_readThing_X6_takes rfl rfl rfl pdX6_takes ⟨Nat.le_of_ble_eq_true rfl, Nat.le_of_ble_eq_true rfl⟩) hP hD hK hS hA xN_bl (fun U _ hW => XN_warm hW hX) (ci := 6) rfl rfl rfl hl.1 rfl rfl (Nat.le_of_ble_eq_true rfl) dX6_readThing_135 ⟨Nat.zero_le _, Nat.zero_le _⟩ (fun r7_ u8_ H locs eu8_ hP hD hS hkf => ?_)
                    obtain ⟨v1, rfl⟩ : ∃ z, z = u8_ := ⟨_, rfl⟩
                    obtain ⟨jv1, kv1⟩ := eu8_
                    have hP : va_P D vwCl [(b 0, .inr (6, moF b v1)), ((b 9), .inl (T 0, 60, .inl (tx)))] H := hP
                    have hD : va_D A [(b 0, .inr (6, moF b v1)), ((b 9), .inl (T 0, 60, .inl (tx)))] := hD
                    have f2v1 : v1 2 = nI len := (kv1.1 2 (by decide) (by decide)).trans f2v0
                    have f7v1 : v1 7 = 98 := (kv1.1 7 (by decide) (by decide)).trans f7v0
                    have Tv1 : vT v v1 := vT_R Tv0 kv1.1
                    obtain ⟨-, f6v1, f5v1⟩ := kv1.2.resolve_right (fun z => z.1 ⟨f6v0, y1⟩)
                    skip
                    refine va_put (D := D) (ci := 6) (v := .int r7_) (C := RX6) (T := TX6) (N := 22) hx hb hts inwX6_readThing_X6 tyX6 tyX6_ok nmX6 hown hK hP hD hS 0 rfl rfl 17 (by decide) (hts (.fieldLink RX6 172 "PlateSlabsModel" "first" "I") (List.mem_of_getElem? (i := 6) rfl)) (fun _ h9 => h9) rfl (tyX6_ok 17 (by decide)) (rfl) rfl (Nat.le_of_ble_eq_true rfl) dX6_readThing_138 (fun H locs hP hD hS => ?_)
                    have hP : va_P D vwCl [(b 0, .inr (6, moF b (upd v1 8 r7_))), ((b 9), .inl (T 0, 60, .inl (tx)))] H := hP
                    have hD : va_D A [(b 0, .inr (6, moF b (upd v1 8 r7_))), ((b 9), .inl (T 0, 60, .inl (tx)))] := hD
                    obtain ⟨u1, eu1⟩ : ∃ z, z = upd v1 8 r7_ := ⟨_, rfl⟩
                    rw [← eu1] at hP hD
                    have Tu1 : vT v u1 := by rw [eu1]; exact (vT_u Tv1 _ (by decide) (by decide))
                    have f2u1 : u1 2 = nI len := by rw [eu1]; exact f2v1
                    have f5u1 : u1 5 = nI (i + 2) := by rw [eu1]; exact f5v1
                    have f6u1 : u1 6 = 0 := by rw [eu1]; exact f6v1
                    have f7u1 : u1 7 = 98 := by rw [eu1]; exact f7v1
                    have hP : va_P D vwCl [(b 0, .inr (6, moF b u1)), ((b 9), .inl (T 0, 60, .inl (tx)))] H := hP
                    have hD : va_D A [(b 0, .inr (6, moF b u1)), ((b 9), .inl (T 0, 60, .inl (tx)))] := hD
                    refine lv_aload_n hx hb dX6_readThing_141 rfl (lv_at hl 0 rfl) ?_
                    refine lv_iconst (v := 0) hx hb dX6_readThing_142 (by decide) ?_
                    refine va_put (D := D) (ci := 6) (v := .int 0) (C := RX6) (T := TX6) (N := 22) hx hb hts inwX6_readThing_X6 tyX6 tyX6_ok nmX6 hown hK hP hD hS 0 rfl rfl 18 (by decide) (hts (.fieldLink RX6 175 "PlateSlabsModel" "second" "I") (List.mem_of_getElem? (i := 7) rfl)) (fun _ h9 => h9) rfl (tyX6_ok 18 (by decide)) (rfl) rfl (Nat.le_of_ble_eq_true rfl) dX6_readThing_143 (fun H locs hP hD hS => ?_)
                    have hP : va_P D vwCl [(b 0, .inr (6, moF b (upd u1 9 0))), ((b 9), .inl (T 0, 60, .inl (tx)))] H := hP
                    have hD : va_D A [(b 0, .inr (6, moF b (upd u1 9 0))), ((b 9), .inl (T 0, 60, .inl (tx)))] := hD
                    obtain ⟨u2, eu2⟩ : ∃ z, z = upd u1 9 0 := ⟨_, rfl⟩
                    rw [← eu2] at hP hD
                    have Tu2 : vT v u2 := by rw [eu2]; exact (vT_u Tu1 _ (by decide) (by decide))
                    have f2u2 : u2 2 = nI len := by rw [eu2]; exact f2u1
                    have f5u2 : u2 5 = nI (i + 2) := by rw [eu2]; exact f5u1
                    have f6u2 : u2 6 = 0 := by rw [eu2]; exact f6u1
                    have f7u2 : u2 7 = 98 := by rw [eu2]; exact f7u1
                    have hP : va_P D vwCl [(b 0, .inr (6, moF b u2)), ((b 9), .inl (T 0, 60, .inl (tx)))] H := hP
                    have hD : va_D A [(b 0, .inr (6, moF b u2)), ((b 9), .inl (T 0, 60, .inl (tx)))] := hD
                    refine lv_aload_n hx hb dX6_readThing_146 rfl (lv_at hl 0 rfl) ?_
                    refine va_get (D := D) (ci := 6) (v := .int (u2 7)) (C := RX6) (T := TX6) (N := 22) hx hb hts inwX6_readThing_X6 hown hK hP 0 rfl rfl 16 (by decide) (hts (.fieldLink RX6 166 "PlateSlabsModel" "letter" "I") (List.mem_of_getElem? (i := 4) rfl)) (fun _ h9 => h9) rfl dX6_readThing_147 ?_
                    refine lv_tpi (z := 98) (f7u2) ?_
                    refine lv_bipush (v := 98) hx hb dX6_readThing_150 (by decide) ?_
                    refine lv_icmp_eq (tgt := 164) hx hb dX6_readThing_152 (by decide) (fun c152 => ?_) (fun c152 => ?_)
                    · skip
                      refine lv_aload_n hx hb dX6_readThing_164 rfl (lv_at hl 0 rfl) ?_
                      refine lv_bipush (v := 61) hx hb dX6_readThing_165 (by decide) ?_
                      refine lv_bipush (v := 61) hx hb dX6_readThing_167 (by decide) ?_
                      refine callMi (As := [.int 61, .int 61]) (wr := []) ⟨hx, hb, hml, hown, hts⟩ (mX6_takes l T D b u2 tx (i + 2) len hlen hi2 f2u2 f5u2 (Or.inl f6u2) 61 61) (cwV 2 hts gX6_readThing_X6_takes rfl rfl rfl pdX6_takes ⟨Nat.le_of_ble_eq_true rfl, Nat.le_of_ble_eq_true rfl⟩) hP hD hK hS hA xN_bl (fun U _ hW => XN_warm hW hX) (ci := 6) rfl rfl rfl hl.1 rfl rfl (Nat.le_of_ble_eq_true rfl) dX6_readThing_169 ⟨Nat.zero_le _, Nat.zero_le _⟩ (fun r9_ u10_ H locs eu10_ hP hD hS hkf => ?_)
                      obtain ⟨v3, rfl⟩ : ∃ z, z = u10_ := ⟨_, rfl⟩
                      obtain ⟨jv3, kv3⟩ := eu10_
                      have hP : va_P D vwCl [(b 0, .inr (6, moF b v3)), ((b 9), .inl (T 0, 60, .inl (tx)))] H := hP
                      have hD : va_D A [(b 0, .inr (6, moF b v3)), ((b 9), .inl (T 0, 60, .inl (tx)))] := hD
                      have f2v3 : v3 2 = nI len := (kv3.1 2 (by decide) (by decide)).trans f2u2
                      have f7v3 : v3 7 = 98 := (kv3.1 7 (by decide) (by decide)).trans f7u2
                      have Tv3 : vT v v3 := vT_R Tu2 kv3.1
                      obtain ⟨-, f6v3, f5v3⟩ := kv3.2.resolve_right (fun z => z.1 ⟨f6u2, eq61.mpr y2⟩)
                      skip
                      refine lv_istore_n (lv' := [(1, .int r9_), (0, .ref (b 0))]) hx hb dX6_readThing_172 rfl hl (by decide) rfl (fun ls hl => ?_)
                      refine lv_aload_n hx hb dX6_readThing_173 rfl (lv_at hl 1 rfl) ?_
                      refine lv_aload_n hx hb dX6_readThing_174 rfl (lv_at hl 1 rfl) ?_
                      refine lv_iconst (v := 0) hx hb dX6_readThing_175 (by decide) ?_
                      refine lv_aload_n hx hb dX6_readThing_176 rfl (lv_at hl 1 rfl) ?_
                      refine va_get (D := D) (ci := 6) (v := .int (v3 7)) (C := RX6) (T := TX6) (N := 22) hx hb hts inwX6_readThing_X6 hown hK hP 0 rfl rfl 16 (by decide) (hts (.fieldLink RX6 166 "PlateSlabsModel" "letter" "I") (List.mem_of_getElem? (i := 4) rfl)) (fun _ h9 => h9) rfl dX6_readThing_177 ?_
                      refine lv_tpi (z := 98) (f7v3) ?_
                      refine lv_bipush (v := 98) hx hb dX6_readThing_180 (by decide) ?_
                      refine lv_icmp_ne (tgt := 190) hx hb dX6_readThing_182 (by decide) (fun c182 => ?_) (fun c182 => ?_)
                      · skip
                        exact absurd rfl c182
                      · skip
                        refine lv_bipush (v := 30) hx hb dX6_readThing_185 (by decide) ?_
                        refine lv_goto (tgt := 192) hx hb dX6_readThing_187 (by decide) ?_
                        refine callMi (As := [.int 0, .int 30]) (wr := []) ⟨hx, hb, hml, hown, hts⟩ (mX6_takesNumber l T D b v3 tx (i + 3) len hlen hi3 f2v3 f5v3 (Or.inl f6v3) 0 30 (by decide) (by decide)) (cwV 2 hts gX6_readThing_X6_takesNumber rfl rfl rfl pdX6_takesNumber ⟨Nat.le_of_ble_eq_true rfl, Nat.le_of_ble_eq_true rfl⟩) hP hD hK hS hA xN_bl (fun U _ hW => XN_warm hW hX) (ci := 6) rfl rfl rfl hl.1 rfl rfl (Nat.le_of_ble_eq_true rfl) dX6_readThing_192 ⟨Nat.zero_le _, Nat.zero_le _⟩ (fun r11_ u12_ H locs eu12_ hP hD hS hkf => ?_)
                        obtain ⟨v4, rfl⟩ : ∃ z, z = u12_ := ⟨_, rfl⟩
                        have kv4 := eu12_
                        have hP : va_P D vwCl [(b 0, .inr (6, moF b v4)), ((b 9), .inl (T 0, 60, .inl (tx)))] H := hP
                        have hD : va_D A [(b 0, .inr (6, moF b v4)), ((b 9), .inl (T 0, 60, .inl (tx)))] := hD
                        have f2v4 : v4 2 = nI len := (kv4.1 2 (by decide) (by decide)).trans f2v3
                        have f7v4 : v4 7 = 98 := (kv4.1 7 (by decide) (by decide)).trans f7v3
                        have Tv4 : vT v v4 := vT_R Tv3 kv4.1
                        obtain ⟨-, f6v4, f5v4⟩ := kv4.2.resolve_left (fun ⟨_, _, _, z, _⟩ => y3 (num_fn z).1)
                        skip
                        refine va_put (D := D) (ci := 6) (v := .int r11_) (C := RX6) (T := TX6) (N := 22) hx hb hts inwX6_readThing_X6 tyX6 tyX6_ok nmX6 hown hK hP hD hS 0 rfl rfl 18 (by decide) (hts (.fieldLink RX6 175 "PlateSlabsModel" "second" "I") (List.mem_of_getElem? (i := 7) rfl)) (fun _ h9 => h9) rfl (tyX6_ok 18 (by decide)) (rfl) rfl (Nat.le_of_ble_eq_true rfl) dX6_readThing_195 (fun H locs hP hD hS => ?_)
                        have hP : va_P D vwCl [(b 0, .inr (6, moF b (upd v4 9 r11_))), ((b 9), .inl (T 0, 60, .inl (tx)))] H := hP
                        have hD : va_D A [(b 0, .inr (6, moF b (upd v4 9 r11_))), ((b 9), .inl (T 0, 60, .inl (tx)))] := hD
                        refine lv_goto (tgt := 222) hx hb dX6_readThing_198 (by decide) ?_
                        obtain ⟨u9, eu9⟩ : ∃ z, z = upd v4 9 r11_ := ⟨_, rfl⟩
                        rw [← eu9] at hP hD
                        have Tu9 : vT v u9 := by rw [eu9]; exact (vT_u Tv4 _ (by decide) (by decide))
                        have f2u9 : u9 2 = nI len := by rw [eu9]; exact f2v4
                        have f5u9 : u9 5 = nI (i + 3) := by rw [eu9]; exact f5v4
                        have f6u9 : u9 6 = 1 := by rw [eu9]; exact f6v4
                        have f7u9 : u9 7 = 98 := by rw [eu9]; exact f7v4
                        have hP : va_P D vwCl [(b 0, .inr (6, moF b u9)), ((b 9), .inl (T 0, 60, .inl (tx)))] H := hP
                        have hD : va_D A [(b 0, .inr (6, moF b u9)), ((b 9), .inl (T 0, 60, .inl (tx)))] := hD
                        have hL := th_b02 (c := tch tx len) (i := i) (Or.inl ech.symm : tch tx len i = 98 ∨ tch tx len i = 100) y1 y2 y3
                        exact hret _ _ u9 _ _ dX6_readThing_222 hS hP hD ⟨Tu9, by rw [hL.2]; exact f5u9, Or.inr ⟨hL.1, f6u9⟩⟩
                    · skip
                      exact absurd rfl c152
                  · skip
                    exact absurd c117 (by decide)
                · skip
                  exact absurd rfl c98
              · skip
                exact absurd rfl c42
        · skip
          have hP : va_P D vwCl [(b 0, .inr (6, moF b (upd v 7 98))), ((b 9), .inl (T 0, 60, .inl (tx)))] H := hP
          have hD : va_D A [(b 0, .inr (6, moF b (upd v 7 98))), ((b 9), .inl (T 0, 60, .inl (tx)))] := hD
          refine lv_aload_n hx hb dX6_readThing_28 rfl (lv_at hl 0 rfl) ?_
          refine lv_aload_n hx hb dX6_readThing_29 rfl (lv_at hl 0 rfl) ?_
          refine va_get (D := D) (ci := 6) (v := .int (v 6)) (C := RX6) (T := TX6) (N := 22) hx hb hts inwX6_readThing_X6 hown hK hP 0 rfl rfl 15 (by decide) (hts (.fieldLink RX6 152 "PlateSlabsModel" "isWrong" "Z") (List.mem_of_getElem? (i := 5) rfl)) (fun _ h9 => h9) rfl dX6_readThing_30 ?_
          refine lv_if_ne (tgt := 81) hx hb dX6_readThing_33 (by decide) (fun c33 => ?_) (fun c33 => ?_)
          · skip
            exact absurd h6 c33
          · skip
            refine lv_aload_n hx hb dX6_readThing_36 rfl (lv_at hl 0 rfl) ?_
            refine va_get (D := D) (ci := 6) (v := .int 98) (C := RX6) (T := TX6) (N := 22) hx hb hts inwX6_readThing_X6 hown hK hP 0 rfl rfl 16 (by decide) (hts (.fieldLink RX6 166 "PlateSlabsModel" "letter" "I") (List.mem_of_getElem? (i := 4) rfl)) (fun _ h9 => h9) rfl dX6_readThing_37 ?_
            refine lv_bipush (v := 98) hx hb dX6_readThing_40 (by decide) ?_
            refine lv_icmp_eq (tgt := 85) hx hb dX6_readThing_42 (by decide) (fun c42 => ?_) (fun c42 => ?_)
            · skip
              refine lv_iconst (v := 0) hx hb dX6_readThing_85 (by decide) ?_
              refine va_put (D := D) (ci := 6) (v := .int 0) (C := RX6) (T := TX6) (N := 22) hx hb hts inwX6_readThing_X6 tyX6 tyX6_ok nmX6 hown hK hP hD hS 0 rfl rfl 15 (by decide) (hts (.fieldLink RX6 152 "PlateSlabsModel" "isWrong" "Z") (List.mem_of_getElem? (i := 5) rfl)) (fun _ h9 => h9) rfl (tyX6_ok 15 (by decide)) (rfl) rfl (Nat.le_of_ble_eq_true rfl) dX6_readThing_86 (fun H locs hP hD hS => ?_)
              have hP : va_P D vwCl [(b 0, .inr (6, moF b (upd (upd v 7 98) 6 0))), ((b 9), .inl (T 0, 60, .inl (tx)))] H := hP
              have hD : va_D A [(b 0, .inr (6, moF b (upd (upd v 7 98) 6 0))), ((b 9), .inl (T 0, 60, .inl (tx)))] := hD
              refine lv_aload_n hx hb dX6_readThing_89 rfl (lv_at hl 0 rfl) ?_
              refine lv_dup hx hb dX6_readThing_90 rfl ?_
              refine va_get (D := D) (ci := 6) (v := .int (v 5)) (C := RX6) (T := TX6) (N := 22) hx hb hts inwX6_readThing_X6 hown hK hP 0 rfl rfl 14 (by decide) (hts (.fieldLink RX6 156 "PlateSlabsModel" "position" "I") (List.mem_of_getElem? (i := 1) rfl)) (fun _ h9 => h9) rfl dX6_readThing_91 ?_
              refine lv_aload_n hx hb dX6_readThing_94 rfl (lv_at hl 0 rfl) ?_
              refine va_get (D := D) (ci := 6) (v := .int 0) (C := RX6) (T := TX6) (N := 22) hx hb hts inwX6_readThing_X6 hown hK hP 0 rfl rfl 15 (by decide) (hts (.fieldLink RX6 152 "PlateSlabsModel" "isWrong" "Z") (List.mem_of_getElem? (i := 5) rfl)) (fun _ h9 => h9) rfl dX6_readThing_95 ?_
              refine lv_if_eq (tgt := 105) hx hb dX6_readThing_98 (by decide) (fun c98 => ?_) (fun c98 => ?_)
              · skip
                refine lv_iconst (v := 1) hx hb dX6_readThing_105 (by decide) ?_
                refine lv_iadd hx hb dX6_readThing_106 ?_
                refine lv_tpi (z := nI (i + 1)) (by rw [h5]; exact nI_1 i) ?_
                refine va_put (D := D) (ci := 6) (v := .int (nI (i + 1))) (C := RX6) (T := TX6) (N := 22) hx hb hts inwX6_readThing_X6 tyX6 tyX6_ok nmX6 hown hK hP hD hS 0 rfl rfl 14 (by decide) (hts (.fieldLink RX6 156 "PlateSlabsModel" "position" "I") (List.mem_of_getElem? (i := 1) rfl)) (fun _ h9 => h9) rfl (tyX6_ok 14 (by decide)) (rfl) rfl (Nat.le_of_ble_eq_true rfl) dX6_readThing_107 (fun H locs hP hD hS => ?_)
                have hP : va_P D vwCl [(b 0, .inr (6, moF b (upd (upd (upd v 7 98) 6 0) 5 (nI (i + 1))))), ((b 9), .inl (T 0, 60, .inl (tx)))] H := hP
                have hD : va_D A [(b 0, .inr (6, moF b (upd (upd (upd v 7 98) 6 0) 5 (nI (i + 1))))), ((b 9), .inl (T 0, 60, .inl (tx)))] := hD
                obtain ⟨v0, ev0⟩ : ∃ z, z = upd (upd (upd v 7 98) 6 0) 5 (nI (i + 1)) := ⟨_, rfl⟩
                rw [← ev0] at hP hD
                have Tv0 : vT v v0 := by rw [ev0]; exact (vT_u (vT_u (vT_u (vT_rf v) _ (by decide) (by decide)) _ (by decide) (by decide)) _ (by decide) (by decide))
                have f2v0 : v0 2 = nI len := by rw [ev0]; exact h2
                have f5v0 : v0 5 = nI (i + 1) := by rw [ev0]; rfl
                have f6v0 : v0 6 = 0 := by rw [ev0]; rfl
                have f7v0 : v0 7 = 98 := by rw [ev0]; rfl
                have hP : va_P D vwCl [(b 0, .inr (6, moF b v0)), ((b 9), .inl (T 0, 60, .inl (tx)))] H := hP
                have hD : va_D A [(b 0, .inr (6, moF b v0)), ((b 9), .inl (T 0, 60, .inl (tx)))] := hD
                refine lv_aload_n hx hb dX6_readThing_110 rfl (lv_at hl 0 rfl) ?_
                refine lv_aload_n hx hb dX6_readThing_111 rfl (lv_at hl 0 rfl) ?_
                refine va_get (D := D) (ci := 6) (v := .int (v0 7)) (C := RX6) (T := TX6) (N := 22) hx hb hts inwX6_readThing_X6 hown hK hP 0 rfl rfl 16 (by decide) (hts (.fieldLink RX6 166 "PlateSlabsModel" "letter" "I") (List.mem_of_getElem? (i := 4) rfl)) (fun _ h9 => h9) rfl dX6_readThing_112 ?_
                refine lv_tpi (z := 98) (f7v0) ?_
                refine lv_bipush (v := 46) hx hb dX6_readThing_115 (by decide) ?_
                refine lv_icmp_ne (tgt := 130) hx hb dX6_readThing_117 (by decide) (fun c117 => ?_) (fun c117 => ?_)
                · skip
                  refine lv_aload_n hx hb dX6_readThing_130 rfl (lv_at hl 0 rfl) ?_
                  refine lv_bipush (v := 48) hx hb dX6_readThing_131 (by decide) ?_
                  refine lv_bipush (v := 51) hx hb dX6_readThing_133 (by decide) ?_
                  refine callMi (As := [.int 48, .int 51]) (wr := []) ⟨hx, hb, hml, hown, hts⟩ (mX6_takes l T D b v0 tx (i + 1) len hlen hi1 f2v0 f5v0 (Or.inl f6v0) 48 51) (cwV 2 hts gX6_readThing_X6_takes rfl rfl rfl pdX6_takes ⟨Nat.le_of_ble_eq_true rfl, Nat.le_of_ble_eq_true rfl⟩) hP hD hK hS hA xN_bl (fun U _ hW => XN_warm hW hX) (ci := 6) rfl rfl rfl hl.1 rfl rfl (Nat.le_of_ble_eq_true rfl) dX6_readThing_135 ⟨Nat.zero_le _, Nat.zero_le _⟩ (fun r13_ u14_ H locs eu14_ hP hD hS hkf => ?_)
                  obtain ⟨v1, rfl⟩ : ∃ z, z = u14_ := ⟨_, rfl⟩
                  obtain ⟨jv1, kv1⟩ := eu14_
                  have hP : va_P D vwCl [(b 0, .inr (6, moF b v1)), ((b 9), .inl (T 0, 60, .inl (tx)))] H := hP
                  have hD : va_D A [(b 0, .inr (6, moF b v1)), ((b 9), .inl (T 0, 60, .inl (tx)))] := hD
                  have f2v1 : v1 2 = nI len := (kv1.1 2 (by decide) (by decide)).trans f2v0
                  have f7v1 : v1 7 = 98 := (kv1.1 7 (by decide) (by decide)).trans f7v0
                  have Tv1 : vT v v1 := vT_R Tv0 kv1.1
                  obtain ⟨-, f6v1, f5v1⟩ := kv1.2.resolve_right (fun z => z.1 ⟨f6v0, y1⟩)
                  skip
                  refine va_put (D := D) (ci := 6) (v := .int r13_) (C := RX6) (T := TX6) (N := 22) hx hb hts inwX6_readThing_X6 tyX6 tyX6_ok nmX6 hown hK hP hD hS 0 rfl rfl 17 (by decide) (hts (.fieldLink RX6 172 "PlateSlabsModel" "first" "I") (List.mem_of_getElem? (i := 6) rfl)) (fun _ h9 => h9) rfl (tyX6_ok 17 (by decide)) (rfl) rfl (Nat.le_of_ble_eq_true rfl) dX6_readThing_138 (fun H locs hP hD hS => ?_)
                  have hP : va_P D vwCl [(b 0, .inr (6, moF b (upd v1 8 r13_))), ((b 9), .inl (T 0, 60, .inl (tx)))] H := hP
                  have hD : va_D A [(b 0, .inr (6, moF b (upd v1 8 r13_))), ((b 9), .inl (T 0, 60, .inl (tx)))] := hD
                  obtain ⟨u1, eu1⟩ : ∃ z, z = upd v1 8 r13_ := ⟨_, rfl⟩
                  rw [← eu1] at hP hD
                  have Tu1 : vT v u1 := by rw [eu1]; exact (vT_u Tv1 _ (by decide) (by decide))
                  have f2u1 : u1 2 = nI len := by rw [eu1]; exact f2v1
                  have f5u1 : u1 5 = nI (i + 2) := by rw [eu1]; exact f5v1
                  have f6u1 : u1 6 = 0 := by rw [eu1]; exact f6v1
                  have f7u1 : u1 7 = 98 := by rw [eu1]; exact f7v1
                  have hP : va_P D vwCl [(b 0, .inr (6, moF b u1)), ((b 9), .inl (T 0, 60, .inl (tx)))] H := hP
                  have hD : va_D A [(b 0, .inr (6, moF b u1)), ((b 9), .inl (T 0, 60, .inl (tx)))] := hD
                  refine lv_aload_n hx hb dX6_readThing_141 rfl (lv_at hl 0 rfl) ?_
                  refine lv_iconst (v := 0) hx hb dX6_readThing_142 (by decide) ?_
                  refine va_put (D := D) (ci := 6) (v := .int 0) (C := RX6) (T := TX6) (N := 22) hx hb hts inwX6_readThing_X6 tyX6 tyX6_ok nmX6 hown hK hP hD hS 0 rfl rfl 18 (by decide) (hts (.fieldLink RX6 175 "PlateSlabsModel" "second" "I") (List.mem_of_getElem? (i := 7) rfl)) (fun _ h9 => h9) rfl (tyX6_ok 18 (by decide)) (rfl) rfl (Nat.le_of_ble_eq_true rfl) dX6_readThing_143 (fun H locs hP hD hS => ?_)
                  have hP : va_P D vwCl [(b 0, .inr (6, moF b (upd u1 9 0))), ((b 9), .inl (T 0, 60, .inl (tx)))] H := hP
                  have hD : va_D A [(b 0, .inr (6, moF b (upd u1 9 0))), ((b 9), .inl (T 0, 60, .inl (tx)))] := hD
                  obtain ⟨u2, eu2⟩ : ∃ z, z = upd u1 9 0 := ⟨_, rfl⟩
                  rw [← eu2] at hP hD
                  have Tu2 : vT v u2 := by rw [eu2]; exact (vT_u Tu1 _ (by decide) (by decide))
                  have f2u2 : u2 2 = nI len := by rw [eu2]; exact f2u1
                  have f5u2 : u2 5 = nI (i + 2) := by rw [eu2]; exact f5u1
                  have f6u2 : u2 6 = 0 := by rw [eu2]; exact f6u1
                  have f7u2 : u2 7 = 98 := by rw [eu2]; exact f7u1
                  have hP : va_P D vwCl [(b 0, .inr (6, moF b u2)), ((b 9), .inl (T 0, 60, .inl (tx)))] H := hP
                  have hD : va_D A [(b 0, .inr (6, moF b u2)), ((b 9), .inl (T 0, 60, .inl (tx)))] := hD
                  refine lv_aload_n hx hb dX6_readThing_146 rfl (lv_at hl 0 rfl) ?_
                  refine va_get (D := D) (ci := 6) (v := .int (u2 7)) (C := RX6) (T := TX6) (N := 22) hx hb hts inwX6_readThing_X6 hown hK hP 0 rfl rfl 16 (by decide) (hts (.fieldLink RX6 166 "PlateSlabsModel" "letter" "I") (List.mem_of_getElem? (i := 4) rfl)) (fun _ h9 => h9) rfl dX6_readThing_147 ?_
                  refine lv_tpi (z := 98) (f7u2) ?_
                  refine lv_bipush (v := 98) hx hb dX6_readThing_150 (by decide) ?_
                  refine lv_icmp_eq (tgt := 164) hx hb dX6_readThing_152 (by decide) (fun c152 => ?_) (fun c152 => ?_)
                  · skip
                    refine lv_aload_n hx hb dX6_readThing_164 rfl (lv_at hl 0 rfl) ?_
                    refine lv_bipush (v := 61) hx hb dX6_readThing_165 (by decide) ?_
                    refine lv_bipush (v := 61) hx hb dX6_readThing_167 (by decide) ?_
                    refine callMi (As := [.int 61, .int 61]) (wr := []) ⟨hx, hb, hml, hown, hts⟩ (mX6_takes l T D b u2 tx (i + 2) len hlen hi2 f2u2 f5u2 (Or.inl f6u2) 61 61) (cwV 2 hts gX6_readThing_X6_takes rfl rfl rfl pdX6_takes ⟨Nat.le_of_ble_eq_true rfl, Nat.le_of_ble_eq_true rfl⟩) hP hD hK hS hA xN_bl (fun U _ hW => XN_warm hW hX) (ci := 6) rfl rfl rfl hl.1 rfl rfl (Nat.le_of_ble_eq_true rfl) dX6_readThing_169 ⟨Nat.zero_le _, Nat.zero_le _⟩ (fun r15_ u16_ H locs eu16_ hP hD hS hkf => ?_)
                    obtain ⟨v3, rfl⟩ : ∃ z, z = u16_ := ⟨_, rfl⟩
                    obtain ⟨jv3, kv3⟩ := eu16_
                    have hP : va_P D vwCl [(b 0, .inr (6, moF b v3)), ((b 9), .inl (T 0, 60, .inl (tx)))] H := hP
                    have hD : va_D A [(b 0, .inr (6, moF b v3)), ((b 9), .inl (T 0, 60, .inl (tx)))] := hD
                    have f2v3 : v3 2 = nI len := (kv3.1 2 (by decide) (by decide)).trans f2u2
                    have f7v3 : v3 7 = 98 := (kv3.1 7 (by decide) (by decide)).trans f7u2
                    have Tv3 : vT v v3 := vT_R Tu2 kv3.1
                    obtain ⟨-, f6v3, f5v3⟩ := kv3.2.resolve_left (fun z => y2 (eq61.mp z.1.2))
                    skip
                    refine lv_istore_n (lv' := [(1, .int r15_), (0, .ref (b 0))]) hx hb dX6_readThing_172 rfl hl (by decide) rfl (fun ls hl => ?_)
                    refine lv_aload_n hx hb dX6_readThing_173 rfl (lv_at hl 1 rfl) ?_
                    refine lv_aload_n hx hb dX6_readThing_174 rfl (lv_at hl 1 rfl) ?_
                    refine lv_iconst (v := 0) hx hb dX6_readThing_175 (by decide) ?_
                    refine lv_aload_n hx hb dX6_readThing_176 rfl (lv_at hl 1 rfl) ?_
                    refine va_get (D := D) (ci := 6) (v := .int (v3 7)) (C := RX6) (T := TX6) (N := 22) hx hb hts inwX6_readThing_X6 hown hK hP 0 rfl rfl 16 (by decide) (hts (.fieldLink RX6 166 "PlateSlabsModel" "letter" "I") (List.mem_of_getElem? (i := 4) rfl)) (fun _ h9 => h9) rfl dX6_readThing_177 ?_
                    refine lv_tpi (z := 98) (f7v3) ?_
                    refine lv_bipush (v := 98) hx hb dX6_readThing_180 (by decide) ?_
                    refine lv_icmp_ne (tgt := 190) hx hb dX6_readThing_182 (by decide) (fun c182 => ?_) (fun c182 => ?_)
                    · skip
                      exact absurd rfl c182
                    · skip
                      refine lv_bipush (v := 30) hx hb dX6_readThing_185 (by decide) ?_
                      refine lv_goto (tgt := 192) hx hb dX6_readThing_187 (by decide) ?_
                      refine callMi (As := [.int 0, .int 30]) (wr := []) ⟨hx, hb, hml, hown, hts⟩ (mX6_takesNumber l T D b v3 tx (i + 2) len hlen hi2 f2v3 f5v3 (Or.inr f6v3) 0 30 (by decide) (by decide)) (cwV 2 hts gX6_readThing_X6_takesNumber rfl rfl rfl pdX6_takesNumber ⟨Nat.le_of_ble_eq_true rfl, Nat.le_of_ble_eq_true rfl⟩) hP hD hK hS hA xN_bl (fun U _ hW => XN_warm hW hX) (ci := 6) rfl rfl rfl hl.1 rfl rfl (Nat.le_of_ble_eq_true rfl) dX6_readThing_192 ⟨Nat.zero_le _, Nat.zero_le _⟩ (fun r17_ u18_ H locs eu18_ hP hD hS hkf => ?_)
                      obtain ⟨v4, rfl⟩ : ∃ z, z = u18_ := ⟨_, rfl⟩
                      have kv4 := eu18_
                      have hP : va_P D vwCl [(b 0, .inr (6, moF b v4)), ((b 9), .inl (T 0, 60, .inl (tx)))] H := hP
                      have hD : va_D A [(b 0, .inr (6, moF b v4)), ((b 9), .inl (T 0, 60, .inl (tx)))] := hD
                      have f2v4 : v4 2 = nI len := (kv4.1 2 (by decide) (by decide)).trans f2v3
                      have f7v4 : v4 7 = 98 := (kv4.1 7 (by decide) (by decide)).trans f7v3
                      have Tv4 : vT v v4 := vT_R Tv3 kv4.1
                      obtain ⟨-, f6v4, f5v4⟩ := kv4.2.resolve_left (fun ⟨_, _, z, _⟩ => absurd (f6v3.symm.trans z) (by decide))
                      skip
                      refine va_put (D := D) (ci := 6) (v := .int r17_) (C := RX6) (T := TX6) (N := 22) hx hb hts inwX6_readThing_X6 tyX6 tyX6_ok nmX6 hown hK hP hD hS 0 rfl rfl 18 (by decide) (hts (.fieldLink RX6 175 "PlateSlabsModel" "second" "I") (List.mem_of_getElem? (i := 7) rfl)) (fun _ h9 => h9) rfl (tyX6_ok 18 (by decide)) (rfl) rfl (Nat.le_of_ble_eq_true rfl) dX6_readThing_195 (fun H locs hP hD hS => ?_)
                      have hP : va_P D vwCl [(b 0, .inr (6, moF b (upd v4 9 r17_))), ((b 9), .inl (T 0, 60, .inl (tx)))] H := hP
                      have hD : va_D A [(b 0, .inr (6, moF b (upd v4 9 r17_))), ((b 9), .inl (T 0, 60, .inl (tx)))] := hD
                      refine lv_goto (tgt := 222) hx hb dX6_readThing_198 (by decide) ?_
                      obtain ⟨u9, eu9⟩ : ∃ z, z = upd v4 9 r17_ := ⟨_, rfl⟩
                      rw [← eu9] at hP hD
                      have Tu9 : vT v u9 := by rw [eu9]; exact (vT_u Tv4 _ (by decide) (by decide))
                      have f2u9 : u9 2 = nI len := by rw [eu9]; exact f2v4
                      have f5u9 : u9 5 = nI (i + 2) := by rw [eu9]; exact f5v4
                      have f6u9 : u9 6 = 1 := by rw [eu9]; exact f6v4
                      have f7u9 : u9 7 = 98 := by rw [eu9]; exact f7v4
                      have hP : va_P D vwCl [(b 0, .inr (6, moF b u9)), ((b 9), .inl (T 0, 60, .inl (tx)))] H := hP
                      have hD : va_D A [(b 0, .inr (6, moF b u9)), ((b 9), .inl (T 0, 60, .inl (tx)))] := hD
                      have hL := th_b01 (c := tch tx len) (i := i) (Or.inl ech.symm : tch tx len i = 98 ∨ tch tx len i = 100) y1 y2
                      exact hret _ _ u9 _ _ dX6_readThing_222 hS hP hD ⟨Tu9, by rw [hL.2]; exact f5u9, Or.inr ⟨hL.1, f6u9⟩⟩
                  · skip
                    exact absurd rfl c152
                · skip
                  exact absurd c117 (by decide)
              · skip
                exact absurd rfl c98
            · skip
              exact absurd rfl c42
      · skip
        have hP : va_P D vwCl [(b 0, .inr (6, moF b (upd v 7 98))), ((b 9), .inl (T 0, 60, .inl (tx)))] H := hP
        have hD : va_D A [(b 0, .inr (6, moF b (upd v 7 98))), ((b 9), .inl (T 0, 60, .inl (tx)))] := hD
        refine lv_aload_n hx hb dX6_readThing_28 rfl (lv_at hl 0 rfl) ?_
        refine lv_aload_n hx hb dX6_readThing_29 rfl (lv_at hl 0 rfl) ?_
        refine va_get (D := D) (ci := 6) (v := .int (v 6)) (C := RX6) (T := TX6) (N := 22) hx hb hts inwX6_readThing_X6 hown hK hP 0 rfl rfl 15 (by decide) (hts (.fieldLink RX6 152 "PlateSlabsModel" "isWrong" "Z") (List.mem_of_getElem? (i := 5) rfl)) (fun _ h9 => h9) rfl dX6_readThing_30 ?_
        refine lv_if_ne (tgt := 81) hx hb dX6_readThing_33 (by decide) (fun c33 => ?_) (fun c33 => ?_)
        · skip
          exact absurd h6 c33
        · skip
          refine lv_aload_n hx hb dX6_readThing_36 rfl (lv_at hl 0 rfl) ?_
          refine va_get (D := D) (ci := 6) (v := .int 98) (C := RX6) (T := TX6) (N := 22) hx hb hts inwX6_readThing_X6 hown hK hP 0 rfl rfl 16 (by decide) (hts (.fieldLink RX6 166 "PlateSlabsModel" "letter" "I") (List.mem_of_getElem? (i := 4) rfl)) (fun _ h9 => h9) rfl dX6_readThing_37 ?_
          refine lv_bipush (v := 98) hx hb dX6_readThing_40 (by decide) ?_
          refine lv_icmp_eq (tgt := 85) hx hb dX6_readThing_42 (by decide) (fun c42 => ?_) (fun c42 => ?_)
          · skip
            refine lv_iconst (v := 0) hx hb dX6_readThing_85 (by decide) ?_
            refine va_put (D := D) (ci := 6) (v := .int 0) (C := RX6) (T := TX6) (N := 22) hx hb hts inwX6_readThing_X6 tyX6 tyX6_ok nmX6 hown hK hP hD hS 0 rfl rfl 15 (by decide) (hts (.fieldLink RX6 152 "PlateSlabsModel" "isWrong" "Z") (List.mem_of_getElem? (i := 5) rfl)) (fun _ h9 => h9) rfl (tyX6_ok 15 (by decide)) (rfl) rfl (Nat.le_of_ble_eq_true rfl) dX6_readThing_86 (fun H locs hP hD hS => ?_)
            have hP : va_P D vwCl [(b 0, .inr (6, moF b (upd (upd v 7 98) 6 0))), ((b 9), .inl (T 0, 60, .inl (tx)))] H := hP
            have hD : va_D A [(b 0, .inr (6, moF b (upd (upd v 7 98) 6 0))), ((b 9), .inl (T 0, 60, .inl (tx)))] := hD
            refine lv_aload_n hx hb dX6_readThing_89 rfl (lv_at hl 0 rfl) ?_
            refine lv_dup hx hb dX6_readThing_90 rfl ?_
            refine va_get (D := D) (ci := 6) (v := .int (v 5)) (C := RX6) (T := TX6) (N := 22) hx hb hts inwX6_readThing_X6 hown hK hP 0 rfl rfl 14 (by decide) (hts (.fieldLink RX6 156 "PlateSlabsModel" "position" "I") (List.mem_of_getElem? (i := 1) rfl)) (fun _ h9 => h9) rfl dX6_readThing_91 ?_
            refine lv_aload_n hx hb dX6_readThing_94 rfl (lv_at hl 0 rfl) ?_
            refine va_get (D := D) (ci := 6) (v := .int 0) (C := RX6) (T := TX6) (N := 22) hx hb hts inwX6_readThing_X6 hown hK hP 0 rfl rfl 15 (by decide) (hts (.fieldLink RX6 152 "PlateSlabsModel" "isWrong" "Z") (List.mem_of_getElem? (i := 5) rfl)) (fun _ h9 => h9) rfl dX6_readThing_95 ?_
            refine lv_if_eq (tgt := 105) hx hb dX6_readThing_98 (by decide) (fun c98 => ?_) (fun c98 => ?_)
            · skip
              refine lv_iconst (v := 1) hx hb dX6_readThing_105 (by decide) ?_
              refine lv_iadd hx hb dX6_readThing_106 ?_
              refine lv_tpi (z := nI (i + 1)) (by rw [h5]; exact nI_1 i) ?_
              refine va_put (D := D) (ci := 6) (v := .int (nI (i + 1))) (C := RX6) (T := TX6) (N := 22) hx hb hts inwX6_readThing_X6 tyX6 tyX6_ok nmX6 hown hK hP hD hS 0 rfl rfl 14 (by decide) (hts (.fieldLink RX6 156 "PlateSlabsModel" "position" "I") (List.mem_of_getElem? (i := 1) rfl)) (fun _ h9 => h9) rfl (tyX6_ok 14 (by decide)) (rfl) rfl (Nat.le_of_ble_eq_true rfl) dX6_readThing_107 (fun H locs hP hD hS => ?_)
              have hP : va_P D vwCl [(b 0, .inr (6, moF b (upd (upd (upd v 7 98) 6 0) 5 (nI (i + 1))))), ((b 9), .inl (T 0, 60, .inl (tx)))] H := hP
              have hD : va_D A [(b 0, .inr (6, moF b (upd (upd (upd v 7 98) 6 0) 5 (nI (i + 1))))), ((b 9), .inl (T 0, 60, .inl (tx)))] := hD
              obtain ⟨v0, ev0⟩ : ∃ z, z = upd (upd (upd v 7 98) 6 0) 5 (nI (i + 1)) := ⟨_, rfl⟩
              rw [← ev0] at hP hD
              have Tv0 : vT v v0 := by rw [ev0]; exact (vT_u (vT_u (vT_u (vT_rf v) _ (by decide) (by decide)) _ (by decide) (by decide)) _ (by decide) (by decide))
              have f2v0 : v0 2 = nI len := by rw [ev0]; exact h2
              have f5v0 : v0 5 = nI (i + 1) := by rw [ev0]; rfl
              have f6v0 : v0 6 = 0 := by rw [ev0]; rfl
              have f7v0 : v0 7 = 98 := by rw [ev0]; rfl
              have hP : va_P D vwCl [(b 0, .inr (6, moF b v0)), ((b 9), .inl (T 0, 60, .inl (tx)))] H := hP
              have hD : va_D A [(b 0, .inr (6, moF b v0)), ((b 9), .inl (T 0, 60, .inl (tx)))] := hD
              refine lv_aload_n hx hb dX6_readThing_110 rfl (lv_at hl 0 rfl) ?_
              refine lv_aload_n hx hb dX6_readThing_111 rfl (lv_at hl 0 rfl) ?_
              refine va_get (D := D) (ci := 6) (v := .int (v0 7)) (C := RX6) (T := TX6) (N := 22) hx hb hts inwX6_readThing_X6 hown hK hP 0 rfl rfl 16 (by decide) (hts (.fieldLink RX6 166 "PlateSlabsModel" "letter" "I") (List.mem_of_getElem? (i := 4) rfl)) (fun _ h9 => h9) rfl dX6_readThing_112 ?_
              refine lv_tpi (z := 98) (f7v0) ?_
              refine lv_bipush (v := 46) hx hb dX6_readThing_115 (by decide) ?_
              refine lv_icmp_ne (tgt := 130) hx hb dX6_readThing_117 (by decide) (fun c117 => ?_) (fun c117 => ?_)
              · skip
                refine lv_aload_n hx hb dX6_readThing_130 rfl (lv_at hl 0 rfl) ?_
                refine lv_bipush (v := 48) hx hb dX6_readThing_131 (by decide) ?_
                refine lv_bipush (v := 51) hx hb dX6_readThing_133 (by decide) ?_
                refine callMi (As := [.int 48, .int 51]) (wr := []) ⟨hx, hb, hml, hown, hts⟩ (mX6_takes l T D b v0 tx (i + 1) len hlen hi1 f2v0 f5v0 (Or.inl f6v0) 48 51) (cwV 2 hts gX6_readThing_X6_takes rfl rfl rfl pdX6_takes ⟨Nat.le_of_ble_eq_true rfl, Nat.le_of_ble_eq_true rfl⟩) hP hD hK hS hA xN_bl (fun U _ hW => XN_warm hW hX) (ci := 6) rfl rfl rfl hl.1 rfl rfl (Nat.le_of_ble_eq_true rfl) dX6_readThing_135 ⟨Nat.zero_le _, Nat.zero_le _⟩ (fun r19_ u20_ H locs eu20_ hP hD hS hkf => ?_)
                obtain ⟨v1, rfl⟩ : ∃ z, z = u20_ := ⟨_, rfl⟩
                obtain ⟨jv1, kv1⟩ := eu20_
                have hP : va_P D vwCl [(b 0, .inr (6, moF b v1)), ((b 9), .inl (T 0, 60, .inl (tx)))] H := hP
                have hD : va_D A [(b 0, .inr (6, moF b v1)), ((b 9), .inl (T 0, 60, .inl (tx)))] := hD
                have f2v1 : v1 2 = nI len := (kv1.1 2 (by decide) (by decide)).trans f2v0
                have f7v1 : v1 7 = 98 := (kv1.1 7 (by decide) (by decide)).trans f7v0
                have Tv1 : vT v v1 := vT_R Tv0 kv1.1
                obtain ⟨-, f6v1, f5v1⟩ := kv1.2.resolve_left (fun z => y1 z.1.2)
                skip
                refine va_put (D := D) (ci := 6) (v := .int r19_) (C := RX6) (T := TX6) (N := 22) hx hb hts inwX6_readThing_X6 tyX6 tyX6_ok nmX6 hown hK hP hD hS 0 rfl rfl 17 (by decide) (hts (.fieldLink RX6 172 "PlateSlabsModel" "first" "I") (List.mem_of_getElem? (i := 6) rfl)) (fun _ h9 => h9) rfl (tyX6_ok 17 (by decide)) (rfl) rfl (Nat.le_of_ble_eq_true rfl) dX6_readThing_138 (fun H locs hP hD hS => ?_)
                have hP : va_P D vwCl [(b 0, .inr (6, moF b (upd v1 8 r19_))), ((b 9), .inl (T 0, 60, .inl (tx)))] H := hP
                have hD : va_D A [(b 0, .inr (6, moF b (upd v1 8 r19_))), ((b 9), .inl (T 0, 60, .inl (tx)))] := hD
                obtain ⟨u1, eu1⟩ : ∃ z, z = upd v1 8 r19_ := ⟨_, rfl⟩
                rw [← eu1] at hP hD
                have Tu1 : vT v u1 := by rw [eu1]; exact (vT_u Tv1 _ (by decide) (by decide))
                have f2u1 : u1 2 = nI len := by rw [eu1]; exact f2v1
                have f5u1 : u1 5 = nI (i + 1) := by rw [eu1]; exact f5v1
                have f6u1 : u1 6 = 1 := by rw [eu1]; exact f6v1
                have f7u1 : u1 7 = 98 := by rw [eu1]; exact f7v1
                have hP : va_P D vwCl [(b 0, .inr (6, moF b u1)), ((b 9), .inl (T 0, 60, .inl (tx)))] H := hP
                have hD : va_D A [(b 0, .inr (6, moF b u1)), ((b 9), .inl (T 0, 60, .inl (tx)))] := hD
                refine lv_aload_n hx hb dX6_readThing_141 rfl (lv_at hl 0 rfl) ?_
                refine lv_iconst (v := 0) hx hb dX6_readThing_142 (by decide) ?_
                refine va_put (D := D) (ci := 6) (v := .int 0) (C := RX6) (T := TX6) (N := 22) hx hb hts inwX6_readThing_X6 tyX6 tyX6_ok nmX6 hown hK hP hD hS 0 rfl rfl 18 (by decide) (hts (.fieldLink RX6 175 "PlateSlabsModel" "second" "I") (List.mem_of_getElem? (i := 7) rfl)) (fun _ h9 => h9) rfl (tyX6_ok 18 (by decide)) (rfl) rfl (Nat.le_of_ble_eq_true rfl) dX6_readThing_143 (fun H locs hP hD hS => ?_)
                have hP : va_P D vwCl [(b 0, .inr (6, moF b (upd u1 9 0))), ((b 9), .inl (T 0, 60, .inl (tx)))] H := hP
                have hD : va_D A [(b 0, .inr (6, moF b (upd u1 9 0))), ((b 9), .inl (T 0, 60, .inl (tx)))] := hD
                obtain ⟨u2, eu2⟩ : ∃ z, z = upd u1 9 0 := ⟨_, rfl⟩
                rw [← eu2] at hP hD
                have Tu2 : vT v u2 := by rw [eu2]; exact (vT_u Tu1 _ (by decide) (by decide))
                have f2u2 : u2 2 = nI len := by rw [eu2]; exact f2u1
                have f5u2 : u2 5 = nI (i + 1) := by rw [eu2]; exact f5u1
                have f6u2 : u2 6 = 1 := by rw [eu2]; exact f6u1
                have f7u2 : u2 7 = 98 := by rw [eu2]; exact f7u1
                have hP : va_P D vwCl [(b 0, .inr (6, moF b u2)), ((b 9), .inl (T 0, 60, .inl (tx)))] H := hP
                have hD : va_D A [(b 0, .inr (6, moF b u2)), ((b 9), .inl (T 0, 60, .inl (tx)))] := hD
                refine lv_aload_n hx hb dX6_readThing_146 rfl (lv_at hl 0 rfl) ?_
                refine va_get (D := D) (ci := 6) (v := .int (u2 7)) (C := RX6) (T := TX6) (N := 22) hx hb hts inwX6_readThing_X6 hown hK hP 0 rfl rfl 16 (by decide) (hts (.fieldLink RX6 166 "PlateSlabsModel" "letter" "I") (List.mem_of_getElem? (i := 4) rfl)) (fun _ h9 => h9) rfl dX6_readThing_147 ?_
                refine lv_tpi (z := 98) (f7u2) ?_
                refine lv_bipush (v := 98) hx hb dX6_readThing_150 (by decide) ?_
                refine lv_icmp_eq (tgt := 164) hx hb dX6_readThing_152 (by decide) (fun c152 => ?_) (fun c152 => ?_)
                · skip
                  refine lv_aload_n hx hb dX6_readThing_164 rfl (lv_at hl 0 rfl) ?_
                  refine lv_bipush (v := 61) hx hb dX6_readThing_165 (by decide) ?_
                  refine lv_bipush (v := 61) hx hb dX6_readThing_167 (by decide) ?_
                  refine callMi (As := [.int 61, .int 61]) (wr := []) ⟨hx, hb, hml, hown, hts⟩ (mX6_takes l T D b u2 tx (i + 1) len hlen hi1 f2u2 f5u2 (Or.inr f6u2) 61 61) (cwV 2 hts gX6_readThing_X6_takes rfl rfl rfl pdX6_takes ⟨Nat.le_of_ble_eq_true rfl, Nat.le_of_ble_eq_true rfl⟩) hP hD hK hS hA xN_bl (fun U _ hW => XN_warm hW hX) (ci := 6) rfl rfl rfl hl.1 rfl rfl (Nat.le_of_ble_eq_true rfl) dX6_readThing_169 ⟨Nat.zero_le _, Nat.zero_le _⟩ (fun r21_ u22_ H locs eu22_ hP hD hS hkf => ?_)
                  obtain ⟨v3, rfl⟩ : ∃ z, z = u22_ := ⟨_, rfl⟩
                  obtain ⟨jv3, kv3⟩ := eu22_
                  have hP : va_P D vwCl [(b 0, .inr (6, moF b v3)), ((b 9), .inl (T 0, 60, .inl (tx)))] H := hP
                  have hD : va_D A [(b 0, .inr (6, moF b v3)), ((b 9), .inl (T 0, 60, .inl (tx)))] := hD
                  have f2v3 : v3 2 = nI len := (kv3.1 2 (by decide) (by decide)).trans f2u2
                  have f7v3 : v3 7 = 98 := (kv3.1 7 (by decide) (by decide)).trans f7u2
                  have Tv3 : vT v v3 := vT_R Tu2 kv3.1
                  obtain ⟨-, f6v3, f5v3⟩ := kv3.2.resolve_left (fun ⟨⟨z, _⟩, _⟩ => absurd (f6u2.symm.trans z) (by decide))
                  skip
                  refine lv_istore_n (lv' := [(1, .int r21_), (0, .ref (b 0))]) hx hb dX6_readThing_172 rfl hl (by decide) rfl (fun ls hl => ?_)
                  refine lv_aload_n hx hb dX6_readThing_173 rfl (lv_at hl 1 rfl) ?_
                  refine lv_aload_n hx hb dX6_readThing_174 rfl (lv_at hl 1 rfl) ?_
                  refine lv_iconst (v := 0) hx hb dX6_readThing_175 (by decide) ?_
                  refine lv_aload_n hx hb dX6_readThing_176 rfl (lv_at hl 1 rfl) ?_
                  refine va_get (D := D) (ci := 6) (v := .int (v3 7)) (C := RX6) (T := TX6) (N := 22) hx hb hts inwX6_readThing_X6 hown hK hP 0 rfl rfl 16 (by decide) (hts (.fieldLink RX6 166 "PlateSlabsModel" "letter" "I") (List.mem_of_getElem? (i := 4) rfl)) (fun _ h9 => h9) rfl dX6_readThing_177 ?_
                  refine lv_tpi (z := 98) (f7v3) ?_
                  refine lv_bipush (v := 98) hx hb dX6_readThing_180 (by decide) ?_
                  refine lv_icmp_ne (tgt := 190) hx hb dX6_readThing_182 (by decide) (fun c182 => ?_) (fun c182 => ?_)
                  · skip
                    exact absurd rfl c182
                  · skip
                    refine lv_bipush (v := 30) hx hb dX6_readThing_185 (by decide) ?_
                    refine lv_goto (tgt := 192) hx hb dX6_readThing_187 (by decide) ?_
                    refine callMi (As := [.int 0, .int 30]) (wr := []) ⟨hx, hb, hml, hown, hts⟩ (mX6_takesNumber l T D b v3 tx (i + 1) len hlen hi1 f2v3 f5v3 (Or.inr f6v3) 0 30 (by decide) (by decide)) (cwV 2 hts gX6_readThing_X6_takesNumber rfl rfl rfl pdX6_takesNumber ⟨Nat.le_of_ble_eq_true rfl, Nat.le_of_ble_eq_true rfl⟩) hP hD hK hS hA xN_bl (fun U _ hW => XN_warm hW hX) (ci := 6) rfl rfl rfl hl.1 rfl rfl (Nat.le_of_ble_eq_true rfl) dX6_readThing_192 ⟨Nat.zero_le _, Nat.zero_le _⟩ (fun r23_ u24_ H locs eu24_ hP hD hS hkf => ?_)
                    obtain ⟨v4, rfl⟩ : ∃ z, z = u24_ := ⟨_, rfl⟩
                    have kv4 := eu24_
                    have hP : va_P D vwCl [(b 0, .inr (6, moF b v4)), ((b 9), .inl (T 0, 60, .inl (tx)))] H := hP
                    have hD : va_D A [(b 0, .inr (6, moF b v4)), ((b 9), .inl (T 0, 60, .inl (tx)))] := hD
                    have f2v4 : v4 2 = nI len := (kv4.1 2 (by decide) (by decide)).trans f2v3
                    have f7v4 : v4 7 = 98 := (kv4.1 7 (by decide) (by decide)).trans f7v3
                    have Tv4 : vT v v4 := vT_R Tv3 kv4.1
                    obtain ⟨-, f6v4, f5v4⟩ := kv4.2.resolve_left (fun ⟨_, _, z, _⟩ => absurd (f6v3.symm.trans z) (by decide))
                    skip
                    refine va_put (D := D) (ci := 6) (v := .int r23_) (C := RX6) (T := TX6) (N := 22) hx hb hts inwX6_readThing_X6 tyX6 tyX6_ok nmX6 hown hK hP hD hS 0 rfl rfl 18 (by decide) (hts (.fieldLink RX6 175 "PlateSlabsModel" "second" "I") (List.mem_of_getElem? (i := 7) rfl)) (fun _ h9 => h9) rfl (tyX6_ok 18 (by decide)) (rfl) rfl (Nat.le_of_ble_eq_true rfl) dX6_readThing_195 (fun H locs hP hD hS => ?_)
                    have hP : va_P D vwCl [(b 0, .inr (6, moF b (upd v4 9 r23_))), ((b 9), .inl (T 0, 60, .inl (tx)))] H := hP
                    have hD : va_D A [(b 0, .inr (6, moF b (upd v4 9 r23_))), ((b 9), .inl (T 0, 60, .inl (tx)))] := hD
                    refine lv_goto (tgt := 222) hx hb dX6_readThing_198 (by decide) ?_
                    obtain ⟨u9, eu9⟩ : ∃ z, z = upd v4 9 r23_ := ⟨_, rfl⟩
                    rw [← eu9] at hP hD
                    have Tu9 : vT v u9 := by rw [eu9]; exact (vT_u Tv4 _ (by decide) (by decide))
                    have f2u9 : u9 2 = nI len := by rw [eu9]; exact f2v4
                    have f5u9 : u9 5 = nI (i + 1) := by rw [eu9]; exact f5v4
                    have f6u9 : u9 6 = 1 := by rw [eu9]; exact f6v4
                    have f7u9 : u9 7 = 98 := by rw [eu9]; exact f7v4
                    have hP : va_P D vwCl [(b 0, .inr (6, moF b u9)), ((b 9), .inl (T 0, 60, .inl (tx)))] H := hP
                    have hD : va_D A [(b 0, .inr (6, moF b u9)), ((b 9), .inl (T 0, 60, .inl (tx)))] := hD
                    have hL := th_b0 (c := tch tx len) (i := i) (Or.inl ech.symm : tch tx len i = 98 ∨ tch tx len i = 100) y1
                    exact hret _ _ u9 _ _ dX6_readThing_222 hS hP hD ⟨Tu9, by rw [hL.2]; exact f5u9, Or.inr ⟨hL.1, f6u9⟩⟩
                · skip
                  exact absurd rfl c152
              · skip
                exact absurd c117 (by decide)
            · skip
              exact absurd rfl c98
          · skip
            exact absurd rfl c42
    · skip
      subst hZ
      have hi1 : i + 1 ≤ len := tch_pos1 (c := 111) (by decide) (by rw [← ech]; exact Int32.le_refl _)
      by_cases y1 : pd4 (tch tx len (i + 1))
      · skip
        have hi2 : i + 2 ≤ len := by
          have := tch_pos1 (c := 48) (by decide) y1.1
          omega
        have hP : va_P D vwCl [(b 0, .inr (6, moF b (upd v 7 111))), ((b 9), .inl (T 0, 60, .inl (tx)))] H := hP
        have hD : va_D A [(b 0, .inr (6, moF b (upd v 7 111))), ((b 9), .inl (T 0, 60, .inl (tx)))] := hD
        refine lv_aload_n hx hb dX6_readThing_28 rfl (lv_at hl 0 rfl) ?_
        refine lv_aload_n hx hb dX6_readThing_29 rfl (lv_at hl 0 rfl) ?_
        refine va_get (D := D) (ci := 6) (v := .int (v 6)) (C := RX6) (T := TX6) (N := 22) hx hb hts inwX6_readThing_X6 hown hK hP 0 rfl rfl 15 (by decide) (hts (.fieldLink RX6 152 "PlateSlabsModel" "isWrong" "Z") (List.mem_of_getElem? (i := 5) rfl)) (fun _ h9 => h9) rfl dX6_readThing_30 ?_
        refine lv_if_ne (tgt := 81) hx hb dX6_readThing_33 (by decide) (fun c33 => ?_) (fun c33 => ?_)
        · skip
          exact absurd h6 c33
        · skip
          refine lv_aload_n hx hb dX6_readThing_36 rfl (lv_at hl 0 rfl) ?_
          refine va_get (D := D) (ci := 6) (v := .int 111) (C := RX6) (T := TX6) (N := 22) hx hb hts inwX6_readThing_X6 hown hK hP 0 rfl rfl 16 (by decide) (hts (.fieldLink RX6 166 "PlateSlabsModel" "letter" "I") (List.mem_of_getElem? (i := 4) rfl)) (fun _ h9 => h9) rfl dX6_readThing_37 ?_
          refine lv_bipush (v := 98) hx hb dX6_readThing_40 (by decide) ?_
          refine lv_icmp_eq (tgt := 85) hx hb dX6_readThing_42 (by decide) (fun c42 => ?_) (fun c42 => ?_)
          · skip
            exact absurd c42 (by decide)
          · skip
            refine lv_aload_n hx hb dX6_readThing_45 rfl (lv_at hl 0 rfl) ?_
            refine va_get (D := D) (ci := 6) (v := .int 111) (C := RX6) (T := TX6) (N := 22) hx hb hts inwX6_readThing_X6 hown hK hP 0 rfl rfl 16 (by decide) (hts (.fieldLink RX6 166 "PlateSlabsModel" "letter" "I") (List.mem_of_getElem? (i := 4) rfl)) (fun _ h9 => h9) rfl dX6_readThing_46 ?_
            refine lv_bipush (v := 111) hx hb dX6_readThing_49 (by decide) ?_
            refine lv_icmp_eq (tgt := 85) hx hb dX6_readThing_51 (by decide) (fun c51 => ?_) (fun c51 => ?_)
            · skip
              refine lv_iconst (v := 0) hx hb dX6_readThing_85 (by decide) ?_
              refine va_put (D := D) (ci := 6) (v := .int 0) (C := RX6) (T := TX6) (N := 22) hx hb hts inwX6_readThing_X6 tyX6 tyX6_ok nmX6 hown hK hP hD hS 0 rfl rfl 15 (by decide) (hts (.fieldLink RX6 152 "PlateSlabsModel" "isWrong" "Z") (List.mem_of_getElem? (i := 5) rfl)) (fun _ h9 => h9) rfl (tyX6_ok 15 (by decide)) (rfl) rfl (Nat.le_of_ble_eq_true rfl) dX6_readThing_86 (fun H locs hP hD hS => ?_)
              have hP : va_P D vwCl [(b 0, .inr (6, moF b (upd (upd v 7 111) 6 0))), ((b 9), .inl (T 0, 60, .inl (tx)))] H := hP
              have hD : va_D A [(b 0, .inr (6, moF b (upd (upd v 7 111) 6 0))), ((b 9), .inl (T 0, 60, .inl (tx)))] := hD
              refine lv_aload_n hx hb dX6_readThing_89 rfl (lv_at hl 0 rfl) ?_
              refine lv_dup hx hb dX6_readThing_90 rfl ?_
              refine va_get (D := D) (ci := 6) (v := .int (v 5)) (C := RX6) (T := TX6) (N := 22) hx hb hts inwX6_readThing_X6 hown hK hP 0 rfl rfl 14 (by decide) (hts (.fieldLink RX6 156 "PlateSlabsModel" "position" "I") (List.mem_of_getElem? (i := 1) rfl)) (fun _ h9 => h9) rfl dX6_readThing_91 ?_
              refine lv_aload_n hx hb dX6_readThing_94 rfl (lv_at hl 0 rfl) ?_
              refine va_get (D := D) (ci := 6) (v := .int 0) (C := RX6) (T := TX6) (N := 22) hx hb hts inwX6_readThing_X6 hown hK hP 0 rfl rfl 15 (by decide) (hts (.fieldLink RX6 152 "PlateSlabsModel" "isWrong" "Z") (List.mem_of_getElem? (i := 5) rfl)) (fun _ h9 => h9) rfl dX6_readThing_95 ?_
              refine lv_if_eq (tgt := 105) hx hb dX6_readThing_98 (by decide) (fun c98 => ?_) (fun c98 => ?_)
              · skip
                refine lv_iconst (v := 1) hx hb dX6_readThing_105 (by decide) ?_
                refine lv_iadd hx hb dX6_readThing_106 ?_
                refine lv_tpi (z := nI (i + 1)) (by rw [h5]; exact nI_1 i) ?_
                refine va_put (D := D) (ci := 6) (v := .int (nI (i + 1))) (C := RX6) (T := TX6) (N := 22) hx hb hts inwX6_readThing_X6 tyX6 tyX6_ok nmX6 hown hK hP hD hS 0 rfl rfl 14 (by decide) (hts (.fieldLink RX6 156 "PlateSlabsModel" "position" "I") (List.mem_of_getElem? (i := 1) rfl)) (fun _ h9 => h9) rfl (tyX6_ok 14 (by decide)) (rfl) rfl (Nat.le_of_ble_eq_true rfl) dX6_readThing_107 (fun H locs hP hD hS => ?_)
                have hP : va_P D vwCl [(b 0, .inr (6, moF b (upd (upd (upd v 7 111) 6 0) 5 (nI (i + 1))))), ((b 9), .inl (T 0, 60, .inl (tx)))] H := hP
                have hD : va_D A [(b 0, .inr (6, moF b (upd (upd (upd v 7 111) 6 0) 5 (nI (i + 1))))), ((b 9), .inl (T 0, 60, .inl (tx)))] := hD
                obtain ⟨v0, ev0⟩ : ∃ z, z = upd (upd (upd v 7 111) 6 0) 5 (nI (i + 1)) := ⟨_, rfl⟩
                rw [← ev0] at hP hD
                have Tv0 : vT v v0 := by rw [ev0]; exact (vT_u (vT_u (vT_u (vT_rf v) _ (by decide) (by decide)) _ (by decide) (by decide)) _ (by decide) (by decide))
                have f2v0 : v0 2 = nI len := by rw [ev0]; exact h2
                have f5v0 : v0 5 = nI (i + 1) := by rw [ev0]; rfl
                have f6v0 : v0 6 = 0 := by rw [ev0]; rfl
                have f7v0 : v0 7 = 111 := by rw [ev0]; rfl
                have hP : va_P D vwCl [(b 0, .inr (6, moF b v0)), ((b 9), .inl (T 0, 60, .inl (tx)))] H := hP
                have hD : va_D A [(b 0, .inr (6, moF b v0)), ((b 9), .inl (T 0, 60, .inl (tx)))] := hD
                refine lv_aload_n hx hb dX6_readThing_110 rfl (lv_at hl 0 rfl) ?_
                refine lv_aload_n hx hb dX6_readThing_111 rfl (lv_at hl 0 rfl) ?_
                refine va_get (D := D) (ci := 6) (v := .int (v0 7)) (C := RX6) (T := TX6) (N := 22) hx hb hts inwX6_readThing_X6 hown hK hP 0 rfl rfl 16 (by decide) (hts (.fieldLink RX6 166 "PlateSlabsModel" "letter" "I") (List.mem_of_getElem? (i := 4) rfl)) (fun _ h9 => h9) rfl dX6_readThing_112 ?_
                refine lv_tpi (z := 111) (f7v0) ?_
                refine lv_bipush (v := 46) hx hb dX6_readThing_115 (by decide) ?_
                refine lv_icmp_ne (tgt := 130) hx hb dX6_readThing_117 (by decide) (fun c117 => ?_) (fun c117 => ?_)
                · skip
                  refine lv_aload_n hx hb dX6_readThing_130 rfl (lv_at hl 0 rfl) ?_
                  refine lv_bipush (v := 48) hx hb dX6_readThing_131 (by decide) ?_
                  refine lv_bipush (v := 51) hx hb dX6_readThing_133 (by decide) ?_
                  refine callMi (As := [.int 48, .int 51]) (wr := []) ⟨hx, hb, hml, hown, hts⟩ (mX6_takes l T D b v0 tx (i + 1) len hlen hi1 f2v0 f5v0 (Or.inl f6v0) 48 51) (cwV 2 hts gX6_readThing_X6_takes rfl rfl rfl pdX6_takes ⟨Nat.le_of_ble_eq_true rfl, Nat.le_of_ble_eq_true rfl⟩) hP hD hK hS hA xN_bl (fun U _ hW => XN_warm hW hX) (ci := 6) rfl rfl rfl hl.1 rfl rfl (Nat.le_of_ble_eq_true rfl) dX6_readThing_135 ⟨Nat.zero_le _, Nat.zero_le _⟩ (fun r25_ u26_ H locs eu26_ hP hD hS hkf => ?_)
                  obtain ⟨v1, rfl⟩ : ∃ z, z = u26_ := ⟨_, rfl⟩
                  obtain ⟨jv1, kv1⟩ := eu26_
                  have hP : va_P D vwCl [(b 0, .inr (6, moF b v1)), ((b 9), .inl (T 0, 60, .inl (tx)))] H := hP
                  have hD : va_D A [(b 0, .inr (6, moF b v1)), ((b 9), .inl (T 0, 60, .inl (tx)))] := hD
                  have f2v1 : v1 2 = nI len := (kv1.1 2 (by decide) (by decide)).trans f2v0
                  have f7v1 : v1 7 = 111 := (kv1.1 7 (by decide) (by decide)).trans f7v0
                  have Tv1 : vT v v1 := vT_R Tv0 kv1.1
                  obtain ⟨-, f6v1, f5v1⟩ := kv1.2.resolve_right (fun z => z.1 ⟨f6v0, y1⟩)
                  refine lv_tpi (z := nI (dg (tch tx len (i + 1)))) (by rw [jv1]; exact pd_dg y1) ?_
                  skip
                  refine va_put (D := D) (ci := 6) (v := .int (nI (dg (tch tx len (i + 1))))) (C := RX6) (T := TX6) (N := 22) hx hb hts inwX6_readThing_X6 tyX6 tyX6_ok nmX6 hown hK hP hD hS 0 rfl rfl 17 (by decide) (hts (.fieldLink RX6 172 "PlateSlabsModel" "first" "I") (List.mem_of_getElem? (i := 6) rfl)) (fun _ h9 => h9) rfl (tyX6_ok 17 (by decide)) (rfl) rfl (Nat.le_of_ble_eq_true rfl) dX6_readThing_138 (fun H locs hP hD hS => ?_)
                  have hP : va_P D vwCl [(b 0, .inr (6, moF b (upd v1 8 (nI (dg (tch tx len (i + 1))))))), ((b 9), .inl (T 0, 60, .inl (tx)))] H := hP
                  have hD : va_D A [(b 0, .inr (6, moF b (upd v1 8 (nI (dg (tch tx len (i + 1))))))), ((b 9), .inl (T 0, 60, .inl (tx)))] := hD
                  obtain ⟨u1, eu1⟩ : ∃ z, z = upd v1 8 (nI (dg (tch tx len (i + 1)))) := ⟨_, rfl⟩
                  rw [← eu1] at hP hD
                  have Tu1 : vT v u1 := by rw [eu1]; exact (vT_u Tv1 _ (by decide) (by decide))
                  have f2u1 : u1 2 = nI len := by rw [eu1]; exact f2v1
                  have f5u1 : u1 5 = nI (i + 2) := by rw [eu1]; exact f5v1
                  have f6u1 : u1 6 = 0 := by rw [eu1]; exact f6v1
                  have f7u1 : u1 7 = 111 := by rw [eu1]; exact f7v1
                  have f8u1 : u1 8 = nI (dg (tch tx len (i + 1))) := by rw [eu1]; rfl
                  have hP : va_P D vwCl [(b 0, .inr (6, moF b u1)), ((b 9), .inl (T 0, 60, .inl (tx)))] H := hP
                  have hD : va_D A [(b 0, .inr (6, moF b u1)), ((b 9), .inl (T 0, 60, .inl (tx)))] := hD
                  refine lv_aload_n hx hb dX6_readThing_141 rfl (lv_at hl 0 rfl) ?_
                  refine lv_iconst (v := 0) hx hb dX6_readThing_142 (by decide) ?_
                  refine va_put (D := D) (ci := 6) (v := .int 0) (C := RX6) (T := TX6) (N := 22) hx hb hts inwX6_readThing_X6 tyX6 tyX6_ok nmX6 hown hK hP hD hS 0 rfl rfl 18 (by decide) (hts (.fieldLink RX6 175 "PlateSlabsModel" "second" "I") (List.mem_of_getElem? (i := 7) rfl)) (fun _ h9 => h9) rfl (tyX6_ok 18 (by decide)) (rfl) rfl (Nat.le_of_ble_eq_true rfl) dX6_readThing_143 (fun H locs hP hD hS => ?_)
                  have hP : va_P D vwCl [(b 0, .inr (6, moF b (upd u1 9 0))), ((b 9), .inl (T 0, 60, .inl (tx)))] H := hP
                  have hD : va_D A [(b 0, .inr (6, moF b (upd u1 9 0))), ((b 9), .inl (T 0, 60, .inl (tx)))] := hD
                  obtain ⟨u2, eu2⟩ : ∃ z, z = upd u1 9 0 := ⟨_, rfl⟩
                  rw [← eu2] at hP hD
                  have Tu2 : vT v u2 := by rw [eu2]; exact (vT_u Tu1 _ (by decide) (by decide))
                  have f2u2 : u2 2 = nI len := by rw [eu2]; exact f2u1
                  have f5u2 : u2 5 = nI (i + 2) := by rw [eu2]; exact f5u1
                  have f6u2 : u2 6 = 0 := by rw [eu2]; exact f6u1
                  have f7u2 : u2 7 = 111 := by rw [eu2]; exact f7u1
                  have f8u2 : u2 8 = nI (dg (tch tx len (i + 1))) := by rw [eu2]; exact f8u1
                  have f9u2 : u2 9 = 0 := by rw [eu2]; rfl
                  have hP : va_P D vwCl [(b 0, .inr (6, moF b u2)), ((b 9), .inl (T 0, 60, .inl (tx)))] H := hP
                  have hD : va_D A [(b 0, .inr (6, moF b u2)), ((b 9), .inl (T 0, 60, .inl (tx)))] := hD
                  refine lv_aload_n hx hb dX6_readThing_146 rfl (lv_at hl 0 rfl) ?_
                  refine va_get (D := D) (ci := 6) (v := .int (u2 7)) (C := RX6) (T := TX6) (N := 22) hx hb hts inwX6_readThing_X6 hown hK hP 0 rfl rfl 16 (by decide) (hts (.fieldLink RX6 166 "PlateSlabsModel" "letter" "I") (List.mem_of_getElem? (i := 4) rfl)) (fun _ h9 => h9) rfl dX6_readThing_147 ?_
                  refine lv_tpi (z := 111) (f7u2) ?_
                  refine lv_bipush (v := 98) hx hb dX6_readThing_150 (by decide) ?_
                  refine lv_icmp_eq (tgt := 164) hx hb dX6_readThing_152 (by decide) (fun c152 => ?_) (fun c152 => ?_)
                  · skip
                    exact absurd c152 (by decide)
                  · skip
                    refine lv_aload_n hx hb dX6_readThing_155 rfl (lv_at hl 0 rfl) ?_
                    refine va_get (D := D) (ci := 6) (v := .int (u2 7)) (C := RX6) (T := TX6) (N := 22) hx hb hts inwX6_readThing_X6 hown hK hP 0 rfl rfl 16 (by decide) (hts (.fieldLink RX6 166 "PlateSlabsModel" "letter" "I") (List.mem_of_getElem? (i := 4) rfl)) (fun _ h9 => h9) rfl dX6_readThing_156 ?_
                    refine lv_tpi (z := 111) (f7u2) ?_
                    refine lv_bipush (v := 100) hx hb dX6_readThing_159 (by decide) ?_
                    refine lv_icmp_ne (tgt := 201) hx hb dX6_readThing_161 (by decide) (fun c161 => ?_) (fun c161 => ?_)
                    · skip
                      refine lv_aload_n hx hb dX6_readThing_201 rfl (lv_at hl 0 rfl) ?_
                      refine va_get (D := D) (ci := 6) (v := .int (u2 7)) (C := RX6) (T := TX6) (N := 22) hx hb hts inwX6_readThing_X6 hown hK hP 0 rfl rfl 16 (by decide) (hts (.fieldLink RX6 166 "PlateSlabsModel" "letter" "I") (List.mem_of_getElem? (i := 4) rfl)) (fun _ h9 => h9) rfl dX6_readThing_202 ?_
                      refine lv_tpi (z := 111) (f7u2) ?_
                      refine lv_bipush (v := 99) hx hb dX6_readThing_205 (by decide) ?_
                      refine lv_icmp_ne (tgt := 222) hx hb dX6_readThing_207 (by decide) (fun c207 => ?_) (fun c207 => ?_)
                      · skip
                        have hL := th_o1 (c := tch tx len) (i := i) ech.symm y1
                        exact hret _ _ u2 _ _ dX6_readThing_222 hS hP hD ⟨Tu2, by rw [hL.2.2.2]; exact f5u2, Or.inl ⟨hL.1, f6u2, by rw [← ech]; exact f7u2, by rw [hL.2.1]; exact f8u2, by rw [hL.2.2.1]; exact f9u2⟩⟩
                      · skip
                        exact absurd c207 (by decide)
                    · skip
                      exact absurd c161 (by decide)
                · skip
                  exact absurd c117 (by decide)
              · skip
                exact absurd rfl c98
            · skip
              exact absurd rfl c51
      · skip
        have hP : va_P D vwCl [(b 0, .inr (6, moF b (upd v 7 111))), ((b 9), .inl (T 0, 60, .inl (tx)))] H := hP
        have hD : va_D A [(b 0, .inr (6, moF b (upd v 7 111))), ((b 9), .inl (T 0, 60, .inl (tx)))] := hD
        refine lv_aload_n hx hb dX6_readThing_28 rfl (lv_at hl 0 rfl) ?_
        refine lv_aload_n hx hb dX6_readThing_29 rfl (lv_at hl 0 rfl) ?_
        refine va_get (D := D) (ci := 6) (v := .int (v 6)) (C := RX6) (T := TX6) (N := 22) hx hb hts inwX6_readThing_X6 hown hK hP 0 rfl rfl 15 (by decide) (hts (.fieldLink RX6 152 "PlateSlabsModel" "isWrong" "Z") (List.mem_of_getElem? (i := 5) rfl)) (fun _ h9 => h9) rfl dX6_readThing_30 ?_
        refine lv_if_ne (tgt := 81) hx hb dX6_readThing_33 (by decide) (fun c33 => ?_) (fun c33 => ?_)
        · skip
          exact absurd h6 c33
        · skip
          refine lv_aload_n hx hb dX6_readThing_36 rfl (lv_at hl 0 rfl) ?_
          refine va_get (D := D) (ci := 6) (v := .int 111) (C := RX6) (T := TX6) (N := 22) hx hb hts inwX6_readThing_X6 hown hK hP 0 rfl rfl 16 (by decide) (hts (.fieldLink RX6 166 "PlateSlabsModel" "letter" "I") (List.mem_of_getElem? (i := 4) rfl)) (fun _ h9 => h9) rfl dX6_readThing_37 ?_
          refine lv_bipush (v := 98) hx hb dX6_readThing_40 (by decide) ?_
          refine lv_icmp_eq (tgt := 85) hx hb dX6_readThing_42 (by decide) (fun c42 => ?_) (fun c42 => ?_)
          · skip
            exact absurd c42 (by decide)
          · skip
            refine lv_aload_n hx hb dX6_readThing_45 rfl (lv_at hl 0 rfl) ?_
            refine va_get (D := D) (ci := 6) (v := .int 111) (C := RX6) (T := TX6) (N := 22) hx hb hts inwX6_readThing_X6 hown hK hP 0 rfl rfl 16 (by decide) (hts (.fieldLink RX6 166 "PlateSlabsModel" "letter" "I") (List.mem_of_getElem? (i := 4) rfl)) (fun _ h9 => h9) rfl dX6_readThing_46 ?_
            refine lv_bipush (v := 111) hx hb dX6_readThing_49 (by decide) ?_
            refine lv_icmp_eq (tgt := 85) hx hb dX6_readThing_51 (by decide) (fun c51 => ?_) (fun c51 => ?_)
            · skip
              refine lv_iconst (v := 0) hx hb dX6_readThing_85 (by decide) ?_
              refine va_put (D := D) (ci := 6) (v := .int 0) (C := RX6) (T := TX6) (N := 22) hx hb hts inwX6_readThing_X6 tyX6 tyX6_ok nmX6 hown hK hP hD hS 0 rfl rfl 15 (by decide) (hts (.fieldLink RX6 152 "PlateSlabsModel" "isWrong" "Z") (List.mem_of_getElem? (i := 5) rfl)) (fun _ h9 => h9) rfl (tyX6_ok 15 (by decide)) (rfl) rfl (Nat.le_of_ble_eq_true rfl) dX6_readThing_86 (fun H locs hP hD hS => ?_)
              have hP : va_P D vwCl [(b 0, .inr (6, moF b (upd (upd v 7 111) 6 0))), ((b 9), .inl (T 0, 60, .inl (tx)))] H := hP
              have hD : va_D A [(b 0, .inr (6, moF b (upd (upd v 7 111) 6 0))), ((b 9), .inl (T 0, 60, .inl (tx)))] := hD
              refine lv_aload_n hx hb dX6_readThing_89 rfl (lv_at hl 0 rfl) ?_
              refine lv_dup hx hb dX6_readThing_90 rfl ?_
              refine va_get (D := D) (ci := 6) (v := .int (v 5)) (C := RX6) (T := TX6) (N := 22) hx hb hts inwX6_readThing_X6 hown hK hP 0 rfl rfl 14 (by decide) (hts (.fieldLink RX6 156 "PlateSlabsModel" "position" "I") (List.mem_of_getElem? (i := 1) rfl)) (fun _ h9 => h9) rfl dX6_readThing_91 ?_
              refine lv_aload_n hx hb dX6_readThing_94 rfl (lv_at hl 0 rfl) ?_
              refine va_get (D := D) (ci := 6) (v := .int 0) (C := RX6) (T := TX6) (N := 22) hx hb hts inwX6_readThing_X6 hown hK hP 0 rfl rfl 15 (by decide) (hts (.fieldLink RX6 152 "PlateSlabsModel" "isWrong" "Z") (List.mem_of_getElem? (i := 5) rfl)) (fun _ h9 => h9) rfl dX6_readThing_95 ?_
              refine lv_if_eq (tgt := 105) hx hb dX6_readThing_98 (by decide) (fun c98 => ?_) (fun c98 => ?_)
              · skip
                refine lv_iconst (v := 1) hx hb dX6_readThing_105 (by decide) ?_
                refine lv_iadd hx hb dX6_readThing_106 ?_
                refine lv_tpi (z := nI (i + 1)) (by rw [h5]; exact nI_1 i) ?_
                refine va_put (D := D) (ci := 6) (v := .int (nI (i + 1))) (C := RX6) (T := TX6) (N := 22) hx hb hts inwX6_readThing_X6 tyX6 tyX6_ok nmX6 hown hK hP hD hS 0 rfl rfl 14 (by decide) (hts (.fieldLink RX6 156 "PlateSlabsModel" "position" "I") (List.mem_of_getElem? (i := 1) rfl)) (fun _ h9 => h9) rfl (tyX6_ok 14 (by decide)) (rfl) rfl (Nat.le_of_ble_eq_true rfl) dX6_readThing_107 (fun H locs hP hD hS => ?_)
                have hP : va_P D vwCl [(b 0, .inr (6, moF b (upd (upd (upd v 7 111) 6 0) 5 (nI (i + 1))))), ((b 9), .inl (T 0, 60, .inl (tx)))] H := hP
                have hD : va_D A [(b 0, .inr (6, moF b (upd (upd (upd v 7 111) 6 0) 5 (nI (i + 1))))), ((b 9), .inl (T 0, 60, .inl (tx)))] := hD
                obtain ⟨v0, ev0⟩ : ∃ z, z = upd (upd (upd v 7 111) 6 0) 5 (nI (i + 1)) := ⟨_, rfl⟩
                rw [← ev0] at hP hD
                have Tv0 : vT v v0 := by rw [ev0]; exact (vT_u (vT_u (vT_u (vT_rf v) _ (by decide) (by decide)) _ (by decide) (by decide)) _ (by decide) (by decide))
                have f2v0 : v0 2 = nI len := by rw [ev0]; exact h2
                have f5v0 : v0 5 = nI (i + 1) := by rw [ev0]; rfl
                have f6v0 : v0 6 = 0 := by rw [ev0]; rfl
                have f7v0 : v0 7 = 111 := by rw [ev0]; rfl
                have hP : va_P D vwCl [(b 0, .inr (6, moF b v0)), ((b 9), .inl (T 0, 60, .inl (tx)))] H := hP
                have hD : va_D A [(b 0, .inr (6, moF b v0)), ((b 9), .inl (T 0, 60, .inl (tx)))] := hD
                refine lv_aload_n hx hb dX6_readThing_110 rfl (lv_at hl 0 rfl) ?_
                refine lv_aload_n hx hb dX6_readThing_111 rfl (lv_at hl 0 rfl) ?_
                refine va_get (D := D) (ci := 6) (v := .int (v0 7)) (C := RX6) (T := TX6) (N := 22) hx hb hts inwX6_readThing_X6 hown hK hP 0 rfl rfl 16 (by decide) (hts (.fieldLink RX6 166 "PlateSlabsModel" "letter" "I") (List.mem_of_getElem? (i := 4) rfl)) (fun _ h9 => h9) rfl dX6_readThing_112 ?_
                refine lv_tpi (z := 111) (f7v0) ?_
                refine lv_bipush (v := 46) hx hb dX6_readThing_115 (by decide) ?_
                refine lv_icmp_ne (tgt := 130) hx hb dX6_readThing_117 (by decide) (fun c117 => ?_) (fun c117 => ?_)
                · skip
                  refine lv_aload_n hx hb dX6_readThing_130 rfl (lv_at hl 0 rfl) ?_
                  refine lv_bipush (v := 48) hx hb dX6_readThing_131 (by decide) ?_
                  refine lv_bipush (v := 51) hx hb dX6_readThing_133 (by decide) ?_
                  refine callMi (As := [.int 48, .int 51]) (wr := []) ⟨hx, hb, hml, hown, hts⟩ (mX6_takes l T D b v0 tx (i + 1) len hlen hi1 f2v0 f5v0 (Or.inl f6v0) 48 51) (cwV 2 hts gX6_readThing_X6_takes rfl rfl rfl pdX6_takes ⟨Nat.le_of_ble_eq_true rfl, Nat.le_of_ble_eq_true rfl⟩) hP hD hK hS hA xN_bl (fun U _ hW => XN_warm hW hX) (ci := 6) rfl rfl rfl hl.1 rfl rfl (Nat.le_of_ble_eq_true rfl) dX6_readThing_135 ⟨Nat.zero_le _, Nat.zero_le _⟩ (fun r27_ u28_ H locs eu28_ hP hD hS hkf => ?_)
                  obtain ⟨v1, rfl⟩ : ∃ z, z = u28_ := ⟨_, rfl⟩
                  obtain ⟨jv1, kv1⟩ := eu28_
                  have hP : va_P D vwCl [(b 0, .inr (6, moF b v1)), ((b 9), .inl (T 0, 60, .inl (tx)))] H := hP
                  have hD : va_D A [(b 0, .inr (6, moF b v1)), ((b 9), .inl (T 0, 60, .inl (tx)))] := hD
                  have f2v1 : v1 2 = nI len := (kv1.1 2 (by decide) (by decide)).trans f2v0
                  have f7v1 : v1 7 = 111 := (kv1.1 7 (by decide) (by decide)).trans f7v0
                  have Tv1 : vT v v1 := vT_R Tv0 kv1.1
                  obtain ⟨-, f6v1, f5v1⟩ := kv1.2.resolve_left (fun z => y1 z.1.2)
                  skip
                  refine va_put (D := D) (ci := 6) (v := .int r27_) (C := RX6) (T := TX6) (N := 22) hx hb hts inwX6_readThing_X6 tyX6 tyX6_ok nmX6 hown hK hP hD hS 0 rfl rfl 17 (by decide) (hts (.fieldLink RX6 172 "PlateSlabsModel" "first" "I") (List.mem_of_getElem? (i := 6) rfl)) (fun _ h9 => h9) rfl (tyX6_ok 17 (by decide)) (rfl) rfl (Nat.le_of_ble_eq_true rfl) dX6_readThing_138 (fun H locs hP hD hS => ?_)
                  have hP : va_P D vwCl [(b 0, .inr (6, moF b (upd v1 8 r27_))), ((b 9), .inl (T 0, 60, .inl (tx)))] H := hP
                  have hD : va_D A [(b 0, .inr (6, moF b (upd v1 8 r27_))), ((b 9), .inl (T 0, 60, .inl (tx)))] := hD
                  obtain ⟨u1, eu1⟩ : ∃ z, z = upd v1 8 r27_ := ⟨_, rfl⟩
                  rw [← eu1] at hP hD
                  have Tu1 : vT v u1 := by rw [eu1]; exact (vT_u Tv1 _ (by decide) (by decide))
                  have f2u1 : u1 2 = nI len := by rw [eu1]; exact f2v1
                  have f5u1 : u1 5 = nI (i + 1) := by rw [eu1]; exact f5v1
                  have f6u1 : u1 6 = 1 := by rw [eu1]; exact f6v1
                  have f7u1 : u1 7 = 111 := by rw [eu1]; exact f7v1
                  have hP : va_P D vwCl [(b 0, .inr (6, moF b u1)), ((b 9), .inl (T 0, 60, .inl (tx)))] H := hP
                  have hD : va_D A [(b 0, .inr (6, moF b u1)), ((b 9), .inl (T 0, 60, .inl (tx)))] := hD
                  refine lv_aload_n hx hb dX6_readThing_141 rfl (lv_at hl 0 rfl) ?_
                  refine lv_iconst (v := 0) hx hb dX6_readThing_142 (by decide) ?_
                  refine va_put (D := D) (ci := 6) (v := .int 0) (C := RX6) (T := TX6) (N := 22) hx hb hts inwX6_readThing_X6 tyX6 tyX6_ok nmX6 hown hK hP hD hS 0 rfl rfl 18 (by decide) (hts (.fieldLink RX6 175 "PlateSlabsModel" "second" "I") (List.mem_of_getElem? (i := 7) rfl)) (fun _ h9 => h9) rfl (tyX6_ok 18 (by decide)) (rfl) rfl (Nat.le_of_ble_eq_true rfl) dX6_readThing_143 (fun H locs hP hD hS => ?_)
                  have hP : va_P D vwCl [(b 0, .inr (6, moF b (upd u1 9 0))), ((b 9), .inl (T 0, 60, .inl (tx)))] H := hP
                  have hD : va_D A [(b 0, .inr (6, moF b (upd u1 9 0))), ((b 9), .inl (T 0, 60, .inl (tx)))] := hD
                  obtain ⟨u2, eu2⟩ : ∃ z, z = upd u1 9 0 := ⟨_, rfl⟩
                  rw [← eu2] at hP hD
                  have Tu2 : vT v u2 := by rw [eu2]; exact (vT_u Tu1 _ (by decide) (by decide))
                  have f2u2 : u2 2 = nI len := by rw [eu2]; exact f2u1
                  have f5u2 : u2 5 = nI (i + 1) := by rw [eu2]; exact f5u1
                  have f6u2 : u2 6 = 1 := by rw [eu2]; exact f6u1
                  have f7u2 : u2 7 = 111 := by rw [eu2]; exact f7u1
                  have hP : va_P D vwCl [(b 0, .inr (6, moF b u2)), ((b 9), .inl (T 0, 60, .inl (tx)))] H := hP
                  have hD : va_D A [(b 0, .inr (6, moF b u2)), ((b 9), .inl (T 0, 60, .inl (tx)))] := hD
                  refine lv_aload_n hx hb dX6_readThing_146 rfl (lv_at hl 0 rfl) ?_
                  refine va_get (D := D) (ci := 6) (v := .int (u2 7)) (C := RX6) (T := TX6) (N := 22) hx hb hts inwX6_readThing_X6 hown hK hP 0 rfl rfl 16 (by decide) (hts (.fieldLink RX6 166 "PlateSlabsModel" "letter" "I") (List.mem_of_getElem? (i := 4) rfl)) (fun _ h9 => h9) rfl dX6_readThing_147 ?_
                  refine lv_tpi (z := 111) (f7u2) ?_
                  refine lv_bipush (v := 98) hx hb dX6_readThing_150 (by decide) ?_
                  refine lv_icmp_eq (tgt := 164) hx hb dX6_readThing_152 (by decide) (fun c152 => ?_) (fun c152 => ?_)
                  · skip
                    exact absurd c152 (by decide)
                  · skip
                    refine lv_aload_n hx hb dX6_readThing_155 rfl (lv_at hl 0 rfl) ?_
                    refine va_get (D := D) (ci := 6) (v := .int (u2 7)) (C := RX6) (T := TX6) (N := 22) hx hb hts inwX6_readThing_X6 hown hK hP 0 rfl rfl 16 (by decide) (hts (.fieldLink RX6 166 "PlateSlabsModel" "letter" "I") (List.mem_of_getElem? (i := 4) rfl)) (fun _ h9 => h9) rfl dX6_readThing_156 ?_
                    refine lv_tpi (z := 111) (f7u2) ?_
                    refine lv_bipush (v := 100) hx hb dX6_readThing_159 (by decide) ?_
                    refine lv_icmp_ne (tgt := 201) hx hb dX6_readThing_161 (by decide) (fun c161 => ?_) (fun c161 => ?_)
                    · skip
                      refine lv_aload_n hx hb dX6_readThing_201 rfl (lv_at hl 0 rfl) ?_
                      refine va_get (D := D) (ci := 6) (v := .int (u2 7)) (C := RX6) (T := TX6) (N := 22) hx hb hts inwX6_readThing_X6 hown hK hP 0 rfl rfl 16 (by decide) (hts (.fieldLink RX6 166 "PlateSlabsModel" "letter" "I") (List.mem_of_getElem? (i := 4) rfl)) (fun _ h9 => h9) rfl dX6_readThing_202 ?_
                      refine lv_tpi (z := 111) (f7u2) ?_
                      refine lv_bipush (v := 99) hx hb dX6_readThing_205 (by decide) ?_
                      refine lv_icmp_ne (tgt := 222) hx hb dX6_readThing_207 (by decide) (fun c207 => ?_) (fun c207 => ?_)
                      · skip
                        have hL := th_o0 (c := tch tx len) (i := i) ech.symm y1
                        exact hret _ _ u2 _ _ dX6_readThing_222 hS hP hD ⟨Tu2, by rw [hL.2]; exact f5u2, Or.inr ⟨hL.1, f6u2⟩⟩
                      · skip
                        exact absurd c207 (by decide)
                    · skip
                      exact absurd c161 (by decide)
                · skip
                  exact absurd c117 (by decide)
              · skip
                exact absurd rfl c98
            · skip
              exact absurd rfl c51
    · skip
      subst hZ
      have hi1 : i + 1 ≤ len := tch_pos1 (c := 100) (by decide) (by rw [← ech]; exact Int32.le_refl _)
      by_cases y1 : pd4 (tch tx len (i + 1))
      · skip
        have hi2 : i + 2 ≤ len := by
          have := tch_pos1 (c := 48) (by decide) y1.1
          omega
        by_cases y2 : tch tx len (i + 2) = 61
        · skip
          have hi3 : i + 3 ≤ len := by
            have := tch_pos1 (c := 61) (by decide) (by rw [y2]; exact Int32.le_refl _)
            omega
          by_cases y3 : nOk (tch tx len) (i + 3) 0
          · skip
            have hP : va_P D vwCl [(b 0, .inr (6, moF b (upd v 7 100))), ((b 9), .inl (T 0, 60, .inl (tx)))] H := hP
            have hD : va_D A [(b 0, .inr (6, moF b (upd v 7 100))), ((b 9), .inl (T 0, 60, .inl (tx)))] := hD
            refine lv_aload_n hx hb dX6_readThing_28 rfl (lv_at hl 0 rfl) ?_
            refine lv_aload_n hx hb dX6_readThing_29 rfl (lv_at hl 0 rfl) ?_
            refine va_get (D := D) (ci := 6) (v := .int (v 6)) (C := RX6) (T := TX6) (N := 22) hx hb hts inwX6_readThing_X6 hown hK hP 0 rfl rfl 15 (by decide) (hts (.fieldLink RX6 152 "PlateSlabsModel" "isWrong" "Z") (List.mem_of_getElem? (i := 5) rfl)) (fun _ h9 => h9) rfl dX6_readThing_30 ?_
            refine lv_if_ne (tgt := 81) hx hb dX6_readThing_33 (by decide) (fun c33 => ?_) (fun c33 => ?_)
            · skip
              exact absurd h6 c33
            · skip
              refine lv_aload_n hx hb dX6_readThing_36 rfl (lv_at hl 0 rfl) ?_
              refine va_get (D := D) (ci := 6) (v := .int 100) (C := RX6) (T := TX6) (N := 22) hx hb hts inwX6_readThing_X6 hown hK hP 0 rfl rfl 16 (by decide) (hts (.fieldLink RX6 166 "PlateSlabsModel" "letter" "I") (List.mem_of_getElem? (i := 4) rfl)) (fun _ h9 => h9) rfl dX6_readThing_37 ?_
              refine lv_bipush (v := 98) hx hb dX6_readThing_40 (by decide) ?_
              refine lv_icmp_eq (tgt := 85) hx hb dX6_readThing_42 (by decide) (fun c42 => ?_) (fun c42 => ?_)
              · skip
                exact absurd c42 (by decide)
              · skip
                refine lv_aload_n hx hb dX6_readThing_45 rfl (lv_at hl 0 rfl) ?_
                refine va_get (D := D) (ci := 6) (v := .int 100) (C := RX6) (T := TX6) (N := 22) hx hb hts inwX6_readThing_X6 hown hK hP 0 rfl rfl 16 (by decide) (hts (.fieldLink RX6 166 "PlateSlabsModel" "letter" "I") (List.mem_of_getElem? (i := 4) rfl)) (fun _ h9 => h9) rfl dX6_readThing_46 ?_
                refine lv_bipush (v := 111) hx hb dX6_readThing_49 (by decide) ?_
                refine lv_icmp_eq (tgt := 85) hx hb dX6_readThing_51 (by decide) (fun c51 => ?_) (fun c51 => ?_)
                · skip
                  exact absurd c51 (by decide)
                · skip
                  refine lv_aload_n hx hb dX6_readThing_54 rfl (lv_at hl 0 rfl) ?_
                  refine va_get (D := D) (ci := 6) (v := .int 100) (C := RX6) (T := TX6) (N := 22) hx hb hts inwX6_readThing_X6 hown hK hP 0 rfl rfl 16 (by decide) (hts (.fieldLink RX6 166 "PlateSlabsModel" "letter" "I") (List.mem_of_getElem? (i := 4) rfl)) (fun _ h9 => h9) rfl dX6_readThing_55 ?_
                  refine lv_bipush (v := 100) hx hb dX6_readThing_58 (by decide) ?_
                  refine lv_icmp_eq (tgt := 85) hx hb dX6_readThing_60 (by decide) (fun c60 => ?_) (fun c60 => ?_)
                  · skip
                    refine lv_iconst (v := 0) hx hb dX6_readThing_85 (by decide) ?_
                    refine va_put (D := D) (ci := 6) (v := .int 0) (C := RX6) (T := TX6) (N := 22) hx hb hts inwX6_readThing_X6 tyX6 tyX6_ok nmX6 hown hK hP hD hS 0 rfl rfl 15 (by decide) (hts (.fieldLink RX6 152 "PlateSlabsModel" "isWrong" "Z") (List.mem_of_getElem? (i := 5) rfl)) (fun _ h9 => h9) rfl (tyX6_ok 15 (by decide)) (rfl) rfl (Nat.le_of_ble_eq_true rfl) dX6_readThing_86 (fun H locs hP hD hS => ?_)
                    have hP : va_P D vwCl [(b 0, .inr (6, moF b (upd (upd v 7 100) 6 0))), ((b 9), .inl (T 0, 60, .inl (tx)))] H := hP
                    have hD : va_D A [(b 0, .inr (6, moF b (upd (upd v 7 100) 6 0))), ((b 9), .inl (T 0, 60, .inl (tx)))] := hD
                    refine lv_aload_n hx hb dX6_readThing_89 rfl (lv_at hl 0 rfl) ?_
                    refine lv_dup hx hb dX6_readThing_90 rfl ?_
                    refine va_get (D := D) (ci := 6) (v := .int (v 5)) (C := RX6) (T := TX6) (N := 22) hx hb hts inwX6_readThing_X6 hown hK hP 0 rfl rfl 14 (by decide) (hts (.fieldLink RX6 156 "PlateSlabsModel" "position" "I") (List.mem_of_getElem? (i := 1) rfl)) (fun _ h9 => h9) rfl dX6_readThing_91 ?_
                    refine lv_aload_n hx hb dX6_readThing_94 rfl (lv_at hl 0 rfl) ?_
                    refine va_get (D := D) (ci := 6) (v := .int 0) (C := RX6) (T := TX6) (N := 22) hx hb hts inwX6_readThing_X6 hown hK hP 0 rfl rfl 15 (by decide) (hts (.fieldLink RX6 152 "PlateSlabsModel" "isWrong" "Z") (List.mem_of_getElem? (i := 5) rfl)) (fun _ h9 => h9) rfl dX6_readThing_95 ?_
                    refine lv_if_eq (tgt := 105) hx hb dX6_readThing_98 (by decide) (fun c98 => ?_) (fun c98 => ?_)
                    · skip
                      refine lv_iconst (v := 1) hx hb dX6_readThing_105 (by decide) ?_
                      refine lv_iadd hx hb dX6_readThing_106 ?_
                      refine lv_tpi (z := nI (i + 1)) (by rw [h5]; exact nI_1 i) ?_
                      refine va_put (D := D) (ci := 6) (v := .int (nI (i + 1))) (C := RX6) (T := TX6) (N := 22) hx hb hts inwX6_readThing_X6 tyX6 tyX6_ok nmX6 hown hK hP hD hS 0 rfl rfl 14 (by decide) (hts (.fieldLink RX6 156 "PlateSlabsModel" "position" "I") (List.mem_of_getElem? (i := 1) rfl)) (fun _ h9 => h9) rfl (tyX6_ok 14 (by decide)) (rfl) rfl (Nat.le_of_ble_eq_true rfl) dX6_readThing_107 (fun H locs hP hD hS => ?_)
                      have hP : va_P D vwCl [(b 0, .inr (6, moF b (upd (upd (upd v 7 100) 6 0) 5 (nI (i + 1))))), ((b 9), .inl (T 0, 60, .inl (tx)))] H := hP
                      have hD : va_D A [(b 0, .inr (6, moF b (upd (upd (upd v 7 100) 6 0) 5 (nI (i + 1))))), ((b 9), .inl (T 0, 60, .inl (tx)))] := hD
                      obtain ⟨v0, ev0⟩ : ∃ z, z = upd (upd (upd v 7 100) 6 0) 5 (nI (i + 1)) := ⟨_, rfl⟩
                      rw [← ev0] at hP hD
                      have Tv0 : vT v v0 := by rw [ev0]; exact (vT_u (vT_u (vT_u (vT_rf v) _ (by decide) (by decide)) _ (by decide) (by decide)) _ (by decide) (by decide))
                      have f2v0 : v0 2 = nI len := by rw [ev0]; exact h2
                      have f5v0 : v0 5 = nI (i + 1) := by rw [ev0]; rfl
                      have f6v0 : v0 6 = 0 := by rw [ev0]; rfl
                      have f7v0 : v0 7 = 100 := by rw [ev0]; rfl
                      have hP : va_P D vwCl [(b 0, .inr (6, moF b v0)), ((b 9), .inl (T 0, 60, .inl (tx)))] H := hP
                      have hD : va_D A [(b 0, .inr (6, moF b v0)), ((b 9), .inl (T 0, 60, .inl (tx)))] := hD
                      refine lv_aload_n hx hb dX6_readThing_110 rfl (lv_at hl 0 rfl) ?_
                      refine lv_aload_n hx hb dX6_readThing_111 rfl (lv_at hl 0 rfl) ?_
                      refine va_get (D := D) (ci := 6) (v := .int (v0 7)) (C := RX6) (T := TX6) (N := 22) hx hb hts inwX6_readThing_X6 hown hK hP 0 rfl rfl 16 (by decide) (hts (.fieldLink RX6 166 "PlateSlabsModel" "letter" "I") (List.mem_of_getElem? (i := 4) rfl)) (fun _ h9 => h9) rfl dX6_readThing_112 ?_
                      refine lv_tpi (z := 100) (f7v0) ?_
                      refine lv_bipush (v := 46) hx hb dX6_readThing_115 (by decide) ?_
                      refine lv_icmp_ne (tgt := 130) hx hb dX6_readThing_117 (by decide) (fun c117 => ?_) (fun c117 => ?_)
                      · skip
                        refine lv_aload_n hx hb dX6_readThing_130 rfl (lv_at hl 0 rfl) ?_
                        refine lv_bipush (v := 48) hx hb dX6_readThing_131 (by decide) ?_
                        refine lv_bipush (v := 51) hx hb dX6_readThing_133 (by decide) ?_
                        refine callMi (As := [.int 48, .int 51]) (wr := []) ⟨hx, hb, hml, hown, hts⟩ (mX6_takes l T D b v0 tx (i + 1) len hlen hi1 f2v0 f5v0 (Or.inl f6v0) 48 51) (cwV 2 hts gX6_readThing_X6_takes rfl rfl rfl pdX6_takes ⟨Nat.le_of_ble_eq_true rfl, Nat.le_of_ble_eq_true rfl⟩) hP hD hK hS hA xN_bl (fun U _ hW => XN_warm hW hX) (ci := 6) rfl rfl rfl hl.1 rfl rfl (Nat.le_of_ble_eq_true rfl) dX6_readThing_135 ⟨Nat.zero_le _, Nat.zero_le _⟩ (fun r29_ u30_ H locs eu30_ hP hD hS hkf => ?_)
                        obtain ⟨v1, rfl⟩ : ∃ z, z = u30_ := ⟨_, rfl⟩
                        obtain ⟨jv1, kv1⟩ := eu30_
                        have hP : va_P D vwCl [(b 0, .inr (6, moF b v1)), ((b 9), .inl (T 0, 60, .inl (tx)))] H := hP
                        have hD : va_D A [(b 0, .inr (6, moF b v1)), ((b 9), .inl (T 0, 60, .inl (tx)))] := hD
                        have f2v1 : v1 2 = nI len := (kv1.1 2 (by decide) (by decide)).trans f2v0
                        have f7v1 : v1 7 = 100 := (kv1.1 7 (by decide) (by decide)).trans f7v0
                        have Tv1 : vT v v1 := vT_R Tv0 kv1.1
                        obtain ⟨-, f6v1, f5v1⟩ := kv1.2.resolve_right (fun z => z.1 ⟨f6v0, y1⟩)
                        refine lv_tpi (z := nI (dg (tch tx len (i + 1)))) (by rw [jv1]; exact pd_dg y1) ?_
                        skip
                        refine va_put (D := D) (ci := 6) (v := .int (nI (dg (tch tx len (i + 1))))) (C := RX6) (T := TX6) (N := 22) hx hb hts inwX6_readThing_X6 tyX6 tyX6_ok nmX6 hown hK hP hD hS 0 rfl rfl 17 (by decide) (hts (.fieldLink RX6 172 "PlateSlabsModel" "first" "I") (List.mem_of_getElem? (i := 6) rfl)) (fun _ h9 => h9) rfl (tyX6_ok 17 (by decide)) (rfl) rfl (Nat.le_of_ble_eq_true rfl) dX6_readThing_138 (fun H locs hP hD hS => ?_)
                        have hP : va_P D vwCl [(b 0, .inr (6, moF b (upd v1 8 (nI (dg (tch tx len (i + 1))))))), ((b 9), .inl (T 0, 60, .inl (tx)))] H := hP
                        have hD : va_D A [(b 0, .inr (6, moF b (upd v1 8 (nI (dg (tch tx len (i + 1))))))), ((b 9), .inl (T 0, 60, .inl (tx)))] := hD
                        obtain ⟨u1, eu1⟩ : ∃ z, z = upd v1 8 (nI (dg (tch tx len (i + 1)))) := ⟨_, rfl⟩
                        rw [← eu1] at hP hD
                        have Tu1 : vT v u1 := by rw [eu1]; exact (vT_u Tv1 _ (by decide) (by decide))
                        have f2u1 : u1 2 = nI len := by rw [eu1]; exact f2v1
                        have f5u1 : u1 5 = nI (i + 2) := by rw [eu1]; exact f5v1
                        have f6u1 : u1 6 = 0 := by rw [eu1]; exact f6v1
                        have f7u1 : u1 7 = 100 := by rw [eu1]; exact f7v1
                        have f8u1 : u1 8 = nI (dg (tch tx len (i + 1))) := by rw [eu1]; rfl
                        have hP : va_P D vwCl [(b 0, .inr (6, moF b u1)), ((b 9), .inl (T 0, 60, .inl (tx)))] H := hP
                        have hD : va_D A [(b 0, .inr (6, moF b u1)), ((b 9), .inl (T 0, 60, .inl (tx)))] := hD
                        refine lv_aload_n hx hb dX6_readThing_141 rfl (lv_at hl 0 rfl) ?_
                        refine lv_iconst (v := 0) hx hb dX6_readThing_142 (by decide) ?_
                        refine va_put (D := D) (ci := 6) (v := .int 0) (C := RX6) (T := TX6) (N := 22) hx hb hts inwX6_readThing_X6 tyX6 tyX6_ok nmX6 hown hK hP hD hS 0 rfl rfl 18 (by decide) (hts (.fieldLink RX6 175 "PlateSlabsModel" "second" "I") (List.mem_of_getElem? (i := 7) rfl)) (fun _ h9 => h9) rfl (tyX6_ok 18 (by decide)) (rfl) rfl (Nat.le_of_ble_eq_true rfl) dX6_readThing_143 (fun H locs hP hD hS => ?_)
                        have hP : va_P D vwCl [(b 0, .inr (6, moF b (upd u1 9 0))), ((b 9), .inl (T 0, 60, .inl (tx)))] H := hP
                        have hD : va_D A [(b 0, .inr (6, moF b (upd u1 9 0))), ((b 9), .inl (T 0, 60, .inl (tx)))] := hD
                        obtain ⟨u2, eu2⟩ : ∃ z, z = upd u1 9 0 := ⟨_, rfl⟩
                        rw [← eu2] at hP hD
                        have Tu2 : vT v u2 := by rw [eu2]; exact (vT_u Tu1 _ (by decide) (by decide))
                        have f2u2 : u2 2 = nI len := by rw [eu2]; exact f2u1
                        have f5u2 : u2 5 = nI (i + 2) := by rw [eu2]; exact f5u1
                        have f6u2 : u2 6 = 0 := by rw [eu2]; exact f6u1
                        have f7u2 : u2 7 = 100 := by rw [eu2]; exact f7u1
                        have f8u2 : u2 8 = nI (dg (tch tx len (i + 1))) := by rw [eu2]; exact f8u1
                        have f9u2 : u2 9 = 0 := by rw [eu2]; rfl
                        have hP : va_P D vwCl [(b 0, .inr (6, moF b u2)), ((b 9), .inl (T 0, 60, .inl (tx)))] H := hP
                        have hD : va_D A [(b 0, .inr (6, moF b u2)), ((b 9), .inl (T 0, 60, .inl (tx)))] := hD
                        refine lv_aload_n hx hb dX6_readThing_146 rfl (lv_at hl 0 rfl) ?_
                        refine va_get (D := D) (ci := 6) (v := .int (u2 7)) (C := RX6) (T := TX6) (N := 22) hx hb hts inwX6_readThing_X6 hown hK hP 0 rfl rfl 16 (by decide) (hts (.fieldLink RX6 166 "PlateSlabsModel" "letter" "I") (List.mem_of_getElem? (i := 4) rfl)) (fun _ h9 => h9) rfl dX6_readThing_147 ?_
                        refine lv_tpi (z := 100) (f7u2) ?_
                        refine lv_bipush (v := 98) hx hb dX6_readThing_150 (by decide) ?_
                        refine lv_icmp_eq (tgt := 164) hx hb dX6_readThing_152 (by decide) (fun c152 => ?_) (fun c152 => ?_)
                        · skip
                          exact absurd c152 (by decide)
                        · skip
                          refine lv_aload_n hx hb dX6_readThing_155 rfl (lv_at hl 0 rfl) ?_
                          refine va_get (D := D) (ci := 6) (v := .int (u2 7)) (C := RX6) (T := TX6) (N := 22) hx hb hts inwX6_readThing_X6 hown hK hP 0 rfl rfl 16 (by decide) (hts (.fieldLink RX6 166 "PlateSlabsModel" "letter" "I") (List.mem_of_getElem? (i := 4) rfl)) (fun _ h9 => h9) rfl dX6_readThing_156 ?_
                          refine lv_tpi (z := 100) (f7u2) ?_
                          refine lv_bipush (v := 100) hx hb dX6_readThing_159 (by decide) ?_
                          refine lv_icmp_ne (tgt := 201) hx hb dX6_readThing_161 (by decide) (fun c161 => ?_) (fun c161 => ?_)
                          · skip
                            exact absurd rfl c161
                          · skip
                            refine lv_aload_n hx hb dX6_readThing_164 rfl (lv_at hl 0 rfl) ?_
                            refine lv_bipush (v := 61) hx hb dX6_readThing_165 (by decide) ?_
                            refine lv_bipush (v := 61) hx hb dX6_readThing_167 (by decide) ?_
                            refine callMi (As := [.int 61, .int 61]) (wr := []) ⟨hx, hb, hml, hown, hts⟩ (mX6_takes l T D b u2 tx (i + 2) len hlen hi2 f2u2 f5u2 (Or.inl f6u2) 61 61) (cwV 2 hts gX6_readThing_X6_takes rfl rfl rfl pdX6_takes ⟨Nat.le_of_ble_eq_true rfl, Nat.le_of_ble_eq_true rfl⟩) hP hD hK hS hA xN_bl (fun U _ hW => XN_warm hW hX) (ci := 6) rfl rfl rfl hl.1 rfl rfl (Nat.le_of_ble_eq_true rfl) dX6_readThing_169 ⟨Nat.zero_le _, Nat.zero_le _⟩ (fun r31_ u32_ H locs eu32_ hP hD hS hkf => ?_)
                            obtain ⟨v3, rfl⟩ : ∃ z, z = u32_ := ⟨_, rfl⟩
                            obtain ⟨jv3, kv3⟩ := eu32_
                            have hP : va_P D vwCl [(b 0, .inr (6, moF b v3)), ((b 9), .inl (T 0, 60, .inl (tx)))] H := hP
                            have hD : va_D A [(b 0, .inr (6, moF b v3)), ((b 9), .inl (T 0, 60, .inl (tx)))] := hD
                            have f2v3 : v3 2 = nI len := (kv3.1 2 (by decide) (by decide)).trans f2u2
                            have f7v3 : v3 7 = 100 := (kv3.1 7 (by decide) (by decide)).trans f7u2
                            have f8v3 : v3 8 = nI (dg (tch tx len (i + 1))) := (kv3.1 8 (by decide) (by decide)).trans f8u2
                            have f9v3 : v3 9 = 0 := (kv3.1 9 (by decide) (by decide)).trans f9u2
                            have Tv3 : vT v v3 := vT_R Tu2 kv3.1
                            obtain ⟨-, f6v3, f5v3⟩ := kv3.2.resolve_right (fun z => z.1 ⟨f6u2, eq61.mpr y2⟩)
                            skip
                            refine lv_istore_n (lv' := [(1, .int r31_), (0, .ref (b 0))]) hx hb dX6_readThing_172 rfl hl (by decide) rfl (fun ls hl => ?_)
                            refine lv_aload_n hx hb dX6_readThing_173 rfl (lv_at hl 1 rfl) ?_
                            refine lv_aload_n hx hb dX6_readThing_174 rfl (lv_at hl 1 rfl) ?_
                            refine lv_iconst (v := 0) hx hb dX6_readThing_175 (by decide) ?_
                            refine lv_aload_n hx hb dX6_readThing_176 rfl (lv_at hl 1 rfl) ?_
                            refine va_get (D := D) (ci := 6) (v := .int (v3 7)) (C := RX6) (T := TX6) (N := 22) hx hb hts inwX6_readThing_X6 hown hK hP 0 rfl rfl 16 (by decide) (hts (.fieldLink RX6 166 "PlateSlabsModel" "letter" "I") (List.mem_of_getElem? (i := 4) rfl)) (fun _ h9 => h9) rfl dX6_readThing_177 ?_
                            refine lv_tpi (z := 100) (f7v3) ?_
                            refine lv_bipush (v := 98) hx hb dX6_readThing_180 (by decide) ?_
                            refine lv_icmp_ne (tgt := 190) hx hb dX6_readThing_182 (by decide) (fun c182 => ?_) (fun c182 => ?_)
                            · skip
                              refine lv_bipush (v := 40) hx hb dX6_readThing_190 (by decide) ?_
                              refine callMi (As := [.int 0, .int 40]) (wr := []) ⟨hx, hb, hml, hown, hts⟩ (mX6_takesNumber l T D b v3 tx (i + 3) len hlen hi3 f2v3 f5v3 (Or.inl f6v3) 0 40 (by decide) (by decide)) (cwV 2 hts gX6_readThing_X6_takesNumber rfl rfl rfl pdX6_takesNumber ⟨Nat.le_of_ble_eq_true rfl, Nat.le_of_ble_eq_true rfl⟩) hP hD hK hS hA xN_bl (fun U _ hW => XN_warm hW hX) (ci := 6) rfl rfl rfl hl.1 rfl rfl (Nat.le_of_ble_eq_true rfl) dX6_readThing_192 ⟨Nat.zero_le _, Nat.zero_le _⟩ (fun r33_ u34_ H locs eu34_ hP hD hS hkf => ?_)
                              obtain ⟨v4, rfl⟩ : ∃ z, z = u34_ := ⟨_, rfl⟩
                              have kv4 := eu34_
                              have hP : va_P D vwCl [(b 0, .inr (6, moF b v4)), ((b 9), .inl (T 0, 60, .inl (tx)))] H := hP
                              have hD : va_D A [(b 0, .inr (6, moF b v4)), ((b 9), .inl (T 0, 60, .inl (tx)))] := hD
                              have f2v4 : v4 2 = nI len := (kv4.1 2 (by decide) (by decide)).trans f2v3
                              have f7v4 : v4 7 = 100 := (kv4.1 7 (by decide) (by decide)).trans f7v3
                              have f8v4 : v4 8 = nI (dg (tch tx len (i + 1))) := (kv4.1 8 (by decide) (by decide)).trans f8v3
                              have f9v4 : v4 9 = 0 := (kv4.1 9 (by decide) (by decide)).trans f9v3
                              have Tv4 : vT v v4 := vT_R Tv3 kv4.1
                              obtain ⟨wv4, j2v4, -, nv4, rv4, f6v4, g5v4⟩ := kv4.2.resolve_right (fun z => z.1 ⟨f6v3, y3⟩)
                              obtain ⟨-, av4, bv4⟩ := num_fn nv4
                              have f5v4 : v4 5 = nI (nJ (tch tx len) (i + 3) 40) := by rw [g5v4, bv4]
                              refine lv_tpi (z := nI (nW (tch tx len) (i + 3) 40)) (by rw [rv4, av4]) ?_
                              skip
                              refine va_put (D := D) (ci := 6) (v := .int (nI (nW (tch tx len) (i + 3) 40))) (C := RX6) (T := TX6) (N := 22) hx hb hts inwX6_readThing_X6 tyX6 tyX6_ok nmX6 hown hK hP hD hS 0 rfl rfl 18 (by decide) (hts (.fieldLink RX6 175 "PlateSlabsModel" "second" "I") (List.mem_of_getElem? (i := 7) rfl)) (fun _ h9 => h9) rfl (tyX6_ok 18 (by decide)) (rfl) rfl (Nat.le_of_ble_eq_true rfl) dX6_readThing_195 (fun H locs hP hD hS => ?_)
                              have hP : va_P D vwCl [(b 0, .inr (6, moF b (upd v4 9 (nI (nW (tch tx len) (i + 3) 40))))), ((b 9), .inl (T 0, 60, .inl (tx)))] H := hP
                              have hD : va_D A [(b 0, .inr (6, moF b (upd v4 9 (nI (nW (tch tx len) (i + 3) 40))))), ((b 9), .inl (T 0, 60, .inl (tx)))] := hD
                              refine lv_goto (tgt := 222) hx hb dX6_readThing_198 (by decide) ?_
                              obtain ⟨u9, eu9⟩ : ∃ z, z = upd v4 9 (nI (nW (tch tx len) (i + 3) 40)) := ⟨_, rfl⟩
                              rw [← eu9] at hP hD
                              have Tu9 : vT v u9 := by rw [eu9]; exact (vT_u Tv4 _ (by decide) (by decide))
                              have f2u9 : u9 2 = nI len := by rw [eu9]; exact f2v4
                              have f5u9 : u9 5 = nI (nJ (tch tx len) (i + 3) 40) := by rw [eu9]; exact f5v4
                              have f6u9 : u9 6 = 0 := by rw [eu9]; exact f6v4
                              have f7u9 : u9 7 = 100 := by rw [eu9]; exact f7v4
                              have f8u9 : u9 8 = nI (dg (tch tx len (i + 1))) := by rw [eu9]; exact f8v4
                              have f9u9 : u9 9 = nI (nW (tch tx len) (i + 3) 40) := by rw [eu9]; rfl
                              have hP : va_P D vwCl [(b 0, .inr (6, moF b u9)), ((b 9), .inl (T 0, 60, .inl (tx)))] H := hP
                              have hD : va_D A [(b 0, .inr (6, moF b u9)), ((b 9), .inl (T 0, 60, .inl (tx)))] := hD
                              have hL := th_b1 (c := tch tx len) (i := i) (Or.inr ech.symm : tch tx len i = 98 ∨ tch tx len i = 100) y1 y2 y3
                              exact hret _ _ u9 _ _ dX6_readThing_222 hS hP hD ⟨Tu9, by rw [hL.2.2.2, ← ech, show tHi 100 = 40 from if_neg (by decide)]; exact f5u9, Or.inl ⟨hL.1, f6u9, by rw [← ech]; exact f7u9, by rw [hL.2.1]; exact f8u9, by rw [hL.2.2.1, ← ech, show tHi 100 = 40 from if_neg (by decide)]; exact f9u9⟩⟩
                            · skip
                              exact absurd c182 (by decide)
                      · skip
                        exact absurd c117 (by decide)
                    · skip
                      exact absurd rfl c98
                  · skip
                    exact absurd rfl c60
          · skip
            have hP : va_P D vwCl [(b 0, .inr (6, moF b (upd v 7 100))), ((b 9), .inl (T 0, 60, .inl (tx)))] H := hP
            have hD : va_D A [(b 0, .inr (6, moF b (upd v 7 100))), ((b 9), .inl (T 0, 60, .inl (tx)))] := hD
            refine lv_aload_n hx hb dX6_readThing_28 rfl (lv_at hl 0 rfl) ?_
            refine lv_aload_n hx hb dX6_readThing_29 rfl (lv_at hl 0 rfl) ?_
            refine va_get (D := D) (ci := 6) (v := .int (v 6)) (C := RX6) (T := TX6) (N := 22) hx hb hts inwX6_readThing_X6 hown hK hP 0 rfl rfl 15 (by decide) (hts (.fieldLink RX6 152 "PlateSlabsModel" "isWrong" "Z") (List.mem_of_getElem? (i := 5) rfl)) (fun _ h9 => h9) rfl dX6_readThing_30 ?_
            refine lv_if_ne (tgt := 81) hx hb dX6_readThing_33 (by decide) (fun c33 => ?_) (fun c33 => ?_)
            · skip
              exact absurd h6 c33
            · skip
              refine lv_aload_n hx hb dX6_readThing_36 rfl (lv_at hl 0 rfl) ?_
              refine va_get (D := D) (ci := 6) (v := .int 100) (C := RX6) (T := TX6) (N := 22) hx hb hts inwX6_readThing_X6 hown hK hP 0 rfl rfl 16 (by decide) (hts (.fieldLink RX6 166 "PlateSlabsModel" "letter" "I") (List.mem_of_getElem? (i := 4) rfl)) (fun _ h9 => h9) rfl dX6_readThing_37 ?_
              refine lv_bipush (v := 98) hx hb dX6_readThing_40 (by decide) ?_
              refine lv_icmp_eq (tgt := 85) hx hb dX6_readThing_42 (by decide) (fun c42 => ?_) (fun c42 => ?_)
              · skip
                exact absurd c42 (by decide)
              · skip
                refine lv_aload_n hx hb dX6_readThing_45 rfl (lv_at hl 0 rfl) ?_
                refine va_get (D := D) (ci := 6) (v := .int 100) (C := RX6) (T := TX6) (N := 22) hx hb hts inwX6_readThing_X6 hown hK hP 0 rfl rfl 16 (by decide) (hts (.fieldLink RX6 166 "PlateSlabsModel" "letter" "I") (List.mem_of_getElem? (i := 4) rfl)) (fun _ h9 => h9) rfl dX6_readThing_46 ?_
                refine lv_bipush (v := 111) hx hb dX6_readThing_49 (by decide) ?_
                refine lv_icmp_eq (tgt := 85) hx hb dX6_readThing_51 (by decide) (fun c51 => ?_) (fun c51 => ?_)
                · skip
                  exact absurd c51 (by decide)
                · skip
                  refine lv_aload_n hx hb dX6_readThing_54 rfl (lv_at hl 0 rfl) ?_
                  refine va_get (D := D) (ci := 6) (v := .int 100) (C := RX6) (T := TX6) (N := 22) hx hb hts inwX6_readThing_X6 hown hK hP 0 rfl rfl 16 (by decide) (hts (.fieldLink RX6 166 "PlateSlabsModel" "letter" "I") (List.mem_of_getElem? (i := 4) rfl)) (fun _ h9 => h9) rfl dX6_readThing_55 ?_
                  refine lv_bipush (v := 100) hx hb dX6_readThing_58 (by decide) ?_
                  refine lv_icmp_eq (tgt := 85) hx hb dX6_readThing_60 (by decide) (fun c60 => ?_) (fun c60 => ?_)
                  · skip
                    refine lv_iconst (v := 0) hx hb dX6_readThing_85 (by decide) ?_
                    refine va_put (D := D) (ci := 6) (v := .int 0) (C := RX6) (T := TX6) (N := 22) hx hb hts inwX6_readThing_X6 tyX6 tyX6_ok nmX6 hown hK hP hD hS 0 rfl rfl 15 (by decide) (hts (.fieldLink RX6 152 "PlateSlabsModel" "isWrong" "Z") (List.mem_of_getElem? (i := 5) rfl)) (fun _ h9 => h9) rfl (tyX6_ok 15 (by decide)) (rfl) rfl (Nat.le_of_ble_eq_true rfl) dX6_readThing_86 (fun H locs hP hD hS => ?_)
                    have hP : va_P D vwCl [(b 0, .inr (6, moF b (upd (upd v 7 100) 6 0))), ((b 9), .inl (T 0, 60, .inl (tx)))] H := hP
                    have hD : va_D A [(b 0, .inr (6, moF b (upd (upd v 7 100) 6 0))), ((b 9), .inl (T 0, 60, .inl (tx)))] := hD
                    refine lv_aload_n hx hb dX6_readThing_89 rfl (lv_at hl 0 rfl) ?_
                    refine lv_dup hx hb dX6_readThing_90 rfl ?_
                    refine va_get (D := D) (ci := 6) (v := .int (v 5)) (C := RX6) (T := TX6) (N := 22) hx hb hts inwX6_readThing_X6 hown hK hP 0 rfl rfl 14 (by decide) (hts (.fieldLink RX6 156 "PlateSlabsModel" "position" "I") (List.mem_of_getElem? (i := 1) rfl)) (fun _ h9 => h9) rfl dX6_readThing_91 ?_
                    refine lv_aload_n hx hb dX6_readThing_94 rfl (lv_at hl 0 rfl) ?_
                    refine va_get (D := D) (ci := 6) (v := .int 0) (C := RX6) (T := TX6) (N := 22) hx hb hts inwX6_readThing_X6 hown hK hP 0 rfl rfl 15 (by decide) (hts (.fieldLink RX6 152 "PlateSlabsModel" "isWrong" "Z") (List.mem_of_getElem? (i := 5) rfl)) (fun _ h9 => h9) rfl dX6_readThing_95 ?_
                    refine lv_if_eq (tgt := 105) hx hb dX6_readThing_98 (by decide) (fun c98 => ?_) (fun c98 => ?_)
                    · skip
                      refine lv_iconst (v := 1) hx hb dX6_readThing_105 (by decide) ?_
                      refine lv_iadd hx hb dX6_readThing_106 ?_
                      refine lv_tpi (z := nI (i + 1)) (by rw [h5]; exact nI_1 i) ?_
                      refine va_put (D := D) (ci := 6) (v := .int (nI (i + 1))) (C := RX6) (T := TX6) (N := 22) hx hb hts inwX6_readThing_X6 tyX6 tyX6_ok nmX6 hown hK hP hD hS 0 rfl rfl 14 (by decide) (hts (.fieldLink RX6 156 "PlateSlabsModel" "position" "I") (List.mem_of_getElem? (i := 1) rfl)) (fun _ h9 => h9) rfl (tyX6_ok 14 (by decide)) (rfl) rfl (Nat.le_of_ble_eq_true rfl) dX6_readThing_107 (fun H locs hP hD hS => ?_)
                      have hP : va_P D vwCl [(b 0, .inr (6, moF b (upd (upd (upd v 7 100) 6 0) 5 (nI (i + 1))))), ((b 9), .inl (T 0, 60, .inl (tx)))] H := hP
                      have hD : va_D A [(b 0, .inr (6, moF b (upd (upd (upd v 7 100) 6 0) 5 (nI (i + 1))))), ((b 9), .inl (T 0, 60, .inl (tx)))] := hD
                      obtain ⟨v0, ev0⟩ : ∃ z, z = upd (upd (upd v 7 100) 6 0) 5 (nI (i + 1)) := ⟨_, rfl⟩
                      rw [← ev0] at hP hD
                      have Tv0 : vT v v0 := by rw [ev0]; exact (vT_u (vT_u (vT_u (vT_rf v) _ (by decide) (by decide)) _ (by decide) (by decide)) _ (by decide) (by decide))
                      have f2v0 : v0 2 = nI len := by rw [ev0]; exact h2
                      have f5v0 : v0 5 = nI (i + 1) := by rw [ev0]; rfl
                      have f6v0 : v0 6 = 0 := by rw [ev0]; rfl
                      have f7v0 : v0 7 = 100 := by rw [ev0]; rfl
                      have hP : va_P D vwCl [(b 0, .inr (6, moF b v0)), ((b 9), .inl (T 0, 60, .inl (tx)))] H := hP
                      have hD : va_D A [(b 0, .inr (6, moF b v0)), ((b 9), .inl (T 0, 60, .inl (tx)))] := hD
                      refine lv_aload_n hx hb dX6_readThing_110 rfl (lv_at hl 0 rfl) ?_
                      refine lv_aload_n hx hb dX6_readThing_111 rfl (lv_at hl 0 rfl) ?_
                      refine va_get (D := D) (ci := 6) (v := .int (v0 7)) (C := RX6) (T := TX6) (N := 22) hx hb hts inwX6_readThing_X6 hown hK hP 0 rfl rfl 16 (by decide) (hts (.fieldLink RX6 166 "PlateSlabsModel" "letter" "I") (List.mem_of_getElem? (i := 4) rfl)) (fun _ h9 => h9) rfl dX6_readThing_112 ?_
                      refine lv_tpi (z := 100) (f7v0) ?_
                      refine lv_bipush (v := 46) hx hb dX6_readThing_115 (by decide) ?_
                      refine lv_icmp_ne (tgt := 130) hx hb dX6_readThing_117 (by decide) (fun c117 => ?_) (fun c117 => ?_)
                      · skip
                        refine lv_aload_n hx hb dX6_readThing_130 rfl (lv_at hl 0 rfl) ?_
                        refine lv_bipush (v := 48) hx hb dX6_readThing_131 (by decide) ?_
                        refine lv_bipush (v := 51) hx hb dX6_readThing_133 (by decide) ?_
                        refine callMi (As := [.int 48, .int 51]) (wr := []) ⟨hx, hb, hml, hown, hts⟩ (mX6_takes l T D b v0 tx (i + 1) len hlen hi1 f2v0 f5v0 (Or.inl f6v0) 48 51) (cwV 2 hts gX6_readThing_X6_takes rfl rfl rfl pdX6_takes ⟨Nat.le_of_ble_eq_true rfl, Nat.le_of_ble_eq_true rfl⟩) hP hD hK hS hA xN_bl (fun U _ hW => XN_warm hW hX) (ci := 6) rfl rfl rfl hl.1 rfl rfl (Nat.le_of_ble_eq_true rfl) dX6_readThing_135 ⟨Nat.zero_le _, Nat.zero_le _⟩ (fun r35_ u36_ H locs eu36_ hP hD hS hkf => ?_)
                        obtain ⟨v1, rfl⟩ : ∃ z, z = u36_ := ⟨_, rfl⟩
                        obtain ⟨jv1, kv1⟩ := eu36_
                        have hP : va_P D vwCl [(b 0, .inr (6, moF b v1)), ((b 9), .inl (T 0, 60, .inl (tx)))] H := hP
                        have hD : va_D A [(b 0, .inr (6, moF b v1)), ((b 9), .inl (T 0, 60, .inl (tx)))] := hD
                        have f2v1 : v1 2 = nI len := (kv1.1 2 (by decide) (by decide)).trans f2v0
                        have f7v1 : v1 7 = 100 := (kv1.1 7 (by decide) (by decide)).trans f7v0
                        have Tv1 : vT v v1 := vT_R Tv0 kv1.1
                        obtain ⟨-, f6v1, f5v1⟩ := kv1.2.resolve_right (fun z => z.1 ⟨f6v0, y1⟩)
                        skip
                        refine va_put (D := D) (ci := 6) (v := .int r35_) (C := RX6) (T := TX6) (N := 22) hx hb hts inwX6_readThing_X6 tyX6 tyX6_ok nmX6 hown hK hP hD hS 0 rfl rfl 17 (by decide) (hts (.fieldLink RX6 172 "PlateSlabsModel" "first" "I") (List.mem_of_getElem? (i := 6) rfl)) (fun _ h9 => h9) rfl (tyX6_ok 17 (by decide)) (rfl) rfl (Nat.le_of_ble_eq_true rfl) dX6_readThing_138 (fun H locs hP hD hS => ?_)
                        have hP : va_P D vwCl [(b 0, .inr (6, moF b (upd v1 8 r35_))), ((b 9), .inl (T 0, 60, .inl (tx)))] H := hP
                        have hD : va_D A [(b 0, .inr (6, moF b (upd v1 8 r35_))), ((b 9), .inl (T 0, 60, .inl (tx)))] := hD
                        obtain ⟨u1, eu1⟩ : ∃ z, z = upd v1 8 r35_ := ⟨_, rfl⟩
                        rw [← eu1] at hP hD
                        have Tu1 : vT v u1 := by rw [eu1]; exact (vT_u Tv1 _ (by decide) (by decide))
                        have f2u1 : u1 2 = nI len := by rw [eu1]; exact f2v1
                        have f5u1 : u1 5 = nI (i + 2) := by rw [eu1]; exact f5v1
                        have f6u1 : u1 6 = 0 := by rw [eu1]; exact f6v1
                        have f7u1 : u1 7 = 100 := by rw [eu1]; exact f7v1
                        have hP : va_P D vwCl [(b 0, .inr (6, moF b u1)), ((b 9), .inl (T 0, 60, .inl (tx)))] H := hP
                        have hD : va_D A [(b 0, .inr (6, moF b u1)), ((b 9), .inl (T 0, 60, .inl (tx)))] := hD
                        refine lv_aload_n hx hb dX6_readThing_141 rfl (lv_at hl 0 rfl) ?_
                        refine lv_iconst (v := 0) hx hb dX6_readThing_142 (by decide) ?_
                        refine va_put (D := D) (ci := 6) (v := .int 0) (C := RX6) (T := TX6) (N := 22) hx hb hts inwX6_readThing_X6 tyX6 tyX6_ok nmX6 hown hK hP hD hS 0 rfl rfl 18 (by decide) (hts (.fieldLink RX6 175 "PlateSlabsModel" "second" "I") (List.mem_of_getElem? (i := 7) rfl)) (fun _ h9 => h9) rfl (tyX6_ok 18 (by decide)) (rfl) rfl (Nat.le_of_ble_eq_true rfl) dX6_readThing_143 (fun H locs hP hD hS => ?_)
                        have hP : va_P D vwCl [(b 0, .inr (6, moF b (upd u1 9 0))), ((b 9), .inl (T 0, 60, .inl (tx)))] H := hP
                        have hD : va_D A [(b 0, .inr (6, moF b (upd u1 9 0))), ((b 9), .inl (T 0, 60, .inl (tx)))] := hD
                        obtain ⟨u2, eu2⟩ : ∃ z, z = upd u1 9 0 := ⟨_, rfl⟩
                        rw [← eu2] at hP hD
                        have Tu2 : vT v u2 := by rw [eu2]; exact (vT_u Tu1 _ (by decide) (by decide))
                        have f2u2 : u2 2 = nI len := by rw [eu2]; exact f2u1
                        have f5u2 : u2 5 = nI (i + 2) := by rw [eu2]; exact f5u1
                        have f6u2 : u2 6 = 0 := by rw [eu2]; exact f6u1
                        have f7u2 : u2 7 = 100 := by rw [eu2]; exact f7u1
                        have hP : va_P D vwCl [(b 0, .inr (6, moF b u2)), ((b 9), .inl (T 0, 60, .inl (tx)))] H := hP
                        have hD : va_D A [(b 0, .inr (6, moF b u2)), ((b 9), .inl (T 0, 60, .inl (tx)))] := hD
                        refine lv_aload_n hx hb dX6_readThing_146 rfl (lv_at hl 0 rfl) ?_
                        refine va_get (D := D) (ci := 6) (v := .int (u2 7)) (C := RX6) (T := TX6) (N := 22) hx hb hts inwX6_readThing_X6 hown hK hP 0 rfl rfl 16 (by decide) (hts (.fieldLink RX6 166 "PlateSlabsModel" "letter" "I") (List.mem_of_getElem? (i := 4) rfl)) (fun _ h9 => h9) rfl dX6_readThing_147 ?_
                        refine lv_tpi (z := 100) (f7u2) ?_
                        refine lv_bipush (v := 98) hx hb dX6_readThing_150 (by decide) ?_
                        refine lv_icmp_eq (tgt := 164) hx hb dX6_readThing_152 (by decide) (fun c152 => ?_) (fun c152 => ?_)
                        · skip
                          exact absurd c152 (by decide)
                        · skip
                          refine lv_aload_n hx hb dX6_readThing_155 rfl (lv_at hl 0 rfl) ?_
                          refine va_get (D := D) (ci := 6) (v := .int (u2 7)) (C := RX6) (T := TX6) (N := 22) hx hb hts inwX6_readThing_X6 hown hK hP 0 rfl rfl 16 (by decide) (hts (.fieldLink RX6 166 "PlateSlabsModel" "letter" "I") (List.mem_of_getElem? (i := 4) rfl)) (fun _ h9 => h9) rfl dX6_readThing_156 ?_
                          refine lv_tpi (z := 100) (f7u2) ?_
                          refine lv_bipush (v := 100) hx hb dX6_readThing_159 (by decide) ?_
                          refine lv_icmp_ne (tgt := 201) hx hb dX6_readThing_161 (by decide) (fun c161 => ?_) (fun c161 => ?_)
                          · skip
                            exact absurd rfl c161
                          · skip
                            refine lv_aload_n hx hb dX6_readThing_164 rfl (lv_at hl 0 rfl) ?_
                            refine lv_bipush (v := 61) hx hb dX6_readThing_165 (by decide) ?_
                            refine lv_bipush (v := 61) hx hb dX6_readThing_167 (by decide) ?_
                            refine callMi (As := [.int 61, .int 61]) (wr := []) ⟨hx, hb, hml, hown, hts⟩ (mX6_takes l T D b u2 tx (i + 2) len hlen hi2 f2u2 f5u2 (Or.inl f6u2) 61 61) (cwV 2 hts gX6_readThing_X6_takes rfl rfl rfl pdX6_takes ⟨Nat.le_of_ble_eq_true rfl, Nat.le_of_ble_eq_true rfl⟩) hP hD hK hS hA xN_bl (fun U _ hW => XN_warm hW hX) (ci := 6) rfl rfl rfl hl.1 rfl rfl (Nat.le_of_ble_eq_true rfl) dX6_readThing_169 ⟨Nat.zero_le _, Nat.zero_le _⟩ (fun r37_ u38_ H locs eu38_ hP hD hS hkf => ?_)
                            obtain ⟨v3, rfl⟩ : ∃ z, z = u38_ := ⟨_, rfl⟩
                            obtain ⟨jv3, kv3⟩ := eu38_
                            have hP : va_P D vwCl [(b 0, .inr (6, moF b v3)), ((b 9), .inl (T 0, 60, .inl (tx)))] H := hP
                            have hD : va_D A [(b 0, .inr (6, moF b v3)), ((b 9), .inl (T 0, 60, .inl (tx)))] := hD
                            have f2v3 : v3 2 = nI len := (kv3.1 2 (by decide) (by decide)).trans f2u2
                            have f7v3 : v3 7 = 100 := (kv3.1 7 (by decide) (by decide)).trans f7u2
                            have Tv3 : vT v v3 := vT_R Tu2 kv3.1
                            obtain ⟨-, f6v3, f5v3⟩ := kv3.2.resolve_right (fun z => z.1 ⟨f6u2, eq61.mpr y2⟩)
                            skip
                            refine lv_istore_n (lv' := [(1, .int r37_), (0, .ref (b 0))]) hx hb dX6_readThing_172 rfl hl (by decide) rfl (fun ls hl => ?_)
                            refine lv_aload_n hx hb dX6_readThing_173 rfl (lv_at hl 1 rfl) ?_
                            refine lv_aload_n hx hb dX6_readThing_174 rfl (lv_at hl 1 rfl) ?_
                            refine lv_iconst (v := 0) hx hb dX6_readThing_175 (by decide) ?_
                            refine lv_aload_n hx hb dX6_readThing_176 rfl (lv_at hl 1 rfl) ?_
                            refine va_get (D := D) (ci := 6) (v := .int (v3 7)) (C := RX6) (T := TX6) (N := 22) hx hb hts inwX6_readThing_X6 hown hK hP 0 rfl rfl 16 (by decide) (hts (.fieldLink RX6 166 "PlateSlabsModel" "letter" "I") (List.mem_of_getElem? (i := 4) rfl)) (fun _ h9 => h9) rfl dX6_readThing_177 ?_
                            refine lv_tpi (z := 100) (f7v3) ?_
                            refine lv_bipush (v := 98) hx hb dX6_readThing_180 (by decide) ?_
                            refine lv_icmp_ne (tgt := 190) hx hb dX6_readThing_182 (by decide) (fun c182 => ?_) (fun c182 => ?_)
                            · skip
                              refine lv_bipush (v := 40) hx hb dX6_readThing_190 (by decide) ?_
                              refine callMi (As := [.int 0, .int 40]) (wr := []) ⟨hx, hb, hml, hown, hts⟩ (mX6_takesNumber l T D b v3 tx (i + 3) len hlen hi3 f2v3 f5v3 (Or.inl f6v3) 0 40 (by decide) (by decide)) (cwV 2 hts gX6_readThing_X6_takesNumber rfl rfl rfl pdX6_takesNumber ⟨Nat.le_of_ble_eq_true rfl, Nat.le_of_ble_eq_true rfl⟩) hP hD hK hS hA xN_bl (fun U _ hW => XN_warm hW hX) (ci := 6) rfl rfl rfl hl.1 rfl rfl (Nat.le_of_ble_eq_true rfl) dX6_readThing_192 ⟨Nat.zero_le _, Nat.zero_le _⟩ (fun r39_ u40_ H locs eu40_ hP hD hS hkf => ?_)
                              obtain ⟨v4, rfl⟩ : ∃ z, z = u40_ := ⟨_, rfl⟩
                              have kv4 := eu40_
                              have hP : va_P D vwCl [(b 0, .inr (6, moF b v4)), ((b 9), .inl (T 0, 60, .inl (tx)))] H := hP
                              have hD : va_D A [(b 0, .inr (6, moF b v4)), ((b 9), .inl (T 0, 60, .inl (tx)))] := hD
                              have f2v4 : v4 2 = nI len := (kv4.1 2 (by decide) (by decide)).trans f2v3
                              have f7v4 : v4 7 = 100 := (kv4.1 7 (by decide) (by decide)).trans f7v3
                              have Tv4 : vT v v4 := vT_R Tv3 kv4.1
                              obtain ⟨-, f6v4, f5v4⟩ := kv4.2.resolve_left (fun ⟨_, _, _, z, _⟩ => y3 (num_fn z).1)
                              skip
                              refine va_put (D := D) (ci := 6) (v := .int r39_) (C := RX6) (T := TX6) (N := 22) hx hb hts inwX6_readThing_X6 tyX6 tyX6_ok nmX6 hown hK hP hD hS 0 rfl rfl 18 (by decide) (hts (.fieldLink RX6 175 "PlateSlabsModel" "second" "I") (List.mem_of_getElem? (i := 7) rfl)) (fun _ h9 => h9) rfl (tyX6_ok 18 (by decide)) (rfl) rfl (Nat.le_of_ble_eq_true rfl) dX6_readThing_195 (fun H locs hP hD hS => ?_)
                              have hP : va_P D vwCl [(b 0, .inr (6, moF b (upd v4 9 r39_))), ((b 9), .inl (T 0, 60, .inl (tx)))] H := hP
                              have hD : va_D A [(b 0, .inr (6, moF b (upd v4 9 r39_))), ((b 9), .inl (T 0, 60, .inl (tx)))] := hD
                              refine lv_goto (tgt := 222) hx hb dX6_readThing_198 (by decide) ?_
                              obtain ⟨u9, eu9⟩ : ∃ z, z = upd v4 9 r39_ := ⟨_, rfl⟩
                              rw [← eu9] at hP hD
                              have Tu9 : vT v u9 := by rw [eu9]; exact (vT_u Tv4 _ (by decide) (by decide))
                              have f2u9 : u9 2 = nI len := by rw [eu9]; exact f2v4
                              have f5u9 : u9 5 = nI (i + 3) := by rw [eu9]; exact f5v4
                              have f6u9 : u9 6 = 1 := by rw [eu9]; exact f6v4
                              have f7u9 : u9 7 = 100 := by rw [eu9]; exact f7v4
                              have hP : va_P D vwCl [(b 0, .inr (6, moF b u9)), ((b 9), .inl (T 0, 60, .inl (tx)))] H := hP
                              have hD : va_D A [(b 0, .inr (6, moF b u9)), ((b 9), .inl (T 0, 60, .inl (tx)))] := hD
                              have hL := th_b02 (c := tch tx len) (i := i) (Or.inr ech.symm : tch tx len i = 98 ∨ tch tx len i = 100) y1 y2 y3
                              exact hret _ _ u9 _ _ dX6_readThing_222 hS hP hD ⟨Tu9, by rw [hL.2]; exact f5u9, Or.inr ⟨hL.1, f6u9⟩⟩
                            · skip
                              exact absurd c182 (by decide)
                      · skip
                        exact absurd c117 (by decide)
                    · skip
                      exact absurd rfl c98
                  · skip
                    exact absurd rfl c60
        · skip
          have hP : va_P D vwCl [(b 0, .inr (6, moF b (upd v 7 100))), ((b 9), .inl (T 0, 60, .inl (tx)))] H := hP
          have hD : va_D A [(b 0, .inr (6, moF b (upd v 7 100))), ((b 9), .inl (T 0, 60, .inl (tx)))] := hD
          refine lv_aload_n hx hb dX6_readThing_28 rfl (lv_at hl 0 rfl) ?_
          refine lv_aload_n hx hb dX6_readThing_29 rfl (lv_at hl 0 rfl) ?_
          refine va_get (D := D) (ci := 6) (v := .int (v 6)) (C := RX6) (T := TX6) (N := 22) hx hb hts inwX6_readThing_X6 hown hK hP 0 rfl rfl 15 (by decide) (hts (.fieldLink RX6 152 "PlateSlabsModel" "isWrong" "Z") (List.mem_of_getElem? (i := 5) rfl)) (fun _ h9 => h9) rfl dX6_readThing_30 ?_
          refine lv_if_ne (tgt := 81) hx hb dX6_readThing_33 (by decide) (fun c33 => ?_) (fun c33 => ?_)
          · skip
            exact absurd h6 c33
          · skip
            refine lv_aload_n hx hb dX6_readThing_36 rfl (lv_at hl 0 rfl) ?_
            refine va_get (D := D) (ci := 6) (v := .int 100) (C := RX6) (T := TX6) (N := 22) hx hb hts inwX6_readThing_X6 hown hK hP 0 rfl rfl 16 (by decide) (hts (.fieldLink RX6 166 "PlateSlabsModel" "letter" "I") (List.mem_of_getElem? (i := 4) rfl)) (fun _ h9 => h9) rfl dX6_readThing_37 ?_
            refine lv_bipush (v := 98) hx hb dX6_readThing_40 (by decide) ?_
            refine lv_icmp_eq (tgt := 85) hx hb dX6_readThing_42 (by decide) (fun c42 => ?_) (fun c42 => ?_)
            · skip
              exact absurd c42 (by decide)
            · skip
              refine lv_aload_n hx hb dX6_readThing_45 rfl (lv_at hl 0 rfl) ?_
              refine va_get (D := D) (ci := 6) (v := .int 100) (C := RX6) (T := TX6) (N := 22) hx hb hts inwX6_readThing_X6 hown hK hP 0 rfl rfl 16 (by decide) (hts (.fieldLink RX6 166 "PlateSlabsModel" "letter" "I") (List.mem_of_getElem? (i := 4) rfl)) (fun _ h9 => h9) rfl dX6_readThing_46 ?_
              refine lv_bipush (v := 111) hx hb dX6_readThing_49 (by decide) ?_
              refine lv_icmp_eq (tgt := 85) hx hb dX6_readThing_51 (by decide) (fun c51 => ?_) (fun c51 => ?_)
              · skip
                exact absurd c51 (by decide)
              · skip
                refine lv_aload_n hx hb dX6_readThing_54 rfl (lv_at hl 0 rfl) ?_
                refine va_get (D := D) (ci := 6) (v := .int 100) (C := RX6) (T := TX6) (N := 22) hx hb hts inwX6_readThing_X6 hown hK hP 0 rfl rfl 16 (by decide) (hts (.fieldLink RX6 166 "PlateSlabsModel" "letter" "I") (List.mem_of_getElem? (i := 4) rfl)) (fun _ h9 => h9) rfl dX6_readThing_55 ?_
                refine lv_bipush (v := 100) hx hb dX6_readThing_58 (by decide) ?_
                refine lv_icmp_eq (tgt := 85) hx hb dX6_readThing_60 (by decide) (fun c60 => ?_) (fun c60 => ?_)
                · skip
                  refine lv_iconst (v := 0) hx hb dX6_readThing_85 (by decide) ?_
                  refine va_put (D := D) (ci := 6) (v := .int 0) (C := RX6) (T := TX6) (N := 22) hx hb hts inwX6_readThing_X6 tyX6 tyX6_ok nmX6 hown hK hP hD hS 0 rfl rfl 15 (by decide) (hts (.fieldLink RX6 152 "PlateSlabsModel" "isWrong" "Z") (List.mem_of_getElem? (i := 5) rfl)) (fun _ h9 => h9) rfl (tyX6_ok 15 (by decide)) (rfl) rfl (Nat.le_of_ble_eq_true rfl) dX6_readThing_86 (fun H locs hP hD hS => ?_)
                  have hP : va_P D vwCl [(b 0, .inr (6, moF b (upd (upd v 7 100) 6 0))), ((b 9), .inl (T 0, 60, .inl (tx)))] H := hP
                  have hD : va_D A [(b 0, .inr (6, moF b (upd (upd v 7 100) 6 0))), ((b 9), .inl (T 0, 60, .inl (tx)))] := hD
                  refine lv_aload_n hx hb dX6_readThing_89 rfl (lv_at hl 0 rfl) ?_
                  refine lv_dup hx hb dX6_readThing_90 rfl ?_
                  refine va_get (D := D) (ci := 6) (v := .int (v 5)) (C := RX6) (T := TX6) (N := 22) hx hb hts inwX6_readThing_X6 hown hK hP 0 rfl rfl 14 (by decide) (hts (.fieldLink RX6 156 "PlateSlabsModel" "position" "I") (List.mem_of_getElem? (i := 1) rfl)) (fun _ h9 => h9) rfl dX6_readThing_91 ?_
                  refine lv_aload_n hx hb dX6_readThing_94 rfl (lv_at hl 0 rfl) ?_
                  refine va_get (D := D) (ci := 6) (v := .int 0) (C := RX6) (T := TX6) (N := 22) hx hb hts inwX6_readThing_X6 hown hK hP 0 rfl rfl 15 (by decide) (hts (.fieldLink RX6 152 "PlateSlabsModel" "isWrong" "Z") (List.mem_of_getElem? (i := 5) rfl)) (fun _ h9 => h9) rfl dX6_readThing_95 ?_
                  refine lv_if_eq (tgt := 105) hx hb dX6_readThing_98 (by decide) (fun c98 => ?_) (fun c98 => ?_)
                  · skip
                    refine lv_iconst (v := 1) hx hb dX6_readThing_105 (by decide) ?_
                    refine lv_iadd hx hb dX6_readThing_106 ?_
                    refine lv_tpi (z := nI (i + 1)) (by rw [h5]; exact nI_1 i) ?_
                    refine va_put (D := D) (ci := 6) (v := .int (nI (i + 1))) (C := RX6) (T := TX6) (N := 22) hx hb hts inwX6_readThing_X6 tyX6 tyX6_ok nmX6 hown hK hP hD hS 0 rfl rfl 14 (by decide) (hts (.fieldLink RX6 156 "PlateSlabsModel" "position" "I") (List.mem_of_getElem? (i := 1) rfl)) (fun _ h9 => h9) rfl (tyX6_ok 14 (by decide)) (rfl) rfl (Nat.le_of_ble_eq_true rfl) dX6_readThing_107 (fun H locs hP hD hS => ?_)
                    have hP : va_P D vwCl [(b 0, .inr (6, moF b (upd (upd (upd v 7 100) 6 0) 5 (nI (i + 1))))), ((b 9), .inl (T 0, 60, .inl (tx)))] H := hP
                    have hD : va_D A [(b 0, .inr (6, moF b (upd (upd (upd v 7 100) 6 0) 5 (nI (i + 1))))), ((b 9), .inl (T 0, 60, .inl (tx)))] := hD
                    obtain ⟨v0, ev0⟩ : ∃ z, z = upd (upd (upd v 7 100) 6 0) 5 (nI (i + 1)) := ⟨_, rfl⟩
                    rw [← ev0] at hP hD
                    have Tv0 : vT v v0 := by rw [ev0]; exact (vT_u (vT_u (vT_u (vT_rf v) _ (by decide) (by decide)) _ (by decide) (by decide)) _ (by decide) (by decide))
                    have f2v0 : v0 2 = nI len := by rw [ev0]; exact h2
                    have f5v0 : v0 5 = nI (i + 1) := by rw [ev0]; rfl
                    have f6v0 : v0 6 = 0 := by rw [ev0]; rfl
                    have f7v0 : v0 7 = 100 := by rw [ev0]; rfl
                    have hP : va_P D vwCl [(b 0, .inr (6, moF b v0)), ((b 9), .inl (T 0, 60, .inl (tx)))] H := hP
                    have hD : va_D A [(b 0, .inr (6, moF b v0)), ((b 9), .inl (T 0, 60, .inl (tx)))] := hD
                    refine lv_aload_n hx hb dX6_readThing_110 rfl (lv_at hl 0 rfl) ?_
                    refine lv_aload_n hx hb dX6_readThing_111 rfl (lv_at hl 0 rfl) ?_
                    refine va_get (D := D) (ci := 6) (v := .int (v0 7)) (C := RX6) (T := TX6) (N := 22) hx hb hts inwX6_readThing_X6 hown hK hP 0 rfl rfl 16 (by decide) (hts (.fieldLink RX6 166 "PlateSlabsModel" "letter" "I") (List.mem_of_getElem? (i := 4) rfl)) (fun _ h9 => h9) rfl dX6_readThing_112 ?_
                    refine lv_tpi (z := 100) (f7v0) ?_
                    refine lv_bipush (v := 46) hx hb dX6_readThing_115 (by decide) ?_
                    refine lv_icmp_ne (tgt := 130) hx hb dX6_readThing_117 (by decide) (fun c117 => ?_) (fun c117 => ?_)
                    · skip
                      refine lv_aload_n hx hb dX6_readThing_130 rfl (lv_at hl 0 rfl) ?_
                      refine lv_bipush (v := 48) hx hb dX6_readThing_131 (by decide) ?_
                      refine lv_bipush (v := 51) hx hb dX6_readThing_133 (by decide) ?_
                      refine callMi (As := [.int 48, .int 51]) (wr := []) ⟨hx, hb, hml, hown, hts⟩ (mX6_takes l T D b v0 tx (i + 1) len hlen hi1 f2v0 f5v0 (Or.inl f6v0) 48 51) (cwV 2 hts gX6_readThing_X6_takes rfl rfl rfl pdX6_takes ⟨Nat.le_of_ble_eq_true rfl, Nat.le_of_ble_eq_true rfl⟩) hP hD hK hS hA xN_bl (fun U _ hW => XN_warm hW hX) (ci := 6) rfl rfl rfl hl.1 rfl rfl (Nat.le_of_ble_eq_true rfl) dX6_readThing_135 ⟨Nat.zero_le _, Nat.zero_le _⟩ (fun r41_ u42_ H locs eu42_ hP hD hS hkf => ?_)
                      obtain ⟨v1, rfl⟩ : ∃ z, z = u42_ := ⟨_, rfl⟩
                      obtain ⟨jv1, kv1⟩ := eu42_
                      have hP : va_P D vwCl [(b 0, .inr (6, moF b v1)), ((b 9), .inl (T 0, 60, .inl (tx)))] H := hP
                      have hD : va_D A [(b 0, .inr (6, moF b v1)), ((b 9), .inl (T 0, 60, .inl (tx)))] := hD
                      have f2v1 : v1 2 = nI len := (kv1.1 2 (by decide) (by decide)).trans f2v0
                      have f7v1 : v1 7 = 100 := (kv1.1 7 (by decide) (by decide)).trans f7v0
                      have Tv1 : vT v v1 := vT_R Tv0 kv1.1
                      obtain ⟨-, f6v1, f5v1⟩ := kv1.2.resolve_right (fun z => z.1 ⟨f6v0, y1⟩)
                      skip
                      refine va_put (D := D) (ci := 6) (v := .int r41_) (C := RX6) (T := TX6) (N := 22) hx hb hts inwX6_readThing_X6 tyX6 tyX6_ok nmX6 hown hK hP hD hS 0 rfl rfl 17 (by decide) (hts (.fieldLink RX6 172 "PlateSlabsModel" "first" "I") (List.mem_of_getElem? (i := 6) rfl)) (fun _ h9 => h9) rfl (tyX6_ok 17 (by decide)) (rfl) rfl (Nat.le_of_ble_eq_true rfl) dX6_readThing_138 (fun H locs hP hD hS => ?_)
                      have hP : va_P D vwCl [(b 0, .inr (6, moF b (upd v1 8 r41_))), ((b 9), .inl (T 0, 60, .inl (tx)))] H := hP
                      have hD : va_D A [(b 0, .inr (6, moF b (upd v1 8 r41_))), ((b 9), .inl (T 0, 60, .inl (tx)))] := hD
                      obtain ⟨u1, eu1⟩ : ∃ z, z = upd v1 8 r41_ := ⟨_, rfl⟩
                      rw [← eu1] at hP hD
                      have Tu1 : vT v u1 := by rw [eu1]; exact (vT_u Tv1 _ (by decide) (by decide))
                      have f2u1 : u1 2 = nI len := by rw [eu1]; exact f2v1
                      have f5u1 : u1 5 = nI (i + 2) := by rw [eu1]; exact f5v1
                      have f6u1 : u1 6 = 0 := by rw [eu1]; exact f6v1
                      have f7u1 : u1 7 = 100 := by rw [eu1]; exact f7v1
                      have hP : va_P D vwCl [(b 0, .inr (6, moF b u1)), ((b 9), .inl (T 0, 60, .inl (tx)))] H := hP
                      have hD : va_D A [(b 0, .inr (6, moF b u1)), ((b 9), .inl (T 0, 60, .inl (tx)))] := hD
                      refine lv_aload_n hx hb dX6_readThing_141 rfl (lv_at hl 0 rfl) ?_
                      refine lv_iconst (v := 0) hx hb dX6_readThing_142 (by decide) ?_
                      refine va_put (D := D) (ci := 6) (v := .int 0) (C := RX6) (T := TX6) (N := 22) hx hb hts inwX6_readThing_X6 tyX6 tyX6_ok nmX6 hown hK hP hD hS 0 rfl rfl 18 (by decide) (hts (.fieldLink RX6 175 "PlateSlabsModel" "second" "I") (List.mem_of_getElem? (i := 7) rfl)) (fun _ h9 => h9) rfl (tyX6_ok 18 (by decide)) (rfl) rfl (Nat.le_of_ble_eq_true rfl) dX6_readThing_143 (fun H locs hP hD hS => ?_)
                      have hP : va_P D vwCl [(b 0, .inr (6, moF b (upd u1 9 0))), ((b 9), .inl (T 0, 60, .inl (tx)))] H := hP
                      have hD : va_D A [(b 0, .inr (6, moF b (upd u1 9 0))), ((b 9), .inl (T 0, 60, .inl (tx)))] := hD
                      obtain ⟨u2, eu2⟩ : ∃ z, z = upd u1 9 0 := ⟨_, rfl⟩
                      rw [← eu2] at hP hD
                      have Tu2 : vT v u2 := by rw [eu2]; exact (vT_u Tu1 _ (by decide) (by decide))
                      have f2u2 : u2 2 = nI len := by rw [eu2]; exact f2u1
                      have f5u2 : u2 5 = nI (i + 2) := by rw [eu2]; exact f5u1
                      have f6u2 : u2 6 = 0 := by rw [eu2]; exact f6u1
                      have f7u2 : u2 7 = 100 := by rw [eu2]; exact f7u1
                      have hP : va_P D vwCl [(b 0, .inr (6, moF b u2)), ((b 9), .inl (T 0, 60, .inl (tx)))] H := hP
                      have hD : va_D A [(b 0, .inr (6, moF b u2)), ((b 9), .inl (T 0, 60, .inl (tx)))] := hD
                      refine lv_aload_n hx hb dX6_readThing_146 rfl (lv_at hl 0 rfl) ?_
                      refine va_get (D := D) (ci := 6) (v := .int (u2 7)) (C := RX6) (T := TX6) (N := 22) hx hb hts inwX6_readThing_X6 hown hK hP 0 rfl rfl 16 (by decide) (hts (.fieldLink RX6 166 "PlateSlabsModel" "letter" "I") (List.mem_of_getElem? (i := 4) rfl)) (fun _ h9 => h9) rfl dX6_readThing_147 ?_
                      refine lv_tpi (z := 100) (f7u2) ?_
                      refine lv_bipush (v := 98) hx hb dX6_readThing_150 (by decide) ?_
                      refine lv_icmp_eq (tgt := 164) hx hb dX6_readThing_152 (by decide) (fun c152 => ?_) (fun c152 => ?_)
                      · skip
                        exact absurd c152 (by decide)
                      · skip
                        refine lv_aload_n hx hb dX6_readThing_155 rfl (lv_at hl 0 rfl) ?_
                        refine va_get (D := D) (ci := 6) (v := .int (u2 7)) (C := RX6) (T := TX6) (N := 22) hx hb hts inwX6_readThing_X6 hown hK hP 0 rfl rfl 16 (by decide) (hts (.fieldLink RX6 166 "PlateSlabsModel" "letter" "I") (List.mem_of_getElem? (i := 4) rfl)) (fun _ h9 => h9) rfl dX6_readThing_156 ?_
                        refine lv_tpi (z := 100) (f7u2) ?_
                        refine lv_bipush (v := 100) hx hb dX6_readThing_159 (by decide) ?_
                        refine lv_icmp_ne (tgt := 201) hx hb dX6_readThing_161 (by decide) (fun c161 => ?_) (fun c161 => ?_)
                        · skip
                          exact absurd rfl c161
                        · skip
                          refine lv_aload_n hx hb dX6_readThing_164 rfl (lv_at hl 0 rfl) ?_
                          refine lv_bipush (v := 61) hx hb dX6_readThing_165 (by decide) ?_
                          refine lv_bipush (v := 61) hx hb dX6_readThing_167 (by decide) ?_
                          refine callMi (As := [.int 61, .int 61]) (wr := []) ⟨hx, hb, hml, hown, hts⟩ (mX6_takes l T D b u2 tx (i + 2) len hlen hi2 f2u2 f5u2 (Or.inl f6u2) 61 61) (cwV 2 hts gX6_readThing_X6_takes rfl rfl rfl pdX6_takes ⟨Nat.le_of_ble_eq_true rfl, Nat.le_of_ble_eq_true rfl⟩) hP hD hK hS hA xN_bl (fun U _ hW => XN_warm hW hX) (ci := 6) rfl rfl rfl hl.1 rfl rfl (Nat.le_of_ble_eq_true rfl) dX6_readThing_169 ⟨Nat.zero_le _, Nat.zero_le _⟩ (fun r43_ u44_ H locs eu44_ hP hD hS hkf => ?_)
                          obtain ⟨v3, rfl⟩ : ∃ z, z = u44_ := ⟨_, rfl⟩
                          obtain ⟨jv3, kv3⟩ := eu44_
                          have hP : va_P D vwCl [(b 0, .inr (6, moF b v3)), ((b 9), .inl (T 0, 60, .inl (tx)))] H := hP
                          have hD : va_D A [(b 0, .inr (6, moF b v3)), ((b 9), .inl (T 0, 60, .inl (tx)))] := hD
                          have f2v3 : v3 2 = nI len := (kv3.1 2 (by decide) (by decide)).trans f2u2
                          have f7v3 : v3 7 = 100 := (kv3.1 7 (by decide) (by decide)).trans f7u2
                          have Tv3 : vT v v3 := vT_R Tu2 kv3.1
                          obtain ⟨-, f6v3, f5v3⟩ := kv3.2.resolve_left (fun z => y2 (eq61.mp z.1.2))
                          skip
                          refine lv_istore_n (lv' := [(1, .int r43_), (0, .ref (b 0))]) hx hb dX6_readThing_172 rfl hl (by decide) rfl (fun ls hl => ?_)
                          refine lv_aload_n hx hb dX6_readThing_173 rfl (lv_at hl 1 rfl) ?_
                          refine lv_aload_n hx hb dX6_readThing_174 rfl (lv_at hl 1 rfl) ?_
                          refine lv_iconst (v := 0) hx hb dX6_readThing_175 (by decide) ?_
                          refine lv_aload_n hx hb dX6_readThing_176 rfl (lv_at hl 1 rfl) ?_
                          refine va_get (D := D) (ci := 6) (v := .int (v3 7)) (C := RX6) (T := TX6) (N := 22) hx hb hts inwX6_readThing_X6 hown hK hP 0 rfl rfl 16 (by decide) (hts (.fieldLink RX6 166 "PlateSlabsModel" "letter" "I") (List.mem_of_getElem? (i := 4) rfl)) (fun _ h9 => h9) rfl dX6_readThing_177 ?_
                          refine lv_tpi (z := 100) (f7v3) ?_
                          refine lv_bipush (v := 98) hx hb dX6_readThing_180 (by decide) ?_
                          refine lv_icmp_ne (tgt := 190) hx hb dX6_readThing_182 (by decide) (fun c182 => ?_) (fun c182 => ?_)
                          · skip
                            refine lv_bipush (v := 40) hx hb dX6_readThing_190 (by decide) ?_
                            refine callMi (As := [.int 0, .int 40]) (wr := []) ⟨hx, hb, hml, hown, hts⟩ (mX6_takesNumber l T D b v3 tx (i + 2) len hlen hi2 f2v3 f5v3 (Or.inr f6v3) 0 40 (by decide) (by decide)) (cwV 2 hts gX6_readThing_X6_takesNumber rfl rfl rfl pdX6_takesNumber ⟨Nat.le_of_ble_eq_true rfl, Nat.le_of_ble_eq_true rfl⟩) hP hD hK hS hA xN_bl (fun U _ hW => XN_warm hW hX) (ci := 6) rfl rfl rfl hl.1 rfl rfl (Nat.le_of_ble_eq_true rfl) dX6_readThing_192 ⟨Nat.zero_le _, Nat.zero_le _⟩ (fun r45_ u46_ H locs eu46_ hP hD hS hkf => ?_)
                            obtain ⟨v4, rfl⟩ : ∃ z, z = u46_ := ⟨_, rfl⟩
                            have kv4 := eu46_
                            have hP : va_P D vwCl [(b 0, .inr (6, moF b v4)), ((b 9), .inl (T 0, 60, .inl (tx)))] H := hP
                            have hD : va_D A [(b 0, .inr (6, moF b v4)), ((b 9), .inl (T 0, 60, .inl (tx)))] := hD
                            have f2v4 : v4 2 = nI len := (kv4.1 2 (by decide) (by decide)).trans f2v3
                            have f7v4 : v4 7 = 100 := (kv4.1 7 (by decide) (by decide)).trans f7v3
                            have Tv4 : vT v v4 := vT_R Tv3 kv4.1
                            obtain ⟨-, f6v4, f5v4⟩ := kv4.2.resolve_left (fun ⟨_, _, z, _⟩ => absurd (f6v3.symm.trans z) (by decide))
                            skip
                            refine va_put (D := D) (ci := 6) (v := .int r45_) (C := RX6) (T := TX6) (N := 22) hx hb hts inwX6_readThing_X6 tyX6 tyX6_ok nmX6 hown hK hP hD hS 0 rfl rfl 18 (by decide) (hts (.fieldLink RX6 175 "PlateSlabsModel" "second" "I") (List.mem_of_getElem? (i := 7) rfl)) (fun _ h9 => h9) rfl (tyX6_ok 18 (by decide)) (rfl) rfl (Nat.le_of_ble_eq_true rfl) dX6_readThing_195 (fun H locs hP hD hS => ?_)
                            have hP : va_P D vwCl [(b 0, .inr (6, moF b (upd v4 9 r45_))), ((b 9), .inl (T 0, 60, .inl (tx)))] H := hP
                            have hD : va_D A [(b 0, .inr (6, moF b (upd v4 9 r45_))), ((b 9), .inl (T 0, 60, .inl (tx)))] := hD
                            refine lv_goto (tgt := 222) hx hb dX6_readThing_198 (by decide) ?_
                            obtain ⟨u9, eu9⟩ : ∃ z, z = upd v4 9 r45_ := ⟨_, rfl⟩
                            rw [← eu9] at hP hD
                            have Tu9 : vT v u9 := by rw [eu9]; exact (vT_u Tv4 _ (by decide) (by decide))
                            have f2u9 : u9 2 = nI len := by rw [eu9]; exact f2v4
                            have f5u9 : u9 5 = nI (i + 2) := by rw [eu9]; exact f5v4
                            have f6u9 : u9 6 = 1 := by rw [eu9]; exact f6v4
                            have f7u9 : u9 7 = 100 := by rw [eu9]; exact f7v4
                            have hP : va_P D vwCl [(b 0, .inr (6, moF b u9)), ((b 9), .inl (T 0, 60, .inl (tx)))] H := hP
                            have hD : va_D A [(b 0, .inr (6, moF b u9)), ((b 9), .inl (T 0, 60, .inl (tx)))] := hD
                            have hL := th_b01 (c := tch tx len) (i := i) (Or.inr ech.symm : tch tx len i = 98 ∨ tch tx len i = 100) y1 y2
                            exact hret _ _ u9 _ _ dX6_readThing_222 hS hP hD ⟨Tu9, by rw [hL.2]; exact f5u9, Or.inr ⟨hL.1, f6u9⟩⟩
                          · skip
                            exact absurd c182 (by decide)
                    · skip
                      exact absurd c117 (by decide)
                  · skip
                    exact absurd rfl c98
                · skip
                  exact absurd rfl c60
      · skip
        have hP : va_P D vwCl [(b 0, .inr (6, moF b (upd v 7 100))), ((b 9), .inl (T 0, 60, .inl (tx)))] H := hP
        have hD : va_D A [(b 0, .inr (6, moF b (upd v 7 100))), ((b 9), .inl (T 0, 60, .inl (tx)))] := hD
        refine lv_aload_n hx hb dX6_readThing_28 rfl (lv_at hl 0 rfl) ?_
        refine lv_aload_n hx hb dX6_readThing_29 rfl (lv_at hl 0 rfl) ?_
        refine va_get (D := D) (ci := 6) (v := .int (v 6)) (C := RX6) (T := TX6) (N := 22) hx hb hts inwX6_readThing_X6 hown hK hP 0 rfl rfl 15 (by decide) (hts (.fieldLink RX6 152 "PlateSlabsModel" "isWrong" "Z") (List.mem_of_getElem? (i := 5) rfl)) (fun _ h9 => h9) rfl dX6_readThing_30 ?_
        refine lv_if_ne (tgt := 81) hx hb dX6_readThing_33 (by decide) (fun c33 => ?_) (fun c33 => ?_)
        · skip
          exact absurd h6 c33
        · skip
          refine lv_aload_n hx hb dX6_readThing_36 rfl (lv_at hl 0 rfl) ?_
          refine va_get (D := D) (ci := 6) (v := .int 100) (C := RX6) (T := TX6) (N := 22) hx hb hts inwX6_readThing_X6 hown hK hP 0 rfl rfl 16 (by decide) (hts (.fieldLink RX6 166 "PlateSlabsModel" "letter" "I") (List.mem_of_getElem? (i := 4) rfl)) (fun _ h9 => h9) rfl dX6_readThing_37 ?_
          refine lv_bipush (v := 98) hx hb dX6_readThing_40 (by decide) ?_
          refine lv_icmp_eq (tgt := 85) hx hb dX6_readThing_42 (by decide) (fun c42 => ?_) (fun c42 => ?_)
          · skip
            exact absurd c42 (by decide)
          · skip
            refine lv_aload_n hx hb dX6_readThing_45 rfl (lv_at hl 0 rfl) ?_
            refine va_get (D := D) (ci := 6) (v := .int 100) (C := RX6) (T := TX6) (N := 22) hx hb hts inwX6_readThing_X6 hown hK hP 0 rfl rfl 16 (by decide) (hts (.fieldLink RX6 166 "PlateSlabsModel" "letter" "I") (List.mem_of_getElem? (i := 4) rfl)) (fun _ h9 => h9) rfl dX6_readThing_46 ?_
            refine lv_bipush (v := 111) hx hb dX6_readThing_49 (by decide) ?_
            refine lv_icmp_eq (tgt := 85) hx hb dX6_readThing_51 (by decide) (fun c51 => ?_) (fun c51 => ?_)
            · skip
              exact absurd c51 (by decide)
            · skip
              refine lv_aload_n hx hb dX6_readThing_54 rfl (lv_at hl 0 rfl) ?_
              refine va_get (D := D) (ci := 6) (v := .int 100) (C := RX6) (T := TX6) (N := 22) hx hb hts inwX6_readThing_X6 hown hK hP 0 rfl rfl 16 (by decide) (hts (.fieldLink RX6 166 "PlateSlabsModel" "letter" "I") (List.mem_of_getElem? (i := 4) rfl)) (fun _ h9 => h9) rfl dX6_readThing_55 ?_
              refine lv_bipush (v := 100) hx hb dX6_readThing_58 (by decide) ?_
              refine lv_icmp_eq (tgt := 85) hx hb dX6_readThing_60 (by decide) (fun c60 => ?_) (fun c60 => ?_)
              · skip
                refine lv_iconst (v := 0) hx hb dX6_readThing_85 (by decide) ?_
                refine va_put (D := D) (ci := 6) (v := .int 0) (C := RX6) (T := TX6) (N := 22) hx hb hts inwX6_readThing_X6 tyX6 tyX6_ok nmX6 hown hK hP hD hS 0 rfl rfl 15 (by decide) (hts (.fieldLink RX6 152 "PlateSlabsModel" "isWrong" "Z") (List.mem_of_getElem? (i := 5) rfl)) (fun _ h9 => h9) rfl (tyX6_ok 15 (by decide)) (rfl) rfl (Nat.le_of_ble_eq_true rfl) dX6_readThing_86 (fun H locs hP hD hS => ?_)
                have hP : va_P D vwCl [(b 0, .inr (6, moF b (upd (upd v 7 100) 6 0))), ((b 9), .inl (T 0, 60, .inl (tx)))] H := hP
                have hD : va_D A [(b 0, .inr (6, moF b (upd (upd v 7 100) 6 0))), ((b 9), .inl (T 0, 60, .inl (tx)))] := hD
                refine lv_aload_n hx hb dX6_readThing_89 rfl (lv_at hl 0 rfl) ?_
                refine lv_dup hx hb dX6_readThing_90 rfl ?_
                refine va_get (D := D) (ci := 6) (v := .int (v 5)) (C := RX6) (T := TX6) (N := 22) hx hb hts inwX6_readThing_X6 hown hK hP 0 rfl rfl 14 (by decide) (hts (.fieldLink RX6 156 "PlateSlabsModel" "position" "I") (List.mem_of_getElem? (i := 1) rfl)) (fun _ h9 => h9) rfl dX6_readThing_91 ?_
                refine lv_aload_n hx hb dX6_readThing_94 rfl (lv_at hl 0 rfl) ?_
                refine va_get (D := D) (ci := 6) (v := .int 0) (C := RX6) (T := TX6) (N := 22) hx hb hts inwX6_readThing_X6 hown hK hP 0 rfl rfl 15 (by decide) (hts (.fieldLink RX6 152 "PlateSlabsModel" "isWrong" "Z") (List.mem_of_getElem? (i := 5) rfl)) (fun _ h9 => h9) rfl dX6_readThing_95 ?_
                refine lv_if_eq (tgt := 105) hx hb dX6_readThing_98 (by decide) (fun c98 => ?_) (fun c98 => ?_)
                · skip
                  refine lv_iconst (v := 1) hx hb dX6_readThing_105 (by decide) ?_
                  refine lv_iadd hx hb dX6_readThing_106 ?_
                  refine lv_tpi (z := nI (i + 1)) (by rw [h5]; exact nI_1 i) ?_
                  refine va_put (D := D) (ci := 6) (v := .int (nI (i + 1))) (C := RX6) (T := TX6) (N := 22) hx hb hts inwX6_readThing_X6 tyX6 tyX6_ok nmX6 hown hK hP hD hS 0 rfl rfl 14 (by decide) (hts (.fieldLink RX6 156 "PlateSlabsModel" "position" "I") (List.mem_of_getElem? (i := 1) rfl)) (fun _ h9 => h9) rfl (tyX6_ok 14 (by decide)) (rfl) rfl (Nat.le_of_ble_eq_true rfl) dX6_readThing_107 (fun H locs hP hD hS => ?_)
                  have hP : va_P D vwCl [(b 0, .inr (6, moF b (upd (upd (upd v 7 100) 6 0) 5 (nI (i + 1))))), ((b 9), .inl (T 0, 60, .inl (tx)))] H := hP
                  have hD : va_D A [(b 0, .inr (6, moF b (upd (upd (upd v 7 100) 6 0) 5 (nI (i + 1))))), ((b 9), .inl (T 0, 60, .inl (tx)))] := hD
                  obtain ⟨v0, ev0⟩ : ∃ z, z = upd (upd (upd v 7 100) 6 0) 5 (nI (i + 1)) := ⟨_, rfl⟩
                  rw [← ev0] at hP hD
                  have Tv0 : vT v v0 := by rw [ev0]; exact (vT_u (vT_u (vT_u (vT_rf v) _ (by decide) (by decide)) _ (by decide) (by decide)) _ (by decide) (by decide))
                  have f2v0 : v0 2 = nI len := by rw [ev0]; exact h2
                  have f5v0 : v0 5 = nI (i + 1) := by rw [ev0]; rfl
                  have f6v0 : v0 6 = 0 := by rw [ev0]; rfl
                  have f7v0 : v0 7 = 100 := by rw [ev0]; rfl
                  have hP : va_P D vwCl [(b 0, .inr (6, moF b v0)), ((b 9), .inl (T 0, 60, .inl (tx)))] H := hP
                  have hD : va_D A [(b 0, .inr (6, moF b v0)), ((b 9), .inl (T 0, 60, .inl (tx)))] := hD
                  refine lv_aload_n hx hb dX6_readThing_110 rfl (lv_at hl 0 rfl) ?_
                  refine lv_aload_n hx hb dX6_readThing_111 rfl (lv_at hl 0 rfl) ?_
                  refine va_get (D := D) (ci := 6) (v := .int (v0 7)) (C := RX6) (T := TX6) (N := 22) hx hb hts inwX6_readThing_X6 hown hK hP 0 rfl rfl 16 (by decide) (hts (.fieldLink RX6 166 "PlateSlabsModel" "letter" "I") (List.mem_of_getElem? (i := 4) rfl)) (fun _ h9 => h9) rfl dX6_readThing_112 ?_
                  refine lv_tpi (z := 100) (f7v0) ?_
                  refine lv_bipush (v := 46) hx hb dX6_readThing_115 (by decide) ?_
                  refine lv_icmp_ne (tgt := 130) hx hb dX6_readThing_117 (by decide) (fun c117 => ?_) (fun c117 => ?_)
                  · skip
                    refine lv_aload_n hx hb dX6_readThing_130 rfl (lv_at hl 0 rfl) ?_
                    refine lv_bipush (v := 48) hx hb dX6_readThing_131 (by decide) ?_
                    refine lv_bipush (v := 51) hx hb dX6_readThing_133 (by decide) ?_
                    refine callMi (As := [.int 48, .int 51]) (wr := []) ⟨hx, hb, hml, hown, hts⟩ (mX6_takes l T D b v0 tx (i + 1) len hlen hi1 f2v0 f5v0 (Or.inl f6v0) 48 51) (cwV 2 hts gX6_readThing_X6_takes rfl rfl rfl pdX6_takes ⟨Nat.le_of_ble_eq_true rfl, Nat.le_of_ble_eq_true rfl⟩) hP hD hK hS hA xN_bl (fun U _ hW => XN_warm hW hX) (ci := 6) rfl rfl rfl hl.1 rfl rfl (Nat.le_of_ble_eq_true rfl) dX6_readThing_135 ⟨Nat.zero_le _, Nat.zero_le _⟩ (fun r47_ u48_ H locs eu48_ hP hD hS hkf => ?_)
                    obtain ⟨v1, rfl⟩ : ∃ z, z = u48_ := ⟨_, rfl⟩
                    obtain ⟨jv1, kv1⟩ := eu48_
                    have hP : va_P D vwCl [(b 0, .inr (6, moF b v1)), ((b 9), .inl (T 0, 60, .inl (tx)))] H := hP
                    have hD : va_D A [(b 0, .inr (6, moF b v1)), ((b 9), .inl (T 0, 60, .inl (tx)))] := hD
                    have f2v1 : v1 2 = nI len := (kv1.1 2 (by decide) (by decide)).trans f2v0
                    have f7v1 : v1 7 = 100 := (kv1.1 7 (by decide) (by decide)).trans f7v0
                    have Tv1 : vT v v1 := vT_R Tv0 kv1.1
                    obtain ⟨-, f6v1, f5v1⟩ := kv1.2.resolve_left (fun z => y1 z.1.2)
                    skip
                    refine va_put (D := D) (ci := 6) (v := .int r47_) (C := RX6) (T := TX6) (N := 22) hx hb hts inwX6_readThing_X6 tyX6 tyX6_ok nmX6 hown hK hP hD hS 0 rfl rfl 17 (by decide) (hts (.fieldLink RX6 172 "PlateSlabsModel" "first" "I") (List.mem_of_getElem? (i := 6) rfl)) (fun _ h9 => h9) rfl (tyX6_ok 17 (by decide)) (rfl) rfl (Nat.le_of_ble_eq_true rfl) dX6_readThing_138 (fun H locs hP hD hS => ?_)
                    have hP : va_P D vwCl [(b 0, .inr (6, moF b (upd v1 8 r47_))), ((b 9), .inl (T 0, 60, .inl (tx)))] H := hP
                    have hD : va_D A [(b 0, .inr (6, moF b (upd v1 8 r47_))), ((b 9), .inl (T 0, 60, .inl (tx)))] := hD
                    obtain ⟨u1, eu1⟩ : ∃ z, z = upd v1 8 r47_ := ⟨_, rfl⟩
                    rw [← eu1] at hP hD
                    have Tu1 : vT v u1 := by rw [eu1]; exact (vT_u Tv1 _ (by decide) (by decide))
                    have f2u1 : u1 2 = nI len := by rw [eu1]; exact f2v1
                    have f5u1 : u1 5 = nI (i + 1) := by rw [eu1]; exact f5v1
                    have f6u1 : u1 6 = 1 := by rw [eu1]; exact f6v1
                    have f7u1 : u1 7 = 100 := by rw [eu1]; exact f7v1
                    have hP : va_P D vwCl [(b 0, .inr (6, moF b u1)), ((b 9), .inl (T 0, 60, .inl (tx)))] H := hP
                    have hD : va_D A [(b 0, .inr (6, moF b u1)), ((b 9), .inl (T 0, 60, .inl (tx)))] := hD
                    refine lv_aload_n hx hb dX6_readThing_141 rfl (lv_at hl 0 rfl) ?_
                    refine lv_iconst (v := 0) hx hb dX6_readThing_142 (by decide) ?_
                    refine va_put (D := D) (ci := 6) (v := .int 0) (C := RX6) (T := TX6) (N := 22) hx hb hts inwX6_readThing_X6 tyX6 tyX6_ok nmX6 hown hK hP hD hS 0 rfl rfl 18 (by decide) (hts (.fieldLink RX6 175 "PlateSlabsModel" "second" "I") (List.mem_of_getElem? (i := 7) rfl)) (fun _ h9 => h9) rfl (tyX6_ok 18 (by decide)) (rfl) rfl (Nat.le_of_ble_eq_true rfl) dX6_readThing_143 (fun H locs hP hD hS => ?_)
                    have hP : va_P D vwCl [(b 0, .inr (6, moF b (upd u1 9 0))), ((b 9), .inl (T 0, 60, .inl (tx)))] H := hP
                    have hD : va_D A [(b 0, .inr (6, moF b (upd u1 9 0))), ((b 9), .inl (T 0, 60, .inl (tx)))] := hD
                    obtain ⟨u2, eu2⟩ : ∃ z, z = upd u1 9 0 := ⟨_, rfl⟩
                    rw [← eu2] at hP hD
                    have Tu2 : vT v u2 := by rw [eu2]; exact (vT_u Tu1 _ (by decide) (by decide))
                    have f2u2 : u2 2 = nI len := by rw [eu2]; exact f2u1
                    have f5u2 : u2 5 = nI (i + 1) := by rw [eu2]; exact f5u1
                    have f6u2 : u2 6 = 1 := by rw [eu2]; exact f6u1
                    have f7u2 : u2 7 = 100 := by rw [eu2]; exact f7u1
                    have hP : va_P D vwCl [(b 0, .inr (6, moF b u2)), ((b 9), .inl (T 0, 60, .inl (tx)))] H := hP
                    have hD : va_D A [(b 0, .inr (6, moF b u2)), ((b 9), .inl (T 0, 60, .inl (tx)))] := hD
                    refine lv_aload_n hx hb dX6_readThing_146 rfl (lv_at hl 0 rfl) ?_
                    refine va_get (D := D) (ci := 6) (v := .int (u2 7)) (C := RX6) (T := TX6) (N := 22) hx hb hts inwX6_readThing_X6 hown hK hP 0 rfl rfl 16 (by decide) (hts (.fieldLink RX6 166 "PlateSlabsModel" "letter" "I") (List.mem_of_getElem? (i := 4) rfl)) (fun _ h9 => h9) rfl dX6_readThing_147 ?_
                    refine lv_tpi (z := 100) (f7u2) ?_
                    refine lv_bipush (v := 98) hx hb dX6_readThing_150 (by decide) ?_
                    refine lv_icmp_eq (tgt := 164) hx hb dX6_readThing_152 (by decide) (fun c152 => ?_) (fun c152 => ?_)
                    · skip
                      exact absurd c152 (by decide)
                    · skip
                      refine lv_aload_n hx hb dX6_readThing_155 rfl (lv_at hl 0 rfl) ?_
                      refine va_get (D := D) (ci := 6) (v := .int (u2 7)) (C := RX6) (T := TX6) (N := 22) hx hb hts inwX6_readThing_X6 hown hK hP 0 rfl rfl 16 (by decide) (hts (.fieldLink RX6 166 "PlateSlabsModel" "letter" "I") (List.mem_of_getElem? (i := 4) rfl)) (fun _ h9 => h9) rfl dX6_readThing_156 ?_
                      refine lv_tpi (z := 100) (f7u2) ?_
                      refine lv_bipush (v := 100) hx hb dX6_readThing_159 (by decide) ?_
                      refine lv_icmp_ne (tgt := 201) hx hb dX6_readThing_161 (by decide) (fun c161 => ?_) (fun c161 => ?_)
                      · skip
                        exact absurd rfl c161
                      · skip
                        refine lv_aload_n hx hb dX6_readThing_164 rfl (lv_at hl 0 rfl) ?_
                        refine lv_bipush (v := 61) hx hb dX6_readThing_165 (by decide) ?_
                        refine lv_bipush (v := 61) hx hb dX6_readThing_167 (by decide) ?_
                        refine callMi (As := [.int 61, .int 61]) (wr := []) ⟨hx, hb, hml, hown, hts⟩ (mX6_takes l T D b u2 tx (i + 1) len hlen hi1 f2u2 f5u2 (Or.inr f6u2) 61 61) (cwV 2 hts gX6_readThing_X6_takes rfl rfl rfl pdX6_takes ⟨Nat.le_of_ble_eq_true rfl, Nat.le_of_ble_eq_true rfl⟩) hP hD hK hS hA xN_bl (fun U _ hW => XN_warm hW hX) (ci := 6) rfl rfl rfl hl.1 rfl rfl (Nat.le_of_ble_eq_true rfl) dX6_readThing_169 ⟨Nat.zero_le _, Nat.zero_le _⟩ (fun r49_ u50_ H locs eu50_ hP hD hS hkf => ?_)
                        obtain ⟨v3, rfl⟩ : ∃ z, z = u50_ := ⟨_, rfl⟩
                        obtain ⟨jv3, kv3⟩ := eu50_
                        have hP : va_P D vwCl [(b 0, .inr (6, moF b v3)), ((b 9), .inl (T 0, 60, .inl (tx)))] H := hP
                        have hD : va_D A [(b 0, .inr (6, moF b v3)), ((b 9), .inl (T 0, 60, .inl (tx)))] := hD
                        have f2v3 : v3 2 = nI len := (kv3.1 2 (by decide) (by decide)).trans f2u2
                        have f7v3 : v3 7 = 100 := (kv3.1 7 (by decide) (by decide)).trans f7u2
                        have Tv3 : vT v v3 := vT_R Tu2 kv3.1
                        obtain ⟨-, f6v3, f5v3⟩ := kv3.2.resolve_left (fun ⟨⟨z, _⟩, _⟩ => absurd (f6u2.symm.trans z) (by decide))
                        skip
                        refine lv_istore_n (lv' := [(1, .int r49_), (0, .ref (b 0))]) hx hb dX6_readThing_172 rfl hl (by decide) rfl (fun ls hl => ?_)
                        refine lv_aload_n hx hb dX6_readThing_173 rfl (lv_at hl 1 rfl) ?_
                        refine lv_aload_n hx hb dX6_readThing_174 rfl (lv_at hl 1 rfl) ?_
                        refine lv_iconst (v := 0) hx hb dX6_readThing_175 (by decide) ?_
                        refine lv_aload_n hx hb dX6_readThing_176 rfl (lv_at hl 1 rfl) ?_
                        refine va_get (D := D) (ci := 6) (v := .int (v3 7)) (C := RX6) (T := TX6) (N := 22) hx hb hts inwX6_readThing_X6 hown hK hP 0 rfl rfl 16 (by decide) (hts (.fieldLink RX6 166 "PlateSlabsModel" "letter" "I") (List.mem_of_getElem? (i := 4) rfl)) (fun _ h9 => h9) rfl dX6_readThing_177 ?_
                        refine lv_tpi (z := 100) (f7v3) ?_
                        refine lv_bipush (v := 98) hx hb dX6_readThing_180 (by decide) ?_
                        refine lv_icmp_ne (tgt := 190) hx hb dX6_readThing_182 (by decide) (fun c182 => ?_) (fun c182 => ?_)
                        · skip
                          refine lv_bipush (v := 40) hx hb dX6_readThing_190 (by decide) ?_
                          refine callMi (As := [.int 0, .int 40]) (wr := []) ⟨hx, hb, hml, hown, hts⟩ (mX6_takesNumber l T D b v3 tx (i + 1) len hlen hi1 f2v3 f5v3 (Or.inr f6v3) 0 40 (by decide) (by decide)) (cwV 2 hts gX6_readThing_X6_takesNumber rfl rfl rfl pdX6_takesNumber ⟨Nat.le_of_ble_eq_true rfl, Nat.le_of_ble_eq_true rfl⟩) hP hD hK hS hA xN_bl (fun U _ hW => XN_warm hW hX) (ci := 6) rfl rfl rfl hl.1 rfl rfl (Nat.le_of_ble_eq_true rfl) dX6_readThing_192 ⟨Nat.zero_le _, Nat.zero_le _⟩ (fun r51_ u52_ H locs eu52_ hP hD hS hkf => ?_)
                          obtain ⟨v4, rfl⟩ : ∃ z, z = u52_ := ⟨_, rfl⟩
                          have kv4 := eu52_
                          have hP : va_P D vwCl [(b 0, .inr (6, moF b v4)), ((b 9), .inl (T 0, 60, .inl (tx)))] H := hP
                          have hD : va_D A [(b 0, .inr (6, moF b v4)), ((b 9), .inl (T 0, 60, .inl (tx)))] := hD
                          have f2v4 : v4 2 = nI len := (kv4.1 2 (by decide) (by decide)).trans f2v3
                          have f7v4 : v4 7 = 100 := (kv4.1 7 (by decide) (by decide)).trans f7v3
                          have Tv4 : vT v v4 := vT_R Tv3 kv4.1
                          obtain ⟨-, f6v4, f5v4⟩ := kv4.2.resolve_left (fun ⟨_, _, z, _⟩ => absurd (f6v3.symm.trans z) (by decide))
                          skip
                          refine va_put (D := D) (ci := 6) (v := .int r51_) (C := RX6) (T := TX6) (N := 22) hx hb hts inwX6_readThing_X6 tyX6 tyX6_ok nmX6 hown hK hP hD hS 0 rfl rfl 18 (by decide) (hts (.fieldLink RX6 175 "PlateSlabsModel" "second" "I") (List.mem_of_getElem? (i := 7) rfl)) (fun _ h9 => h9) rfl (tyX6_ok 18 (by decide)) (rfl) rfl (Nat.le_of_ble_eq_true rfl) dX6_readThing_195 (fun H locs hP hD hS => ?_)
                          have hP : va_P D vwCl [(b 0, .inr (6, moF b (upd v4 9 r51_))), ((b 9), .inl (T 0, 60, .inl (tx)))] H := hP
                          have hD : va_D A [(b 0, .inr (6, moF b (upd v4 9 r51_))), ((b 9), .inl (T 0, 60, .inl (tx)))] := hD
                          refine lv_goto (tgt := 222) hx hb dX6_readThing_198 (by decide) ?_
                          obtain ⟨u9, eu9⟩ : ∃ z, z = upd v4 9 r51_ := ⟨_, rfl⟩
                          rw [← eu9] at hP hD
                          have Tu9 : vT v u9 := by rw [eu9]; exact (vT_u Tv4 _ (by decide) (by decide))
                          have f2u9 : u9 2 = nI len := by rw [eu9]; exact f2v4
                          have f5u9 : u9 5 = nI (i + 1) := by rw [eu9]; exact f5v4
                          have f6u9 : u9 6 = 1 := by rw [eu9]; exact f6v4
                          have f7u9 : u9 7 = 100 := by rw [eu9]; exact f7v4
                          have hP : va_P D vwCl [(b 0, .inr (6, moF b u9)), ((b 9), .inl (T 0, 60, .inl (tx)))] H := hP
                          have hD : va_D A [(b 0, .inr (6, moF b u9)), ((b 9), .inl (T 0, 60, .inl (tx)))] := hD
                          have hL := th_b0 (c := tch tx len) (i := i) (Or.inr ech.symm : tch tx len i = 98 ∨ tch tx len i = 100) y1
                          exact hret _ _ u9 _ _ dX6_readThing_222 hS hP hD ⟨Tu9, by rw [hL.2]; exact f5u9, Or.inr ⟨hL.1, f6u9⟩⟩
                        · skip
                          exact absurd c182 (by decide)
                  · skip
                    exact absurd c117 (by decide)
                · skip
                  exact absurd rfl c98
              · skip
                exact absurd rfl c60
    · skip
      subst hZ
      have hi1 : i + 1 ≤ len := tch_pos1 (c := 99) (by decide) (by rw [← ech]; exact Int32.le_refl _)
      by_cases y1 : pd4 (tch tx len (i + 1))
      · skip
        have hi2 : i + 2 ≤ len := by
          have := tch_pos1 (c := 48) (by decide) y1.1
          omega
        by_cases y2 : pd4 (tch tx len (i + 2))
        · skip
          have hi3 : i + 3 ≤ len := by
            have := tch_pos1 (c := 48) (by decide) y2.1
            omega
          have hP : va_P D vwCl [(b 0, .inr (6, moF b (upd v 7 99))), ((b 9), .inl (T 0, 60, .inl (tx)))] H := hP
          have hD : va_D A [(b 0, .inr (6, moF b (upd v 7 99))), ((b 9), .inl (T 0, 60, .inl (tx)))] := hD
          refine lv_aload_n hx hb dX6_readThing_28 rfl (lv_at hl 0 rfl) ?_
          refine lv_aload_n hx hb dX6_readThing_29 rfl (lv_at hl 0 rfl) ?_
          refine va_get (D := D) (ci := 6) (v := .int (v 6)) (C := RX6) (T := TX6) (N := 22) hx hb hts inwX6_readThing_X6 hown hK hP 0 rfl rfl 15 (by decide) (hts (.fieldLink RX6 152 "PlateSlabsModel" "isWrong" "Z") (List.mem_of_getElem? (i := 5) rfl)) (fun _ h9 => h9) rfl dX6_readThing_30 ?_
          refine lv_if_ne (tgt := 81) hx hb dX6_readThing_33 (by decide) (fun c33 => ?_) (fun c33 => ?_)
          · skip
            exact absurd h6 c33
          · skip
            refine lv_aload_n hx hb dX6_readThing_36 rfl (lv_at hl 0 rfl) ?_
            refine va_get (D := D) (ci := 6) (v := .int 99) (C := RX6) (T := TX6) (N := 22) hx hb hts inwX6_readThing_X6 hown hK hP 0 rfl rfl 16 (by decide) (hts (.fieldLink RX6 166 "PlateSlabsModel" "letter" "I") (List.mem_of_getElem? (i := 4) rfl)) (fun _ h9 => h9) rfl dX6_readThing_37 ?_
            refine lv_bipush (v := 98) hx hb dX6_readThing_40 (by decide) ?_
            refine lv_icmp_eq (tgt := 85) hx hb dX6_readThing_42 (by decide) (fun c42 => ?_) (fun c42 => ?_)
            · skip
              exact absurd c42 (by decide)
            · skip
              refine lv_aload_n hx hb dX6_readThing_45 rfl (lv_at hl 0 rfl) ?_
              refine va_get (D := D) (ci := 6) (v := .int 99) (C := RX6) (T := TX6) (N := 22) hx hb hts inwX6_readThing_X6 hown hK hP 0 rfl rfl 16 (by decide) (hts (.fieldLink RX6 166 "PlateSlabsModel" "letter" "I") (List.mem_of_getElem? (i := 4) rfl)) (fun _ h9 => h9) rfl dX6_readThing_46 ?_
              refine lv_bipush (v := 111) hx hb dX6_readThing_49 (by decide) ?_
              refine lv_icmp_eq (tgt := 85) hx hb dX6_readThing_51 (by decide) (fun c51 => ?_) (fun c51 => ?_)
              · skip
                exact absurd c51 (by decide)
              · skip
                refine lv_aload_n hx hb dX6_readThing_54 rfl (lv_at hl 0 rfl) ?_
                refine va_get (D := D) (ci := 6) (v := .int 99) (C := RX6) (T := TX6) (N := 22) hx hb hts inwX6_readThing_X6 hown hK hP 0 rfl rfl 16 (by decide) (hts (.fieldLink RX6 166 "PlateSlabsModel" "letter" "I") (List.mem_of_getElem? (i := 4) rfl)) (fun _ h9 => h9) rfl dX6_readThing_55 ?_
                refine lv_bipush (v := 100) hx hb dX6_readThing_58 (by decide) ?_
                refine lv_icmp_eq (tgt := 85) hx hb dX6_readThing_60 (by decide) (fun c60 => ?_) (fun c60 => ?_)
                · skip
                  exact absurd c60 (by decide)
                · skip
                  refine lv_aload_n hx hb dX6_readThing_63 rfl (lv_at hl 0 rfl) ?_
                  refine va_get (D := D) (ci := 6) (v := .int 99) (C := RX6) (T := TX6) (N := 22) hx hb hts inwX6_readThing_X6 hown hK hP 0 rfl rfl 16 (by decide) (hts (.fieldLink RX6 166 "PlateSlabsModel" "letter" "I") (List.mem_of_getElem? (i := 4) rfl)) (fun _ h9 => h9) rfl dX6_readThing_64 ?_
                  refine lv_bipush (v := 99) hx hb dX6_readThing_67 (by decide) ?_
                  refine lv_icmp_eq (tgt := 85) hx hb dX6_readThing_69 (by decide) (fun c69 => ?_) (fun c69 => ?_)
                  · skip
                    refine lv_iconst (v := 0) hx hb dX6_readThing_85 (by decide) ?_
                    refine va_put (D := D) (ci := 6) (v := .int 0) (C := RX6) (T := TX6) (N := 22) hx hb hts inwX6_readThing_X6 tyX6 tyX6_ok nmX6 hown hK hP hD hS 0 rfl rfl 15 (by decide) (hts (.fieldLink RX6 152 "PlateSlabsModel" "isWrong" "Z") (List.mem_of_getElem? (i := 5) rfl)) (fun _ h9 => h9) rfl (tyX6_ok 15 (by decide)) (rfl) rfl (Nat.le_of_ble_eq_true rfl) dX6_readThing_86 (fun H locs hP hD hS => ?_)
                    have hP : va_P D vwCl [(b 0, .inr (6, moF b (upd (upd v 7 99) 6 0))), ((b 9), .inl (T 0, 60, .inl (tx)))] H := hP
                    have hD : va_D A [(b 0, .inr (6, moF b (upd (upd v 7 99) 6 0))), ((b 9), .inl (T 0, 60, .inl (tx)))] := hD
                    refine lv_aload_n hx hb dX6_readThing_89 rfl (lv_at hl 0 rfl) ?_
                    refine lv_dup hx hb dX6_readThing_90 rfl ?_
                    refine va_get (D := D) (ci := 6) (v := .int (v 5)) (C := RX6) (T := TX6) (N := 22) hx hb hts inwX6_readThing_X6 hown hK hP 0 rfl rfl 14 (by decide) (hts (.fieldLink RX6 156 "PlateSlabsModel" "position" "I") (List.mem_of_getElem? (i := 1) rfl)) (fun _ h9 => h9) rfl dX6_readThing_91 ?_
                    refine lv_aload_n hx hb dX6_readThing_94 rfl (lv_at hl 0 rfl) ?_
                    refine va_get (D := D) (ci := 6) (v := .int 0) (C := RX6) (T := TX6) (N := 22) hx hb hts inwX6_readThing_X6 hown hK hP 0 rfl rfl 15 (by decide) (hts (.fieldLink RX6 152 "PlateSlabsModel" "isWrong" "Z") (List.mem_of_getElem? (i := 5) rfl)) (fun _ h9 => h9) rfl dX6_readThing_95 ?_
                    refine lv_if_eq (tgt := 105) hx hb dX6_readThing_98 (by decide) (fun c98 => ?_) (fun c98 => ?_)
                    · skip
                      refine lv_iconst (v := 1) hx hb dX6_readThing_105 (by decide) ?_
                      refine lv_iadd hx hb dX6_readThing_106 ?_
                      refine lv_tpi (z := nI (i + 1)) (by rw [h5]; exact nI_1 i) ?_
                      refine va_put (D := D) (ci := 6) (v := .int (nI (i + 1))) (C := RX6) (T := TX6) (N := 22) hx hb hts inwX6_readThing_X6 tyX6 tyX6_ok nmX6 hown hK hP hD hS 0 rfl rfl 14 (by decide) (hts (.fieldLink RX6 156 "PlateSlabsModel" "position" "I") (List.mem_of_getElem? (i := 1) rfl)) (fun _ h9 => h9) rfl (tyX6_ok 14 (by decide)) (rfl) rfl (Nat.le_of_ble_eq_true rfl) dX6_readThing_107 (fun H locs hP hD hS => ?_)
                      have hP : va_P D vwCl [(b 0, .inr (6, moF b (upd (upd (upd v 7 99) 6 0) 5 (nI (i + 1))))), ((b 9), .inl (T 0, 60, .inl (tx)))] H := hP
                      have hD : va_D A [(b 0, .inr (6, moF b (upd (upd (upd v 7 99) 6 0) 5 (nI (i + 1))))), ((b 9), .inl (T 0, 60, .inl (tx)))] := hD
                      obtain ⟨v0, ev0⟩ : ∃ z, z = upd (upd (upd v 7 99) 6 0) 5 (nI (i + 1)) := ⟨_, rfl⟩
                      rw [← ev0] at hP hD
                      have Tv0 : vT v v0 := by rw [ev0]; exact (vT_u (vT_u (vT_u (vT_rf v) _ (by decide) (by decide)) _ (by decide) (by decide)) _ (by decide) (by decide))
                      have f2v0 : v0 2 = nI len := by rw [ev0]; exact h2
                      have f5v0 : v0 5 = nI (i + 1) := by rw [ev0]; rfl
                      have f6v0 : v0 6 = 0 := by rw [ev0]; rfl
                      have f7v0 : v0 7 = 99 := by rw [ev0]; rfl
                      have hP : va_P D vwCl [(b 0, .inr (6, moF b v0)), ((b 9), .inl (T 0, 60, .inl (tx)))] H := hP
                      have hD : va_D A [(b 0, .inr (6, moF b v0)), ((b 9), .inl (T 0, 60, .inl (tx)))] := hD
                      refine lv_aload_n hx hb dX6_readThing_110 rfl (lv_at hl 0 rfl) ?_
                      refine lv_aload_n hx hb dX6_readThing_111 rfl (lv_at hl 0 rfl) ?_
                      refine va_get (D := D) (ci := 6) (v := .int (v0 7)) (C := RX6) (T := TX6) (N := 22) hx hb hts inwX6_readThing_X6 hown hK hP 0 rfl rfl 16 (by decide) (hts (.fieldLink RX6 166 "PlateSlabsModel" "letter" "I") (List.mem_of_getElem? (i := 4) rfl)) (fun _ h9 => h9) rfl dX6_readThing_112 ?_
                      refine lv_tpi (z := 99) (f7v0) ?_
                      refine lv_bipush (v := 46) hx hb dX6_readThing_115 (by decide) ?_
                      refine lv_icmp_ne (tgt := 130) hx hb dX6_readThing_117 (by decide) (fun c117 => ?_) (fun c117 => ?_)
                      · skip
                        refine lv_aload_n hx hb dX6_readThing_130 rfl (lv_at hl 0 rfl) ?_
                        refine lv_bipush (v := 48) hx hb dX6_readThing_131 (by decide) ?_
                        refine lv_bipush (v := 51) hx hb dX6_readThing_133 (by decide) ?_
                        refine callMi (As := [.int 48, .int 51]) (wr := []) ⟨hx, hb, hml, hown, hts⟩ (mX6_takes l T D b v0 tx (i + 1) len hlen hi1 f2v0 f5v0 (Or.inl f6v0) 48 51) (cwV 2 hts gX6_readThing_X6_takes rfl rfl rfl pdX6_takes ⟨Nat.le_of_ble_eq_true rfl, Nat.le_of_ble_eq_true rfl⟩) hP hD hK hS hA xN_bl (fun U _ hW => XN_warm hW hX) (ci := 6) rfl rfl rfl hl.1 rfl rfl (Nat.le_of_ble_eq_true rfl) dX6_readThing_135 ⟨Nat.zero_le _, Nat.zero_le _⟩ (fun r53_ u54_ H locs eu54_ hP hD hS hkf => ?_)
                        obtain ⟨v1, rfl⟩ : ∃ z, z = u54_ := ⟨_, rfl⟩
                        obtain ⟨jv1, kv1⟩ := eu54_
                        have hP : va_P D vwCl [(b 0, .inr (6, moF b v1)), ((b 9), .inl (T 0, 60, .inl (tx)))] H := hP
                        have hD : va_D A [(b 0, .inr (6, moF b v1)), ((b 9), .inl (T 0, 60, .inl (tx)))] := hD
                        have f2v1 : v1 2 = nI len := (kv1.1 2 (by decide) (by decide)).trans f2v0
                        have f7v1 : v1 7 = 99 := (kv1.1 7 (by decide) (by decide)).trans f7v0
                        have Tv1 : vT v v1 := vT_R Tv0 kv1.1
                        obtain ⟨-, f6v1, f5v1⟩ := kv1.2.resolve_right (fun z => z.1 ⟨f6v0, y1⟩)
                        refine lv_tpi (z := nI (dg (tch tx len (i + 1)))) (by rw [jv1]; exact pd_dg y1) ?_
                        skip
                        refine va_put (D := D) (ci := 6) (v := .int (nI (dg (tch tx len (i + 1))))) (C := RX6) (T := TX6) (N := 22) hx hb hts inwX6_readThing_X6 tyX6 tyX6_ok nmX6 hown hK hP hD hS 0 rfl rfl 17 (by decide) (hts (.fieldLink RX6 172 "PlateSlabsModel" "first" "I") (List.mem_of_getElem? (i := 6) rfl)) (fun _ h9 => h9) rfl (tyX6_ok 17 (by decide)) (rfl) rfl (Nat.le_of_ble_eq_true rfl) dX6_readThing_138 (fun H locs hP hD hS => ?_)
                        have hP : va_P D vwCl [(b 0, .inr (6, moF b (upd v1 8 (nI (dg (tch tx len (i + 1))))))), ((b 9), .inl (T 0, 60, .inl (tx)))] H := hP
                        have hD : va_D A [(b 0, .inr (6, moF b (upd v1 8 (nI (dg (tch tx len (i + 1))))))), ((b 9), .inl (T 0, 60, .inl (tx)))] := hD
                        obtain ⟨u1, eu1⟩ : ∃ z, z = upd v1 8 (nI (dg (tch tx len (i + 1)))) := ⟨_, rfl⟩
                        rw [← eu1] at hP hD
                        have Tu1 : vT v u1 := by rw [eu1]; exact (vT_u Tv1 _ (by decide) (by decide))
                        have f2u1 : u1 2 = nI len := by rw [eu1]; exact f2v1
                        have f5u1 : u1 5 = nI (i + 2) := by rw [eu1]; exact f5v1
                        have f6u1 : u1 6 = 0 := by rw [eu1]; exact f6v1
                        have f7u1 : u1 7 = 99 := by rw [eu1]; exact f7v1
                        have f8u1 : u1 8 = nI (dg (tch tx len (i + 1))) := by rw [eu1]; rfl
                        have hP : va_P D vwCl [(b 0, .inr (6, moF b u1)), ((b 9), .inl (T 0, 60, .inl (tx)))] H := hP
                        have hD : va_D A [(b 0, .inr (6, moF b u1)), ((b 9), .inl (T 0, 60, .inl (tx)))] := hD
                        refine lv_aload_n hx hb dX6_readThing_141 rfl (lv_at hl 0 rfl) ?_
                        refine lv_iconst (v := 0) hx hb dX6_readThing_142 (by decide) ?_
                        refine va_put (D := D) (ci := 6) (v := .int 0) (C := RX6) (T := TX6) (N := 22) hx hb hts inwX6_readThing_X6 tyX6 tyX6_ok nmX6 hown hK hP hD hS 0 rfl rfl 18 (by decide) (hts (.fieldLink RX6 175 "PlateSlabsModel" "second" "I") (List.mem_of_getElem? (i := 7) rfl)) (fun _ h9 => h9) rfl (tyX6_ok 18 (by decide)) (rfl) rfl (Nat.le_of_ble_eq_true rfl) dX6_readThing_143 (fun H locs hP hD hS => ?_)
                        have hP : va_P D vwCl [(b 0, .inr (6, moF b (upd u1 9 0))), ((b 9), .inl (T 0, 60, .inl (tx)))] H := hP
                        have hD : va_D A [(b 0, .inr (6, moF b (upd u1 9 0))), ((b 9), .inl (T 0, 60, .inl (tx)))] := hD
                        obtain ⟨u2, eu2⟩ : ∃ z, z = upd u1 9 0 := ⟨_, rfl⟩
                        rw [← eu2] at hP hD
                        have Tu2 : vT v u2 := by rw [eu2]; exact (vT_u Tu1 _ (by decide) (by decide))
                        have f2u2 : u2 2 = nI len := by rw [eu2]; exact f2u1
                        have f5u2 : u2 5 = nI (i + 2) := by rw [eu2]; exact f5u1
                        have f6u2 : u2 6 = 0 := by rw [eu2]; exact f6u1
                        have f7u2 : u2 7 = 99 := by rw [eu2]; exact f7u1
                        have f8u2 : u2 8 = nI (dg (tch tx len (i + 1))) := by rw [eu2]; exact f8u1
                        have f9u2 : u2 9 = 0 := by rw [eu2]; rfl
                        have hP : va_P D vwCl [(b 0, .inr (6, moF b u2)), ((b 9), .inl (T 0, 60, .inl (tx)))] H := hP
                        have hD : va_D A [(b 0, .inr (6, moF b u2)), ((b 9), .inl (T 0, 60, .inl (tx)))] := hD
                        refine lv_aload_n hx hb dX6_readThing_146 rfl (lv_at hl 0 rfl) ?_
                        refine va_get (D := D) (ci := 6) (v := .int (u2 7)) (C := RX6) (T := TX6) (N := 22) hx hb hts inwX6_readThing_X6 hown hK hP 0 rfl rfl 16 (by decide) (hts (.fieldLink RX6 166 "PlateSlabsModel" "letter" "I") (List.mem_of_getElem? (i := 4) rfl)) (fun _ h9 => h9) rfl dX6_readThing_147 ?_
                        refine lv_tpi (z := 99) (f7u2) ?_
                        refine lv_bipush (v := 98) hx hb dX6_readThing_150 (by decide) ?_
                        refine lv_icmp_eq (tgt := 164) hx hb dX6_readThing_152 (by decide) (fun c152 => ?_) (fun c152 => ?_)
                        · skip
                          exact absurd c152 (by decide)
                        · skip
                          refine lv_aload_n hx hb dX6_readThing_155 rfl (lv_at hl 0 rfl) ?_
                          refine va_get (D := D) (ci := 6) (v := .int (u2 7)) (C := RX6) (T := TX6) (N := 22) hx hb hts inwX6_readThing_X6 hown hK hP 0 rfl rfl 16 (by decide) (hts (.fieldLink RX6 166 "PlateSlabsModel" "letter" "I") (List.mem_of_getElem? (i := 4) rfl)) (fun _ h9 => h9) rfl dX6_readThing_156 ?_
                          refine lv_tpi (z := 99) (f7u2) ?_
                          refine lv_bipush (v := 100) hx hb dX6_readThing_159 (by decide) ?_
                          refine lv_icmp_ne (tgt := 201) hx hb dX6_readThing_161 (by decide) (fun c161 => ?_) (fun c161 => ?_)
                          · skip
                            refine lv_aload_n hx hb dX6_readThing_201 rfl (lv_at hl 0 rfl) ?_
                            refine va_get (D := D) (ci := 6) (v := .int (u2 7)) (C := RX6) (T := TX6) (N := 22) hx hb hts inwX6_readThing_X6 hown hK hP 0 rfl rfl 16 (by decide) (hts (.fieldLink RX6 166 "PlateSlabsModel" "letter" "I") (List.mem_of_getElem? (i := 4) rfl)) (fun _ h9 => h9) rfl dX6_readThing_202 ?_
                            refine lv_tpi (z := 99) (f7u2) ?_
                            refine lv_bipush (v := 99) hx hb dX6_readThing_205 (by decide) ?_
                            refine lv_icmp_ne (tgt := 222) hx hb dX6_readThing_207 (by decide) (fun c207 => ?_) (fun c207 => ?_)
                            · skip
                              exact absurd rfl c207
                            · skip
                              refine lv_aload_n hx hb dX6_readThing_210 rfl (lv_at hl 0 rfl) ?_
                              refine lv_aload_n hx hb dX6_readThing_211 rfl (lv_at hl 0 rfl) ?_
                              refine lv_bipush (v := 48) hx hb dX6_readThing_212 (by decide) ?_
                              refine lv_bipush (v := 51) hx hb dX6_readThing_214 (by decide) ?_
                              refine callMi (As := [.int 48, .int 51]) (wr := []) ⟨hx, hb, hml, hown, hts⟩ (mX6_takes l T D b u2 tx (i + 2) len hlen hi2 f2u2 f5u2 (Or.inl f6u2) 48 51) (cwV 2 hts gX6_readThing_X6_takes rfl rfl rfl pdX6_takes ⟨Nat.le_of_ble_eq_true rfl, Nat.le_of_ble_eq_true rfl⟩) hP hD hK hS hA xN_bl (fun U _ hW => XN_warm hW hX) (ci := 6) rfl rfl rfl hl.1 rfl rfl (Nat.le_of_ble_eq_true rfl) dX6_readThing_216 ⟨Nat.zero_le _, Nat.zero_le _⟩ (fun r55_ u56_ H locs eu56_ hP hD hS hkf => ?_)
                              obtain ⟨v4, rfl⟩ : ∃ z, z = u56_ := ⟨_, rfl⟩
                              obtain ⟨jv4, kv4⟩ := eu56_
                              have hP : va_P D vwCl [(b 0, .inr (6, moF b v4)), ((b 9), .inl (T 0, 60, .inl (tx)))] H := hP
                              have hD : va_D A [(b 0, .inr (6, moF b v4)), ((b 9), .inl (T 0, 60, .inl (tx)))] := hD
                              have f2v4 : v4 2 = nI len := (kv4.1 2 (by decide) (by decide)).trans f2u2
                              have f7v4 : v4 7 = 99 := (kv4.1 7 (by decide) (by decide)).trans f7u2
                              have f8v4 : v4 8 = nI (dg (tch tx len (i + 1))) := (kv4.1 8 (by decide) (by decide)).trans f8u2
                              have f9v4 : v4 9 = 0 := (kv4.1 9 (by decide) (by decide)).trans f9u2
                              have Tv4 : vT v v4 := vT_R Tu2 kv4.1
                              obtain ⟨-, f6v4, f5v4⟩ := kv4.2.resolve_right (fun z => z.1 ⟨f6u2, y2⟩)
                              refine lv_tpi (z := nI (dg (tch tx len (i + 2)))) (by rw [jv4]; exact pd_dg y2) ?_
                              skip
                              refine va_put (D := D) (ci := 6) (v := .int (nI (dg (tch tx len (i + 2))))) (C := RX6) (T := TX6) (N := 22) hx hb hts inwX6_readThing_X6 tyX6 tyX6_ok nmX6 hown hK hP hD hS 0 rfl rfl 18 (by decide) (hts (.fieldLink RX6 175 "PlateSlabsModel" "second" "I") (List.mem_of_getElem? (i := 7) rfl)) (fun _ h9 => h9) rfl (tyX6_ok 18 (by decide)) (rfl) rfl (Nat.le_of_ble_eq_true rfl) dX6_readThing_219 (fun H locs hP hD hS => ?_)
                              have hP : va_P D vwCl [(b 0, .inr (6, moF b (upd v4 9 (nI (dg (tch tx len (i + 2))))))), ((b 9), .inl (T 0, 60, .inl (tx)))] H := hP
                              have hD : va_D A [(b 0, .inr (6, moF b (upd v4 9 (nI (dg (tch tx len (i + 2))))))), ((b 9), .inl (T 0, 60, .inl (tx)))] := hD
                              obtain ⟨u9, eu9⟩ : ∃ z, z = upd v4 9 (nI (dg (tch tx len (i + 2)))) := ⟨_, rfl⟩
                              rw [← eu9] at hP hD
                              have Tu9 : vT v u9 := by rw [eu9]; exact (vT_u Tv4 _ (by decide) (by decide))
                              have f2u9 : u9 2 = nI len := by rw [eu9]; exact f2v4
                              have f5u9 : u9 5 = nI (i + 3) := by rw [eu9]; exact f5v4
                              have f6u9 : u9 6 = 0 := by rw [eu9]; exact f6v4
                              have f7u9 : u9 7 = 99 := by rw [eu9]; exact f7v4
                              have f8u9 : u9 8 = nI (dg (tch tx len (i + 1))) := by rw [eu9]; exact f8v4
                              have f9u9 : u9 9 = nI (dg (tch tx len (i + 2))) := by rw [eu9]; rfl
                              have hP : va_P D vwCl [(b 0, .inr (6, moF b u9)), ((b 9), .inl (T 0, 60, .inl (tx)))] H := hP
                              have hD : va_D A [(b 0, .inr (6, moF b u9)), ((b 9), .inl (T 0, 60, .inl (tx)))] := hD
                              have hL := th_c1 (c := tch tx len) (i := i) ech.symm y1 y2
                              exact hret _ _ u9 _ _ dX6_readThing_222 hS hP hD ⟨Tu9, by rw [hL.2.2.2]; exact f5u9, Or.inl ⟨hL.1, f6u9, by rw [← ech]; exact f7u9, by rw [hL.2.1]; exact f8u9, by rw [hL.2.2.1]; exact f9u9⟩⟩
                          · skip
                            exact absurd c161 (by decide)
                      · skip
                        exact absurd c117 (by decide)
                    · skip
                      exact absurd rfl c98
                  · skip
                    exact absurd rfl c69
        · skip
          have hP : va_P D vwCl [(b 0, .inr (6, moF b (upd v 7 99))), ((b 9), .inl (T 0, 60, .inl (tx)))] H := hP
          have hD : va_D A [(b 0, .inr (6, moF b (upd v 7 99))), ((b 9), .inl (T 0, 60, .inl (tx)))] := hD
          refine lv_aload_n hx hb dX6_readThing_28 rfl (lv_at hl 0 rfl) ?_
          refine lv_aload_n hx hb dX6_readThing_29 rfl (lv_at hl 0 rfl) ?_
          refine va_get (D := D) (ci := 6) (v := .int (v 6)) (C := RX6) (T := TX6) (N := 22) hx hb hts inwX6_readThing_X6 hown hK hP 0 rfl rfl 15 (by decide) (hts (.fieldLink RX6 152 "PlateSlabsModel" "isWrong" "Z") (List.mem_of_getElem? (i := 5) rfl)) (fun _ h9 => h9) rfl dX6_readThing_30 ?_
          refine lv_if_ne (tgt := 81) hx hb dX6_readThing_33 (by decide) (fun c33 => ?_) (fun c33 => ?_)
          · skip
            exact absurd h6 c33
          · skip
            refine lv_aload_n hx hb dX6_readThing_36 rfl (lv_at hl 0 rfl) ?_
            refine va_get (D := D) (ci := 6) (v := .int 99) (C := RX6) (T := TX6) (N := 22) hx hb hts inwX6_readThing_X6 hown hK hP 0 rfl rfl 16 (by decide) (hts (.fieldLink RX6 166 "PlateSlabsModel" "letter" "I") (List.mem_of_getElem? (i := 4) rfl)) (fun _ h9 => h9) rfl dX6_readThing_37 ?_
            refine lv_bipush (v := 98) hx hb dX6_readThing_40 (by decide) ?_
            refine lv_icmp_eq (tgt := 85) hx hb dX6_readThing_42 (by decide) (fun c42 => ?_) (fun c42 => ?_)
            · skip
              exact absurd c42 (by decide)
            · skip
              refine lv_aload_n hx hb dX6_readThing_45 rfl (lv_at hl 0 rfl) ?_
              refine va_get (D := D) (ci := 6) (v := .int 99) (C := RX6) (T := TX6) (N := 22) hx hb hts inwX6_readThing_X6 hown hK hP 0 rfl rfl 16 (by decide) (hts (.fieldLink RX6 166 "PlateSlabsModel" "letter" "I") (List.mem_of_getElem? (i := 4) rfl)) (fun _ h9 => h9) rfl dX6_readThing_46 ?_
              refine lv_bipush (v := 111) hx hb dX6_readThing_49 (by decide) ?_
              refine lv_icmp_eq (tgt := 85) hx hb dX6_readThing_51 (by decide) (fun c51 => ?_) (fun c51 => ?_)
              · skip
                exact absurd c51 (by decide)
              · skip
                refine lv_aload_n hx hb dX6_readThing_54 rfl (lv_at hl 0 rfl) ?_
                refine va_get (D := D) (ci := 6) (v := .int 99) (C := RX6) (T := TX6) (N := 22) hx hb hts inwX6_readThing_X6 hown hK hP 0 rfl rfl 16 (by decide) (hts (.fieldLink RX6 166 "PlateSlabsModel" "letter" "I") (List.mem_of_getElem? (i := 4) rfl)) (fun _ h9 => h9) rfl dX6_readThing_55 ?_
                refine lv_bipush (v := 100) hx hb dX6_readThing_58 (by decide) ?_
                refine lv_icmp_eq (tgt := 85) hx hb dX6_readThing_60 (by decide) (fun c60 => ?_) (fun c60 => ?_)
                · skip
                  exact absurd c60 (by decide)
                · skip
                  refine lv_aload_n hx hb dX6_readThing_63 rfl (lv_at hl 0 rfl) ?_
                  refine va_get (D := D) (ci := 6) (v := .int 99) (C := RX6) (T := TX6) (N := 22) hx hb hts inwX6_readThing_X6 hown hK hP 0 rfl rfl 16 (by decide) (hts (.fieldLink RX6 166 "PlateSlabsModel" "letter" "I") (List.mem_of_getElem? (i := 4) rfl)) (fun _ h9 => h9) rfl dX6_readThing_64 ?_
                  refine lv_bipush (v := 99) hx hb dX6_readThing_67 (by decide) ?_
                  refine lv_icmp_eq (tgt := 85) hx hb dX6_readThing_69 (by decide) (fun c69 => ?_) (fun c69 => ?_)
                  · skip
                    refine lv_iconst (v := 0) hx hb dX6_readThing_85 (by decide) ?_
                    refine va_put (D := D) (ci := 6) (v := .int 0) (C := RX6) (T := TX6) (N := 22) hx hb hts inwX6_readThing_X6 tyX6 tyX6_ok nmX6 hown hK hP hD hS 0 rfl rfl 15 (by decide) (hts (.fieldLink RX6 152 "PlateSlabsModel" "isWrong" "Z") (List.mem_of_getElem? (i := 5) rfl)) (fun _ h9 => h9) rfl (tyX6_ok 15 (by decide)) (rfl) rfl (Nat.le_of_ble_eq_true rfl) dX6_readThing_86 (fun H locs hP hD hS => ?_)
                    have hP : va_P D vwCl [(b 0, .inr (6, moF b (upd (upd v 7 99) 6 0))), ((b 9), .inl (T 0, 60, .inl (tx)))] H := hP
                    have hD : va_D A [(b 0, .inr (6, moF b (upd (upd v 7 99) 6 0))), ((b 9), .inl (T 0, 60, .inl (tx)))] := hD
                    refine lv_aload_n hx hb dX6_readThing_89 rfl (lv_at hl 0 rfl) ?_
                    refine lv_dup hx hb dX6_readThing_90 rfl ?_
                    refine va_get (D := D) (ci := 6) (v := .int (v 5)) (C := RX6) (T := TX6) (N := 22) hx hb hts inwX6_readThing_X6 hown hK hP 0 rfl rfl 14 (by decide) (hts (.fieldLink RX6 156 "PlateSlabsModel" "position" "I") (List.mem_of_getElem? (i := 1) rfl)) (fun _ h9 => h9) rfl dX6_readThing_91 ?_
                    refine lv_aload_n hx hb dX6_readThing_94 rfl (lv_at hl 0 rfl) ?_
                    refine va_get (D := D) (ci := 6) (v := .int 0) (C := RX6) (T := TX6) (N := 22) hx hb hts inwX6_readThing_X6 hown hK hP 0 rfl rfl 15 (by decide) (hts (.fieldLink RX6 152 "PlateSlabsModel" "isWrong" "Z") (List.mem_of_getElem? (i := 5) rfl)) (fun _ h9 => h9) rfl dX6_readThing_95 ?_
                    refine lv_if_eq (tgt := 105) hx hb dX6_readThing_98 (by decide) (fun c98 => ?_) (fun c98 => ?_)
                    · skip
                      refine lv_iconst (v := 1) hx hb dX6_readThing_105 (by decide) ?_
                      refine lv_iadd hx hb dX6_readThing_106 ?_
                      refine lv_tpi (z := nI (i + 1)) (by rw [h5]; exact nI_1 i) ?_
                      refine va_put (D := D) (ci := 6) (v := .int (nI (i + 1))) (C := RX6) (T := TX6) (N := 22) hx hb hts inwX6_readThing_X6 tyX6 tyX6_ok nmX6 hown hK hP hD hS 0 rfl rfl 14 (by decide) (hts (.fieldLink RX6 156 "PlateSlabsModel" "position" "I") (List.mem_of_getElem? (i := 1) rfl)) (fun _ h9 => h9) rfl (tyX6_ok 14 (by decide)) (rfl) rfl (Nat.le_of_ble_eq_true rfl) dX6_readThing_107 (fun H locs hP hD hS => ?_)
                      have hP : va_P D vwCl [(b 0, .inr (6, moF b (upd (upd (upd v 7 99) 6 0) 5 (nI (i + 1))))), ((b 9), .inl (T 0, 60, .inl (tx)))] H := hP
                      have hD : va_D A [(b 0, .inr (6, moF b (upd (upd (upd v 7 99) 6 0) 5 (nI (i + 1))))), ((b 9), .inl (T 0, 60, .inl (tx)))] := hD
                      obtain ⟨v0, ev0⟩ : ∃ z, z = upd (upd (upd v 7 99) 6 0) 5 (nI (i + 1)) := ⟨_, rfl⟩
                      rw [← ev0] at hP hD
                      have Tv0 : vT v v0 := by rw [ev0]; exact (vT_u (vT_u (vT_u (vT_rf v) _ (by decide) (by decide)) _ (by decide) (by decide)) _ (by decide) (by decide))
                      have f2v0 : v0 2 = nI len := by rw [ev0]; exact h2
                      have f5v0 : v0 5 = nI (i + 1) := by rw [ev0]; rfl
                      have f6v0 : v0 6 = 0 := by rw [ev0]; rfl
                      have f7v0 : v0 7 = 99 := by rw [ev0]; rfl
                      have hP : va_P D vwCl [(b 0, .inr (6, moF b v0)), ((b 9), .inl (T 0, 60, .inl (tx)))] H := hP
                      have hD : va_D A [(b 0, .inr (6, moF b v0)), ((b 9), .inl (T 0, 60, .inl (tx)))] := hD
                      refine lv_aload_n hx hb dX6_readThing_110 rfl (lv_at hl 0 rfl) ?_
                      refine lv_aload_n hx hb dX6_readThing_111 rfl (lv_at hl 0 rfl) ?_
                      refine va_get (D := D) (ci := 6) (v := .int (v0 7)) (C := RX6) (T := TX6) (N := 22) hx hb hts inwX6_readThing_X6 hown hK hP 0 rfl rfl 16 (by decide) (hts (.fieldLink RX6 166 "PlateSlabsModel" "letter" "I") (List.mem_of_getElem? (i := 4) rfl)) (fun _ h9 => h9) rfl dX6_readThing_112 ?_
                      refine lv_tpi (z := 99) (f7v0) ?_
                      refine lv_bipush (v := 46) hx hb dX6_readThing_115 (by decide) ?_
                      refine lv_icmp_ne (tgt := 130) hx hb dX6_readThing_117 (by decide) (fun c117 => ?_) (fun c117 => ?_)
                      · skip
                        refine lv_aload_n hx hb dX6_readThing_130 rfl (lv_at hl 0 rfl) ?_
                        refine lv_bipush (v := 48) hx hb dX6_readThing_131 (by decide) ?_
                        refine lv_bipush (v := 51) hx hb dX6_readThing_133 (by decide) ?_
                        refine callMi (As := [.int 48, .int 51]) (wr := []) ⟨hx, hb, hml, hown, hts⟩ (mX6_takes l T D b v0 tx (i + 1) len hlen hi1 f2v0 f5v0 (Or.inl f6v0) 48 51) (cwV 2 hts gX6_readThing_X6_takes rfl rfl rfl pdX6_takes ⟨Nat.le_of_ble_eq_true rfl, Nat.le_of_ble_eq_true rfl⟩) hP hD hK hS hA xN_bl (fun U _ hW => XN_warm hW hX) (ci := 6) rfl rfl rfl hl.1 rfl rfl (Nat.le_of_ble_eq_true rfl) dX6_readThing_135 ⟨Nat.zero_le _, Nat.zero_le _⟩ (fun r57_ u58_ H locs eu58_ hP hD hS hkf => ?_)
                        obtain ⟨v1, rfl⟩ : ∃ z, z = u58_ := ⟨_, rfl⟩
                        obtain ⟨jv1, kv1⟩ := eu58_
                        have hP : va_P D vwCl [(b 0, .inr (6, moF b v1)), ((b 9), .inl (T 0, 60, .inl (tx)))] H := hP
                        have hD : va_D A [(b 0, .inr (6, moF b v1)), ((b 9), .inl (T 0, 60, .inl (tx)))] := hD
                        have f2v1 : v1 2 = nI len := (kv1.1 2 (by decide) (by decide)).trans f2v0
                        have f7v1 : v1 7 = 99 := (kv1.1 7 (by decide) (by decide)).trans f7v0
                        have Tv1 : vT v v1 := vT_R Tv0 kv1.1
                        obtain ⟨-, f6v1, f5v1⟩ := kv1.2.resolve_right (fun z => z.1 ⟨f6v0, y1⟩)
                        skip
                        refine va_put (D := D) (ci := 6) (v := .int r57_) (C := RX6) (T := TX6) (N := 22) hx hb hts inwX6_readThing_X6 tyX6 tyX6_ok nmX6 hown hK hP hD hS 0 rfl rfl 17 (by decide) (hts (.fieldLink RX6 172 "PlateSlabsModel" "first" "I") (List.mem_of_getElem? (i := 6) rfl)) (fun _ h9 => h9) rfl (tyX6_ok 17 (by decide)) (rfl) rfl (Nat.le_of_ble_eq_true rfl) dX6_readThing_138 (fun H locs hP hD hS => ?_)
                        have hP : va_P D vwCl [(b 0, .inr (6, moF b (upd v1 8 r57_))), ((b 9), .inl (T 0, 60, .inl (tx)))] H := hP
                        have hD : va_D A [(b 0, .inr (6, moF b (upd v1 8 r57_))), ((b 9), .inl (T 0, 60, .inl (tx)))] := hD
                        obtain ⟨u1, eu1⟩ : ∃ z, z = upd v1 8 r57_ := ⟨_, rfl⟩
                        rw [← eu1] at hP hD
                        have Tu1 : vT v u1 := by rw [eu1]; exact (vT_u Tv1 _ (by decide) (by decide))
                        have f2u1 : u1 2 = nI len := by rw [eu1]; exact f2v1
                        have f5u1 : u1 5 = nI (i + 2) := by rw [eu1]; exact f5v1
                        have f6u1 : u1 6 = 0 := by rw [eu1]; exact f6v1
                        have f7u1 : u1 7 = 99 := by rw [eu1]; exact f7v1
                        have hP : va_P D vwCl [(b 0, .inr (6, moF b u1)), ((b 9), .inl (T 0, 60, .inl (tx)))] H := hP
                        have hD : va_D A [(b 0, .inr (6, moF b u1)), ((b 9), .inl (T 0, 60, .inl (tx)))] := hD
                        refine lv_aload_n hx hb dX6_readThing_141 rfl (lv_at hl 0 rfl) ?_
                        refine lv_iconst (v := 0) hx hb dX6_readThing_142 (by decide) ?_
                        refine va_put (D := D) (ci := 6) (v := .int 0) (C := RX6) (T := TX6) (N := 22) hx hb hts inwX6_readThing_X6 tyX6 tyX6_ok nmX6 hown hK hP hD hS 0 rfl rfl 18 (by decide) (hts (.fieldLink RX6 175 "PlateSlabsModel" "second" "I") (List.mem_of_getElem? (i := 7) rfl)) (fun _ h9 => h9) rfl (tyX6_ok 18 (by decide)) (rfl) rfl (Nat.le_of_ble_eq_true rfl) dX6_readThing_143 (fun H locs hP hD hS => ?_)
                        have hP : va_P D vwCl [(b 0, .inr (6, moF b (upd u1 9 0))), ((b 9), .inl (T 0, 60, .inl (tx)))] H := hP
                        have hD : va_D A [(b 0, .inr (6, moF b (upd u1 9 0))), ((b 9), .inl (T 0, 60, .inl (tx)))] := hD
                        obtain ⟨u2, eu2⟩ : ∃ z, z = upd u1 9 0 := ⟨_, rfl⟩
                        rw [← eu2] at hP hD
                        have Tu2 : vT v u2 := by rw [eu2]; exact (vT_u Tu1 _ (by decide) (by decide))
                        have f2u2 : u2 2 = nI len := by rw [eu2]; exact f2u1
                        have f5u2 : u2 5 = nI (i + 2) := by rw [eu2]; exact f5u1
                        have f6u2 : u2 6 = 0 := by rw [eu2]; exact f6u1
                        have f7u2 : u2 7 = 99 := by rw [eu2]; exact f7u1
                        have hP : va_P D vwCl [(b 0, .inr (6, moF b u2)), ((b 9), .inl (T 0, 60, .inl (tx)))] H := hP
                        have hD : va_D A [(b 0, .inr (6, moF b u2)), ((b 9), .inl (T 0, 60, .inl (tx)))] := hD
                        refine lv_aload_n hx hb dX6_readThing_146 rfl (lv_at hl 0 rfl) ?_
                        refine va_get (D := D) (ci := 6) (v := .int (u2 7)) (C := RX6) (T := TX6) (N := 22) hx hb hts inwX6_readThing_X6 hown hK hP 0 rfl rfl 16 (by decide) (hts (.fieldLink RX6 166 "PlateSlabsModel" "letter" "I") (List.mem_of_getElem? (i := 4) rfl)) (fun _ h9 => h9) rfl dX6_readThing_147 ?_
                        refine lv_tpi (z := 99) (f7u2) ?_
                        refine lv_bipush (v := 98) hx hb dX6_readThing_150 (by decide) ?_
                        refine lv_icmp_eq (tgt := 164) hx hb dX6_readThing_152 (by decide) (fun c152 => ?_) (fun c152 => ?_)
                        · skip
                          exact absurd c152 (by decide)
                        · skip
                          refine lv_aload_n hx hb dX6_readThing_155 rfl (lv_at hl 0 rfl) ?_
                          refine va_get (D := D) (ci := 6) (v := .int (u2 7)) (C := RX6) (T := TX6) (N := 22) hx hb hts inwX6_readThing_X6 hown hK hP 0 rfl rfl 16 (by decide) (hts (.fieldLink RX6 166 "PlateSlabsModel" "letter" "I") (List.mem_of_getElem? (i := 4) rfl)) (fun _ h9 => h9) rfl dX6_readThing_156 ?_
                          refine lv_tpi (z := 99) (f7u2) ?_
                          refine lv_bipush (v := 100) hx hb dX6_readThing_159 (by decide) ?_
                          refine lv_icmp_ne (tgt := 201) hx hb dX6_readThing_161 (by decide) (fun c161 => ?_) (fun c161 => ?_)
                          · skip
                            refine lv_aload_n hx hb dX6_readThing_201 rfl (lv_at hl 0 rfl) ?_
                            refine va_get (D := D) (ci := 6) (v := .int (u2 7)) (C := RX6) (T := TX6) (N := 22) hx hb hts inwX6_readThing_X6 hown hK hP 0 rfl rfl 16 (by decide) (hts (.fieldLink RX6 166 "PlateSlabsModel" "letter" "I") (List.mem_of_getElem? (i := 4) rfl)) (fun _ h9 => h9) rfl dX6_readThing_202 ?_
                            refine lv_tpi (z := 99) (f7u2) ?_
                            refine lv_bipush (v := 99) hx hb dX6_readThing_205 (by decide) ?_
                            refine lv_icmp_ne (tgt := 222) hx hb dX6_readThing_207 (by decide) (fun c207 => ?_) (fun c207 => ?_)
                            · skip
                              exact absurd rfl c207
                            · skip
                              refine lv_aload_n hx hb dX6_readThing_210 rfl (lv_at hl 0 rfl) ?_
                              refine lv_aload_n hx hb dX6_readThing_211 rfl (lv_at hl 0 rfl) ?_
                              refine lv_bipush (v := 48) hx hb dX6_readThing_212 (by decide) ?_
                              refine lv_bipush (v := 51) hx hb dX6_readThing_214 (by decide) ?_
                              refine callMi (As := [.int 48, .int 51]) (wr := []) ⟨hx, hb, hml, hown, hts⟩ (mX6_takes l T D b u2 tx (i + 2) len hlen hi2 f2u2 f5u2 (Or.inl f6u2) 48 51) (cwV 2 hts gX6_readThing_X6_takes rfl rfl rfl pdX6_takes ⟨Nat.le_of_ble_eq_true rfl, Nat.le_of_ble_eq_true rfl⟩) hP hD hK hS hA xN_bl (fun U _ hW => XN_warm hW hX) (ci := 6) rfl rfl rfl hl.1 rfl rfl (Nat.le_of_ble_eq_true rfl) dX6_readThing_216 ⟨Nat.zero_le _, Nat.zero_le _⟩ (fun r59_ u60_ H locs eu60_ hP hD hS hkf => ?_)
                              obtain ⟨v4, rfl⟩ : ∃ z, z = u60_ := ⟨_, rfl⟩
                              obtain ⟨jv4, kv4⟩ := eu60_
                              have hP : va_P D vwCl [(b 0, .inr (6, moF b v4)), ((b 9), .inl (T 0, 60, .inl (tx)))] H := hP
                              have hD : va_D A [(b 0, .inr (6, moF b v4)), ((b 9), .inl (T 0, 60, .inl (tx)))] := hD
                              have f2v4 : v4 2 = nI len := (kv4.1 2 (by decide) (by decide)).trans f2u2
                              have f7v4 : v4 7 = 99 := (kv4.1 7 (by decide) (by decide)).trans f7u2
                              have Tv4 : vT v v4 := vT_R Tu2 kv4.1
                              obtain ⟨-, f6v4, f5v4⟩ := kv4.2.resolve_left (fun z => y2 z.1.2)
                              skip
                              refine va_put (D := D) (ci := 6) (v := .int r59_) (C := RX6) (T := TX6) (N := 22) hx hb hts inwX6_readThing_X6 tyX6 tyX6_ok nmX6 hown hK hP hD hS 0 rfl rfl 18 (by decide) (hts (.fieldLink RX6 175 "PlateSlabsModel" "second" "I") (List.mem_of_getElem? (i := 7) rfl)) (fun _ h9 => h9) rfl (tyX6_ok 18 (by decide)) (rfl) rfl (Nat.le_of_ble_eq_true rfl) dX6_readThing_219 (fun H locs hP hD hS => ?_)
                              have hP : va_P D vwCl [(b 0, .inr (6, moF b (upd v4 9 r59_))), ((b 9), .inl (T 0, 60, .inl (tx)))] H := hP
                              have hD : va_D A [(b 0, .inr (6, moF b (upd v4 9 r59_))), ((b 9), .inl (T 0, 60, .inl (tx)))] := hD
                              obtain ⟨u9, eu9⟩ : ∃ z, z = upd v4 9 r59_ := ⟨_, rfl⟩
                              rw [← eu9] at hP hD
                              have Tu9 : vT v u9 := by rw [eu9]; exact (vT_u Tv4 _ (by decide) (by decide))
                              have f2u9 : u9 2 = nI len := by rw [eu9]; exact f2v4
                              have f5u9 : u9 5 = nI (i + 2) := by rw [eu9]; exact f5v4
                              have f6u9 : u9 6 = 1 := by rw [eu9]; exact f6v4
                              have f7u9 : u9 7 = 99 := by rw [eu9]; exact f7v4
                              have hP : va_P D vwCl [(b 0, .inr (6, moF b u9)), ((b 9), .inl (T 0, 60, .inl (tx)))] H := hP
                              have hD : va_D A [(b 0, .inr (6, moF b u9)), ((b 9), .inl (T 0, 60, .inl (tx)))] := hD
                              have hL := th_c01 (c := tch tx len) (i := i) ech.symm y1 y2
                              exact hret _ _ u9 _ _ dX6_readThing_222 hS hP hD ⟨Tu9, by rw [hL.2]; exact f5u9, Or.inr ⟨hL.1, f6u9⟩⟩
                          · skip
                            exact absurd c161 (by decide)
                      · skip
                        exact absurd c117 (by decide)
                    · skip
                      exact absurd rfl c98
                  · skip
                    exact absurd rfl c69
      · skip
        have hP : va_P D vwCl [(b 0, .inr (6, moF b (upd v 7 99))), ((b 9), .inl (T 0, 60, .inl (tx)))] H := hP
        have hD : va_D A [(b 0, .inr (6, moF b (upd v 7 99))), ((b 9), .inl (T 0, 60, .inl (tx)))] := hD
        refine lv_aload_n hx hb dX6_readThing_28 rfl (lv_at hl 0 rfl) ?_
        refine lv_aload_n hx hb dX6_readThing_29 rfl (lv_at hl 0 rfl) ?_
        refine va_get (D := D) (ci := 6) (v := .int (v 6)) (C := RX6) (T := TX6) (N := 22) hx hb hts inwX6_readThing_X6 hown hK hP 0 rfl rfl 15 (by decide) (hts (.fieldLink RX6 152 "PlateSlabsModel" "isWrong" "Z") (List.mem_of_getElem? (i := 5) rfl)) (fun _ h9 => h9) rfl dX6_readThing_30 ?_
        refine lv_if_ne (tgt := 81) hx hb dX6_readThing_33 (by decide) (fun c33 => ?_) (fun c33 => ?_)
        · skip
          exact absurd h6 c33
        · skip
          refine lv_aload_n hx hb dX6_readThing_36 rfl (lv_at hl 0 rfl) ?_
          refine va_get (D := D) (ci := 6) (v := .int 99) (C := RX6) (T := TX6) (N := 22) hx hb hts inwX6_readThing_X6 hown hK hP 0 rfl rfl 16 (by decide) (hts (.fieldLink RX6 166 "PlateSlabsModel" "letter" "I") (List.mem_of_getElem? (i := 4) rfl)) (fun _ h9 => h9) rfl dX6_readThing_37 ?_
          refine lv_bipush (v := 98) hx hb dX6_readThing_40 (by decide) ?_
          refine lv_icmp_eq (tgt := 85) hx hb dX6_readThing_42 (by decide) (fun c42 => ?_) (fun c42 => ?_)
          · skip
            exact absurd c42 (by decide)
          · skip
            refine lv_aload_n hx hb dX6_readThing_45 rfl (lv_at hl 0 rfl) ?_
            refine va_get (D := D) (ci := 6) (v := .int 99) (C := RX6) (T := TX6) (N := 22) hx hb hts inwX6_readThing_X6 hown hK hP 0 rfl rfl 16 (by decide) (hts (.fieldLink RX6 166 "PlateSlabsModel" "letter" "I") (List.mem_of_getElem? (i := 4) rfl)) (fun _ h9 => h9) rfl dX6_readThing_46 ?_
            refine lv_bipush (v := 111) hx hb dX6_readThing_49 (by decide) ?_
            refine lv_icmp_eq (tgt := 85) hx hb dX6_readThing_51 (by decide) (fun c51 => ?_) (fun c51 => ?_)
            · skip
              exact absurd c51 (by decide)
            · skip
              refine lv_aload_n hx hb dX6_readThing_54 rfl (lv_at hl 0 rfl) ?_
              refine va_get (D := D) (ci := 6) (v := .int 99) (C := RX6) (T := TX6) (N := 22) hx hb hts inwX6_readThing_X6 hown hK hP 0 rfl rfl 16 (by decide) (hts (.fieldLink RX6 166 "PlateSlabsModel" "letter" "I") (List.mem_of_getElem? (i := 4) rfl)) (fun _ h9 => h9) rfl dX6_readThing_55 ?_
              refine lv_bipush (v := 100) hx hb dX6_readThing_58 (by decide) ?_
              refine lv_icmp_eq (tgt := 85) hx hb dX6_readThing_60 (by decide) (fun c60 => ?_) (fun c60 => ?_)
              · skip
                exact absurd c60 (by decide)
              · skip
                refine lv_aload_n hx hb dX6_readThing_63 rfl (lv_at hl 0 rfl) ?_
                refine va_get (D := D) (ci := 6) (v := .int 99) (C := RX6) (T := TX6) (N := 22) hx hb hts inwX6_readThing_X6 hown hK hP 0 rfl rfl 16 (by decide) (hts (.fieldLink RX6 166 "PlateSlabsModel" "letter" "I") (List.mem_of_getElem? (i := 4) rfl)) (fun _ h9 => h9) rfl dX6_readThing_64 ?_
                refine lv_bipush (v := 99) hx hb dX6_readThing_67 (by decide) ?_
                refine lv_icmp_eq (tgt := 85) hx hb dX6_readThing_69 (by decide) (fun c69 => ?_) (fun c69 => ?_)
                · skip
                  refine lv_iconst (v := 0) hx hb dX6_readThing_85 (by decide) ?_
                  refine va_put (D := D) (ci := 6) (v := .int 0) (C := RX6) (T := TX6) (N := 22) hx hb hts inwX6_readThing_X6 tyX6 tyX6_ok nmX6 hown hK hP hD hS 0 rfl rfl 15 (by decide) (hts (.fieldLink RX6 152 "PlateSlabsModel" "isWrong" "Z") (List.mem_of_getElem? (i := 5) rfl)) (fun _ h9 => h9) rfl (tyX6_ok 15 (by decide)) (rfl) rfl (Nat.le_of_ble_eq_true rfl) dX6_readThing_86 (fun H locs hP hD hS => ?_)
                  have hP : va_P D vwCl [(b 0, .inr (6, moF b (upd (upd v 7 99) 6 0))), ((b 9), .inl (T 0, 60, .inl (tx)))] H := hP
                  have hD : va_D A [(b 0, .inr (6, moF b (upd (upd v 7 99) 6 0))), ((b 9), .inl (T 0, 60, .inl (tx)))] := hD
                  refine lv_aload_n hx hb dX6_readThing_89 rfl (lv_at hl 0 rfl) ?_
                  refine lv_dup hx hb dX6_readThing_90 rfl ?_
                  refine va_get (D := D) (ci := 6) (v := .int (v 5)) (C := RX6) (T := TX6) (N := 22) hx hb hts inwX6_readThing_X6 hown hK hP 0 rfl rfl 14 (by decide) (hts (.fieldLink RX6 156 "PlateSlabsModel" "position" "I") (List.mem_of_getElem? (i := 1) rfl)) (fun _ h9 => h9) rfl dX6_readThing_91 ?_
                  refine lv_aload_n hx hb dX6_readThing_94 rfl (lv_at hl 0 rfl) ?_
                  refine va_get (D := D) (ci := 6) (v := .int 0) (C := RX6) (T := TX6) (N := 22) hx hb hts inwX6_readThing_X6 hown hK hP 0 rfl rfl 15 (by decide) (hts (.fieldLink RX6 152 "PlateSlabsModel" "isWrong" "Z") (List.mem_of_getElem? (i := 5) rfl)) (fun _ h9 => h9) rfl dX6_readThing_95 ?_
                  refine lv_if_eq (tgt := 105) hx hb dX6_readThing_98 (by decide) (fun c98 => ?_) (fun c98 => ?_)
                  · skip
                    refine lv_iconst (v := 1) hx hb dX6_readThing_105 (by decide) ?_
                    refine lv_iadd hx hb dX6_readThing_106 ?_
                    refine lv_tpi (z := nI (i + 1)) (by rw [h5]; exact nI_1 i) ?_
                    refine va_put (D := D) (ci := 6) (v := .int (nI (i + 1))) (C := RX6) (T := TX6) (N := 22) hx hb hts inwX6_readThing_X6 tyX6 tyX6_ok nmX6 hown hK hP hD hS 0 rfl rfl 14 (by decide) (hts (.fieldLink RX6 156 "PlateSlabsModel" "position" "I") (List.mem_of_getElem? (i := 1) rfl)) (fun _ h9 => h9) rfl (tyX6_ok 14 (by decide)) (rfl) rfl (Nat.le_of_ble_eq_true rfl) dX6_readThing_107 (fun H locs hP hD hS => ?_)
                    have hP : va_P D vwCl [(b 0, .inr (6, moF b (upd (upd (upd v 7 99) 6 0) 5 (nI (i + 1))))), ((b 9), .inl (T 0, 60, .inl (tx)))] H := hP
                    have hD : va_D A [(b 0, .inr (6, moF b (upd (upd (upd v 7 99) 6 0) 5 (nI (i + 1))))), ((b 9), .inl (T 0, 60, .inl (tx)))] := hD
                    obtain ⟨v0, ev0⟩ : ∃ z, z = upd (upd (upd v 7 99) 6 0) 5 (nI (i + 1)) := ⟨_, rfl⟩
                    rw [← ev0] at hP hD
                    have Tv0 : vT v v0 := by rw [ev0]; exact (vT_u (vT_u (vT_u (vT_rf v) _ (by decide) (by decide)) _ (by decide) (by decide)) _ (by decide) (by decide))
                    have f2v0 : v0 2 = nI len := by rw [ev0]; exact h2
                    have f5v0 : v0 5 = nI (i + 1) := by rw [ev0]; rfl
                    have f6v0 : v0 6 = 0 := by rw [ev0]; rfl
                    have f7v0 : v0 7 = 99 := by rw [ev0]; rfl
                    have hP : va_P D vwCl [(b 0, .inr (6, moF b v0)), ((b 9), .inl (T 0, 60, .inl (tx)))] H := hP
                    have hD : va_D A [(b 0, .inr (6, moF b v0)), ((b 9), .inl (T 0, 60, .inl (tx)))] := hD
                    refine lv_aload_n hx hb dX6_readThing_110 rfl (lv_at hl 0 rfl) ?_
                    refine lv_aload_n hx hb dX6_readThing_111 rfl (lv_at hl 0 rfl) ?_
                    refine va_get (D := D) (ci := 6) (v := .int (v0 7)) (C := RX6) (T := TX6) (N := 22) hx hb hts inwX6_readThing_X6 hown hK hP 0 rfl rfl 16 (by decide) (hts (.fieldLink RX6 166 "PlateSlabsModel" "letter" "I") (List.mem_of_getElem? (i := 4) rfl)) (fun _ h9 => h9) rfl dX6_readThing_112 ?_
                    refine lv_tpi (z := 99) (f7v0) ?_
                    refine lv_bipush (v := 46) hx hb dX6_readThing_115 (by decide) ?_
                    refine lv_icmp_ne (tgt := 130) hx hb dX6_readThing_117 (by decide) (fun c117 => ?_) (fun c117 => ?_)
                    · skip
                      refine lv_aload_n hx hb dX6_readThing_130 rfl (lv_at hl 0 rfl) ?_
                      refine lv_bipush (v := 48) hx hb dX6_readThing_131 (by decide) ?_
                      refine lv_bipush (v := 51) hx hb dX6_readThing_133 (by decide) ?_
                      refine callMi (As := [.int 48, .int 51]) (wr := []) ⟨hx, hb, hml, hown, hts⟩ (mX6_takes l T D b v0 tx (i + 1) len hlen hi1 f2v0 f5v0 (Or.inl f6v0) 48 51) (cwV 2 hts gX6_readThing_X6_takes rfl rfl rfl pdX6_takes ⟨Nat.le_of_ble_eq_true rfl, Nat.le_of_ble_eq_true rfl⟩) hP hD hK hS hA xN_bl (fun U _ hW => XN_warm hW hX) (ci := 6) rfl rfl rfl hl.1 rfl rfl (Nat.le_of_ble_eq_true rfl) dX6_readThing_135 ⟨Nat.zero_le _, Nat.zero_le _⟩ (fun r61_ u62_ H locs eu62_ hP hD hS hkf => ?_)
                      obtain ⟨v1, rfl⟩ : ∃ z, z = u62_ := ⟨_, rfl⟩
                      obtain ⟨jv1, kv1⟩ := eu62_
                      have hP : va_P D vwCl [(b 0, .inr (6, moF b v1)), ((b 9), .inl (T 0, 60, .inl (tx)))] H := hP
                      have hD : va_D A [(b 0, .inr (6, moF b v1)), ((b 9), .inl (T 0, 60, .inl (tx)))] := hD
                      have f2v1 : v1 2 = nI len := (kv1.1 2 (by decide) (by decide)).trans f2v0
                      have f7v1 : v1 7 = 99 := (kv1.1 7 (by decide) (by decide)).trans f7v0
                      have Tv1 : vT v v1 := vT_R Tv0 kv1.1
                      obtain ⟨-, f6v1, f5v1⟩ := kv1.2.resolve_left (fun z => y1 z.1.2)
                      skip
                      refine va_put (D := D) (ci := 6) (v := .int r61_) (C := RX6) (T := TX6) (N := 22) hx hb hts inwX6_readThing_X6 tyX6 tyX6_ok nmX6 hown hK hP hD hS 0 rfl rfl 17 (by decide) (hts (.fieldLink RX6 172 "PlateSlabsModel" "first" "I") (List.mem_of_getElem? (i := 6) rfl)) (fun _ h9 => h9) rfl (tyX6_ok 17 (by decide)) (rfl) rfl (Nat.le_of_ble_eq_true rfl) dX6_readThing_138 (fun H locs hP hD hS => ?_)
                      have hP : va_P D vwCl [(b 0, .inr (6, moF b (upd v1 8 r61_))), ((b 9), .inl (T 0, 60, .inl (tx)))] H := hP
                      have hD : va_D A [(b 0, .inr (6, moF b (upd v1 8 r61_))), ((b 9), .inl (T 0, 60, .inl (tx)))] := hD
                      obtain ⟨u1, eu1⟩ : ∃ z, z = upd v1 8 r61_ := ⟨_, rfl⟩
                      rw [← eu1] at hP hD
                      have Tu1 : vT v u1 := by rw [eu1]; exact (vT_u Tv1 _ (by decide) (by decide))
                      have f2u1 : u1 2 = nI len := by rw [eu1]; exact f2v1
                      have f5u1 : u1 5 = nI (i + 1) := by rw [eu1]; exact f5v1
                      have f6u1 : u1 6 = 1 := by rw [eu1]; exact f6v1
                      have f7u1 : u1 7 = 99 := by rw [eu1]; exact f7v1
                      have hP : va_P D vwCl [(b 0, .inr (6, moF b u1)), ((b 9), .inl (T 0, 60, .inl (tx)))] H := hP
                      have hD : va_D A [(b 0, .inr (6, moF b u1)), ((b 9), .inl (T 0, 60, .inl (tx)))] := hD
                      refine lv_aload_n hx hb dX6_readThing_141 rfl (lv_at hl 0 rfl) ?_
                      refine lv_iconst (v := 0) hx hb dX6_readThing_142 (by decide) ?_
                      refine va_put (D := D) (ci := 6) (v := .int 0) (C := RX6) (T := TX6) (N := 22) hx hb hts inwX6_readThing_X6 tyX6 tyX6_ok nmX6 hown hK hP hD hS 0 rfl rfl 18 (by decide) (hts (.fieldLink RX6 175 "PlateSlabsModel" "second" "I") (List.mem_of_getElem? (i := 7) rfl)) (fun _ h9 => h9) rfl (tyX6_ok 18 (by decide)) (rfl) rfl (Nat.le_of_ble_eq_true rfl) dX6_readThing_143 (fun H locs hP hD hS => ?_)
                      have hP : va_P D vwCl [(b 0, .inr (6, moF b (upd u1 9 0))), ((b 9), .inl (T 0, 60, .inl (tx)))] H := hP
                      have hD : va_D A [(b 0, .inr (6, moF b (upd u1 9 0))), ((b 9), .inl (T 0, 60, .inl (tx)))] := hD
                      obtain ⟨u2, eu2⟩ : ∃ z, z = upd u1 9 0 := ⟨_, rfl⟩
                      rw [← eu2] at hP hD
                      have Tu2 : vT v u2 := by rw [eu2]; exact (vT_u Tu1 _ (by decide) (by decide))
                      have f2u2 : u2 2 = nI len := by rw [eu2]; exact f2u1
                      have f5u2 : u2 5 = nI (i + 1) := by rw [eu2]; exact f5u1
                      have f6u2 : u2 6 = 1 := by rw [eu2]; exact f6u1
                      have f7u2 : u2 7 = 99 := by rw [eu2]; exact f7u1
                      have hP : va_P D vwCl [(b 0, .inr (6, moF b u2)), ((b 9), .inl (T 0, 60, .inl (tx)))] H := hP
                      have hD : va_D A [(b 0, .inr (6, moF b u2)), ((b 9), .inl (T 0, 60, .inl (tx)))] := hD
                      refine lv_aload_n hx hb dX6_readThing_146 rfl (lv_at hl 0 rfl) ?_
                      refine va_get (D := D) (ci := 6) (v := .int (u2 7)) (C := RX6) (T := TX6) (N := 22) hx hb hts inwX6_readThing_X6 hown hK hP 0 rfl rfl 16 (by decide) (hts (.fieldLink RX6 166 "PlateSlabsModel" "letter" "I") (List.mem_of_getElem? (i := 4) rfl)) (fun _ h9 => h9) rfl dX6_readThing_147 ?_
                      refine lv_tpi (z := 99) (f7u2) ?_
                      refine lv_bipush (v := 98) hx hb dX6_readThing_150 (by decide) ?_
                      refine lv_icmp_eq (tgt := 164) hx hb dX6_readThing_152 (by decide) (fun c152 => ?_) (fun c152 => ?_)
                      · skip
                        exact absurd c152 (by decide)
                      · skip
                        refine lv_aload_n hx hb dX6_readThing_155 rfl (lv_at hl 0 rfl) ?_
                        refine va_get (D := D) (ci := 6) (v := .int (u2 7)) (C := RX6) (T := TX6) (N := 22) hx hb hts inwX6_readThing_X6 hown hK hP 0 rfl rfl 16 (by decide) (hts (.fieldLink RX6 166 "PlateSlabsModel" "letter" "I") (List.mem_of_getElem? (i := 4) rfl)) (fun _ h9 => h9) rfl dX6_readThing_156 ?_
                        refine lv_tpi (z := 99) (f7u2) ?_
                        refine lv_bipush (v := 100) hx hb dX6_readThing_159 (by decide) ?_
                        refine lv_icmp_ne (tgt := 201) hx hb dX6_readThing_161 (by decide) (fun c161 => ?_) (fun c161 => ?_)
                        · skip
                          refine lv_aload_n hx hb dX6_readThing_201 rfl (lv_at hl 0 rfl) ?_
                          refine va_get (D := D) (ci := 6) (v := .int (u2 7)) (C := RX6) (T := TX6) (N := 22) hx hb hts inwX6_readThing_X6 hown hK hP 0 rfl rfl 16 (by decide) (hts (.fieldLink RX6 166 "PlateSlabsModel" "letter" "I") (List.mem_of_getElem? (i := 4) rfl)) (fun _ h9 => h9) rfl dX6_readThing_202 ?_
                          refine lv_tpi (z := 99) (f7u2) ?_
                          refine lv_bipush (v := 99) hx hb dX6_readThing_205 (by decide) ?_
                          refine lv_icmp_ne (tgt := 222) hx hb dX6_readThing_207 (by decide) (fun c207 => ?_) (fun c207 => ?_)
                          · skip
                            exact absurd rfl c207
                          · skip
                            refine lv_aload_n hx hb dX6_readThing_210 rfl (lv_at hl 0 rfl) ?_
                            refine lv_aload_n hx hb dX6_readThing_211 rfl (lv_at hl 0 rfl) ?_
                            refine lv_bipush (v := 48) hx hb dX6_readThing_212 (by decide) ?_
                            refine lv_bipush (v := 51) hx hb dX6_readThing_214 (by decide) ?_
                            refine callMi (As := [.int 48, .int 51]) (wr := []) ⟨hx, hb, hml, hown, hts⟩ (mX6_takes l T D b u2 tx (i + 1) len hlen hi1 f2u2 f5u2 (Or.inr f6u2) 48 51) (cwV 2 hts gX6_readThing_X6_takes rfl rfl rfl pdX6_takes ⟨Nat.le_of_ble_eq_true rfl, Nat.le_of_ble_eq_true rfl⟩) hP hD hK hS hA xN_bl (fun U _ hW => XN_warm hW hX) (ci := 6) rfl rfl rfl hl.1 rfl rfl (Nat.le_of_ble_eq_true rfl) dX6_readThing_216 ⟨Nat.zero_le _, Nat.zero_le _⟩ (fun r63_ u64_ H locs eu64_ hP hD hS hkf => ?_)
                            obtain ⟨v4, rfl⟩ : ∃ z, z = u64_ := ⟨_, rfl⟩
                            obtain ⟨jv4, kv4⟩ := eu64_
                            have hP : va_P D vwCl [(b 0, .inr (6, moF b v4)), ((b 9), .inl (T 0, 60, .inl (tx)))] H := hP
                            have hD : va_D A [(b 0, .inr (6, moF b v4)), ((b 9), .inl (T 0, 60, .inl (tx)))] := hD
                            have f2v4 : v4 2 = nI len := (kv4.1 2 (by decide) (by decide)).trans f2u2
                            have f7v4 : v4 7 = 99 := (kv4.1 7 (by decide) (by decide)).trans f7u2
                            have Tv4 : vT v v4 := vT_R Tu2 kv4.1
                            obtain ⟨-, f6v4, f5v4⟩ := kv4.2.resolve_left (fun ⟨⟨z, _⟩, _⟩ => absurd (f6u2.symm.trans z) (by decide))
                            skip
                            refine va_put (D := D) (ci := 6) (v := .int r63_) (C := RX6) (T := TX6) (N := 22) hx hb hts inwX6_readThing_X6 tyX6 tyX6_ok nmX6 hown hK hP hD hS 0 rfl rfl 18 (by decide) (hts (.fieldLink RX6 175 "PlateSlabsModel" "second" "I") (List.mem_of_getElem? (i := 7) rfl)) (fun _ h9 => h9) rfl (tyX6_ok 18 (by decide)) (rfl) rfl (Nat.le_of_ble_eq_true rfl) dX6_readThing_219 (fun H locs hP hD hS => ?_)
                            have hP : va_P D vwCl [(b 0, .inr (6, moF b (upd v4 9 r63_))), ((b 9), .inl (T 0, 60, .inl (tx)))] H := hP
                            have hD : va_D A [(b 0, .inr (6, moF b (upd v4 9 r63_))), ((b 9), .inl (T 0, 60, .inl (tx)))] := hD
                            obtain ⟨u9, eu9⟩ : ∃ z, z = upd v4 9 r63_ := ⟨_, rfl⟩
                            rw [← eu9] at hP hD
                            have Tu9 : vT v u9 := by rw [eu9]; exact (vT_u Tv4 _ (by decide) (by decide))
                            have f2u9 : u9 2 = nI len := by rw [eu9]; exact f2v4
                            have f5u9 : u9 5 = nI (i + 1) := by rw [eu9]; exact f5v4
                            have f6u9 : u9 6 = 1 := by rw [eu9]; exact f6v4
                            have f7u9 : u9 7 = 99 := by rw [eu9]; exact f7v4
                            have hP : va_P D vwCl [(b 0, .inr (6, moF b u9)), ((b 9), .inl (T 0, 60, .inl (tx)))] H := hP
                            have hD : va_D A [(b 0, .inr (6, moF b u9)), ((b 9), .inl (T 0, 60, .inl (tx)))] := hD
                            have hL := th_c0 (c := tch tx len) (i := i) ech.symm y1
                            exact hret _ _ u9 _ _ dX6_readThing_222 hS hP hD ⟨Tu9, by rw [hL.2]; exact f5u9, Or.inr ⟨hL.1, f6u9⟩⟩
                        · skip
                          exact absurd c161 (by decide)
                    · skip
                      exact absurd c117 (by decide)
                  · skip
                    exact absurd rfl c98
                · skip
                  exact absurd rfl c69
    · skip
      subst hZ
      have hi1 : i + 1 ≤ len := tch_pos1 (c := 46) (by decide) (by rw [← ech]; exact Int32.le_refl _)
      by_cases y1 : nOk (tch tx len) (i + 1) 1
      · skip
        have hP : va_P D vwCl [(b 0, .inr (6, moF b (upd v 7 46))), ((b 9), .inl (T 0, 60, .inl (tx)))] H := hP
        have hD : va_D A [(b 0, .inr (6, moF b (upd v 7 46))), ((b 9), .inl (T 0, 60, .inl (tx)))] := hD
        refine lv_aload_n hx hb dX6_readThing_28 rfl (lv_at hl 0 rfl) ?_
        refine lv_aload_n hx hb dX6_readThing_29 rfl (lv_at hl 0 rfl) ?_
        refine va_get (D := D) (ci := 6) (v := .int (v 6)) (C := RX6) (T := TX6) (N := 22) hx hb hts inwX6_readThing_X6 hown hK hP 0 rfl rfl 15 (by decide) (hts (.fieldLink RX6 152 "PlateSlabsModel" "isWrong" "Z") (List.mem_of_getElem? (i := 5) rfl)) (fun _ h9 => h9) rfl dX6_readThing_30 ?_
        refine lv_if_ne (tgt := 81) hx hb dX6_readThing_33 (by decide) (fun c33 => ?_) (fun c33 => ?_)
        · skip
          exact absurd h6 c33
        · skip
          refine lv_aload_n hx hb dX6_readThing_36 rfl (lv_at hl 0 rfl) ?_
          refine va_get (D := D) (ci := 6) (v := .int 46) (C := RX6) (T := TX6) (N := 22) hx hb hts inwX6_readThing_X6 hown hK hP 0 rfl rfl 16 (by decide) (hts (.fieldLink RX6 166 "PlateSlabsModel" "letter" "I") (List.mem_of_getElem? (i := 4) rfl)) (fun _ h9 => h9) rfl dX6_readThing_37 ?_
          refine lv_bipush (v := 98) hx hb dX6_readThing_40 (by decide) ?_
          refine lv_icmp_eq (tgt := 85) hx hb dX6_readThing_42 (by decide) (fun c42 => ?_) (fun c42 => ?_)
          · skip
            exact absurd c42 (by decide)
          · skip
            refine lv_aload_n hx hb dX6_readThing_45 rfl (lv_at hl 0 rfl) ?_
            refine va_get (D := D) (ci := 6) (v := .int 46) (C := RX6) (T := TX6) (N := 22) hx hb hts inwX6_readThing_X6 hown hK hP 0 rfl rfl 16 (by decide) (hts (.fieldLink RX6 166 "PlateSlabsModel" "letter" "I") (List.mem_of_getElem? (i := 4) rfl)) (fun _ h9 => h9) rfl dX6_readThing_46 ?_
            refine lv_bipush (v := 111) hx hb dX6_readThing_49 (by decide) ?_
            refine lv_icmp_eq (tgt := 85) hx hb dX6_readThing_51 (by decide) (fun c51 => ?_) (fun c51 => ?_)
            · skip
              exact absurd c51 (by decide)
            · skip
              refine lv_aload_n hx hb dX6_readThing_54 rfl (lv_at hl 0 rfl) ?_
              refine va_get (D := D) (ci := 6) (v := .int 46) (C := RX6) (T := TX6) (N := 22) hx hb hts inwX6_readThing_X6 hown hK hP 0 rfl rfl 16 (by decide) (hts (.fieldLink RX6 166 "PlateSlabsModel" "letter" "I") (List.mem_of_getElem? (i := 4) rfl)) (fun _ h9 => h9) rfl dX6_readThing_55 ?_
              refine lv_bipush (v := 100) hx hb dX6_readThing_58 (by decide) ?_
              refine lv_icmp_eq (tgt := 85) hx hb dX6_readThing_60 (by decide) (fun c60 => ?_) (fun c60 => ?_)
              · skip
                exact absurd c60 (by decide)
              · skip
                refine lv_aload_n hx hb dX6_readThing_63 rfl (lv_at hl 0 rfl) ?_
                refine va_get (D := D) (ci := 6) (v := .int 46) (C := RX6) (T := TX6) (N := 22) hx hb hts inwX6_readThing_X6 hown hK hP 0 rfl rfl 16 (by decide) (hts (.fieldLink RX6 166 "PlateSlabsModel" "letter" "I") (List.mem_of_getElem? (i := 4) rfl)) (fun _ h9 => h9) rfl dX6_readThing_64 ?_
                refine lv_bipush (v := 99) hx hb dX6_readThing_67 (by decide) ?_
                refine lv_icmp_eq (tgt := 85) hx hb dX6_readThing_69 (by decide) (fun c69 => ?_) (fun c69 => ?_)
                · skip
                  exact absurd c69 (by decide)
                · skip
                  refine lv_aload_n hx hb dX6_readThing_72 rfl (lv_at hl 0 rfl) ?_
                  refine va_get (D := D) (ci := 6) (v := .int 46) (C := RX6) (T := TX6) (N := 22) hx hb hts inwX6_readThing_X6 hown hK hP 0 rfl rfl 16 (by decide) (hts (.fieldLink RX6 166 "PlateSlabsModel" "letter" "I") (List.mem_of_getElem? (i := 4) rfl)) (fun _ h9 => h9) rfl dX6_readThing_73 ?_
                  refine lv_bipush (v := 46) hx hb dX6_readThing_76 (by decide) ?_
                  refine lv_icmp_eq (tgt := 85) hx hb dX6_readThing_78 (by decide) (fun c78 => ?_) (fun c78 => ?_)
                  · skip
                    refine lv_iconst (v := 0) hx hb dX6_readThing_85 (by decide) ?_
                    refine va_put (D := D) (ci := 6) (v := .int 0) (C := RX6) (T := TX6) (N := 22) hx hb hts inwX6_readThing_X6 tyX6 tyX6_ok nmX6 hown hK hP hD hS 0 rfl rfl 15 (by decide) (hts (.fieldLink RX6 152 "PlateSlabsModel" "isWrong" "Z") (List.mem_of_getElem? (i := 5) rfl)) (fun _ h9 => h9) rfl (tyX6_ok 15 (by decide)) (rfl) rfl (Nat.le_of_ble_eq_true rfl) dX6_readThing_86 (fun H locs hP hD hS => ?_)
                    have hP : va_P D vwCl [(b 0, .inr (6, moF b (upd (upd v 7 46) 6 0))), ((b 9), .inl (T 0, 60, .inl (tx)))] H := hP
                    have hD : va_D A [(b 0, .inr (6, moF b (upd (upd v 7 46) 6 0))), ((b 9), .inl (T 0, 60, .inl (tx)))] := hD
                    refine lv_aload_n hx hb dX6_readThing_89 rfl (lv_at hl 0 rfl) ?_
                    refine lv_dup hx hb dX6_readThing_90 rfl ?_
                    refine va_get (D := D) (ci := 6) (v := .int (v 5)) (C := RX6) (T := TX6) (N := 22) hx hb hts inwX6_readThing_X6 hown hK hP 0 rfl rfl 14 (by decide) (hts (.fieldLink RX6 156 "PlateSlabsModel" "position" "I") (List.mem_of_getElem? (i := 1) rfl)) (fun _ h9 => h9) rfl dX6_readThing_91 ?_
                    refine lv_aload_n hx hb dX6_readThing_94 rfl (lv_at hl 0 rfl) ?_
                    refine va_get (D := D) (ci := 6) (v := .int 0) (C := RX6) (T := TX6) (N := 22) hx hb hts inwX6_readThing_X6 hown hK hP 0 rfl rfl 15 (by decide) (hts (.fieldLink RX6 152 "PlateSlabsModel" "isWrong" "Z") (List.mem_of_getElem? (i := 5) rfl)) (fun _ h9 => h9) rfl dX6_readThing_95 ?_
                    refine lv_if_eq (tgt := 105) hx hb dX6_readThing_98 (by decide) (fun c98 => ?_) (fun c98 => ?_)
                    · skip
                      refine lv_iconst (v := 1) hx hb dX6_readThing_105 (by decide) ?_
                      refine lv_iadd hx hb dX6_readThing_106 ?_
                      refine lv_tpi (z := nI (i + 1)) (by rw [h5]; exact nI_1 i) ?_
                      refine va_put (D := D) (ci := 6) (v := .int (nI (i + 1))) (C := RX6) (T := TX6) (N := 22) hx hb hts inwX6_readThing_X6 tyX6 tyX6_ok nmX6 hown hK hP hD hS 0 rfl rfl 14 (by decide) (hts (.fieldLink RX6 156 "PlateSlabsModel" "position" "I") (List.mem_of_getElem? (i := 1) rfl)) (fun _ h9 => h9) rfl (tyX6_ok 14 (by decide)) (rfl) rfl (Nat.le_of_ble_eq_true rfl) dX6_readThing_107 (fun H locs hP hD hS => ?_)
                      have hP : va_P D vwCl [(b 0, .inr (6, moF b (upd (upd (upd v 7 46) 6 0) 5 (nI (i + 1))))), ((b 9), .inl (T 0, 60, .inl (tx)))] H := hP
                      have hD : va_D A [(b 0, .inr (6, moF b (upd (upd (upd v 7 46) 6 0) 5 (nI (i + 1))))), ((b 9), .inl (T 0, 60, .inl (tx)))] := hD
                      obtain ⟨v0, ev0⟩ : ∃ z, z = upd (upd (upd v 7 46) 6 0) 5 (nI (i + 1)) := ⟨_, rfl⟩
                      rw [← ev0] at hP hD
                      have Tv0 : vT v v0 := by rw [ev0]; exact (vT_u (vT_u (vT_u (vT_rf v) _ (by decide) (by decide)) _ (by decide) (by decide)) _ (by decide) (by decide))
                      have f2v0 : v0 2 = nI len := by rw [ev0]; exact h2
                      have f5v0 : v0 5 = nI (i + 1) := by rw [ev0]; rfl
                      have f6v0 : v0 6 = 0 := by rw [ev0]; rfl
                      have f7v0 : v0 7 = 46 := by rw [ev0]; rfl
                      have hP : va_P D vwCl [(b 0, .inr (6, moF b v0)), ((b 9), .inl (T 0, 60, .inl (tx)))] H := hP
                      have hD : va_D A [(b 0, .inr (6, moF b v0)), ((b 9), .inl (T 0, 60, .inl (tx)))] := hD
                      refine lv_aload_n hx hb dX6_readThing_110 rfl (lv_at hl 0 rfl) ?_
                      refine lv_aload_n hx hb dX6_readThing_111 rfl (lv_at hl 0 rfl) ?_
                      refine va_get (D := D) (ci := 6) (v := .int (v0 7)) (C := RX6) (T := TX6) (N := 22) hx hb hts inwX6_readThing_X6 hown hK hP 0 rfl rfl 16 (by decide) (hts (.fieldLink RX6 166 "PlateSlabsModel" "letter" "I") (List.mem_of_getElem? (i := 4) rfl)) (fun _ h9 => h9) rfl dX6_readThing_112 ?_
                      refine lv_tpi (z := 46) (f7v0) ?_
                      refine lv_bipush (v := 46) hx hb dX6_readThing_115 (by decide) ?_
                      refine lv_icmp_ne (tgt := 130) hx hb dX6_readThing_117 (by decide) (fun c117 => ?_) (fun c117 => ?_)
                      · skip
                        exact absurd rfl c117
                      · skip
                        refine lv_aload_n hx hb dX6_readThing_120 rfl (lv_at hl 0 rfl) ?_
                        refine lv_iconst (v := 1) hx hb dX6_readThing_121 (by decide) ?_
                        refine lv_bipush (v := 99) hx hb dX6_readThing_122 (by decide) ?_
                        refine callMi (As := [.int 1, .int 99]) (wr := []) ⟨hx, hb, hml, hown, hts⟩ (mX6_takesNumber l T D b v0 tx (i + 1) len hlen hi1 f2v0 f5v0 (Or.inl f6v0) 1 99 (by decide) (by decide)) (cwV 2 hts gX6_readThing_X6_takesNumber rfl rfl rfl pdX6_takesNumber ⟨Nat.le_of_ble_eq_true rfl, Nat.le_of_ble_eq_true rfl⟩) hP hD hK hS hA xN_bl (fun U _ hW => XN_warm hW hX) (ci := 6) rfl rfl rfl hl.1 rfl rfl (Nat.le_of_ble_eq_true rfl) dX6_readThing_124 ⟨Nat.zero_le _, Nat.zero_le _⟩ (fun r65_ u66_ H locs eu66_ hP hD hS hkf => ?_)
                        obtain ⟨v1, rfl⟩ : ∃ z, z = u66_ := ⟨_, rfl⟩
                        have kv1 := eu66_
                        have hP : va_P D vwCl [(b 0, .inr (6, moF b v1)), ((b 9), .inl (T 0, 60, .inl (tx)))] H := hP
                        have hD : va_D A [(b 0, .inr (6, moF b v1)), ((b 9), .inl (T 0, 60, .inl (tx)))] := hD
                        have f2v1 : v1 2 = nI len := (kv1.1 2 (by decide) (by decide)).trans f2v0
                        have f7v1 : v1 7 = 46 := (kv1.1 7 (by decide) (by decide)).trans f7v0
                        have Tv1 : vT v v1 := vT_R Tv0 kv1.1
                        obtain ⟨wv1, j2v1, -, nv1, rv1, f6v1, g5v1⟩ := kv1.2.resolve_right (fun z => z.1 ⟨f6v0, y1⟩)
                        obtain ⟨-, av1, bv1⟩ := num_fn nv1
                        have f5v1 : v1 5 = nI (nJ (tch tx len) (i + 1) 99) := by rw [g5v1, bv1]
                        refine lv_tpi (z := nI (nW (tch tx len) (i + 1) 99)) (by rw [rv1, av1]) ?_
                        skip
                        refine lv_goto (tgt := 138) hx hb dX6_readThing_127 (by decide) ?_
                        refine va_put (D := D) (ci := 6) (v := .int (nI (nW (tch tx len) (i + 1) 99))) (C := RX6) (T := TX6) (N := 22) hx hb hts inwX6_readThing_X6 tyX6 tyX6_ok nmX6 hown hK hP hD hS 0 rfl rfl 17 (by decide) (hts (.fieldLink RX6 172 "PlateSlabsModel" "first" "I") (List.mem_of_getElem? (i := 6) rfl)) (fun _ h9 => h9) rfl (tyX6_ok 17 (by decide)) (rfl) rfl (Nat.le_of_ble_eq_true rfl) dX6_readThing_138 (fun H locs hP hD hS => ?_)
                        have hP : va_P D vwCl [(b 0, .inr (6, moF b (upd v1 8 (nI (nW (tch tx len) (i + 1) 99))))), ((b 9), .inl (T 0, 60, .inl (tx)))] H := hP
                        have hD : va_D A [(b 0, .inr (6, moF b (upd v1 8 (nI (nW (tch tx len) (i + 1) 99))))), ((b 9), .inl (T 0, 60, .inl (tx)))] := hD
                        obtain ⟨u1, eu1⟩ : ∃ z, z = upd v1 8 (nI (nW (tch tx len) (i + 1) 99)) := ⟨_, rfl⟩
                        rw [← eu1] at hP hD
                        have Tu1 : vT v u1 := by rw [eu1]; exact (vT_u Tv1 _ (by decide) (by decide))
                        have f2u1 : u1 2 = nI len := by rw [eu1]; exact f2v1
                        have f5u1 : u1 5 = nI (nJ (tch tx len) (i + 1) 99) := by rw [eu1]; exact f5v1
                        have f6u1 : u1 6 = 0 := by rw [eu1]; exact f6v1
                        have f7u1 : u1 7 = 46 := by rw [eu1]; exact f7v1
                        have f8u1 : u1 8 = nI (nW (tch tx len) (i + 1) 99) := by rw [eu1]; rfl
                        have hP : va_P D vwCl [(b 0, .inr (6, moF b u1)), ((b 9), .inl (T 0, 60, .inl (tx)))] H := hP
                        have hD : va_D A [(b 0, .inr (6, moF b u1)), ((b 9), .inl (T 0, 60, .inl (tx)))] := hD
                        refine lv_aload_n hx hb dX6_readThing_141 rfl (lv_at hl 0 rfl) ?_
                        refine lv_iconst (v := 0) hx hb dX6_readThing_142 (by decide) ?_
                        refine va_put (D := D) (ci := 6) (v := .int 0) (C := RX6) (T := TX6) (N := 22) hx hb hts inwX6_readThing_X6 tyX6 tyX6_ok nmX6 hown hK hP hD hS 0 rfl rfl 18 (by decide) (hts (.fieldLink RX6 175 "PlateSlabsModel" "second" "I") (List.mem_of_getElem? (i := 7) rfl)) (fun _ h9 => h9) rfl (tyX6_ok 18 (by decide)) (rfl) rfl (Nat.le_of_ble_eq_true rfl) dX6_readThing_143 (fun H locs hP hD hS => ?_)
                        have hP : va_P D vwCl [(b 0, .inr (6, moF b (upd u1 9 0))), ((b 9), .inl (T 0, 60, .inl (tx)))] H := hP
                        have hD : va_D A [(b 0, .inr (6, moF b (upd u1 9 0))), ((b 9), .inl (T 0, 60, .inl (tx)))] := hD
                        obtain ⟨u2, eu2⟩ : ∃ z, z = upd u1 9 0 := ⟨_, rfl⟩
                        rw [← eu2] at hP hD
                        have Tu2 : vT v u2 := by rw [eu2]; exact (vT_u Tu1 _ (by decide) (by decide))
                        have f2u2 : u2 2 = nI len := by rw [eu2]; exact f2u1
                        have f5u2 : u2 5 = nI (nJ (tch tx len) (i + 1) 99) := by rw [eu2]; exact f5u1
                        have f6u2 : u2 6 = 0 := by rw [eu2]; exact f6u1
                        have f7u2 : u2 7 = 46 := by rw [eu2]; exact f7u1
                        have f8u2 : u2 8 = nI (nW (tch tx len) (i + 1) 99) := by rw [eu2]; exact f8u1
                        have f9u2 : u2 9 = 0 := by rw [eu2]; rfl
                        have hP : va_P D vwCl [(b 0, .inr (6, moF b u2)), ((b 9), .inl (T 0, 60, .inl (tx)))] H := hP
                        have hD : va_D A [(b 0, .inr (6, moF b u2)), ((b 9), .inl (T 0, 60, .inl (tx)))] := hD
                        refine lv_aload_n hx hb dX6_readThing_146 rfl (lv_at hl 0 rfl) ?_
                        refine va_get (D := D) (ci := 6) (v := .int (u2 7)) (C := RX6) (T := TX6) (N := 22) hx hb hts inwX6_readThing_X6 hown hK hP 0 rfl rfl 16 (by decide) (hts (.fieldLink RX6 166 "PlateSlabsModel" "letter" "I") (List.mem_of_getElem? (i := 4) rfl)) (fun _ h9 => h9) rfl dX6_readThing_147 ?_
                        refine lv_tpi (z := 46) (f7u2) ?_
                        refine lv_bipush (v := 98) hx hb dX6_readThing_150 (by decide) ?_
                        refine lv_icmp_eq (tgt := 164) hx hb dX6_readThing_152 (by decide) (fun c152 => ?_) (fun c152 => ?_)
                        · skip
                          exact absurd c152 (by decide)
                        · skip
                          refine lv_aload_n hx hb dX6_readThing_155 rfl (lv_at hl 0 rfl) ?_
                          refine va_get (D := D) (ci := 6) (v := .int (u2 7)) (C := RX6) (T := TX6) (N := 22) hx hb hts inwX6_readThing_X6 hown hK hP 0 rfl rfl 16 (by decide) (hts (.fieldLink RX6 166 "PlateSlabsModel" "letter" "I") (List.mem_of_getElem? (i := 4) rfl)) (fun _ h9 => h9) rfl dX6_readThing_156 ?_
                          refine lv_tpi (z := 46) (f7u2) ?_
                          refine lv_bipush (v := 100) hx hb dX6_readThing_159 (by decide) ?_
                          refine lv_icmp_ne (tgt := 201) hx hb dX6_readThing_161 (by decide) (fun c161 => ?_) (fun c161 => ?_)
                          · skip
                            refine lv_aload_n hx hb dX6_readThing_201 rfl (lv_at hl 0 rfl) ?_
                            refine va_get (D := D) (ci := 6) (v := .int (u2 7)) (C := RX6) (T := TX6) (N := 22) hx hb hts inwX6_readThing_X6 hown hK hP 0 rfl rfl 16 (by decide) (hts (.fieldLink RX6 166 "PlateSlabsModel" "letter" "I") (List.mem_of_getElem? (i := 4) rfl)) (fun _ h9 => h9) rfl dX6_readThing_202 ?_
                            refine lv_tpi (z := 46) (f7u2) ?_
                            refine lv_bipush (v := 99) hx hb dX6_readThing_205 (by decide) ?_
                            refine lv_icmp_ne (tgt := 222) hx hb dX6_readThing_207 (by decide) (fun c207 => ?_) (fun c207 => ?_)
                            · skip
                              have hL := th_n1 (c := tch tx len) (i := i) ech.symm y1
                              exact hret _ _ u2 _ _ dX6_readThing_222 hS hP hD ⟨Tu2, by rw [hL.2.2.2]; exact f5u2, Or.inl ⟨hL.1, f6u2, by rw [← ech]; exact f7u2, by rw [hL.2.1]; exact f8u2, by rw [hL.2.2.1]; exact f9u2⟩⟩
                            · skip
                              exact absurd c207 (by decide)
                          · skip
                            exact absurd c161 (by decide)
                    · skip
                      exact absurd rfl c98
                  · skip
                    exact absurd rfl c78
      · skip
        have hP : va_P D vwCl [(b 0, .inr (6, moF b (upd v 7 46))), ((b 9), .inl (T 0, 60, .inl (tx)))] H := hP
        have hD : va_D A [(b 0, .inr (6, moF b (upd v 7 46))), ((b 9), .inl (T 0, 60, .inl (tx)))] := hD
        refine lv_aload_n hx hb dX6_readThing_28 rfl (lv_at hl 0 rfl) ?_
        refine lv_aload_n hx hb dX6_readThing_29 rfl (lv_at hl 0 rfl) ?_
        refine va_get (D := D) (ci := 6) (v := .int (v 6)) (C := RX6) (T := TX6) (N := 22) hx hb hts inwX6_readThing_X6 hown hK hP 0 rfl rfl 15 (by decide) (hts (.fieldLink RX6 152 "PlateSlabsModel" "isWrong" "Z") (List.mem_of_getElem? (i := 5) rfl)) (fun _ h9 => h9) rfl dX6_readThing_30 ?_
        refine lv_if_ne (tgt := 81) hx hb dX6_readThing_33 (by decide) (fun c33 => ?_) (fun c33 => ?_)
        · skip
          exact absurd h6 c33
        · skip
          refine lv_aload_n hx hb dX6_readThing_36 rfl (lv_at hl 0 rfl) ?_
          refine va_get (D := D) (ci := 6) (v := .int 46) (C := RX6) (T := TX6) (N := 22) hx hb hts inwX6_readThing_X6 hown hK hP 0 rfl rfl 16 (by decide) (hts (.fieldLink RX6 166 "PlateSlabsModel" "letter" "I") (List.mem_of_getElem? (i := 4) rfl)) (fun _ h9 => h9) rfl dX6_readThing_37 ?_
          refine lv_bipush (v := 98) hx hb dX6_readThing_40 (by decide) ?_
          refine lv_icmp_eq (tgt := 85) hx hb dX6_readThing_42 (by decide) (fun c42 => ?_) (fun c42 => ?_)
          · skip
            exact absurd c42 (by decide)
          · skip
            refine lv_aload_n hx hb dX6_readThing_45 rfl (lv_at hl 0 rfl) ?_
            refine va_get (D := D) (ci := 6) (v := .int 46) (C := RX6) (T := TX6) (N := 22) hx hb hts inwX6_readThing_X6 hown hK hP 0 rfl rfl 16 (by decide) (hts (.fieldLink RX6 166 "PlateSlabsModel" "letter" "I") (List.mem_of_getElem? (i := 4) rfl)) (fun _ h9 => h9) rfl dX6_readThing_46 ?_
            refine lv_bipush (v := 111) hx hb dX6_readThing_49 (by decide) ?_
            refine lv_icmp_eq (tgt := 85) hx hb dX6_readThing_51 (by decide) (fun c51 => ?_) (fun c51 => ?_)
            · skip
              exact absurd c51 (by decide)
            · skip
              refine lv_aload_n hx hb dX6_readThing_54 rfl (lv_at hl 0 rfl) ?_
              refine va_get (D := D) (ci := 6) (v := .int 46) (C := RX6) (T := TX6) (N := 22) hx hb hts inwX6_readThing_X6 hown hK hP 0 rfl rfl 16 (by decide) (hts (.fieldLink RX6 166 "PlateSlabsModel" "letter" "I") (List.mem_of_getElem? (i := 4) rfl)) (fun _ h9 => h9) rfl dX6_readThing_55 ?_
              refine lv_bipush (v := 100) hx hb dX6_readThing_58 (by decide) ?_
              refine lv_icmp_eq (tgt := 85) hx hb dX6_readThing_60 (by decide) (fun c60 => ?_) (fun c60 => ?_)
              · skip
                exact absurd c60 (by decide)
              · skip
                refine lv_aload_n hx hb dX6_readThing_63 rfl (lv_at hl 0 rfl) ?_
                refine va_get (D := D) (ci := 6) (v := .int 46) (C := RX6) (T := TX6) (N := 22) hx hb hts inwX6_readThing_X6 hown hK hP 0 rfl rfl 16 (by decide) (hts (.fieldLink RX6 166 "PlateSlabsModel" "letter" "I") (List.mem_of_getElem? (i := 4) rfl)) (fun _ h9 => h9) rfl dX6_readThing_64 ?_
                refine lv_bipush (v := 99) hx hb dX6_readThing_67 (by decide) ?_
                refine lv_icmp_eq (tgt := 85) hx hb dX6_readThing_69 (by decide) (fun c69 => ?_) (fun c69 => ?_)
                · skip
                  exact absurd c69 (by decide)
                · skip
                  refine lv_aload_n hx hb dX6_readThing_72 rfl (lv_at hl 0 rfl) ?_
                  refine va_get (D := D) (ci := 6) (v := .int 46) (C := RX6) (T := TX6) (N := 22) hx hb hts inwX6_readThing_X6 hown hK hP 0 rfl rfl 16 (by decide) (hts (.fieldLink RX6 166 "PlateSlabsModel" "letter" "I") (List.mem_of_getElem? (i := 4) rfl)) (fun _ h9 => h9) rfl dX6_readThing_73 ?_
                  refine lv_bipush (v := 46) hx hb dX6_readThing_76 (by decide) ?_
                  refine lv_icmp_eq (tgt := 85) hx hb dX6_readThing_78 (by decide) (fun c78 => ?_) (fun c78 => ?_)
                  · skip
                    refine lv_iconst (v := 0) hx hb dX6_readThing_85 (by decide) ?_
                    refine va_put (D := D) (ci := 6) (v := .int 0) (C := RX6) (T := TX6) (N := 22) hx hb hts inwX6_readThing_X6 tyX6 tyX6_ok nmX6 hown hK hP hD hS 0 rfl rfl 15 (by decide) (hts (.fieldLink RX6 152 "PlateSlabsModel" "isWrong" "Z") (List.mem_of_getElem? (i := 5) rfl)) (fun _ h9 => h9) rfl (tyX6_ok 15 (by decide)) (rfl) rfl (Nat.le_of_ble_eq_true rfl) dX6_readThing_86 (fun H locs hP hD hS => ?_)
                    have hP : va_P D vwCl [(b 0, .inr (6, moF b (upd (upd v 7 46) 6 0))), ((b 9), .inl (T 0, 60, .inl (tx)))] H := hP
                    have hD : va_D A [(b 0, .inr (6, moF b (upd (upd v 7 46) 6 0))), ((b 9), .inl (T 0, 60, .inl (tx)))] := hD
                    refine lv_aload_n hx hb dX6_readThing_89 rfl (lv_at hl 0 rfl) ?_
                    refine lv_dup hx hb dX6_readThing_90 rfl ?_
                    refine va_get (D := D) (ci := 6) (v := .int (v 5)) (C := RX6) (T := TX6) (N := 22) hx hb hts inwX6_readThing_X6 hown hK hP 0 rfl rfl 14 (by decide) (hts (.fieldLink RX6 156 "PlateSlabsModel" "position" "I") (List.mem_of_getElem? (i := 1) rfl)) (fun _ h9 => h9) rfl dX6_readThing_91 ?_
                    refine lv_aload_n hx hb dX6_readThing_94 rfl (lv_at hl 0 rfl) ?_
                    refine va_get (D := D) (ci := 6) (v := .int 0) (C := RX6) (T := TX6) (N := 22) hx hb hts inwX6_readThing_X6 hown hK hP 0 rfl rfl 15 (by decide) (hts (.fieldLink RX6 152 "PlateSlabsModel" "isWrong" "Z") (List.mem_of_getElem? (i := 5) rfl)) (fun _ h9 => h9) rfl dX6_readThing_95 ?_
                    refine lv_if_eq (tgt := 105) hx hb dX6_readThing_98 (by decide) (fun c98 => ?_) (fun c98 => ?_)
                    · skip
                      refine lv_iconst (v := 1) hx hb dX6_readThing_105 (by decide) ?_
                      refine lv_iadd hx hb dX6_readThing_106 ?_
                      refine lv_tpi (z := nI (i + 1)) (by rw [h5]; exact nI_1 i) ?_
                      refine va_put (D := D) (ci := 6) (v := .int (nI (i + 1))) (C := RX6) (T := TX6) (N := 22) hx hb hts inwX6_readThing_X6 tyX6 tyX6_ok nmX6 hown hK hP hD hS 0 rfl rfl 14 (by decide) (hts (.fieldLink RX6 156 "PlateSlabsModel" "position" "I") (List.mem_of_getElem? (i := 1) rfl)) (fun _ h9 => h9) rfl (tyX6_ok 14 (by decide)) (rfl) rfl (Nat.le_of_ble_eq_true rfl) dX6_readThing_107 (fun H locs hP hD hS => ?_)
                      have hP : va_P D vwCl [(b 0, .inr (6, moF b (upd (upd (upd v 7 46) 6 0) 5 (nI (i + 1))))), ((b 9), .inl (T 0, 60, .inl (tx)))] H := hP
                      have hD : va_D A [(b 0, .inr (6, moF b (upd (upd (upd v 7 46) 6 0) 5 (nI (i + 1))))), ((b 9), .inl (T 0, 60, .inl (tx)))] := hD
                      obtain ⟨v0, ev0⟩ : ∃ z, z = upd (upd (upd v 7 46) 6 0) 5 (nI (i + 1)) := ⟨_, rfl⟩
                      rw [← ev0] at hP hD
                      have Tv0 : vT v v0 := by rw [ev0]; exact (vT_u (vT_u (vT_u (vT_rf v) _ (by decide) (by decide)) _ (by decide) (by decide)) _ (by decide) (by decide))
                      have f2v0 : v0 2 = nI len := by rw [ev0]; exact h2
                      have f5v0 : v0 5 = nI (i + 1) := by rw [ev0]; rfl
                      have f6v0 : v0 6 = 0 := by rw [ev0]; rfl
                      have f7v0 : v0 7 = 46 := by rw [ev0]; rfl
                      have hP : va_P D vwCl [(b 0, .inr (6, moF b v0)), ((b 9), .inl (T 0, 60, .inl (tx)))] H := hP
                      have hD : va_D A [(b 0, .inr (6, moF b v0)), ((b 9), .inl (T 0, 60, .inl (tx)))] := hD
                      refine lv_aload_n hx hb dX6_readThing_110 rfl (lv_at hl 0 rfl) ?_
                      refine lv_aload_n hx hb dX6_readThing_111 rfl (lv_at hl 0 rfl) ?_
                      refine va_get (D := D) (ci := 6) (v := .int (v0 7)) (C := RX6) (T := TX6) (N := 22) hx hb hts inwX6_readThing_X6 hown hK hP 0 rfl rfl 16 (by decide) (hts (.fieldLink RX6 166 "PlateSlabsModel" "letter" "I") (List.mem_of_getElem? (i := 4) rfl)) (fun _ h9 => h9) rfl dX6_readThing_112 ?_
                      refine lv_tpi (z := 46) (f7v0) ?_
                      refine lv_bipush (v := 46) hx hb dX6_readThing_115 (by decide) ?_
                      refine lv_icmp_ne (tgt := 130) hx hb dX6_readThing_117 (by decide) (fun c117 => ?_) (fun c117 => ?_)
                      · skip
                        exact absurd rfl c117
                      · skip
                        refine lv_aload_n hx hb dX6_readThing_120 rfl (lv_at hl 0 rfl) ?_
                        refine lv_iconst (v := 1) hx hb dX6_readThing_121 (by decide) ?_
                        refine lv_bipush (v := 99) hx hb dX6_readThing_122 (by decide) ?_
                        refine callMi (As := [.int 1, .int 99]) (wr := []) ⟨hx, hb, hml, hown, hts⟩ (mX6_takesNumber l T D b v0 tx (i + 1) len hlen hi1 f2v0 f5v0 (Or.inl f6v0) 1 99 (by decide) (by decide)) (cwV 2 hts gX6_readThing_X6_takesNumber rfl rfl rfl pdX6_takesNumber ⟨Nat.le_of_ble_eq_true rfl, Nat.le_of_ble_eq_true rfl⟩) hP hD hK hS hA xN_bl (fun U _ hW => XN_warm hW hX) (ci := 6) rfl rfl rfl hl.1 rfl rfl (Nat.le_of_ble_eq_true rfl) dX6_readThing_124 ⟨Nat.zero_le _, Nat.zero_le _⟩ (fun r67_ u68_ H locs eu68_ hP hD hS hkf => ?_)
                        obtain ⟨v1, rfl⟩ : ∃ z, z = u68_ := ⟨_, rfl⟩
                        have kv1 := eu68_
                        have hP : va_P D vwCl [(b 0, .inr (6, moF b v1)), ((b 9), .inl (T 0, 60, .inl (tx)))] H := hP
                        have hD : va_D A [(b 0, .inr (6, moF b v1)), ((b 9), .inl (T 0, 60, .inl (tx)))] := hD
                        have f2v1 : v1 2 = nI len := (kv1.1 2 (by decide) (by decide)).trans f2v0
                        have f7v1 : v1 7 = 46 := (kv1.1 7 (by decide) (by decide)).trans f7v0
                        have Tv1 : vT v v1 := vT_R Tv0 kv1.1
                        obtain ⟨-, f6v1, f5v1⟩ := kv1.2.resolve_left (fun ⟨_, _, _, z, _⟩ => y1 (num_fn z).1)
                        skip
                        refine lv_goto (tgt := 138) hx hb dX6_readThing_127 (by decide) ?_
                        refine va_put (D := D) (ci := 6) (v := .int r67_) (C := RX6) (T := TX6) (N := 22) hx hb hts inwX6_readThing_X6 tyX6 tyX6_ok nmX6 hown hK hP hD hS 0 rfl rfl 17 (by decide) (hts (.fieldLink RX6 172 "PlateSlabsModel" "first" "I") (List.mem_of_getElem? (i := 6) rfl)) (fun _ h9 => h9) rfl (tyX6_ok 17 (by decide)) (rfl) rfl (Nat.le_of_ble_eq_true rfl) dX6_readThing_138 (fun H locs hP hD hS => ?_)
                        have hP : va_P D vwCl [(b 0, .inr (6, moF b (upd v1 8 r67_))), ((b 9), .inl (T 0, 60, .inl (tx)))] H := hP
                        have hD : va_D A [(b 0, .inr (6, moF b (upd v1 8 r67_))), ((b 9), .inl (T 0, 60, .inl (tx)))] := hD
                        obtain ⟨u1, eu1⟩ : ∃ z, z = upd v1 8 r67_ := ⟨_, rfl⟩
                        rw [← eu1] at hP hD
                        have Tu1 : vT v u1 := by rw [eu1]; exact (vT_u Tv1 _ (by decide) (by decide))
                        have f2u1 : u1 2 = nI len := by rw [eu1]; exact f2v1
                        have f5u1 : u1 5 = nI (i + 1) := by rw [eu1]; exact f5v1
                        have f6u1 : u1 6 = 1 := by rw [eu1]; exact f6v1
                        have f7u1 : u1 7 = 46 := by rw [eu1]; exact f7v1
                        have hP : va_P D vwCl [(b 0, .inr (6, moF b u1)), ((b 9), .inl (T 0, 60, .inl (tx)))] H := hP
                        have hD : va_D A [(b 0, .inr (6, moF b u1)), ((b 9), .inl (T 0, 60, .inl (tx)))] := hD
                        refine lv_aload_n hx hb dX6_readThing_141 rfl (lv_at hl 0 rfl) ?_
                        refine lv_iconst (v := 0) hx hb dX6_readThing_142 (by decide) ?_
                        refine va_put (D := D) (ci := 6) (v := .int 0) (C := RX6) (T := TX6) (N := 22) hx hb hts inwX6_readThing_X6 tyX6 tyX6_ok nmX6 hown hK hP hD hS 0 rfl rfl 18 (by decide) (hts (.fieldLink RX6 175 "PlateSlabsModel" "second" "I") (List.mem_of_getElem? (i := 7) rfl)) (fun _ h9 => h9) rfl (tyX6_ok 18 (by decide)) (rfl) rfl (Nat.le_of_ble_eq_true rfl) dX6_readThing_143 (fun H locs hP hD hS => ?_)
                        have hP : va_P D vwCl [(b 0, .inr (6, moF b (upd u1 9 0))), ((b 9), .inl (T 0, 60, .inl (tx)))] H := hP
                        have hD : va_D A [(b 0, .inr (6, moF b (upd u1 9 0))), ((b 9), .inl (T 0, 60, .inl (tx)))] := hD
                        obtain ⟨u2, eu2⟩ : ∃ z, z = upd u1 9 0 := ⟨_, rfl⟩
                        rw [← eu2] at hP hD
                        have Tu2 : vT v u2 := by rw [eu2]; exact (vT_u Tu1 _ (by decide) (by decide))
                        have f2u2 : u2 2 = nI len := by rw [eu2]; exact f2u1
                        have f5u2 : u2 5 = nI (i + 1) := by rw [eu2]; exact f5u1
                        have f6u2 : u2 6 = 1 := by rw [eu2]; exact f6u1
                        have f7u2 : u2 7 = 46 := by rw [eu2]; exact f7u1
                        have hP : va_P D vwCl [(b 0, .inr (6, moF b u2)), ((b 9), .inl (T 0, 60, .inl (tx)))] H := hP
                        have hD : va_D A [(b 0, .inr (6, moF b u2)), ((b 9), .inl (T 0, 60, .inl (tx)))] := hD
                        refine lv_aload_n hx hb dX6_readThing_146 rfl (lv_at hl 0 rfl) ?_
                        refine va_get (D := D) (ci := 6) (v := .int (u2 7)) (C := RX6) (T := TX6) (N := 22) hx hb hts inwX6_readThing_X6 hown hK hP 0 rfl rfl 16 (by decide) (hts (.fieldLink RX6 166 "PlateSlabsModel" "letter" "I") (List.mem_of_getElem? (i := 4) rfl)) (fun _ h9 => h9) rfl dX6_readThing_147 ?_
                        refine lv_tpi (z := 46) (f7u2) ?_
                        refine lv_bipush (v := 98) hx hb dX6_readThing_150 (by decide) ?_
                        refine lv_icmp_eq (tgt := 164) hx hb dX6_readThing_152 (by decide) (fun c152 => ?_) (fun c152 => ?_)
                        · skip
                          exact absurd c152 (by decide)
                        · skip
                          refine lv_aload_n hx hb dX6_readThing_155 rfl (lv_at hl 0 rfl) ?_
                          refine va_get (D := D) (ci := 6) (v := .int (u2 7)) (C := RX6) (T := TX6) (N := 22) hx hb hts inwX6_readThing_X6 hown hK hP 0 rfl rfl 16 (by decide) (hts (.fieldLink RX6 166 "PlateSlabsModel" "letter" "I") (List.mem_of_getElem? (i := 4) rfl)) (fun _ h9 => h9) rfl dX6_readThing_156 ?_
                          refine lv_tpi (z := 46) (f7u2) ?_
                          refine lv_bipush (v := 100) hx hb dX6_readThing_159 (by decide) ?_
                          refine lv_icmp_ne (tgt := 201) hx hb dX6_readThing_161 (by decide) (fun c161 => ?_) (fun c161 => ?_)
                          · skip
                            refine lv_aload_n hx hb dX6_readThing_201 rfl (lv_at hl 0 rfl) ?_
                            refine va_get (D := D) (ci := 6) (v := .int (u2 7)) (C := RX6) (T := TX6) (N := 22) hx hb hts inwX6_readThing_X6 hown hK hP 0 rfl rfl 16 (by decide) (hts (.fieldLink RX6 166 "PlateSlabsModel" "letter" "I") (List.mem_of_getElem? (i := 4) rfl)) (fun _ h9 => h9) rfl dX6_readThing_202 ?_
                            refine lv_tpi (z := 46) (f7u2) ?_
                            refine lv_bipush (v := 99) hx hb dX6_readThing_205 (by decide) ?_
                            refine lv_icmp_ne (tgt := 222) hx hb dX6_readThing_207 (by decide) (fun c207 => ?_) (fun c207 => ?_)
                            · skip
                              have hL := th_n0 (c := tch tx len) (i := i) ech.symm y1
                              exact hret _ _ u2 _ _ dX6_readThing_222 hS hP hD ⟨Tu2, by rw [hL.2]; exact f5u2, Or.inr ⟨hL.1, f6u2⟩⟩
                            · skip
                              exact absurd c207 (by decide)
                          · skip
                            exact absurd c161 (by decide)
                    · skip
                      exact absurd rfl c98
                  · skip
                    exact absurd rfl c78
    · skip
      have hP : va_P D vwCl [(b 0, .inr (6, moF b (upd v 7 ch))), ((b 9), .inl (T 0, 60, .inl (tx)))] H := hP
      have hD : va_D A [(b 0, .inr (6, moF b (upd v 7 ch))), ((b 9), .inl (T 0, 60, .inl (tx)))] := hD
      refine lv_aload_n hx hb dX6_readThing_28 rfl (lv_at hl 0 rfl) ?_
      refine lv_aload_n hx hb dX6_readThing_29 rfl (lv_at hl 0 rfl) ?_
      refine va_get (D := D) (ci := 6) (v := .int (v 6)) (C := RX6) (T := TX6) (N := 22) hx hb hts inwX6_readThing_X6 hown hK hP 0 rfl rfl 15 (by decide) (hts (.fieldLink RX6 152 "PlateSlabsModel" "isWrong" "Z") (List.mem_of_getElem? (i := 5) rfl)) (fun _ h9 => h9) rfl dX6_readThing_30 ?_
      refine lv_if_ne (tgt := 81) hx hb dX6_readThing_33 (by decide) (fun c33 => ?_) (fun c33 => ?_)
      · skip
        exact absurd h6 c33
      · skip
        refine lv_aload_n hx hb dX6_readThing_36 rfl (lv_at hl 0 rfl) ?_
        refine va_get (D := D) (ci := 6) (v := .int ch) (C := RX6) (T := TX6) (N := 22) hx hb hts inwX6_readThing_X6 hown hK hP 0 rfl rfl 16 (by decide) (hts (.fieldLink RX6 166 "PlateSlabsModel" "letter" "I") (List.mem_of_getElem? (i := 4) rfl)) (fun _ h9 => h9) rfl dX6_readThing_37 ?_
        refine lv_bipush (v := 98) hx hb dX6_readThing_40 (by decide) ?_
        refine lv_icmp_eq (tgt := 85) hx hb dX6_readThing_42 (by decide) (fun c42 => ?_) (fun c42 => ?_)
        · skip
          exact absurd c42 hZ.1
        · skip
          refine lv_aload_n hx hb dX6_readThing_45 rfl (lv_at hl 0 rfl) ?_
          refine va_get (D := D) (ci := 6) (v := .int ch) (C := RX6) (T := TX6) (N := 22) hx hb hts inwX6_readThing_X6 hown hK hP 0 rfl rfl 16 (by decide) (hts (.fieldLink RX6 166 "PlateSlabsModel" "letter" "I") (List.mem_of_getElem? (i := 4) rfl)) (fun _ h9 => h9) rfl dX6_readThing_46 ?_
          refine lv_bipush (v := 111) hx hb dX6_readThing_49 (by decide) ?_
          refine lv_icmp_eq (tgt := 85) hx hb dX6_readThing_51 (by decide) (fun c51 => ?_) (fun c51 => ?_)
          · skip
            exact absurd c51 hZ.2.1
          · skip
            refine lv_aload_n hx hb dX6_readThing_54 rfl (lv_at hl 0 rfl) ?_
            refine va_get (D := D) (ci := 6) (v := .int ch) (C := RX6) (T := TX6) (N := 22) hx hb hts inwX6_readThing_X6 hown hK hP 0 rfl rfl 16 (by decide) (hts (.fieldLink RX6 166 "PlateSlabsModel" "letter" "I") (List.mem_of_getElem? (i := 4) rfl)) (fun _ h9 => h9) rfl dX6_readThing_55 ?_
            refine lv_bipush (v := 100) hx hb dX6_readThing_58 (by decide) ?_
            refine lv_icmp_eq (tgt := 85) hx hb dX6_readThing_60 (by decide) (fun c60 => ?_) (fun c60 => ?_)
            · skip
              exact absurd c60 hZ.2.2.1
            · skip
              refine lv_aload_n hx hb dX6_readThing_63 rfl (lv_at hl 0 rfl) ?_
              refine va_get (D := D) (ci := 6) (v := .int ch) (C := RX6) (T := TX6) (N := 22) hx hb hts inwX6_readThing_X6 hown hK hP 0 rfl rfl 16 (by decide) (hts (.fieldLink RX6 166 "PlateSlabsModel" "letter" "I") (List.mem_of_getElem? (i := 4) rfl)) (fun _ h9 => h9) rfl dX6_readThing_64 ?_
              refine lv_bipush (v := 99) hx hb dX6_readThing_67 (by decide) ?_
              refine lv_icmp_eq (tgt := 85) hx hb dX6_readThing_69 (by decide) (fun c69 => ?_) (fun c69 => ?_)
              · skip
                exact absurd c69 hZ.2.2.2.1
              · skip
                refine lv_aload_n hx hb dX6_readThing_72 rfl (lv_at hl 0 rfl) ?_
                refine va_get (D := D) (ci := 6) (v := .int ch) (C := RX6) (T := TX6) (N := 22) hx hb hts inwX6_readThing_X6 hown hK hP 0 rfl rfl 16 (by decide) (hts (.fieldLink RX6 166 "PlateSlabsModel" "letter" "I") (List.mem_of_getElem? (i := 4) rfl)) (fun _ h9 => h9) rfl dX6_readThing_73 ?_
                refine lv_bipush (v := 46) hx hb dX6_readThing_76 (by decide) ?_
                refine lv_icmp_eq (tgt := 85) hx hb dX6_readThing_78 (by decide) (fun c78 => ?_) (fun c78 => ?_)
                · skip
                  exact absurd c78 hZ.2.2.2.2
                · skip
                  refine lv_iconst (v := 1) hx hb dX6_readThing_81 (by decide) ?_
                  refine lv_goto (tgt := 86) hx hb dX6_readThing_82 (by decide) ?_
                  refine va_put (D := D) (ci := 6) (v := .int 1) (C := RX6) (T := TX6) (N := 22) hx hb hts inwX6_readThing_X6 tyX6 tyX6_ok nmX6 hown hK hP hD hS 0 rfl rfl 15 (by decide) (hts (.fieldLink RX6 152 "PlateSlabsModel" "isWrong" "Z") (List.mem_of_getElem? (i := 5) rfl)) (fun _ h9 => h9) rfl (tyX6_ok 15 (by decide)) (rfl) rfl (Nat.le_of_ble_eq_true rfl) dX6_readThing_86 (fun H locs hP hD hS => ?_)
                  have hP : va_P D vwCl [(b 0, .inr (6, moF b (upd (upd v 7 ch) 6 1))), ((b 9), .inl (T 0, 60, .inl (tx)))] H := hP
                  have hD : va_D A [(b 0, .inr (6, moF b (upd (upd v 7 ch) 6 1))), ((b 9), .inl (T 0, 60, .inl (tx)))] := hD
                  refine lv_aload_n hx hb dX6_readThing_89 rfl (lv_at hl 0 rfl) ?_
                  refine lv_dup hx hb dX6_readThing_90 rfl ?_
                  refine va_get (D := D) (ci := 6) (v := .int (v 5)) (C := RX6) (T := TX6) (N := 22) hx hb hts inwX6_readThing_X6 hown hK hP 0 rfl rfl 14 (by decide) (hts (.fieldLink RX6 156 "PlateSlabsModel" "position" "I") (List.mem_of_getElem? (i := 1) rfl)) (fun _ h9 => h9) rfl dX6_readThing_91 ?_
                  refine lv_aload_n hx hb dX6_readThing_94 rfl (lv_at hl 0 rfl) ?_
                  refine va_get (D := D) (ci := 6) (v := .int 1) (C := RX6) (T := TX6) (N := 22) hx hb hts inwX6_readThing_X6 hown hK hP 0 rfl rfl 15 (by decide) (hts (.fieldLink RX6 152 "PlateSlabsModel" "isWrong" "Z") (List.mem_of_getElem? (i := 5) rfl)) (fun _ h9 => h9) rfl dX6_readThing_95 ?_
                  refine lv_if_eq (tgt := 105) hx hb dX6_readThing_98 (by decide) (fun c98 => ?_) (fun c98 => ?_)
                  · skip
                    exact absurd c98 (by decide)
                  · skip
                    refine lv_iconst (v := 0) hx hb dX6_readThing_101 (by decide) ?_
                    refine lv_goto (tgt := 106) hx hb dX6_readThing_102 (by decide) ?_
                    refine lv_iadd hx hb dX6_readThing_106 ?_
                    refine lv_tpi (z := nI i) (by rw [h5, Int32.add_zero]) ?_
                    refine va_put (D := D) (ci := 6) (v := .int (nI i)) (C := RX6) (T := TX6) (N := 22) hx hb hts inwX6_readThing_X6 tyX6 tyX6_ok nmX6 hown hK hP hD hS 0 rfl rfl 14 (by decide) (hts (.fieldLink RX6 156 "PlateSlabsModel" "position" "I") (List.mem_of_getElem? (i := 1) rfl)) (fun _ h9 => h9) rfl (tyX6_ok 14 (by decide)) (rfl) rfl (Nat.le_of_ble_eq_true rfl) dX6_readThing_107 (fun H locs hP hD hS => ?_)
                    have hP : va_P D vwCl [(b 0, .inr (6, moF b (upd (upd (upd v 7 ch) 6 1) 5 (nI i)))), ((b 9), .inl (T 0, 60, .inl (tx)))] H := hP
                    have hD : va_D A [(b 0, .inr (6, moF b (upd (upd (upd v 7 ch) 6 1) 5 (nI i)))), ((b 9), .inl (T 0, 60, .inl (tx)))] := hD
                    obtain ⟨v0, ev0⟩ : ∃ z, z = upd (upd (upd v 7 ch) 6 1) 5 (nI i) := ⟨_, rfl⟩
                    rw [← ev0] at hP hD
                    have Tv0 : vT v v0 := by rw [ev0]; exact (vT_u (vT_u (vT_u (vT_rf v) _ (by decide) (by decide)) _ (by decide) (by decide)) _ (by decide) (by decide))
                    have f2v0 : v0 2 = nI len := by rw [ev0]; exact h2
                    have f5v0 : v0 5 = nI i := by rw [ev0]; rfl
                    have f6v0 : v0 6 = 1 := by rw [ev0]; rfl
                    have f7v0 : v0 7 = ch := by rw [ev0]; rfl
                    have hP : va_P D vwCl [(b 0, .inr (6, moF b v0)), ((b 9), .inl (T 0, 60, .inl (tx)))] H := hP
                    have hD : va_D A [(b 0, .inr (6, moF b v0)), ((b 9), .inl (T 0, 60, .inl (tx)))] := hD
                    refine lv_aload_n hx hb dX6_readThing_110 rfl (lv_at hl 0 rfl) ?_
                    refine lv_aload_n hx hb dX6_readThing_111 rfl (lv_at hl 0 rfl) ?_
                    refine va_get (D := D) (ci := 6) (v := .int (v0 7)) (C := RX6) (T := TX6) (N := 22) hx hb hts inwX6_readThing_X6 hown hK hP 0 rfl rfl 16 (by decide) (hts (.fieldLink RX6 166 "PlateSlabsModel" "letter" "I") (List.mem_of_getElem? (i := 4) rfl)) (fun _ h9 => h9) rfl dX6_readThing_112 ?_
                    refine lv_tpi (z := ch) (f7v0) ?_
                    refine lv_bipush (v := 46) hx hb dX6_readThing_115 (by decide) ?_
                    refine lv_icmp_ne (tgt := 130) hx hb dX6_readThing_117 (by decide) (fun c117 => ?_) (fun c117 => ?_)
                    · skip
                      refine lv_aload_n hx hb dX6_readThing_130 rfl (lv_at hl 0 rfl) ?_
                      refine lv_bipush (v := 48) hx hb dX6_readThing_131 (by decide) ?_
                      refine lv_bipush (v := 51) hx hb dX6_readThing_133 (by decide) ?_
                      refine callMi (As := [.int 48, .int 51]) (wr := []) ⟨hx, hb, hml, hown, hts⟩ (mX6_takes l T D b v0 tx i len hlen hil f2v0 f5v0 (Or.inr f6v0) 48 51) (cwV 2 hts gX6_readThing_X6_takes rfl rfl rfl pdX6_takes ⟨Nat.le_of_ble_eq_true rfl, Nat.le_of_ble_eq_true rfl⟩) hP hD hK hS hA xN_bl (fun U _ hW => XN_warm hW hX) (ci := 6) rfl rfl rfl hl.1 rfl rfl (Nat.le_of_ble_eq_true rfl) dX6_readThing_135 ⟨Nat.zero_le _, Nat.zero_le _⟩ (fun r69_ u70_ H locs eu70_ hP hD hS hkf => ?_)
                      obtain ⟨v1, rfl⟩ : ∃ z, z = u70_ := ⟨_, rfl⟩
                      obtain ⟨jv1, kv1⟩ := eu70_
                      have hP : va_P D vwCl [(b 0, .inr (6, moF b v1)), ((b 9), .inl (T 0, 60, .inl (tx)))] H := hP
                      have hD : va_D A [(b 0, .inr (6, moF b v1)), ((b 9), .inl (T 0, 60, .inl (tx)))] := hD
                      have f2v1 : v1 2 = nI len := (kv1.1 2 (by decide) (by decide)).trans f2v0
                      have f7v1 : v1 7 = ch := (kv1.1 7 (by decide) (by decide)).trans f7v0
                      have Tv1 : vT v v1 := vT_R Tv0 kv1.1
                      obtain ⟨-, f6v1, f5v1⟩ := kv1.2.resolve_left (fun ⟨⟨z, _⟩, _⟩ => absurd (f6v0.symm.trans z) (by decide))
                      skip
                      refine va_put (D := D) (ci := 6) (v := .int r69_) (C := RX6) (T := TX6) (N := 22) hx hb hts inwX6_readThing_X6 tyX6 tyX6_ok nmX6 hown hK hP hD hS 0 rfl rfl 17 (by decide) (hts (.fieldLink RX6 172 "PlateSlabsModel" "first" "I") (List.mem_of_getElem? (i := 6) rfl)) (fun _ h9 => h9) rfl (tyX6_ok 17 (by decide)) (rfl) rfl (Nat.le_of_ble_eq_true rfl) dX6_readThing_138 (fun H locs hP hD hS => ?_)
                      have hP : va_P D vwCl [(b 0, .inr (6, moF b (upd v1 8 r69_))), ((b 9), .inl (T 0, 60, .inl (tx)))] H := hP
                      have hD : va_D A [(b 0, .inr (6, moF b (upd v1 8 r69_))), ((b 9), .inl (T 0, 60, .inl (tx)))] := hD
                      obtain ⟨u1, eu1⟩ : ∃ z, z = upd v1 8 r69_ := ⟨_, rfl⟩
                      rw [← eu1] at hP hD
                      have Tu1 : vT v u1 := by rw [eu1]; exact (vT_u Tv1 _ (by decide) (by decide))
                      have f2u1 : u1 2 = nI len := by rw [eu1]; exact f2v1
                      have f5u1 : u1 5 = nI i := by rw [eu1]; exact f5v1
                      have f6u1 : u1 6 = 1 := by rw [eu1]; exact f6v1
                      have f7u1 : u1 7 = ch := by rw [eu1]; exact f7v1
                      have hP : va_P D vwCl [(b 0, .inr (6, moF b u1)), ((b 9), .inl (T 0, 60, .inl (tx)))] H := hP
                      have hD : va_D A [(b 0, .inr (6, moF b u1)), ((b 9), .inl (T 0, 60, .inl (tx)))] := hD
                      refine lv_aload_n hx hb dX6_readThing_141 rfl (lv_at hl 0 rfl) ?_
                      refine lv_iconst (v := 0) hx hb dX6_readThing_142 (by decide) ?_
                      refine va_put (D := D) (ci := 6) (v := .int 0) (C := RX6) (T := TX6) (N := 22) hx hb hts inwX6_readThing_X6 tyX6 tyX6_ok nmX6 hown hK hP hD hS 0 rfl rfl 18 (by decide) (hts (.fieldLink RX6 175 "PlateSlabsModel" "second" "I") (List.mem_of_getElem? (i := 7) rfl)) (fun _ h9 => h9) rfl (tyX6_ok 18 (by decide)) (rfl) rfl (Nat.le_of_ble_eq_true rfl) dX6_readThing_143 (fun H locs hP hD hS => ?_)
                      have hP : va_P D vwCl [(b 0, .inr (6, moF b (upd u1 9 0))), ((b 9), .inl (T 0, 60, .inl (tx)))] H := hP
                      have hD : va_D A [(b 0, .inr (6, moF b (upd u1 9 0))), ((b 9), .inl (T 0, 60, .inl (tx)))] := hD
                      obtain ⟨u2, eu2⟩ : ∃ z, z = upd u1 9 0 := ⟨_, rfl⟩
                      rw [← eu2] at hP hD
                      have Tu2 : vT v u2 := by rw [eu2]; exact (vT_u Tu1 _ (by decide) (by decide))
                      have f2u2 : u2 2 = nI len := by rw [eu2]; exact f2u1
                      have f5u2 : u2 5 = nI i := by rw [eu2]; exact f5u1
                      have f6u2 : u2 6 = 1 := by rw [eu2]; exact f6u1
                      have f7u2 : u2 7 = ch := by rw [eu2]; exact f7u1
                      have hP : va_P D vwCl [(b 0, .inr (6, moF b u2)), ((b 9), .inl (T 0, 60, .inl (tx)))] H := hP
                      have hD : va_D A [(b 0, .inr (6, moF b u2)), ((b 9), .inl (T 0, 60, .inl (tx)))] := hD
                      refine lv_aload_n hx hb dX6_readThing_146 rfl (lv_at hl 0 rfl) ?_
                      refine va_get (D := D) (ci := 6) (v := .int (u2 7)) (C := RX6) (T := TX6) (N := 22) hx hb hts inwX6_readThing_X6 hown hK hP 0 rfl rfl 16 (by decide) (hts (.fieldLink RX6 166 "PlateSlabsModel" "letter" "I") (List.mem_of_getElem? (i := 4) rfl)) (fun _ h9 => h9) rfl dX6_readThing_147 ?_
                      refine lv_tpi (z := ch) (f7u2) ?_
                      refine lv_bipush (v := 98) hx hb dX6_readThing_150 (by decide) ?_
                      refine lv_icmp_eq (tgt := 164) hx hb dX6_readThing_152 (by decide) (fun c152 => ?_) (fun c152 => ?_)
                      · skip
                        exact absurd c152 hZ.1
                      · skip
                        refine lv_aload_n hx hb dX6_readThing_155 rfl (lv_at hl 0 rfl) ?_
                        refine va_get (D := D) (ci := 6) (v := .int (u2 7)) (C := RX6) (T := TX6) (N := 22) hx hb hts inwX6_readThing_X6 hown hK hP 0 rfl rfl 16 (by decide) (hts (.fieldLink RX6 166 "PlateSlabsModel" "letter" "I") (List.mem_of_getElem? (i := 4) rfl)) (fun _ h9 => h9) rfl dX6_readThing_156 ?_
                        refine lv_tpi (z := ch) (f7u2) ?_
                        refine lv_bipush (v := 100) hx hb dX6_readThing_159 (by decide) ?_
                        refine lv_icmp_ne (tgt := 201) hx hb dX6_readThing_161 (by decide) (fun c161 => ?_) (fun c161 => ?_)
                        · skip
                          refine lv_aload_n hx hb dX6_readThing_201 rfl (lv_at hl 0 rfl) ?_
                          refine va_get (D := D) (ci := 6) (v := .int (u2 7)) (C := RX6) (T := TX6) (N := 22) hx hb hts inwX6_readThing_X6 hown hK hP 0 rfl rfl 16 (by decide) (hts (.fieldLink RX6 166 "PlateSlabsModel" "letter" "I") (List.mem_of_getElem? (i := 4) rfl)) (fun _ h9 => h9) rfl dX6_readThing_202 ?_
                          refine lv_tpi (z := ch) (f7u2) ?_
                          refine lv_bipush (v := 99) hx hb dX6_readThing_205 (by decide) ?_
                          refine lv_icmp_ne (tgt := 222) hx hb dX6_readThing_207 (by decide) (fun c207 => ?_) (fun c207 => ?_)
                          · skip
                            have hL := th_x (c := tch tx len) (i := i) (fun z => hZ.1 (ech.trans z)) (fun z => hZ.2.1 (ech.trans z)) (fun z => hZ.2.2.1 (ech.trans z)) (fun z => hZ.2.2.2.1 (ech.trans z)) (fun z => hZ.2.2.2.2 (ech.trans z))
                            exact hret _ _ u2 _ _ dX6_readThing_222 hS hP hD ⟨Tu2, by rw [hL.2]; exact f5u2, Or.inr ⟨hL.1, f6u2⟩⟩
                          · skip
                            exact absurd c207 hZ.2.2.2.1
                        · skip
                          exact absurd c161 hZ.2.2.1
                    · skip
                      exact absurd c117 hZ.2.2.2.2
  refine lv_icmp_ge (tgt := 24) hx hb dX6_readThing_9 (by decide) (fun c9 => ?_) (fun c9 => ?_)
  · skip
    have hlt : ¬ i < len := by
      rw [h2, h5] at c9
      have := (nI_leI (by omega) (by omega)).mp c9
      omega
    refine lv_iconst (v := 0) hx hb dX6_readThing_24 (by decide) ?_
    refine lv_tpi (z := tch tx len i) ((tch_out hlt).symm) ?_
    exact hJ25 ls _ _ hP hD hS (lv_sub hl [0] rfl)
  · skip
    have hlt : i < len := by
      rw [h2, h5] at c9
      have := mt (nI_leI (a := len) (b := i) (by omega) (by omega)).mpr c9
      omega
    refine lv_aload_n hx hb dX6_readThing_12 rfl (lv_at hl 0 rfl) ?_
    refine va_get (D := D) (ci := 6) (v := .ref (b 9)) (C := RX6) (T := TX6) (N := 22) hx hb hts inwX6_readThing_X6 hown hK hP 0 rfl rfl 10 (by decide) (hts (.fieldLink RX6 35 "PlateSlabsModel" "text" "[I") (List.mem_of_getElem? (i := 3) rfl)) (fun _ h9 => h9) rfl dX6_readThing_13 ?_
    refine lv_aload_n hx hb dX6_readThing_16 rfl (lv_at hl 0 rfl) ?_
    refine va_get (D := D) (ci := 6) (v := .int (v 5)) (C := RX6) (T := TX6) (N := 22) hx hb hts inwX6_readThing_X6 hown hK hP 0 rfl rfl 14 (by decide) (hts (.fieldLink RX6 156 "PlateSlabsModel" "position" "I") (List.mem_of_getElem? (i := 1) rfl)) (fun _ h9 => h9) rfl dX6_readThing_17 ?_
    refine va_iald hx hb hK hP 1 0 rfl rfl (in_of h5 (by omega) (by decide)) dX6_readThing_20 ?_
    refine lv_tpi (congrArg (fun z => tx z) (cl_of h5 (by omega))) ?_
    refine lv_tpi (z := tch tx len i) ((tch_in hlt).symm) ?_
    refine lv_goto (tgt := 25) hx hb dX6_readThing_21 (by decide) ?_
    exact hJ25 ls _ _ hP hD hS (lv_sub hl [0] rfl)

