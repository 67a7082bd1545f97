theorem pdX6_does : yX6_does.cls = RX6 ∧ yX6_does.cls ≠ "java/lang/invoke/MethodHandle" ∧ yX6_does.cls ≠ "java/lang/invoke/VarHandle" ∧ (parseMethodDescriptor yX6_does.desc).map (fun d => d.parameters.length) = some 0 := by decide +kernel
theorem pdX6_runs : yX6_runs.cls = RX6 ∧ yX6_runs.cls ≠ "java/lang/invoke/MethodHandle" ∧ yX6_runs.cls ≠ "java/lang/invoke/VarHandle" ∧ (parseMethodDescriptor yX6_runs.desc).map (fun d => d.parameters.length) = some 1 := by decide +kernel
theorem pdX6_perform : yX6_perform.cls = RX6 ∧ yX6_perform.cls ≠ "java/lang/invoke/MethodHandle" ∧ yX6_perform.cls ≠ "java/lang/invoke/VarHandle" ∧ (parseMethodDescriptor yX6_perform.desc).map (fun d => d.parameters.length) = some 0 := by decide +kernel
theorem pdX6_stopped : yX6_stopped.cls = RX6 ∧ yX6_stopped.cls ≠ "java/lang/invoke/MethodHandle" ∧ yX6_stopped.cls ≠ "java/lang/invoke/VarHandle" ∧ (parseMethodDescriptor yX6_stopped.desc).map (fun d => d.parameters.length) = some 1 := by decide +kernel
theorem inwX6_does_X6 : ∀ w ∈ wsX60, w ∈ wsX6_does := by decide +kernel
theorem inwX6_runs_X6 : ∀ w ∈ wsX60, w ∈ wsX6_runs := by decide +kernel
theorem inwX6_perform_X6 : ∀ w ∈ wsX60, w ∈ wsX6_perform := by decide +kernel
theorem inwX6_stopped_X6 : ∀ w ∈ wsX60, w ∈ wsX6_stopped := by decide +kernel
def rmX6_does : Room := { frames := 8, cells := 0, slots := 0, locals := 182 }
set_option maxHeartbeats 4000000 in
set_option maxRecDepth 100000 in
theorem mX6_does (l : Launch) (T : Nat → ClassId) (D : va_G) (b : Nat → Nat) (v : Nat → Int32) (t : Nat → Int32) (P : Nat → Nat → Int32) (E : Nat → Nat → Int64) (hk : ∀ p, p < 4 → kOk (P p)) (K : Int32) (a w : Nat) (h7 : v 7 = K) (h8 : v 8 = nI a) (h9 : v 9 = nI w) (hB : tBd K a w) : MuI l yX6_does wsX6_does rmX6_does T xN D [.ref (b 0)] [(b 0, .inr (6, moF b v)), ((b 1), .inl (T 0, 43, .inl (mS t P))), ((b 2), .inl (T 1, 12, .inr (.inl (mE E))))] (S := SG) (fun r u => (r, u) = oThing K a w (t, P, E)) (fun u => moN T (b 0) (b 1) (b 2) (moF b v) u.1 u.2.1 u.2.2) 0 0 := by
  refine met_mi (cc := cX6_does) (maxL := 1) (by decide) rfl (Nat.le_of_ble_eq_true rfl) ?_
  intro p_ e s m args below meth c ls A Q hx hb hts hown hml hX hP hD hK hS hA hl hret
  have hl : lv_has ls 1 [(0, .ref (b 0))] := hl
  rcases hB with ⟨rfl, ha, hw⟩ | ⟨rfl, ha⟩ | ⟨rfl, ha, hw⟩ | ⟨rfl, ha, hw⟩ | ⟨rfl, h1, ha⟩
  · skip
    refine lv_aload_n hx hb dX6_does_0 rfl (lv_at hl 0 rfl) ?_
    refine va_get (D := D) (ci := 6) (v := .int (v 7)) (C := RX6) (T := TX6) (N := 22) hx hb hts inwX6_does_X6 hown hK hP 0 rfl rfl 16 (by decide) (hts (.fieldLink RX6 166 "PlateSlabsModel" "letter" "I") (List.mem_of_getElem? (i := 1) rfl)) (fun _ h9 => h9) rfl dX6_does_1 ?_
    refine lv_tpi (z := 98) (h7) ?_
    refine lv_lookup (off := 44) (tgt := 48) hx hb dX6_does_4 (by decide) (by decide) (by decide) ?_
    refine lv_aload_n hx hb dX6_does_48 rfl (lv_at hl 0 rfl) ?_
    refine lv_aload_n hx hb dX6_does_49 rfl (lv_at hl 0 rfl) ?_
    refine va_get (D := D) (ci := 6) (v := .int (v 8)) (C := RX6) (T := TX6) (N := 22) hx hb hts inwX6_does_X6 hown hK hP 0 rfl rfl 17 (by decide) (hts (.fieldLink RX6 172 "PlateSlabsModel" "first" "I") (List.mem_of_getElem? (i := 2) rfl)) (fun _ h9 => h9) rfl dX6_does_50 ?_
    refine lv_tpi (z := nI a) (h8) ?_
    refine lv_aload_n hx hb dX6_does_53 rfl (lv_at hl 0 rfl) ?_
    refine va_get (D := D) (ci := 6) (v := .int (v 9)) (C := RX6) (T := TX6) (N := 22) hx hb hts inwX6_does_X6 hown hK hP 0 rfl rfl 18 (by decide) (hts (.fieldLink RX6 175 "PlateSlabsModel" "second" "I") (List.mem_of_getElem? (i := 3) rfl)) (fun _ h9 => h9) rfl dX6_does_54 ?_
    refine lv_tpi (z := nI w) (h9) ?_
    refine callMi (As := [.int (nI a), .int (nI w)]) (wr := []) ⟨hx, hb, hml, hown, hts⟩ (mX6_turnsOn l T D (b 0) (b 1) (b 2) (moF b v) t P E rfl rfl a ha (nI w)) (cwV 2 hts gX6_does_X6_turnsOn rfl rfl rfl pdX6_turnsOn ⟨Nat.le_of_ble_eq_true rfl, Nat.le_of_ble_eq_true rfl⟩) hP hD hK hS hA xN_bl (fun U _ hW => XN_warm hW hX) (ci := 6) rfl rfl rfl hl.1 rfl rfl (Nat.le_of_ble_eq_true rfl) dX6_does_57 ⟨Nat.zero_le _, Nat.zero_le _⟩ (fun r1_ u2_ H locs eu2_ hP hD hS hkf => ?_)
    exact hret _ _ _ u2_ _ _ dX6_does_60 hS hP hD eu2_
  · skip
    refine lv_aload_n hx hb dX6_does_0 rfl (lv_at hl 0 rfl) ?_
    refine va_get (D := D) (ci := 6) (v := .int (v 7)) (C := RX6) (T := TX6) (N := 22) hx hb hts inwX6_does_X6 hown hK hP 0 rfl rfl 16 (by decide) (hts (.fieldLink RX6 166 "PlateSlabsModel" "letter" "I") (List.mem_of_getElem? (i := 1) rfl)) (fun _ h9 => h9) rfl dX6_does_1 ?_
    refine lv_tpi (z := 111) (h7) ?_
    refine lv_lookup (off := 57) (tgt := 61) hx hb dX6_does_4 (by decide) (by decide) (by decide) ?_
    refine lv_aload_n hx hb dX6_does_61 rfl (lv_at hl 0 rfl) ?_
    refine lv_aload_n hx hb dX6_does_62 rfl (lv_at hl 0 rfl) ?_
    refine va_get (D := D) (ci := 6) (v := .int (v 8)) (C := RX6) (T := TX6) (N := 22) hx hb hts inwX6_does_X6 hown hK hP 0 rfl rfl 17 (by decide) (hts (.fieldLink RX6 172 "PlateSlabsModel" "first" "I") (List.mem_of_getElem? (i := 2) rfl)) (fun _ h9 => h9) rfl dX6_does_63 ?_
    refine lv_tpi (z := nI a) (h8) ?_
    refine callMi (As := [.int (nI a)]) (wr := []) ⟨hx, hb, hml, hown, hts⟩ (mX6_turnsOff l T D (b 0) (b 1) (b 2) (moF b v) t P E rfl rfl a ha) (cwV 1 hts gX6_does_X6_turnsOff rfl rfl rfl pdX6_turnsOff ⟨Nat.le_of_ble_eq_true rfl, Nat.le_of_ble_eq_true rfl⟩) hP hD hK hS hA xN_bl (fun U _ hW => XN_warm hW hX) (ci := 6) rfl rfl rfl hl.1 rfl rfl (Nat.le_of_ble_eq_true rfl) dX6_does_66 ⟨Nat.zero_le _, Nat.zero_le _⟩ (fun r3_ u4_ H locs eu4_ hP hD hS hkf => ?_)
    exact hret _ _ _ u4_ _ _ dX6_does_69 hS hP hD eu4_
  · skip
    refine lv_aload_n hx hb dX6_does_0 rfl (lv_at hl 0 rfl) ?_
    refine va_get (D := D) (ci := 6) (v := .int (v 7)) (C := RX6) (T := TX6) (N := 22) hx hb hts inwX6_does_X6 hown hK hP 0 rfl rfl 16 (by decide) (hts (.fieldLink RX6 166 "PlateSlabsModel" "letter" "I") (List.mem_of_getElem? (i := 1) rfl)) (fun _ h9 => h9) rfl dX6_does_1 ?_
    refine lv_tpi (z := 100) (h7) ?_
    refine lv_lookup (off := 66) (tgt := 70) hx hb dX6_does_4 (by decide) (by decide) (by decide) ?_
    refine lv_aload_n hx hb dX6_does_70 rfl (lv_at hl 0 rfl) ?_
    refine lv_aload_n hx hb dX6_does_71 rfl (lv_at hl 0 rfl) ?_
    refine va_get (D := D) (ci := 6) (v := .int (v 8)) (C := RX6) (T := TX6) (N := 22) hx hb hts inwX6_does_X6 hown hK hP 0 rfl rfl 17 (by decide) (hts (.fieldLink RX6 172 "PlateSlabsModel" "first" "I") (List.mem_of_getElem? (i := 2) rfl)) (fun _ h9 => h9) rfl dX6_does_72 ?_
    refine lv_tpi (z := nI a) (h8) ?_
    refine lv_bipush (v := nI 6) hx hb dX6_does_75 (by decide) ?_
    refine lv_aload_n hx hb dX6_does_77 rfl (lv_at hl 0 rfl) ?_
    refine va_get (D := D) (ci := 6) (v := .int (v 9)) (C := RX6) (T := TX6) (N := 22) hx hb hts inwX6_does_X6 hown hK hP 0 rfl rfl 18 (by decide) (hts (.fieldLink RX6 175 "PlateSlabsModel" "second" "I") (List.mem_of_getElem? (i := 3) rfl)) (fun _ h9 => h9) rfl dX6_does_78 ?_
    refine lv_tpi (z := nI w) (h9) ?_
    refine callMi (As := [.int (nI a), .int (nI 6), .int (nI w)]) (wr := []) ⟨hx, hb, hml, hown, hts⟩ (mX6_lays l T D (b 0) (b 1) (b 2) (moF b v) t P E rfl rfl a ha 6 (by decide) (nI w)) (cwV 3 hts gX6_does_X6_lays rfl rfl rfl pdX6_lays ⟨Nat.le_of_ble_eq_true rfl, Nat.le_of_ble_eq_true rfl⟩) hP hD hK hS hA xN_bl (fun U _ hW => XN_warm hW hX) (ci := 6) rfl rfl rfl hl.1 rfl rfl (Nat.le_of_ble_eq_true rfl) dX6_does_81 ⟨Nat.zero_le _, Nat.zero_le _⟩ (fun r5_ u6_ H locs eu6_ hP hD hS hkf => ?_)
    exact hret _ _ _ u6_ _ _ dX6_does_84 hS hP hD eu6_
  · skip
    refine lv_aload_n hx hb dX6_does_0 rfl (lv_at hl 0 rfl) ?_
    refine va_get (D := D) (ci := 6) (v := .int (v 7)) (C := RX6) (T := TX6) (N := 22) hx hb hts inwX6_does_X6 hown hK hP 0 rfl rfl 16 (by decide) (hts (.fieldLink RX6 166 "PlateSlabsModel" "letter" "I") (List.mem_of_getElem? (i := 1) rfl)) (fun _ h9 => h9) rfl dX6_does_1 ?_
    refine lv_tpi (z := 99) (h7) ?_
    refine lv_lookup (off := 81) (tgt := 85) hx hb dX6_does_4 (by decide) (by decide) (by decide) ?_
    refine lv_aload_n hx hb dX6_does_85 rfl (lv_at hl 0 rfl) ?_
    refine lv_aload_n hx hb dX6_does_86 rfl (lv_at hl 0 rfl) ?_
    refine va_get (D := D) (ci := 6) (v := .int (v 8)) (C := RX6) (T := TX6) (N := 22) hx hb hts inwX6_does_X6 hown hK hP 0 rfl rfl 17 (by decide) (hts (.fieldLink RX6 172 "PlateSlabsModel" "first" "I") (List.mem_of_getElem? (i := 2) rfl)) (fun _ h9 => h9) rfl dX6_does_87 ?_
    refine lv_tpi (z := nI a) (h8) ?_
    refine lv_aload_n hx hb dX6_does_90 rfl (lv_at hl 0 rfl) ?_
    refine va_get (D := D) (ci := 6) (v := .int (v 9)) (C := RX6) (T := TX6) (N := 22) hx hb hts inwX6_does_X6 hown hK hP 0 rfl rfl 18 (by decide) (hts (.fieldLink RX6 175 "PlateSlabsModel" "second" "I") (List.mem_of_getElem? (i := 3) rfl)) (fun _ h9 => h9) rfl dX6_does_91 ?_
    refine lv_tpi (z := nI w) (h9) ?_
    refine callMi (As := [.int (nI a), .int (nI w)]) (wr := []) ⟨hx, hb, hml, hown, hts⟩ (mX6_couples l T D (b 0) (b 1) (b 2) (moF b v) t P E rfl rfl hk a ha w hw) (cwV 2 hts gX6_does_X6_couples rfl rfl rfl pdX6_couples ⟨Nat.le_of_ble_eq_true rfl, Nat.le_of_ble_eq_true rfl⟩) hP hD hK hS hA xN_bl (fun U _ hW => XN_warm hW hX) (ci := 6) rfl rfl rfl hl.1 rfl rfl (Nat.le_of_ble_eq_true rfl) dX6_does_94 ⟨Nat.zero_le _, Nat.zero_le _⟩ (fun r7_ u8_ H locs eu8_ hP hD hS hkf => ?_)
    exact hret _ _ _ u8_ _ _ dX6_does_97 hS hP hD eu8_
  · skip
    refine lv_aload_n hx hb dX6_does_0 rfl (lv_at hl 0 rfl) ?_
    refine va_get (D := D) (ci := 6) (v := .int (v 7)) (C := RX6) (T := TX6) (N := 22) hx hb hts inwX6_does_X6 hown hK hP 0 rfl rfl 16 (by decide) (hts (.fieldLink RX6 166 "PlateSlabsModel" "letter" "I") (List.mem_of_getElem? (i := 1) rfl)) (fun _ h9 => h9) rfl dX6_does_1 ?_
    refine lv_tpi (z := 46) (h7) ?_
    refine lv_lookup (off := 94) (tgt := 98) hx hb dX6_does_4 (by decide) (by decide) (by decide) ?_
    refine lv_aload_n hx hb dX6_does_98 rfl (lv_at hl 0 rfl) ?_
    refine lv_aload_n hx hb dX6_does_99 rfl (lv_at hl 0 rfl) ?_
    refine va_get (D := D) (ci := 6) (v := .int (v 8)) (C := RX6) (T := TX6) (N := 22) hx hb hts inwX6_does_X6 hown hK hP 0 rfl rfl 17 (by decide) (hts (.fieldLink RX6 172 "PlateSlabsModel" "first" "I") (List.mem_of_getElem? (i := 2) rfl)) (fun _ h9 => h9) rfl dX6_does_100 ?_
    refine lv_tpi (z := nI a) (h8) ?_
    refine callMi (As := [.int (nI a)]) (wr := []) ⟨hx, hb, hml, hown, hts⟩ (mX6_passes l T D (b 0) (b 1) (b 2) (moF b v) t P E rfl rfl hk a (by omega)) (cwV 1 hts gX6_does_X6_passes rfl rfl rfl pdX6_passes ⟨Nat.le_of_ble_eq_true rfl, Nat.le_of_ble_eq_true rfl⟩) hP hD hK hS hA xN_bl (fun U _ hW => XN_warm hW hX) (ci := 6) rfl rfl rfl hl.1 rfl rfl (Nat.le_of_ble_eq_true rfl) dX6_does_103 ⟨Nat.zero_le _, Nat.zero_le _⟩ (fun r9_ u10_ H locs eu10_ hP hD hS hkf => ?_)
    exact hret _ _ _ u10_ _ _ dX6_does_106 hS hP hD eu10_

/-- what stays while a text is run -/
def vS (v u : Nat → Int32) : Prop := ∀ k, k < 5 ∨ 10 < k → u k = v k
theorem vS_T {v u w : Nat → Int32} (h : vS v u) (g : vT u w) : vS v w := fun k hk => (g k (by omega)).trans (h k hk)
theorem vS_R {v u w : Nat → Int32} (h : vS v u) (g : vR u w) : vS v w := fun k hk => (g k (by omega) (by omega)).trans (h k hk)
theorem vS_u {v u : Nat → Int32} {j : Nat} (h : vS v u) (x : Int32) (h1 : 5 ≤ j) (h2 : j ≤ 10) : vS v (upd u j x) := fun k hk => (upd_n (by omega)).trans (h k hk)
theorem vS_rf (v : Nat → Int32) : vS v v := fun _ _ => rfl
abbrev moD (T : Nat → ClassId) (b : Nat → Nat) (v : Nat → Int32) (g : SG) (tx : Nat → Int32) : va_W := [(b 0, .inr (6, moF b v)), (b 1, .inl (T 0, 43, .inl (mS g.1 g.2.1))), (b 2, .inl (T 1, 12, .inr (.inl (mE g.2.2)))), (b 9, .inl (T 0, 60, .inl tx))]
theorem p4_x {D : va_G} {cl : List vw_C} {H : Heap} {a s e x : Nat × va_E} (h : va_P D cl [a, s, e, x] H) : va_P D cl ([a, x] ++ [s, e]) H := bP (bs := [[a], [s], [e], [x]]) h [0, 3, 1, 2] rfl rfl
theorem d4_x {A : Nat → Prop} {a s e x : Nat × va_E} (h : va_D A [a, s, e, x]) : va_D A ([a, x] ++ [s, e]) := bD (bs := [[a], [s], [e], [x]]) h [0, 3, 1, 2] rfl rfl
theorem p4_y {D : va_G} {cl : List vw_C} {H : Heap} {a s e x : Nat × va_E} (h : va_P D cl ([a, x] ++ [s, e]) H) : va_P D cl [a, s, e, x] H := bP (bs := [[a], [x], [s], [e]]) h [0, 2, 3, 1] rfl rfl
theorem d4_y {A : Nat → Prop} {a s e x : Nat × va_E} (h : va_D A ([a, x] ++ [s, e])) : va_D A [a, s, e, x] := bD (bs := [[a], [x], [s], [e]]) h [0, 2, 3, 1] rfl rfl

def rmX6_runs : Room := { frames := 9, cells := 0, slots := 0, locals := 202 }
set_option maxHeartbeats 4000000 in
set_option maxRecDepth 100000 in
theorem mX6_runs0 (l : Launch) (T : Nat → ClassId) (D : va_G) (b : Nat → Nat) (v : Nat → Int32) (tx : Nat → Int32) (len : Nat) (hlen : len ≤ 60) (h2 : v 2 = nI len) : MuI l yX6_runs wsX6_runs rmX6_runs T xN D [.ref (b 0), .int 0] [(b 0, .inr (6, moF b v)), ((b 9), .inl (T 0, 60, .inl (tx)))] (S := Nat → Int32) (fun r u => vS v u ∧ u 10 = 0 ∧ ((∃ n9, pEnd (tch tx len) len n9 ∧ u 6 = 0) ∨ (∃ n9, pBad (tch tx len) len n9 ∧ u 6 = 1 ∧ u 5 = nI (tJ (tch tx len) (tAt (tch tx len) n9))))) (fun u => moX T b u tx) 0 0 := by
  refine met_mi (cc := cX6_runs) (maxL := 6) (by decide) rfl (Nat.le_of_ble_eq_true rfl) ?_
  intro p_ e s m args below meth c ls A Q hx hb hts hown hml hX hP hD hK hS hA hl hret
  have hl : lv_has ls 6 [(0, .ref (b 0)), (1, .int 0)] := hl
  obtain ⟨H, hH⟩ : ∃ H, H = s.heap := ⟨_, rfl⟩
  have hS : va_S A s.heap H [] := by rw [hH]; exact hS
  rw [← hH] at hP ⊢
  refine lv_aload_n hx hb dX6_runs_0 rfl (lv_at hl 0 rfl) ?_
  refine lv_iconst (v := 0) hx hb dX6_runs_1 (by decide) ?_
  refine va_put (D := D) (ci := 6) (v := .int 0) (C := RX6) (T := TX6) (N := 22) hx hb hts inwX6_runs_X6 tyX6 tyX6_ok nmX6 hown hK hP hD hS 0 rfl rfl 14 (by decide) (hts (.fieldLink RX6 156 "PlateSlabsModel" "position" "I") (List.mem_of_getElem? (i := 1) rfl)) (fun _ h9 => h9) rfl (tyX6_ok 14 (by decide)) (rfl) rfl (Nat.le_of_ble_eq_true rfl) dX6_runs_2 (fun H locs hP hD hS => ?_)
  have hP : va_P D vwCl [(b 0, .inr (6, moF b (upd v 5 0))), ((b 9), .inl (T 0, 60, .inl (tx)))] H := hP
  have hD : va_D A [(b 0, .inr (6, moF b (upd v 5 0))), ((b 9), .inl (T 0, 60, .inl (tx)))] := hD
  refine lv_aload_n hx hb dX6_runs_5 rfl (lv_at hl 0 rfl) ?_
  refine lv_iconst (v := 0) hx hb dX6_runs_6 (by decide) ?_
  refine va_put (D := D) (ci := 6) (v := .int 0) (C := RX6) (T := TX6) (N := 22) hx hb hts inwX6_runs_X6 tyX6 tyX6_ok nmX6 hown hK hP hD hS 0 rfl rfl 15 (by decide) (hts (.fieldLink RX6 152 "PlateSlabsModel" "isWrong" "Z") (List.mem_of_getElem? (i := 2) rfl)) (fun _ h9 => h9) rfl (tyX6_ok 15 (by decide)) (rfl) rfl (Nat.le_of_ble_eq_true rfl) dX6_runs_7 (fun H locs hP hD hS => ?_)
  have hP : va_P D vwCl [(b 0, .inr (6, moF b (upd (upd v 5 0) 6 0))), ((b 9), .inl (T 0, 60, .inl (tx)))] H := hP
  have hD : va_D A [(b 0, .inr (6, moF b (upd (upd v 5 0) 6 0))), ((b 9), .inl (T 0, 60, .inl (tx)))] := hD
  refine lv_aload_n hx hb dX6_runs_10 rfl (lv_at hl 0 rfl) ?_
  refine lv_iconst (v := 0) hx hb dX6_runs_11 (by decide) ?_
  refine va_put (D := D) (ci := 6) (v := .int 0) (C := RX6) (T := TX6) (N := 22) hx hb hts inwX6_runs_X6 tyX6 tyX6_ok nmX6 hown hK hP hD hS 0 rfl rfl 19 (by decide) (hts (.fieldLink RX6 178 "PlateSlabsModel" "stop" "I") (List.mem_of_getElem? (i := 3) rfl)) (fun _ h9 => h9) rfl (tyX6_ok 19 (by decide)) (rfl) rfl (Nat.le_of_ble_eq_true rfl) dX6_runs_12 (fun H locs hP hD hS => ?_)
  have hP : va_P D vwCl [(b 0, .inr (6, moF b (upd (upd (upd v 5 0) 6 0) 10 0))), ((b 9), .inl (T 0, 60, .inl (tx)))] H := hP
  have hD : va_D A [(b 0, .inr (6, moF b (upd (upd (upd v 5 0) 6 0) 10 0))), ((b 9), .inl (T 0, 60, .inl (tx)))] := hD
  refine lv_iconst (v := 0) hx hb dX6_runs_15 (by decide) ?_
  refine lv_istore_n (lv' := [(2, .int 0), (0, .ref (b 0)), (1, .int 0)]) hx hb dX6_runs_16 rfl hl (by decide) rfl (fun ls hl => ?_)
  refine lv_iconst (v := 1) hx hb dX6_runs_17 (by decide) ?_
  refine lv_istore_n (lv' := [(3, .int 1), (2, .int 0), (0, .ref (b 0)), (1, .int 0)]) hx hb dX6_runs_18 rfl hl (by decide) rfl (fun ls hl => ?_)
  obtain ⟨v0, ev0⟩ : ∃ z, z = upd (upd (upd v 5 0) 6 0) 10 0 := ⟨_, rfl⟩
  rw [← ev0] at hP hD
  have a2 : v0 2 = nI len := by rw [ev0]; exact h2
  have a5 : v0 5 = nI 0 := by rw [ev0]; rfl
  have a6 : v0 6 = 0 := by rw [ev0]; rfl
  have a10 : v0 10 = 0 := by rw [ev0]; rfl
  have aS : vS v v0 := by rw [ev0]; exact vS_u (vS_u (vS_u (vS_rf v) _ (by decide) (by decide)) _ (by decide) (by decide)) _ (by decide) (by decide)
  have loop : ∀ (j : Nat) (n9 : Nat) (u : Nat → Int32) (x2 : Int32) (ls : Array Slot) (H : Heap) (locs : List Loc), (62 ≤ n9 + j) → (n9 ≤ 61) → (pGo (tch tx len) len n9) → (u 2 = nI len) → (u 5 = nI (tAt (tch tx len) n9)) → (u 6 = 0) → (vS v u) → va_P D vwCl [(b 0, .inr (6, moF b u)), ((b 9), .inl (T 0, 60, .inl (tx)))] H → va_D A [(b 0, .inr (6, moF b u)), ((b 9), .inl (T 0, 60, .inl (tx)))] → va_S A s.heap H locs → lv_has ls 6 [(0, .ref (b 0)), (1, .int 0), (2, .int x2), (3, .int 1)] → W p_ l e rmX6_runs s m args below meth c H locs 0 0 Q (F0 m 19 ls []) := by
    intro j
    induction j with
    | zero => intro n9 u x2 ls H locs hm hi; exact absurd hm (by omega)
    | succ j ih =>
      intro n9 u x2 ls H locs hm hi hgo h2u h5u h6u huS hP hD hS hl
      have hb0 := tAt_b hgo
      have hb1 := tJ_b (i := tAt (tch tx len) n9) (tx := tx) hb0.2
      refine lv_iload_n hx hb dX6_runs_19 rfl (lv_at hl 3 rfl) ?_
      refine lv_if_eq (tgt := 139) hx hb dX6_runs_20 (by decide) (fun c20 => ?_) (fun c20 => ?_)
      · skip
        exact absurd c20 (by decide)
      · skip
        refine lv_aload_n hx hb dX6_runs_23 rfl (lv_at hl 0 rfl) ?_
        refine callMv (As := []) (wr := []) ⟨hx, hb, hml, hown, hts⟩ (mX6_readThing l T D b u tx (tAt (tch tx len) n9) len hlen hb0.2 h2u h5u h6u) (cwV 0 hts gX6_runs_X6_readThing rfl rfl rfl pdX6_readThing ⟨Nat.le_of_ble_eq_true rfl, Nat.le_of_ble_eq_true rfl⟩) hP hD hK hS hA xN_bl (fun U _ hW => XN_warm hW hX) (ci := 6) rfl rfl rfl hl.1 rfl rfl (Nat.le_of_ble_eq_true rfl) dX6_runs_24 ⟨Nat.zero_le _, Nat.zero_le _⟩ (fun u2_ H locs eu2_ hP hD hS hkf => ?_)
        obtain ⟨u1, rfl⟩ : ∃ z, z = u2_ := ⟨_, rfl⟩
        have hP : va_P D vwCl [(b 0, .inr (6, moF b u1)), ((b 9), .inl (T 0, 60, .inl (tx)))] H := hP
        have hD : va_D A [(b 0, .inr (6, moF b u1)), ((b 9), .inl (T 0, 60, .inl (tx)))] := hD
        obtain ⟨qT, q5, qq⟩ := eu2_
        have f2 : u1 2 = nI len := (qT 2 (by omega)).trans h2u
        have qS : vS v u1 := vS_T huS qT
        rcases qq with ⟨hok, q6, -⟩ | ⟨hno, q6⟩
        · skip
          refine lv_iload_n hx hb dX6_runs_27 rfl (lv_at hl 1 rfl) ?_
          refine lv_if_eq (tgt := 38) hx hb dX6_runs_28 (by decide) (fun c28 => ?_) (fun c28 => ?_)
          · skip
            refine lv_iconst (v := 0) hx hb dX6_runs_38 (by decide) ?_
            refine lv_istore (lv' := [(4, .int 0), (0, .ref (b 0)), (1, .int 0), (2, .int x2), (3, .int 1)]) hx hb dX6_runs_39 hl (by decide) rfl (fun ls hl => ?_)
            refine lv_aload_n hx hb dX6_runs_41 rfl (lv_at hl 1 rfl) ?_
            refine lv_iload hx hb dX6_runs_42 (lv_at hl 0 rfl) ?_
            refine lv_if_ge (tgt := 59) hx hb dX6_runs_44 (by decide) (fun c44 => ?_) (fun c44 => ?_)
            · skip
              refine lv_iconst (v := 0) hx hb dX6_runs_59 (by decide) ?_
              refine va_put (D := D) (ci := 6) (v := .int 0) (C := RX6) (T := TX6) (N := 22) hx hb hts inwX6_runs_X6 tyX6 tyX6_ok nmX6 hown hK hP hD hS 0 rfl rfl 19 (by decide) (hts (.fieldLink RX6 178 "PlateSlabsModel" "stop" "I") (List.mem_of_getElem? (i := 3) rfl)) (fun _ h9 => h9) rfl (tyX6_ok 19 (by decide)) (rfl) rfl (Nat.le_of_ble_eq_true rfl) dX6_runs_60 (fun H locs hP hD hS => ?_)
              have hP : va_P D vwCl [(b 0, .inr (6, moF b (upd u1 10 0))), ((b 9), .inl (T 0, 60, .inl (tx)))] H := hP
              have hD : va_D A [(b 0, .inr (6, moF b (upd u1 10 0))), ((b 9), .inl (T 0, 60, .inl (tx)))] := hD
              obtain ⟨w1, ew1⟩ : ∃ z, z = upd u1 10 0 := ⟨_, rfl⟩
              rw [← ew1] at hP hD
              have f2 : w1 2 = nI len := by rw [ew1]; exact f2
              have f5 : w1 5 = nI (tJ (tch tx len) (tAt (tch tx len) n9)) := by rw [ew1]; exact q5
              have f6 : w1 6 = 0 := by rw [ew1]; exact q6
              have f10 : w1 10 = 0 := by rw [ew1]; rfl
              have fS : vS v w1 := by rw [ew1]; exact vS_u qS _ (by decide) (by decide)
              have hP : va_P D vwCl [(b 0, .inr (6, moF b w1)), ((b 9), .inl (T 0, 60, .inl (tx)))] H := hP
              have hD : va_D A [(b 0, .inr (6, moF b w1)), ((b 9), .inl (T 0, 60, .inl (tx)))] := hD
              refine lv_iload_n hx hb dX6_runs_63 rfl (lv_at hl 3 rfl) ?_
              refine lv_aload_n hx hb dX6_runs_64 rfl (lv_at hl 1 rfl) ?_
              refine va_get (D := D) (ci := 6) (v := .int (w1 10)) (C := RX6) (T := TX6) (N := 22) hx hb hts inwX6_runs_X6 hown hK hP 0 rfl rfl 19 (by decide) (hts (.fieldLink RX6 178 "PlateSlabsModel" "stop" "I") (List.mem_of_getElem? (i := 3) rfl)) (fun _ h9 => h9) rfl dX6_runs_65 ?_
              refine lv_tpi (z := 0) (f10) ?_
              refine lv_if_ge (tgt := 75) hx hb dX6_runs_68 (by decide) (fun c68 => ?_) (fun c68 => ?_)
              · skip
                refine lv_iconst (v := 1) hx hb dX6_runs_75 (by decide) ?_
                refine lv_iadd hx hb dX6_runs_76 ?_
                refine lv_topi (fun x3 ex3 => ?_)
                refine lv_istore_n (lv' := [(2, .int x3), (4, .int 0), (0, .ref (b 0)), (1, .int 0), (3, .int 1)]) hx hb dX6_runs_77 rfl hl (by decide) rfl (fun ls hl => ?_)
                refine lv_aload_n hx hb dX6_runs_78 rfl (lv_at hl 2 rfl) ?_
                refine va_get (D := D) (ci := 6) (v := .int (w1 10)) (C := RX6) (T := TX6) (N := 22) hx hb hts inwX6_runs_X6 hown hK hP 0 rfl rfl 19 (by decide) (hts (.fieldLink RX6 178 "PlateSlabsModel" "stop" "I") (List.mem_of_getElem? (i := 3) rfl)) (fun _ h9 => h9) rfl dX6_runs_79 ?_
                refine lv_tpi (z := 0) (f10) ?_
                refine lv_if_ne (tgt := 107) hx hb dX6_runs_82 (by decide) (fun c82 => ?_) (fun c82 => ?_)
                · skip
                  exact absurd rfl c82
                · skip
                  refine lv_aload_n hx hb dX6_runs_85 rfl (lv_at hl 2 rfl) ?_
                  refine va_get (D := D) (ci := 6) (v := .int (w1 6)) (C := RX6) (T := TX6) (N := 22) hx hb hts inwX6_runs_X6 hown hK hP 0 rfl rfl 15 (by decide) (hts (.fieldLink RX6 152 "PlateSlabsModel" "isWrong" "Z") (List.mem_of_getElem? (i := 2) rfl)) (fun _ h9 => h9) rfl dX6_runs_86 ?_
                  refine lv_tpi (z := 0) (f6) ?_
                  refine lv_if_ne (tgt := 107) hx hb dX6_runs_89 (by decide) (fun c89 => ?_) (fun c89 => ?_)
                  · skip
                    exact absurd rfl c89
                  · skip
                    refine lv_aload_n hx hb dX6_runs_92 rfl (lv_at hl 2 rfl) ?_
                    refine va_get (D := D) (ci := 6) (v := .int (w1 5)) (C := RX6) (T := TX6) (N := 22) hx hb hts inwX6_runs_X6 hown hK hP 0 rfl rfl 14 (by decide) (hts (.fieldLink RX6 156 "PlateSlabsModel" "position" "I") (List.mem_of_getElem? (i := 1) rfl)) (fun _ h9 => h9) rfl dX6_runs_93 ?_
                    refine lv_tpi (z := nI (tJ (tch tx len) (tAt (tch tx len) n9))) (f5) ?_
                    refine lv_aload_n hx hb dX6_runs_96 rfl (lv_at hl 2 rfl) ?_
                    refine va_get (D := D) (ci := 6) (v := .int (w1 2)) (C := RX6) (T := TX6) (N := 22) hx hb hts inwX6_runs_X6 hown hK hP 0 rfl rfl 11 (by decide) (hts (.fieldLink RX6 149 "PlateSlabsModel" "length" "I") (List.mem_of_getElem? (i := 4) rfl)) (fun _ h9 => h9) rfl dX6_runs_97 ?_
                    refine lv_tpi (z := nI len) (f2) ?_
                    refine lv_icmp_ge (tgt := 107) hx hb dX6_runs_100 (by decide) (fun c100 => ?_) (fun c100 => ?_)
                    · skip
                      have hge : len ≤ tJ (tch tx len) (tAt (tch tx len) n9) := (nI_leI (by omega) (by have := hb1.2.1; omega)).mp c100
                      have heq : tJ (tch tx len) (tAt (tch tx len) n9) = len := by have := hb1.2.1; omega
                      refine lv_iconst (v := 0) hx hb dX6_runs_107 (by decide) ?_
                      refine lv_istore_n (lv' := [(3, .int 0), (2, .int x3), (4, .int 0), (0, .ref (b 0)), (1, .int 0)]) hx hb dX6_runs_108 rfl hl (by decide) rfl (fun ls hl => ?_)
                      refine lv_iload_n hx hb dX6_runs_109 rfl (lv_at hl 0 rfl) ?_
                      refine lv_if_eq (tgt := 136) hx hb dX6_runs_110 (by decide) (fun c110 => ?_) (fun c110 => ?_)
                      · skip
                        refine lv_goto (tgt := 19) hx hb dX6_runs_136 (by decide) ?_
                        refine lv_iload_n hx hb dX6_runs_19 rfl (lv_at hl 0 rfl) ?_
                        refine lv_if_eq (tgt := 139) hx hb dX6_runs_20 (by decide) (fun c20 => ?_) (fun c20 => ?_)
                        · skip
                          refine lv_iload_n hx hb dX6_runs_139 rfl (lv_at hl 1 rfl) ?_
                          exact hret _ _ _ w1 _ _ dX6_runs_140 hS hP hD ⟨fS, f10, Or.inl ⟨n9, ⟨hgo, hok, heq⟩, f6⟩⟩
                        · skip
                          exact absurd rfl c20
                      · skip
                        exact absurd rfl c110
                    · skip
                      have hlt : tJ (tch tx len) (tAt (tch tx len) n9) < len := by
                        have := mt (nI_leI (a := len) (b := tJ (tch tx len) (tAt (tch tx len) n9)) (by omega) (by have := hb1.2.1; omega)).mpr c100
                        omega
                      refine lv_iconst (v := 1) hx hb dX6_runs_103 (by decide) ?_
                      refine lv_goto (tgt := 108) hx hb dX6_runs_104 (by decide) ?_
                      refine lv_istore_n (lv' := [(3, .int 1), (2, .int x3), (4, .int 0), (0, .ref (b 0)), (1, .int 0)]) hx hb dX6_runs_108 rfl hl (by decide) rfl (fun ls hl => ?_)
                      refine lv_iload_n hx hb dX6_runs_109 rfl (lv_at hl 0 rfl) ?_
                      refine lv_if_eq (tgt := 136) hx hb dX6_runs_110 (by decide) (fun c110 => ?_) (fun c110 => ?_)
                      · skip
                        exact absurd c110 (by decide)
                      · skip
                        refine lv_aload_n hx hb dX6_runs_113 rfl (lv_at hl 3 rfl) ?_
                        refine lv_bipush (v := 59) hx hb dX6_runs_114 (by decide) ?_
                        refine lv_bipush (v := 59) hx hb dX6_runs_116 (by decide) ?_
                        refine callMi (As := [.int 59, .int 59]) (wr := []) ⟨hx, hb, hml, hown, hts⟩ (mX6_takes l T D b w1 tx (tJ (tch tx len) (tAt (tch tx len) n9)) len hlen hb1.2.1 f2 f5 (Or.inl f6) 59 59) (cwV 2 hts gX6_runs_X6_takes rfl rfl rfl pdX6_takes ⟨Nat.le_of_ble_eq_true rfl, Nat.le_of_ble_eq_true rfl⟩) hP hD hK hS hA xN_bl (fun U _ hW => XN_warm hW hX) (ci := 6) rfl rfl rfl hl.1 rfl rfl (Nat.le_of_ble_eq_true rfl) dX6_runs_118 ⟨Nat.zero_le _, Nat.zero_le _⟩ (fun r3_ u4_ H locs eu4_ hP hD hS hkf => ?_)
                        obtain ⟨u2, rfl⟩ : ∃ z, z = u4_ := ⟨_, rfl⟩
                        have hP : va_P D vwCl [(b 0, .inr (6, moF b u2)), ((b 9), .inl (T 0, 60, .inl (tx)))] H := hP
                        have hD : va_D A [(b 0, .inr (6, moF b u2)), ((b 9), .inl (T 0, 60, .inl (tx)))] := hD
                        obtain ⟨ew2, kR, kk⟩ := eu4_
                        have t2 : u2 2 = nI len := (kR 2 (by decide) (by decide)).trans f2
                        have tS : vS v u2 := vS_R fS kR
                        have t10 : u2 10 = 0 := (kR 10 (by decide) (by decide)).trans f10
                        by_cases hsep : (tch tx len) (tJ (tch tx len) (tAt (tch tx len) n9)) = 59
                        · skip
                          obtain ⟨-, t6, t5⟩ := kk.resolve_right (fun z => z.1 ⟨f6, by rw [hsep]; decide⟩)
                          have hgo2 : pGo (tch tx len) len (n9 + 1) := pGo_s hgo ⟨hok, hlt, hsep⟩
                          refine lv_istore (lv' := [(5, .int r3_), (3, .int 1), (2, .int x3), (4, .int 0), (0, .ref (b 0)), (1, .int 0)]) hx hb dX6_runs_121 hl (by decide) rfl (fun ls hl => ?_)
                          refine lv_aload_n hx hb dX6_runs_123 rfl (lv_at hl 4 rfl) ?_
                          refine va_get (D := D) (ci := 6) (v := .int (u2 6)) (C := RX6) (T := TX6) (N := 22) hx hb hts inwX6_runs_X6 hown hK hP 0 rfl rfl 15 (by decide) (hts (.fieldLink RX6 152 "PlateSlabsModel" "isWrong" "Z") (List.mem_of_getElem? (i := 2) rfl)) (fun _ h9 => h9) rfl dX6_runs_124 ?_
                          refine lv_tpi (z := 0) (t6) ?_
                          refine lv_if_ne (tgt := 134) hx hb dX6_runs_127 (by decide) (fun c127 => ?_) (fun c127 => ?_)
                          · skip
                            exact absurd rfl c127
                          · skip
                            refine lv_iconst (v := 1) hx hb dX6_runs_130 (by decide) ?_
                            refine lv_goto (tgt := 135) hx hb dX6_runs_131 (by decide) ?_
                            refine lv_istore_n (lv' := [(3, .int 1), (5, .int r3_), (2, .int x3), (4, .int 0), (0, .ref (b 0)), (1, .int 0)]) hx hb dX6_runs_135 rfl hl (by decide) rfl (fun ls hl => ?_)
                            refine lv_goto (tgt := 19) hx hb dX6_runs_136 (by decide) ?_
                            exact ih (n9 + 1) u2 _ ls _ _ (by omega) (by have := (tAt_b hgo2).1; have := (tAt_b hgo2).2; omega) hgo2 t2 t5 t6 tS hP hD hS (lv_sub hl [4, 5, 2, 0] rfl)
                        · skip
                          obtain ⟨-, t6, t5⟩ := kk.resolve_left (fun z => hsep (Int32.le_antisymm z.1.2.2 z.1.2.1))
                          refine lv_istore (lv' := [(5, .int r3_), (3, .int 1), (2, .int x3), (4, .int 0), (0, .ref (b 0)), (1, .int 0)]) hx hb dX6_runs_121 hl (by decide) rfl (fun ls hl => ?_)
                          refine lv_aload_n hx hb dX6_runs_123 rfl (lv_at hl 4 rfl) ?_
                          refine va_get (D := D) (ci := 6) (v := .int (u2 6)) (C := RX6) (T := TX6) (N := 22) hx hb hts inwX6_runs_X6 hown hK hP 0 rfl rfl 15 (by decide) (hts (.fieldLink RX6 152 "PlateSlabsModel" "isWrong" "Z") (List.mem_of_getElem? (i := 2) rfl)) (fun _ h9 => h9) rfl dX6_runs_124 ?_
                          refine lv_tpi (z := 1) (t6) ?_
                          refine lv_if_ne (tgt := 134) hx hb dX6_runs_127 (by decide) (fun c127 => ?_) (fun c127 => ?_)
                          · skip
                            refine lv_iconst (v := 0) hx hb dX6_runs_134 (by decide) ?_
                            refine lv_istore_n (lv' := [(3, .int 0), (5, .int r3_), (2, .int x3), (4, .int 0), (0, .ref (b 0)), (1, .int 0)]) hx hb dX6_runs_135 rfl hl (by decide) rfl (fun ls hl => ?_)
                            refine lv_goto (tgt := 19) hx hb dX6_runs_136 (by decide) ?_
                            refine lv_iload_n hx hb dX6_runs_19 rfl (lv_at hl 0 rfl) ?_
                            refine lv_if_eq (tgt := 139) hx hb dX6_runs_20 (by decide) (fun c20 => ?_) (fun c20 => ?_)
                            · skip
                              refine lv_iload_n hx hb dX6_runs_139 rfl (lv_at hl 2 rfl) ?_
                              exact hret _ _ _ u2 _ _ dX6_runs_140 hS hP hD ⟨tS, t10, Or.inr ⟨n9, ⟨hgo, Or.inr ⟨hlt, hsep⟩⟩, t6, t5⟩⟩
                            · skip
                              exact absurd rfl c20
                          · skip
                            exact absurd c127 (by decide)
              · skip
                exact absurd (by decide) c68
            · skip
              exact absurd (by decide) c44
          · skip
            exact absurd rfl c28
        · skip
          refine lv_iload_n hx hb dX6_runs_27 rfl (lv_at hl 1 rfl) ?_
          refine lv_if_eq (tgt := 38) hx hb dX6_runs_28 (by decide) (fun c28 => ?_) (fun c28 => ?_)
          · skip
            refine lv_iconst (v := 0) hx hb dX6_runs_38 (by decide) ?_
            refine lv_istore (lv' := [(4, .int 0), (0, .ref (b 0)), (1, .int 0), (2, .int x2), (3, .int 1)]) hx hb dX6_runs_39 hl (by decide) rfl (fun ls hl => ?_)
            refine lv_aload_n hx hb dX6_runs_41 rfl (lv_at hl 1 rfl) ?_
            refine lv_iload hx hb dX6_runs_42 (lv_at hl 0 rfl) ?_
            refine lv_if_ge (tgt := 59) hx hb dX6_runs_44 (by decide) (fun c44 => ?_) (fun c44 => ?_)
            · skip
              refine lv_iconst (v := 0) hx hb dX6_runs_59 (by decide) ?_
              refine va_put (D := D) (ci := 6) (v := .int 0) (C := RX6) (T := TX6) (N := 22) hx hb hts inwX6_runs_X6 tyX6 tyX6_ok nmX6 hown hK hP hD hS 0 rfl rfl 19 (by decide) (hts (.fieldLink RX6 178 "PlateSlabsModel" "stop" "I") (List.mem_of_getElem? (i := 3) rfl)) (fun _ h9 => h9) rfl (tyX6_ok 19 (by decide)) (rfl) rfl (Nat.le_of_ble_eq_true rfl) dX6_runs_60 (fun H locs hP hD hS => ?_)
              have hP : va_P D vwCl [(b 0, .inr (6, moF b (upd u1 10 0))), ((b 9), .inl (T 0, 60, .inl (tx)))] H := hP
              have hD : va_D A [(b 0, .inr (6, moF b (upd u1 10 0))), ((b 9), .inl (T 0, 60, .inl (tx)))] := hD
              obtain ⟨w1, ew1⟩ : ∃ z, z = upd u1 10 0 := ⟨_, rfl⟩
              rw [← ew1] at hP hD
              have f2 : w1 2 = nI len := by rw [ew1]; exact f2
              have f5 : w1 5 = nI (tJ (tch tx len) (tAt (tch tx len) n9)) := by rw [ew1]; exact q5
              have f6 : w1 6 = 1 := by rw [ew1]; exact q6
              have f10 : w1 10 = 0 := by rw [ew1]; rfl
              have fS : vS v w1 := by rw [ew1]; exact vS_u qS _ (by decide) (by decide)
              have hP : va_P D vwCl [(b 0, .inr (6, moF b w1)), ((b 9), .inl (T 0, 60, .inl (tx)))] H := hP
              have hD : va_D A [(b 0, .inr (6, moF b w1)), ((b 9), .inl (T 0, 60, .inl (tx)))] := hD
              refine lv_iload_n hx hb dX6_runs_63 rfl (lv_at hl 3 rfl) ?_
              refine lv_aload_n hx hb dX6_runs_64 rfl (lv_at hl 1 rfl) ?_
              refine va_get (D := D) (ci := 6) (v := .int (w1 10)) (C := RX6) (T := TX6) (N := 22) hx hb hts inwX6_runs_X6 hown hK hP 0 rfl rfl 19 (by decide) (hts (.fieldLink RX6 178 "PlateSlabsModel" "stop" "I") (List.mem_of_getElem? (i := 3) rfl)) (fun _ h9 => h9) rfl dX6_runs_65 ?_
              refine lv_tpi (z := 0) (f10) ?_
              refine lv_if_ge (tgt := 75) hx hb dX6_runs_68 (by decide) (fun c68 => ?_) (fun c68 => ?_)
              · skip
                refine lv_iconst (v := 1) hx hb dX6_runs_75 (by decide) ?_
                refine lv_iadd hx hb dX6_runs_76 ?_
                refine lv_topi (fun x3 ex3 => ?_)
                refine lv_istore_n (lv' := [(2, .int x3), (4, .int 0), (0, .ref (b 0)), (1, .int 0), (3, .int 1)]) hx hb dX6_runs_77 rfl hl (by decide) rfl (fun ls hl => ?_)
                refine lv_aload_n hx hb dX6_runs_78 rfl (lv_at hl 2 rfl) ?_
                refine va_get (D := D) (ci := 6) (v := .int (w1 10)) (C := RX6) (T := TX6) (N := 22) hx hb hts inwX6_runs_X6 hown hK hP 0 rfl rfl 19 (by decide) (hts (.fieldLink RX6 178 "PlateSlabsModel" "stop" "I") (List.mem_of_getElem? (i := 3) rfl)) (fun _ h9 => h9) rfl dX6_runs_79 ?_
                refine lv_tpi (z := 0) (f10) ?_
                refine lv_if_ne (tgt := 107) hx hb dX6_runs_82 (by decide) (fun c82 => ?_) (fun c82 => ?_)
                · skip
                  exact absurd rfl c82
                · skip
                  refine lv_aload_n hx hb dX6_runs_85 rfl (lv_at hl 2 rfl) ?_
                  refine va_get (D := D) (ci := 6) (v := .int (w1 6)) (C := RX6) (T := TX6) (N := 22) hx hb hts inwX6_runs_X6 hown hK hP 0 rfl rfl 15 (by decide) (hts (.fieldLink RX6 152 "PlateSlabsModel" "isWrong" "Z") (List.mem_of_getElem? (i := 2) rfl)) (fun _ h9 => h9) rfl dX6_runs_86 ?_
                  refine lv_tpi (z := 1) (f6) ?_
                  refine lv_if_ne (tgt := 107) hx hb dX6_runs_89 (by decide) (fun c89 => ?_) (fun c89 => ?_)
                  · skip
                    refine lv_iconst (v := 0) hx hb dX6_runs_107 (by decide) ?_
                    refine lv_istore_n (lv' := [(3, .int 0), (2, .int x3), (4, .int 0), (0, .ref (b 0)), (1, .int 0)]) hx hb dX6_runs_108 rfl hl (by decide) rfl (fun ls hl => ?_)
                    refine lv_iload_n hx hb dX6_runs_109 rfl (lv_at hl 0 rfl) ?_
                    refine lv_if_eq (tgt := 136) hx hb dX6_runs_110 (by decide) (fun c110 => ?_) (fun c110 => ?_)
                    · skip
                      refine lv_goto (tgt := 19) hx hb dX6_runs_136 (by decide) ?_
                      refine lv_iload_n hx hb dX6_runs_19 rfl (lv_at hl 0 rfl) ?_
                      refine lv_if_eq (tgt := 139) hx hb dX6_runs_20 (by decide) (fun c20 => ?_) (fun c20 => ?_)
                      · skip
                        refine lv_iload_n hx hb dX6_runs_139 rfl (lv_at hl 1 rfl) ?_
                        exact hret _ _ _ w1 _ _ dX6_runs_140 hS hP hD ⟨fS, f10, Or.inr ⟨n9, ⟨hgo, Or.inl hno⟩, f6, f5⟩⟩
                      · skip
                        exact absurd rfl c20
                    · skip
                      exact absurd rfl c110
                  · skip
                    exact absurd c89 (by decide)
              · skip
                exact absurd (by decide) c68
            · skip
              exact absurd (by decide) c44
          · skip
            exact absurd rfl c28
  exact loop 62 0 v0 0 ls _ _ (by omega) (Nat.zero_le _) (fun k hk => absurd hk (by omega)) a2 a5 a6 aS hP hD hS (lv_sub hl [2, 3, 1, 0] rfl)

set_option maxHeartbeats 4000000 in
set_option maxRecDepth 100000 in
theorem mX6_runs1 (l : Launch) (T : Nat → ClassId) (D : va_G) (b : Nat → Nat) (v : Nat → Int32) (tx : Nat → Int32) (len : Nat) (hlen : len ≤ 60) (h2 : v 2 = nI len) (g : SG) (hg : gOk g) (m0 : Nat) (he : pEnd (tch tx len) len m0) : MuI l yX6_runs wsX6_runs rmX6_runs T xN D [.ref (b 0), .int 1] [(b 0, .inr (6, moF b v)), ((b 1), .inl (T 0, 43, .inl (mS g.1 g.2.1))), ((b 2), .inl (T 1, 12, .inr (.inl (mE g.2.2)))), ((b 9), .inl (T 0, 60, .inl (tx)))] (S := (Nat → Int32) × SG) (fun r u => vS v u.1 ∧ ((∃ n9, n9 ≤ m0 ∧ (∀ j, j < n9 → ¬ isE (rK (tch tx len) g j)) ∧ isE (rK (tch tx len) g n9) ∧ r = nI n9 ∧ u.1 10 = rK (tch tx len) g n9) ∨ ((∀ j, j ≤ m0 → ¬ isE (rK (tch tx len) g j)) ∧ r = nI (m0 + 1) ∧ u.1 10 = 0 ∧ u.2 = sK (tch tx len) g (m0 + 1)))) (fun u => moD T b u.1 u.2 tx) 0 0 := by
  refine met_mi (cc := cX6_runs) (maxL := 6) (by decide) rfl (Nat.le_of_ble_eq_true rfl) ?_
  intro p_ e s m args below meth c ls A Q hx hb hts hown hml hX hP hD hK hS hA hl hret
  have hl : lv_has ls 6 [(0, .ref (b 0)), (1, .int 1)] := hl
  obtain ⟨H, hH⟩ : ∃ H, H = s.heap := ⟨_, rfl⟩
  have hS : va_S A s.heap H [] := by rw [hH]; exact hS
  rw [← hH] at hP ⊢
  refine lv_aload_n hx hb dX6_runs_0 rfl (lv_at hl 0 rfl) ?_
  refine lv_iconst (v := 0) hx hb dX6_runs_1 (by decide) ?_
  refine va_put (D := D) (ci := 6) (v := .int 0) (C := RX6) (T := TX6) (N := 22) hx hb hts inwX6_runs_X6 tyX6 tyX6_ok nmX6 hown hK hP hD hS 0 rfl rfl 14 (by decide) (hts (.fieldLink RX6 156 "PlateSlabsModel" "position" "I") (List.mem_of_getElem? (i := 1) rfl)) (fun _ h9 => h9) rfl (tyX6_ok 14 (by decide)) (rfl) rfl (Nat.le_of_ble_eq_true rfl) dX6_runs_2 (fun H locs hP hD hS => ?_)
  have hP : va_P D vwCl [(b 0, .inr (6, moF b (upd v 5 0))), ((b 1), .inl (T 0, 43, .inl (mS g.1 g.2.1))), ((b 2), .inl (T 1, 12, .inr (.inl (mE g.2.2)))), ((b 9), .inl (T 0, 60, .inl (tx)))] H := hP
  have hD : va_D A [(b 0, .inr (6, moF b (upd v 5 0))), ((b 1), .inl (T 0, 43, .inl (mS g.1 g.2.1))), ((b 2), .inl (T 1, 12, .inr (.inl (mE g.2.2)))), ((b 9), .inl (T 0, 60, .inl (tx)))] := hD
  refine lv_aload_n hx hb dX6_runs_5 rfl (lv_at hl 0 rfl) ?_
  refine lv_iconst (v := 0) hx hb dX6_runs_6 (by decide) ?_
  refine va_put (D := D) (ci := 6) (v := .int 0) (C := RX6) (T := TX6) (N := 22) hx hb hts inwX6_runs_X6 tyX6 tyX6_ok nmX6 hown hK hP hD hS 0 rfl rfl 15 (by decide) (hts (.fieldLink RX6 152 "PlateSlabsModel" "isWrong" "Z") (List.mem_of_getElem? (i := 2) rfl)) (fun _ h9 => h9) rfl (tyX6_ok 15 (by decide)) (rfl) rfl (Nat.le_of_ble_eq_true rfl) dX6_runs_7 (fun H locs hP hD hS => ?_)
  have hP : va_P D vwCl [(b 0, .inr (6, moF b (upd (upd v 5 0) 6 0))), ((b 1), .inl (T 0, 43, .inl (mS g.1 g.2.1))), ((b 2), .inl (T 1, 12, .inr (.inl (mE g.2.2)))), ((b 9), .inl (T 0, 60, .inl (tx)))] H := hP
  have hD : va_D A [(b 0, .inr (6, moF b (upd (upd v 5 0) 6 0))), ((b 1), .inl (T 0, 43, .inl (mS g.1 g.2.1))), ((b 2), .inl (T 1, 12, .inr (.inl (mE g.2.2)))), ((b 9), .inl (T 0, 60, .inl (tx)))] := hD
  refine lv_aload_n hx hb dX6_runs_10 rfl (lv_at hl 0 rfl) ?_
  refine lv_iconst (v := 0) hx hb dX6_runs_11 (by decide) ?_
  refine va_put (D := D) (ci := 6) (v := .int 0) (C := RX6) (T := TX6) (N := 22) hx hb hts inwX6_runs_X6 tyX6 tyX6_ok nmX6 hown hK hP hD hS 0 rfl rfl 19 (by decide) (hts (.fieldLink RX6 178 "PlateSlabsModel" "stop" "I") (List.mem_of_getElem? (i := 3) rfl)) (fun _ h9 => h9) rfl (tyX6_ok 19 (by decide)) (rfl) rfl (Nat.le_of_ble_eq_true rfl) dX6_runs_12 (fun H locs hP hD hS => ?_)
  have hP : va_P D vwCl [(b 0, .inr (6, moF b (upd (upd (upd v 5 0) 6 0) 10 0))), ((b 1), .inl (T 0, 43, .inl (mS g.1 g.2.1))), ((b 2), .inl (T 1, 12, .inr (.inl (mE g.2.2)))), ((b 9), .inl (T 0, 60, .inl (tx)))] H := hP
  have hD : va_D A [(b 0, .inr (6, moF b (upd (upd (upd v 5 0) 6 0) 10 0))), ((b 1), .inl (T 0, 43, .inl (mS g.1 g.2.1))), ((b 2), .inl (T 1, 12, .inr (.inl (mE g.2.2)))), ((b 9), .inl (T 0, 60, .inl (tx)))] := hD
  refine lv_iconst (v := 0) hx hb dX6_runs_15 (by decide) ?_
  refine lv_istore_n (lv' := [(2, .int 0), (0, .ref (b 0)), (1, .int 1)]) hx hb dX6_runs_16 rfl hl (by decide) rfl (fun ls hl => ?_)
  refine lv_iconst (v := 1) hx hb dX6_runs_17 (by decide) ?_
  refine lv_istore_n (lv' := [(3, .int 1), (2, .int 0), (0, .ref (b 0)), (1, .int 1)]) hx hb dX6_runs_18 rfl hl (by decide) rfl (fun ls hl => ?_)
  obtain ⟨v0, ev0⟩ : ∃ z, z = upd (upd (upd v 5 0) 6 0) 10 0 := ⟨_, rfl⟩
  rw [← ev0] at hP hD
  have a2 : v0 2 = nI len := by rw [ev0]; exact h2
  have a5 : v0 5 = nI 0 := by rw [ev0]; rfl
  have a6 : v0 6 = 0 := by rw [ev0]; rfl
  have a10 : v0 10 = 0 := by rw [ev0]; rfl
  have aS : vS v v0 := by rw [ev0]; exact vS_u (vS_u (vS_u (vS_rf v) _ (by decide) (by decide)) _ (by decide) (by decide)) _ (by decide) (by decide)
  have loop : ∀ (j : Nat) (n9 : Nat) (u : Nat → Int32) (x2 : Int32) (ls : Array Slot) (H : Heap) (locs : List Loc), (62 ≤ n9 + j) → (n9 ≤ 61) → (pGo (tch tx len) len n9) → (u 2 = nI len) → (u 5 = nI (tAt (tch tx len) n9)) → (u 6 = 0) → (vS v u) → (n9 ≤ m0) → (∀ j, j < n9 → ¬ isE (rK (tch tx len) g j)) → (x2 = nI n9) → va_P D vwCl [(b 0, .inr (6, moF b u)), ((b 1), .inl (T 0, 43, .inl (mS ((sK (tch tx len) g n9).1) ((sK (tch tx len) g n9).2.1)))), ((b 2), .inl (T 1, 12, .inr (.inl (mE ((sK (tch tx len) g n9).2.2))))), ((b 9), .inl (T 0, 60, .inl (tx)))] H → va_D A [(b 0, .inr (6, moF b u)), ((b 1), .inl (T 0, 43, .inl (mS ((sK (tch tx len) g n9).1) ((sK (tch tx len) g n9).2.1)))), ((b 2), .inl (T 1, 12, .inr (.inl (mE ((sK (tch tx len) g n9).2.2))))), ((b 9), .inl (T 0, 60, .inl (tx)))] → va_S A s.heap H locs → lv_has ls 6 [(0, .ref (b 0)), (1, .int 1), (2, .int x2), (3, .int 1)] → W p_ l e rmX6_runs s m args below meth c H locs 0 0 Q (F0 m 19 ls []) := by
    intro j
    induction j with
    | zero => intro n9 u x2 ls H locs hm hi; exact absurd hm (by omega)
    | succ j ih =>
      intro n9 u x2 ls H locs hm hi hgo h2u h5u h6u huS hm0 hne hx2 hP hD hS hl
      have hb0 := tAt_b hgo
      have hb1 := tJ_b (i := tAt (tch tx len) n9) (tx := tx) hb0.2
      refine lv_iload_n hx hb dX6_runs_19 rfl (lv_at hl 3 rfl) ?_
      refine lv_if_eq (tgt := 139) hx hb dX6_runs_20 (by decide) (fun c20 => ?_) (fun c20 => ?_)
      · skip
        exact absurd c20 (by decide)
      · skip
        refine lv_aload_n hx hb dX6_runs_23 rfl (lv_at hl 0 rfl) ?_
        refine callMv (As := []) (wr := [((b 1), .inl (T 0, 43, .inl (mS ((sK (tch tx len) g n9).1) ((sK (tch tx len) g n9).2.1)))), ((b 2), .inl (T 1, 12, .inr (.inl (mE ((sK (tch tx len) g n9).2.2)))))]) ⟨hx, hb, hml, hown, hts⟩ (mX6_readThing l T D b u tx (tAt (tch tx len) n9) len hlen hb0.2 h2u h5u h6u) (cwV 0 hts gX6_runs_X6_readThing rfl rfl rfl pdX6_readThing ⟨Nat.le_of_ble_eq_true rfl, Nat.le_of_ble_eq_true rfl⟩) (p4_x hP) (d4_x hD) hK hS hA xN_bl (fun U _ hW => XN_warm hW hX) (ci := 6) rfl rfl rfl hl.1 rfl rfl (Nat.le_of_ble_eq_true rfl) dX6_runs_24 ⟨Nat.zero_le _, Nat.zero_le _⟩ (fun u2_ H locs eu2_ hP hD hS hkf => ?_)
        have hP := p4_y hP
        have hD := d4_y hD
        obtain ⟨u1, rfl⟩ : ∃ z, z = u2_ := ⟨_, rfl⟩
        have hP : va_P D vwCl [(b 0, .inr (6, moF b u1)), ((b 1), .inl (T 0, 43, .inl (mS ((sK (tch tx len) g n9).1) ((sK (tch tx len) g n9).2.1)))), ((b 2), .inl (T 1, 12, .inr (.inl (mE ((sK (tch tx len) g n9).2.2))))), ((b 9), .inl (T 0, 60, .inl (tx)))] H := hP
        have hD : va_D A [(b 0, .inr (6, moF b u1)), ((b 1), .inl (T 0, 43, .inl (mS ((sK (tch tx len) g n9).1) ((sK (tch tx len) g n9).2.1)))), ((b 2), .inl (T 1, 12, .inr (.inl (mE ((sK (tch tx len) g n9).2.2))))), ((b 9), .inl (T 0, 60, .inl (tx)))] := hD
        obtain ⟨qT, q5, qq⟩ := eu2_
        have f2 : u1 2 = nI len := (qT 2 (by omega)).trans h2u
        have qS : vS v u1 := vS_T huS qT
        have hok : tOk (tch tx len) (tAt (tch tx len) n9) := by
          rcases Nat.lt_or_ge n9 m0 with q | q
          · exact (he.1 n9 q).1
          · rw [show n9 = m0 by omega]; exact he.2.1
        obtain ⟨-, q6, q7, q8, q9⟩ := qq.resolve_right (fun z => z.1 hok)
        refine lv_iload_n hx hb dX6_runs_27 rfl (lv_at hl 1 rfl) ?_
        refine lv_if_eq (tgt := 38) hx hb dX6_runs_28 (by decide) (fun c28 => ?_) (fun c28 => ?_)
        · skip
          exact absurd c28 (by decide)
        · skip
          refine lv_aload_n hx hb dX6_runs_31 rfl (lv_at hl 0 rfl) ?_
          refine callMi (As := []) (wr := [((b 9), .inl (T 0, 60, .inl (tx)))]) ⟨hx, hb, hml, hown, hts⟩ (mX6_does l T D b u1 (sK (tch tx len) g n9).1 (sK (tch tx len) g n9).2.1 (sK (tch tx len) g n9).2.2 (gOk_sK hg hgo) _ _ _ q7 q8 q9 (tBd_of hok)) (cwV 0 hts gX6_runs_X6_does rfl rfl rfl pdX6_does ⟨Nat.le_of_ble_eq_true rfl, Nat.le_of_ble_eq_true rfl⟩) hP hD hK hS hA xN_bl (fun U _ hW => XN_warm hW hX) (ci := 6) rfl rfl rfl hl.1 rfl rfl (Nat.le_of_ble_eq_true rfl) dX6_runs_32 ⟨Nat.zero_le _, Nat.zero_le _⟩ (fun r3_ u4_ H locs eu4_ hP hD hS hkf => ?_)
          obtain rfl : r3_ = rK (tch tx len) g n9 := congrArg Prod.fst eu4_
          obtain rfl : u4_ = sK (tch tx len) g (n9 + 1) := congrArg Prod.snd eu4_
          have hP : va_P D vwCl [(b 0, .inr (6, moF b u1)), ((b 1), .inl (T 0, 43, .inl (mS ((sK (tch tx len) g (n9 + 1)).1) ((sK (tch tx len) g (n9 + 1)).2.1)))), ((b 2), .inl (T 1, 12, .inr (.inl (mE ((sK (tch tx len) g (n9 + 1)).2.2))))), ((b 9), .inl (T 0, 60, .inl (tx)))] H := hP
          have hD : va_D A [(b 0, .inr (6, moF b u1)), ((b 1), .inl (T 0, 43, .inl (mS ((sK (tch tx len) g (n9 + 1)).1) ((sK (tch tx len) g (n9 + 1)).2.1)))), ((b 2), .inl (T 1, 12, .inr (.inl (mE ((sK (tch tx len) g (n9 + 1)).2.2))))), ((b 9), .inl (T 0, 60, .inl (tx)))] := hD
          refine lv_goto (tgt := 39) hx hb dX6_runs_35 (by decide) ?_
          refine lv_istore (lv' := [(4, .int (rK (tch tx len) g n9)), (0, .ref (b 0)), (1, .int 1), (2, .int x2), (3, .int 1)]) hx hb dX6_runs_39 hl (by decide) rfl (fun ls hl => ?_)
          have hJ60 : ∀  (ls : Array Slot), (¬ isE (rK (tch tx len) g n9)) → lv_has ls 6 [(4, .int (rK (tch tx len) g n9)), (0, .ref (b 0)), (1, .int 1), (2, .int x2), (3, .int 1)] → W p_ l e rmX6_runs s m args below meth c H locs 0 0 Q (F0 m 60 ls [.int 0, .ref (b 0)]) := by
            intro ls hnE hl
            refine va_put (D := D) (ci := 6) (v := .int 0) (C := RX6) (T := TX6) (N := 22) hx hb hts inwX6_runs_X6 tyX6 tyX6_ok nmX6 hown hK hP hD hS 0 rfl rfl 19 (by decide) (hts (.fieldLink RX6 178 "PlateSlabsModel" "stop" "I") (List.mem_of_getElem? (i := 3) rfl)) (fun _ h9 => h9) rfl (tyX6_ok 19 (by decide)) (rfl) rfl (Nat.le_of_ble_eq_true rfl) dX6_runs_60 (fun H locs hP hD hS => ?_)
            have hP : va_P D vwCl [(b 0, .inr (6, moF b (upd u1 10 0))), ((b 1), .inl (T 0, 43, .inl (mS ((sK (tch tx len) g (n9 + 1)).1) ((sK (tch tx len) g (n9 + 1)).2.1)))), ((b 2), .inl (T 1, 12, .inr (.inl (mE ((sK (tch tx len) g (n9 + 1)).2.2))))), ((b 9), .inl (T 0, 60, .inl (tx)))] H := hP
            have hD : va_D A [(b 0, .inr (6, moF b (upd u1 10 0))), ((b 1), .inl (T 0, 43, .inl (mS ((sK (tch tx len) g (n9 + 1)).1) ((sK (tch tx len) g (n9 + 1)).2.1)))), ((b 2), .inl (T 1, 12, .inr (.inl (mE ((sK (tch tx len) g (n9 + 1)).2.2))))), ((b 9), .inl (T 0, 60, .inl (tx)))] := hD
            obtain ⟨w1, ew1⟩ : ∃ z, z = upd u1 10 0 := ⟨_, rfl⟩
            rw [← ew1] at hP hD
            have f2 : w1 2 = nI len := by rw [ew1]; exact f2
            have f5 : w1 5 = nI (tJ (tch tx len) (tAt (tch tx len) n9)) := by rw [ew1]; exact q5
            have f6 : w1 6 = 0 := by rw [ew1]; exact q6
            have f10 : w1 10 = 0 := by rw [ew1]; rfl
            have fS : vS v w1 := by rw [ew1]; exact vS_u qS _ (by decide) (by decide)
            have hP : va_P D vwCl [(b 0, .inr (6, moF b w1)), ((b 1), .inl (T 0, 43, .inl (mS ((sK (tch tx len) g (n9 + 1)).1) ((sK (tch tx len) g (n9 + 1)).2.1)))), ((b 2), .inl (T 1, 12, .inr (.inl (mE ((sK (tch tx len) g (n9 + 1)).2.2))))), ((b 9), .inl (T 0, 60, .inl (tx)))] H := hP
            have hD : va_D A [(b 0, .inr (6, moF b w1)), ((b 1), .inl (T 0, 43, .inl (mS ((sK (tch tx len) g (n9 + 1)).1) ((sK (tch tx len) g (n9 + 1)).2.1)))), ((b 2), .inl (T 1, 12, .inr (.inl (mE ((sK (tch tx len) g (n9 + 1)).2.2))))), ((b 9), .inl (T 0, 60, .inl (tx)))] := hD
            refine lv_iload_n hx hb dX6_runs_63 rfl (lv_at hl 3 rfl) ?_
            refine lv_aload_n hx hb dX6_runs_64 rfl (lv_at hl 1 rfl) ?_
            refine va_get (D := D) (ci := 6) (v := .int (w1 10)) (C := RX6) (T := TX6) (N := 22) hx hb hts inwX6_runs_X6 hown hK hP 0 rfl rfl 19 (by decide) (hts (.fieldLink RX6 178 "PlateSlabsModel" "stop" "I") (List.mem_of_getElem? (i := 3) rfl)) (fun _ h9 => h9) rfl dX6_runs_65 ?_
            refine lv_tpi (z := 0) (f10) ?_
            refine lv_if_ge (tgt := 75) hx hb dX6_runs_68 (by decide) (fun c68 => ?_) (fun c68 => ?_)
            · skip
              refine lv_iconst (v := 1) hx hb dX6_runs_75 (by decide) ?_
              refine lv_iadd hx hb dX6_runs_76 ?_
              refine lv_tpi (z := nI (n9 + 1)) (by rw [hx2]; exact nI_1 n9) ?_
              refine lv_istore_n (lv' := [(2, .int (nI (n9 + 1))), (4, .int (rK (tch tx len) g n9)), (0, .ref (b 0)), (1, .int 1), (3, .int 1)]) hx hb dX6_runs_77 rfl hl (by decide) rfl (fun ls hl => ?_)
              refine lv_aload_n hx hb dX6_runs_78 rfl (lv_at hl 2 rfl) ?_
              refine va_get (D := D) (ci := 6) (v := .int (w1 10)) (C := RX6) (T := TX6) (N := 22) hx hb hts inwX6_runs_X6 hown hK hP 0 rfl rfl 19 (by decide) (hts (.fieldLink RX6 178 "PlateSlabsModel" "stop" "I") (List.mem_of_getElem? (i := 3) rfl)) (fun _ h9 => h9) rfl dX6_runs_79 ?_
              refine lv_tpi (z := 0) (f10) ?_
              refine lv_if_ne (tgt := 107) hx hb dX6_runs_82 (by decide) (fun c82 => ?_) (fun c82 => ?_)
              · skip
                exact absurd rfl c82
              · skip
                refine lv_aload_n hx hb dX6_runs_85 rfl (lv_at hl 2 rfl) ?_
                refine va_get (D := D) (ci := 6) (v := .int (w1 6)) (C := RX6) (T := TX6) (N := 22) hx hb hts inwX6_runs_X6 hown hK hP 0 rfl rfl 15 (by decide) (hts (.fieldLink RX6 152 "PlateSlabsModel" "isWrong" "Z") (List.mem_of_getElem? (i := 2) rfl)) (fun _ h9 => h9) rfl dX6_runs_86 ?_
                refine lv_tpi (z := 0) (f6) ?_
                refine lv_if_ne (tgt := 107) hx hb dX6_runs_89 (by decide) (fun c89 => ?_) (fun c89 => ?_)
                · skip
                  exact absurd rfl c89
                · skip
                  refine lv_aload_n hx hb dX6_runs_92 rfl (lv_at hl 2 rfl) ?_
                  refine va_get (D := D) (ci := 6) (v := .int (w1 5)) (C := RX6) (T := TX6) (N := 22) hx hb hts inwX6_runs_X6 hown hK hP 0 rfl rfl 14 (by decide) (hts (.fieldLink RX6 156 "PlateSlabsModel" "position" "I") (List.mem_of_getElem? (i := 1) rfl)) (fun _ h9 => h9) rfl dX6_runs_93 ?_
                  refine lv_tpi (z := nI (tJ (tch tx len) (tAt (tch tx len) n9))) (f5) ?_
                  refine lv_aload_n hx hb dX6_runs_96 rfl (lv_at hl 2 rfl) ?_
                  refine va_get (D := D) (ci := 6) (v := .int (w1 2)) (C := RX6) (T := TX6) (N := 22) hx hb hts inwX6_runs_X6 hown hK hP 0 rfl rfl 11 (by decide) (hts (.fieldLink RX6 149 "PlateSlabsModel" "length" "I") (List.mem_of_getElem? (i := 4) rfl)) (fun _ h9 => h9) rfl dX6_runs_97 ?_
                  refine lv_tpi (z := nI len) (f2) ?_
                  refine lv_icmp_ge (tgt := 107) hx hb dX6_runs_100 (by decide) (fun c100 => ?_) (fun c100 => ?_)
                  · skip
                    have hge : len ≤ tJ (tch tx len) (tAt (tch tx len) n9) := (nI_leI (by omega) (by have := hb1.2.1; omega)).mp c100
                    have heq : tJ (tch tx len) (tAt (tch tx len) n9) = len := by have := hb1.2.1; omega
                    have em : n9 = m0 := by
                      rcases Nat.lt_or_ge n9 m0 with q | q
                      · have := (he.1 n9 q).2.1
                        omega
                      · omega
                    refine lv_iconst (v := 0) hx hb dX6_runs_107 (by decide) ?_
                    refine lv_istore_n (lv' := [(3, .int 0), (2, .int (nI (n9 + 1))), (4, .int (rK (tch tx len) g n9)), (0, .ref (b 0)), (1, .int 1)]) hx hb dX6_runs_108 rfl hl (by decide) rfl (fun ls hl => ?_)
                    refine lv_iload_n hx hb dX6_runs_109 rfl (lv_at hl 0 rfl) ?_
                    refine lv_if_eq (tgt := 136) hx hb dX6_runs_110 (by decide) (fun c110 => ?_) (fun c110 => ?_)
                    · skip
                      refine lv_goto (tgt := 19) hx hb dX6_runs_136 (by decide) ?_
                      refine lv_iload_n hx hb dX6_runs_19 rfl (lv_at hl 0 rfl) ?_
                      refine lv_if_eq (tgt := 139) hx hb dX6_runs_20 (by decide) (fun c20 => ?_) (fun c20 => ?_)
                      · skip
                        refine lv_iload_n hx hb dX6_runs_139 rfl (lv_at hl 1 rfl) ?_
                        subst em
                        have ne3 : ∀ j, j ≤ n9 → ¬ isE (rK (tch tx len) g j) := fun j hj => by
                          rcases Nat.lt_or_ge j n9 with q | q
                          · exact hne j q
                          · rw [show j = n9 by omega]; exact hnE
                        exact hret _ _ _ (w1, sK (tch tx len) g (n9 + 1)) _ _ dX6_runs_140 hS hP hD ⟨fS, Or.inr ⟨ne3, rfl, f10, rfl⟩⟩
                      · skip
                        exact absurd rfl c20
                    · skip
                      exact absurd rfl c110
                  · skip
                    have hlt : tJ (tch tx len) (tAt (tch tx len) n9) < len := by
                      have := mt (nI_leI (a := len) (b := tJ (tch tx len) (tAt (tch tx len) n9)) (by omega) (by have := hb1.2.1; omega)).mpr c100
                      omega
                    have ml : n9 < m0 := by
                      rcases Nat.lt_or_ge n9 m0 with q | q
                      · exact q
                      · have e1 := he.2.2
                        rw [show m0 = n9 by omega] at e1
                        omega
                    have hsep : (tch tx len) (tJ (tch tx len) (tAt (tch tx len) n9)) = 59 := (he.1 n9 ml).2.2
                    refine lv_iconst (v := 1) hx hb dX6_runs_103 (by decide) ?_
                    refine lv_goto (tgt := 108) hx hb dX6_runs_104 (by decide) ?_
                    refine lv_istore_n (lv' := [(3, .int 1), (2, .int (nI (n9 + 1))), (4, .int (rK (tch tx len) g n9)), (0, .ref (b 0)), (1, .int 1)]) hx hb dX6_runs_108 rfl hl (by decide) rfl (fun ls hl => ?_)
                    refine lv_iload_n hx hb dX6_runs_109 rfl (lv_at hl 0 rfl) ?_
                    refine lv_if_eq (tgt := 136) hx hb dX6_runs_110 (by decide) (fun c110 => ?_) (fun c110 => ?_)
                    · skip
                      exact absurd c110 (by decide)
                    · skip
                      refine lv_aload_n hx hb dX6_runs_113 rfl (lv_at hl 3 rfl) ?_
                      refine lv_bipush (v := 59) hx hb dX6_runs_114 (by decide) ?_
                      refine lv_bipush (v := 59) hx hb dX6_runs_116 (by decide) ?_
                      refine callMi (As := [.int 59, .int 59]) (wr := [((b 1), .inl (T 0, 43, .inl (mS ((sK (tch tx len) g (n9 + 1)).1) ((sK (tch tx len) g (n9 + 1)).2.1)))), ((b 2), .inl (T 1, 12, .inr (.inl (mE ((sK (tch tx len) g (n9 + 1)).2.2)))))]) ⟨hx, hb, hml, hown, hts⟩ (mX6_takes l T D b w1 tx (tJ (tch tx len) (tAt (tch tx len) n9)) len hlen hb1.2.1 f2 f5 (Or.inl f6) 59 59) (cwV 2 hts gX6_runs_X6_takes rfl rfl rfl pdX6_takes ⟨Nat.le_of_ble_eq_true rfl, Nat.le_of_ble_eq_true rfl⟩) (p4_x hP) (d4_x hD) hK hS hA xN_bl (fun U _ hW => XN_warm hW hX) (ci := 6) rfl rfl rfl hl.1 rfl rfl (Nat.le_of_ble_eq_true rfl) dX6_runs_118 ⟨Nat.zero_le _, Nat.zero_le _⟩ (fun r5_ u6_ H locs eu6_ hP hD hS hkf => ?_)
                      have hP := p4_y hP
                      have hD := d4_y hD
                      obtain ⟨u2, rfl⟩ : ∃ z, z = u6_ := ⟨_, rfl⟩
                      have hP : va_P D vwCl [(b 0, .inr (6, moF b u2)), ((b 1), .inl (T 0, 43, .inl (mS ((sK (tch tx len) g (n9 + 1)).1) ((sK (tch tx len) g (n9 + 1)).2.1)))), ((b 2), .inl (T 1, 12, .inr (.inl (mE ((sK (tch tx len) g (n9 + 1)).2.2))))), ((b 9), .inl (T 0, 60, .inl (tx)))] H := hP
                      have hD : va_D A [(b 0, .inr (6, moF b u2)), ((b 1), .inl (T 0, 43, .inl (mS ((sK (tch tx len) g (n9 + 1)).1) ((sK (tch tx len) g (n9 + 1)).2.1)))), ((b 2), .inl (T 1, 12, .inr (.inl (mE ((sK (tch tx len) g (n9 + 1)).2.2))))), ((b 9), .inl (T 0, 60, .inl (tx)))] := hD
                      obtain ⟨ew2, kR, kk⟩ := eu6_
                      have t2 : u2 2 = nI len := (kR 2 (by decide) (by decide)).trans f2
                      have tS : vS v u2 := vS_R fS kR
                      have t10 : u2 10 = 0 := (kR 10 (by decide) (by decide)).trans f10
                      obtain ⟨-, t6, t5⟩ := kk.resolve_right (fun z => z.1 ⟨f6, by rw [hsep]; decide⟩)
                      have ne2 : ∀ j, j < n9 + 1 → ¬ isE (rK (tch tx len) g j) := fun j hj => by
                        rcases Nat.lt_or_ge j n9 with q | q
                        · exact hne j q
                        · rw [show j = n9 by omega]; exact hnE
                      refine lv_istore (lv' := [(5, .int r5_), (3, .int 1), (2, .int (nI (n9 + 1))), (4, .int (rK (tch tx len) g n9)), (0, .ref (b 0)), (1, .int 1)]) hx hb dX6_runs_121 hl (by decide) rfl (fun ls hl => ?_)
                      refine lv_aload_n hx hb dX6_runs_123 rfl (lv_at hl 4 rfl) ?_
                      refine va_get (D := D) (ci := 6) (v := .int (u2 6)) (C := RX6) (T := TX6) (N := 22) hx hb hts inwX6_runs_X6 hown hK hP 0 rfl rfl 15 (by decide) (hts (.fieldLink RX6 152 "PlateSlabsModel" "isWrong" "Z") (List.mem_of_getElem? (i := 2) rfl)) (fun _ h9 => h9) rfl dX6_runs_124 ?_
                      refine lv_tpi (z := 0) (t6) ?_
                      refine lv_if_ne (tgt := 134) hx hb dX6_runs_127 (by decide) (fun c127 => ?_) (fun c127 => ?_)
                      · skip
                        exact absurd rfl c127
                      · skip
                        refine lv_iconst (v := 1) hx hb dX6_runs_130 (by decide) ?_
                        refine lv_goto (tgt := 135) hx hb dX6_runs_131 (by decide) ?_
                        refine lv_istore_n (lv' := [(3, .int 1), (5, .int r5_), (2, .int (nI (n9 + 1))), (4, .int (rK (tch tx len) g n9)), (0, .ref (b 0)), (1, .int 1)]) hx hb dX6_runs_135 rfl hl (by decide) rfl (fun ls hl => ?_)
                        refine lv_goto (tgt := 19) hx hb dX6_runs_136 (by decide) ?_
                        exact ih (n9 + 1) u2 _ ls _ _ (by omega) (by have := (tAt_b (pGo_s hgo (he.1 n9 ml))).1; have := (tAt_b (pGo_s hgo (he.1 n9 ml))).2; omega) (pGo_s hgo (he.1 n9 ml)) t2 t5 t6 tS ml ne2 rfl hP hD hS (lv_sub hl [4, 5, 2, 0] rfl)
            · skip
              exact absurd (by decide) c68
          skip
          refine lv_aload_n hx hb dX6_runs_41 rfl (lv_at hl 1 rfl) ?_
          refine lv_iload hx hb dX6_runs_42 (lv_at hl 0 rfl) ?_
          refine lv_if_ge (tgt := 59) hx hb dX6_runs_44 (by decide) (fun c44 => ?_) (fun c44 => ?_)
          · skip
            refine lv_iconst (v := 0) hx hb dX6_runs_59 (by decide) ?_
            exact hJ60 ls (fun z => absurd c44 (Int32.not_le.mpr z.1)) (lv_sub hl [0, 1, 2, 3, 4] rfl)
          · skip
            refine lv_iload hx hb dX6_runs_47 (lv_at hl 0 rfl) ?_
            refine lv_bipush (v := (-5)) hx hb dX6_runs_49 (by decide) ?_
            refine lv_icmp_eq (tgt := 59) hx hb dX6_runs_51 (by decide) (fun c51 => ?_) (fun c51 => ?_)
            · skip
              refine lv_iconst (v := 0) hx hb dX6_runs_59 (by decide) ?_
              exact hJ60 ls (fun z => z.2 c51) (lv_sub hl [0, 1, 2, 3, 4] rfl)
            · skip
              have hE : isE (rK (tch tx len) g n9) := ⟨Int32.not_le.mp c44, c51⟩
              refine lv_iload hx hb dX6_runs_54 (lv_at hl 0 rfl) ?_
              refine lv_goto (tgt := 60) hx hb dX6_runs_56 (by decide) ?_
              refine va_put (D := D) (ci := 6) (v := .int (rK (tch tx len) g n9)) (C := RX6) (T := TX6) (N := 22) hx hb hts inwX6_runs_X6 tyX6 tyX6_ok nmX6 hown hK hP hD hS 0 rfl rfl 19 (by decide) (hts (.fieldLink RX6 178 "PlateSlabsModel" "stop" "I") (List.mem_of_getElem? (i := 3) rfl)) (fun _ h9 => h9) rfl (tyX6_ok 19 (by decide)) (rfl) rfl (Nat.le_of_ble_eq_true rfl) dX6_runs_60 (fun H locs hP hD hS => ?_)
              have hP : va_P D vwCl [(b 0, .inr (6, moF b (upd u1 10 (rK (tch tx len) g n9)))), ((b 1), .inl (T 0, 43, .inl (mS ((sK (tch tx len) g (n9 + 1)).1) ((sK (tch tx len) g (n9 + 1)).2.1)))), ((b 2), .inl (T 1, 12, .inr (.inl (mE ((sK (tch tx len) g (n9 + 1)).2.2))))), ((b 9), .inl (T 0, 60, .inl (tx)))] H := hP
              have hD : va_D A [(b 0, .inr (6, moF b (upd u1 10 (rK (tch tx len) g n9)))), ((b 1), .inl (T 0, 43, .inl (mS ((sK (tch tx len) g (n9 + 1)).1) ((sK (tch tx len) g (n9 + 1)).2.1)))), ((b 2), .inl (T 1, 12, .inr (.inl (mE ((sK (tch tx len) g (n9 + 1)).2.2))))), ((b 9), .inl (T 0, 60, .inl (tx)))] := hD
              obtain ⟨w1, ew1⟩ : ∃ z, z = upd u1 10 (rK (tch tx len) g n9) := ⟨_, rfl⟩
              rw [← ew1] at hP hD
              have f2 : w1 2 = nI len := by rw [ew1]; exact f2
              have f5 : w1 5 = nI (tJ (tch tx len) (tAt (tch tx len) n9)) := by rw [ew1]; exact q5
              have f6 : w1 6 = 0 := by rw [ew1]; exact q6
              have f10 : w1 10 = rK (tch tx len) g n9 := by rw [ew1]; rfl
              have fS : vS v w1 := by rw [ew1]; exact vS_u qS _ (by decide) (by decide)
              have hP : va_P D vwCl [(b 0, .inr (6, moF b w1)), ((b 1), .inl (T 0, 43, .inl (mS ((sK (tch tx len) g (n9 + 1)).1) ((sK (tch tx len) g (n9 + 1)).2.1)))), ((b 2), .inl (T 1, 12, .inr (.inl (mE ((sK (tch tx len) g (n9 + 1)).2.2))))), ((b 9), .inl (T 0, 60, .inl (tx)))] H := hP
              have hD : va_D A [(b 0, .inr (6, moF b w1)), ((b 1), .inl (T 0, 43, .inl (mS ((sK (tch tx len) g (n9 + 1)).1) ((sK (tch tx len) g (n9 + 1)).2.1)))), ((b 2), .inl (T 1, 12, .inr (.inl (mE ((sK (tch tx len) g (n9 + 1)).2.2))))), ((b 9), .inl (T 0, 60, .inl (tx)))] := hD
              refine lv_iload_n hx hb dX6_runs_63 rfl (lv_at hl 3 rfl) ?_
              refine lv_aload_n hx hb dX6_runs_64 rfl (lv_at hl 1 rfl) ?_
              refine va_get (D := D) (ci := 6) (v := .int (w1 10)) (C := RX6) (T := TX6) (N := 22) hx hb hts inwX6_runs_X6 hown hK hP 0 rfl rfl 19 (by decide) (hts (.fieldLink RX6 178 "PlateSlabsModel" "stop" "I") (List.mem_of_getElem? (i := 3) rfl)) (fun _ h9 => h9) rfl dX6_runs_65 ?_
              refine lv_tpi (z := rK (tch tx len) g n9) (f10) ?_
              refine lv_if_ge (tgt := 75) hx hb dX6_runs_68 (by decide) (fun c68 => ?_) (fun c68 => ?_)
              · skip
                exact absurd c68 (Int32.not_le.mpr hE.1)
              · skip
                refine lv_iconst (v := 0) hx hb dX6_runs_71 (by decide) ?_
                refine lv_goto (tgt := 76) hx hb dX6_runs_72 (by decide) ?_
                refine lv_iadd hx hb dX6_runs_76 ?_
                refine lv_tpi (z := x2) (Int32.add_zero _) ?_
                refine lv_istore_n (lv' := [(2, .int x2), (4, .int (rK (tch tx len) g n9)), (0, .ref (b 0)), (1, .int 1), (3, .int 1)]) hx hb dX6_runs_77 rfl hl (by decide) rfl (fun ls hl => ?_)
                refine lv_aload_n hx hb dX6_runs_78 rfl (lv_at hl 2 rfl) ?_
                refine va_get (D := D) (ci := 6) (v := .int (w1 10)) (C := RX6) (T := TX6) (N := 22) hx hb hts inwX6_runs_X6 hown hK hP 0 rfl rfl 19 (by decide) (hts (.fieldLink RX6 178 "PlateSlabsModel" "stop" "I") (List.mem_of_getElem? (i := 3) rfl)) (fun _ h9 => h9) rfl dX6_runs_79 ?_
                refine lv_tpi (z := rK (tch tx len) g n9) (f10) ?_
                refine lv_if_ne (tgt := 107) hx hb dX6_runs_82 (by decide) (fun c82 => ?_) (fun c82 => ?_)
                · skip
                  refine lv_iconst (v := 0) hx hb dX6_runs_107 (by decide) ?_
                  refine lv_istore_n (lv' := [(3, .int 0), (2, .int x2), (4, .int (rK (tch tx len) g n9)), (0, .ref (b 0)), (1, .int 1)]) hx hb dX6_runs_108 rfl hl (by decide) rfl (fun ls hl => ?_)
                  refine lv_iload_n hx hb dX6_runs_109 rfl (lv_at hl 0 rfl) ?_
                  refine lv_if_eq (tgt := 136) hx hb dX6_runs_110 (by decide) (fun c110 => ?_) (fun c110 => ?_)
                  · skip
                    refine lv_goto (tgt := 19) hx hb dX6_runs_136 (by decide) ?_
                    refine lv_iload_n hx hb dX6_runs_19 rfl (lv_at hl 0 rfl) ?_
                    refine lv_if_eq (tgt := 139) hx hb dX6_runs_20 (by decide) (fun c20 => ?_) (fun c20 => ?_)
                    · skip
                      refine lv_iload_n hx hb dX6_runs_139 rfl (lv_at hl 1 rfl) ?_
                      exact hret _ _ _ (w1, sK (tch tx len) g (n9 + 1)) _ _ dX6_runs_140 hS hP hD ⟨fS, Or.inl ⟨n9, hm0, hne, hE, hx2, f10⟩⟩
                    · skip
                      exact absurd rfl c20
                  · skip
                    exact absurd rfl c110
                · skip
                  exact absurd hE.1 (by rw [c82]; decide)
  exact loop 62 0 v0 0 ls _ _ (by omega) (Nat.zero_le _) (fun k hk => absurd hk (by omega)) a2 a5 a6 aS (Nat.zero_le _) (fun j hj => absurd hj (by omega)) rfl hP hD hS (lv_sub hl [2, 3, 1, 0] rfl)

