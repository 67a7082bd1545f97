section LAW
variable {p : Program} {l : Launch} {e : Env} {s : State} {m : MethodId} {below : List Frame} {meth : Method} {c : Code} {Q : State → Prop} {bq L : Nat} {xs : Nat → Int32} {T : Nat → ClassId} {D : va_G} {z a q : Nat} {b1 b2 b3 h y r : Nat → Nat}
set_option maxHeartbeats 4000000 in
set_option maxRecDepth 100000 in
theorem lc_pair (C : lwC p s m c bq L xs T D) {i : Nat} (hi : i + 4 ≤ L) (kk : lwB p l e s m below meth c Q bq T D z a q b1 b2 b3 h y r 702 i) : lwB p l e s m below meth c Q bq T D z a q b1 b2 b3 h y r 441 i := by
  obtain ⟨hx, hb, hml, hown, hts, hsx, hbl, hK, hXS, hL⟩ := C
  have hX := hXS.1
  have hA : ∀ q9 : Nat, s.heap.size ≤ q9 → (fun q9 : Nat => s.heap.size ≤ q9) q9 := fun _ h9 => h9
  have hbA : ¬ (fun q9 : Nat => s.heap.size ≤ q9) bq := Nat.not_le.mpr hbl
  intro d k0 k1 k2 k3 n σ g gb gs V G w K9 A9 W9 tx len v ia ea ik ek ib eb H locs ls hi9 hP hD hS hl
  refine lv_aload_n hx hb dL_law_441 rfl (lv_at hl 2 rfl) ?_
  refine lv_aload_n hx hb dL_law_442 rfl (lv_at hl 1 rfl) ?_
  refine lv_iload_n hx hb dL_law_443 rfl (lv_at hl 0 rfl) ?_
  refine lv_iconst (v := nI 1) hx hb dL_law_444 (by decide) ?_
  refine lv_iadd hx hb dL_law_445 ?_
  refine lv_tpi (nI_add i 1) ?_
  refine va_sld hx hb hsx hbl hbA hS (vp_in_nI (by omega) (by omega)) dL_law_446 ?_
  refine lv_tpi (congrArg xs (nI_clamp (by omega))) ?_
  refine lv_aload_n hx hb dL_law_447 rfl (lv_at hl 1 rfl) ?_
  refine lv_iload_n hx hb dL_law_448 rfl (lv_at hl 0 rfl) ?_
  refine lv_iconst (v := nI 2) hx hb dL_law_449 (by decide) ?_
  refine lv_iadd hx hb dL_law_450 ?_
  refine lv_tpi (nI_add i 2) ?_
  refine va_sld hx hb hsx hbl hbA hS (vp_in_nI (by omega) (by omega)) dL_law_451 ?_
  refine lv_tpi (congrArg xs (nI_clamp (by omega))) ?_
  refine callRi (As := [.int (xs (i + 1)), .int (xs (i + 2))]) ⟨hx, hb, hml, hown, hts⟩ (mX5_pair l T D z (b2 0) (b3 0) (h 0) a (y 0) k0 k1 k2 k3 b1 g.1 g.2.1 g.2.2 (li_g hi9).1 (xs (i + 1)) (xs (i + 2))) (cwV 2 hts gL_law_X5_pair rfl rfl rfl pdX5_pair ⟨Nat.le_of_ble_eq_true rfl, Nat.le_of_ble_eq_true rfl⟩) (wP_left (fP2.mp (bP (bs := [moW T r v (mS g.1 g.2.1) (mE g.2.2) ia ea ik ek ib eb tx, obW z b1 b2 b3 h a y k0 k1 k2 k3, sgW T b1 g, hiW T h d n σ, sgW T b2 gb, sgW T b3 gs, plW T a q V G, siA T y w tx len, siB T y K9 A9 W9]) (bs' := [obW z b1 b2 b3 h a y k0 k1 k2 k3, sgW T b1 g, moW T r v (mS g.1 g.2.1) (mE g.2.2) ia ea ik ek ib eb tx, hiW T h d n σ, sgW T b2 gb, sgW T b3 gs, plW T a q V G, siA T y w tx len, siB T y K9 A9 W9]) hP [1, 2, 0, 3, 4, 5, 6, 7, 8] rfl rfl))) hK xN_bl (fun U _ hW => XN_warm hW hX) (ci := 5) rfl rfl rfl hl.1 rfl rfl (Nat.le_of_ble_eq_true rfl) dL_law_452 ⟨Nat.le_of_ble_eq_true rfl, Nat.le_of_ble_eq_true rfl⟩ (fun r1_ er1_ => ?_)
  refine lv_aload_n hx hb dL_law_455 rfl (lv_at hl 3 rfl) ?_
  refine lv_aload_n hx hb dL_law_456 rfl (lv_at hl 1 rfl) ?_
  refine lv_iload_n hx hb dL_law_457 rfl (lv_at hl 0 rfl) ?_
  refine lv_iconst (v := nI 1) hx hb dL_law_458 (by decide) ?_
  refine lv_iadd hx hb dL_law_459 ?_
  refine lv_tpi (nI_add i 1) ?_
  refine va_sld hx hb hsx hbl hbA hS (vp_in_nI (by omega) (by omega)) dL_law_460 ?_
  refine lv_tpi (congrArg xs (nI_clamp (by omega))) ?_
  refine lv_aload_n hx hb dL_law_461 rfl (lv_at hl 1 rfl) ?_
  refine lv_iload_n hx hb dL_law_462 rfl (lv_at hl 0 rfl) ?_
  refine lv_iconst (v := nI 2) hx hb dL_law_463 (by decide) ?_
  refine lv_iadd hx hb dL_law_464 ?_
  refine lv_tpi (nI_add i 2) ?_
  refine va_sld hx hb hsx hbl hbA hS (vp_in_nI (by omega) (by omega)) dL_law_465 ?_
  refine lv_tpi (congrArg xs (nI_clamp (by omega))) ?_
  refine callRi (As := [.int (xs (i + 1)), .int (xs (i + 2))]) ⟨hx, hb, hml, hown, hts⟩ (mX6_pair l T D (r 0) (r 1) (moF r v) g.1 g.2.1 rfl (li_g hi9).1 (xs (i + 1)) (xs (i + 2))) (cwV 2 hts gL_law_X6_pair rfl rfl rfl pdX6_pair ⟨Nat.le_of_ble_eq_true rfl, Nat.le_of_ble_eq_true rfl⟩) ((wP_left (fP1.mp hP)).sub [0, 1] rfl) hK xN_bl (fun U _ hW => XN_warm hW hX) (ci := 6) rfl rfl rfl hl.1 rfl rfl (Nat.le_of_ble_eq_true rfl) dL_law_466 ⟨Nat.le_of_ble_eq_true rfl, Nat.le_of_ble_eq_true rfl⟩ (fun r2_ er2_ => ?_)
  refine lv_icmp_eq (tgt := 702) hx hb dL_law_469 (by decide) (fun _ => ?_) (fun c9 => absurd ((er1_).trans (er2_).symm) c9)
  exact kk d k0 k1 k2 k3 n σ g gb gs V G w K9 A9 W9 tx len v ia ea ik ek ib eb H _ ls hi9 hP hD hS (lv_sub hl [0, 1, 2, 3] rfl)
set_option maxHeartbeats 4000000 in
set_option maxRecDepth 100000 in
theorem lc_book (C : lwC p s m c bq L xs T D) {i : Nat} (hi : i + 4 ≤ L) (kk : lwB p l e s m below meth c Q bq T D z a q b1 b2 b3 h y r 702 i) : lwB p l e s m below meth c Q bq T D z a q b1 b2 b3 h y r 474 i := by
  obtain ⟨hx, hb, hml, hown, hts, hsx, hbl, hK, hXS, hL⟩ := C
  have hX := hXS.1
  have hA : ∀ q9 : Nat, s.heap.size ≤ q9 → (fun q9 : Nat => s.heap.size ≤ q9) q9 := fun _ h9 => h9
  have hbA : ¬ (fun q9 : Nat => s.heap.size ≤ q9) bq := Nat.not_le.mpr hbl
  intro d k0 k1 k2 k3 n σ g gb gs V G w K9 A9 W9 tx len v ia ea ik ek ib eb H locs ls hi9 hP hD hS hl
  refine lv_aload_n hx hb dL_law_474 rfl (lv_at hl 2 rfl) ?_
  refine lv_aload_n hx hb dL_law_475 rfl (lv_at hl 1 rfl) ?_
  refine lv_iload_n hx hb dL_law_476 rfl (lv_at hl 0 rfl) ?_
  refine lv_iconst (v := nI 1) hx hb dL_law_477 (by decide) ?_
  refine lv_iadd hx hb dL_law_478 ?_
  refine lv_tpi (nI_add i 1) ?_
  refine va_sld hx hb hsx hbl hbA hS (vp_in_nI (by omega) (by omega)) dL_law_479 ?_
  refine lv_tpi (congrArg xs (nI_clamp (by omega))) ?_
  refine lv_aload_n hx hb dL_law_480 rfl (lv_at hl 1 rfl) ?_
  refine lv_iload_n hx hb dL_law_481 rfl (lv_at hl 0 rfl) ?_
  refine lv_iconst (v := nI 2) hx hb dL_law_482 (by decide) ?_
  refine lv_iadd hx hb dL_law_483 ?_
  refine lv_tpi (nI_add i 2) ?_
  refine va_sld hx hb hsx hbl hbA hS (vp_in_nI (by omega) (by omega)) dL_law_484 ?_
  refine lv_tpi (congrArg xs (nI_clamp (by omega))) ?_
  refine callRl (As := [.int (xs (i + 1)), .int (xs (i + 2))]) ⟨hx, hb, hml, hown, hts⟩ (mX5_book l T D z (b2 0) (b3 0) (h 0) a (y 0) k0 k1 k2 k3 b1 g.1 g.2.1 g.2.2 (li_g hi9).1 (xs (i + 1)) (xs (i + 2))) (cwV 2 hts gL_law_X5_book rfl rfl rfl pdX5_book ⟨Nat.le_of_ble_eq_true rfl, Nat.le_of_ble_eq_true rfl⟩) (wP_left (fP2.mp (bP (bs := [moW T r v (mS g.1 g.2.1) (mE g.2.2) ia ea ik ek ib eb tx, obW z b1 b2 b3 h a y k0 k1 k2 k3, sgW T b1 g, hiW T h d n σ, sgW T b2 gb, sgW T b3 gs, plW T a q V G, siA T y w tx len, siB T y K9 A9 W9]) (bs' := [obW z b1 b2 b3 h a y k0 k1 k2 k3, sgW T b1 g, moW T r v (mS g.1 g.2.1) (mE g.2.2) ia ea ik ek ib eb tx, hiW T h d n σ, sgW T b2 gb, sgW T b3 gs, plW T a q V G, siA T y w tx len, siB T y K9 A9 W9]) hP [1, 2, 0, 3, 4, 5, 6, 7, 8] rfl rfl))) hK xN_bl (fun U _ hW => XN_warm hW hX) (ci := 5) rfl rfl rfl hl.1 rfl rfl (Nat.le_of_ble_eq_true rfl) dL_law_485 ⟨Nat.le_of_ble_eq_true rfl, Nat.le_of_ble_eq_true rfl⟩ (fun r1_ er1_ => ?_)
  refine lv_aload_n hx hb dL_law_488 rfl (lv_at hl 3 rfl) ?_
  refine lv_aload_n hx hb dL_law_489 rfl (lv_at hl 1 rfl) ?_
  refine lv_iload_n hx hb dL_law_490 rfl (lv_at hl 0 rfl) ?_
  refine lv_iconst (v := nI 1) hx hb dL_law_491 (by decide) ?_
  refine lv_iadd hx hb dL_law_492 ?_
  refine lv_tpi (nI_add i 1) ?_
  refine va_sld hx hb hsx hbl hbA hS (vp_in_nI (by omega) (by omega)) dL_law_493 ?_
  refine lv_tpi (congrArg xs (nI_clamp (by omega))) ?_
  refine lv_aload_n hx hb dL_law_494 rfl (lv_at hl 1 rfl) ?_
  refine lv_iload_n hx hb dL_law_495 rfl (lv_at hl 0 rfl) ?_
  refine lv_iconst (v := nI 2) hx hb dL_law_496 (by decide) ?_
  refine lv_iadd hx hb dL_law_497 ?_
  refine lv_tpi (nI_add i 2) ?_
  refine va_sld hx hb hsx hbl hbA hS (vp_in_nI (by omega) (by omega)) dL_law_498 ?_
  refine lv_tpi (congrArg xs (nI_clamp (by omega))) ?_
  refine callRl (As := [.int (xs (i + 1)), .int (xs (i + 2))]) ⟨hx, hb, hml, hown, hts⟩ (mX6_book l T D (r 0) (r 1) (r 2) (moF r v) g.1 g.2.1 g.2.2 rfl rfl (li_g hi9).1 (xs (i + 1)) (xs (i + 2))) (cwV 2 hts gL_law_X6_book rfl rfl rfl pdX6_book ⟨Nat.le_of_ble_eq_true rfl, Nat.le_of_ble_eq_true rfl⟩) ((wP_left (fP1.mp hP)).sub [0, 1, 2] rfl) hK xN_bl (fun U _ hW => XN_warm hW hX) (ci := 6) rfl rfl rfl hl.1 rfl rfl (Nat.le_of_ble_eq_true rfl) dL_law_499 ⟨Nat.le_of_ble_eq_true rfl, Nat.le_of_ble_eq_true rfl⟩ (fun r2_ er2_ => ?_)
  refine W.lcmp hx hb dL_law_502 ?_
  refine lv_if_eq (tgt := 702) hx hb dL_law_503 (by decide) (fun _ => ?_) (fun c9 => absurd (lc_0 ((er1_).trans (er2_).symm)) c9)
  exact kk d k0 k1 k2 k3 n σ g gb gs V G w K9 A9 W9 tx len v ia ea ik ek ib eb H _ ls hi9 hP hD hS (lv_sub hl [0, 1, 2, 3] rfl)
set_option maxHeartbeats 4000000 in
set_option maxRecDepth 100000 in
theorem lc_reason (C : lwC p s m c bq L xs T D) {i : Nat} (hi : i + 4 ≤ L) (kk : lwB p l e s m below meth c Q bq T D z a q b1 b2 b3 h y r 702 i) : lwB p l e s m below meth c Q bq T D z a q b1 b2 b3 h y r 508 i := by
  obtain ⟨hx, hb, hml, hown, hts, hsx, hbl, hK, hXS, hL⟩ := C
  have hX := hXS.1
  have hA : ∀ q9 : Nat, s.heap.size ≤ q9 → (fun q9 : Nat => s.heap.size ≤ q9) q9 := fun _ h9 => h9
  have hbA : ¬ (fun q9 : Nat => s.heap.size ≤ q9) bq := Nat.not_le.mpr hbl
  intro d k0 k1 k2 k3 n σ g gb gs V G w K9 A9 W9 tx len v ia ea ik ek ib eb H locs ls hi9 hP hD hS hl
  refine lv_aload_n hx hb dL_law_508 rfl (lv_at hl 2 rfl) ?_
  refine lv_aload_n hx hb dL_law_509 rfl (lv_at hl 1 rfl) ?_
  refine lv_iload_n hx hb dL_law_510 rfl (lv_at hl 0 rfl) ?_
  refine lv_iconst (v := nI 1) hx hb dL_law_511 (by decide) ?_
  refine lv_iadd hx hb dL_law_512 ?_
  refine lv_tpi (nI_add i 1) ?_
  refine va_sld hx hb hsx hbl hbA hS (vp_in_nI (by omega) (by omega)) dL_law_513 ?_
  refine lv_tpi (congrArg xs (nI_clamp (by omega))) ?_
  refine callRi (As := [.int (xs (i + 1))]) ⟨hx, hb, hml, hown, hts⟩ (mX5_reason l T D z (b2 0) (b3 0) (h 0) a (y 0) k0 k1 k2 k3 b1 g.1 g.2.1 g.2.2 (li_g hi9).1 (xs (i + 1))) (cwV 1 hts gL_law_X5_reason rfl rfl rfl pdX5_reason ⟨Nat.le_of_ble_eq_true rfl, Nat.le_of_ble_eq_true rfl⟩) (wP_left (fP2.mp (bP (bs := [moW T r v (mS g.1 g.2.1) (mE g.2.2) ia ea ik ek ib eb tx, obW z b1 b2 b3 h a y k0 k1 k2 k3, sgW T b1 g, hiW T h d n σ, sgW T b2 gb, sgW T b3 gs, plW T a q V G, siA T y w tx len, siB T y K9 A9 W9]) (bs' := [obW z b1 b2 b3 h a y k0 k1 k2 k3, sgW T b1 g, moW T r v (mS g.1 g.2.1) (mE g.2.2) ia ea ik ek ib eb tx, hiW T h d n σ, sgW T b2 gb, sgW T b3 gs, plW T a q V G, siA T y w tx len, siB T y K9 A9 W9]) hP [1, 2, 0, 3, 4, 5, 6, 7, 8] rfl rfl))) hK xN_bl (fun U _ hW => XN_warm hW hX) (ci := 5) rfl rfl rfl hl.1 rfl rfl (Nat.le_of_ble_eq_true rfl) dL_law_514 ⟨Nat.le_of_ble_eq_true rfl, Nat.le_of_ble_eq_true rfl⟩ (fun r1_ er1_ => ?_)
  refine lv_aload_n hx hb dL_law_517 rfl (lv_at hl 3 rfl) ?_
  refine lv_aload_n hx hb dL_law_518 rfl (lv_at hl 1 rfl) ?_
  refine lv_iload_n hx hb dL_law_519 rfl (lv_at hl 0 rfl) ?_
  refine lv_iconst (v := nI 1) hx hb dL_law_520 (by decide) ?_
  refine lv_iadd hx hb dL_law_521 ?_
  refine lv_tpi (nI_add i 1) ?_
  refine va_sld hx hb hsx hbl hbA hS (vp_in_nI (by omega) (by omega)) dL_law_522 ?_
  refine lv_tpi (congrArg xs (nI_clamp (by omega))) ?_
  refine callRi (As := [.int (xs (i + 1))]) ⟨hx, hb, hml, hown, hts⟩ (mX6_reason l T D (r 0) (r 1) (moF r v) g.1 g.2.1 rfl (li_g hi9).1 (xs (i + 1))) (cwV 1 hts gL_law_X6_reason rfl rfl rfl pdX6_reason ⟨Nat.le_of_ble_eq_true rfl, Nat.le_of_ble_eq_true rfl⟩) ((wP_left (fP1.mp hP)).sub [0, 1] rfl) hK xN_bl (fun U _ hW => XN_warm hW hX) (ci := 6) rfl rfl rfl hl.1 rfl rfl (Nat.le_of_ble_eq_true rfl) dL_law_523 ⟨Nat.le_of_ble_eq_true rfl, Nat.le_of_ble_eq_true rfl⟩ (fun r2_ er2_ => ?_)
  refine lv_icmp_eq (tgt := 702) hx hb dL_law_526 (by decide) (fun _ => ?_) (fun c9 => absurd ((er1_).trans (er2_).symm) c9)
  exact kk d k0 k1 k2 k3 n σ g gb gs V G w K9 A9 W9 tx len v ia ea ik ek ib eb H _ ls hi9 hP hD hS (lv_sub hl [0, 1, 2, 3] rfl)
set_option maxHeartbeats 4000000 in
set_option maxRecDepth 100000 in
theorem lc_force (C : lwC p s m c bq L xs T D) {i : Nat} (hi : i + 4 ≤ L) (kk : lwB p l e s m below meth c Q bq T D z a q b1 b2 b3 h y r 702 i) : lwB p l e s m below meth c Q bq T D z a q b1 b2 b3 h y r 531 i := by
  obtain ⟨hx, hb, hml, hown, hts, hsx, hbl, hK, hXS, hL⟩ := C
  have hX := hXS.1
  have hA : ∀ q9 : Nat, s.heap.size ≤ q9 → (fun q9 : Nat => s.heap.size ≤ q9) q9 := fun _ h9 => h9
  have hbA : ¬ (fun q9 : Nat => s.heap.size ≤ q9) bq := Nat.not_le.mpr hbl
  intro d k0 k1 k2 k3 n σ g gb gs V G w K9 A9 W9 tx len v ia ea ik ek ib eb H locs ls hi9 hP hD hS hl
  refine lv_aload_n hx hb dL_law_531 rfl (lv_at hl 2 rfl) ?_
  refine lv_aload_n hx hb dL_law_532 rfl (lv_at hl 1 rfl) ?_
  refine lv_iload_n hx hb dL_law_533 rfl (lv_at hl 0 rfl) ?_
  refine lv_iconst (v := nI 1) hx hb dL_law_534 (by decide) ?_
  refine lv_iadd hx hb dL_law_535 ?_
  refine lv_tpi (nI_add i 1) ?_
  refine va_sld hx hb hsx hbl hbA hS (vp_in_nI (by omega) (by omega)) dL_law_536 ?_
  refine lv_tpi (congrArg xs (nI_clamp (by omega))) ?_
  refine lv_aload_n hx hb dL_law_537 rfl (lv_at hl 1 rfl) ?_
  refine lv_iload_n hx hb dL_law_538 rfl (lv_at hl 0 rfl) ?_
  refine lv_iconst (v := nI 2) hx hb dL_law_539 (by decide) ?_
  refine lv_iadd hx hb dL_law_540 ?_
  refine lv_tpi (nI_add i 2) ?_
  refine va_sld hx hb hsx hbl hbA hS (vp_in_nI (by omega) (by omega)) dL_law_541 ?_
  refine lv_tpi (congrArg xs (nI_clamp (by omega))) ?_
  refine callRi (As := [.int (xs (i + 1)), .int (xs (i + 2))]) ⟨hx, hb, hml, hown, hts⟩ (mX5_force l T D z (b2 0) (b3 0) (h 0) a (y 0) k0 k1 k2 k3 b1 g.1 g.2.1 g.2.2 (li_g hi9).1 (xs (i + 1)) (xs (i + 2))) (cwV 2 hts gL_law_X5_force rfl rfl rfl pdX5_force ⟨Nat.le_of_ble_eq_true rfl, Nat.le_of_ble_eq_true rfl⟩) (wP_left (fP2.mp (bP (bs := [moW T r v (mS g.1 g.2.1) (mE g.2.2) ia ea ik ek ib eb tx, obW z b1 b2 b3 h a y k0 k1 k2 k3, sgW T b1 g, hiW T h d n σ, sgW T b2 gb, sgW T b3 gs, plW T a q V G, siA T y w tx len, siB T y K9 A9 W9]) (bs' := [obW z b1 b2 b3 h a y k0 k1 k2 k3, sgW T b1 g, moW T r v (mS g.1 g.2.1) (mE g.2.2) ia ea ik ek ib eb tx, hiW T h d n σ, sgW T b2 gb, sgW T b3 gs, plW T a q V G, siA T y w tx len, siB T y K9 A9 W9]) hP [1, 2, 0, 3, 4, 5, 6, 7, 8] rfl rfl))) hK xN_bl (fun U _ hW => XN_warm hW hX) (ci := 5) rfl rfl rfl hl.1 rfl rfl (Nat.le_of_ble_eq_true rfl) dL_law_542 ⟨Nat.le_of_ble_eq_true rfl, Nat.le_of_ble_eq_true rfl⟩ (fun r1_ er1_ => ?_)
  refine lv_aload_n hx hb dL_law_545 rfl (lv_at hl 3 rfl) ?_
  refine lv_aload_n hx hb dL_law_546 rfl (lv_at hl 1 rfl) ?_
  refine lv_iload_n hx hb dL_law_547 rfl (lv_at hl 0 rfl) ?_
  refine lv_iconst (v := nI 1) hx hb dL_law_548 (by decide) ?_
  refine lv_iadd hx hb dL_law_549 ?_
  refine lv_tpi (nI_add i 1) ?_
  refine va_sld hx hb hsx hbl hbA hS (vp_in_nI (by omega) (by omega)) dL_law_550 ?_
  refine lv_tpi (congrArg xs (nI_clamp (by omega))) ?_
  refine lv_aload_n hx hb dL_law_551 rfl (lv_at hl 1 rfl) ?_
  refine lv_iload_n hx hb dL_law_552 rfl (lv_at hl 0 rfl) ?_
  refine lv_iconst (v := nI 2) hx hb dL_law_553 (by decide) ?_
  refine lv_iadd hx hb dL_law_554 ?_
  refine lv_tpi (nI_add i 2) ?_
  refine va_sld hx hb hsx hbl hbA hS (vp_in_nI (by omega) (by omega)) dL_law_555 ?_
  refine lv_tpi (congrArg xs (nI_clamp (by omega))) ?_
  refine callRi (As := [.int (xs (i + 1)), .int (xs (i + 2))]) ⟨hx, hb, hml, hown, hts⟩ (mX6_force l T D (r 0) (r 1) (moF r v) g.1 g.2.1 rfl (li_g hi9).1 (xs (i + 1)) (xs (i + 2))) (cwV 2 hts gL_law_X6_force rfl rfl rfl pdX6_force ⟨Nat.le_of_ble_eq_true rfl, Nat.le_of_ble_eq_true rfl⟩) ((wP_left (fP1.mp hP)).sub [0, 1] rfl) hK xN_bl (fun U _ hW => XN_warm hW hX) (ci := 6) rfl rfl rfl hl.1 rfl rfl (Nat.le_of_ble_eq_true rfl) dL_law_556 ⟨Nat.le_of_ble_eq_true rfl, Nat.le_of_ble_eq_true rfl⟩ (fun r2_ er2_ => ?_)
  refine lv_icmp_eq (tgt := 702) hx hb dL_law_559 (by decide) (fun _ => ?_) (fun c9 => absurd ((er1_).trans (er2_).symm) c9)
  exact kk d k0 k1 k2 k3 n σ g gb gs V G w K9 A9 W9 tx len v ia ea ik ek ib eb H _ ls hi9 hP hD hS (lv_sub hl [0, 1, 2, 3] rfl)
set_option maxHeartbeats 4000000 in
set_option maxRecDepth 100000 in
theorem lc_restsIn (C : lwC p s m c bq L xs T D) {i : Nat} (hi : i + 4 ≤ L) (kk : lwB p l e s m below meth c Q bq T D z a q b1 b2 b3 h y r 702 i) : lwB p l e s m below meth c Q bq T D z a q b1 b2 b3 h y r 564 i := by
  obtain ⟨hx, hb, hml, hown, hts, hsx, hbl, hK, hXS, hL⟩ := C
  have hX := hXS.1
  have hA : ∀ q9 : Nat, s.heap.size ≤ q9 → (fun q9 : Nat => s.heap.size ≤ q9) q9 := fun _ h9 => h9
  have hbA : ¬ (fun q9 : Nat => s.heap.size ≤ q9) bq := Nat.not_le.mpr hbl
  intro d k0 k1 k2 k3 n σ g gb gs V G w K9 A9 W9 tx len v ia ea ik ek ib eb H locs ls hi9 hP hD hS hl
  refine lv_aload_n hx hb dL_law_564 rfl (lv_at hl 2 rfl) ?_
  refine lv_aload_n hx hb dL_law_565 rfl (lv_at hl 1 rfl) ?_
  refine lv_iload_n hx hb dL_law_566 rfl (lv_at hl 0 rfl) ?_
  refine lv_iconst (v := nI 1) hx hb dL_law_567 (by decide) ?_
  refine lv_iadd hx hb dL_law_568 ?_
  refine lv_tpi (nI_add i 1) ?_
  refine va_sld hx hb hsx hbl hbA hS (vp_in_nI (by omega) (by omega)) dL_law_569 ?_
  refine lv_tpi (congrArg xs (nI_clamp (by omega))) ?_
  have hP := bP (bs := [moW T r v (mS g.1 g.2.1) (mE g.2.2) ia ea ik ek ib eb tx, obW z b1 b2 b3 h a y k0 k1 k2 k3, sgW T b1 g, hiW T h d n σ, sgW T b2 gb, sgW T b3 gs, plW T a q V G, siA T y w tx len, siB T y K9 A9 W9]) (bs' := [obW z b1 b2 b3 h a y k0 k1 k2 k3, sgW T b1 g, plW T a q V G, moW T r v (mS g.1 g.2.1) (mE g.2.2) ia ea ik ek ib eb tx, hiW T h d n σ, sgW T b2 gb, sgW T b3 gs, siA T y w tx len, siB T y K9 A9 W9]) hP [1, 2, 6, 0, 3, 4, 5, 7, 8] rfl rfl
  have hD := bD (bs := [moW T r v (mS g.1 g.2.1) (mE g.2.2) ia ea ik ek ib eb tx, obW z b1 b2 b3 h a y k0 k1 k2 k3, sgW T b1 g, hiW T h d n σ, sgW T b2 gb, sgW T b3 gs, plW T a q V G, siA T y w tx len, siB T y K9 A9 W9]) (bs' := [obW z b1 b2 b3 h a y k0 k1 k2 k3, sgW T b1 g, plW T a q V G, moW T r v (mS g.1 g.2.1) (mE g.2.2) ia ea ik ek ib eb tx, hiW T h d n σ, sgW T b2 gb, sgW T b3 gs, siA T y w tx len, siB T y K9 A9 W9]) hD [1, 2, 6, 0, 3, 4, 5, 7, 8] rfl rfl
  have hP := fP3.mp hP
  have hD := fD3.mp hD
  refine callMi (As := [.int (xs (i + 1))]) (wr := fl [moW T r v (mS g.1 g.2.1) (mE g.2.2) ia ea ik ek ib eb tx, hiW T h d n σ, sgW T b2 gb, sgW T b3 gs, siA T y w tx len, siB T y K9 A9 W9]) ⟨hx, hb, hml, hown, hts⟩ (mX5_restsIn l T D z (b2 0) (b3 0) (h 0) (y 0) k0 k1 k2 k3 b1 g.1 g.2.1 g.2.2 (li_g hi9).1 a q V G (xs (i + 1))) (cwV 1 hts gL_law_X5_restsIn rfl rfl rfl pdX5_restsIn ⟨Nat.le_of_ble_eq_true rfl, Nat.le_of_ble_eq_true rfl⟩) hP hD hK hS hA xN_bl (fun U _ hW => XN_warm hW hX) (ci := 5) rfl rfl rfl hl.1 rfl rfl (Nat.le_of_ble_eq_true rfl) dL_law_570 ⟨Nat.le_of_ble_eq_true rfl, Nat.le_of_ble_eq_true rfl⟩ (fun r1_ u2_ H locs eu2_ hP hD hS hkf => ?_)
  have hP : va_P D vwCl (fl [obW z b1 b2 b3 h a y k0 k1 k2 k3, sgW T b1 g, plW T a q u2_.1 u2_.2, moW T r v (mS g.1 g.2.1) (mE g.2.2) ia ea ik ek ib eb tx, hiW T h d n σ, sgW T b2 gb, sgW T b3 gs, siA T y w tx len, siB T y K9 A9 W9]) H := fP3.mpr hP
  have hD : va_D (fun q9 : Nat => s.heap.size ≤ q9) (fl [obW z b1 b2 b3 h a y k0 k1 k2 k3, sgW T b1 g, plW T a q u2_.1 u2_.2, moW T r v (mS g.1 g.2.1) (mE g.2.2) ia ea ik ek ib eb tx, hiW T h d n σ, sgW T b2 gb, sgW T b3 gs, siA T y w tx len, siB T y K9 A9 W9]) := fD3.mpr hD
  have hP := bP (bs := [obW z b1 b2 b3 h a y k0 k1 k2 k3, sgW T b1 g, plW T a q u2_.1 u2_.2, moW T r v (mS g.1 g.2.1) (mE g.2.2) ia ea ik ek ib eb tx, hiW T h d n σ, sgW T b2 gb, sgW T b3 gs, siA T y w tx len, siB T y K9 A9 W9]) (bs' := [moW T r v (mS g.1 g.2.1) (mE g.2.2) ia ea ik ek ib eb tx, obW z b1 b2 b3 h a y k0 k1 k2 k3, sgW T b1 g, hiW T h d n σ, sgW T b2 gb, sgW T b3 gs, plW T a q u2_.1 u2_.2, siA T y w tx len, siB T y K9 A9 W9]) hP [3, 0, 1, 4, 5, 6, 2, 7, 8] rfl rfl
  have hD := bD (bs := [obW z b1 b2 b3 h a y k0 k1 k2 k3, sgW T b1 g, plW T a q u2_.1 u2_.2, moW T r v (mS g.1 g.2.1) (mE g.2.2) ia ea ik ek ib eb tx, hiW T h d n σ, sgW T b2 gb, sgW T b3 gs, siA T y w tx len, siB T y K9 A9 W9]) (bs' := [moW T r v (mS g.1 g.2.1) (mE g.2.2) ia ea ik ek ib eb tx, obW z b1 b2 b3 h a y k0 k1 k2 k3, sgW T b1 g, hiW T h d n σ, sgW T b2 gb, sgW T b3 gs, plW T a q u2_.1 u2_.2, siA T y w tx len, siB T y K9 A9 W9]) hD [3, 0, 1, 4, 5, 6, 2, 7, 8] rfl rfl
  refine lv_aload_n hx hb dL_law_573 rfl (lv_at hl 3 rfl) ?_
  refine lv_aload_n hx hb dL_law_574 rfl (lv_at hl 1 rfl) ?_
  refine lv_iload_n hx hb dL_law_575 rfl (lv_at hl 0 rfl) ?_
  refine lv_iconst (v := nI 1) hx hb dL_law_576 (by decide) ?_
  refine lv_iadd hx hb dL_law_577 ?_
  refine lv_tpi (nI_add i 1) ?_
  refine va_sld hx hb hsx hbl hbA hS (vp_in_nI (by omega) (by omega)) dL_law_578 ?_
  refine lv_tpi (congrArg xs (nI_clamp (by omega))) ?_
  have hP : va_P D vwCl ([(r 0, .inr (6, moF r v)), (r 1, .inl (T 0, 43, .inl (mS g.1 g.2.1)))] ++ ([(r 2, .inl (T 1, 12, .inr (.inl (mE g.2.2)))), (r 3, .inl (T 0, 43, .inl ia)), (r 4, .inl (T 1, 12, .inr (.inl ea))), (r 5, .inl (T 0, 43, .inl ik)), (r 6, .inl (T 1, 12, .inr (.inl ek))), (r 7, .inl (T 0, 172, .inl ib)), (r 8, .inl (T 1, 48, .inr (.inl eb))), (r 9, .inl (T 0, 60, .inl tx))] ++ fl [obW z b1 b2 b3 h a y k0 k1 k2 k3, sgW T b1 g, hiW T h d n σ, sgW T b2 gb, sgW T b3 gs, plW T a q u2_.1 u2_.2, siA T y w tx len, siB T y K9 A9 W9])) H := hP
  have hD : va_D (fun q9 : Nat => s.heap.size ≤ q9) ([(r 0, .inr (6, moF r v)), (r 1, .inl (T 0, 43, .inl (mS g.1 g.2.1)))] ++ ([(r 2, .inl (T 1, 12, .inr (.inl (mE g.2.2)))), (r 3, .inl (T 0, 43, .inl ia)), (r 4, .inl (T 1, 12, .inr (.inl ea))), (r 5, .inl (T 0, 43, .inl ik)), (r 6, .inl (T 1, 12, .inr (.inl ek))), (r 7, .inl (T 0, 172, .inl ib)), (r 8, .inl (T 1, 48, .inr (.inl eb))), (r 9, .inl (T 0, 60, .inl tx))] ++ fl [obW z b1 b2 b3 h a y k0 k1 k2 k3, sgW T b1 g, hiW T h d n σ, sgW T b2 gb, sgW T b3 gs, plW T a q u2_.1 u2_.2, siA T y w tx len, siB T y K9 A9 W9])) := hD
  refine callMi (As := [.int (xs (i + 1))]) (wr := ([(r 2, .inl (T 1, 12, .inr (.inl (mE g.2.2)))), (r 3, .inl (T 0, 43, .inl ia)), (r 4, .inl (T 1, 12, .inr (.inl ea))), (r 5, .inl (T 0, 43, .inl ik)), (r 6, .inl (T 1, 12, .inr (.inl ek))), (r 7, .inl (T 0, 172, .inl ib)), (r 8, .inl (T 1, 48, .inr (.inl eb))), (r 9, .inl (T 0, 60, .inl tx))] ++ fl [obW z b1 b2 b3 h a y k0 k1 k2 k3, sgW T b1 g, hiW T h d n σ, sgW T b2 gb, sgW T b3 gs, plW T a q u2_.1 u2_.2, siA T y w tx len, siB T y K9 A9 W9])) ⟨hx, hb, hml, hown, hts⟩ (mX6_restsIn l T D r v g.1 g.2.1 (li_g hi9).1 (xs (i + 1))) (cwV 1 hts gL_law_X6_restsIn rfl rfl rfl pdX6_restsIn ⟨Nat.le_of_ble_eq_true rfl, Nat.le_of_ble_eq_true rfl⟩) hP hD hK hS hA xN_bl (fun U _ hW => XN_warm hW hX) (ci := 6) rfl rfl rfl hl.1 rfl rfl (Nat.le_of_ble_eq_true rfl) dL_law_579 ⟨Nat.le_of_ble_eq_true rfl, Nat.le_of_ble_eq_true rfl⟩ (fun r3_ u4_ H locs eu4_ hP hD hS hkf => ?_)
  have hP : va_P D vwCl (fl [moW T r u4_ (mS g.1 g.2.1) (mE g.2.2) ia ea ik ek ib eb tx, obW z b1 b2 b3 h a y k0 k1 k2 k3, sgW T b1 g, hiW T h d n σ, sgW T b2 gb, sgW T b3 gs, plW T a q u2_.1 u2_.2, siA T y w tx len, siB T y K9 A9 W9]) H := hP
  have hD : va_D (fun q9 : Nat => s.heap.size ≤ q9) (fl [moW T r u4_ (mS g.1 g.2.1) (mE g.2.2) ia ea ik ek ib eb tx, obW z b1 b2 b3 h a y k0 k1 k2 k3, sgW T b1 g, hiW T h d n σ, sgW T b2 gb, sgW T b3 gs, plW T a q u2_.1 u2_.2, siA T y w tx len, siB T y K9 A9 W9]) := hD
  obtain ⟨er2, hu2⟩ := eu4_
  refine lv_icmp_eq (tgt := 702) hx hb dL_law_582 (by decide) (fun _ => ?_) (fun c9 => absurd ((eu2_).trans er2.symm) c9)
  exact kk d k0 k1 k2 k3 n σ g gb gs u2_.1 u2_.2 w K9 A9 W9 tx len u4_ ia ea ik ek ib eb H _ ls (li_v hi9 (fun k h9 => hu2 k (by omega))) hP hD hS (lv_sub hl [0, 1, 2, 3] rfl)
set_option maxHeartbeats 4000000 in
set_option maxRecDepth 100000 in
theorem lc_depthIn (C : lwC p s m c bq L xs T D) {i : Nat} (hi : i + 4 ≤ L) (kk : lwB p l e s m below meth c Q bq T D z a q b1 b2 b3 h y r 702 i) : lwB p l e s m below meth c Q bq T D z a q b1 b2 b3 h y r 587 i := by
  obtain ⟨hx, hb, hml, hown, hts, hsx, hbl, hK, hXS, hL⟩ := C
  have hX := hXS.1
  have hA : ∀ q9 : Nat, s.heap.size ≤ q9 → (fun q9 : Nat => s.heap.size ≤ q9) q9 := fun _ h9 => h9
  have hbA : ¬ (fun q9 : Nat => s.heap.size ≤ q9) bq := Nat.not_le.mpr hbl
  intro d k0 k1 k2 k3 n σ g gb gs V G w K9 A9 W9 tx len v ia ea ik ek ib eb H locs ls hi9 hP hD hS hl
  refine lv_aload_n hx hb dL_law_587 rfl (lv_at hl 2 rfl) ?_
  refine lv_aload_n hx hb dL_law_588 rfl (lv_at hl 1 rfl) ?_
  refine lv_iload_n hx hb dL_law_589 rfl (lv_at hl 0 rfl) ?_
  refine lv_iconst (v := nI 1) hx hb dL_law_590 (by decide) ?_
  refine lv_iadd hx hb dL_law_591 ?_
  refine lv_tpi (nI_add i 1) ?_
  refine va_sld hx hb hsx hbl hbA hS (vp_in_nI (by omega) (by omega)) dL_law_592 ?_
  refine lv_tpi (congrArg xs (nI_clamp (by omega))) ?_
  refine lv_aload_n hx hb dL_law_593 rfl (lv_at hl 1 rfl) ?_
  refine lv_iload_n hx hb dL_law_594 rfl (lv_at hl 0 rfl) ?_
  refine lv_iconst (v := nI 2) hx hb dL_law_595 (by decide) ?_
  refine lv_iadd hx hb dL_law_596 ?_
  refine lv_tpi (nI_add i 2) ?_
  refine va_sld hx hb hsx hbl hbA hS (vp_in_nI (by omega) (by omega)) dL_law_597 ?_
  refine lv_tpi (congrArg xs (nI_clamp (by omega))) ?_
  have hP := bP (bs := [moW T r v (mS g.1 g.2.1) (mE g.2.2) ia ea ik ek ib eb tx, obW z b1 b2 b3 h a y k0 k1 k2 k3, sgW T b1 g, hiW T h d n σ, sgW T b2 gb, sgW T b3 gs, plW T a q V G, siA T y w tx len, siB T y K9 A9 W9]) (bs' := [obW z b1 b2 b3 h a y k0 k1 k2 k3, sgW T b1 g, plW T a q V G, moW T r v (mS g.1 g.2.1) (mE g.2.2) ia ea ik ek ib eb tx, hiW T h d n σ, sgW T b2 gb, sgW T b3 gs, siA T y w tx len, siB T y K9 A9 W9]) hP [1, 2, 6, 0, 3, 4, 5, 7, 8] rfl rfl
  have hD := bD (bs := [moW T r v (mS g.1 g.2.1) (mE g.2.2) ia ea ik ek ib eb tx, obW z b1 b2 b3 h a y k0 k1 k2 k3, sgW T b1 g, hiW T h d n σ, sgW T b2 gb, sgW T b3 gs, plW T a q V G, siA T y w tx len, siB T y K9 A9 W9]) (bs' := [obW z b1 b2 b3 h a y k0 k1 k2 k3, sgW T b1 g, plW T a q V G, moW T r v (mS g.1 g.2.1) (mE g.2.2) ia ea ik ek ib eb tx, hiW T h d n σ, sgW T b2 gb, sgW T b3 gs, siA T y w tx len, siB T y K9 A9 W9]) hD [1, 2, 6, 0, 3, 4, 5, 7, 8] rfl rfl
  have hP := fP3.mp hP
  have hD := fD3.mp hD
  refine callMi (As := [.int (xs (i + 1)), .int (xs (i + 2))]) (wr := fl [moW T r v (mS g.1 g.2.1) (mE g.2.2) ia ea ik ek ib eb tx, hiW T h d n σ, sgW T b2 gb, sgW T b3 gs, siA T y w tx len, siB T y K9 A9 W9]) ⟨hx, hb, hml, hown, hts⟩ (mX5_depthIn l T D z (b2 0) (b3 0) (h 0) (y 0) k0 k1 k2 k3 b1 g.1 g.2.1 g.2.2 (li_g hi9).1 a q V G (xs (i + 1)) (xs (i + 2))) (cwV 2 hts gL_law_X5_depthIn rfl rfl rfl pdX5_depthIn ⟨Nat.le_of_ble_eq_true rfl, Nat.le_of_ble_eq_true rfl⟩) hP hD hK hS hA xN_bl (fun U _ hW => XN_warm hW hX) (ci := 5) rfl rfl rfl hl.1 rfl rfl (Nat.le_of_ble_eq_true rfl) dL_law_598 ⟨Nat.le_of_ble_eq_true rfl, Nat.le_of_ble_eq_true rfl⟩ (fun r1_ u2_ H locs eu2_ hP hD hS hkf => ?_)
  have hP : va_P D vwCl (fl [obW z b1 b2 b3 h a y k0 k1 k2 k3, sgW T b1 g, plW T a q u2_.1 u2_.2, moW T r v (mS g.1 g.2.1) (mE g.2.2) ia ea ik ek ib eb tx, hiW T h d n σ, sgW T b2 gb, sgW T b3 gs, siA T y w tx len, siB T y K9 A9 W9]) H := fP3.mpr hP
  have hD : va_D (fun q9 : Nat => s.heap.size ≤ q9) (fl [obW z b1 b2 b3 h a y k0 k1 k2 k3, sgW T b1 g, plW T a q u2_.1 u2_.2, moW T r v (mS g.1 g.2.1) (mE g.2.2) ia ea ik ek ib eb tx, hiW T h d n σ, sgW T b2 gb, sgW T b3 gs, siA T y w tx len, siB T y K9 A9 W9]) := fD3.mpr hD
  have hP := bP (bs := [obW z b1 b2 b3 h a y k0 k1 k2 k3, sgW T b1 g, plW T a q u2_.1 u2_.2, moW T r v (mS g.1 g.2.1) (mE g.2.2) ia ea ik ek ib eb tx, hiW T h d n σ, sgW T b2 gb, sgW T b3 gs, siA T y w tx len, siB T y K9 A9 W9]) (bs' := [moW T r v (mS g.1 g.2.1) (mE g.2.2) ia ea ik ek ib eb tx, obW z b1 b2 b3 h a y k0 k1 k2 k3, sgW T b1 g, hiW T h d n σ, sgW T b2 gb, sgW T b3 gs, plW T a q u2_.1 u2_.2, siA T y w tx len, siB T y K9 A9 W9]) hP [3, 0, 1, 4, 5, 6, 2, 7, 8] rfl rfl
  have hD := bD (bs := [obW z b1 b2 b3 h a y k0 k1 k2 k3, sgW T b1 g, plW T a q u2_.1 u2_.2, moW T r v (mS g.1 g.2.1) (mE g.2.2) ia ea ik ek ib eb tx, hiW T h d n σ, sgW T b2 gb, sgW T b3 gs, siA T y w tx len, siB T y K9 A9 W9]) (bs' := [moW T r v (mS g.1 g.2.1) (mE g.2.2) ia ea ik ek ib eb tx, obW z b1 b2 b3 h a y k0 k1 k2 k3, sgW T b1 g, hiW T h d n σ, sgW T b2 gb, sgW T b3 gs, plW T a q u2_.1 u2_.2, siA T y w tx len, siB T y K9 A9 W9]) hD [3, 0, 1, 4, 5, 6, 2, 7, 8] rfl rfl
  refine lv_aload_n hx hb dL_law_601 rfl (lv_at hl 3 rfl) ?_
  refine lv_aload_n hx hb dL_law_602 rfl (lv_at hl 1 rfl) ?_
  refine lv_iload_n hx hb dL_law_603 rfl (lv_at hl 0 rfl) ?_
  refine lv_iconst (v := nI 1) hx hb dL_law_604 (by decide) ?_
  refine lv_iadd hx hb dL_law_605 ?_
  refine lv_tpi (nI_add i 1) ?_
  refine va_sld hx hb hsx hbl hbA hS (vp_in_nI (by omega) (by omega)) dL_law_606 ?_
  refine lv_tpi (congrArg xs (nI_clamp (by omega))) ?_
  refine lv_aload_n hx hb dL_law_607 rfl (lv_at hl 1 rfl) ?_
  refine lv_iload_n hx hb dL_law_608 rfl (lv_at hl 0 rfl) ?_
  refine lv_iconst (v := nI 2) hx hb dL_law_609 (by decide) ?_
  refine lv_iadd hx hb dL_law_610 ?_
  refine lv_tpi (nI_add i 2) ?_
  refine va_sld hx hb hsx hbl hbA hS (vp_in_nI (by omega) (by omega)) dL_law_611 ?_
  refine lv_tpi (congrArg xs (nI_clamp (by omega))) ?_
  have hP : va_P D vwCl ([(r 0, .inr (6, moF r v)), (r 1, .inl (T 0, 43, .inl (mS g.1 g.2.1)))] ++ ([(r 2, .inl (T 1, 12, .inr (.inl (mE g.2.2)))), (r 3, .inl (T 0, 43, .inl ia)), (r 4, .inl (T 1, 12, .inr (.inl ea))), (r 5, .inl (T 0, 43, .inl ik)), (r 6, .inl (T 1, 12, .inr (.inl ek))), (r 7, .inl (T 0, 172, .inl ib)), (r 8, .inl (T 1, 48, .inr (.inl eb))), (r 9, .inl (T 0, 60, .inl tx))] ++ fl [obW z b1 b2 b3 h a y k0 k1 k2 k3, sgW T b1 g, hiW T h d n σ, sgW T b2 gb, sgW T b3 gs, plW T a q u2_.1 u2_.2, siA T y w tx len, siB T y K9 A9 W9])) H := hP
  have hD : va_D (fun q9 : Nat => s.heap.size ≤ q9) ([(r 0, .inr (6, moF r v)), (r 1, .inl (T 0, 43, .inl (mS g.1 g.2.1)))] ++ ([(r 2, .inl (T 1, 12, .inr (.inl (mE g.2.2)))), (r 3, .inl (T 0, 43, .inl ia)), (r 4, .inl (T 1, 12, .inr (.inl ea))), (r 5, .inl (T 0, 43, .inl ik)), (r 6, .inl (T 1, 12, .inr (.inl ek))), (r 7, .inl (T 0, 172, .inl ib)), (r 8, .inl (T 1, 48, .inr (.inl eb))), (r 9, .inl (T 0, 60, .inl tx))] ++ fl [obW z b1 b2 b3 h a y k0 k1 k2 k3, sgW T b1 g, hiW T h d n σ, sgW T b2 gb, sgW T b3 gs, plW T a q u2_.1 u2_.2, siA T y w tx len, siB T y K9 A9 W9])) := hD
  refine callMi (As := [.int (xs (i + 1)), .int (xs (i + 2))]) (wr := ([(r 2, .inl (T 1, 12, .inr (.inl (mE g.2.2)))), (r 3, .inl (T 0, 43, .inl ia)), (r 4, .inl (T 1, 12, .inr (.inl ea))), (r 5, .inl (T 0, 43, .inl ik)), (r 6, .inl (T 1, 12, .inr (.inl ek))), (r 7, .inl (T 0, 172, .inl ib)), (r 8, .inl (T 1, 48, .inr (.inl eb))), (r 9, .inl (T 0, 60, .inl tx))] ++ fl [obW z b1 b2 b3 h a y k0 k1 k2 k3, sgW T b1 g, hiW T h d n σ, sgW T b2 gb, sgW T b3 gs, plW T a q u2_.1 u2_.2, siA T y w tx len, siB T y K9 A9 W9])) ⟨hx, hb, hml, hown, hts⟩ (mX6_depthIn l T D r v g.1 g.2.1 (li_g hi9).1 (xs (i + 1)) (xs (i + 2))) (cwV 2 hts gL_law_X6_depthIn rfl rfl rfl pdX6_depthIn ⟨Nat.le_of_ble_eq_true rfl, Nat.le_of_ble_eq_true rfl⟩) hP hD hK hS hA xN_bl (fun U _ hW => XN_warm hW hX) (ci := 6) rfl rfl rfl hl.1 rfl rfl (Nat.le_of_ble_eq_true rfl) dL_law_612 ⟨Nat.le_of_ble_eq_true rfl, Nat.le_of_ble_eq_true rfl⟩ (fun r3_ u4_ H locs eu4_ hP hD hS hkf => ?_)
  have hP : va_P D vwCl (fl [moW T r u4_ (mS g.1 g.2.1) (mE g.2.2) ia ea ik ek ib eb tx, obW z b1 b2 b3 h a y k0 k1 k2 k3, sgW T b1 g, hiW T h d n σ, sgW T b2 gb, sgW T b3 gs, plW T a q u2_.1 u2_.2, siA T y w tx len, siB T y K9 A9 W9]) H := hP
  have hD : va_D (fun q9 : Nat => s.heap.size ≤ q9) (fl [moW T r u4_ (mS g.1 g.2.1) (mE g.2.2) ia ea ik ek ib eb tx, obW z b1 b2 b3 h a y k0 k1 k2 k3, sgW T b1 g, hiW T h d n σ, sgW T b2 gb, sgW T b3 gs, plW T a q u2_.1 u2_.2, siA T y w tx len, siB T y K9 A9 W9]) := hD
  obtain ⟨er2, hu2⟩ := eu4_
  refine lv_icmp_eq (tgt := 702) hx hb dL_law_615 (by decide) (fun _ => ?_) (fun c9 => absurd ((eu2_).trans er2.symm) c9)
  exact kk d k0 k1 k2 k3 n σ g gb gs u2_.1 u2_.2 w K9 A9 W9 tx len u4_ ia ea ik ek ib eb H _ ls (li_v hi9 (fun k h9 => hu2 k (by omega))) hP hD hS (lv_sub hl [0, 1, 2, 3] rfl)
set_option maxHeartbeats 4000000 in
set_option maxRecDepth 100000 in
theorem lc_leastVoltage (C : lwC p s m c bq L xs T D) {i : Nat} (hi : i + 4 ≤ L) (kk : lwB p l e s m below meth c Q bq T D z a q b1 b2 b3 h y r 702 i) : lwB p l e s m below meth c Q bq T D z a q b1 b2 b3 h y r 620 i := by
  obtain ⟨hx, hb, hml, hown, hts, hsx, hbl, hK, hXS, hL⟩ := C
  have hX := hXS.1
  have hA : ∀ q9 : Nat, s.heap.size ≤ q9 → (fun q9 : Nat => s.heap.size ≤ q9) q9 := fun _ h9 => h9
  have hbA : ¬ (fun q9 : Nat => s.heap.size ≤ q9) bq := Nat.not_le.mpr hbl
  intro d k0 k1 k2 k3 n σ g gb gs V G w K9 A9 W9 tx len v ia ea ik ek ib eb H locs ls hi9 hP hD hS hl
  refine lv_aload_n hx hb dL_law_620 rfl (lv_at hl 2 rfl) ?_
  refine lv_aload_n hx hb dL_law_621 rfl (lv_at hl 1 rfl) ?_
  refine lv_iload_n hx hb dL_law_622 rfl (lv_at hl 0 rfl) ?_
  refine lv_iconst (v := nI 1) hx hb dL_law_623 (by decide) ?_
  refine lv_iadd hx hb dL_law_624 ?_
  refine lv_tpi (nI_add i 1) ?_
  refine va_sld hx hb hsx hbl hbA hS (vp_in_nI (by omega) (by omega)) dL_law_625 ?_
  refine lv_tpi (congrArg xs (nI_clamp (by omega))) ?_
  refine callRi (As := [.int (xs (i + 1))]) ⟨hx, hb, hml, hown, hts⟩ (mX5_leastVoltage l T D z (b2 0) (b3 0) (h 0) a (y 0) k0 k1 k2 k3 b1 g.1 g.2.1 g.2.2 (li_g hi9).1 (xs (i + 1))) (cwV 1 hts gL_law_X5_leastVoltage rfl rfl rfl pdX5_leastVoltage ⟨Nat.le_of_ble_eq_true rfl, Nat.le_of_ble_eq_true rfl⟩) (wP_left (fP2.mp (bP (bs := [moW T r v (mS g.1 g.2.1) (mE g.2.2) ia ea ik ek ib eb tx, obW z b1 b2 b3 h a y k0 k1 k2 k3, sgW T b1 g, hiW T h d n σ, sgW T b2 gb, sgW T b3 gs, plW T a q V G, siA T y w tx len, siB T y K9 A9 W9]) (bs' := [obW z b1 b2 b3 h a y k0 k1 k2 k3, sgW T b1 g, moW T r v (mS g.1 g.2.1) (mE g.2.2) ia ea ik ek ib eb tx, hiW T h d n σ, sgW T b2 gb, sgW T b3 gs, plW T a q V G, siA T y w tx len, siB T y K9 A9 W9]) hP [1, 2, 0, 3, 4, 5, 6, 7, 8] rfl rfl))) hK xN_bl (fun U _ hW => XN_warm hW hX) (ci := 5) rfl rfl rfl hl.1 rfl rfl (Nat.le_of_ble_eq_true rfl) dL_law_626 ⟨Nat.le_of_ble_eq_true rfl, Nat.le_of_ble_eq_true rfl⟩ (fun r1_ er1_ => ?_)
  refine lv_aload_n hx hb dL_law_629 rfl (lv_at hl 3 rfl) ?_
  refine lv_aload_n hx hb dL_law_630 rfl (lv_at hl 1 rfl) ?_
  refine lv_iload_n hx hb dL_law_631 rfl (lv_at hl 0 rfl) ?_
  refine lv_iconst (v := nI 1) hx hb dL_law_632 (by decide) ?_
  refine lv_iadd hx hb dL_law_633 ?_
  refine lv_tpi (nI_add i 1) ?_
  refine va_sld hx hb hsx hbl hbA hS (vp_in_nI (by omega) (by omega)) dL_law_634 ?_
  refine lv_tpi (congrArg xs (nI_clamp (by omega))) ?_
  refine callRi (As := [.int (xs (i + 1))]) ⟨hx, hb, hml, hown, hts⟩ (mX6_leastVoltage l T D (r 0) (r 1) (moF r v) g.1 g.2.1 rfl (li_g hi9).1 (xs (i + 1))) (cwV 1 hts gL_law_X6_leastVoltage rfl rfl rfl pdX6_leastVoltage ⟨Nat.le_of_ble_eq_true rfl, Nat.le_of_ble_eq_true rfl⟩) ((wP_left (fP1.mp hP)).sub [0, 1] rfl) hK xN_bl (fun U _ hW => XN_warm hW hX) (ci := 6) rfl rfl rfl hl.1 rfl rfl (Nat.le_of_ble_eq_true rfl) dL_law_635 ⟨Nat.le_of_ble_eq_true rfl, Nat.le_of_ble_eq_true rfl⟩ (fun r2_ er2_ => ?_)
  refine lv_icmp_eq (tgt := 702) hx hb dL_law_638 (by decide) (fun _ => ?_) (fun c9 => absurd ((er1_).trans (er2_).symm) c9)
  exact kk d k0 k1 k2 k3 n σ g gb gs V G w K9 A9 W9 tx len v ia ea ik ek ib eb H _ ls hi9 hP hD hS (lv_sub hl [0, 1, 2, 3] rfl)
set_option maxHeartbeats 4000000 in
set_option maxRecDepth 100000 in
theorem lc_drawingVoltage (C : lwC p s m c bq L xs T D) {i : Nat} (hi : i + 4 ≤ L) (kk : lwB p l e s m below meth c Q bq T D z a q b1 b2 b3 h y r 702 i) : lwB p l e s m below meth c Q bq T D z a q b1 b2 b3 h y r 643 i := by
  obtain ⟨hx, hb, hml, hown, hts, hsx, hbl, hK, hXS, hL⟩ := C
  have hX := hXS.1
  have hA : ∀ q9 : Nat, s.heap.size ≤ q9 → (fun q9 : Nat => s.heap.size ≤ q9) q9 := fun _ h9 => h9
  have hbA : ¬ (fun q9 : Nat => s.heap.size ≤ q9) bq := Nat.not_le.mpr hbl
  intro d k0 k1 k2 k3 n σ g gb gs V G w K9 A9 W9 tx len v ia ea ik ek ib eb H locs ls hi9 hP hD hS hl
  refine lv_aload_n hx hb dL_law_643 rfl (lv_at hl 2 rfl) ?_
  refine lv_aload_n hx hb dL_law_644 rfl (lv_at hl 1 rfl) ?_
  refine lv_iload_n hx hb dL_law_645 rfl (lv_at hl 0 rfl) ?_
  refine lv_iconst (v := nI 1) hx hb dL_law_646 (by decide) ?_
  refine lv_iadd hx hb dL_law_647 ?_
  refine lv_tpi (nI_add i 1) ?_
  refine va_sld hx hb hsx hbl hbA hS (vp_in_nI (by omega) (by omega)) dL_law_648 ?_
  refine lv_tpi (congrArg xs (nI_clamp (by omega))) ?_
  refine callRi (As := [.int (xs (i + 1))]) ⟨hx, hb, hml, hown, hts⟩ (mX5_drawingVoltage l T D z (b2 0) (b3 0) (h 0) a (y 0) k0 k1 k2 k3 b1 g.1 g.2.1 g.2.2 (li_g hi9).1 (xs (i + 1))) (cwV 1 hts gL_law_X5_drawingVoltage rfl rfl rfl pdX5_drawingVoltage ⟨Nat.le_of_ble_eq_true rfl, Nat.le_of_ble_eq_true rfl⟩) (wP_left (fP2.mp (bP (bs := [moW T r v (mS g.1 g.2.1) (mE g.2.2) ia ea ik ek ib eb tx, obW z b1 b2 b3 h a y k0 k1 k2 k3, sgW T b1 g, hiW T h d n σ, sgW T b2 gb, sgW T b3 gs, plW T a q V G, siA T y w tx len, siB T y K9 A9 W9]) (bs' := [obW z b1 b2 b3 h a y k0 k1 k2 k3, sgW T b1 g, moW T r v (mS g.1 g.2.1) (mE g.2.2) ia ea ik ek ib eb tx, hiW T h d n σ, sgW T b2 gb, sgW T b3 gs, plW T a q V G, siA T y w tx len, siB T y K9 A9 W9]) hP [1, 2, 0, 3, 4, 5, 6, 7, 8] rfl rfl))) hK xN_bl (fun U _ hW => XN_warm hW hX) (ci := 5) rfl rfl rfl hl.1 rfl rfl (Nat.le_of_ble_eq_true rfl) dL_law_649 ⟨Nat.le_of_ble_eq_true rfl, Nat.le_of_ble_eq_true rfl⟩ (fun r1_ er1_ => ?_)
  refine lv_aload_n hx hb dL_law_652 rfl (lv_at hl 3 rfl) ?_
  refine lv_aload_n hx hb dL_law_653 rfl (lv_at hl 1 rfl) ?_
  refine lv_iload_n hx hb dL_law_654 rfl (lv_at hl 0 rfl) ?_
  refine lv_iconst (v := nI 1) hx hb dL_law_655 (by decide) ?_
  refine lv_iadd hx hb dL_law_656 ?_
  refine lv_tpi (nI_add i 1) ?_
  refine va_sld hx hb hsx hbl hbA hS (vp_in_nI (by omega) (by omega)) dL_law_657 ?_
  refine lv_tpi (congrArg xs (nI_clamp (by omega))) ?_
  refine callRi (As := [.int (xs (i + 1))]) ⟨hx, hb, hml, hown, hts⟩ (mX6_drawingVoltage l T D (r 0) (r 1) (moF r v) g.1 g.2.1 rfl (li_g hi9).1 (xs (i + 1))) (cwV 1 hts gL_law_X6_drawingVoltage rfl rfl rfl pdX6_drawingVoltage ⟨Nat.le_of_ble_eq_true rfl, Nat.le_of_ble_eq_true rfl⟩) ((wP_left (fP1.mp hP)).sub [0, 1] rfl) hK xN_bl (fun U _ hW => XN_warm hW hX) (ci := 6) rfl rfl rfl hl.1 rfl rfl (Nat.le_of_ble_eq_true rfl) dL_law_658 ⟨Nat.le_of_ble_eq_true rfl, Nat.le_of_ble_eq_true rfl⟩ (fun r2_ er2_ => ?_)
  refine lv_icmp_eq (tgt := 702) hx hb dL_law_661 (by decide) (fun _ => ?_) (fun c9 => absurd ((er1_).trans (er2_).symm) c9)
  exact kk d k0 k1 k2 k3 n σ g gb gs V G w K9 A9 W9 tx len v ia ea ik ek ib eb H _ ls hi9 hP hD hS (lv_sub hl [0, 1, 2, 3] rfl)
set_option maxHeartbeats 4000000 in
set_option maxRecDepth 100000 in
theorem lc_strongest (C : lwC p s m c bq L xs T D) {i : Nat} (hi : i + 4 ≤ L) (kk : lwB p l e s m below meth c Q bq T D z a q b1 b2 b3 h y r 702 i) : lwB p l e s m below meth c Q bq T D z a q b1 b2 b3 h y r 666 i := by
  obtain ⟨hx, hb, hml, hown, hts, hsx, hbl, hK, hXS, hL⟩ := C
  have hX := hXS.1
  have hA : ∀ q9 : Nat, s.heap.size ≤ q9 → (fun q9 : Nat => s.heap.size ≤ q9) q9 := fun _ h9 => h9
  have hbA : ¬ (fun q9 : Nat => s.heap.size ≤ q9) bq := Nat.not_le.mpr hbl
  intro d k0 k1 k2 k3 n σ g gb gs V G w K9 A9 W9 tx len v ia ea ik ek ib eb H locs ls hi9 hP hD hS hl
  refine lv_aload_n hx hb dL_law_666 rfl (lv_at hl 2 rfl) ?_
  refine callRi (As := []) ⟨hx, hb, hml, hown, hts⟩ (mX5_strongest l T D z (b2 0) (b3 0) (h 0) a (y 0) k0 k1 k2 k3 b1 g.1 g.2.1 g.2.2 (li_g hi9).1 ) (cwV 0 hts gL_law_X5_strongest rfl rfl rfl pdX5_strongest ⟨Nat.le_of_ble_eq_true rfl, Nat.le_of_ble_eq_true rfl⟩) (wP_left (fP2.mp (bP (bs := [moW T r v (mS g.1 g.2.1) (mE g.2.2) ia ea ik ek ib eb tx, obW z b1 b2 b3 h a y k0 k1 k2 k3, sgW T b1 g, hiW T h d n σ, sgW T b2 gb, sgW T b3 gs, plW T a q V G, siA T y w tx len, siB T y K9 A9 W9]) (bs' := [obW z b1 b2 b3 h a y k0 k1 k2 k3, sgW T b1 g, moW T r v (mS g.1 g.2.1) (mE g.2.2) ia ea ik ek ib eb tx, hiW T h d n σ, sgW T b2 gb, sgW T b3 gs, plW T a q V G, siA T y w tx len, siB T y K9 A9 W9]) hP [1, 2, 0, 3, 4, 5, 6, 7, 8] rfl rfl))) hK xN_bl (fun U _ hW => XN_warm hW hX) (ci := 5) rfl rfl rfl hl.1 rfl rfl (Nat.le_of_ble_eq_true rfl) dL_law_667 ⟨Nat.le_of_ble_eq_true rfl, Nat.le_of_ble_eq_true rfl⟩ (fun r1_ er1_ => ?_)
  refine lv_aload_n hx hb dL_law_670 rfl (lv_at hl 3 rfl) ?_
  refine callRi (As := []) ⟨hx, hb, hml, hown, hts⟩ (mX6_strongest l T D (r 0) (r 1) (moF r v) g.1 g.2.1 rfl (li_g hi9).1 ) (cwV 0 hts gL_law_X6_strongest rfl rfl rfl pdX6_strongest ⟨Nat.le_of_ble_eq_true rfl, Nat.le_of_ble_eq_true rfl⟩) ((wP_left (fP1.mp hP)).sub [0, 1] rfl) hK xN_bl (fun U _ hW => XN_warm hW hX) (ci := 6) rfl rfl rfl hl.1 rfl rfl (Nat.le_of_ble_eq_true rfl) dL_law_671 ⟨Nat.le_of_ble_eq_true rfl, Nat.le_of_ble_eq_true rfl⟩ (fun r2_ er2_ => ?_)
  refine lv_icmp_eq (tgt := 702) hx hb dL_law_674 (by decide) (fun _ => ?_) (fun c9 => absurd ((er1_).trans ((sUp_max g.2.1).trans (er2_).symm)) c9)
  exact kk d k0 k1 k2 k3 n σ g gb gs V G w K9 A9 W9 tx len v ia ea ik ek ib eb H _ ls hi9 hP hD hS (lv_sub hl [0, 1, 2, 3] rfl)
end LAW
