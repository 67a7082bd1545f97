section LAW
variable {p : Program} {l : Launch} {e : Env} {s : State} {m : MethodId} {below : List Frame} {meth : Method} {c : Code} {Q : State → Prop} {bq L : Nat} {xs : Nat → Int32} {T : Nat → ClassId} {D : va_G} {z a q : Nat} {b1 b2 b3 h y r : Nat → Nat}
set_option maxHeartbeats 4000000 in
set_option maxRecDepth 100000 in
theorem lc_type (C : lwC p s m c bq L xs T D) {i : Nat} (hi : i + 4 ≤ L) (kk : lwB p l e s m below meth c Q bq T D z a q b1 b2 b3 h y r 702 i) : lwB p l e s m below meth c Q bq T D z a q b1 b2 b3 h y r 328 i := by
  obtain ⟨hx, hb, hml, hown, hts, hsx, hbl, hK, hXS, hL⟩ := C
  have hX := hXS.1
  have hA : ∀ q9 : Nat, s.heap.size ≤ q9 → (fun q9 : Nat => s.heap.size ≤ q9) q9 := fun _ h9 => h9
  have hbA : ¬ (fun q9 : Nat => s.heap.size ≤ q9) bq := Nat.not_le.mpr hbl
  intro d k0 k1 k2 k3 n σ g gb gs V G w K9 A9 W9 tx len v ia ea ik ek ib eb H locs ls hi9 hP hD hS hl
  refine lv_aload_n hx hb dL_law_328 rfl (lv_at hl 2 rfl) ?_
  refine lv_aload_n hx hb dL_law_329 rfl (lv_at hl 1 rfl) ?_
  refine lv_iload_n hx hb dL_law_330 rfl (lv_at hl 0 rfl) ?_
  refine lv_iconst (v := nI 1) hx hb dL_law_331 (by decide) ?_
  refine lv_iadd hx hb dL_law_332 ?_
  refine lv_tpi (nI_add i 1) ?_
  refine va_sld hx hb hsx hbl hbA hS (vp_in_nI (by omega) (by omega)) dL_law_333 ?_
  refine lv_tpi (congrArg xs (nI_clamp (by omega))) ?_
  refine lv_i2c hx hb dL_law_334 rfl ?_
  have hP := bP (bs := [moW T r v (mS g.1 g.2.1) (mE g.2.2) ia ea ik ek ib eb tx, obW z b1 b2 b3 h a y k0 k1 k2 k3, sgW T b1 g, hiW T h d n σ, sgW T b2 gb, sgW T b3 gs, plW T a q V G, siA T y w tx len, siB T y K9 A9 W9]) (bs' := [obW z b1 b2 b3 h a y k0 k1 k2 k3, siA T y w tx len, moW T r v (mS g.1 g.2.1) (mE g.2.2) ia ea ik ek ib eb tx, sgW T b1 g, hiW T h d n σ, sgW T b2 gb, sgW T b3 gs, plW T a q V G, siB T y K9 A9 W9]) hP [1, 7, 0, 2, 3, 4, 5, 6, 8] rfl rfl
  have hD := bD (bs := [moW T r v (mS g.1 g.2.1) (mE g.2.2) ia ea ik ek ib eb tx, obW z b1 b2 b3 h a y k0 k1 k2 k3, sgW T b1 g, hiW T h d n σ, sgW T b2 gb, sgW T b3 gs, plW T a q V G, siA T y w tx len, siB T y K9 A9 W9]) (bs' := [obW z b1 b2 b3 h a y k0 k1 k2 k3, siA T y w tx len, moW T r v (mS g.1 g.2.1) (mE g.2.2) ia ea ik ek ib eb tx, sgW T b1 g, hiW T h d n σ, sgW T b2 gb, sgW T b3 gs, plW T a q V G, siB T y K9 A9 W9]) hD [1, 7, 0, 2, 3, 4, 5, 6, 8] rfl rfl
  have hP := fP2.mp hP
  have hD := fD2.mp hD
  refine callMi (As := [.int ((Int32.toUInt32 (xs (i + 1))) % 65536).toInt32]) (wr := fl [moW T r v (mS g.1 g.2.1) (mE g.2.2) ia ea ik ek ib eb tx, sgW T b1 g, hiW T h d n σ, sgW T b2 gb, sgW T b3 gs, plW T a q V G, siB T y K9 A9 W9]) ⟨hx, hb, hml, hown, hts⟩ (mX5_type l T D z (b1 0) (b2 0) (b3 0) (h 0) a k0 k1 k2 k3 y w tx len (li_len hi9) (((Int32.toUInt32 (xs (i + 1))) % 65536).toInt32) (ch_of (xs (i + 1)))) (cwV 1 hts gL_law_X5_type rfl rfl rfl pdX5_type ⟨Nat.le_of_ble_eq_true rfl, Nat.le_of_ble_eq_true rfl⟩) hP hD hK hS hA xN_bl (fun U _ hW => XN_warm hW hX) (ci := 5) rfl rfl rfl hl.1 rfl rfl (Nat.le_of_ble_eq_true rfl) dL_law_335 ⟨Nat.le_of_ble_eq_true rfl, Nat.le_of_ble_eq_true rfl⟩ (fun r1_ u2_ H locs eu2_ hP hD hS hkf => ?_)
  have hP : va_P D vwCl (fl [obW z b1 b2 b3 h a y k0 k1 k2 k3, siA T y w u2_.1 u2_.2, moW T r v (mS g.1 g.2.1) (mE g.2.2) ia ea ik ek ib eb tx, sgW T b1 g, hiW T h d n σ, sgW T b2 gb, sgW T b3 gs, plW T a q V G, siB T y K9 A9 W9]) H := fP2.mpr hP
  have hD : va_D (fun q9 : Nat => s.heap.size ≤ q9) (fl [obW z b1 b2 b3 h a y k0 k1 k2 k3, siA T y w u2_.1 u2_.2, moW T r v (mS g.1 g.2.1) (mE g.2.2) ia ea ik ek ib eb tx, sgW T b1 g, hiW T h d n σ, sgW T b2 gb, sgW T b3 gs, plW T a q V G, siB T y K9 A9 W9]) := fD2.mpr hD
  have hP := bP (bs := [obW z b1 b2 b3 h a y k0 k1 k2 k3, siA T y w u2_.1 u2_.2, moW T r v (mS g.1 g.2.1) (mE g.2.2) ia ea ik ek ib eb tx, sgW T b1 g, hiW T h d n σ, sgW T b2 gb, sgW T b3 gs, plW T a q V G, siB T y K9 A9 W9]) (bs' := [moW T r v (mS g.1 g.2.1) (mE g.2.2) ia ea ik ek ib eb tx, obW z b1 b2 b3 h a y k0 k1 k2 k3, sgW T b1 g, hiW T h d n σ, sgW T b2 gb, sgW T b3 gs, plW T a q V G, siA T y w u2_.1 u2_.2, siB T y K9 A9 W9]) hP [2, 0, 3, 4, 5, 6, 7, 1, 8] rfl rfl
  have hD := bD (bs := [obW z b1 b2 b3 h a y k0 k1 k2 k3, siA T y w u2_.1 u2_.2, moW T r v (mS g.1 g.2.1) (mE g.2.2) ia ea ik ek ib eb tx, sgW T b1 g, hiW T h d n σ, sgW T b2 gb, sgW T b3 gs, plW T a q V G, siB T y K9 A9 W9]) (bs' := [moW T r v (mS g.1 g.2.1) (mE g.2.2) ia ea ik ek ib eb tx, obW z b1 b2 b3 h a y k0 k1 k2 k3, sgW T b1 g, hiW T h d n σ, sgW T b2 gb, sgW T b3 gs, plW T a q V G, siA T y w u2_.1 u2_.2, siB T y K9 A9 W9]) hD [2, 0, 3, 4, 5, 6, 7, 1, 8] rfl rfl
  refine lv_aload_n hx hb dL_law_338 rfl (lv_at hl 3 rfl) ?_
  refine lv_aload_n hx hb dL_law_339 rfl (lv_at hl 1 rfl) ?_
  refine lv_iload_n hx hb dL_law_340 rfl (lv_at hl 0 rfl) ?_
  refine lv_iconst (v := nI 1) hx hb dL_law_341 (by decide) ?_
  refine lv_iadd hx hb dL_law_342 ?_
  refine lv_tpi (nI_add i 1) ?_
  refine va_sld hx hb hsx hbl hbA hS (vp_in_nI (by omega) (by omega)) dL_law_343 ?_
  refine lv_tpi (congrArg xs (nI_clamp (by omega))) ?_
  refine lv_i2c hx hb dL_law_344 rfl ?_
  have hP : va_P D vwCl ([(r 0, .inr (6, moF r v)), (r 9, .inl (T 0, 60, .inl tx))] ++ ([(r 1, .inl (T 0, 43, .inl (mS g.1 g.2.1))), (r 2, .inl (T 1, 12, .inr (.inl (mE g.2.2)))), (r 3, .inl (T 0, 43, .inl ia)), (r 4, .inl (T 1, 12, .inr (.inl ea))), (r 5, .inl (T 0, 43, .inl ik)), (r 6, .inl (T 1, 12, .inr (.inl ek))), (r 7, .inl (T 0, 172, .inl ib)), (r 8, .inl (T 1, 48, .inr (.inl eb)))] ++ fl [obW z b1 b2 b3 h a y k0 k1 k2 k3, sgW T b1 g, hiW T h d n σ, sgW T b2 gb, sgW T b3 gs, plW T a q V G, siA T y w u2_.1 u2_.2, siB T y K9 A9 W9])) H := wP_perm q10_x (fP1.mp hP)
  have hD : va_D (fun q9 : Nat => s.heap.size ≤ q9) ([(r 0, .inr (6, moF r v)), (r 9, .inl (T 0, 60, .inl tx))] ++ ([(r 1, .inl (T 0, 43, .inl (mS g.1 g.2.1))), (r 2, .inl (T 1, 12, .inr (.inl (mE g.2.2)))), (r 3, .inl (T 0, 43, .inl ia)), (r 4, .inl (T 1, 12, .inr (.inl ea))), (r 5, .inl (T 0, 43, .inl ik)), (r 6, .inl (T 1, 12, .inr (.inl ek))), (r 7, .inl (T 0, 172, .inl ib)), (r 8, .inl (T 1, 48, .inr (.inl eb)))] ++ fl [obW z b1 b2 b3 h a y k0 k1 k2 k3, sgW T b1 g, hiW T h d n σ, sgW T b2 gb, sgW T b3 gs, plW T a q V G, siA T y w u2_.1 u2_.2, siB T y K9 A9 W9])) := wD_perm q10_x (fD1.mp hD)
  refine callMi (As := [.int ((Int32.toUInt32 (xs (i + 1))) % 65536).toInt32]) (wr := ([(r 1, .inl (T 0, 43, .inl (mS g.1 g.2.1))), (r 2, .inl (T 1, 12, .inr (.inl (mE g.2.2)))), (r 3, .inl (T 0, 43, .inl ia)), (r 4, .inl (T 1, 12, .inr (.inl ea))), (r 5, .inl (T 0, 43, .inl ik)), (r 6, .inl (T 1, 12, .inr (.inl ek))), (r 7, .inl (T 0, 172, .inl ib)), (r 8, .inl (T 1, 48, .inr (.inl eb)))] ++ fl [obW z b1 b2 b3 h a y k0 k1 k2 k3, sgW T b1 g, hiW T h d n σ, sgW T b2 gb, sgW T b3 gs, plW T a q V G, siA T y w u2_.1 u2_.2, siB T y K9 A9 W9])) ⟨hx, hb, hml, hown, hts⟩ (mX6_type l T D r v tx len (li_len hi9) (li_v2 hi9) (((Int32.toUInt32 (xs (i + 1))) % 65536).toInt32)) (cwV 1 hts gL_law_X6_type rfl rfl rfl pdX6_type ⟨Nat.le_of_ble_eq_true rfl, Nat.le_of_ble_eq_true rfl⟩) hP hD hK hS hA xN_bl (fun U _ hW => XN_warm hW hX) (ci := 6) rfl rfl rfl hl.1 rfl rfl (Nat.le_of_ble_eq_true rfl) dL_law_345 ⟨Nat.le_of_ble_eq_true rfl, Nat.le_of_ble_eq_true rfl⟩ (fun r3_ u4_ H locs eu4_ hP hD hS hkf => ?_)
  have hP : va_P D vwCl (fl [moW T r u4_.1 (mS g.1 g.2.1) (mE g.2.2) ia ea ik ek ib eb u4_.2, obW z b1 b2 b3 h a y k0 k1 k2 k3, sgW T b1 g, hiW T h d n σ, sgW T b2 gb, sgW T b3 gs, plW T a q V G, siA T y w u2_.1 u2_.2, siB T y K9 A9 W9]) H := fP1.mpr (wP_perm q10_x.symm hP)
  have hD : va_D (fun q9 : Nat => s.heap.size ≤ q9) (fl [moW T r u4_.1 (mS g.1 g.2.1) (mE g.2.2) ia ea ik ek ib eb u4_.2, obW z b1 b2 b3 h a y k0 k1 k2 k3, sgW T b1 g, hiW T h d n σ, sgW T b2 gb, sgW T b3 gs, plW T a q V G, siA T y w u2_.1 u2_.2, siB T y K9 A9 W9]) := fD1.mpr (wD_perm q10_x.symm hD)
  rcases eu2_ with ⟨a1, a2, a3⟩ | ⟨a1, a2, a3⟩ <;> rcases eu4_ with ⟨b1_, b2_, b3_⟩ | ⟨b1_, b2_, b3_⟩
  · skip
    refine lv_icmp_eq (tgt := 702) hx hb dL_law_348 (by decide) (fun _ => ?_) (fun c9 => absurd (a2.trans b2_.symm) c9)
    have hP8 := hP
    have hD8 := hD
    subst a3 b3_
    have hP := hP8
    have hD := hD8
    exact kk d k0 k1 k2 k3 n σ g gb gs V G w K9 A9 W9 tx len v ia ea ik ek ib eb H _ ls hi9 hP hD hS (lv_sub hl [0, 1, 2, 3] rfl)
  · skip
    exact absurd a1 (by omega)
  · skip
    exact absurd a1 (by omega)
  · skip
    refine lv_icmp_eq (tgt := 702) hx hb dL_law_348 (by decide) (fun _ => ?_) (fun c9 => absurd (a2.trans b2_.symm) c9)
    have hP8 := hP
    have hD8 := hD
    subst a3 b3_
    have hP := hP8
    have hD := hD8
    exact kk d k0 k1 k2 k3 n σ g gb gs V G w K9 A9 W9 (upd tx len (((Int32.toUInt32 (xs (i + 1))) % 65536).toInt32)) (len + 1) (upd v 2 (nI (len + 1))) ia ea ik ek ib eb H _ ls (li_type hi9 (ch_of _) a1) hP hD hS (lv_sub hl [0, 1, 2, 3] rfl)
set_option maxHeartbeats 4000000 in
set_option maxRecDepth 100000 in
theorem lc_clearText (C : lwC p s m c bq L xs T D) {i : Nat} (hi : i + 4 ≤ L) (kk : lwB p l e s m below meth c Q bq T D z a q b1 b2 b3 h y r 702 i) : lwB p l e s m below meth c Q bq T D z a q b1 b2 b3 h y r 353 i := by
  obtain ⟨hx, hb, hml, hown, hts, hsx, hbl, hK, hXS, hL⟩ := C
  have hX := hXS.1
  have hA : ∀ q9 : Nat, s.heap.size ≤ q9 → (fun q9 : Nat => s.heap.size ≤ q9) q9 := fun _ h9 => h9
  have hbA : ¬ (fun q9 : Nat => s.heap.size ≤ q9) bq := Nat.not_le.mpr hbl
  intro d k0 k1 k2 k3 n σ g gb gs V G w K9 A9 W9 tx len v ia ea ik ek ib eb H locs ls hi9 hP hD hS hl
  refine lv_aload_n hx hb dL_law_353 rfl (lv_at hl 2 rfl) ?_
  have hP := bP (bs := [moW T r v (mS g.1 g.2.1) (mE g.2.2) ia ea ik ek ib eb tx, obW z b1 b2 b3 h a y k0 k1 k2 k3, sgW T b1 g, hiW T h d n σ, sgW T b2 gb, sgW T b3 gs, plW T a q V G, siA T y w tx len, siB T y K9 A9 W9]) (bs' := [obW z b1 b2 b3 h a y k0 k1 k2 k3, siA T y w tx len, moW T r v (mS g.1 g.2.1) (mE g.2.2) ia ea ik ek ib eb tx, sgW T b1 g, hiW T h d n σ, sgW T b2 gb, sgW T b3 gs, plW T a q V G, siB T y K9 A9 W9]) hP [1, 7, 0, 2, 3, 4, 5, 6, 8] rfl rfl
  have hD := bD (bs := [moW T r v (mS g.1 g.2.1) (mE g.2.2) ia ea ik ek ib eb tx, obW z b1 b2 b3 h a y k0 k1 k2 k3, sgW T b1 g, hiW T h d n σ, sgW T b2 gb, sgW T b3 gs, plW T a q V G, siA T y w tx len, siB T y K9 A9 W9]) (bs' := [obW z b1 b2 b3 h a y k0 k1 k2 k3, siA T y w tx len, moW T r v (mS g.1 g.2.1) (mE g.2.2) ia ea ik ek ib eb tx, sgW T b1 g, hiW T h d n σ, sgW T b2 gb, sgW T b3 gs, plW T a q V G, siB T y K9 A9 W9]) hD [1, 7, 0, 2, 3, 4, 5, 6, 8] rfl rfl
  have hP := fP2.mp hP
  have hD := fD2.mp hD
  refine callMi (As := []) (wr := fl [moW T r v (mS g.1 g.2.1) (mE g.2.2) ia ea ik ek ib eb tx, sgW T b1 g, hiW T h d n σ, sgW T b2 gb, sgW T b3 gs, plW T a q V G, siB T y K9 A9 W9]) ⟨hx, hb, hml, hown, hts⟩ (mX5_clearText l T D z (b1 0) (b2 0) (b3 0) (h 0) a k0 k1 k2 k3 y w tx len (li_len hi9)) (cwV 0 hts gL_law_X5_clearText rfl rfl rfl pdX5_clearText ⟨Nat.le_of_ble_eq_true rfl, Nat.le_of_ble_eq_true rfl⟩) hP hD hK hS hA xN_bl (fun U _ hW => XN_warm hW hX) (ci := 5) rfl rfl rfl hl.1 rfl rfl (Nat.le_of_ble_eq_true rfl) dL_law_354 ⟨Nat.le_of_ble_eq_true rfl, Nat.le_of_ble_eq_true rfl⟩ (fun r1_ u2_ H locs eu2_ hP hD hS hkf => ?_)
  have hP : va_P D vwCl (fl [obW z b1 b2 b3 h a y k0 k1 k2 k3, siA T y w tx 0, moW T r v (mS g.1 g.2.1) (mE g.2.2) ia ea ik ek ib eb tx, sgW T b1 g, hiW T h d n σ, sgW T b2 gb, sgW T b3 gs, plW T a q V G, siB T y K9 A9 W9]) H := fP2.mpr hP
  have hD : va_D (fun q9 : Nat => s.heap.size ≤ q9) (fl [obW z b1 b2 b3 h a y k0 k1 k2 k3, siA T y w tx 0, moW T r v (mS g.1 g.2.1) (mE g.2.2) ia ea ik ek ib eb tx, sgW T b1 g, hiW T h d n σ, sgW T b2 gb, sgW T b3 gs, plW T a q V G, siB T y K9 A9 W9]) := fD2.mpr hD
  have hP := bP (bs := [obW z b1 b2 b3 h a y k0 k1 k2 k3, siA T y w tx 0, moW T r v (mS g.1 g.2.1) (mE g.2.2) ia ea ik ek ib eb tx, sgW T b1 g, hiW T h d n σ, sgW T b2 gb, sgW T b3 gs, plW T a q V G, siB T y K9 A9 W9]) (bs' := [moW T r v (mS g.1 g.2.1) (mE g.2.2) ia ea ik ek ib eb tx, obW z b1 b2 b3 h a y k0 k1 k2 k3, sgW T b1 g, hiW T h d n σ, sgW T b2 gb, sgW T b3 gs, plW T a q V G, siA T y w tx 0, siB T y K9 A9 W9]) hP [2, 0, 3, 4, 5, 6, 7, 1, 8] rfl rfl
  have hD := bD (bs := [obW z b1 b2 b3 h a y k0 k1 k2 k3, siA T y w tx 0, moW T r v (mS g.1 g.2.1) (mE g.2.2) ia ea ik ek ib eb tx, sgW T b1 g, hiW T h d n σ, sgW T b2 gb, sgW T b3 gs, plW T a q V G, siB T y K9 A9 W9]) (bs' := [moW T r v (mS g.1 g.2.1) (mE g.2.2) ia ea ik ek ib eb tx, obW z b1 b2 b3 h a y k0 k1 k2 k3, sgW T b1 g, hiW T h d n σ, sgW T b2 gb, sgW T b3 gs, plW T a q V G, siA T y w tx 0, siB T y K9 A9 W9]) hD [2, 0, 3, 4, 5, 6, 7, 1, 8] rfl rfl
  refine lv_aload_n hx hb dL_law_357 rfl (lv_at hl 3 rfl) ?_
  have hP : va_P D vwCl ([(r 0, .inr (6, moF r v)), (r 9, .inl (T 0, 60, .inl tx))] ++ ([(r 1, .inl (T 0, 43, .inl (mS g.1 g.2.1))), (r 2, .inl (T 1, 12, .inr (.inl (mE g.2.2)))), (r 3, .inl (T 0, 43, .inl ia)), (r 4, .inl (T 1, 12, .inr (.inl ea))), (r 5, .inl (T 0, 43, .inl ik)), (r 6, .inl (T 1, 12, .inr (.inl ek))), (r 7, .inl (T 0, 172, .inl ib)), (r 8, .inl (T 1, 48, .inr (.inl eb)))] ++ fl [obW z b1 b2 b3 h a y k0 k1 k2 k3, sgW T b1 g, hiW T h d n σ, sgW T b2 gb, sgW T b3 gs, plW T a q V G, siA T y w tx 0, siB T y K9 A9 W9])) H := wP_perm q10_x (fP1.mp hP)
  have hD : va_D (fun q9 : Nat => s.heap.size ≤ q9) ([(r 0, .inr (6, moF r v)), (r 9, .inl (T 0, 60, .inl tx))] ++ ([(r 1, .inl (T 0, 43, .inl (mS g.1 g.2.1))), (r 2, .inl (T 1, 12, .inr (.inl (mE g.2.2)))), (r 3, .inl (T 0, 43, .inl ia)), (r 4, .inl (T 1, 12, .inr (.inl ea))), (r 5, .inl (T 0, 43, .inl ik)), (r 6, .inl (T 1, 12, .inr (.inl ek))), (r 7, .inl (T 0, 172, .inl ib)), (r 8, .inl (T 1, 48, .inr (.inl eb)))] ++ fl [obW z b1 b2 b3 h a y k0 k1 k2 k3, sgW T b1 g, hiW T h d n σ, sgW T b2 gb, sgW T b3 gs, plW T a q V G, siA T y w tx 0, siB T y K9 A9 W9])) := wD_perm q10_x (fD1.mp hD)
  refine callMi (As := []) (wr := ([(r 1, .inl (T 0, 43, .inl (mS g.1 g.2.1))), (r 2, .inl (T 1, 12, .inr (.inl (mE g.2.2)))), (r 3, .inl (T 0, 43, .inl ia)), (r 4, .inl (T 1, 12, .inr (.inl ea))), (r 5, .inl (T 0, 43, .inl ik)), (r 6, .inl (T 1, 12, .inr (.inl ek))), (r 7, .inl (T 0, 172, .inl ib)), (r 8, .inl (T 1, 48, .inr (.inl eb)))] ++ fl [obW z b1 b2 b3 h a y k0 k1 k2 k3, sgW T b1 g, hiW T h d n σ, sgW T b2 gb, sgW T b3 gs, plW T a q V G, siA T y w tx 0, siB T y K9 A9 W9])) ⟨hx, hb, hml, hown, hts⟩ (mX6_clearText l T D r v tx) (cwV 0 hts gL_law_X6_clearText rfl rfl rfl pdX6_clearText ⟨Nat.le_of_ble_eq_true rfl, Nat.le_of_ble_eq_true rfl⟩) hP hD hK hS hA xN_bl (fun U _ hW => XN_warm hW hX) (ci := 6) rfl rfl rfl hl.1 rfl rfl (Nat.le_of_ble_eq_true rfl) dL_law_358 ⟨Nat.le_of_ble_eq_true rfl, Nat.le_of_ble_eq_true rfl⟩ (fun r3_ u4_ H locs eu4_ hP hD hS hkf => ?_)
  have hP : va_P D vwCl (fl [moW T r (upd v 2 0) (mS g.1 g.2.1) (mE g.2.2) ia ea ik ek ib eb tx, obW z b1 b2 b3 h a y k0 k1 k2 k3, sgW T b1 g, hiW T h d n σ, sgW T b2 gb, sgW T b3 gs, plW T a q V G, siA T y w tx 0, siB T y K9 A9 W9]) H := fP1.mpr (wP_perm q10_x.symm hP)
  have hD : va_D (fun q9 : Nat => s.heap.size ≤ q9) (fl [moW T r (upd v 2 0) (mS g.1 g.2.1) (mE g.2.2) ia ea ik ek ib eb tx, obW z b1 b2 b3 h a y k0 k1 k2 k3, sgW T b1 g, hiW T h d n σ, sgW T b2 gb, sgW T b3 gs, plW T a q V G, siA T y w tx 0, siB T y K9 A9 W9]) := fD1.mpr (wD_perm q10_x.symm hD)
  refine lv_icmp_eq (tgt := 702) hx hb dL_law_361 (by decide) (fun _ => ?_) (fun c9 => absurd ((show r1_ = nI len from eu2_).trans ((show r3_ = v 2 from eu4_).trans (li_v2 hi9)).symm) c9)
  exact kk d k0 k1 k2 k3 n σ g gb gs V G w K9 A9 W9 tx 0 (upd v 2 0) ia ea ik ek ib eb H _ ls (li_clear hi9) hP hD hS (lv_sub hl [0, 1, 2, 3] rfl)
set_option maxHeartbeats 4000000 in
set_option maxRecDepth 100000 in
theorem lc_perform (C : lwC p s m c bq L xs T D) {i : Nat} (hi : i + 4 ≤ L) (kk : lwB p l e s m below meth c Q bq T D z a q b1 b2 b3 h y r 702 i) : lwB p l e s m below meth c Q bq T D z a q b1 b2 b3 h y r 366 i := by
  obtain ⟨hx, hb, hml, hown, hts, hsx, hbl, hK, hXS, hL⟩ := C
  have hX := hXS.1
  have hA : ∀ q9 : Nat, s.heap.size ≤ q9 → (fun q9 : Nat => s.heap.size ≤ q9) q9 := fun _ h9 => h9
  have hbA : ¬ (fun q9 : Nat => s.heap.size ≤ q9) bq := Nat.not_le.mpr hbl
  intro d k0 k1 k2 k3 n σ g gb gs V G w K9 A9 W9 tx len v ia ea ik ek ib eb H locs ls hi9 hP hD hS hl
  refine lv_aload_n hx hb dL_law_366 rfl (lv_at hl 2 rfl) ?_
  have hP := bP (bs := [moW T r v (mS g.1 g.2.1) (mE g.2.2) ia ea ik ek ib eb tx, obW z b1 b2 b3 h a y k0 k1 k2 k3, sgW T b1 g, hiW T h d n σ, sgW T b2 gb, sgW T b3 gs, plW T a q V G, siA T y w tx len, siB T y K9 A9 W9]) (bs' := [obW z b1 b2 b3 h a y k0 k1 k2 k3, siA T y w tx len, siB T y K9 A9 W9, sgW T b1 g, hiW T h d n σ, sgW T b2 gb, moW T r v (mS g.1 g.2.1) (mE g.2.2) ia ea ik ek ib eb tx, sgW T b3 gs, plW T a q V G]) hP [1, 7, 8, 2, 3, 4, 0, 5, 6] rfl rfl
  have hD := bD (bs := [moW T r v (mS g.1 g.2.1) (mE g.2.2) ia ea ik ek ib eb tx, obW z b1 b2 b3 h a y k0 k1 k2 k3, sgW T b1 g, hiW T h d n σ, sgW T b2 gb, sgW T b3 gs, plW T a q V G, siA T y w tx len, siB T y K9 A9 W9]) (bs' := [obW z b1 b2 b3 h a y k0 k1 k2 k3, siA T y w tx len, siB T y K9 A9 W9, sgW T b1 g, hiW T h d n σ, sgW T b2 gb, moW T r v (mS g.1 g.2.1) (mE g.2.2) ia ea ik ek ib eb tx, sgW T b3 gs, plW T a q V G]) hD [1, 7, 8, 2, 3, 4, 0, 5, 6] rfl rfl
  have hP := fP6.mp hP
  have hD := fD6.mp hD
  refine callMi (As := []) (wr := fl [moW T r v (mS g.1 g.2.1) (mE g.2.2) ia ea ik ek ib eb tx, sgW T b3 gs, plW T a q V G]) ⟨hx, hb, hml, hown, hts⟩ (mX5_perform l T D z (b3 0) a b1 b2 k0 k1 k2 k3 h d n σ y w K9 A9 W9 tx len (li_len hi9) (li_ch hi9) g gb (li_n hi9) (li_g hi9).1) (cwV 0 hts gL_law_X5_perform rfl rfl rfl pdX5_perform ⟨Nat.le_of_ble_eq_true rfl, Nat.le_of_ble_eq_true rfl⟩) hP hD hK hS hA xN_bl (fun U _ hW => XN_warm hW hX) (ci := 5) rfl rfl rfl hl.1 rfl rfl (Nat.le_of_ble_eq_true rfl) dL_law_367 ⟨Nat.le_of_ble_eq_true rfl, Nat.le_of_ble_eq_true rfl⟩ (fun r1_ u2_ H locs eu2_ hP hD hS hkf => ?_)
  obtain ⟨g1, q1, gb1, ⟨w1, K1, A1, W1⟩, kk1⟩ := u2_
  have hP : va_P D vwCl (fl [obW z b1 b2 b3 h a y k0 kk1.1 kk1.2.1 kk1.2.2, siA T y w1 tx len, siB T y K1 A1 W1, sgW T b1 g1, hiW T h q1.1 q1.2.1 q1.2.2, sgW T b2 gb1, moW T r v (mS g.1 g.2.1) (mE g.2.2) ia ea ik ek ib eb tx, sgW T b3 gs, plW T a q V G]) H := fP6.mpr hP
  have hD : va_D (fun q9 : Nat => s.heap.size ≤ q9) (fl [obW z b1 b2 b3 h a y k0 kk1.1 kk1.2.1 kk1.2.2, siA T y w1 tx len, siB T y K1 A1 W1, sgW T b1 g1, hiW T h q1.1 q1.2.1 q1.2.2, sgW T b2 gb1, moW T r v (mS g.1 g.2.1) (mE g.2.2) ia ea ik ek ib eb tx, sgW T b3 gs, plW T a q V G]) := fD6.mpr hD
  have hP := bP (bs := [obW z b1 b2 b3 h a y k0 kk1.1 kk1.2.1 kk1.2.2, siA T y w1 tx len, siB T y K1 A1 W1, sgW T b1 g1, hiW T h q1.1 q1.2.1 q1.2.2, sgW T b2 gb1, moW T r v (mS g.1 g.2.1) (mE g.2.2) ia ea ik ek ib eb tx, sgW T b3 gs, plW T a q V G]) (bs' := [moW T r v (mS g.1 g.2.1) (mE g.2.2) ia ea ik ek ib eb tx, obW z b1 b2 b3 h a y k0 kk1.1 kk1.2.1 kk1.2.2, sgW T b1 g1, hiW T h q1.1 q1.2.1 q1.2.2, sgW T b2 gb1, sgW T b3 gs, plW T a q V G, siA T y w1 tx len, siB T y K1 A1 W1]) hP [6, 0, 3, 4, 5, 7, 8, 1, 2] rfl rfl
  have hD := bD (bs := [obW z b1 b2 b3 h a y k0 kk1.1 kk1.2.1 kk1.2.2, siA T y w1 tx len, siB T y K1 A1 W1, sgW T b1 g1, hiW T h q1.1 q1.2.1 q1.2.2, sgW T b2 gb1, moW T r v (mS g.1 g.2.1) (mE g.2.2) ia ea ik ek ib eb tx, sgW T b3 gs, plW T a q V G]) (bs' := [moW T r v (mS g.1 g.2.1) (mE g.2.2) ia ea ik ek ib eb tx, obW z b1 b2 b3 h a y k0 kk1.1 kk1.2.1 kk1.2.2, sgW T b1 g1, hiW T h q1.1 q1.2.1 q1.2.2, sgW T b2 gb1, sgW T b3 gs, plW T a q V G, siA T y w1 tx len, siB T y K1 A1 W1]) hD [6, 0, 3, 4, 5, 7, 8, 1, 2] rfl rfl
  refine lv_aload_n hx hb dL_law_370 rfl (lv_at hl 3 rfl) ?_
  have hP := fP1.mp hP
  have hD := fD1.mp hD
  refine callMi (As := []) (wr := fl [obW z b1 b2 b3 h a y k0 kk1.1 kk1.2.1 kk1.2.2, sgW T b1 g1, hiW T h q1.1 q1.2.1 q1.2.2, sgW T b2 gb1, sgW T b3 gs, plW T a q V G, siA T y w1 tx len, siB T y K1 A1 W1]) ⟨hx, hb, hml, hown, hts⟩ (mX6_perform l T D r v g (li_g hi9).1 ia ea ik ek ib eb tx n (li_n hi9) (li_v1 hi9) len (li_len hi9) (li_v2 hi9)) (cwV 0 hts gL_law_X6_perform rfl rfl rfl pdX6_perform ⟨Nat.le_of_ble_eq_true rfl, Nat.le_of_ble_eq_true rfl⟩) hP hD hK hS hA xN_bl (fun U _ hW => XN_warm hW hX) (ci := 6) rfl rfl rfl hl.1 rfl rfl (Nat.le_of_ble_eq_true rfl) dL_law_371 ⟨Nat.le_of_ble_eq_true rfl, Nat.le_of_ble_eq_true rfl⟩ (fun r3_ u4_ H locs eu4_ hP hD hS hkf => ?_)
  have hP : va_P D vwCl (fl [moW T r u4_.1 u4_.2.1 u4_.2.2.1 u4_.2.2.2.1 u4_.2.2.2.2.1 u4_.2.2.2.2.2.1 u4_.2.2.2.2.2.2.1 u4_.2.2.2.2.2.2.2.1 u4_.2.2.2.2.2.2.2.2.1 u4_.2.2.2.2.2.2.2.2.2, obW z b1 b2 b3 h a y k0 kk1.1 kk1.2.1 kk1.2.2, sgW T b1 g1, hiW T h q1.1 q1.2.1 q1.2.2, sgW T b2 gb1, sgW T b3 gs, plW T a q V G, siA T y w1 tx len, siB T y K1 A1 W1]) H := fP1.mpr hP
  have hD : va_D (fun q9 : Nat => s.heap.size ≤ q9) (fl [moW T r u4_.1 u4_.2.1 u4_.2.2.1 u4_.2.2.2.1 u4_.2.2.2.2.1 u4_.2.2.2.2.2.1 u4_.2.2.2.2.2.2.1 u4_.2.2.2.2.2.2.2.1 u4_.2.2.2.2.2.2.2.2.1 u4_.2.2.2.2.2.2.2.2.2, obW z b1 b2 b3 h a y k0 kk1.1 kk1.2.1 kk1.2.2, sgW T b1 g1, hiW T h q1.1 q1.2.1 q1.2.2, sgW T b2 gb1, sgW T b3 gs, plW T a q V G, siA T y w1 tx len, siB T y K1 A1 W1]) := fD1.mpr hD
  obtain ⟨er1, v1, ia1, ea1, ib1, eb1, eu2, hi8⟩ := perf_go hi9 eu2_ eu4_
  have hP8 := hP
  have hD8 := hD
  subst eu2
  have hP := hP8
  have hD := hD8
  have hP : va_P D vwCl (fl [moW T r v1 (mS g1.1 g1.2.1) (mE g1.2.2) ia1 ea1 ik ek ib1 eb1 tx, obW z b1 b2 b3 h a y k0 kk1.1 kk1.2.1 kk1.2.2, sgW T b1 g1, hiW T h q1.1 q1.2.1 q1.2.2, sgW T b2 gb1, sgW T b3 gs, plW T a q V G, siA T y w1 tx len, siB T y K1 A1 W1]) H := hP
  have hD : va_D (fun q9 : Nat => s.heap.size ≤ q9) (fl [moW T r v1 (mS g1.1 g1.2.1) (mE g1.2.2) ia1 ea1 ik ek ib1 eb1 tx, obW z b1 b2 b3 h a y k0 kk1.1 kk1.2.1 kk1.2.2, sgW T b1 g1, hiW T h q1.1 q1.2.1 q1.2.2, sgW T b2 gb1, sgW T b3 gs, plW T a q V G, siA T y w1 tx len, siB T y K1 A1 W1]) := hD
  refine lv_icmp_eq (tgt := 702) hx hb dL_law_374 (by decide) (fun _ => ?_) (fun c9 => absurd (er1) c9)
  exact kk q1.1 k0 kk1.1 kk1.2.1 kk1.2.2 q1.2.1 q1.2.2 g1 gb1 gs V G w1 K1 A1 W1 tx len v1 ia1 ea1 ik ek ib1 eb1 H _ ls hi8 hP hD hS (lv_sub hl [0, 1, 2, 3] rfl)
set_option maxHeartbeats 4000000 in
set_option maxRecDepth 100000 in
theorem lc_stopped (C : lwC p s m c bq L xs T D) {i : Nat} (hi : i + 4 ≤ L) (kk : lwB p l e s m below meth c Q bq T D z a q b1 b2 b3 h y r 702 i) : lwB p l e s m below meth c Q bq T D z a q b1 b2 b3 h y r 379 i := by
  obtain ⟨hx, hb, hml, hown, hts, hsx, hbl, hK, hXS, hL⟩ := C
  have hX := hXS.1
  have hA : ∀ q9 : Nat, s.heap.size ≤ q9 → (fun q9 : Nat => s.heap.size ≤ q9) q9 := fun _ h9 => h9
  have hbA : ¬ (fun q9 : Nat => s.heap.size ≤ q9) bq := Nat.not_le.mpr hbl
  intro d k0 k1 k2 k3 n σ g gb gs V G w K9 A9 W9 tx len v ia ea ik ek ib eb H locs ls hi9 hP hD hS hl
  refine lv_aload_n hx hb dL_law_379 rfl (lv_at hl 2 rfl) ?_
  refine lv_aload_n hx hb dL_law_380 rfl (lv_at hl 1 rfl) ?_
  refine lv_iload_n hx hb dL_law_381 rfl (lv_at hl 0 rfl) ?_
  refine lv_iconst (v := nI 1) hx hb dL_law_382 (by decide) ?_
  refine lv_iadd hx hb dL_law_383 ?_
  refine lv_tpi (nI_add i 1) ?_
  refine va_sld hx hb hsx hbl hbA hS (vp_in_nI (by omega) (by omega)) dL_law_384 ?_
  refine lv_tpi (congrArg xs (nI_clamp (by omega))) ?_
  refine callRi (As := [.int (xs (i + 1))]) ⟨hx, hb, hml, hown, hts⟩ (mX5_stopped l T D z (b1 0) (b2 0) (b3 0) (h 0) a (y 0) k0 k1 k2 k3 (xs (i + 1))) (cwV 1 hts gL_law_X5_stopped rfl rfl rfl pdX5_stopped ⟨Nat.le_of_ble_eq_true rfl, Nat.le_of_ble_eq_true rfl⟩) (wP_left (fP1.mp (bP (bs := [moW T r v (mS g.1 g.2.1) (mE g.2.2) ia ea ik ek ib eb tx, obW z b1 b2 b3 h a y k0 k1 k2 k3, sgW T b1 g, hiW T h d n σ, sgW T b2 gb, sgW T b3 gs, plW T a q V G, siA T y w tx len, siB T y K9 A9 W9]) (bs' := [obW z b1 b2 b3 h a y k0 k1 k2 k3, moW T r v (mS g.1 g.2.1) (mE g.2.2) ia ea ik ek ib eb tx, sgW T b1 g, hiW T h d n σ, sgW T b2 gb, sgW T b3 gs, plW T a q V G, siA T y w tx len, siB T y K9 A9 W9]) hP [1, 0, 2, 3, 4, 5, 6, 7, 8] rfl rfl))) hK xN_bl (fun U _ hW => XN_warm hW hX) (ci := 5) rfl rfl rfl hl.1 rfl rfl (Nat.le_of_ble_eq_true rfl) dL_law_385 ⟨Nat.le_of_ble_eq_true rfl, Nat.le_of_ble_eq_true rfl⟩ (fun r1_ er1_ => ?_)
  refine lv_aload_n hx hb dL_law_388 rfl (lv_at hl 3 rfl) ?_
  refine lv_aload_n hx hb dL_law_389 rfl (lv_at hl 1 rfl) ?_
  refine lv_iload_n hx hb dL_law_390 rfl (lv_at hl 0 rfl) ?_
  refine lv_iconst (v := nI 1) hx hb dL_law_391 (by decide) ?_
  refine lv_iadd hx hb dL_law_392 ?_
  refine lv_tpi (nI_add i 1) ?_
  refine va_sld hx hb hsx hbl hbA hS (vp_in_nI (by omega) (by omega)) dL_law_393 ?_
  refine lv_tpi (congrArg xs (nI_clamp (by omega))) ?_
  refine callRi (As := [.int (xs (i + 1))]) ⟨hx, hb, hml, hown, hts⟩ (mX6_stopped l T D r v (xs (i + 1))) (cwV 1 hts gL_law_X6_stopped rfl rfl rfl pdX6_stopped ⟨Nat.le_of_ble_eq_true rfl, Nat.le_of_ble_eq_true rfl⟩) ((wP_left (fP1.mp hP)).sub [0] rfl) hK xN_bl (fun U _ hW => XN_warm hW hX) (ci := 6) rfl rfl rfl hl.1 rfl rfl (Nat.le_of_ble_eq_true rfl) dL_law_394 ⟨Nat.le_of_ble_eq_true rfl, Nat.le_of_ble_eq_true rfl⟩ (fun r2_ er2_ => ?_)
  refine lv_icmp_eq (tgt := 702) hx hb dL_law_397 (by decide) (fun _ => ?_) (fun c9 => absurd ((er1_).trans ((li_stop hi9 _).trans (er2_).symm)) c9)
  exact kk d k0 k1 k2 k3 n σ g gb gs V G w K9 A9 W9 tx len v ia ea ik ek ib eb H _ ls hi9 hP hD hS (lv_sub hl [0, 1, 2, 3] rfl)
set_option maxHeartbeats 4000000 in
set_option maxRecDepth 100000 in
theorem lc_undo (C : lwC p s m c bq L xs T D) {i : Nat} (hi : i + 4 ≤ L) (kk : lwB p l e s m below meth c Q bq T D z a q b1 b2 b3 h y r 702 i) : lwB p l e s m below meth c Q bq T D z a q b1 b2 b3 h y r 402 i := by
  obtain ⟨hx, hb, hml, hown, hts, hsx, hbl, hK, hXS, hL⟩ := C
  have hX := hXS.1
  have hA : ∀ q9 : Nat, s.heap.size ≤ q9 → (fun q9 : Nat => s.heap.size ≤ q9) q9 := fun _ h9 => h9
  have hbA : ¬ (fun q9 : Nat => s.heap.size ≤ q9) bq := Nat.not_le.mpr hbl
  intro d k0 k1 k2 k3 n σ g gb gs V G w K9 A9 W9 tx len v ia ea ik ek ib eb H locs ls hi9 hP hD hS hl
  refine lv_aload_n hx hb dL_law_402 rfl (lv_at hl 2 rfl) ?_
  have hP := bP (bs := [moW T r v (mS g.1 g.2.1) (mE g.2.2) ia ea ik ek ib eb tx, obW z b1 b2 b3 h a y k0 k1 k2 k3, sgW T b1 g, hiW T h d n σ, sgW T b2 gb, sgW T b3 gs, plW T a q V G, siA T y w tx len, siB T y K9 A9 W9]) (bs' := [obW z b1 b2 b3 h a y k0 k1 k2 k3, sgW T b1 g, hiW T h d n σ, moW T r v (mS g.1 g.2.1) (mE g.2.2) ia ea ik ek ib eb tx, sgW T b2 gb, sgW T b3 gs, plW T a q V G, siA T y w tx len, siB T y K9 A9 W9]) hP [1, 2, 3, 0, 4, 5, 6, 7, 8] rfl rfl
  have hD := bD (bs := [moW T r v (mS g.1 g.2.1) (mE g.2.2) ia ea ik ek ib eb tx, obW z b1 b2 b3 h a y k0 k1 k2 k3, sgW T b1 g, hiW T h d n σ, sgW T b2 gb, sgW T b3 gs, plW T a q V G, siA T y w tx len, siB T y K9 A9 W9]) (bs' := [obW z b1 b2 b3 h a y k0 k1 k2 k3, sgW T b1 g, hiW T h d n σ, moW T r v (mS g.1 g.2.1) (mE g.2.2) ia ea ik ek ib eb tx, sgW T b2 gb, sgW T b3 gs, plW T a q V G, siA T y w tx len, siB T y K9 A9 W9]) hD [1, 2, 3, 0, 4, 5, 6, 7, 8] rfl rfl
  have hP := fP3.mp hP
  have hD := fD3.mp hD
  refine callMi (As := []) (wr := fl [moW T r v (mS g.1 g.2.1) (mE g.2.2) ia ea ik ek ib eb tx, sgW T b2 gb, sgW T b3 gs, plW T a q V G, siA T y w tx len, siB T y K9 A9 W9]) ⟨hx, hb, hml, hown, hts⟩ (mX5_undo l T D z b1 (b2 0) (b3 0) a (y 0) k0 k1 k2 k3 h d n σ g (li_n hi9) (fun h9 => (hi9.1.2.2.1 (n - 1) (by omega)).1)) (cwV 0 hts gL_law_X5_undo rfl rfl rfl pdX5_undo ⟨Nat.le_of_ble_eq_true rfl, Nat.le_of_ble_eq_true rfl⟩) hP hD hK hS hA xN_bl (fun U _ hW => XN_warm hW hX) (ci := 5) rfl rfl rfl hl.1 rfl rfl (Nat.le_of_ble_eq_true rfl) dL_law_403 ⟨Nat.le_of_ble_eq_true rfl, Nat.le_of_ble_eq_true rfl⟩ (fun r1_ u2_ H locs eu2_ hP hD hS hkf => ?_)
  have hP : va_P D vwCl (fl [obW z b1 b2 b3 h a y k0 k1 k2 k3, sgW T b1 u2_.2, hiW T h d u2_.1 σ, moW T r v (mS g.1 g.2.1) (mE g.2.2) ia ea ik ek ib eb tx, sgW T b2 gb, sgW T b3 gs, plW T a q V G, siA T y w tx len, siB T y K9 A9 W9]) H := fP3.mpr hP
  have hD : va_D (fun q9 : Nat => s.heap.size ≤ q9) (fl [obW z b1 b2 b3 h a y k0 k1 k2 k3, sgW T b1 u2_.2, hiW T h d u2_.1 σ, moW T r v (mS g.1 g.2.1) (mE g.2.2) ia ea ik ek ib eb tx, sgW T b2 gb, sgW T b3 gs, plW T a q V G, siA T y w tx len, siB T y K9 A9 W9]) := fD3.mpr hD
  have hP := bP (bs := [obW z b1 b2 b3 h a y k0 k1 k2 k3, sgW T b1 u2_.2, hiW T h d u2_.1 σ, moW T r v (mS g.1 g.2.1) (mE g.2.2) ia ea ik ek ib eb tx, sgW T b2 gb, sgW T b3 gs, plW T a q V G, siA T y w tx len, siB T y K9 A9 W9]) (bs' := [moW T r v (mS g.1 g.2.1) (mE g.2.2) ia ea ik ek ib eb tx, obW z b1 b2 b3 h a y k0 k1 k2 k3, sgW T b1 u2_.2, hiW T h d u2_.1 σ, sgW T b2 gb, sgW T b3 gs, plW T a q V G, siA T y w tx len, siB T y K9 A9 W9]) hP [3, 0, 1, 2, 4, 5, 6, 7, 8] rfl rfl
  have hD := bD (bs := [obW z b1 b2 b3 h a y k0 k1 k2 k3, sgW T b1 u2_.2, hiW T h d u2_.1 σ, moW T r v (mS g.1 g.2.1) (mE g.2.2) ia ea ik ek ib eb tx, sgW T b2 gb, sgW T b3 gs, plW T a q V G, siA T y w tx len, siB T y K9 A9 W9]) (bs' := [moW T r v (mS g.1 g.2.1) (mE g.2.2) ia ea ik ek ib eb tx, obW z b1 b2 b3 h a y k0 k1 k2 k3, sgW T b1 u2_.2, hiW T h d u2_.1 σ, sgW T b2 gb, sgW T b3 gs, plW T a q V G, siA T y w tx len, siB T y K9 A9 W9]) hD [3, 0, 1, 2, 4, 5, 6, 7, 8] rfl rfl
  refine lv_aload_n hx hb dL_law_406 rfl (lv_at hl 3 rfl) ?_
  have hP := fP1.mp hP
  have hD := fD1.mp hD
  refine callMi (As := []) (wr := fl [obW z b1 b2 b3 h a y k0 k1 k2 k3, sgW T b1 u2_.2, hiW T h d u2_.1 σ, sgW T b2 gb, sgW T b3 gs, plW T a q V G, siA T y w tx len, siB T y K9 A9 W9]) ⟨hx, hb, hml, hown, hts⟩ (mX6_undo l T D r v (mS g.1 g.2.1) (mE g.2.2) ia ea ik ek ib eb tx n (li_n hi9) (li_v1 hi9)) (cwV 0 hts gL_law_X6_undo rfl rfl rfl pdX6_undo ⟨Nat.le_of_ble_eq_true rfl, Nat.le_of_ble_eq_true rfl⟩) hP hD hK hS hA xN_bl (fun U _ hW => XN_warm hW hX) (ci := 6) rfl rfl rfl hl.1 rfl rfl (Nat.le_of_ble_eq_true rfl) dL_law_407 ⟨Nat.le_of_ble_eq_true rfl, Nat.le_of_ble_eq_true rfl⟩ (fun r3_ u4_ H locs eu4_ hP hD hS hkf => ?_)
  have hP : va_P D vwCl (fl [moW T r u4_.1 u4_.2.1 u4_.2.2.1 u4_.2.2.2.1 u4_.2.2.2.2.1 u4_.2.2.2.2.2.1 u4_.2.2.2.2.2.2.1 u4_.2.2.2.2.2.2.2.1 u4_.2.2.2.2.2.2.2.2.1 u4_.2.2.2.2.2.2.2.2.2, obW z b1 b2 b3 h a y k0 k1 k2 k3, sgW T b1 u2_.2, hiW T h d u2_.1 σ, sgW T b2 gb, sgW T b3 gs, plW T a q V G, siA T y w tx len, siB T y K9 A9 W9]) H := fP1.mpr hP
  have hD : va_D (fun q9 : Nat => s.heap.size ≤ q9) (fl [moW T r u4_.1 u4_.2.1 u4_.2.2.1 u4_.2.2.2.1 u4_.2.2.2.2.1 u4_.2.2.2.2.2.1 u4_.2.2.2.2.2.2.1 u4_.2.2.2.2.2.2.2.1 u4_.2.2.2.2.2.2.2.2.1 u4_.2.2.2.2.2.2.2.2.2, obW z b1 b2 b3 h a y k0 k1 k2 k3, sgW T b1 u2_.2, hiW T h d u2_.1 σ, sgW T b2 gb, sgW T b3 gs, plW T a q V G, siA T y w tx len, siB T y K9 A9 W9]) := fD1.mpr hD
  rcases eu2_ with ⟨a1, a2, a3⟩ | ⟨a1, a2, a3⟩ <;> rcases eu4_ with ⟨b1_, b2_, b3_⟩ | ⟨b1_, b2_, b3_⟩
  · skip
    refine lv_icmp_eq (tgt := 702) hx hb dL_law_410 (by decide) (fun _ => ?_) (fun c9 => absurd (a2.trans b2_.symm) c9)
    have hP8 := hP
    have hD8 := hD
    subst a3 b3_
    have hP := hP8
    have hD := hD8
    have hP : va_P D vwCl (fl [moW T r v (mS g.1 g.2.1) (mE g.2.2) ia ea ik ek ib eb tx, obW z b1 b2 b3 h a y k0 k1 k2 k3, sgW T b1 g, hiW T h d n σ, sgW T b2 gb, sgW T b3 gs, plW T a q V G, siA T y w tx len, siB T y K9 A9 W9]) H := hP
    have hD : va_D (fun q9 : Nat => s.heap.size ≤ q9) (fl [moW T r v (mS g.1 g.2.1) (mE g.2.2) ia ea ik ek ib eb tx, obW z b1 b2 b3 h a y k0 k1 k2 k3, sgW T b1 g, hiW T h d n σ, sgW T b2 gb, sgW T b3 gs, plW T a q V G, siA T y w tx len, siB T y K9 A9 W9]) := hD
    exact kk d k0 k1 k2 k3 n σ g gb gs V G w K9 A9 W9 tx len v ia ea ik ek ib eb H _ ls hi9 hP hD hS (lv_sub hl [0, 1, 2, 3] rfl)
  · skip
    exact absurd a1 (by omega)
  · skip
    exact absurd a1 (by omega)
  · skip
    refine lv_icmp_eq (tgt := 702) hx hb dL_law_410 (by decide) (fun _ => ?_) (fun c9 => absurd (a2.trans b2_.symm) c9)
    have hP8 := hP
    have hD8 := hD
    subst a3 b3_
    have hP := hP8
    have hD := hD8
    have hP : va_P D vwCl ([(r 0, .inr (6, moF r (upd v 1 (nI (n - 1))))), (r 1, .inl (T 0, 43, .inl (fun j => ib (43 * (n - 1) + j)))), (r 2, .inl (T 1, 12, .inr (.inl (fun j => eb (12 * (n - 1) + j))))), (r 3, .inl (T 0, 43, .inl ia)), (r 4, .inl (T 1, 12, .inr (.inl ea))), (r 5, .inl (T 0, 43, .inl ik)), (r 6, .inl (T 1, 12, .inr (.inl ek))), (r 7, .inl (T 0, 172, .inl ib)), (r 8, .inl (T 1, 48, .inr (.inl eb))), (r 9, .inl (T 0, 60, .inl tx))] ++ fl [obW z b1 b2 b3 h a y k0 k1 k2 k3, sgW T b1 (σ (n - 1)), hiW T h d (n - 1) σ, sgW T b2 gb, sgW T b3 gs, plW T a q V G, siA T y w tx len, siB T y K9 A9 W9]) H := hP
    have hD : va_D (fun q9 : Nat => s.heap.size ≤ q9) ([(r 0, .inr (6, moF r (upd v 1 (nI (n - 1))))), (r 1, .inl (T 0, 43, .inl (fun j => ib (43 * (n - 1) + j)))), (r 2, .inl (T 1, 12, .inr (.inl (fun j => eb (12 * (n - 1) + j))))), (r 3, .inl (T 0, 43, .inl ia)), (r 4, .inl (T 1, 12, .inr (.inl ea))), (r 5, .inl (T 0, 43, .inl ik)), (r 6, .inl (T 1, 12, .inr (.inl ek))), (r 7, .inl (T 0, 172, .inl ib)), (r 8, .inl (T 1, 48, .inr (.inl eb))), (r 9, .inl (T 0, 60, .inl tx))] ++ fl [obW z b1 b2 b3 h a y k0 k1 k2 k3, sgW T b1 (σ (n - 1)), hiW T h d (n - 1) σ, sgW T b2 gb, sgW T b3 gs, plW T a q V G, siA T y w tx len, siB T y K9 A9 W9]) := hD
    obtain ⟨hn1, hn2⟩ := hi9.1.2.2.2 (n - 1) (by omega)
    have hP := wP_re (y := .inl (T 0, 43, .inl (mS (σ (n - 1)).1 (σ (n - 1)).2.1))) hP 1 rfl (at_i hn1)
    have hP := wP_re (y := .inl (T 1, 12, .inr (.inl (mE (σ (n - 1)).2.2)))) hP 2 rfl (at_l hn2)
    have hP : va_P D vwCl (fl [moW T r (upd v 1 (nI (n - 1))) (mS (σ (n - 1)).1 (σ (n - 1)).2.1) (mE (σ (n - 1)).2.2) ia ea ik ek ib eb tx, obW z b1 b2 b3 h a y k0 k1 k2 k3, sgW T b1 (σ (n - 1)), hiW T h d (n - 1) σ, sgW T b2 gb, sgW T b3 gs, plW T a q V G, siA T y w tx len, siB T y K9 A9 W9]) H := hP
    have hD : va_D (fun q9 : Nat => s.heap.size ≤ q9) (fl [moW T r (upd v 1 (nI (n - 1))) (mS (σ (n - 1)).1 (σ (n - 1)).2.1) (mE (σ (n - 1)).2.2) ia ea ik ek ib eb tx, obW z b1 b2 b3 h a y k0 k1 k2 k3, sgW T b1 (σ (n - 1)), hiW T h d (n - 1) σ, sgW T b2 gb, sgW T b3 gs, plW T a q V G, siA T y w tx len, siB T y K9 A9 W9]) := wD_ad hD rfl
    exact kk d k0 k1 k2 k3 (n - 1) σ (σ (n - 1)) gb gs V G w K9 A9 W9 tx len (upd v 1 (nI (n - 1))) ia ea ik ek ib eb H _ ls (li_undo hi9 a1) hP hD hS (lv_sub hl [0, 1, 2, 3] rfl)
set_option maxHeartbeats 4000000 in
set_option maxRecDepth 100000 in
theorem lc_keep (C : lwC p s m c bq L xs T D) {i : Nat} (hi : i + 4 ≤ L) (kk : lwB p l e s m below meth c Q bq T D z a q b1 b2 b3 h y r 702 i) : lwB p l e s m below meth c Q bq T D z a q b1 b2 b3 h y r 415 i := by
  obtain ⟨hx, hb, hml, hown, hts, hsx, hbl, hK, hXS, hL⟩ := C
  have hX := hXS.1
  have hA : ∀ q9 : Nat, s.heap.size ≤ q9 → (fun q9 : Nat => s.heap.size ≤ q9) q9 := fun _ h9 => h9
  have hbA : ¬ (fun q9 : Nat => s.heap.size ≤ q9) bq := Nat.not_le.mpr hbl
  intro d k0 k1 k2 k3 n σ g gb gs V G w K9 A9 W9 tx len v ia ea ik ek ib eb H locs ls hi9 hP hD hS hl
  refine lv_aload_n hx hb dL_law_415 rfl (lv_at hl 2 rfl) ?_
  have hP := bP (bs := [moW T r v (mS g.1 g.2.1) (mE g.2.2) ia ea ik ek ib eb tx, obW z b1 b2 b3 h a y k0 k1 k2 k3, sgW T b1 g, hiW T h d n σ, sgW T b2 gb, sgW T b3 gs, plW T a q V G, siA T y w tx len, siB T y K9 A9 W9]) (bs' := [obW z b1 b2 b3 h a y k0 k1 k2 k3, sgW T b1 g, sgW T b3 gs, moW T r v (mS g.1 g.2.1) (mE g.2.2) ia ea ik ek ib eb tx, hiW T h d n σ, sgW T b2 gb, plW T a q V G, siA T y w tx len, siB T y K9 A9 W9]) hP [1, 2, 5, 0, 3, 4, 6, 7, 8] rfl rfl
  have hD := bD (bs := [moW T r v (mS g.1 g.2.1) (mE g.2.2) ia ea ik ek ib eb tx, obW z b1 b2 b3 h a y k0 k1 k2 k3, sgW T b1 g, hiW T h d n σ, sgW T b2 gb, sgW T b3 gs, plW T a q V G, siA T y w tx len, siB T y K9 A9 W9]) (bs' := [obW z b1 b2 b3 h a y k0 k1 k2 k3, sgW T b1 g, sgW T b3 gs, moW T r v (mS g.1 g.2.1) (mE g.2.2) ia ea ik ek ib eb tx, hiW T h d n σ, sgW T b2 gb, plW T a q V G, siA T y w tx len, siB T y K9 A9 W9]) hD [1, 2, 5, 0, 3, 4, 6, 7, 8] rfl rfl
  have hP := fP3.mp hP
  have hD := fD3.mp hD
  refine callMi (As := []) (wr := fl [moW T r v (mS g.1 g.2.1) (mE g.2.2) ia ea ik ek ib eb tx, hiW T h d n σ, sgW T b2 gb, plW T a q V G, siA T y w tx len, siB T y K9 A9 W9]) ⟨hx, hb, hml, hown, hts⟩ (mX5_keep l T D z b1 b3 (b2 0) (h 0) a (y 0) k0 k1 k2 k3 g gs (li_g hi9).1) (cwV 0 hts gL_law_X5_keep rfl rfl rfl pdX5_keep ⟨Nat.le_of_ble_eq_true rfl, Nat.le_of_ble_eq_true rfl⟩) hP hD hK hS hA xN_bl (fun U _ hW => XN_warm hW hX) (ci := 5) rfl rfl rfl hl.1 rfl rfl (Nat.le_of_ble_eq_true rfl) dL_law_416 ⟨Nat.le_of_ble_eq_true rfl, Nat.le_of_ble_eq_true rfl⟩ (fun r1_ u2_ H locs eu2_ hP hD hS hkf => ?_)
  have hP : va_P D vwCl (fl [obW z b1 b2 b3 h a y 1 k1 k2 k3, sgW T b1 g, sgW T b3 g, moW T r v (mS g.1 g.2.1) (mE g.2.2) ia ea ik ek ib eb tx, hiW T h d n σ, sgW T b2 gb, plW T a q V G, siA T y w tx len, siB T y K9 A9 W9]) H := fP3.mpr hP
  have hD : va_D (fun q9 : Nat => s.heap.size ≤ q9) (fl [obW z b1 b2 b3 h a y 1 k1 k2 k3, sgW T b1 g, sgW T b3 g, moW T r v (mS g.1 g.2.1) (mE g.2.2) ia ea ik ek ib eb tx, hiW T h d n σ, sgW T b2 gb, plW T a q V G, siA T y w tx len, siB T y K9 A9 W9]) := fD3.mpr hD
  have hP := bP (bs := [obW z b1 b2 b3 h a y 1 k1 k2 k3, sgW T b1 g, sgW T b3 g, moW T r v (mS g.1 g.2.1) (mE g.2.2) ia ea ik ek ib eb tx, hiW T h d n σ, sgW T b2 gb, plW T a q V G, siA T y w tx len, siB T y K9 A9 W9]) (bs' := [moW T r v (mS g.1 g.2.1) (mE g.2.2) ia ea ik ek ib eb tx, obW z b1 b2 b3 h a y 1 k1 k2 k3, sgW T b1 g, hiW T h d n σ, sgW T b2 gb, sgW T b3 g, plW T a q V G, siA T y w tx len, siB T y K9 A9 W9]) hP [3, 0, 1, 4, 5, 2, 6, 7, 8] rfl rfl
  have hD := bD (bs := [obW z b1 b2 b3 h a y 1 k1 k2 k3, sgW T b1 g, sgW T b3 g, moW T r v (mS g.1 g.2.1) (mE g.2.2) ia ea ik ek ib eb tx, hiW T h d n σ, sgW T b2 gb, plW T a q V G, siA T y w tx len, siB T y K9 A9 W9]) (bs' := [moW T r v (mS g.1 g.2.1) (mE g.2.2) ia ea ik ek ib eb tx, obW z b1 b2 b3 h a y 1 k1 k2 k3, sgW T b1 g, hiW T h d n σ, sgW T b2 gb, sgW T b3 g, plW T a q V G, siA T y w tx len, siB T y K9 A9 W9]) hD [3, 0, 1, 4, 5, 2, 6, 7, 8] rfl rfl
  refine lv_aload_n hx hb dL_law_419 rfl (lv_at hl 3 rfl) ?_
  have hP := fP1.mp hP
  have hD := fD1.mp hD
  refine callMi (As := []) (wr := fl [obW z b1 b2 b3 h a y 1 k1 k2 k3, sgW T b1 g, hiW T h d n σ, sgW T b2 gb, sgW T b3 g, plW T a q V G, siA T y w tx len, siB T y K9 A9 W9]) ⟨hx, hb, hml, hown, hts⟩ (mX6_keep l T D r v (mS g.1 g.2.1) (mE g.2.2) ia ea ik ek ib eb tx) (cwV 0 hts gL_law_X6_keep rfl rfl rfl pdX6_keep ⟨Nat.le_of_ble_eq_true rfl, Nat.le_of_ble_eq_true rfl⟩) hP hD hK hS hA xN_bl (fun U _ hW => XN_warm hW hX) (ci := 6) rfl rfl rfl hl.1 rfl rfl (Nat.le_of_ble_eq_true rfl) dL_law_420 ⟨Nat.le_of_ble_eq_true rfl, Nat.le_of_ble_eq_true rfl⟩ (fun r3_ u4_ H locs eu4_ hP hD hS hkf => ?_)
  have hP : va_P D vwCl (fl [moW T r (upd v 0 1) (mS g.1 g.2.1) (mE g.2.2) ia ea (mS g.1 g.2.1) (mE g.2.2) ib eb tx, obW z b1 b2 b3 h a y 1 k1 k2 k3, sgW T b1 g, hiW T h d n σ, sgW T b2 gb, sgW T b3 g, plW T a q V G, siA T y w tx len, siB T y K9 A9 W9]) H := fP1.mpr hP
  have hD : va_D (fun q9 : Nat => s.heap.size ≤ q9) (fl [moW T r (upd v 0 1) (mS g.1 g.2.1) (mE g.2.2) ia ea (mS g.1 g.2.1) (mE g.2.2) ib eb tx, obW z b1 b2 b3 h a y 1 k1 k2 k3, sgW T b1 g, hiW T h d n σ, sgW T b2 gb, sgW T b3 g, plW T a q V G, siA T y w tx len, siB T y K9 A9 W9]) := fD1.mpr hD
  refine lv_icmp_eq (tgt := 702) hx hb dL_law_423 (by decide) (fun _ => ?_) (fun c9 => absurd ((show r1_ = g.1 0 from eu2_).trans ((show r3_ = mS g.1 g.2.1 0 from eu4_).trans (mS_t g.1 g.2.1 (by decide))).symm) c9)
  exact kk d 1 k1 k2 k3 n σ g gb g V G w K9 A9 W9 tx len (upd v 0 1) ia ea (mS g.1 g.2.1) (mE g.2.2) ib eb H _ ls (li_keep hi9) hP hD hS (lv_sub hl [0, 1, 2, 3] rfl)
set_option maxHeartbeats 4000000 in
set_option maxRecDepth 100000 in
theorem lc_restore (C : lwC p s m c bq L xs T D) {i : Nat} (hi : i + 4 ≤ L) (kk : lwB p l e s m below meth c Q bq T D z a q b1 b2 b3 h y r 702 i) : lwB p l e s m below meth c Q bq T D z a q b1 b2 b3 h y r 428 i := by
  obtain ⟨hx, hb, hml, hown, hts, hsx, hbl, hK, hXS, hL⟩ := C
  have hX := hXS.1
  have hA : ∀ q9 : Nat, s.heap.size ≤ q9 → (fun q9 : Nat => s.heap.size ≤ q9) q9 := fun _ h9 => h9
  have hbA : ¬ (fun q9 : Nat => s.heap.size ≤ q9) bq := Nat.not_le.mpr hbl
  intro d k0 k1 k2 k3 n σ g gb gs V G w K9 A9 W9 tx len v ia ea ik ek ib eb H locs ls hi9 hP hD hS hl
  refine lv_aload_n hx hb dL_law_428 rfl (lv_at hl 2 rfl) ?_
  have hP := bP (bs := [moW T r v (mS g.1 g.2.1) (mE g.2.2) ia ea ik ek ib eb tx, obW z b1 b2 b3 h a y k0 k1 k2 k3, sgW T b1 g, hiW T h d n σ, sgW T b2 gb, sgW T b3 gs, plW T a q V G, siA T y w tx len, siB T y K9 A9 W9]) (bs' := [obW z b1 b2 b3 h a y k0 k1 k2 k3, sgW T b1 g, hiW T h d n σ, sgW T b2 gb, sgW T b3 gs, moW T r v (mS g.1 g.2.1) (mE g.2.2) ia ea ik ek ib eb tx, plW T a q V G, siA T y w tx len, siB T y K9 A9 W9]) hP [1, 2, 3, 4, 5, 0, 6, 7, 8] rfl rfl
  have hD := bD (bs := [moW T r v (mS g.1 g.2.1) (mE g.2.2) ia ea ik ek ib eb tx, obW z b1 b2 b3 h a y k0 k1 k2 k3, sgW T b1 g, hiW T h d n σ, sgW T b2 gb, sgW T b3 gs, plW T a q V G, siA T y w tx len, siB T y K9 A9 W9]) (bs' := [obW z b1 b2 b3 h a y k0 k1 k2 k3, sgW T b1 g, hiW T h d n σ, sgW T b2 gb, sgW T b3 gs, moW T r v (mS g.1 g.2.1) (mE g.2.2) ia ea ik ek ib eb tx, plW T a q V G, siA T y w tx len, siB T y K9 A9 W9]) hD [1, 2, 3, 4, 5, 0, 6, 7, 8] rfl rfl
  have hP := fP5.mp hP
  have hD := fD5.mp hD
  refine callMi (As := []) (wr := fl [moW T r v (mS g.1 g.2.1) (mE g.2.2) ia ea ik ek ib eb tx, plW T a q V G, siA T y w tx len, siB T y K9 A9 W9]) ⟨hx, hb, hml, hown, hts⟩ (mX5_restore l T D z b1 b2 b3 a (y 0) k0 k1 k2 k3 h d n σ g gb gs (li_n hi9) (li_g hi9).1 (li_gs hi9).1 (gT_0 (li_gs hi9).2)) (cwV 0 hts gL_law_X5_restore rfl rfl rfl pdX5_restore ⟨Nat.le_of_ble_eq_true rfl, Nat.le_of_ble_eq_true rfl⟩) hP hD hK hS hA xN_bl (fun U _ hW => XN_warm hW hX) (ci := 5) rfl rfl rfl hl.1 rfl rfl (Nat.le_of_ble_eq_true rfl) dL_law_429 ⟨Nat.le_of_ble_eq_true rfl, Nat.le_of_ble_eq_true rfl⟩ (fun r1_ u2_ H locs eu2_ hP hD hS hkf => ?_)
  obtain ⟨g1, q1, gb1⟩ := u2_
  have hP : va_P D vwCl (fl [obW z b1 b2 b3 h a y k0 k1 k2 k3, sgW T b1 g1, hiW T h q1.1 q1.2.1 q1.2.2, sgW T b2 gb1, sgW T b3 gs, moW T r v (mS g.1 g.2.1) (mE g.2.2) ia ea ik ek ib eb tx, plW T a q V G, siA T y w tx len, siB T y K9 A9 W9]) H := fP5.mpr hP
  have hD : va_D (fun q9 : Nat => s.heap.size ≤ q9) (fl [obW z b1 b2 b3 h a y k0 k1 k2 k3, sgW T b1 g1, hiW T h q1.1 q1.2.1 q1.2.2, sgW T b2 gb1, sgW T b3 gs, moW T r v (mS g.1 g.2.1) (mE g.2.2) ia ea ik ek ib eb tx, plW T a q V G, siA T y w tx len, siB T y K9 A9 W9]) := fD5.mpr hD
  have hP := bP (bs := [obW z b1 b2 b3 h a y k0 k1 k2 k3, sgW T b1 g1, hiW T h q1.1 q1.2.1 q1.2.2, sgW T b2 gb1, sgW T b3 gs, moW T r v (mS g.1 g.2.1) (mE g.2.2) ia ea ik ek ib eb tx, plW T a q V G, siA T y w tx len, siB T y K9 A9 W9]) (bs' := [moW T r v (mS g.1 g.2.1) (mE g.2.2) ia ea ik ek ib eb tx, obW z b1 b2 b3 h a y k0 k1 k2 k3, sgW T b1 g1, hiW T h q1.1 q1.2.1 q1.2.2, sgW T b2 gb1, sgW T b3 gs, plW T a q V G, siA T y w tx len, siB T y K9 A9 W9]) hP [5, 0, 1, 2, 3, 4, 6, 7, 8] rfl rfl
  have hD := bD (bs := [obW z b1 b2 b3 h a y k0 k1 k2 k3, sgW T b1 g1, hiW T h q1.1 q1.2.1 q1.2.2, sgW T b2 gb1, sgW T b3 gs, moW T r v (mS g.1 g.2.1) (mE g.2.2) ia ea ik ek ib eb tx, plW T a q V G, siA T y w tx len, siB T y K9 A9 W9]) (bs' := [moW T r v (mS g.1 g.2.1) (mE g.2.2) ia ea ik ek ib eb tx, obW z b1 b2 b3 h a y k0 k1 k2 k3, sgW T b1 g1, hiW T h q1.1 q1.2.1 q1.2.2, sgW T b2 gb1, sgW T b3 gs, plW T a q V G, siA T y w tx len, siB T y K9 A9 W9]) hD [5, 0, 1, 2, 3, 4, 6, 7, 8] rfl rfl
  refine lv_aload_n hx hb dL_law_432 rfl (lv_at hl 3 rfl) ?_
  have hP := fP1.mp hP
  have hD := fD1.mp hD
  refine callMi (As := []) (wr := fl [obW z b1 b2 b3 h a y k0 k1 k2 k3, sgW T b1 g1, hiW T h q1.1 q1.2.1 q1.2.2, sgW T b2 gb1, sgW T b3 gs, plW T a q V G, siA T y w tx len, siB T y K9 A9 W9]) ⟨hx, hb, hml, hown, hts⟩ (mX6_restore l T D r v (mS g.1 g.2.1) (mE g.2.2) ia ea ik ek ib eb tx n (li_n hi9) (li_v1 hi9)) (cwV 0 hts gL_law_X6_restore rfl rfl rfl pdX6_restore ⟨Nat.le_of_ble_eq_true rfl, Nat.le_of_ble_eq_true rfl⟩) hP hD hK hS hA xN_bl (fun U _ hW => XN_warm hW hX) (ci := 6) rfl rfl rfl hl.1 rfl rfl (Nat.le_of_ble_eq_true rfl) dL_law_433 ⟨Nat.le_of_ble_eq_true rfl, Nat.le_of_ble_eq_true rfl⟩ (fun r3_ u4_ H locs eu4_ hP hD hS hkf => ?_)
  have hP : va_P D vwCl (fl [moW T r u4_.1 u4_.2.1 u4_.2.2.1 u4_.2.2.2.1 u4_.2.2.2.2.1 u4_.2.2.2.2.2.1 u4_.2.2.2.2.2.2.1 u4_.2.2.2.2.2.2.2.1 u4_.2.2.2.2.2.2.2.2.1 u4_.2.2.2.2.2.2.2.2.2, obW z b1 b2 b3 h a y k0 k1 k2 k3, sgW T b1 g1, hiW T h q1.1 q1.2.1 q1.2.2, sgW T b2 gb1, sgW T b3 gs, plW T a q V G, siA T y w tx len, siB T y K9 A9 W9]) H := fP1.mpr hP
  have hD : va_D (fun q9 : Nat => s.heap.size ≤ q9) (fl [moW T r u4_.1 u4_.2.1 u4_.2.2.1 u4_.2.2.2.1 u4_.2.2.2.2.1 u4_.2.2.2.2.2.1 u4_.2.2.2.2.2.2.1 u4_.2.2.2.2.2.2.2.1 u4_.2.2.2.2.2.2.2.2.1 u4_.2.2.2.2.2.2.2.2.2, obW z b1 b2 b3 h a y k0 k1 k2 k3, sgW T b1 g1, hiW T h q1.1 q1.2.1 q1.2.2, sgW T b2 gb1, sgW T b3 gs, plW T a q V G, siA T y w tx len, siB T y K9 A9 W9]) := fD1.mpr hD
  obtain ⟨hs1, hs2⟩ := hi9.2.2.1
  rcases eu2_ with ⟨a1, a2, a3⟩ | ⟨a1, a2, a3⟩ <;> rcases eu4_ with ⟨b1_, b2_, b3_⟩ | ⟨b1_, b2_, b3_⟩
  · skip
    refine lv_icmp_eq (tgt := 702) hx hb dL_law_436 (by decide) (fun _ => ?_) (fun c9 => absurd (a2.trans b2_.symm) c9)
    have eg1 := (congrArg Prod.fst a3).symm
    have eq1 := (congrArg (fun z9 => z9.2.1) a3).symm
    have eb9 := (congrArg (fun z9 => z9.2.2) a3).symm
    dsimp only at eg1 eq1 eb9
    have hP8 := hP
    have hD8 := hD
    subst eg1 eq1 eb9 b3_
    have hP := hP8
    have hD := hD8
    have hP : va_P D vwCl (fl [moW T r v (mS g.1 g.2.1) (mE g.2.2) ia ea ik ek ib eb tx, obW z b1 b2 b3 h a y k0 k1 k2 k3, sgW T b1 g, hiW T h d n σ, sgW T b2 gb, sgW T b3 gs, plW T a q V G, siA T y w tx len, siB T y K9 A9 W9]) H := hP
    have hD : va_D (fun q9 : Nat => s.heap.size ≤ q9) (fl [moW T r v (mS g.1 g.2.1) (mE g.2.2) ia ea ik ek ib eb tx, obW z b1 b2 b3 h a y k0 k1 k2 k3, sgW T b1 g, hiW T h d n σ, sgW T b2 gb, sgW T b3 gs, plW T a q V G, siA T y w tx len, siB T y K9 A9 W9]) := hD
    exact kk d k0 k1 k2 k3 n σ g gb gs V G w K9 A9 W9 tx len v ia ea ik ek ib eb H _ ls hi9 hP hD hS (lv_sub hl [0, 1, 2, 3] rfl)
  · skip
    exact absurd (hs1.symm.trans a1) b1_
  · skip
    exact absurd (hs1.trans b1_) a1
  · skip
    refine lv_icmp_eq (tgt := 702) hx hb dL_law_436 (by decide) (fun _ => ?_) (fun c9 => absurd (a2.trans ((congrFun (hs2 a1).1 0).trans (mS_t gs.1 gs.2.1 (by decide))).symm |>.trans b2_.symm) c9)
    obtain ⟨hs3, hs4⟩ := hs2 a1
    have eg1 := (congrArg Prod.fst a3).symm
    have eq1 := (congrArg (fun z9 => z9.2.1) a3).symm
    have eb9 := (congrArg (fun z9 => z9.2.2) a3).symm
    dsimp only at eg1 eq1 eb9
    have hP8 := hP
    have hD8 := hD
    subst eg1 eq1 eb9 b3_
    have hP := hP8
    have hD := hD8
    have hP : va_P D vwCl (fl [moW T r (upd v 1 (nI (rcN n))) ik ek (mS g.1 g.2.1) (mE g.2.2) ik ek (rcI n ib (mS g.1 g.2.1)) (rcE n eb (mE g.2.2)) tx, obW z b1 b2 b3 h a y k0 k1 k2 k3, sgW T b1 gs, hiW T h (hiD n d) (rcN n) (hiS n σ g), sgW T b2 g, sgW T b3 gs, plW T a q V G, siA T y w tx len, siB T y K9 A9 W9]) H := hP
    have hD : va_D (fun q9 : Nat => s.heap.size ≤ q9) (fl [moW T r (upd v 1 (nI (rcN n))) ik ek (mS g.1 g.2.1) (mE g.2.2) ik ek (rcI n ib (mS g.1 g.2.1)) (rcE n eb (mE g.2.2)) tx, obW z b1 b2 b3 h a y k0 k1 k2 k3, sgW T b1 gs, hiW T h (hiD n d) (rcN n) (hiS n σ g), sgW T b2 g, sgW T b3 gs, plW T a q V G, siA T y w tx len, siB T y K9 A9 W9]) := hD
    have hP : va_P D vwCl (fl [moW T r (upd v 1 (nI (rcN n))) (mS gs.1 gs.2.1) (mE gs.2.2) (mS g.1 g.2.1) (mE g.2.2) ik ek (rcI n ib (mS g.1 g.2.1)) (rcE n eb (mE g.2.2)) tx, obW z b1 b2 b3 h a y k0 k1 k2 k3, sgW T b1 gs, hiW T h (hiD n d) (rcN n) (hiS n σ g), sgW T b2 g, sgW T b3 gs, plW T a q V G, siA T y w tx len, siB T y K9 A9 W9]) H := by rw [← hs3, ← hs4]; exact hP
    have hD : va_D (fun q9 : Nat => s.heap.size ≤ q9) (fl [moW T r (upd v 1 (nI (rcN n))) (mS gs.1 gs.2.1) (mE gs.2.2) (mS g.1 g.2.1) (mE g.2.2) ik ek (rcI n ib (mS g.1 g.2.1)) (rcE n eb (mE g.2.2)) tx, obW z b1 b2 b3 h a y k0 k1 k2 k3, sgW T b1 gs, hiW T h (hiD n d) (rcN n) (hiS n σ g), sgW T b2 g, sgW T b3 gs, plW T a q V G, siA T y w tx len, siB T y K9 A9 W9]) := wD_ad hD rfl
    exact kk (hiD n d) k0 k1 k2 k3 (rcN n) (hiS n σ g) gs g gs V G w K9 A9 W9 tx len (upd v 1 (nI (rcN n))) (mS g.1 g.2.1) (mE g.2.2) ik ek (rcI n ib (mS g.1 g.2.1)) (rcE n eb (mE g.2.2)) H _ ls (li_rest hi9) hP hD hS (lv_sub hl [0, 1, 2, 3] rfl)
end LAW
