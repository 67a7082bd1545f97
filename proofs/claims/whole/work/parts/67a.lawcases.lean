section LAW
variable {p : Program} {l : Launch} {e : Env} {s : State} {m : MethodId} {below : List Frame} {meth : Method} {c : Code} {Q : State → Prop} {bq L : Nat} {xs : Nat → Int32} {T : Nat → ClassId} {D : va_G} {z a q : Nat} {b1 b2 b3 h y r : Nat → Nat}
set_option maxHeartbeats 4000000 in
set_option maxRecDepth 100000 in
theorem lc_set (C : lwC p s m c bq L xs T D) {i : Nat} (hi : i + 4 ≤ L) (kk : lwB p l e s m below meth c Q bq T D z a q b1 b2 b3 h y r 702 i) : lwB p l e s m below meth c Q bq T D z a q b1 b2 b3 h y r 140 i := by
  obtain ⟨hx, hb, hml, hown, hts, hsx, hbl, hK, hXS, hL⟩ := C
  have hX := hXS.1
  have hA : ∀ q9 : Nat, s.heap.size ≤ q9 → (fun q9 : Nat => s.heap.size ≤ q9) q9 := fun _ h9 => h9
  have hbA : ¬ (fun q9 : Nat => s.heap.size ≤ q9) bq := Nat.not_le.mpr hbl
  intro d k0 k1 k2 k3 n σ g gb gs V G w K9 A9 W9 tx len v ia ea ik ek ib eb H locs ls hi9 hP hD hS hl
  refine lv_aload_n hx hb dL_law_140 rfl (lv_at hl 2 rfl) ?_
  refine lv_aload_n hx hb dL_law_141 rfl (lv_at hl 1 rfl) ?_
  refine lv_iload_n hx hb dL_law_142 rfl (lv_at hl 0 rfl) ?_
  refine lv_iconst (v := nI 1) hx hb dL_law_143 (by decide) ?_
  refine lv_iadd hx hb dL_law_144 ?_
  refine lv_tpi (nI_add i 1) ?_
  refine va_sld hx hb hsx hbl hbA hS (vp_in_nI (by omega) (by omega)) dL_law_145 ?_
  refine lv_tpi (congrArg xs (nI_clamp (by omega))) ?_
  refine lv_aload_n hx hb dL_law_146 rfl (lv_at hl 1 rfl) ?_
  refine lv_iload_n hx hb dL_law_147 rfl (lv_at hl 0 rfl) ?_
  refine lv_iconst (v := nI 2) hx hb dL_law_148 (by decide) ?_
  refine lv_iadd hx hb dL_law_149 ?_
  refine lv_tpi (nI_add i 2) ?_
  refine va_sld hx hb hsx hbl hbA hS (vp_in_nI (by omega) (by omega)) dL_law_150 ?_
  refine lv_tpi (congrArg xs (nI_clamp (by omega))) ?_
  refine lv_aload_n hx hb dL_law_151 rfl (lv_at hl 1 rfl) ?_
  refine lv_iload_n hx hb dL_law_152 rfl (lv_at hl 0 rfl) ?_
  refine lv_iconst (v := nI 3) hx hb dL_law_153 (by decide) ?_
  refine lv_iadd hx hb dL_law_154 ?_
  refine lv_tpi (nI_add i 3) ?_
  refine va_sld hx hb hsx hbl hbA hS (vp_in_nI (by omega) (by omega)) dL_law_155 ?_
  refine lv_tpi (congrArg xs (nI_clamp (by omega))) ?_
  have hP := bP (bs := [moW T r v (mS g.1 g.2.1) (mE g.2.2) ia ea ik ek ib eb tx, obW z b1 b2 b3 h a y k0 k1 k2 k3, sgW T b1 g, hiW T h d n σ, sgW T b2 gb, sgW T b3 gs, plW T a q V G, siA T y w tx len, siB T y K9 A9 W9]) (bs' := [obW z b1 b2 b3 h a y k0 k1 k2 k3, sgW T b1 g, hiW T h d n σ, sgW T b2 gb, moW T r v (mS g.1 g.2.1) (mE g.2.2) ia ea ik ek ib eb tx, sgW T b3 gs, plW T a q V G, siA T y w tx len, siB T y K9 A9 W9]) hP [1, 2, 3, 4, 0, 5, 6, 7, 8] rfl rfl
  have hD := bD (bs := [moW T r v (mS g.1 g.2.1) (mE g.2.2) ia ea ik ek ib eb tx, obW z b1 b2 b3 h a y k0 k1 k2 k3, sgW T b1 g, hiW T h d n σ, sgW T b2 gb, sgW T b3 gs, plW T a q V G, siA T y w tx len, siB T y K9 A9 W9]) (bs' := [obW z b1 b2 b3 h a y k0 k1 k2 k3, sgW T b1 g, hiW T h d n σ, sgW T b2 gb, moW T r v (mS g.1 g.2.1) (mE g.2.2) ia ea ik ek ib eb tx, sgW T b3 gs, plW T a q V G, siA T y w tx len, siB T y K9 A9 W9]) hD [1, 2, 3, 4, 0, 5, 6, 7, 8] rfl rfl
  have hP := fP4.mp hP
  have hD := fD4.mp hD
  refine callMi (As := [.int (xs (i + 1)), .int (xs (i + 2)), .int (xs (i + 3))]) (wr := fl [moW T r v (mS g.1 g.2.1) (mE g.2.2) ia ea ik ek ib eb tx, sgW T b3 gs, plW T a q V G, siA T y w tx len, siB T y K9 A9 W9]) ⟨hx, hb, hml, hown, hts⟩ (mX5_set l T D z b1 b2 (b3 0) a (y 0) k0 k1 k2 k3 h d n σ g gb (li_n hi9) (li_g hi9).1 (xs (i + 1)) (xs (i + 2)) (xs (i + 3))) (cwV 3 hts gL_law_X5_set rfl rfl rfl pdX5_set ⟨Nat.le_of_ble_eq_true rfl, Nat.le_of_ble_eq_true rfl⟩) hP hD hK hS hA xS_bl (fun U hU hW => xS_go hXS hS hU hW (fr_free hD hS hA)) (ci := 5) rfl rfl rfl hl.1 rfl rfl (Nat.le_of_ble_eq_true rfl) dL_law_156 ⟨Nat.le_of_ble_eq_true rfl, Nat.le_of_ble_eq_true rfl⟩ (fun r1_ u2_ H locs eu2_ hP hD hS hkf => ?_)
  obtain ⟨g1, q1⟩ := u2_
  obtain ⟨er1, eq1⟩ := eu2_
  have eg1 : g1 = (oSet (xs (i + 1)) (xs (i + 2)) (xs (i + 3)) g).2 := congrArg Prod.fst eq1
  have eq1 : q1 = if 0 ≤ (oSet (xs (i + 1)) (xs (i + 2)) (xs (i + 3)) g).1 then (hiD n d, rcN n, hiS n σ g) else (d, n, σ) := congrArg Prod.snd eq1
  have hP : va_P D vwCl (fl [obW z b1 b2 b3 h a y k0 k1 k2 k3, sgW T b1 g1, hiW T h q1.1 q1.2.1 q1.2.2, sgW T b2 g, moW T r v (mS g.1 g.2.1) (mE g.2.2) ia ea ik ek ib eb tx, sgW T b3 gs, plW T a q V G, siA T y w tx len, siB T y K9 A9 W9]) H := fP4.mpr hP
  have hD : va_D (fun q9 : Nat => s.heap.size ≤ q9) (fl [obW z b1 b2 b3 h a y k0 k1 k2 k3, sgW T b1 g1, hiW T h q1.1 q1.2.1 q1.2.2, sgW T b2 g, moW T r v (mS g.1 g.2.1) (mE g.2.2) ia ea ik ek ib eb tx, sgW T b3 gs, plW T a q V G, siA T y w tx len, siB T y K9 A9 W9]) := fD4.mpr hD
  have hP := bP (bs := [obW z b1 b2 b3 h a y k0 k1 k2 k3, sgW T b1 g1, hiW T h q1.1 q1.2.1 q1.2.2, sgW T b2 g, moW T r v (mS g.1 g.2.1) (mE g.2.2) ia ea ik ek ib eb tx, sgW T b3 gs, plW T a q V G, siA T y w tx len, siB T y K9 A9 W9]) (bs' := [moW T r v (mS g.1 g.2.1) (mE g.2.2) ia ea ik ek ib eb tx, obW z b1 b2 b3 h a y k0 k1 k2 k3, sgW T b1 g1, hiW T h q1.1 q1.2.1 q1.2.2, sgW T b2 g, sgW T b3 gs, plW T a q V G, siA T y w tx len, siB T y K9 A9 W9]) hP [4, 0, 1, 2, 3, 5, 6, 7, 8] rfl rfl
  have hD := bD (bs := [obW z b1 b2 b3 h a y k0 k1 k2 k3, sgW T b1 g1, hiW T h q1.1 q1.2.1 q1.2.2, sgW T b2 g, moW T r v (mS g.1 g.2.1) (mE g.2.2) ia ea ik ek ib eb tx, sgW T b3 gs, plW T a q V G, siA T y w tx len, siB T y K9 A9 W9]) (bs' := [moW T r v (mS g.1 g.2.1) (mE g.2.2) ia ea ik ek ib eb tx, obW z b1 b2 b3 h a y k0 k1 k2 k3, sgW T b1 g1, hiW T h q1.1 q1.2.1 q1.2.2, sgW T b2 g, sgW T b3 gs, plW T a q V G, siA T y w tx len, siB T y K9 A9 W9]) hD [4, 0, 1, 2, 3, 5, 6, 7, 8] rfl rfl
  refine lv_aload_n hx hb dL_law_159 rfl (lv_at hl 3 rfl) ?_
  refine lv_aload_n hx hb dL_law_160 rfl (lv_at hl 1 rfl) ?_
  refine lv_iload_n hx hb dL_law_161 rfl (lv_at hl 0 rfl) ?_
  refine lv_iconst (v := nI 1) hx hb dL_law_162 (by decide) ?_
  refine lv_iadd hx hb dL_law_163 ?_
  refine lv_tpi (nI_add i 1) ?_
  refine va_sld hx hb hsx hbl hbA hS (vp_in_nI (by omega) (by omega)) dL_law_164 ?_
  refine lv_tpi (congrArg xs (nI_clamp (by omega))) ?_
  refine lv_aload_n hx hb dL_law_165 rfl (lv_at hl 1 rfl) ?_
  refine lv_iload_n hx hb dL_law_166 rfl (lv_at hl 0 rfl) ?_
  refine lv_iconst (v := nI 2) hx hb dL_law_167 (by decide) ?_
  refine lv_iadd hx hb dL_law_168 ?_
  refine lv_tpi (nI_add i 2) ?_
  refine va_sld hx hb hsx hbl hbA hS (vp_in_nI (by omega) (by omega)) dL_law_169 ?_
  refine lv_tpi (congrArg xs (nI_clamp (by omega))) ?_
  refine lv_aload_n hx hb dL_law_170 rfl (lv_at hl 1 rfl) ?_
  refine lv_iload_n hx hb dL_law_171 rfl (lv_at hl 0 rfl) ?_
  refine lv_iconst (v := nI 3) hx hb dL_law_172 (by decide) ?_
  refine lv_iadd hx hb dL_law_173 ?_
  refine lv_tpi (nI_add i 3) ?_
  refine va_sld hx hb hsx hbl hbA hS (vp_in_nI (by omega) (by omega)) dL_law_174 ?_
  refine lv_tpi (congrArg xs (nI_clamp (by omega))) ?_
  have hP := fP1.mp hP
  have hD := fD1.mp hD
  refine callMi (As := [.int (xs (i + 1)), .int (xs (i + 2)), .int (xs (i + 3))]) (wr := fl [obW z b1 b2 b3 h a y k0 k1 k2 k3, sgW T b1 g1, hiW T h q1.1 q1.2.1 q1.2.2, sgW T b2 g, sgW T b3 gs, plW T a q V G, siA T y w tx len, siB T y K9 A9 W9]) ⟨hx, hb, hml, hown, hts⟩ (mX6_set l T D r v g (li_g hi9).1 ia ea ik ek ib eb tx n (li_n hi9) (li_v1 hi9) (xs (i + 1)) (xs (i + 2)) (xs (i + 3))) (cwV 3 hts gL_law_X6_set rfl rfl rfl pdX6_set ⟨Nat.le_of_ble_eq_true rfl, Nat.le_of_ble_eq_true rfl⟩) hP hD hK hS hA xN_bl (fun U _ hW => XN_warm hW hX) (ci := 6) rfl rfl rfl hl.1 rfl rfl (Nat.le_of_ble_eq_true rfl) dL_law_175 ⟨Nat.le_of_ble_eq_true rfl, Nat.le_of_ble_eq_true rfl⟩ (fun r3_ u4_ H locs eu4_ hP hD hS hkf => ?_)
  have hP : va_P D vwCl (fl [moW T r u4_.1 u4_.2.1 u4_.2.2.1 u4_.2.2.2.1 u4_.2.2.2.2.1 u4_.2.2.2.2.2.1 u4_.2.2.2.2.2.2.1 u4_.2.2.2.2.2.2.2.1 u4_.2.2.2.2.2.2.2.2.1 u4_.2.2.2.2.2.2.2.2.2, obW z b1 b2 b3 h a y k0 k1 k2 k3, sgW T b1 g1, hiW T h q1.1 q1.2.1 q1.2.2, sgW T b2 g, sgW T b3 gs, plW T a q V G, siA T y w tx len, siB T y K9 A9 W9]) H := fP1.mpr hP
  have hD : va_D (fun q9 : Nat => s.heap.size ≤ q9) (fl [moW T r u4_.1 u4_.2.1 u4_.2.2.1 u4_.2.2.2.1 u4_.2.2.2.2.1 u4_.2.2.2.2.2.1 u4_.2.2.2.2.2.2.1 u4_.2.2.2.2.2.2.2.1 u4_.2.2.2.2.2.2.2.2.1 u4_.2.2.2.2.2.2.2.2.2, obW z b1 b2 b3 h a y k0 k1 k2 k3, sgW T b1 g1, hiW T h q1.1 q1.2.1 q1.2.2, sgW T b2 g, sgW T b3 gs, plW T a q V G, siA T y w tx len, siB T y K9 A9 W9]) := fD1.mpr hD
  obtain ⟨er2, hm⟩ := eu4_
  obtain ⟨v1, ia1, ea1, ib1, eb1, eu2, hi8⟩ := act_go hi9 (gW_set (li_g hi9) (xs (i + 1)) (xs (i + 2)) (xs (i + 3))) hm eq1
  have hP8 := hP
  have hD8 := hD
  subst eu2 eg1
  have hP := hP8
  have hD := hD8
  have hP : va_P D vwCl (fl [moW T r v1 (mS (oSet (xs (i + 1)) (xs (i + 2)) (xs (i + 3)) g).2.1 (oSet (xs (i + 1)) (xs (i + 2)) (xs (i + 3)) g).2.2.1) (mE (oSet (xs (i + 1)) (xs (i + 2)) (xs (i + 3)) g).2.2.2) ia1 ea1 ik ek ib1 eb1 tx, obW z b1 b2 b3 h a y k0 k1 k2 k3, sgW T b1 ((oSet (xs (i + 1)) (xs (i + 2)) (xs (i + 3)) g).2), hiW T h q1.1 q1.2.1 q1.2.2, sgW T b2 g, sgW T b3 gs, plW T a q V G, siA T y w tx len, siB T y K9 A9 W9]) H := hP
  have hD : va_D (fun q9 : Nat => s.heap.size ≤ q9) (fl [moW T r v1 (mS (oSet (xs (i + 1)) (xs (i + 2)) (xs (i + 3)) g).2.1 (oSet (xs (i + 1)) (xs (i + 2)) (xs (i + 3)) g).2.2.1) (mE (oSet (xs (i + 1)) (xs (i + 2)) (xs (i + 3)) g).2.2.2) ia1 ea1 ik ek ib1 eb1 tx, obW z b1 b2 b3 h a y k0 k1 k2 k3, sgW T b1 ((oSet (xs (i + 1)) (xs (i + 2)) (xs (i + 3)) g).2), hiW T h q1.1 q1.2.1 q1.2.2, sgW T b2 g, sgW T b3 gs, plW T a q V G, siA T y w tx len, siB T y K9 A9 W9]) := hD
  refine lv_icmp_eq (tgt := 702) hx hb dL_law_178 (by decide) (fun _ => ?_) (fun c9 => absurd (er1.trans er2.symm) c9)
  exact kk q1.1 k0 k1 k2 k3 q1.2.1 q1.2.2 ((oSet (xs (i + 1)) (xs (i + 2)) (xs (i + 3)) g).2) g gs V G w K9 A9 W9 tx len v1 ia1 ea1 ik ek ib1 eb1 H _ ls hi8 hP hD hS (lv_sub hl [0, 1, 2, 3] rfl)
set_option maxHeartbeats 4000000 in
set_option maxRecDepth 100000 in
theorem lc_turnOn (C : lwC p s m c bq L xs T D) {i : Nat} (hi : i + 4 ≤ L) (kk : lwB p l e s m below meth c Q bq T D z a q b1 b2 b3 h y r 702 i) : lwB p l e s m below meth c Q bq T D z a q b1 b2 b3 h y r 183 i := by
  obtain ⟨hx, hb, hml, hown, hts, hsx, hbl, hK, hXS, hL⟩ := C
  have hX := hXS.1
  have hA : ∀ q9 : Nat, s.heap.size ≤ q9 → (fun q9 : Nat => s.heap.size ≤ q9) q9 := fun _ h9 => h9
  have hbA : ¬ (fun q9 : Nat => s.heap.size ≤ q9) bq := Nat.not_le.mpr hbl
  intro d k0 k1 k2 k3 n σ g gb gs V G w K9 A9 W9 tx len v ia ea ik ek ib eb H locs ls hi9 hP hD hS hl
  refine lv_aload_n hx hb dL_law_183 rfl (lv_at hl 2 rfl) ?_
  refine lv_aload_n hx hb dL_law_184 rfl (lv_at hl 1 rfl) ?_
  refine lv_iload_n hx hb dL_law_185 rfl (lv_at hl 0 rfl) ?_
  refine lv_iconst (v := nI 1) hx hb dL_law_186 (by decide) ?_
  refine lv_iadd hx hb dL_law_187 ?_
  refine lv_tpi (nI_add i 1) ?_
  refine va_sld hx hb hsx hbl hbA hS (vp_in_nI (by omega) (by omega)) dL_law_188 ?_
  refine lv_tpi (congrArg xs (nI_clamp (by omega))) ?_
  refine lv_aload_n hx hb dL_law_189 rfl (lv_at hl 1 rfl) ?_
  refine lv_iload_n hx hb dL_law_190 rfl (lv_at hl 0 rfl) ?_
  refine lv_iconst (v := nI 2) hx hb dL_law_191 (by decide) ?_
  refine lv_iadd hx hb dL_law_192 ?_
  refine lv_tpi (nI_add i 2) ?_
  refine va_sld hx hb hsx hbl hbA hS (vp_in_nI (by omega) (by omega)) dL_law_193 ?_
  refine lv_tpi (congrArg xs (nI_clamp (by omega))) ?_
  have hP := bP (bs := [moW T r v (mS g.1 g.2.1) (mE g.2.2) ia ea ik ek ib eb tx, obW z b1 b2 b3 h a y k0 k1 k2 k3, sgW T b1 g, hiW T h d n σ, sgW T b2 gb, sgW T b3 gs, plW T a q V G, siA T y w tx len, siB T y K9 A9 W9]) (bs' := [obW z b1 b2 b3 h a y k0 k1 k2 k3, sgW T b1 g, hiW T h d n σ, sgW T b2 gb, moW T r v (mS g.1 g.2.1) (mE g.2.2) ia ea ik ek ib eb tx, sgW T b3 gs, plW T a q V G, siA T y w tx len, siB T y K9 A9 W9]) hP [1, 2, 3, 4, 0, 5, 6, 7, 8] rfl rfl
  have hD := bD (bs := [moW T r v (mS g.1 g.2.1) (mE g.2.2) ia ea ik ek ib eb tx, obW z b1 b2 b3 h a y k0 k1 k2 k3, sgW T b1 g, hiW T h d n σ, sgW T b2 gb, sgW T b3 gs, plW T a q V G, siA T y w tx len, siB T y K9 A9 W9]) (bs' := [obW z b1 b2 b3 h a y k0 k1 k2 k3, sgW T b1 g, hiW T h d n σ, sgW T b2 gb, moW T r v (mS g.1 g.2.1) (mE g.2.2) ia ea ik ek ib eb tx, sgW T b3 gs, plW T a q V G, siA T y w tx len, siB T y K9 A9 W9]) hD [1, 2, 3, 4, 0, 5, 6, 7, 8] rfl rfl
  have hP := fP4.mp hP
  have hD := fD4.mp hD
  refine callMi (As := [.int (xs (i + 1)), .int (xs (i + 2))]) (wr := fl [moW T r v (mS g.1 g.2.1) (mE g.2.2) ia ea ik ek ib eb tx, sgW T b3 gs, plW T a q V G, siA T y w tx len, siB T y K9 A9 W9]) ⟨hx, hb, hml, hown, hts⟩ (mX5_turnOn l T D z b1 b2 (b3 0) a (y 0) k0 k1 k2 k3 h d n σ g gb (li_n hi9) (li_g hi9).1 (xs (i + 1)) (xs (i + 2))) (cwV 2 hts gL_law_X5_turnOn rfl rfl rfl pdX5_turnOn ⟨Nat.le_of_ble_eq_true rfl, Nat.le_of_ble_eq_true rfl⟩) hP hD hK hS hA xN_bl (fun U _ hW => XN_warm hW hX) (ci := 5) rfl rfl rfl hl.1 rfl rfl (Nat.le_of_ble_eq_true rfl) dL_law_194 ⟨Nat.le_of_ble_eq_true rfl, Nat.le_of_ble_eq_true rfl⟩ (fun r1_ u2_ H locs eu2_ hP hD hS hkf => ?_)
  obtain ⟨g1, q1⟩ := u2_
  obtain ⟨er1, eq1⟩ := eu2_
  have eg1 : g1 = (oTurnOn (xs (i + 1)) (xs (i + 2)) g).2 := congrArg Prod.fst eq1
  have eq1 : q1 = if 0 ≤ (oTurnOn (xs (i + 1)) (xs (i + 2)) g).1 then (hiD n d, rcN n, hiS n σ g) else (d, n, σ) := congrArg Prod.snd eq1
  have hP : va_P D vwCl (fl [obW z b1 b2 b3 h a y k0 k1 k2 k3, sgW T b1 g1, hiW T h q1.1 q1.2.1 q1.2.2, sgW T b2 g, moW T r v (mS g.1 g.2.1) (mE g.2.2) ia ea ik ek ib eb tx, sgW T b3 gs, plW T a q V G, siA T y w tx len, siB T y K9 A9 W9]) H := fP4.mpr hP
  have hD : va_D (fun q9 : Nat => s.heap.size ≤ q9) (fl [obW z b1 b2 b3 h a y k0 k1 k2 k3, sgW T b1 g1, hiW T h q1.1 q1.2.1 q1.2.2, sgW T b2 g, moW T r v (mS g.1 g.2.1) (mE g.2.2) ia ea ik ek ib eb tx, sgW T b3 gs, plW T a q V G, siA T y w tx len, siB T y K9 A9 W9]) := fD4.mpr hD
  have hP := bP (bs := [obW z b1 b2 b3 h a y k0 k1 k2 k3, sgW T b1 g1, hiW T h q1.1 q1.2.1 q1.2.2, sgW T b2 g, moW T r v (mS g.1 g.2.1) (mE g.2.2) ia ea ik ek ib eb tx, sgW T b3 gs, plW T a q V G, siA T y w tx len, siB T y K9 A9 W9]) (bs' := [moW T r v (mS g.1 g.2.1) (mE g.2.2) ia ea ik ek ib eb tx, obW z b1 b2 b3 h a y k0 k1 k2 k3, sgW T b1 g1, hiW T h q1.1 q1.2.1 q1.2.2, sgW T b2 g, sgW T b3 gs, plW T a q V G, siA T y w tx len, siB T y K9 A9 W9]) hP [4, 0, 1, 2, 3, 5, 6, 7, 8] rfl rfl
  have hD := bD (bs := [obW z b1 b2 b3 h a y k0 k1 k2 k3, sgW T b1 g1, hiW T h q1.1 q1.2.1 q1.2.2, sgW T b2 g, moW T r v (mS g.1 g.2.1) (mE g.2.2) ia ea ik ek ib eb tx, sgW T b3 gs, plW T a q V G, siA T y w tx len, siB T y K9 A9 W9]) (bs' := [moW T r v (mS g.1 g.2.1) (mE g.2.2) ia ea ik ek ib eb tx, obW z b1 b2 b3 h a y k0 k1 k2 k3, sgW T b1 g1, hiW T h q1.1 q1.2.1 q1.2.2, sgW T b2 g, sgW T b3 gs, plW T a q V G, siA T y w tx len, siB T y K9 A9 W9]) hD [4, 0, 1, 2, 3, 5, 6, 7, 8] rfl rfl
  refine lv_aload_n hx hb dL_law_197 rfl (lv_at hl 3 rfl) ?_
  refine lv_aload_n hx hb dL_law_198 rfl (lv_at hl 1 rfl) ?_
  refine lv_iload_n hx hb dL_law_199 rfl (lv_at hl 0 rfl) ?_
  refine lv_iconst (v := nI 1) hx hb dL_law_200 (by decide) ?_
  refine lv_iadd hx hb dL_law_201 ?_
  refine lv_tpi (nI_add i 1) ?_
  refine va_sld hx hb hsx hbl hbA hS (vp_in_nI (by omega) (by omega)) dL_law_202 ?_
  refine lv_tpi (congrArg xs (nI_clamp (by omega))) ?_
  refine lv_aload_n hx hb dL_law_203 rfl (lv_at hl 1 rfl) ?_
  refine lv_iload_n hx hb dL_law_204 rfl (lv_at hl 0 rfl) ?_
  refine lv_iconst (v := nI 2) hx hb dL_law_205 (by decide) ?_
  refine lv_iadd hx hb dL_law_206 ?_
  refine lv_tpi (nI_add i 2) ?_
  refine va_sld hx hb hsx hbl hbA hS (vp_in_nI (by omega) (by omega)) dL_law_207 ?_
  refine lv_tpi (congrArg xs (nI_clamp (by omega))) ?_
  have hP := fP1.mp hP
  have hD := fD1.mp hD
  refine callMi (As := [.int (xs (i + 1)), .int (xs (i + 2))]) (wr := fl [obW z b1 b2 b3 h a y k0 k1 k2 k3, sgW T b1 g1, hiW T h q1.1 q1.2.1 q1.2.2, sgW T b2 g, sgW T b3 gs, plW T a q V G, siA T y w tx len, siB T y K9 A9 W9]) ⟨hx, hb, hml, hown, hts⟩ (mX6_turnOn l T D r v g (li_g hi9).1 ia ea ik ek ib eb tx n (li_n hi9) (li_v1 hi9) (xs (i + 1)) (xs (i + 2))) (cwV 2 hts gL_law_X6_turnOn rfl rfl rfl pdX6_turnOn ⟨Nat.le_of_ble_eq_true rfl, Nat.le_of_ble_eq_true rfl⟩) hP hD hK hS hA xN_bl (fun U _ hW => XN_warm hW hX) (ci := 6) rfl rfl rfl hl.1 rfl rfl (Nat.le_of_ble_eq_true rfl) dL_law_208 ⟨Nat.le_of_ble_eq_true rfl, Nat.le_of_ble_eq_true rfl⟩ (fun r3_ u4_ H locs eu4_ hP hD hS hkf => ?_)
  have hP : va_P D vwCl (fl [moW T r u4_.1 u4_.2.1 u4_.2.2.1 u4_.2.2.2.1 u4_.2.2.2.2.1 u4_.2.2.2.2.2.1 u4_.2.2.2.2.2.2.1 u4_.2.2.2.2.2.2.2.1 u4_.2.2.2.2.2.2.2.2.1 u4_.2.2.2.2.2.2.2.2.2, obW z b1 b2 b3 h a y k0 k1 k2 k3, sgW T b1 g1, hiW T h q1.1 q1.2.1 q1.2.2, sgW T b2 g, sgW T b3 gs, plW T a q V G, siA T y w tx len, siB T y K9 A9 W9]) H := fP1.mpr hP
  have hD : va_D (fun q9 : Nat => s.heap.size ≤ q9) (fl [moW T r u4_.1 u4_.2.1 u4_.2.2.1 u4_.2.2.2.1 u4_.2.2.2.2.1 u4_.2.2.2.2.2.1 u4_.2.2.2.2.2.2.1 u4_.2.2.2.2.2.2.2.1 u4_.2.2.2.2.2.2.2.2.1 u4_.2.2.2.2.2.2.2.2.2, obW z b1 b2 b3 h a y k0 k1 k2 k3, sgW T b1 g1, hiW T h q1.1 q1.2.1 q1.2.2, sgW T b2 g, sgW T b3 gs, plW T a q V G, siA T y w tx len, siB T y K9 A9 W9]) := fD1.mpr hD
  obtain ⟨er2, hm⟩ := eu4_
  obtain ⟨v1, ia1, ea1, ib1, eb1, eu2, hi8⟩ := act_go hi9 (gW_turnOn (li_g hi9) (xs (i + 1)) (xs (i + 2))) hm eq1
  have hP8 := hP
  have hD8 := hD
  subst eu2 eg1
  have hP := hP8
  have hD := hD8
  have hP : va_P D vwCl (fl [moW T r v1 (mS (oTurnOn (xs (i + 1)) (xs (i + 2)) g).2.1 (oTurnOn (xs (i + 1)) (xs (i + 2)) g).2.2.1) (mE (oTurnOn (xs (i + 1)) (xs (i + 2)) g).2.2.2) ia1 ea1 ik ek ib1 eb1 tx, obW z b1 b2 b3 h a y k0 k1 k2 k3, sgW T b1 ((oTurnOn (xs (i + 1)) (xs (i + 2)) g).2), hiW T h q1.1 q1.2.1 q1.2.2, sgW T b2 g, sgW T b3 gs, plW T a q V G, siA T y w tx len, siB T y K9 A9 W9]) H := hP
  have hD : va_D (fun q9 : Nat => s.heap.size ≤ q9) (fl [moW T r v1 (mS (oTurnOn (xs (i + 1)) (xs (i + 2)) g).2.1 (oTurnOn (xs (i + 1)) (xs (i + 2)) g).2.2.1) (mE (oTurnOn (xs (i + 1)) (xs (i + 2)) g).2.2.2) ia1 ea1 ik ek ib1 eb1 tx, obW z b1 b2 b3 h a y k0 k1 k2 k3, sgW T b1 ((oTurnOn (xs (i + 1)) (xs (i + 2)) g).2), hiW T h q1.1 q1.2.1 q1.2.2, sgW T b2 g, sgW T b3 gs, plW T a q V G, siA T y w tx len, siB T y K9 A9 W9]) := hD
  refine lv_icmp_eq (tgt := 702) hx hb dL_law_211 (by decide) (fun _ => ?_) (fun c9 => absurd (er1.trans er2.symm) c9)
  exact kk q1.1 k0 k1 k2 k3 q1.2.1 q1.2.2 ((oTurnOn (xs (i + 1)) (xs (i + 2)) g).2) g gs V G w K9 A9 W9 tx len v1 ia1 ea1 ik ek ib1 eb1 H _ ls hi8 hP hD hS (lv_sub hl [0, 1, 2, 3] rfl)
set_option maxHeartbeats 4000000 in
set_option maxRecDepth 100000 in
theorem lc_turnOff (C : lwC p s m c bq L xs T D) {i : Nat} (hi : i + 4 ≤ L) (kk : lwB p l e s m below meth c Q bq T D z a q b1 b2 b3 h y r 702 i) : lwB p l e s m below meth c Q bq T D z a q b1 b2 b3 h y r 216 i := by
  obtain ⟨hx, hb, hml, hown, hts, hsx, hbl, hK, hXS, hL⟩ := C
  have hX := hXS.1
  have hA : ∀ q9 : Nat, s.heap.size ≤ q9 → (fun q9 : Nat => s.heap.size ≤ q9) q9 := fun _ h9 => h9
  have hbA : ¬ (fun q9 : Nat => s.heap.size ≤ q9) bq := Nat.not_le.mpr hbl
  intro d k0 k1 k2 k3 n σ g gb gs V G w K9 A9 W9 tx len v ia ea ik ek ib eb H locs ls hi9 hP hD hS hl
  refine lv_aload_n hx hb dL_law_216 rfl (lv_at hl 2 rfl) ?_
  refine lv_aload_n hx hb dL_law_217 rfl (lv_at hl 1 rfl) ?_
  refine lv_iload_n hx hb dL_law_218 rfl (lv_at hl 0 rfl) ?_
  refine lv_iconst (v := nI 1) hx hb dL_law_219 (by decide) ?_
  refine lv_iadd hx hb dL_law_220 ?_
  refine lv_tpi (nI_add i 1) ?_
  refine va_sld hx hb hsx hbl hbA hS (vp_in_nI (by omega) (by omega)) dL_law_221 ?_
  refine lv_tpi (congrArg xs (nI_clamp (by omega))) ?_
  have hP := bP (bs := [moW T r v (mS g.1 g.2.1) (mE g.2.2) ia ea ik ek ib eb tx, obW z b1 b2 b3 h a y k0 k1 k2 k3, sgW T b1 g, hiW T h d n σ, sgW T b2 gb, sgW T b3 gs, plW T a q V G, siA T y w tx len, siB T y K9 A9 W9]) (bs' := [obW z b1 b2 b3 h a y k0 k1 k2 k3, sgW T b1 g, hiW T h d n σ, sgW T b2 gb, moW T r v (mS g.1 g.2.1) (mE g.2.2) ia ea ik ek ib eb tx, sgW T b3 gs, plW T a q V G, siA T y w tx len, siB T y K9 A9 W9]) hP [1, 2, 3, 4, 0, 5, 6, 7, 8] rfl rfl
  have hD := bD (bs := [moW T r v (mS g.1 g.2.1) (mE g.2.2) ia ea ik ek ib eb tx, obW z b1 b2 b3 h a y k0 k1 k2 k3, sgW T b1 g, hiW T h d n σ, sgW T b2 gb, sgW T b3 gs, plW T a q V G, siA T y w tx len, siB T y K9 A9 W9]) (bs' := [obW z b1 b2 b3 h a y k0 k1 k2 k3, sgW T b1 g, hiW T h d n σ, sgW T b2 gb, moW T r v (mS g.1 g.2.1) (mE g.2.2) ia ea ik ek ib eb tx, sgW T b3 gs, plW T a q V G, siA T y w tx len, siB T y K9 A9 W9]) hD [1, 2, 3, 4, 0, 5, 6, 7, 8] rfl rfl
  have hP := fP4.mp hP
  have hD := fD4.mp hD
  refine callMi (As := [.int (xs (i + 1))]) (wr := fl [moW T r v (mS g.1 g.2.1) (mE g.2.2) ia ea ik ek ib eb tx, sgW T b3 gs, plW T a q V G, siA T y w tx len, siB T y K9 A9 W9]) ⟨hx, hb, hml, hown, hts⟩ (mX5_turnOff l T D z b1 b2 (b3 0) a (y 0) k0 k1 k2 k3 h d n σ g gb (li_n hi9) (li_g hi9).1 (xs (i + 1))) (cwV 1 hts gL_law_X5_turnOff rfl rfl rfl pdX5_turnOff ⟨Nat.le_of_ble_eq_true rfl, Nat.le_of_ble_eq_true rfl⟩) hP hD hK hS hA xN_bl (fun U _ hW => XN_warm hW hX) (ci := 5) rfl rfl rfl hl.1 rfl rfl (Nat.le_of_ble_eq_true rfl) dL_law_222 ⟨Nat.le_of_ble_eq_true rfl, Nat.le_of_ble_eq_true rfl⟩ (fun r1_ u2_ H locs eu2_ hP hD hS hkf => ?_)
  obtain ⟨g1, q1⟩ := u2_
  obtain ⟨er1, eq1⟩ := eu2_
  have eg1 : g1 = (oTurnOff (xs (i + 1)) g).2 := congrArg Prod.fst eq1
  have eq1 : q1 = if 0 ≤ (oTurnOff (xs (i + 1)) g).1 then (hiD n d, rcN n, hiS n σ g) else (d, n, σ) := congrArg Prod.snd eq1
  have hP : va_P D vwCl (fl [obW z b1 b2 b3 h a y k0 k1 k2 k3, sgW T b1 g1, hiW T h q1.1 q1.2.1 q1.2.2, sgW T b2 g, moW T r v (mS g.1 g.2.1) (mE g.2.2) ia ea ik ek ib eb tx, sgW T b3 gs, plW T a q V G, siA T y w tx len, siB T y K9 A9 W9]) H := fP4.mpr hP
  have hD : va_D (fun q9 : Nat => s.heap.size ≤ q9) (fl [obW z b1 b2 b3 h a y k0 k1 k2 k3, sgW T b1 g1, hiW T h q1.1 q1.2.1 q1.2.2, sgW T b2 g, moW T r v (mS g.1 g.2.1) (mE g.2.2) ia ea ik ek ib eb tx, sgW T b3 gs, plW T a q V G, siA T y w tx len, siB T y K9 A9 W9]) := fD4.mpr hD
  have hP := bP (bs := [obW z b1 b2 b3 h a y k0 k1 k2 k3, sgW T b1 g1, hiW T h q1.1 q1.2.1 q1.2.2, sgW T b2 g, moW T r v (mS g.1 g.2.1) (mE g.2.2) ia ea ik ek ib eb tx, sgW T b3 gs, plW T a q V G, siA T y w tx len, siB T y K9 A9 W9]) (bs' := [moW T r v (mS g.1 g.2.1) (mE g.2.2) ia ea ik ek ib eb tx, obW z b1 b2 b3 h a y k0 k1 k2 k3, sgW T b1 g1, hiW T h q1.1 q1.2.1 q1.2.2, sgW T b2 g, sgW T b3 gs, plW T a q V G, siA T y w tx len, siB T y K9 A9 W9]) hP [4, 0, 1, 2, 3, 5, 6, 7, 8] rfl rfl
  have hD := bD (bs := [obW z b1 b2 b3 h a y k0 k1 k2 k3, sgW T b1 g1, hiW T h q1.1 q1.2.1 q1.2.2, sgW T b2 g, moW T r v (mS g.1 g.2.1) (mE g.2.2) ia ea ik ek ib eb tx, sgW T b3 gs, plW T a q V G, siA T y w tx len, siB T y K9 A9 W9]) (bs' := [moW T r v (mS g.1 g.2.1) (mE g.2.2) ia ea ik ek ib eb tx, obW z b1 b2 b3 h a y k0 k1 k2 k3, sgW T b1 g1, hiW T h q1.1 q1.2.1 q1.2.2, sgW T b2 g, sgW T b3 gs, plW T a q V G, siA T y w tx len, siB T y K9 A9 W9]) hD [4, 0, 1, 2, 3, 5, 6, 7, 8] rfl rfl
  refine lv_aload_n hx hb dL_law_225 rfl (lv_at hl 3 rfl) ?_
  refine lv_aload_n hx hb dL_law_226 rfl (lv_at hl 1 rfl) ?_
  refine lv_iload_n hx hb dL_law_227 rfl (lv_at hl 0 rfl) ?_
  refine lv_iconst (v := nI 1) hx hb dL_law_228 (by decide) ?_
  refine lv_iadd hx hb dL_law_229 ?_
  refine lv_tpi (nI_add i 1) ?_
  refine va_sld hx hb hsx hbl hbA hS (vp_in_nI (by omega) (by omega)) dL_law_230 ?_
  refine lv_tpi (congrArg xs (nI_clamp (by omega))) ?_
  have hP := fP1.mp hP
  have hD := fD1.mp hD
  refine callMi (As := [.int (xs (i + 1))]) (wr := fl [obW z b1 b2 b3 h a y k0 k1 k2 k3, sgW T b1 g1, hiW T h q1.1 q1.2.1 q1.2.2, sgW T b2 g, sgW T b3 gs, plW T a q V G, siA T y w tx len, siB T y K9 A9 W9]) ⟨hx, hb, hml, hown, hts⟩ (mX6_turnOff l T D r v g (li_g hi9).1 ia ea ik ek ib eb tx n (li_n hi9) (li_v1 hi9) (xs (i + 1))) (cwV 1 hts gL_law_X6_turnOff rfl rfl rfl pdX6_turnOff ⟨Nat.le_of_ble_eq_true rfl, Nat.le_of_ble_eq_true rfl⟩) hP hD hK hS hA xN_bl (fun U _ hW => XN_warm hW hX) (ci := 6) rfl rfl rfl hl.1 rfl rfl (Nat.le_of_ble_eq_true rfl) dL_law_231 ⟨Nat.le_of_ble_eq_true rfl, Nat.le_of_ble_eq_true rfl⟩ (fun r3_ u4_ H locs eu4_ hP hD hS hkf => ?_)
  have hP : va_P D vwCl (fl [moW T r u4_.1 u4_.2.1 u4_.2.2.1 u4_.2.2.2.1 u4_.2.2.2.2.1 u4_.2.2.2.2.2.1 u4_.2.2.2.2.2.2.1 u4_.2.2.2.2.2.2.2.1 u4_.2.2.2.2.2.2.2.2.1 u4_.2.2.2.2.2.2.2.2.2, obW z b1 b2 b3 h a y k0 k1 k2 k3, sgW T b1 g1, hiW T h q1.1 q1.2.1 q1.2.2, sgW T b2 g, sgW T b3 gs, plW T a q V G, siA T y w tx len, siB T y K9 A9 W9]) H := fP1.mpr hP
  have hD : va_D (fun q9 : Nat => s.heap.size ≤ q9) (fl [moW T r u4_.1 u4_.2.1 u4_.2.2.1 u4_.2.2.2.1 u4_.2.2.2.2.1 u4_.2.2.2.2.2.1 u4_.2.2.2.2.2.2.1 u4_.2.2.2.2.2.2.2.1 u4_.2.2.2.2.2.2.2.2.1 u4_.2.2.2.2.2.2.2.2.2, obW z b1 b2 b3 h a y k0 k1 k2 k3, sgW T b1 g1, hiW T h q1.1 q1.2.1 q1.2.2, sgW T b2 g, sgW T b3 gs, plW T a q V G, siA T y w tx len, siB T y K9 A9 W9]) := fD1.mpr hD
  obtain ⟨er2, hm⟩ := eu4_
  obtain ⟨v1, ia1, ea1, ib1, eb1, eu2, hi8⟩ := act_go hi9 (gW_turnOff (li_g hi9) (xs (i + 1))) hm eq1
  have hP8 := hP
  have hD8 := hD
  subst eu2 eg1
  have hP := hP8
  have hD := hD8
  have hP : va_P D vwCl (fl [moW T r v1 (mS (oTurnOff (xs (i + 1)) g).2.1 (oTurnOff (xs (i + 1)) g).2.2.1) (mE (oTurnOff (xs (i + 1)) g).2.2.2) ia1 ea1 ik ek ib1 eb1 tx, obW z b1 b2 b3 h a y k0 k1 k2 k3, sgW T b1 ((oTurnOff (xs (i + 1)) g).2), hiW T h q1.1 q1.2.1 q1.2.2, sgW T b2 g, sgW T b3 gs, plW T a q V G, siA T y w tx len, siB T y K9 A9 W9]) H := hP
  have hD : va_D (fun q9 : Nat => s.heap.size ≤ q9) (fl [moW T r v1 (mS (oTurnOff (xs (i + 1)) g).2.1 (oTurnOff (xs (i + 1)) g).2.2.1) (mE (oTurnOff (xs (i + 1)) g).2.2.2) ia1 ea1 ik ek ib1 eb1 tx, obW z b1 b2 b3 h a y k0 k1 k2 k3, sgW T b1 ((oTurnOff (xs (i + 1)) g).2), hiW T h q1.1 q1.2.1 q1.2.2, sgW T b2 g, sgW T b3 gs, plW T a q V G, siA T y w tx len, siB T y K9 A9 W9]) := hD
  refine lv_icmp_eq (tgt := 702) hx hb dL_law_234 (by decide) (fun _ => ?_) (fun c9 => absurd (er1.trans er2.symm) c9)
  exact kk q1.1 k0 k1 k2 k3 q1.2.1 q1.2.2 ((oTurnOff (xs (i + 1)) g).2) g gs V G w K9 A9 W9 tx len v1 ia1 ea1 ik ek ib1 eb1 H _ ls hi8 hP hD hS (lv_sub hl [0, 1, 2, 3] rfl)
set_option maxHeartbeats 4000000 in
set_option maxRecDepth 100000 in
theorem lc_put (C : lwC p s m c bq L xs T D) {i : Nat} (hi : i + 4 ≤ L) (kk : lwB p l e s m below meth c Q bq T D z a q b1 b2 b3 h y r 702 i) : lwB p l e s m below meth c Q bq T D z a q b1 b2 b3 h y r 239 i := by
  obtain ⟨hx, hb, hml, hown, hts, hsx, hbl, hK, hXS, hL⟩ := C
  have hX := hXS.1
  have hA : ∀ q9 : Nat, s.heap.size ≤ q9 → (fun q9 : Nat => s.heap.size ≤ q9) q9 := fun _ h9 => h9
  have hbA : ¬ (fun q9 : Nat => s.heap.size ≤ q9) bq := Nat.not_le.mpr hbl
  intro d k0 k1 k2 k3 n σ g gb gs V G w K9 A9 W9 tx len v ia ea ik ek ib eb H locs ls hi9 hP hD hS hl
  refine lv_aload_n hx hb dL_law_239 rfl (lv_at hl 2 rfl) ?_
  refine lv_aload_n hx hb dL_law_240 rfl (lv_at hl 1 rfl) ?_
  refine lv_iload_n hx hb dL_law_241 rfl (lv_at hl 0 rfl) ?_
  refine lv_iconst (v := nI 1) hx hb dL_law_242 (by decide) ?_
  refine lv_iadd hx hb dL_law_243 ?_
  refine lv_tpi (nI_add i 1) ?_
  refine va_sld hx hb hsx hbl hbA hS (vp_in_nI (by omega) (by omega)) dL_law_244 ?_
  refine lv_tpi (congrArg xs (nI_clamp (by omega))) ?_
  refine lv_aload_n hx hb dL_law_245 rfl (lv_at hl 1 rfl) ?_
  refine lv_iload_n hx hb dL_law_246 rfl (lv_at hl 0 rfl) ?_
  refine lv_iconst (v := nI 2) hx hb dL_law_247 (by decide) ?_
  refine lv_iadd hx hb dL_law_248 ?_
  refine lv_tpi (nI_add i 2) ?_
  refine va_sld hx hb hsx hbl hbA hS (vp_in_nI (by omega) (by omega)) dL_law_249 ?_
  refine lv_tpi (congrArg xs (nI_clamp (by omega))) ?_
  have hP := bP (bs := [moW T r v (mS g.1 g.2.1) (mE g.2.2) ia ea ik ek ib eb tx, obW z b1 b2 b3 h a y k0 k1 k2 k3, sgW T b1 g, hiW T h d n σ, sgW T b2 gb, sgW T b3 gs, plW T a q V G, siA T y w tx len, siB T y K9 A9 W9]) (bs' := [obW z b1 b2 b3 h a y k0 k1 k2 k3, sgW T b1 g, hiW T h d n σ, sgW T b2 gb, moW T r v (mS g.1 g.2.1) (mE g.2.2) ia ea ik ek ib eb tx, sgW T b3 gs, plW T a q V G, siA T y w tx len, siB T y K9 A9 W9]) hP [1, 2, 3, 4, 0, 5, 6, 7, 8] rfl rfl
  have hD := bD (bs := [moW T r v (mS g.1 g.2.1) (mE g.2.2) ia ea ik ek ib eb tx, obW z b1 b2 b3 h a y k0 k1 k2 k3, sgW T b1 g, hiW T h d n σ, sgW T b2 gb, sgW T b3 gs, plW T a q V G, siA T y w tx len, siB T y K9 A9 W9]) (bs' := [obW z b1 b2 b3 h a y k0 k1 k2 k3, sgW T b1 g, hiW T h d n σ, sgW T b2 gb, moW T r v (mS g.1 g.2.1) (mE g.2.2) ia ea ik ek ib eb tx, sgW T b3 gs, plW T a q V G, siA T y w tx len, siB T y K9 A9 W9]) hD [1, 2, 3, 4, 0, 5, 6, 7, 8] rfl rfl
  have hP := fP4.mp hP
  have hD := fD4.mp hD
  refine callMi (As := [.int (xs (i + 1)), .int (xs (i + 2))]) (wr := fl [moW T r v (mS g.1 g.2.1) (mE g.2.2) ia ea ik ek ib eb tx, sgW T b3 gs, plW T a q V G, siA T y w tx len, siB T y K9 A9 W9]) ⟨hx, hb, hml, hown, hts⟩ (mX5_put l T D z b1 b2 (b3 0) a (y 0) k0 k1 k2 k3 h d n σ g gb (li_n hi9) (li_g hi9).1 (xs (i + 1)) (xs (i + 2))) (cwV 2 hts gL_law_X5_put rfl rfl rfl pdX5_put ⟨Nat.le_of_ble_eq_true rfl, Nat.le_of_ble_eq_true rfl⟩) hP hD hK hS hA xN_bl (fun U _ hW => XN_warm hW hX) (ci := 5) rfl rfl rfl hl.1 rfl rfl (Nat.le_of_ble_eq_true rfl) dL_law_250 ⟨Nat.le_of_ble_eq_true rfl, Nat.le_of_ble_eq_true rfl⟩ (fun r1_ u2_ H locs eu2_ hP hD hS hkf => ?_)
  obtain ⟨g1, q1⟩ := u2_
  obtain ⟨er1, eq1⟩ := eu2_
  have eg1 : g1 = (oPut (xs (i + 1)) (xs (i + 2)) g).2 := congrArg Prod.fst eq1
  have eq1 : q1 = if 0 ≤ (oPut (xs (i + 1)) (xs (i + 2)) g).1 then (hiD n d, rcN n, hiS n σ g) else (d, n, σ) := congrArg Prod.snd eq1
  have hP : va_P D vwCl (fl [obW z b1 b2 b3 h a y k0 k1 k2 k3, sgW T b1 g1, hiW T h q1.1 q1.2.1 q1.2.2, sgW T b2 g, moW T r v (mS g.1 g.2.1) (mE g.2.2) ia ea ik ek ib eb tx, sgW T b3 gs, plW T a q V G, siA T y w tx len, siB T y K9 A9 W9]) H := fP4.mpr hP
  have hD : va_D (fun q9 : Nat => s.heap.size ≤ q9) (fl [obW z b1 b2 b3 h a y k0 k1 k2 k3, sgW T b1 g1, hiW T h q1.1 q1.2.1 q1.2.2, sgW T b2 g, moW T r v (mS g.1 g.2.1) (mE g.2.2) ia ea ik ek ib eb tx, sgW T b3 gs, plW T a q V G, siA T y w tx len, siB T y K9 A9 W9]) := fD4.mpr hD
  have hP := bP (bs := [obW z b1 b2 b3 h a y k0 k1 k2 k3, sgW T b1 g1, hiW T h q1.1 q1.2.1 q1.2.2, sgW T b2 g, moW T r v (mS g.1 g.2.1) (mE g.2.2) ia ea ik ek ib eb tx, sgW T b3 gs, plW T a q V G, siA T y w tx len, siB T y K9 A9 W9]) (bs' := [moW T r v (mS g.1 g.2.1) (mE g.2.2) ia ea ik ek ib eb tx, obW z b1 b2 b3 h a y k0 k1 k2 k3, sgW T b1 g1, hiW T h q1.1 q1.2.1 q1.2.2, sgW T b2 g, sgW T b3 gs, plW T a q V G, siA T y w tx len, siB T y K9 A9 W9]) hP [4, 0, 1, 2, 3, 5, 6, 7, 8] rfl rfl
  have hD := bD (bs := [obW z b1 b2 b3 h a y k0 k1 k2 k3, sgW T b1 g1, hiW T h q1.1 q1.2.1 q1.2.2, sgW T b2 g, moW T r v (mS g.1 g.2.1) (mE g.2.2) ia ea ik ek ib eb tx, sgW T b3 gs, plW T a q V G, siA T y w tx len, siB T y K9 A9 W9]) (bs' := [moW T r v (mS g.1 g.2.1) (mE g.2.2) ia ea ik ek ib eb tx, obW z b1 b2 b3 h a y k0 k1 k2 k3, sgW T b1 g1, hiW T h q1.1 q1.2.1 q1.2.2, sgW T b2 g, sgW T b3 gs, plW T a q V G, siA T y w tx len, siB T y K9 A9 W9]) hD [4, 0, 1, 2, 3, 5, 6, 7, 8] rfl rfl
  refine lv_aload_n hx hb dL_law_253 rfl (lv_at hl 3 rfl) ?_
  refine lv_aload_n hx hb dL_law_254 rfl (lv_at hl 1 rfl) ?_
  refine lv_iload_n hx hb dL_law_255 rfl (lv_at hl 0 rfl) ?_
  refine lv_iconst (v := nI 1) hx hb dL_law_256 (by decide) ?_
  refine lv_iadd hx hb dL_law_257 ?_
  refine lv_tpi (nI_add i 1) ?_
  refine va_sld hx hb hsx hbl hbA hS (vp_in_nI (by omega) (by omega)) dL_law_258 ?_
  refine lv_tpi (congrArg xs (nI_clamp (by omega))) ?_
  refine lv_aload_n hx hb dL_law_259 rfl (lv_at hl 1 rfl) ?_
  refine lv_iload_n hx hb dL_law_260 rfl (lv_at hl 0 rfl) ?_
  refine lv_iconst (v := nI 2) hx hb dL_law_261 (by decide) ?_
  refine lv_iadd hx hb dL_law_262 ?_
  refine lv_tpi (nI_add i 2) ?_
  refine va_sld hx hb hsx hbl hbA hS (vp_in_nI (by omega) (by omega)) dL_law_263 ?_
  refine lv_tpi (congrArg xs (nI_clamp (by omega))) ?_
  have hP := fP1.mp hP
  have hD := fD1.mp hD
  refine callMi (As := [.int (xs (i + 1)), .int (xs (i + 2))]) (wr := fl [obW z b1 b2 b3 h a y k0 k1 k2 k3, sgW T b1 g1, hiW T h q1.1 q1.2.1 q1.2.2, sgW T b2 g, sgW T b3 gs, plW T a q V G, siA T y w tx len, siB T y K9 A9 W9]) ⟨hx, hb, hml, hown, hts⟩ (mX6_put l T D r v g (li_g hi9).1 ia ea ik ek ib eb tx n (li_n hi9) (li_v1 hi9) (xs (i + 1)) (xs (i + 2))) (cwV 2 hts gL_law_X6_put rfl rfl rfl pdX6_put ⟨Nat.le_of_ble_eq_true rfl, Nat.le_of_ble_eq_true rfl⟩) hP hD hK hS hA xN_bl (fun U _ hW => XN_warm hW hX) (ci := 6) rfl rfl rfl hl.1 rfl rfl (Nat.le_of_ble_eq_true rfl) dL_law_264 ⟨Nat.le_of_ble_eq_true rfl, Nat.le_of_ble_eq_true rfl⟩ (fun r3_ u4_ H locs eu4_ hP hD hS hkf => ?_)
  have hP : va_P D vwCl (fl [moW T r u4_.1 u4_.2.1 u4_.2.2.1 u4_.2.2.2.1 u4_.2.2.2.2.1 u4_.2.2.2.2.2.1 u4_.2.2.2.2.2.2.1 u4_.2.2.2.2.2.2.2.1 u4_.2.2.2.2.2.2.2.2.1 u4_.2.2.2.2.2.2.2.2.2, obW z b1 b2 b3 h a y k0 k1 k2 k3, sgW T b1 g1, hiW T h q1.1 q1.2.1 q1.2.2, sgW T b2 g, sgW T b3 gs, plW T a q V G, siA T y w tx len, siB T y K9 A9 W9]) H := fP1.mpr hP
  have hD : va_D (fun q9 : Nat => s.heap.size ≤ q9) (fl [moW T r u4_.1 u4_.2.1 u4_.2.2.1 u4_.2.2.2.1 u4_.2.2.2.2.1 u4_.2.2.2.2.2.1 u4_.2.2.2.2.2.2.1 u4_.2.2.2.2.2.2.2.1 u4_.2.2.2.2.2.2.2.2.1 u4_.2.2.2.2.2.2.2.2.2, obW z b1 b2 b3 h a y k0 k1 k2 k3, sgW T b1 g1, hiW T h q1.1 q1.2.1 q1.2.2, sgW T b2 g, sgW T b3 gs, plW T a q V G, siA T y w tx len, siB T y K9 A9 W9]) := fD1.mpr hD
  obtain ⟨er2, hm⟩ := eu4_
  obtain ⟨v1, ia1, ea1, ib1, eb1, eu2, hi8⟩ := act_go hi9 (gW_put (li_g hi9) (xs (i + 1)) (xs (i + 2))) hm eq1
  have hP8 := hP
  have hD8 := hD
  subst eu2 eg1
  have hP := hP8
  have hD := hD8
  have hP : va_P D vwCl (fl [moW T r v1 (mS (oPut (xs (i + 1)) (xs (i + 2)) g).2.1 (oPut (xs (i + 1)) (xs (i + 2)) g).2.2.1) (mE (oPut (xs (i + 1)) (xs (i + 2)) g).2.2.2) ia1 ea1 ik ek ib1 eb1 tx, obW z b1 b2 b3 h a y k0 k1 k2 k3, sgW T b1 ((oPut (xs (i + 1)) (xs (i + 2)) g).2), hiW T h q1.1 q1.2.1 q1.2.2, sgW T b2 g, sgW T b3 gs, plW T a q V G, siA T y w tx len, siB T y K9 A9 W9]) H := hP
  have hD : va_D (fun q9 : Nat => s.heap.size ≤ q9) (fl [moW T r v1 (mS (oPut (xs (i + 1)) (xs (i + 2)) g).2.1 (oPut (xs (i + 1)) (xs (i + 2)) g).2.2.1) (mE (oPut (xs (i + 1)) (xs (i + 2)) g).2.2.2) ia1 ea1 ik ek ib1 eb1 tx, obW z b1 b2 b3 h a y k0 k1 k2 k3, sgW T b1 ((oPut (xs (i + 1)) (xs (i + 2)) g).2), hiW T h q1.1 q1.2.1 q1.2.2, sgW T b2 g, sgW T b3 gs, plW T a q V G, siA T y w tx len, siB T y K9 A9 W9]) := hD
  refine lv_icmp_eq (tgt := 702) hx hb dL_law_267 (by decide) (fun _ => ?_) (fun c9 => absurd (er1.trans er2.symm) c9)
  exact kk q1.1 k0 k1 k2 k3 q1.2.1 q1.2.2 ((oPut (xs (i + 1)) (xs (i + 2)) g).2) g gs V G w K9 A9 W9 tx len v1 ia1 ea1 ik ek ib1 eb1 H _ ls hi8 hP hD hS (lv_sub hl [0, 1, 2, 3] rfl)
set_option maxHeartbeats 4000000 in
set_option maxRecDepth 100000 in
theorem lc_couple (C : lwC p s m c bq L xs T D) {i : Nat} (hi : i + 4 ≤ L) (kk : lwB p l e s m below meth c Q bq T D z a q b1 b2 b3 h y r 702 i) : lwB p l e s m below meth c Q bq T D z a q b1 b2 b3 h y r 272 i := by
  obtain ⟨hx, hb, hml, hown, hts, hsx, hbl, hK, hXS, hL⟩ := C
  have hX := hXS.1
  have hA : ∀ q9 : Nat, s.heap.size ≤ q9 → (fun q9 : Nat => s.heap.size ≤ q9) q9 := fun _ h9 => h9
  have hbA : ¬ (fun q9 : Nat => s.heap.size ≤ q9) bq := Nat.not_le.mpr hbl
  intro d k0 k1 k2 k3 n σ g gb gs V G w K9 A9 W9 tx len v ia ea ik ek ib eb H locs ls hi9 hP hD hS hl
  refine lv_aload_n hx hb dL_law_272 rfl (lv_at hl 2 rfl) ?_
  refine lv_aload_n hx hb dL_law_273 rfl (lv_at hl 1 rfl) ?_
  refine lv_iload_n hx hb dL_law_274 rfl (lv_at hl 0 rfl) ?_
  refine lv_iconst (v := nI 1) hx hb dL_law_275 (by decide) ?_
  refine lv_iadd hx hb dL_law_276 ?_
  refine lv_tpi (nI_add i 1) ?_
  refine va_sld hx hb hsx hbl hbA hS (vp_in_nI (by omega) (by omega)) dL_law_277 ?_
  refine lv_tpi (congrArg xs (nI_clamp (by omega))) ?_
  refine lv_aload_n hx hb dL_law_278 rfl (lv_at hl 1 rfl) ?_
  refine lv_iload_n hx hb dL_law_279 rfl (lv_at hl 0 rfl) ?_
  refine lv_iconst (v := nI 2) hx hb dL_law_280 (by decide) ?_
  refine lv_iadd hx hb dL_law_281 ?_
  refine lv_tpi (nI_add i 2) ?_
  refine va_sld hx hb hsx hbl hbA hS (vp_in_nI (by omega) (by omega)) dL_law_282 ?_
  refine lv_tpi (congrArg xs (nI_clamp (by omega))) ?_
  have hP := bP (bs := [moW T r v (mS g.1 g.2.1) (mE g.2.2) ia ea ik ek ib eb tx, obW z b1 b2 b3 h a y k0 k1 k2 k3, sgW T b1 g, hiW T h d n σ, sgW T b2 gb, sgW T b3 gs, plW T a q V G, siA T y w tx len, siB T y K9 A9 W9]) (bs' := [obW z b1 b2 b3 h a y k0 k1 k2 k3, sgW T b1 g, hiW T h d n σ, sgW T b2 gb, moW T r v (mS g.1 g.2.1) (mE g.2.2) ia ea ik ek ib eb tx, sgW T b3 gs, plW T a q V G, siA T y w tx len, siB T y K9 A9 W9]) hP [1, 2, 3, 4, 0, 5, 6, 7, 8] rfl rfl
  have hD := bD (bs := [moW T r v (mS g.1 g.2.1) (mE g.2.2) ia ea ik ek ib eb tx, obW z b1 b2 b3 h a y k0 k1 k2 k3, sgW T b1 g, hiW T h d n σ, sgW T b2 gb, sgW T b3 gs, plW T a q V G, siA T y w tx len, siB T y K9 A9 W9]) (bs' := [obW z b1 b2 b3 h a y k0 k1 k2 k3, sgW T b1 g, hiW T h d n σ, sgW T b2 gb, moW T r v (mS g.1 g.2.1) (mE g.2.2) ia ea ik ek ib eb tx, sgW T b3 gs, plW T a q V G, siA T y w tx len, siB T y K9 A9 W9]) hD [1, 2, 3, 4, 0, 5, 6, 7, 8] rfl rfl
  have hP := fP4.mp hP
  have hD := fD4.mp hD
  refine callMi (As := [.int (xs (i + 1)), .int (xs (i + 2))]) (wr := fl [moW T r v (mS g.1 g.2.1) (mE g.2.2) ia ea ik ek ib eb tx, sgW T b3 gs, plW T a q V G, siA T y w tx len, siB T y K9 A9 W9]) ⟨hx, hb, hml, hown, hts⟩ (mX5_couple l T D z b1 b2 (b3 0) a (y 0) k0 k1 k2 k3 h d n σ g gb (li_n hi9) (li_g hi9).1 (xs (i + 1)) (xs (i + 2))) (cwV 2 hts gL_law_X5_couple rfl rfl rfl pdX5_couple ⟨Nat.le_of_ble_eq_true rfl, Nat.le_of_ble_eq_true rfl⟩) hP hD hK hS hA xN_bl (fun U _ hW => XN_warm hW hX) (ci := 5) rfl rfl rfl hl.1 rfl rfl (Nat.le_of_ble_eq_true rfl) dL_law_283 ⟨Nat.le_of_ble_eq_true rfl, Nat.le_of_ble_eq_true rfl⟩ (fun r1_ u2_ H locs eu2_ hP hD hS hkf => ?_)
  obtain ⟨g1, q1⟩ := u2_
  obtain ⟨er1, eq1⟩ := eu2_
  have eg1 : g1 = (oCouple (xs (i + 1)) (xs (i + 2)) g).2 := congrArg Prod.fst eq1
  have eq1 : q1 = if 0 ≤ (oCouple (xs (i + 1)) (xs (i + 2)) g).1 then (hiD n d, rcN n, hiS n σ g) else (d, n, σ) := congrArg Prod.snd eq1
  have hP : va_P D vwCl (fl [obW z b1 b2 b3 h a y k0 k1 k2 k3, sgW T b1 g1, hiW T h q1.1 q1.2.1 q1.2.2, sgW T b2 g, moW T r v (mS g.1 g.2.1) (mE g.2.2) ia ea ik ek ib eb tx, sgW T b3 gs, plW T a q V G, siA T y w tx len, siB T y K9 A9 W9]) H := fP4.mpr hP
  have hD : va_D (fun q9 : Nat => s.heap.size ≤ q9) (fl [obW z b1 b2 b3 h a y k0 k1 k2 k3, sgW T b1 g1, hiW T h q1.1 q1.2.1 q1.2.2, sgW T b2 g, moW T r v (mS g.1 g.2.1) (mE g.2.2) ia ea ik ek ib eb tx, sgW T b3 gs, plW T a q V G, siA T y w tx len, siB T y K9 A9 W9]) := fD4.mpr hD
  have hP := bP (bs := [obW z b1 b2 b3 h a y k0 k1 k2 k3, sgW T b1 g1, hiW T h q1.1 q1.2.1 q1.2.2, sgW T b2 g, moW T r v (mS g.1 g.2.1) (mE g.2.2) ia ea ik ek ib eb tx, sgW T b3 gs, plW T a q V G, siA T y w tx len, siB T y K9 A9 W9]) (bs' := [moW T r v (mS g.1 g.2.1) (mE g.2.2) ia ea ik ek ib eb tx, obW z b1 b2 b3 h a y k0 k1 k2 k3, sgW T b1 g1, hiW T h q1.1 q1.2.1 q1.2.2, sgW T b2 g, sgW T b3 gs, plW T a q V G, siA T y w tx len, siB T y K9 A9 W9]) hP [4, 0, 1, 2, 3, 5, 6, 7, 8] rfl rfl
  have hD := bD (bs := [obW z b1 b2 b3 h a y k0 k1 k2 k3, sgW T b1 g1, hiW T h q1.1 q1.2.1 q1.2.2, sgW T b2 g, moW T r v (mS g.1 g.2.1) (mE g.2.2) ia ea ik ek ib eb tx, sgW T b3 gs, plW T a q V G, siA T y w tx len, siB T y K9 A9 W9]) (bs' := [moW T r v (mS g.1 g.2.1) (mE g.2.2) ia ea ik ek ib eb tx, obW z b1 b2 b3 h a y k0 k1 k2 k3, sgW T b1 g1, hiW T h q1.1 q1.2.1 q1.2.2, sgW T b2 g, sgW T b3 gs, plW T a q V G, siA T y w tx len, siB T y K9 A9 W9]) hD [4, 0, 1, 2, 3, 5, 6, 7, 8] rfl rfl
  refine lv_aload_n hx hb dL_law_286 rfl (lv_at hl 3 rfl) ?_
  refine lv_aload_n hx hb dL_law_287 rfl (lv_at hl 1 rfl) ?_
  refine lv_iload_n hx hb dL_law_288 rfl (lv_at hl 0 rfl) ?_
  refine lv_iconst (v := nI 1) hx hb dL_law_289 (by decide) ?_
  refine lv_iadd hx hb dL_law_290 ?_
  refine lv_tpi (nI_add i 1) ?_
  refine va_sld hx hb hsx hbl hbA hS (vp_in_nI (by omega) (by omega)) dL_law_291 ?_
  refine lv_tpi (congrArg xs (nI_clamp (by omega))) ?_
  refine lv_aload_n hx hb dL_law_292 rfl (lv_at hl 1 rfl) ?_
  refine lv_iload_n hx hb dL_law_293 rfl (lv_at hl 0 rfl) ?_
  refine lv_iconst (v := nI 2) hx hb dL_law_294 (by decide) ?_
  refine lv_iadd hx hb dL_law_295 ?_
  refine lv_tpi (nI_add i 2) ?_
  refine va_sld hx hb hsx hbl hbA hS (vp_in_nI (by omega) (by omega)) dL_law_296 ?_
  refine lv_tpi (congrArg xs (nI_clamp (by omega))) ?_
  have hP := fP1.mp hP
  have hD := fD1.mp hD
  refine callMi (As := [.int (xs (i + 1)), .int (xs (i + 2))]) (wr := fl [obW z b1 b2 b3 h a y k0 k1 k2 k3, sgW T b1 g1, hiW T h q1.1 q1.2.1 q1.2.2, sgW T b2 g, sgW T b3 gs, plW T a q V G, siA T y w tx len, siB T y K9 A9 W9]) ⟨hx, hb, hml, hown, hts⟩ (mX6_couple l T D r v g (li_g hi9).1 ia ea ik ek ib eb tx n (li_n hi9) (li_v1 hi9) (xs (i + 1)) (xs (i + 2))) (cwV 2 hts gL_law_X6_couple rfl rfl rfl pdX6_couple ⟨Nat.le_of_ble_eq_true rfl, Nat.le_of_ble_eq_true rfl⟩) hP hD hK hS hA xN_bl (fun U _ hW => XN_warm hW hX) (ci := 6) rfl rfl rfl hl.1 rfl rfl (Nat.le_of_ble_eq_true rfl) dL_law_297 ⟨Nat.le_of_ble_eq_true rfl, Nat.le_of_ble_eq_true rfl⟩ (fun r3_ u4_ H locs eu4_ hP hD hS hkf => ?_)
  have hP : va_P D vwCl (fl [moW T r u4_.1 u4_.2.1 u4_.2.2.1 u4_.2.2.2.1 u4_.2.2.2.2.1 u4_.2.2.2.2.2.1 u4_.2.2.2.2.2.2.1 u4_.2.2.2.2.2.2.2.1 u4_.2.2.2.2.2.2.2.2.1 u4_.2.2.2.2.2.2.2.2.2, obW z b1 b2 b3 h a y k0 k1 k2 k3, sgW T b1 g1, hiW T h q1.1 q1.2.1 q1.2.2, sgW T b2 g, sgW T b3 gs, plW T a q V G, siA T y w tx len, siB T y K9 A9 W9]) H := fP1.mpr hP
  have hD : va_D (fun q9 : Nat => s.heap.size ≤ q9) (fl [moW T r u4_.1 u4_.2.1 u4_.2.2.1 u4_.2.2.2.1 u4_.2.2.2.2.1 u4_.2.2.2.2.2.1 u4_.2.2.2.2.2.2.1 u4_.2.2.2.2.2.2.2.1 u4_.2.2.2.2.2.2.2.2.1 u4_.2.2.2.2.2.2.2.2.2, obW z b1 b2 b3 h a y k0 k1 k2 k3, sgW T b1 g1, hiW T h q1.1 q1.2.1 q1.2.2, sgW T b2 g, sgW T b3 gs, plW T a q V G, siA T y w tx len, siB T y K9 A9 W9]) := fD1.mpr hD
  obtain ⟨er2, hm⟩ := eu4_
  obtain ⟨v1, ia1, ea1, ib1, eb1, eu2, hi8⟩ := act_go hi9 (gW_couple (li_g hi9) (xs (i + 1)) (xs (i + 2))) hm eq1
  have hP8 := hP
  have hD8 := hD
  subst eu2 eg1
  have hP := hP8
  have hD := hD8
  have hP : va_P D vwCl (fl [moW T r v1 (mS (oCouple (xs (i + 1)) (xs (i + 2)) g).2.1 (oCouple (xs (i + 1)) (xs (i + 2)) g).2.2.1) (mE (oCouple (xs (i + 1)) (xs (i + 2)) g).2.2.2) ia1 ea1 ik ek ib1 eb1 tx, obW z b1 b2 b3 h a y k0 k1 k2 k3, sgW T b1 ((oCouple (xs (i + 1)) (xs (i + 2)) g).2), hiW T h q1.1 q1.2.1 q1.2.2, sgW T b2 g, sgW T b3 gs, plW T a q V G, siA T y w tx len, siB T y K9 A9 W9]) H := hP
  have hD : va_D (fun q9 : Nat => s.heap.size ≤ q9) (fl [moW T r v1 (mS (oCouple (xs (i + 1)) (xs (i + 2)) g).2.1 (oCouple (xs (i + 1)) (xs (i + 2)) g).2.2.1) (mE (oCouple (xs (i + 1)) (xs (i + 2)) g).2.2.2) ia1 ea1 ik ek ib1 eb1 tx, obW z b1 b2 b3 h a y k0 k1 k2 k3, sgW T b1 ((oCouple (xs (i + 1)) (xs (i + 2)) g).2), hiW T h q1.1 q1.2.1 q1.2.2, sgW T b2 g, sgW T b3 gs, plW T a q V G, siA T y w tx len, siB T y K9 A9 W9]) := hD
  refine lv_icmp_eq (tgt := 702) hx hb dL_law_300 (by decide) (fun _ => ?_) (fun c9 => absurd (er1.trans er2.symm) c9)
  exact kk q1.1 k0 k1 k2 k3 q1.2.1 q1.2.2 ((oCouple (xs (i + 1)) (xs (i + 2)) g).2) g gs V G w K9 A9 W9 tx len v1 ia1 ea1 ik ek ib1 eb1 H _ ls hi8 hP hD hS (lv_sub hl [0, 1, 2, 3] rfl)
set_option maxHeartbeats 4000000 in
set_option maxRecDepth 100000 in
theorem lc_pass (C : lwC p s m c bq L xs T D) {i : Nat} (hi : i + 4 ≤ L) (kk : lwB p l e s m below meth c Q bq T D z a q b1 b2 b3 h y r 702 i) : lwB p l e s m below meth c Q bq T D z a q b1 b2 b3 h y r 305 i := by
  obtain ⟨hx, hb, hml, hown, hts, hsx, hbl, hK, hXS, hL⟩ := C
  have hX := hXS.1
  have hA : ∀ q9 : Nat, s.heap.size ≤ q9 → (fun q9 : Nat => s.heap.size ≤ q9) q9 := fun _ h9 => h9
  have hbA : ¬ (fun q9 : Nat => s.heap.size ≤ q9) bq := Nat.not_le.mpr hbl
  intro d k0 k1 k2 k3 n σ g gb gs V G w K9 A9 W9 tx len v ia ea ik ek ib eb H locs ls hi9 hP hD hS hl
  refine lv_aload_n hx hb dL_law_305 rfl (lv_at hl 2 rfl) ?_
  refine lv_aload_n hx hb dL_law_306 rfl (lv_at hl 1 rfl) ?_
  refine lv_iload_n hx hb dL_law_307 rfl (lv_at hl 0 rfl) ?_
  refine lv_iconst (v := nI 1) hx hb dL_law_308 (by decide) ?_
  refine lv_iadd hx hb dL_law_309 ?_
  refine lv_tpi (nI_add i 1) ?_
  refine va_sld hx hb hsx hbl hbA hS (vp_in_nI (by omega) (by omega)) dL_law_310 ?_
  refine lv_tpi (congrArg xs (nI_clamp (by omega))) ?_
  have hP := bP (bs := [moW T r v (mS g.1 g.2.1) (mE g.2.2) ia ea ik ek ib eb tx, obW z b1 b2 b3 h a y k0 k1 k2 k3, sgW T b1 g, hiW T h d n σ, sgW T b2 gb, sgW T b3 gs, plW T a q V G, siA T y w tx len, siB T y K9 A9 W9]) (bs' := [obW z b1 b2 b3 h a y k0 k1 k2 k3, sgW T b1 g, hiW T h d n σ, sgW T b2 gb, moW T r v (mS g.1 g.2.1) (mE g.2.2) ia ea ik ek ib eb tx, sgW T b3 gs, plW T a q V G, siA T y w tx len, siB T y K9 A9 W9]) hP [1, 2, 3, 4, 0, 5, 6, 7, 8] rfl rfl
  have hD := bD (bs := [moW T r v (mS g.1 g.2.1) (mE g.2.2) ia ea ik ek ib eb tx, obW z b1 b2 b3 h a y k0 k1 k2 k3, sgW T b1 g, hiW T h d n σ, sgW T b2 gb, sgW T b3 gs, plW T a q V G, siA T y w tx len, siB T y K9 A9 W9]) (bs' := [obW z b1 b2 b3 h a y k0 k1 k2 k3, sgW T b1 g, hiW T h d n σ, sgW T b2 gb, moW T r v (mS g.1 g.2.1) (mE g.2.2) ia ea ik ek ib eb tx, sgW T b3 gs, plW T a q V G, siA T y w tx len, siB T y K9 A9 W9]) hD [1, 2, 3, 4, 0, 5, 6, 7, 8] rfl rfl
  have hP := fP4.mp hP
  have hD := fD4.mp hD
  refine callMi (As := [.int (xs (i + 1))]) (wr := fl [moW T r v (mS g.1 g.2.1) (mE g.2.2) ia ea ik ek ib eb tx, sgW T b3 gs, plW T a q V G, siA T y w tx len, siB T y K9 A9 W9]) ⟨hx, hb, hml, hown, hts⟩ (mX5_pass l T D z b1 b2 (b3 0) a (y 0) k0 k1 k2 k3 h d n σ g gb (li_n hi9) (li_g hi9).1 (xs (i + 1))) (cwV 1 hts gL_law_X5_pass rfl rfl rfl pdX5_pass ⟨Nat.le_of_ble_eq_true rfl, Nat.le_of_ble_eq_true rfl⟩) hP hD hK hS hA xN_bl (fun U _ hW => XN_warm hW hX) (ci := 5) rfl rfl rfl hl.1 rfl rfl (Nat.le_of_ble_eq_true rfl) dL_law_311 ⟨Nat.le_of_ble_eq_true rfl, Nat.le_of_ble_eq_true rfl⟩ (fun r1_ u2_ H locs eu2_ hP hD hS hkf => ?_)
  obtain ⟨g1, q1⟩ := u2_
  obtain ⟨er1, eq1⟩ := eu2_
  have eg1 : g1 = (oPs (xs (i + 1)) g).2 := congrArg Prod.fst eq1
  have eq1 : q1 = if 0 ≤ (oPs (xs (i + 1)) g).1 then (hiD n d, rcN n, hiS n σ g) else (d, n, σ) := congrArg Prod.snd eq1
  have hP : va_P D vwCl (fl [obW z b1 b2 b3 h a y k0 k1 k2 k3, sgW T b1 g1, hiW T h q1.1 q1.2.1 q1.2.2, sgW T b2 g, moW T r v (mS g.1 g.2.1) (mE g.2.2) ia ea ik ek ib eb tx, sgW T b3 gs, plW T a q V G, siA T y w tx len, siB T y K9 A9 W9]) H := fP4.mpr hP
  have hD : va_D (fun q9 : Nat => s.heap.size ≤ q9) (fl [obW z b1 b2 b3 h a y k0 k1 k2 k3, sgW T b1 g1, hiW T h q1.1 q1.2.1 q1.2.2, sgW T b2 g, moW T r v (mS g.1 g.2.1) (mE g.2.2) ia ea ik ek ib eb tx, sgW T b3 gs, plW T a q V G, siA T y w tx len, siB T y K9 A9 W9]) := fD4.mpr hD
  have hP := bP (bs := [obW z b1 b2 b3 h a y k0 k1 k2 k3, sgW T b1 g1, hiW T h q1.1 q1.2.1 q1.2.2, sgW T b2 g, moW T r v (mS g.1 g.2.1) (mE g.2.2) ia ea ik ek ib eb tx, sgW T b3 gs, plW T a q V G, siA T y w tx len, siB T y K9 A9 W9]) (bs' := [moW T r v (mS g.1 g.2.1) (mE g.2.2) ia ea ik ek ib eb tx, obW z b1 b2 b3 h a y k0 k1 k2 k3, sgW T b1 g1, hiW T h q1.1 q1.2.1 q1.2.2, sgW T b2 g, sgW T b3 gs, plW T a q V G, siA T y w tx len, siB T y K9 A9 W9]) hP [4, 0, 1, 2, 3, 5, 6, 7, 8] rfl rfl
  have hD := bD (bs := [obW z b1 b2 b3 h a y k0 k1 k2 k3, sgW T b1 g1, hiW T h q1.1 q1.2.1 q1.2.2, sgW T b2 g, moW T r v (mS g.1 g.2.1) (mE g.2.2) ia ea ik ek ib eb tx, sgW T b3 gs, plW T a q V G, siA T y w tx len, siB T y K9 A9 W9]) (bs' := [moW T r v (mS g.1 g.2.1) (mE g.2.2) ia ea ik ek ib eb tx, obW z b1 b2 b3 h a y k0 k1 k2 k3, sgW T b1 g1, hiW T h q1.1 q1.2.1 q1.2.2, sgW T b2 g, sgW T b3 gs, plW T a q V G, siA T y w tx len, siB T y K9 A9 W9]) hD [4, 0, 1, 2, 3, 5, 6, 7, 8] rfl rfl
  refine lv_aload_n hx hb dL_law_314 rfl (lv_at hl 3 rfl) ?_
  refine lv_aload_n hx hb dL_law_315 rfl (lv_at hl 1 rfl) ?_
  refine lv_iload_n hx hb dL_law_316 rfl (lv_at hl 0 rfl) ?_
  refine lv_iconst (v := nI 1) hx hb dL_law_317 (by decide) ?_
  refine lv_iadd hx hb dL_law_318 ?_
  refine lv_tpi (nI_add i 1) ?_
  refine va_sld hx hb hsx hbl hbA hS (vp_in_nI (by omega) (by omega)) dL_law_319 ?_
  refine lv_tpi (congrArg xs (nI_clamp (by omega))) ?_
  have hP := fP1.mp hP
  have hD := fD1.mp hD
  refine callMi (As := [.int (xs (i + 1))]) (wr := fl [obW z b1 b2 b3 h a y k0 k1 k2 k3, sgW T b1 g1, hiW T h q1.1 q1.2.1 q1.2.2, sgW T b2 g, sgW T b3 gs, plW T a q V G, siA T y w tx len, siB T y K9 A9 W9]) ⟨hx, hb, hml, hown, hts⟩ (mX6_pass l T D r v g (li_g hi9).1 ia ea ik ek ib eb tx n (li_n hi9) (li_v1 hi9) (xs (i + 1))) (cwV 1 hts gL_law_X6_pass rfl rfl rfl pdX6_pass ⟨Nat.le_of_ble_eq_true rfl, Nat.le_of_ble_eq_true rfl⟩) hP hD hK hS hA xN_bl (fun U _ hW => XN_warm hW hX) (ci := 6) rfl rfl rfl hl.1 rfl rfl (Nat.le_of_ble_eq_true rfl) dL_law_320 ⟨Nat.le_of_ble_eq_true rfl, Nat.le_of_ble_eq_true rfl⟩ (fun r3_ u4_ H locs eu4_ hP hD hS hkf => ?_)
  have hP : va_P D vwCl (fl [moW T r u4_.1 u4_.2.1 u4_.2.2.1 u4_.2.2.2.1 u4_.2.2.2.2.1 u4_.2.2.2.2.2.1 u4_.2.2.2.2.2.2.1 u4_.2.2.2.2.2.2.2.1 u4_.2.2.2.2.2.2.2.2.1 u4_.2.2.2.2.2.2.2.2.2, obW z b1 b2 b3 h a y k0 k1 k2 k3, sgW T b1 g1, hiW T h q1.1 q1.2.1 q1.2.2, sgW T b2 g, sgW T b3 gs, plW T a q V G, siA T y w tx len, siB T y K9 A9 W9]) H := fP1.mpr hP
  have hD : va_D (fun q9 : Nat => s.heap.size ≤ q9) (fl [moW T r u4_.1 u4_.2.1 u4_.2.2.1 u4_.2.2.2.1 u4_.2.2.2.2.1 u4_.2.2.2.2.2.1 u4_.2.2.2.2.2.2.1 u4_.2.2.2.2.2.2.2.1 u4_.2.2.2.2.2.2.2.2.1 u4_.2.2.2.2.2.2.2.2.2, obW z b1 b2 b3 h a y k0 k1 k2 k3, sgW T b1 g1, hiW T h q1.1 q1.2.1 q1.2.2, sgW T b2 g, sgW T b3 gs, plW T a q V G, siA T y w tx len, siB T y K9 A9 W9]) := fD1.mpr hD
  obtain ⟨er2, hm⟩ := eu4_
  obtain ⟨v1, ia1, ea1, ib1, eb1, eu2, hi8⟩ := act_go hi9 (gW_pass (li_g hi9) (xs (i + 1))) hm eq1
  have hP8 := hP
  have hD8 := hD
  subst eu2 eg1
  have hP := hP8
  have hD := hD8
  have hP : va_P D vwCl (fl [moW T r v1 (mS (oPs (xs (i + 1)) g).2.1 (oPs (xs (i + 1)) g).2.2.1) (mE (oPs (xs (i + 1)) g).2.2.2) ia1 ea1 ik ek ib1 eb1 tx, obW z b1 b2 b3 h a y k0 k1 k2 k3, sgW T b1 ((oPs (xs (i + 1)) g).2), hiW T h q1.1 q1.2.1 q1.2.2, sgW T b2 g, sgW T b3 gs, plW T a q V G, siA T y w tx len, siB T y K9 A9 W9]) H := hP
  have hD : va_D (fun q9 : Nat => s.heap.size ≤ q9) (fl [moW T r v1 (mS (oPs (xs (i + 1)) g).2.1 (oPs (xs (i + 1)) g).2.2.1) (mE (oPs (xs (i + 1)) g).2.2.2) ia1 ea1 ik ek ib1 eb1 tx, obW z b1 b2 b3 h a y k0 k1 k2 k3, sgW T b1 ((oPs (xs (i + 1)) g).2), hiW T h q1.1 q1.2.1 q1.2.2, sgW T b2 g, sgW T b3 gs, plW T a q V G, siA T y w tx len, siB T y K9 A9 W9]) := hD
  refine lv_icmp_eq (tgt := 702) hx hb dL_law_323 (by decide) (fun _ => ?_) (fun c9 => absurd (er1.trans er2.symm) c9)
  exact kk q1.1 k0 k1 k2 k3 q1.2.1 q1.2.2 ((oPs (xs (i + 1)) g).2) g gs V G w K9 A9 W9 tx len v1 ia1 ea1 ik ek ib1 eb1 H _ ls hi8 hP hD hS (lv_sub hl [0, 1, 2, 3] rfl)
end LAW
