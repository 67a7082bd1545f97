def rmL_moves : Room := { frames := 6, cells := 0, slots := 0, locals := 167 }
set_option maxHeartbeats 4000000 in
set_option maxRecDepth 100000 in
theorem mL_moves (l : Launch) (T : Nat → ClassId) (D : va_G) (z : Nat) (b1 b2 b3 h : Nat → Nat) (a q : Nat) (y : Nat → Nat) (d : Nat → Nat → Nat) (n : Nat) (σ : Nat → SG) (g gb : SG) (V : Nat → Int32) (G : Nat → Int64) (c0 : Nat) (hj : jOk c0 g) (hn : n ≤ 4) (p : Nat) (hp : p < 4) (v : Nat) (hv : v ≤ 30) : MuI l yL_moves wsL_moves rmL_moves T xN D [.ref z, .int (nI p), .int (nI v)] (oW T z b1 b2 b3 h a q y d n σ g gb V G) (S := OSt) (fun r u => bz r (mvIn (g.2.1 p) (nI v) (g.2.1 p 6)) ∧ u.2.1.1 = g ∧ u.1.2.1 ≤ 4) (fun u => oU T z b1 b2 b3 h a q y u) 0 0 := by
  refine met_mz (cc := cL_moves) (maxL := 5) (by decide) rfl (Nat.le_of_ble_eq_true rfl) (fun r u h => bz_01 h.1) ?_
  intro p_ e s m args below meth c ls A Q hx hb hts hown hml hX hP hD hK hS hA hl hret
  have hl : lv_has ls 5 [(0, .ref z), (1, .int (nI p)), (2, .int (nI v))] := hl
  obtain ⟨H, hH⟩ : ∃ H, H = s.heap := ⟨_, rfl⟩
  have hS : va_S A s.heap H [] := by rw [hH]; exact hS
  obtain ⟨locs, hlc⟩ : ∃ x9 : List Loc, x9 = [] := ⟨_, rfl⟩
  rw [← hlc] at hS ⊢
  rw [← hH] at hP ⊢
  refine lv_aload_n hx hb dL_moves_0 rfl (lv_at hl 0 rfl) ?_
  refine lv_iload_n hx hb dL_moves_1 rfl (lv_at hl 1 rfl) ?_
  refine lv_iload_n hx hb dL_moves_2 rfl (lv_at hl 2 rfl) ?_
  have hP := fP4.mp hP
  have hD := fD4.mp hD
  refine callMi (As := [.int (nI p), .int (nI v)]) (wr := fl [sgW T b3 sg0, plW T a q V G, siZ T y]) ⟨hx, hb, hml, hown, hts⟩ (mX5_turnOn l T D z b1 b2 (b3 0) a (y 0) 0 0 0 0 h d n σ g gb hn hj.1 (nI p) (nI v)) (cwV 2 hts gL_moves_X5_turnOn rfl rfl rfl pdX5_turnOn ⟨Nat.le_of_ble_eq_true rfl, Nat.le_of_ble_eq_true rfl⟩) hP hD hK hS hA xN_bl (fun U _ hW => XN_warm hW hX) (ci := 5) rfl rfl rfl hl.1 rfl rfl (Nat.le_of_ble_eq_true rfl) dL_moves_3 ⟨Nat.zero_le _, Nat.zero_le _⟩ (fun r1_ u2_ H locs eu2_ hP hD hS hkf => ?_)
  obtain ⟨g2, q2⟩ := u2_
  obtain ⟨er2, eq2⟩ := eu2_
  have eg2 : g2 = (oTurnOn (nI p) (nI v) g).2 := congrArg Prod.fst eq2
  have eq2 : q2 = if 0 ≤ (oTurnOn (nI p) (nI v) g).1 then (hiD n d, rcN n, hiS n σ g) else (d, n, σ) := congrArg Prod.snd eq2
  have hP : va_P D vwCl (oW T z b1 b2 b3 h a q y q2.1 q2.2.1 q2.2.2 g2 g V G) H := fP4.mpr hP
  have hD : va_D A (oW T z b1 b2 b3 h a q y q2.1 q2.2.1 q2.2.2 g2 g V G) := fD4.mpr hD
  have hn2 : q2.2.1 ≤ 4 := qn_le hn eq2
  have hL := tn_L (g := g) hp hv
  have hj1 : jOk c0 g2 := by rw [eg2]; exact (aOk_turnOn hj _ _).2
  rw [← eg2] at hL
  refine lv_istore_n (lv' := [(3, .int r1_), (0, .ref z), (1, .int (nI p)), (2, .int (nI v))]) hx hb dL_moves_6 rfl hl (by decide) rfl (fun ls hl => ?_)
  refine lv_aload_n hx hb dL_moves_7 rfl (lv_at hl 1 rfl) ?_
  refine lv_iload_n hx hb dL_moves_8 rfl (lv_at hl 2 rfl) ?_
  refine callRi (As := [.int (nI p)]) ⟨hx, hb, hml, hown, hts⟩ (mX5_reason l T D z (b2 0) (b3 0) (h 0) a (y 0) 0 0 0 0 b1 g2.1 g2.2.1 g2.2.2 hj1.1 (nI p)) (cwV 1 hts gL_moves_X5_reason rfl rfl rfl pdX5_reason ⟨Nat.le_of_ble_eq_true rfl, Nat.le_of_ble_eq_true rfl⟩) (oW_rd hP) hK xN_bl (fun U _ hW => XN_warm hW hX) (ci := 5) rfl rfl rfl hl.1 rfl rfl (Nat.le_of_ble_eq_true rfl) dL_moves_9 ⟨Nat.zero_le _, Nat.zero_le _⟩ (fun r4_ er4_ => ?_)
  obtain rfl : r4_ = kWhy (g2.2.1 p) := er4_.trans (sP_t hp)
  refine lv_if_ne (tgt := 19) hx hb dL_moves_12 (by decide) (fun c12 => ?_) (fun c12 => ?_)
  · skip
    refine lv_iconst (v := 0) hx hb dL_moves_19 (by decide) ?_
    refine lv_istore (lv' := [(4, .int 0), (3, .int r1_), (0, .ref z), (1, .int (nI p)), (2, .int (nI v))]) hx hb dL_moves_20 hl (by decide) rfl (fun ls hl => ?_)
    refine lv_iload_n hx hb dL_moves_22 rfl (lv_at hl 1 rfl) ?_
    refine lv_bipush (v := (-5)) hx hb dL_moves_23 (by decide) ?_
    have hbz : bz 0 (mvIn (g.2.1 p) (nI v) (g.2.1 p 6)) := Or.inl ⟨rfl, fun z => c12 ((onL_why hL).mpr z)⟩
    refine lv_icmp_eq (tgt := 35) hx hb dL_moves_25 (by decide) (fun c25 => ?_) (fun c25 => ?_)
    · skip
      rw [if_neg (by rw [← er2, c25]; decide)] at eq2
      subst eq2
      rw [tn_no hj.1 hp hv (er2.symm.trans c25)] at eg2
      have eg2 := eg2.symm
      subst eg2
      have hP : va_P D vwCl (oW T z b1 b2 b3 h a q y d n σ g g V G) H := hP
      have hD : va_D A (oW T z b1 b2 b3 h a q y d n σ g g V G) := hD
      refine lv_iload hx hb dL_moves_35 (lv_at hl 0 rfl) ?_
      refine lv_if_eq (tgt := 44) hx hb dL_moves_37 (by decide) (fun c37 => ?_) (fun c37 => ?_)
      · skip
        refine lv_iconst (v := 0) hx hb dL_moves_44 (by decide) ?_
        exact hret _ _ _ ((d, n, σ), (g, g), V, G) _ _ dL_moves_45 hS hP hD (⟨hbz, rfl, hn⟩)
      · skip
        exact absurd c37 (by decide)
    · skip
      have h0 : 0 ≤ (oTurnOn (nI p) (nI v) g).1 := tn_yes hj.1 hp hv (fun z => c25 (er2.trans z))
      rw [if_pos h0] at eq2
      subst eq2
      have hP : va_P D vwCl (oW T z b1 b2 b3 h a q y (hiD n d) (rcN n) (hiS n σ g) g2 g V G) H := hP
      have hD : va_D A (oW T z b1 b2 b3 h a q y (hiD n d) (rcN n) (hiS n σ g) g2 g V G) := hD
      have hn2 : rcN n ≤ 4 := hn2
      refine lv_aload_n hx hb dL_moves_28 rfl (lv_at hl 2 rfl) ?_
      have hP := fP3.mp hP
      have hD := fD3.mp hD
      refine callMi (As := []) (wr := fl [sgW T b2 g, sgW T b3 sg0, plW T a q V G, siZ T y]) ⟨hx, hb, hml, hown, hts⟩ (mX5_undo l T D z b1 (b2 0) (b3 0) a (y 0) 0 0 0 0 h (hiD n d) (rcN n) (hiS n σ g) g2 hn2 (fun _ => by rw [hi_top]; exact hj.1)) (cwV 0 hts gL_moves_X5_undo rfl rfl rfl pdX5_undo ⟨Nat.le_of_ble_eq_true rfl, Nat.le_of_ble_eq_true rfl⟩) hP hD hK hS hA xN_bl (fun U _ hW => XN_warm hW hX) (ci := 5) rfl rfl rfl hl.1 rfl rfl (Nat.le_of_ble_eq_true rfl) dL_moves_29 ⟨Nat.zero_le _, Nat.zero_le _⟩ (fun r5_ u6_ H locs eu6_ hP hD hS hkf => ?_)
      obtain ⟨eu1, eu2⟩ := un_is eu6_
      subst eu1
      subst eu2
      have hP : va_P D vwCl (oW T z b1 b2 b3 h a q y (hiD n d) (rcN n - 1) (hiS n σ g) g g V G) H := fP3.mpr hP
      have hD : va_D A (oW T z b1 b2 b3 h a q y (hiD n d) (rcN n - 1) (hiS n σ g) g g V G) := fD3.mpr hD
      have hn6 : rcN n - 1 ≤ 4 := Nat.le_trans (Nat.sub_le _ _) hn2
      refine lv_if_lt (tgt := 44) hx hb dL_moves_32 (by decide) (fun c32 => ?_) (fun c32 => ?_)
      · skip
        exact absurd c32 (nI_pos (by omega))
      · skip
        refine lv_iload hx hb dL_moves_35 (lv_at hl 0 rfl) ?_
        refine lv_if_eq (tgt := 44) hx hb dL_moves_37 (by decide) (fun c37 => ?_) (fun c37 => ?_)
        · skip
          refine lv_iconst (v := 0) hx hb dL_moves_44 (by decide) ?_
          exact hret _ _ _ (((hiD n d), (rcN n - 1), (hiS n σ g)), (g, g), V, G) _ _ dL_moves_45 hS hP hD (⟨hbz, rfl, hn6⟩)
        · skip
          exact absurd c37 (by decide)
  · skip
    refine lv_iconst (v := 1) hx hb dL_moves_15 (by decide) ?_
    refine lv_goto (tgt := 20) hx hb dL_moves_16 (by decide) ?_
    refine lv_istore (lv' := [(4, .int 1), (3, .int r1_), (0, .ref z), (1, .int (nI p)), (2, .int (nI v))]) hx hb dL_moves_20 hl (by decide) rfl (fun ls hl => ?_)
    refine lv_iload_n hx hb dL_moves_22 rfl (lv_at hl 1 rfl) ?_
    refine lv_bipush (v := (-5)) hx hb dL_moves_23 (by decide) ?_
    have hbz : bz 1 (mvIn (g.2.1 p) (nI v) (g.2.1 p 6)) := Or.inr ⟨rfl, (onL_why hL).mp c12⟩
    refine lv_icmp_eq (tgt := 35) hx hb dL_moves_25 (by decide) (fun c25 => ?_) (fun c25 => ?_)
    · skip
      rw [if_neg (by rw [← er2, c25]; decide)] at eq2
      subst eq2
      rw [tn_no hj.1 hp hv (er2.symm.trans c25)] at eg2
      have eg2 := eg2.symm
      subst eg2
      have hP : va_P D vwCl (oW T z b1 b2 b3 h a q y d n σ g g V G) H := hP
      have hD : va_D A (oW T z b1 b2 b3 h a q y d n σ g g V G) := hD
      refine lv_iload hx hb dL_moves_35 (lv_at hl 0 rfl) ?_
      refine lv_if_eq (tgt := 44) hx hb dL_moves_37 (by decide) (fun c37 => ?_) (fun c37 => ?_)
      · skip
        exact absurd c37 (by decide)
      · skip
        refine lv_iconst (v := 1) hx hb dL_moves_40 (by decide) ?_
        refine lv_goto (tgt := 45) hx hb dL_moves_41 (by decide) ?_
        exact hret _ _ _ ((d, n, σ), (g, g), V, G) _ _ dL_moves_45 hS hP hD (⟨hbz, rfl, hn⟩)
    · skip
      have h0 : 0 ≤ (oTurnOn (nI p) (nI v) g).1 := tn_yes hj.1 hp hv (fun z => c25 (er2.trans z))
      rw [if_pos h0] at eq2
      subst eq2
      have hP : va_P D vwCl (oW T z b1 b2 b3 h a q y (hiD n d) (rcN n) (hiS n σ g) g2 g V G) H := hP
      have hD : va_D A (oW T z b1 b2 b3 h a q y (hiD n d) (rcN n) (hiS n σ g) g2 g V G) := hD
      have hn2 : rcN n ≤ 4 := hn2
      refine lv_aload_n hx hb dL_moves_28 rfl (lv_at hl 2 rfl) ?_
      have hP := fP3.mp hP
      have hD := fD3.mp hD
      refine callMi (As := []) (wr := fl [sgW T b2 g, sgW T b3 sg0, plW T a q V G, siZ T y]) ⟨hx, hb, hml, hown, hts⟩ (mX5_undo l T D z b1 (b2 0) (b3 0) a (y 0) 0 0 0 0 h (hiD n d) (rcN n) (hiS n σ g) g2 hn2 (fun _ => by rw [hi_top]; exact hj.1)) (cwV 0 hts gL_moves_X5_undo rfl rfl rfl pdX5_undo ⟨Nat.le_of_ble_eq_true rfl, Nat.le_of_ble_eq_true rfl⟩) hP hD hK hS hA xN_bl (fun U _ hW => XN_warm hW hX) (ci := 5) rfl rfl rfl hl.1 rfl rfl (Nat.le_of_ble_eq_true rfl) dL_moves_29 ⟨Nat.zero_le _, Nat.zero_le _⟩ (fun r8_ u9_ H locs eu9_ hP hD hS hkf => ?_)
      obtain ⟨eu1, eu2⟩ := un_is eu9_
      subst eu1
      subst eu2
      have hP : va_P D vwCl (oW T z b1 b2 b3 h a q y (hiD n d) (rcN n - 1) (hiS n σ g) g g V G) H := fP3.mpr hP
      have hD : va_D A (oW T z b1 b2 b3 h a q y (hiD n d) (rcN n - 1) (hiS n σ g) g g V G) := fD3.mpr hD
      have hn9 : rcN n - 1 ≤ 4 := Nat.le_trans (Nat.sub_le _ _) hn2
      refine lv_if_lt (tgt := 44) hx hb dL_moves_32 (by decide) (fun c32 => ?_) (fun c32 => ?_)
      · skip
        exact absurd c32 (nI_pos (by omega))
      · skip
        refine lv_iload hx hb dL_moves_35 (lv_at hl 0 rfl) ?_
        refine lv_if_eq (tgt := 44) hx hb dL_moves_37 (by decide) (fun c37 => ?_) (fun c37 => ?_)
        · skip
          exact absurd c37 (by decide)
        · skip
          refine lv_iconst (v := 1) hx hb dL_moves_40 (by decide) ?_
          refine lv_goto (tgt := 45) hx hb dL_moves_41 (by decide) ?_
          exact hret _ _ _ (((hiD n d), (rcN n - 1), (hiS n σ g)), (g, g), V, G) _ _ dL_moves_45 hS hP hD (⟨hbz, rfl, hn9⟩)

