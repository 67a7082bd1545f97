def rmL_draws : Room := { frames := 6, cells := 0, slots := 0, locals := 167 }
set_option maxHeartbeats 4000000 in
set_option maxRecDepth 100000 in
theorem mL_draws (l : Launch) (T : Nat → ClassId) (D : va_G) (z : Nat) (b1 b2 b3 h : Nat → Nat) (a q : Nat) (y : Nat → Nat) (d : Nat → Nat → Nat) (n : Nat) (σ : Nat → SG) (g gb : SG) (V : Nat → Int32) (G : Nat → Int64) (c0 : Nat) (hj : jOk c0 g) (hn : n ≤ 4) (p : Nat) (hp : p < 4) (v : Nat) (hv : v ≤ 30) (d0 : Nat) (h40 : d0 < 40) (hd0 : g.2.1 p 6 = nI d0) : MuI l yL_draws wsL_draws rmL_draws T xN D [.ref z, .int (nI p), .int (nI v)] (oW T z b1 b2 b3 h a q y d n σ g gb V G) (S := OSt) (fun r u => bz r (kDr (g.2.1 p) (nI v) d0) ∧ u.2.1.1 = g ∧ u.1.2.1 ≤ 4) (fun u => oU T z b1 b2 b3 h a q y u) 0 0 := by
  refine met_mz (cc := cL_draws) (maxL := 6) (by decide) rfl (Nat.le_of_ble_eq_true rfl) (fun r u h => bz_01 h.1) ?_
  intro p_ e s m args below meth c ls A Q hx hb hts hown hml hX hP hD hK hS hA hl hret
  have hl : lv_has ls 6 [(0, .ref z), (1, .int (nI p)), (2, .int (nI v))] := hl
  obtain ⟨H, hH⟩ : ∃ H, H = s.heap := ⟨_, rfl⟩
  have hS : va_S A s.heap H [] := by rw [hH]; exact hS
  obtain ⟨locs, hlc⟩ : ∃ x9 : List Loc, x9 = [] := ⟨_, rfl⟩
  rw [← hlc] at hS ⊢
  rw [← hH] at hP ⊢
  refine lv_aload_n hx hb dL_draws_0 rfl (lv_at hl 0 rfl) ?_
  refine lv_iload_n hx hb dL_draws_1 rfl (lv_at hl 1 rfl) ?_
  refine lv_iload_n hx hb dL_draws_2 rfl (lv_at hl 2 rfl) ?_
  have hP := fP4.mp hP
  have hD := fD4.mp hD
  refine callMi (As := [.int (nI p), .int (nI v)]) (wr := fl [sgW T b3 sg0, plW T a q V G, siZ T y]) ⟨hx, hb, hml, hown, hts⟩ (mX5_turnOn l T D z b1 b2 (b3 0) a (y 0) 0 0 0 0 h d n σ g gb hn hj.1 (nI p) (nI v)) (cwV 2 hts gL_draws_X5_turnOn rfl rfl rfl pdX5_turnOn ⟨Nat.le_of_ble_eq_true rfl, Nat.le_of_ble_eq_true rfl⟩) hP hD hK hS hA xN_bl (fun U _ hW => XN_warm hW hX) (ci := 5) rfl rfl rfl hl.1 rfl rfl (Nat.le_of_ble_eq_true rfl) dL_draws_3 ⟨Nat.zero_le _, Nat.zero_le _⟩ (fun r1_ u2_ H locs eu2_ hP hD hS hkf => ?_)
  obtain ⟨g2, q2⟩ := u2_
  obtain ⟨er2, eq2⟩ := eu2_
  have eg2 : g2 = (oTurnOn (nI p) (nI v) g).2 := congrArg Prod.fst eq2
  have eq2 : q2 = if 0 ≤ (oTurnOn (nI p) (nI v) g).1 then (hiD n d, rcN n, hiS n σ g) else (d, n, σ) := congrArg Prod.snd eq2
  have hP : va_P D vwCl (oW T z b1 b2 b3 h a q y q2.1 q2.2.1 q2.2.2 g2 g V G) H := fP4.mpr hP
  have hD : va_D A (oW T z b1 b2 b3 h a q y q2.1 q2.2.1 q2.2.2 g2 g V G) := fD4.mpr hD
  have hn2 : q2.2.1 ≤ 4 := qn_le hn eq2
  have hL := tn_L (g := g) hp hv
  have hj1 : jOk c0 g2 := by rw [eg2]; exact (aOk_turnOn hj _ _).2
  rw [← eg2] at hL
  refine lv_istore_n (lv' := [(3, .int r1_), (0, .ref z), (1, .int (nI p)), (2, .int (nI v))]) hx hb dL_draws_6 rfl hl (by decide) rfl (fun ls hl => ?_)
  refine lv_aload_n hx hb dL_draws_7 rfl (lv_at hl 1 rfl) ?_
  refine lv_iload_n hx hb dL_draws_8 rfl (lv_at hl 2 rfl) ?_
  refine lv_sipush (v := 400) hx hb dL_draws_9 (by decide) ?_
  have hP := dp_P hP
  have hD := dp_D hD
  refine callMi (As := [.int (nI p), .int 400]) (wr := fl [hiW T h q2.1 q2.2.1 q2.2.2, sgW T b2 g, sgW T b3 sg0, siZ T y]) ⟨hx, hb, hml, hown, hts⟩ (mX5_depthIn l T D z (b2 0) (b3 0) (h 0) (y 0) 0 0 0 0 b1 g2.1 g2.2.1 g2.2.2 hj1.1 a q V G (nI p) 400) (cwV 2 hts gL_draws_X5_depthIn rfl rfl rfl pdX5_depthIn ⟨Nat.le_of_ble_eq_true rfl, Nat.le_of_ble_eq_true rfl⟩) hP hD hK hS hA xN_bl (fun U _ hW => XN_warm hW hX) (ci := 5) rfl rfl rfl hl.1 rfl rfl (Nat.le_of_ble_eq_true rfl) dL_draws_12 ⟨Nat.zero_le _, Nat.zero_le _⟩ (fun r4_ u5_ H locs eu5_ hP hD hS hkf => ?_)
  obtain ⟨V5, G5⟩ := u5_
  have hP : va_P D vwCl (oW T z b1 b2 b3 h a q y q2.1 q2.2.1 q2.2.2 g2 g V5 G5) H := pd_P hP
  have hD : va_D A (oW T z b1 b2 b3 h a q y q2.1 q2.2.1 q2.2.2 g2 g V5 G5) := pd_D hD
  obtain rfl : r4_ = tD (g2.2.1 p) 400 := eu5_.trans (sP_t hp)
  have hJ25 : ∀ (x9 : Int32) (ls : Array Slot), (x9 = 0 ∨ (x9 = 1 ∧ ∃ k, 1 ≤ k ∧ k ≤ 400 ∧ tD (g2.2.1 p) (nI k) = 40)) → lv_has ls 6 [(3, .int r1_), (0, .ref z), (1, .int (nI p)), (2, .int (nI v))] → W p_ l e rmL_draws s m args below meth c H locs 0 0 Q (F0 m 25 ls [.int x9]) := by
    intro x9 ls hx9 hl
    refine lv_istore (lv' := [(4, .int x9), (3, .int r1_), (0, .ref z), (1, .int (nI p)), (2, .int (nI v))]) hx hb dL_draws_25 hl (by decide) rfl (fun ls hl => ?_)
    refine lv_iconst (v := nI 1) hx hb dL_draws_27 (by decide) ?_
    refine lv_istore (lv' := [(5, .int (nI 1)), (4, .int x9), (3, .int r1_), (0, .ref z), (1, .int (nI p)), (2, .int (nI v))]) hx hb dL_draws_28 hl (by decide) rfl (fun ls hl => ?_)
    have loop : ∀ (j : Nat) (i : Nat) (x : Int32) (V1 : Nat → Int32) (G1 : Nat → Int64) (ls : Array Slot) (H : Heap) (locs : List Loc), (46 ≤ i + j) → (i ≤ 45) → (1 ≤ i) → ((x = 0 ∧ ∀ k, 1 ≤ k → k < i → ¬ tD (g2.2.1 p) (nI k) = 40) ∨ (x = 1 ∧ ∃ k, 1 ≤ k ∧ k ≤ 400 ∧ tD (g2.2.1 p) (nI k) = 40)) → va_P D vwCl (oW T z b1 b2 b3 h a q y q2.1 q2.2.1 q2.2.2 g2 g V1 G1) H → va_D A (oW T z b1 b2 b3 h a q y q2.1 q2.2.1 q2.2.2 g2 g V1 G1) → va_S A s.heap H locs → lv_has ls 6 [(5, .int (nI i)), (4, .int x), (3, .int r1_), (2, .int (nI v)), (1, .int (nI p)), (0, .ref z)] → W p_ l e rmL_draws s m args below meth c H locs 0 0 Q (F0 m 30 ls []) := by
      intro j
      induction j with
      | zero => intro i x V1 G1 ls H locs hm hi; exact absurd hm (by omega)
      | succ j ih =>
        intro i x V1 G1 ls H locs hm hi h1i hx1 hP hD hS hl
        refine lv_iload hx hb dL_draws_30 (lv_at hl 0 rfl) ?_
        refine lv_bipush (v := nI 45) hx hb dL_draws_32 (by decide) ?_
        refine lv_icmp_ge (tgt := 67) hx hb dL_draws_34 (by decide) (fun c34 => ?_) (fun c34 => ?_)
        · skip
          have hbz := dr_34 hL (hj1.1 p hp) hd0 h40 ((nI_leI (a := 45) (b := i) (by decide) (by omega)).mp c34) hx1
          refine lv_iload_n hx hb dL_draws_67 rfl (lv_at hl 2 rfl) ?_
          refine lv_bipush (v := (-5)) hx hb dL_draws_68 (by decide) ?_
          refine lv_icmp_eq (tgt := 80) hx hb dL_draws_70 (by decide) (fun c70 => ?_) (fun c70 => ?_)
          · skip
            rw [if_neg (by rw [← er2, c70]; decide)] at eq2
            subst eq2
            rw [tn_no hj.1 hp hv (er2.symm.trans c70)] at eg2
            have eg2 := eg2.symm
            subst eg2
            have hP : va_P D vwCl (oW T z b1 b2 b3 h a q y d n σ g g V1 G1) H := hP
            have hD : va_D A (oW T z b1 b2 b3 h a q y d n σ g g V1 G1) := hD
            refine lv_iload hx hb dL_draws_80 (lv_at hl 1 rfl) ?_
            refine lv_if_eq (tgt := 89) hx hb dL_draws_82 (by decide) (fun c82 => ?_) (fun c82 => ?_)
            · skip
              refine lv_iconst (v := 0) hx hb dL_draws_89 (by decide) ?_
              exact hret _ _ _ ((d, n, σ), (g, g), V1, G1) _ _ dL_draws_90 hS hP hD (⟨Or.inl ⟨rfl, bz_0 hbz c82⟩, rfl, hn⟩)
            · skip
              refine lv_iconst (v := 1) hx hb dL_draws_85 (by decide) ?_
              refine lv_goto (tgt := 90) hx hb dL_draws_86 (by decide) ?_
              exact hret _ _ _ ((d, n, σ), (g, g), V1, G1) _ _ dL_draws_90 hS hP hD (⟨Or.inr ⟨rfl, bz_n0 hbz c82⟩, rfl, hn⟩)
          · skip
            have h0 : 0 ≤ (oTurnOn (nI p) (nI v) g).1 := tn_yes hj.1 hp hv (fun z => c70 (er2.trans z))
            rw [if_pos h0] at eq2
            subst eq2
            have hP : va_P D vwCl (oW T z b1 b2 b3 h a q y (hiD n d) (rcN n) (hiS n σ g) g2 g V1 G1) H := hP
            have hD : va_D A (oW T z b1 b2 b3 h a q y (hiD n d) (rcN n) (hiS n σ g) g2 g V1 G1) := hD
            have hn2 : rcN n ≤ 4 := hn2
            refine lv_aload_n hx hb dL_draws_73 rfl (lv_at hl 5 rfl) ?_
            have hP := fP3.mp hP
            have hD := fD3.mp hD
            refine callMi (As := []) (wr := fl [sgW T b2 g, sgW T b3 sg0, plW T a q V1 G1, siZ T y]) ⟨hx, hb, hml, hown, hts⟩ (mX5_undo l T D z b1 (b2 0) (b3 0) a (y 0) 0 0 0 0 h (hiD n d) (rcN n) (hiS n σ g) g2 hn2 (fun _ => by rw [hi_top]; exact hj.1)) (cwV 0 hts gL_draws_X5_undo rfl rfl rfl pdX5_undo ⟨Nat.le_of_ble_eq_true rfl, Nat.le_of_ble_eq_true rfl⟩) hP hD hK hS hA xN_bl (fun U _ hW => XN_warm hW hX) (ci := 5) rfl rfl rfl hl.1 rfl rfl (Nat.le_of_ble_eq_true rfl) dL_draws_74 ⟨Nat.zero_le _, Nat.zero_le _⟩ (fun r7_ u8_ H locs eu8_ hP hD hS hkf => ?_)
            obtain ⟨eu1, eu2⟩ := un_is eu8_
            subst eu1
            subst eu2
            have hP : va_P D vwCl (oW T z b1 b2 b3 h a q y (hiD n d) (rcN n - 1) (hiS n σ g) g g V1 G1) H := fP3.mpr hP
            have hD : va_D A (oW T z b1 b2 b3 h a q y (hiD n d) (rcN n - 1) (hiS n σ g) g g V1 G1) := fD3.mpr hD
            have hn8 : rcN n - 1 ≤ 4 := Nat.le_trans (Nat.sub_le _ _) hn2
            refine lv_if_lt (tgt := 89) hx hb dL_draws_77 (by decide) (fun c77 => ?_) (fun c77 => ?_)
            · skip
              exact absurd c77 (nI_pos (by omega))
            · skip
              refine lv_iload hx hb dL_draws_80 (lv_at hl 1 rfl) ?_
              refine lv_if_eq (tgt := 89) hx hb dL_draws_82 (by decide) (fun c82 => ?_) (fun c82 => ?_)
              · skip
                refine lv_iconst (v := 0) hx hb dL_draws_89 (by decide) ?_
                exact hret _ _ _ (((hiD n d), (rcN n - 1), (hiS n σ g)), (g, g), V1, G1) _ _ dL_draws_90 hS hP hD (⟨Or.inl ⟨rfl, bz_0 hbz c82⟩, rfl, hn8⟩)
              · skip
                refine lv_iconst (v := 1) hx hb dL_draws_85 (by decide) ?_
                refine lv_goto (tgt := 90) hx hb dL_draws_86 (by decide) ?_
                exact hret _ _ _ (((hiD n d), (rcN n - 1), (hiS n σ g)), (g, g), V1, G1) _ _ dL_draws_90 hS hP hD (⟨Or.inr ⟨rfl, bz_n0 hbz c82⟩, rfl, hn8⟩)
        · skip
          have hi2 : i < 45 := by
            have := mt (nI_leI (a := 45) (b := i) (by decide) (by omega)).mpr c34
            omega
          refine lv_iload hx hb dL_draws_37 (lv_at hl 1 rfl) ?_
          refine lv_if_ne (tgt := 67) hx hb dL_draws_39 (by decide) (fun c39 => ?_) (fun c39 => ?_)
          · skip
            have hbz := dr_39 hL (hj1.1 p hp) hd0 h40 hx1 c39
            refine lv_iload_n hx hb dL_draws_67 rfl (lv_at hl 2 rfl) ?_
            refine lv_bipush (v := (-5)) hx hb dL_draws_68 (by decide) ?_
            refine lv_icmp_eq (tgt := 80) hx hb dL_draws_70 (by decide) (fun c70 => ?_) (fun c70 => ?_)
            · skip
              rw [if_neg (by rw [← er2, c70]; decide)] at eq2
              subst eq2
              rw [tn_no hj.1 hp hv (er2.symm.trans c70)] at eg2
              have eg2 := eg2.symm
              subst eg2
              have hP : va_P D vwCl (oW T z b1 b2 b3 h a q y d n σ g g V1 G1) H := hP
              have hD : va_D A (oW T z b1 b2 b3 h a q y d n σ g g V1 G1) := hD
              refine lv_iload hx hb dL_draws_80 (lv_at hl 1 rfl) ?_
              refine lv_if_eq (tgt := 89) hx hb dL_draws_82 (by decide) (fun c82 => ?_) (fun c82 => ?_)
              · skip
                refine lv_iconst (v := 0) hx hb dL_draws_89 (by decide) ?_
                exact hret _ _ _ ((d, n, σ), (g, g), V1, G1) _ _ dL_draws_90 hS hP hD (⟨Or.inl ⟨rfl, bz_0 hbz c82⟩, rfl, hn⟩)
              · skip
                refine lv_iconst (v := 1) hx hb dL_draws_85 (by decide) ?_
                refine lv_goto (tgt := 90) hx hb dL_draws_86 (by decide) ?_
                exact hret _ _ _ ((d, n, σ), (g, g), V1, G1) _ _ dL_draws_90 hS hP hD (⟨Or.inr ⟨rfl, bz_n0 hbz c82⟩, rfl, hn⟩)
            · skip
              have h0 : 0 ≤ (oTurnOn (nI p) (nI v) g).1 := tn_yes hj.1 hp hv (fun z => c70 (er2.trans z))
              rw [if_pos h0] at eq2
              subst eq2
              have hP : va_P D vwCl (oW T z b1 b2 b3 h a q y (hiD n d) (rcN n) (hiS n σ g) g2 g V1 G1) H := hP
              have hD : va_D A (oW T z b1 b2 b3 h a q y (hiD n d) (rcN n) (hiS n σ g) g2 g V1 G1) := hD
              have hn2 : rcN n ≤ 4 := hn2
              refine lv_aload_n hx hb dL_draws_73 rfl (lv_at hl 5 rfl) ?_
              have hP := fP3.mp hP
              have hD := fD3.mp hD
              refine callMi (As := []) (wr := fl [sgW T b2 g, sgW T b3 sg0, plW T a q V1 G1, siZ T y]) ⟨hx, hb, hml, hown, hts⟩ (mX5_undo l T D z b1 (b2 0) (b3 0) a (y 0) 0 0 0 0 h (hiD n d) (rcN n) (hiS n σ g) g2 hn2 (fun _ => by rw [hi_top]; exact hj.1)) (cwV 0 hts gL_draws_X5_undo rfl rfl rfl pdX5_undo ⟨Nat.le_of_ble_eq_true rfl, Nat.le_of_ble_eq_true rfl⟩) hP hD hK hS hA xN_bl (fun U _ hW => XN_warm hW hX) (ci := 5) rfl rfl rfl hl.1 rfl rfl (Nat.le_of_ble_eq_true rfl) dL_draws_74 ⟨Nat.zero_le _, Nat.zero_le _⟩ (fun r10_ u11_ H locs eu11_ hP hD hS hkf => ?_)
              obtain ⟨eu1, eu2⟩ := un_is eu11_
              subst eu1
              subst eu2
              have hP : va_P D vwCl (oW T z b1 b2 b3 h a q y (hiD n d) (rcN n - 1) (hiS n σ g) g g V1 G1) H := fP3.mpr hP
              have hD : va_D A (oW T z b1 b2 b3 h a q y (hiD n d) (rcN n - 1) (hiS n σ g) g g V1 G1) := fD3.mpr hD
              have hn11 : rcN n - 1 ≤ 4 := Nat.le_trans (Nat.sub_le _ _) hn2
              refine lv_if_lt (tgt := 89) hx hb dL_draws_77 (by decide) (fun c77 => ?_) (fun c77 => ?_)
              · skip
                exact absurd c77 (nI_pos (by omega))
              · skip
                refine lv_iload hx hb dL_draws_80 (lv_at hl 1 rfl) ?_
                refine lv_if_eq (tgt := 89) hx hb dL_draws_82 (by decide) (fun c82 => ?_) (fun c82 => ?_)
                · skip
                  refine lv_iconst (v := 0) hx hb dL_draws_89 (by decide) ?_
                  exact hret _ _ _ (((hiD n d), (rcN n - 1), (hiS n σ g)), (g, g), V1, G1) _ _ dL_draws_90 hS hP hD (⟨Or.inl ⟨rfl, bz_0 hbz c82⟩, rfl, hn11⟩)
                · skip
                  refine lv_iconst (v := 1) hx hb dL_draws_85 (by decide) ?_
                  refine lv_goto (tgt := 90) hx hb dL_draws_86 (by decide) ?_
                  exact hret _ _ _ (((hiD n d), (rcN n - 1), (hiS n σ g)), (g, g), V1, G1) _ _ dL_draws_90 hS hP hD (⟨Or.inr ⟨rfl, bz_n0 hbz c82⟩, rfl, hn11⟩)
          · skip
            refine lv_aload_n hx hb dL_draws_42 rfl (lv_at hl 5 rfl) ?_
            refine lv_iload_n hx hb dL_draws_43 rfl (lv_at hl 4 rfl) ?_
            refine lv_iload hx hb dL_draws_44 (lv_at hl 0 rfl) ?_
            have hP := dp_P hP
            have hD := dp_D hD
            refine callMi (As := [.int (nI p), .int (nI i)]) (wr := fl [hiW T h q2.1 q2.2.1 q2.2.2, sgW T b2 g, sgW T b3 sg0, siZ T y]) ⟨hx, hb, hml, hown, hts⟩ (mX5_depthIn l T D z (b2 0) (b3 0) (h 0) (y 0) 0 0 0 0 b1 g2.1 g2.2.1 g2.2.2 hj1.1 a q V1 G1 (nI p) (nI i)) (cwV 2 hts gL_draws_X5_depthIn rfl rfl rfl pdX5_depthIn ⟨Nat.le_of_ble_eq_true rfl, Nat.le_of_ble_eq_true rfl⟩) hP hD hK hS hA xN_bl (fun U _ hW => XN_warm hW hX) (ci := 5) rfl rfl rfl hl.1 rfl rfl (Nat.le_of_ble_eq_true rfl) dL_draws_46 ⟨Nat.zero_le _, Nat.zero_le _⟩ (fun r13_ u14_ H locs eu14_ hP hD hS hkf => ?_)
            obtain ⟨V14, G14⟩ := u14_
            have hP : va_P D vwCl (oW T z b1 b2 b3 h a q y q2.1 q2.2.1 q2.2.2 g2 g V14 G14) H := pd_P hP
            have hD : va_D A (oW T z b1 b2 b3 h a q y q2.1 q2.2.1 q2.2.2 g2 g V14 G14) := pd_D hD
            obtain rfl : r13_ = tD (g2.2.1 p) (nI i) := eu14_.trans (sP_t hp)
            refine lv_bipush (v := 40) hx hb dL_draws_49 (by decide) ?_
            refine lv_icmp_ne (tgt := 58) hx hb dL_draws_51 (by decide) (fun c51 => ?_) (fun c51 => ?_)
            · skip
              refine lv_iconst (v := 0) hx hb dL_draws_58 (by decide) ?_
              refine lv_istore (lv' := [(4, .int 0), (5, .int (nI i)), (3, .int r1_), (2, .int (nI v)), (1, .int (nI p)), (0, .ref z)]) hx hb dL_draws_59 hl (by decide) rfl (fun ls hl => ?_)
              refine lv_iinc (v := nI (i + 1)) (lv' := [(5, .int (nI (i + 1))), (4, .int 0), (3, .int r1_), (2, .int (nI v)), (1, .int (nI p)), (0, .ref z)]) hx hb dL_draws_61 hl (k := 1) rfl (nI_1 i) (by decide) rfl (fun ls hl => ?_)
              refine lv_goto (tgt := 30) hx hb dL_draws_64 (by decide) ?_
              exact ih (i + 1) 0 V14 G14 ls H locs (by omega) (by omega) (by omega) (Or.inl ⟨rfl, dr_next hx1 c39 c51⟩) hP hD hS (lv_sub hl [0, 1, 2, 3, 4, 5] rfl)
            · skip
              refine lv_iconst (v := 1) hx hb dL_draws_54 (by decide) ?_
              refine lv_goto (tgt := 59) hx hb dL_draws_55 (by decide) ?_
              refine lv_istore (lv' := [(4, .int 1), (5, .int (nI i)), (3, .int r1_), (2, .int (nI v)), (1, .int (nI p)), (0, .ref z)]) hx hb dL_draws_59 hl (by decide) rfl (fun ls hl => ?_)
              refine lv_iinc (v := nI (i + 1)) (lv' := [(5, .int (nI (i + 1))), (4, .int 1), (3, .int r1_), (2, .int (nI v)), (1, .int (nI p)), (0, .ref z)]) hx hb dL_draws_61 hl (k := 1) rfl (nI_1 i) (by decide) rfl (fun ls hl => ?_)
              refine lv_goto (tgt := 30) hx hb dL_draws_64 (by decide) ?_
              exact ih (i + 1) 1 V14 G14 ls H locs (by omega) (by omega) (by omega) (Or.inr ⟨rfl, i, h1i, by omega, c51⟩) hP hD hS (lv_sub hl [0, 1, 2, 3, 4, 5] rfl)
    exact loop 46 1 x9 V5 G5 ls H locs (by omega) (by omega) (by omega) (hx9.elim (fun z => Or.inl ⟨z, fun k k1 k2 => absurd k1 (by omega)⟩) (fun z => Or.inr z)) hP hD hS (lv_sub hl [0, 1, 2, 5, 4, 3] rfl)
  refine lv_bipush (v := 40) hx hb dL_draws_15 (by decide) ?_
  refine lv_icmp_ne (tgt := 24) hx hb dL_draws_17 (by decide) (fun c17 => ?_) (fun c17 => ?_)
  · skip
    refine lv_iconst (v := 0) hx hb dL_draws_24 (by decide) ?_
    exact hJ25 0 ls (Or.inl rfl) hl
  · skip
    refine lv_iconst (v := 1) hx hb dL_draws_20 (by decide) ?_
    refine lv_goto (tgt := 25) hx hb dL_draws_21 (by decide) ?_
    exact hJ25 1 ls (Or.inr ⟨rfl, 400, by decide, by decide, c17⟩) hl

