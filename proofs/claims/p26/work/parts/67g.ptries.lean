def rmL_tries : Room := { frames := 7, cells := 0, slots := 0, locals := 192 }
set_option maxHeartbeats 4000000 in
set_option maxRecDepth 100000 in
theorem mL_tries (l : Launch) (T : Nat → ClassId) (D : va_G) (z : Nat) (b1 b2 b3 h : Nat → Nat) (a q : Nat) (y : Nat → Nat) (d : Nat → Nat → Nat) (n : Nat) (σ : Nat → SG) (g gb : SG) (V : Nat → Int32) (G : Nat → Int64) (c0 : Nat) (hj : jOk c0 g) (hn : n ≤ 4) (hc : c0 + 99 ≤ 99999) (vx : Int32) : MuI l yL_tries wsL_tries rmL_tries T xN D [.ref z, .int vx] (oW T z b1 b2 b3 h a q y d n σ g gb V G) (S := OSt) (fun r u => r = 1 ∧ u.2.1.1 = g ∧ u.1.2.1 ≤ 4) (fun u => oU T z b1 b2 b3 h a q y u) 0 0 := by
  refine met_mz (cc := cL_tries) (maxL := 10) (by decide) rfl (Nat.le_of_ble_eq_true rfl) (fun r u h => Or.inr h.1) ?_
  intro p_ e s m args below meth c ls A Q hx hb hts hown hml hX hP hD hK hS hA hl hret
  have hl : lv_has ls 10 [(0, .ref z), (1, .int vx)] := hl
  obtain ⟨H, hH⟩ : ∃ H, H = s.heap := ⟨_, rfl⟩
  have hS : va_S A s.heap H [] := by rw [hH]; exact hS
  obtain ⟨locs, hlc⟩ : ∃ x9 : List Loc, x9 = [] := ⟨_, rfl⟩
  rw [← hlc] at hS ⊢
  rw [← hH] at hP ⊢
  refine lv_iload_n hx hb dL_tries_0 rfl (lv_at hl 1 rfl) ?_
  refine lv_iconst (v := 4) hx hb dL_tries_1 (by decide) ?_
  refine callSi (As := [.int vx, .int 4]) ⟨hx, hb, hml, hown, hts⟩ (mL_low l T D vx 4 (by decide)) (va_cwS 2 hts gL_tries_L_low rfl rfl rfl (pdL_low).2 ⟨Nat.le_of_ble_eq_true rfl, Nat.le_of_ble_eq_true rfl⟩) wP_nil hK xN_bl (fun U _ hW => XN_warm hW hX) hl.1 rfl rfl (Nat.le_of_ble_eq_true rfl) dL_tries_2 ⟨Nat.zero_le _, Nat.zero_le _⟩ (fun r1_ er1_ => ?_)
  obtain ⟨p, hp, elp⟩ := lowI_of vx (N := 4) (by decide) (by decide)
  obtain rfl : r1_ = nI p := er1_.trans elp
  skip
  refine lv_istore_n (lv' := [(2, .int (nI p)), (0, .ref z), (1, .int vx)]) hx hb dL_tries_5 rfl hl (by decide) rfl (fun ls hl => ?_)
  refine lv_iconst (v := nI 1) hx hb dL_tries_6 (by decide) ?_
  refine lv_iload_n hx hb dL_tries_7 rfl (lv_at hl 2 rfl) ?_
  refine lv_iconst (v := 2) hx hb dL_tries_8 (by decide) ?_
  refine lv_ishr hx hb dL_tries_9 ?_
  refine lv_bipush (v := 60) hx hb dL_tries_10 (by decide) ?_
  refine callSi (As := [.int (vx >>> (2 &&& 31)), .int 60]) ⟨hx, hb, hml, hown, hts⟩ (mL_low l T D (vx >>> (2 &&& 31)) 60 (by decide)) (va_cwS 2 hts gL_tries_L_low rfl rfl rfl (pdL_low).2 ⟨Nat.le_of_ble_eq_true rfl, Nat.le_of_ble_eq_true rfl⟩) wP_nil hK xN_bl (fun U _ hW => XN_warm hW hX) hl.1 rfl rfl (Nat.le_of_ble_eq_true rfl) dL_tries_12 ⟨Nat.zero_le _, Nat.zero_le _⟩ (fun r2_ er2_ => ?_)
  obtain ⟨t0, ht0, elt0⟩ := lowI_of (vx >>> (2 &&& 31)) (N := 60) (by decide) (by decide)
  obtain rfl : r2_ = nI t0 := er2_.trans elt0
  obtain ⟨tk, etk⟩ : ∃ x9, x9 = 1 + t0 := ⟨_, rfl⟩
  refine lv_iadd hx hb dL_tries_15 ?_
  refine lv_tpi (z := nI tk) (by rw [etk]; exact nI_add 1 t0) ?_
  refine lv_istore_n (lv' := [(3, .int (nI tk)), (2, .int (nI p)), (0, .ref z), (1, .int vx)]) hx hb dL_tries_16 rfl hl (by decide) rfl (fun ls hl => ?_)
  refine lv_aload_n hx hb dL_tries_17 rfl (lv_at hl 2 rfl) ?_
  refine lv_iload_n hx hb dL_tries_18 rfl (lv_at hl 1 rfl) ?_
  refine lv_iload_n hx hb dL_tries_19 rfl (lv_at hl 0 rfl) ?_
  have hP := dp_P hP
  have hD := dp_D hD
  refine callMi (As := [.int (nI p), .int (nI tk)]) (wr := fl [hiW T h d n σ, sgW T b2 gb, sgW T b3 sg0, siZ T y]) ⟨hx, hb, hml, hown, hts⟩ (mX5_depthIn l T D z (b2 0) (b3 0) (h 0) (y 0) 0 0 0 0 b1 g.1 g.2.1 g.2.2 hj.1 a q V G (nI p) (nI tk)) (cwV 2 hts gL_tries_X5_depthIn rfl rfl rfl pdX5_depthIn ⟨Nat.le_of_ble_eq_true rfl, Nat.le_of_ble_eq_true rfl⟩) hP hD hK hS hA xN_bl (fun U _ hW => XN_warm hW hX) (ci := 5) rfl rfl rfl hl.1 rfl rfl (Nat.le_of_ble_eq_true rfl) dL_tries_20 ⟨Nat.zero_le _, Nat.zero_le _⟩ (fun r3_ u4_ H locs eu4_ hP hD hS hkf => ?_)
  obtain ⟨V4, G4⟩ := u4_
  have hP : va_P D vwCl (oW T z b1 b2 b3 h a q y d n σ g gb V4 G4) H := pd_P hP
  have hD : va_D A (oW T z b1 b2 b3 h a q y d n σ g gb V4 G4) := pd_D hD
  obtain rfl : r3_ = tD (g.2.1 p) (nI tk) := eu4_.trans (sP_t hp)
  refine lv_istore (lv' := [(4, .int (tD (g.2.1 p) (nI tk))), (3, .int (nI tk)), (2, .int (nI p)), (0, .ref z), (1, .int vx)]) hx hb dL_tries_23 hl (by decide) rfl (fun ls hl => ?_)
  refine lv_aload_n hx hb dL_tries_25 rfl (lv_at hl 3 rfl) ?_
  refine lv_iload_n hx hb dL_tries_26 rfl (lv_at hl 2 rfl) ?_
  have hP := dp_P hP
  have hD := dp_D hD
  refine callMi (As := [.int (nI p)]) (wr := fl [hiW T h d n σ, sgW T b2 gb, sgW T b3 sg0, siZ T y]) ⟨hx, hb, hml, hown, hts⟩ (mX5_restsIn l T D z (b2 0) (b3 0) (h 0) (y 0) 0 0 0 0 b1 g.1 g.2.1 g.2.2 hj.1 a q V4 G4 (nI p)) (cwV 1 hts gL_tries_X5_restsIn rfl rfl rfl pdX5_restsIn ⟨Nat.le_of_ble_eq_true rfl, Nat.le_of_ble_eq_true rfl⟩) hP hD hK hS hA xN_bl (fun U _ hW => XN_warm hW hX) (ci := 5) rfl rfl rfl hl.1 rfl rfl (Nat.le_of_ble_eq_true rfl) dL_tries_27 ⟨Nat.zero_le _, Nat.zero_le _⟩ (fun r6_ u7_ H locs eu7_ hP hD hS hkf => ?_)
  obtain ⟨V7, G7⟩ := u7_
  have hP : va_P D vwCl (oW T z b1 b2 b3 h a q y d n σ g gb V7 G7) H := pd_P hP
  have hD : va_D A (oW T z b1 b2 b3 h a q y d n σ g gb V7 G7) := pd_D hD
  obtain rfl : r6_ = kRs (g.2.1 p) := eu7_.trans (sP_t hp)
  refine lv_istore (lv' := [(5, .int (kRs (g.2.1 p))), (4, .int (tD (g.2.1 p) (nI tk))), (3, .int (nI tk)), (2, .int (nI p)), (0, .ref z), (1, .int vx)]) hx hb dL_tries_30 hl (by decide) rfl (fun ls hl => ?_)
  refine lv_aload_n hx hb dL_tries_32 rfl (lv_at hl 4 rfl) ?_
  refine lv_iload_n hx hb dL_tries_33 rfl (lv_at hl 3 rfl) ?_
  refine lv_bipush (v := 6) hx hb dL_tries_34 (by decide) ?_
  refine callRi (As := [.int (nI p), .int 6]) ⟨hx, hb, hml, hown, hts⟩ (mX5_pair l T D z (b2 0) (b3 0) (h 0) a (y 0) 0 0 0 0 b1 g.1 g.2.1 g.2.2 hj.1 (nI p) 6) (cwV 2 hts gL_tries_X5_pair rfl rfl rfl pdX5_pair ⟨Nat.le_of_ble_eq_true rfl, Nat.le_of_ble_eq_true rfl⟩) (oW_rd hP) hK xN_bl (fun U _ hW => XN_warm hW hX) (ci := 5) rfl rfl rfl hl.1 rfl rfl (Nat.le_of_ble_eq_true rfl) dL_tries_36 ⟨Nat.zero_le _, Nat.zero_le _⟩ (fun r9_ er9_ => ?_)
  obtain rfl : r9_ = (g.2.1 p) 6 := er9_.trans ((rp hp _).trans rfl)
  refine lv_istore (lv' := [(6, .int ((g.2.1 p) 6)), (5, .int (kRs (g.2.1 p))), (4, .int (tD (g.2.1 p) (nI tk))), (3, .int (nI tk)), (2, .int (nI p)), (0, .ref z), (1, .int vx)]) hx hb dL_tries_39 hl (by decide) rfl (fun ls hl => ?_)
  refine lv_aload_n hx hb dL_tries_41 rfl (lv_at hl 5 rfl) ?_
  refine lv_iload_n hx hb dL_tries_42 rfl (lv_at hl 3 rfl) ?_
  have hP := fP4.mp hP
  have hD := fD4.mp hD
  refine callMi (As := [.int (nI tk)]) (wr := fl [sgW T b3 sg0, plW T a q V7 G7, siZ T y]) ⟨hx, hb, hml, hown, hts⟩ (mX5_pass l T D z b1 b2 (b3 0) a (y 0) 0 0 0 0 h d n σ g gb hn hj.1 (nI tk)) (cwV 1 hts gL_tries_X5_pass rfl rfl rfl pdX5_pass ⟨Nat.le_of_ble_eq_true rfl, Nat.le_of_ble_eq_true rfl⟩) hP hD hK hS hA xN_bl (fun U _ hW => XN_warm hW hX) (ci := 5) rfl rfl rfl hl.1 rfl rfl (Nat.le_of_ble_eq_true rfl) dL_tries_43 ⟨Nat.zero_le _, Nat.zero_le _⟩ (fun r10_ u11_ H locs eu11_ hP hD hS hkf => ?_)
  obtain ⟨g11, q11⟩ := u11_
  obtain ⟨er11, eq11⟩ := eu11_
  have eg11 : g11 = (oPs (nI tk) g).2 := congrArg Prod.fst eq11
  have eq11 : q11 = if 0 ≤ (oPs (nI tk) g).1 then (hiD n d, rcN n, hiS n σ g) else (d, n, σ) := congrArg Prod.snd eq11
  have hP : va_P D vwCl (oW T z b1 b2 b3 h a q y q11.1 q11.2.1 q11.2.2 g11 g V7 G7) H := fP4.mpr hP
  have hD : va_D A (oW T z b1 b2 b3 h a q y q11.1 q11.2.1 q11.2.2 g11 g V7 G7) := fD4.mpr hD
  have hn11 : q11.2.1 ≤ 4 := qn_le hn eq11
  have hj11 : jOk (c0 + tk) g11 := by rw [eg11]; exact (aOk_pass hj (n := tk) (by omega) (by omega) (by omega)).2
  have h0tk : 0 ≤ r10_ := by rw [er11]; exact pass_0 hj (n := tk) (by omega) (by omega) (by omega)
  have hattk : g11.2.1 p = tIt (g.2.1 p) tk := by rw [eg11]; exact ps_at hj (by omega) (by omega) (by omega) hp
  rw [if_pos (pass_0 hj (n := tk) (by omega) (by omega) (by omega))] at eq11
  subst eq11
  have hP : va_P D vwCl (oW T z b1 b2 b3 h a q y (hiD n d) (rcN n) (hiS n σ g) g11 g V7 G7) H := hP
  have hD : va_D A (oW T z b1 b2 b3 h a q y (hiD n d) (rcN n) (hiS n σ g) g11 g V7 G7) := hD
  have hn11 : rcN n ≤ 4 := hn11
  refine lv_if_lt (tgt := 106) hx hb dL_tries_46 (by decide) (fun c46 => ?_) (fun c46 => ?_)
  · skip
    exact absurd c46 (Int32.not_lt.mpr h0tk)
  · skip
    refine lv_aload_n hx hb dL_tries_49 rfl (lv_at hl 5 rfl) ?_
    refine lv_iload_n hx hb dL_tries_50 rfl (lv_at hl 4 rfl) ?_
    refine lv_bipush (v := 6) hx hb dL_tries_51 (by decide) ?_
    refine callRi (As := [.int (nI p), .int 6]) ⟨hx, hb, hml, hown, hts⟩ (mX5_pair l T D z (b2 0) (b3 0) (h 0) a (y 0) 0 0 0 0 b1 g11.1 g11.2.1 g11.2.2 hj11.1 (nI p) 6) (cwV 2 hts gL_tries_X5_pair rfl rfl rfl pdX5_pair ⟨Nat.le_of_ble_eq_true rfl, Nat.le_of_ble_eq_true rfl⟩) (oW_rd hP) hK xN_bl (fun U _ hW => XN_warm hW hX) (ci := 5) rfl rfl rfl hl.1 rfl rfl (Nat.le_of_ble_eq_true rfl) dL_tries_53 ⟨Nat.zero_le _, Nat.zero_le _⟩ (fun r13_ er13_ => ?_)
    obtain rfl : r13_ = (g11.2.1 p) 6 := er13_.trans ((rp hp _).trans rfl)
    refine lv_iload hx hb dL_tries_56 (lv_at hl 2 rfl) ?_
    refine lv_icmp_ne (tgt := 106) hx hb dL_tries_58 (by decide) (fun c58 => ?_) (fun c58 => ?_)
    · skip
      exact absurd c58 (fun z => z (by rw [hattk]; exact td_it _ (by omega) (by omega)))
    · skip
      have hJ83 : ∀ (V8 : Nat → Int32) (G8 : Nat → Int64) (ls : Array Slot) (H : Heap) (locs : List Loc), va_P D vwCl (oW T z b1 b2 b3 h a q y (hiD n d) (rcN n) (hiS n σ g) g11 g V8 G8) H → va_D A (oW T z b1 b2 b3 h a q y (hiD n d) (rcN n) (hiS n σ g) g11 g V8 G8) → va_S A s.heap H locs → lv_has ls 10 [(6, .int ((g.2.1 p) 6)), (5, .int (kRs (g.2.1 p))), (4, .int (tD (g.2.1 p) (nI tk))), (3, .int (nI tk)), (2, .int (nI p)), (0, .ref z), (1, .int vx)] → W p_ l e rmL_tries s m args below meth c H locs 0 0 Q (F0 m 83 ls []) := by
        intro V8 G8 ls H locs hP hD hS hl
        refine lv_aload_n hx hb dL_tries_83 rfl (lv_at hl 5 rfl) ?_
        have hP := fP3.mp hP
        have hD := fD3.mp hD
        refine callMi (As := []) (wr := fl [sgW T b2 g, sgW T b3 sg0, plW T a q V8 G8, siZ T y]) ⟨hx, hb, hml, hown, hts⟩ (mX5_undo l T D z b1 (b2 0) (b3 0) a (y 0) 0 0 0 0 h (hiD n d) (rcN n) (hiS n σ g) g11 hn11 (fun _ => by rw [hi_top]; exact hj.1)) (cwV 0 hts gL_tries_X5_undo rfl rfl rfl pdX5_undo ⟨Nat.le_of_ble_eq_true rfl, Nat.le_of_ble_eq_true rfl⟩) hP hD hK hS hA xN_bl (fun U _ hW => XN_warm hW hX) (ci := 5) rfl rfl rfl hl.1 rfl rfl (Nat.le_of_ble_eq_true rfl) dL_tries_84 ⟨Nat.zero_le _, Nat.zero_le _⟩ (fun r14_ u15_ H locs eu15_ hP hD hS hkf => ?_)
        obtain ⟨eu1, eu2⟩ := un_is eu15_
        subst eu1
        subst eu2
        have hP : va_P D vwCl (oW T z b1 b2 b3 h a q y (hiD n d) (rcN n - 1) (hiS n σ g) g g V8 G8) H := fP3.mpr hP
        have hD : va_D A (oW T z b1 b2 b3 h a q y (hiD n d) (rcN n - 1) (hiS n σ g) g g V8 G8) := fD3.mpr hD
        have hn15 : rcN n - 1 ≤ 4 := Nat.le_trans (Nat.sub_le _ _) hn11
        refine lv_if_lt (tgt := 106) hx hb dL_tries_87 (by decide) (fun c87 => ?_) (fun c87 => ?_)
        · skip
          exact absurd c87 (nI_pos (by omega))
        · skip
          refine lv_aload_n hx hb dL_tries_90 rfl (lv_at hl 5 rfl) ?_
          refine lv_iload_n hx hb dL_tries_91 rfl (lv_at hl 4 rfl) ?_
          refine lv_bipush (v := 6) hx hb dL_tries_92 (by decide) ?_
          refine callRi (As := [.int (nI p), .int 6]) ⟨hx, hb, hml, hown, hts⟩ (mX5_pair l T D z (b2 0) (b3 0) (h 0) a (y 0) 0 0 0 0 b1 g.1 g.2.1 g.2.2 hj.1 (nI p) 6) (cwV 2 hts gL_tries_X5_pair rfl rfl rfl pdX5_pair ⟨Nat.le_of_ble_eq_true rfl, Nat.le_of_ble_eq_true rfl⟩) (oW_rd hP) hK xN_bl (fun U _ hW => XN_warm hW hX) (ci := 5) rfl rfl rfl hl.1 rfl rfl (Nat.le_of_ble_eq_true rfl) dL_tries_94 ⟨Nat.zero_le _, Nat.zero_le _⟩ (fun r17_ er17_ => ?_)
          obtain rfl : r17_ = (g.2.1 p) 6 := er17_.trans ((rp hp _).trans rfl)
          refine lv_iload hx hb dL_tries_97 (lv_at hl 0 rfl) ?_
          refine lv_icmp_ne (tgt := 106) hx hb dL_tries_99 (by decide) (fun c99 => ?_) (fun c99 => ?_)
          · skip
            exact absurd c99 (fun z => z (rfl))
          · skip
            refine lv_iconst (v := 1) hx hb dL_tries_102 (by decide) ?_
            refine lv_goto (tgt := 107) hx hb dL_tries_103 (by decide) ?_
            refine lv_istore (lv' := [(7, .int 1), (6, .int ((g.2.1 p) 6)), (5, .int (kRs (g.2.1 p))), (4, .int (tD (g.2.1 p) (nI tk))), (3, .int (nI tk)), (2, .int (nI p)), (0, .ref z), (1, .int vx)]) hx hb dL_tries_107 hl (by decide) rfl (fun ls hl => ?_)
            refine lv_iload hx hb dL_tries_109 (lv_at hl 0 rfl) ?_
            refine lv_if_eq (tgt := 173) hx hb dL_tries_111 (by decide) (fun c111 => ?_) (fun c111 => ?_)
            · skip
              exact absurd c111 (by decide)
            · skip
              have hJ173 : ∀ (d8 : Nat → Nat → Nat) (n8 : Nat) (σ8 : Nat → SG) (gb8 : SG) (V8 : Nat → Int32) (G8 : Nat → Int64) (ls : Array Slot) (H : Heap) (locs : List Loc), (n8 ≤ 4) → va_P D vwCl (oW T z b1 b2 b3 h a q y d8 n8 σ8 g gb8 V8 G8) H → va_D A (oW T z b1 b2 b3 h a q y d8 n8 σ8 g gb8 V8 G8) → va_S A s.heap H locs → lv_has ls 10 [(7, .int 1), (6, .int ((g.2.1 p) 6)), (5, .int (kRs (g.2.1 p))), (4, .int (tD (g.2.1 p) (nI tk))), (3, .int (nI tk)), (2, .int (nI p)), (0, .ref z), (1, .int vx)] → W p_ l e rmL_tries s m args below meth c H locs 0 0 Q (F0 m 173 ls []) := by
                intro d8 n8 σ8 gb8 V8 G8 ls H locs hn8 hP hD hS hl
                refine lv_iload hx hb dL_tries_173 (lv_at hl 0 rfl) ?_
                refine lv_if_eq (tgt := 211) hx hb dL_tries_175 (by decide) (fun c175 => ?_) (fun c175 => ?_)
                · skip
                  exact absurd c175 (by decide)
                · skip
                  have hJ212 : ∀ (V8 : Nat → Int32) (G8 : Nat → Int64) (ls : Array Slot) (H : Heap) (locs : List Loc), va_P D vwCl (oW T z b1 b2 b3 h a q y d8 n8 σ8 g gb8 V8 G8) H → va_D A (oW T z b1 b2 b3 h a q y d8 n8 σ8 g gb8 V8 G8) → va_S A s.heap H locs → lv_has ls 10 [(7, .int 1), (6, .int ((g.2.1 p) 6)), (5, .int (kRs (g.2.1 p))), (4, .int (tD (g.2.1 p) (nI tk))), (3, .int (nI tk)), (2, .int (nI p)), (0, .ref z), (1, .int vx)] → W p_ l e rmL_tries s m args below meth c H locs 0 0 Q (F0 m 212 ls [.int 1]) := by
                    intro V8 G8 ls H locs hP hD hS hl
                    refine lv_istore (lv' := [(7, .int 1), (6, .int ((g.2.1 p) 6)), (5, .int (kRs (g.2.1 p))), (4, .int (tD (g.2.1 p) (nI tk))), (3, .int (nI tk)), (2, .int (nI p)), (0, .ref z), (1, .int vx)]) hx hb dL_tries_212 hl (by decide) rfl (fun ls hl => ?_)
                    refine lv_aload_n hx hb dL_tries_214 rfl (lv_at hl 6 rfl) ?_
                    refine lv_iload_n hx hb dL_tries_215 rfl (lv_at hl 5 rfl) ?_
                    refine callRi (As := [.int (nI p)]) ⟨hx, hb, hml, hown, hts⟩ (mX5_leastVoltage l T D z (b2 0) (b3 0) (h 0) a (y 0) 0 0 0 0 b1 g.1 g.2.1 g.2.2 hj.1 (nI p)) (cwV 1 hts gL_tries_X5_leastVoltage rfl rfl rfl pdX5_leastVoltage ⟨Nat.le_of_ble_eq_true rfl, Nat.le_of_ble_eq_true rfl⟩) (oW_rd hP) hK xN_bl (fun U _ hW => XN_warm hW hX) (ci := 5) rfl rfl rfl hl.1 rfl rfl (Nat.le_of_ble_eq_true rfl) dL_tries_216 ⟨Nat.zero_le _, Nat.zero_le _⟩ (fun r18_ er18_ => ?_)
                    obtain rfl : r18_ = kLv (g.2.1 p) := er18_.trans (sP_t hp)
                    refine lv_istore (lv' := [(8, .int (kLv (g.2.1 p))), (7, .int 1), (6, .int ((g.2.1 p) 6)), (5, .int (kRs (g.2.1 p))), (4, .int (tD (g.2.1 p) (nI tk))), (3, .int (nI tk)), (2, .int (nI p)), (0, .ref z), (1, .int vx)]) hx hb dL_tries_219 hl (by decide) rfl (fun ls hl => ?_)
                    refine lv_aload_n hx hb dL_tries_221 rfl (lv_at hl 7 rfl) ?_
                    refine lv_iload_n hx hb dL_tries_222 rfl (lv_at hl 6 rfl) ?_
                    refine callRi (As := [.int (nI p)]) ⟨hx, hb, hml, hown, hts⟩ (mX5_drawingVoltage l T D z (b2 0) (b3 0) (h 0) a (y 0) 0 0 0 0 b1 g.1 g.2.1 g.2.2 hj.1 (nI p)) (cwV 1 hts gL_tries_X5_drawingVoltage rfl rfl rfl pdX5_drawingVoltage ⟨Nat.le_of_ble_eq_true rfl, Nat.le_of_ble_eq_true rfl⟩) (oW_rd hP) hK xN_bl (fun U _ hW => XN_warm hW hX) (ci := 5) rfl rfl rfl hl.1 rfl rfl (Nat.le_of_ble_eq_true rfl) dL_tries_223 ⟨Nat.zero_le _, Nat.zero_le _⟩ (fun r19_ er19_ => ?_)
                    obtain rfl : r19_ = kDv (g.2.1 p) := er19_.trans (sP_t hp)
                    refine lv_istore (lv' := [(9, .int (kDv (g.2.1 p))), (8, .int (kLv (g.2.1 p))), (7, .int 1), (6, .int ((g.2.1 p) 6)), (5, .int (kRs (g.2.1 p))), (4, .int (tD (g.2.1 p) (nI tk))), (3, .int (nI tk)), (2, .int (nI p)), (0, .ref z), (1, .int vx)]) hx hb dL_tries_226 hl (by decide) rfl (fun ls hl => ?_)
                    have hJ284 : ∀ (d8 : Nat → Nat → Nat) (n8 : Nat) (σ8 : Nat → SG) (gb8 : SG) (V8 : Nat → Int32) (G8 : Nat → Int64) (ls : Array Slot) (H : Heap) (locs : List Loc), (n8 ≤ 4) → va_P D vwCl (oW T z b1 b2 b3 h a q y d8 n8 σ8 g gb8 V8 G8) H → va_D A (oW T z b1 b2 b3 h a q y d8 n8 σ8 g gb8 V8 G8) → va_S A s.heap H locs → lv_has ls 10 [(9, .int (kDv (g.2.1 p))), (8, .int (kLv (g.2.1 p))), (7, .int 1), (6, .int ((g.2.1 p) 6)), (5, .int (kRs (g.2.1 p))), (4, .int (tD (g.2.1 p) (nI tk))), (3, .int (nI tk)), (2, .int (nI p)), (0, .ref z), (1, .int vx)] → W p_ l e rmL_tries s m args below meth c H locs 0 0 Q (F0 m 284 ls []) := by
                      intro d8 n8 σ8 gb8 V8 G8 ls H locs hn8 hP hD hS hl
                      refine lv_iconst (v := 1) hx hb dL_tries_284 (by decide) ?_
                      refine lv_goto (tgt := 289) hx hb dL_tries_285 (by decide) ?_
                      refine lv_istore (lv' := [(7, .int 1), (9, .int (kDv (g.2.1 p))), (8, .int (kLv (g.2.1 p))), (6, .int ((g.2.1 p) 6)), (5, .int (kRs (g.2.1 p))), (4, .int (tD (g.2.1 p) (nI tk))), (3, .int (nI tk)), (2, .int (nI p)), (0, .ref z), (1, .int vx)]) hx hb dL_tries_289 hl (by decide) rfl (fun ls hl => ?_)
                      refine lv_iload hx hb dL_tries_291 (lv_at hl 0 rfl) ?_
                      refine lv_if_eq (tgt := 381) hx hb dL_tries_293 (by decide) (fun c293 => ?_) (fun c293 => ?_)
                      · skip
                        exact absurd c293 (by decide)
                      · skip
                        have hJ365 : ∀ (d8 : Nat → Nat → Nat) (n8 : Nat) (σ8 : Nat → SG) (gb8 : SG) (V8 : Nat → Int32) (G8 : Nat → Int64) (ls : Array Slot) (H : Heap) (locs : List Loc), (n8 ≤ 4) → va_P D vwCl (oW T z b1 b2 b3 h a q y d8 n8 σ8 g gb8 V8 G8) H → va_D A (oW T z b1 b2 b3 h a q y d8 n8 σ8 g gb8 V8 G8) → va_S A s.heap H locs → lv_has ls 10 [(7, .int 1), (9, .int (kDv (g.2.1 p))), (8, .int (kLv (g.2.1 p))), (6, .int ((g.2.1 p) 6)), (5, .int (kRs (g.2.1 p))), (4, .int (tD (g.2.1 p) (nI tk))), (3, .int (nI tk)), (2, .int (nI p)), (0, .ref z), (1, .int vx)] → W p_ l e rmL_tries s m args below meth c H locs 0 0 Q (F0 m 365 ls []) := by
                          intro d8 n8 σ8 gb8 V8 G8 ls H locs hn8 hP hD hS hl
                          refine lv_aload_n hx hb dL_tries_365 rfl (lv_at hl 8 rfl) ?_
                          refine lv_iload_n hx hb dL_tries_366 rfl (lv_at hl 7 rfl) ?_
                          refine lv_bipush (v := 6) hx hb dL_tries_367 (by decide) ?_
                          refine callRi (As := [.int (nI p), .int 6]) ⟨hx, hb, hml, hown, hts⟩ (mX5_pair l T D z (b2 0) (b3 0) (h 0) a (y 0) 0 0 0 0 b1 g.1 g.2.1 g.2.2 hj.1 (nI p) 6) (cwV 2 hts gL_tries_X5_pair rfl rfl rfl pdX5_pair ⟨Nat.le_of_ble_eq_true rfl, Nat.le_of_ble_eq_true rfl⟩) (oW_rd hP) hK xN_bl (fun U _ hW => XN_warm hW hX) (ci := 5) rfl rfl rfl hl.1 rfl rfl (Nat.le_of_ble_eq_true rfl) dL_tries_369 ⟨Nat.zero_le _, Nat.zero_le _⟩ (fun r20_ er20_ => ?_)
                          obtain rfl : r20_ = (g.2.1 p) 6 := er20_.trans ((rp hp _).trans rfl)
                          refine lv_iload hx hb dL_tries_372 (lv_at hl 3 rfl) ?_
                          refine lv_icmp_ne (tgt := 381) hx hb dL_tries_374 (by decide) (fun c374 => ?_) (fun c374 => ?_)
                          · skip
                            exact absurd c374 (fun z => z (rfl))
                          · skip
                            refine lv_iconst (v := 1) hx hb dL_tries_377 (by decide) ?_
                            refine lv_goto (tgt := 382) hx hb dL_tries_378 (by decide) ?_
                            exact hret _ _ _ ((d8, n8, σ8), (g, gb8), V8, G8) _ _ dL_tries_382 hS hP hD (⟨rfl, rfl, hn8⟩)
                        refine lv_iload hx hb dL_tries_296 (lv_at hl 3 rfl) ?_
                        refine lv_bipush (v := 40) hx hb dL_tries_298 (by decide) ?_
                        refine lv_icmp_ne (tgt := 318) hx hb dL_tries_300 (by decide) (fun c300 => ?_) (fun c300 => ?_)
                        · skip
                          obtain ⟨d0, hd1, hd0⟩ := dp_nat (kOk_d (hj.1 p hp))
                          have h40 : d0 < 40 := by
                            by_cases c : d0 = 40
                            · subst c; exact absurd hd0 c300
                            · omega
                          rcases dv_spec (g.2.1 p) hd0 hd1 with ⟨edv, hdv⟩ | ⟨j9, hj9, edv, hin9, hmin9⟩
                          · skip
                            have hl : lv_has ls 10 [(7, .int 1), (9, .int (-5)), (8, .int (kLv (g.2.1 p))), (6, .int ((g.2.1 p) 6)), (5, .int (kRs (g.2.1 p))), (4, .int (tD (g.2.1 p) (nI tk))), (3, .int (nI tk)), (2, .int (nI p)), (0, .ref z), (1, .int vx)] := by rw [edv] at hl; exact hl
                            refine lv_iload hx hb dL_tries_318 (lv_at hl 1 rfl) ?_
                            refine lv_bipush (v := (-5)) hx hb dL_tries_320 (by decide) ?_
                            refine lv_icmp_ne (tgt := 338) hx hb dL_tries_322 (by decide) (fun c322 => ?_) (fun c322 => ?_)
                            · skip
                              exact absurd c322 (by decide)
                            · skip
                              refine lv_aload_n hx hb dL_tries_325 rfl (lv_at hl 8 rfl) ?_
                              refine lv_iload_n hx hb dL_tries_326 rfl (lv_at hl 7 rfl) ?_
                              refine lv_bipush (v := nI 30) hx hb dL_tries_327 (by decide) ?_
                              have hP : va_P D vwCl ((oW T z b1 b2 b3 h a q y d8 n8 σ8 g gb8 V8 G8) ++ []) H := by rw [List.append_nil]; exact hP
                              have hD : va_D A ((oW T z b1 b2 b3 h a q y d8 n8 σ8 g gb8 V8 G8) ++ []) := by rw [List.append_nil]; exact hD
                              refine callSm (As := [.ref z, .int (nI p), .int (nI 30)]) (wr := []) ⟨hx, hb, hml, hown, hts⟩ (mL_draws l T D z b1 b2 b3 h a q y d8 n8 σ8 g gb8 V8 G8 c0 hj hn8 p hp 30 (by decide) d0 h40 hd0) (va_cwS 3 hts gL_tries_L_draws rfl rfl rfl (pdL_draws).2 ⟨Nat.le_of_ble_eq_true rfl, Nat.le_of_ble_eq_true rfl⟩) hP hD hK hS hA xN_bl (fun U _ hW => XN_warm hW hX) hl.1 rfl rfl (Nat.le_of_ble_eq_true rfl) dL_tries_329 ⟨Nat.zero_le _, Nat.zero_le _⟩ (fun r22_ u23_ H locs eu23_ hP hD hS => ?_)
                              rw [List.append_nil] at hP hD
                              obtain ⟨⟨d20, n20, σ20⟩, ⟨g20, gb20⟩, V20, G20⟩ := u23_
                              obtain ⟨eb20, eg20, hn20⟩ := eu23_
                              have hP : va_P D vwCl (oW T z b1 b2 b3 h a q y d20 n20 σ20 g20 gb20 V20 G20) H := hP
                              have hD : va_D A (oW T z b1 b2 b3 h a q y d20 n20 σ20 g20 gb20 V20 G20) := hD
                              have eg20 : g20 = g := eg20
                              have hn20 : n20 ≤ 4 := hn20
                              have eg20 := eg20.symm
                              subst eg20
                              have hP : va_P D vwCl (oW T z b1 b2 b3 h a q y d20 n20 σ20 g gb20 V20 G20) H := hP
                              have hD : va_D A (oW T z b1 b2 b3 h a q y d20 n20 σ20 g gb20 V20 G20) := hD
                              refine lv_if_ne (tgt := 381) hx hb dL_tries_332 (by decide) (fun c332 => ?_) (fun c332 => ?_)
                              · skip
                                exact absurd c332 (fun z => hdv 30 (by decide) (bz_n0 eb20 z))
                              · skip
                                refine lv_goto (tgt := 365) hx hb dL_tries_335 (by decide) ?_
                                exact hJ365 d20 n20 σ20 gb20 V20 G20 ls H locs hn20 hP hD hS (by rw [edv]; exact lv_sub hl [0, 1, 2, 3, 4, 5, 6, 7, 8, 9] rfl)
                          · skip
                            have hl : lv_has ls 10 [(7, .int 1), (9, .int (nI j9)), (8, .int (kLv (g.2.1 p))), (6, .int ((g.2.1 p) 6)), (5, .int (kRs (g.2.1 p))), (4, .int (tD (g.2.1 p) (nI tk))), (3, .int (nI tk)), (2, .int (nI p)), (0, .ref z), (1, .int vx)] := by rw [edv] at hl; exact hl
                            refine lv_iload hx hb dL_tries_318 (lv_at hl 1 rfl) ?_
                            refine lv_bipush (v := (-5)) hx hb dL_tries_320 (by decide) ?_
                            refine lv_icmp_ne (tgt := 338) hx hb dL_tries_322 (by decide) (fun c322 => ?_) (fun c322 => ?_)
                            · skip
                              refine lv_aload_n hx hb dL_tries_338 rfl (lv_at hl 8 rfl) ?_
                              refine lv_iload_n hx hb dL_tries_339 rfl (lv_at hl 7 rfl) ?_
                              refine lv_iload hx hb dL_tries_340 (lv_at hl 1 rfl) ?_
                              have hP : va_P D vwCl ((oW T z b1 b2 b3 h a q y d8 n8 σ8 g gb8 V8 G8) ++ []) H := by rw [List.append_nil]; exact hP
                              have hD : va_D A ((oW T z b1 b2 b3 h a q y d8 n8 σ8 g gb8 V8 G8) ++ []) := by rw [List.append_nil]; exact hD
                              refine callSm (As := [.ref z, .int (nI p), .int (nI j9)]) (wr := []) ⟨hx, hb, hml, hown, hts⟩ (mL_draws l T D z b1 b2 b3 h a q y d8 n8 σ8 g gb8 V8 G8 c0 hj hn8 p hp j9 hj9 d0 h40 hd0) (va_cwS 3 hts gL_tries_L_draws rfl rfl rfl (pdL_draws).2 ⟨Nat.le_of_ble_eq_true rfl, Nat.le_of_ble_eq_true rfl⟩) hP hD hK hS hA xN_bl (fun U _ hW => XN_warm hW hX) hl.1 rfl rfl (Nat.le_of_ble_eq_true rfl) dL_tries_342 ⟨Nat.zero_le _, Nat.zero_le _⟩ (fun r25_ u26_ H locs eu26_ hP hD hS => ?_)
                              rw [List.append_nil] at hP hD
                              obtain ⟨⟨d23, n23, σ23⟩, ⟨g23, gb23⟩, V23, G23⟩ := u26_
                              obtain ⟨eb23, eg23, hn23⟩ := eu26_
                              have hP : va_P D vwCl (oW T z b1 b2 b3 h a q y d23 n23 σ23 g23 gb23 V23 G23) H := hP
                              have hD : va_D A (oW T z b1 b2 b3 h a q y d23 n23 σ23 g23 gb23 V23 G23) := hD
                              have eg23 : g23 = g := eg23
                              have hn23 : n23 ≤ 4 := hn23
                              have eg23 := eg23.symm
                              subst eg23
                              have hP : va_P D vwCl (oW T z b1 b2 b3 h a q y d23 n23 σ23 g gb23 V23 G23) H := hP
                              have hD : va_D A (oW T z b1 b2 b3 h a q y d23 n23 σ23 g gb23 V23 G23) := hD
                              refine lv_if_eq (tgt := 381) hx hb dL_tries_345 (by decide) (fun c345 => ?_) (fun c345 => ?_)
                              · skip
                                exact absurd c345 (fun z => bz_0 eb23 z hin9)
                              · skip
                                refine lv_iload hx hb dL_tries_348 (lv_at hl 1 rfl) ?_
                                refine lv_if_eq (tgt := 365) hx hb dL_tries_350 (by decide) (fun c350 => ?_) (fun c350 => ?_)
                                · skip
                                  exact hJ365 d23 n23 σ23 gb23 V23 G23 ls H locs hn23 hP hD hS (by rw [edv]; exact lv_sub hl [0, 1, 2, 3, 4, 5, 6, 7, 8, 9] rfl)
                                · skip
                                  have hj90 : 0 < j9 := by
                                    by_cases c : j9 = 0
                                    · subst c; exact absurd rfl c350
                                    · omega
                                  refine lv_aload_n hx hb dL_tries_353 rfl (lv_at hl 8 rfl) ?_
                                  refine lv_iload_n hx hb dL_tries_354 rfl (lv_at hl 7 rfl) ?_
                                  refine lv_iload hx hb dL_tries_355 (lv_at hl 1 rfl) ?_
                                  refine lv_iconst (v := nI 1) hx hb dL_tries_357 (by decide) ?_
                                  refine lv_isub hx hb dL_tries_358 ?_
                                  refine lv_tpi (z := nI (j9 - 1)) (pk_sub (by omega)) ?_
                                  have hP : va_P D vwCl ((oW T z b1 b2 b3 h a q y d23 n23 σ23 g gb23 V23 G23) ++ []) H := by rw [List.append_nil]; exact hP
                                  have hD : va_D A ((oW T z b1 b2 b3 h a q y d23 n23 σ23 g gb23 V23 G23) ++ []) := by rw [List.append_nil]; exact hD
                                  refine callSm (As := [.ref z, .int (nI p), .int (nI (j9 - 1))]) (wr := []) ⟨hx, hb, hml, hown, hts⟩ (mL_draws l T D z b1 b2 b3 h a q y d23 n23 σ23 g gb23 V23 G23 c0 hj hn23 p hp (j9 - 1) (by omega) d0 h40 hd0) (va_cwS 3 hts gL_tries_L_draws rfl rfl rfl (pdL_draws).2 ⟨Nat.le_of_ble_eq_true rfl, Nat.le_of_ble_eq_true rfl⟩) hP hD hK hS hA xN_bl (fun U _ hW => XN_warm hW hX) hl.1 rfl rfl (Nat.le_of_ble_eq_true rfl) dL_tries_359 ⟨Nat.zero_le _, Nat.zero_le _⟩ (fun r28_ u29_ H locs eu29_ hP hD hS => ?_)
                                  rw [List.append_nil] at hP hD
                                  obtain ⟨⟨d26, n26, σ26⟩, ⟨g26, gb26⟩, V26, G26⟩ := u29_
                                  obtain ⟨eb26, eg26, hn26⟩ := eu29_
                                  have hP : va_P D vwCl (oW T z b1 b2 b3 h a q y d26 n26 σ26 g26 gb26 V26 G26) H := hP
                                  have hD : va_D A (oW T z b1 b2 b3 h a q y d26 n26 σ26 g26 gb26 V26 G26) := hD
                                  have eg26 : g26 = g := eg26
                                  have hn26 : n26 ≤ 4 := hn26
                                  have eg26 := eg26.symm
                                  subst eg26
                                  have hP : va_P D vwCl (oW T z b1 b2 b3 h a q y d26 n26 σ26 g gb26 V26 G26) H := hP
                                  have hD : va_D A (oW T z b1 b2 b3 h a q y d26 n26 σ26 g gb26 V26 G26) := hD
                                  refine lv_if_ne (tgt := 381) hx hb dL_tries_362 (by decide) (fun c362 => ?_) (fun c362 => ?_)
                                  · skip
                                    exact absurd c362 (fun z => hmin9 (j9 - 1) (by omega) (bz_n0 eb26 z))
                                  · skip
                                    exact hJ365 d26 n26 σ26 gb26 V26 G26 ls H locs hn26 hP hD hS (by rw [edv]; exact lv_sub hl [0, 1, 2, 3, 4, 5, 6, 7, 8, 9] rfl)
                            · skip
                              exact absurd c322 (nI_nm5 (by omega))
                        · skip
                          refine lv_iload hx hb dL_tries_303 (lv_at hl 1 rfl) ?_
                          refine lv_if_ne (tgt := 381) hx hb dL_tries_305 (by decide) (fun c305 => ?_) (fun c305 => ?_)
                          · skip
                            exact absurd c305 (fun z => z (dv_40 c300))
                          · skip
                            refine lv_iload hx hb dL_tries_308 (lv_at hl 2 rfl) ?_
                            refine lv_bipush (v := (-5)) hx hb dL_tries_310 (by decide) ?_
                            refine lv_icmp_ne (tgt := 381) hx hb dL_tries_312 (by decide) (fun c312 => ?_) (fun c312 => ?_)
                            · skip
                              exact absurd c312 (fun z => z (lv_40 (hj.1 p hp) c300))
                            · skip
                              refine lv_goto (tgt := 365) hx hb dL_tries_315 (by decide) ?_
                              exact hJ365 d8 n8 σ8 gb8 V8 G8 ls H locs hn8 hP hD hS (lv_sub hl [0, 1, 2, 3, 4, 5, 6, 7, 8, 9] rfl)
                    rcases lv_spec (g.2.1 p) with ⟨elv, hlv⟩ | ⟨j8, hj8, elv, hin8, hmin8⟩
                    · skip
                      have hl : lv_has ls 10 [(9, .int (kDv (g.2.1 p))), (8, .int (-5)), (7, .int 1), (6, .int ((g.2.1 p) 6)), (5, .int (kRs (g.2.1 p))), (4, .int (tD (g.2.1 p) (nI tk))), (3, .int (nI tk)), (2, .int (nI p)), (0, .ref z), (1, .int vx)] := by rw [elv] at hl; exact hl
                      refine lv_iload hx hb dL_tries_228 (lv_at hl 2 rfl) ?_
                      refine lv_if_eq (tgt := 288) hx hb dL_tries_230 (by decide) (fun c230 => ?_) (fun c230 => ?_)
                      · skip
                        exact absurd c230 (by decide)
                      · skip
                        refine lv_iload hx hb dL_tries_233 (lv_at hl 1 rfl) ?_
                        refine lv_bipush (v := (-5)) hx hb dL_tries_235 (by decide) ?_
                        refine lv_icmp_eq (tgt := 267) hx hb dL_tries_237 (by decide) (fun c237 => ?_) (fun c237 => ?_)
                        · skip
                          refine lv_iload hx hb dL_tries_267 (lv_at hl 1 rfl) ?_
                          refine lv_bipush (v := (-5)) hx hb dL_tries_269 (by decide) ?_
                          refine lv_icmp_ne (tgt := 284) hx hb dL_tries_271 (by decide) (fun c271 => ?_) (fun c271 => ?_)
                          · skip
                            exact absurd c271 (by decide)
                          · skip
                            refine lv_aload_n hx hb dL_tries_274 rfl (lv_at hl 8 rfl) ?_
                            refine lv_iload_n hx hb dL_tries_275 rfl (lv_at hl 7 rfl) ?_
                            refine lv_bipush (v := nI 30) hx hb dL_tries_276 (by decide) ?_
                            have hP : va_P D vwCl ((oW T z b1 b2 b3 h a q y d8 n8 σ8 g gb8 V8 G8) ++ []) H := by rw [List.append_nil]; exact hP
                            have hD : va_D A ((oW T z b1 b2 b3 h a q y d8 n8 σ8 g gb8 V8 G8) ++ []) := by rw [List.append_nil]; exact hD
                            refine callSm (As := [.ref z, .int (nI p), .int (nI 30)]) (wr := []) ⟨hx, hb, hml, hown, hts⟩ (mL_moves l T D z b1 b2 b3 h a q y d8 n8 σ8 g gb8 V8 G8 c0 hj hn8 p hp 30 (by decide)) (va_cwS 3 hts gL_tries_L_moves rfl rfl rfl (pdL_moves).2 ⟨Nat.le_of_ble_eq_true rfl, Nat.le_of_ble_eq_true rfl⟩) hP hD hK hS hA xN_bl (fun U _ hW => XN_warm hW hX) hl.1 rfl rfl (Nat.le_of_ble_eq_true rfl) dL_tries_278 ⟨Nat.zero_le _, Nat.zero_le _⟩ (fun r31_ u32_ H locs eu32_ hP hD hS => ?_)
                            rw [List.append_nil] at hP hD
                            obtain ⟨⟨d29, n29, σ29⟩, ⟨g29, gb29⟩, V29, G29⟩ := u32_
                            obtain ⟨eb29, eg29, hn29⟩ := eu32_
                            have hP : va_P D vwCl (oW T z b1 b2 b3 h a q y d29 n29 σ29 g29 gb29 V29 G29) H := hP
                            have hD : va_D A (oW T z b1 b2 b3 h a q y d29 n29 σ29 g29 gb29 V29 G29) := hD
                            have eg29 : g29 = g := eg29
                            have hn29 : n29 ≤ 4 := hn29
                            have eg29 := eg29.symm
                            subst eg29
                            have hP : va_P D vwCl (oW T z b1 b2 b3 h a q y d29 n29 σ29 g gb29 V29 G29) H := hP
                            have hD : va_D A (oW T z b1 b2 b3 h a q y d29 n29 σ29 g gb29 V29 G29) := hD
                            refine lv_if_ne (tgt := 288) hx hb dL_tries_281 (by decide) (fun c281 => ?_) (fun c281 => ?_)
                            · skip
                              exact absurd c281 (fun z => hlv 30 (by decide) (bz_n0 eb29 z))
                            · skip
                              exact hJ284 d29 n29 σ29 gb29 V29 G29 ls H locs hn29 hP hD hS (by rw [elv]; exact lv_sub hl [0, 1, 2, 3, 4, 5, 6, 7, 8, 9] rfl)
                        · skip
                          exact absurd c237 (by decide)
                    · skip
                      have hl : lv_has ls 10 [(9, .int (kDv (g.2.1 p))), (8, .int (nI j8)), (7, .int 1), (6, .int ((g.2.1 p) 6)), (5, .int (kRs (g.2.1 p))), (4, .int (tD (g.2.1 p) (nI tk))), (3, .int (nI tk)), (2, .int (nI p)), (0, .ref z), (1, .int vx)] := by rw [elv] at hl; exact hl
                      refine lv_iload hx hb dL_tries_228 (lv_at hl 2 rfl) ?_
                      refine lv_if_eq (tgt := 288) hx hb dL_tries_230 (by decide) (fun c230 => ?_) (fun c230 => ?_)
                      · skip
                        exact absurd c230 (by decide)
                      · skip
                        refine lv_iload hx hb dL_tries_233 (lv_at hl 1 rfl) ?_
                        refine lv_bipush (v := (-5)) hx hb dL_tries_235 (by decide) ?_
                        refine lv_icmp_eq (tgt := 267) hx hb dL_tries_237 (by decide) (fun c237 => ?_) (fun c237 => ?_)
                        · skip
                          exact absurd c237 (nI_nm5 (by omega))
                        · skip
                          refine lv_aload_n hx hb dL_tries_240 rfl (lv_at hl 8 rfl) ?_
                          refine lv_iload_n hx hb dL_tries_241 rfl (lv_at hl 7 rfl) ?_
                          refine lv_iload hx hb dL_tries_242 (lv_at hl 1 rfl) ?_
                          have hP : va_P D vwCl ((oW T z b1 b2 b3 h a q y d8 n8 σ8 g gb8 V8 G8) ++ []) H := by rw [List.append_nil]; exact hP
                          have hD : va_D A ((oW T z b1 b2 b3 h a q y d8 n8 σ8 g gb8 V8 G8) ++ []) := by rw [List.append_nil]; exact hD
                          refine callSm (As := [.ref z, .int (nI p), .int (nI j8)]) (wr := []) ⟨hx, hb, hml, hown, hts⟩ (mL_moves l T D z b1 b2 b3 h a q y d8 n8 σ8 g gb8 V8 G8 c0 hj hn8 p hp j8 hj8) (va_cwS 3 hts gL_tries_L_moves rfl rfl rfl (pdL_moves).2 ⟨Nat.le_of_ble_eq_true rfl, Nat.le_of_ble_eq_true rfl⟩) hP hD hK hS hA xN_bl (fun U _ hW => XN_warm hW hX) hl.1 rfl rfl (Nat.le_of_ble_eq_true rfl) dL_tries_244 ⟨Nat.zero_le _, Nat.zero_le _⟩ (fun r34_ u35_ H locs eu35_ hP hD hS => ?_)
                          rw [List.append_nil] at hP hD
                          obtain ⟨⟨d32, n32, σ32⟩, ⟨g32, gb32⟩, V32, G32⟩ := u35_
                          obtain ⟨eb32, eg32, hn32⟩ := eu35_
                          have hP : va_P D vwCl (oW T z b1 b2 b3 h a q y d32 n32 σ32 g32 gb32 V32 G32) H := hP
                          have hD : va_D A (oW T z b1 b2 b3 h a q y d32 n32 σ32 g32 gb32 V32 G32) := hD
                          have eg32 : g32 = g := eg32
                          have hn32 : n32 ≤ 4 := hn32
                          have eg32 := eg32.symm
                          subst eg32
                          have hP : va_P D vwCl (oW T z b1 b2 b3 h a q y d32 n32 σ32 g gb32 V32 G32) H := hP
                          have hD : va_D A (oW T z b1 b2 b3 h a q y d32 n32 σ32 g gb32 V32 G32) := hD
                          refine lv_if_eq (tgt := 288) hx hb dL_tries_247 (by decide) (fun c247 => ?_) (fun c247 => ?_)
                          · skip
                            exact absurd c247 (fun z => bz_0 eb32 z hin8)
                          · skip
                            refine lv_iload hx hb dL_tries_250 (lv_at hl 1 rfl) ?_
                            refine lv_if_eq (tgt := 267) hx hb dL_tries_252 (by decide) (fun c252 => ?_) (fun c252 => ?_)
                            · skip
                              refine lv_iload hx hb dL_tries_267 (lv_at hl 1 rfl) ?_
                              refine lv_bipush (v := (-5)) hx hb dL_tries_269 (by decide) ?_
                              refine lv_icmp_ne (tgt := 284) hx hb dL_tries_271 (by decide) (fun c271 => ?_) (fun c271 => ?_)
                              · skip
                                exact hJ284 d32 n32 σ32 gb32 V32 G32 ls H locs hn32 hP hD hS (by rw [elv]; exact lv_sub hl [0, 1, 2, 3, 4, 5, 6, 7, 8, 9] rfl)
                              · skip
                                exact absurd c271 (nI_nm5 (by omega))
                            · skip
                              have hj80 : 0 < j8 := by
                                by_cases c : j8 = 0
                                · subst c; exact absurd rfl c252
                                · omega
                              refine lv_aload_n hx hb dL_tries_255 rfl (lv_at hl 8 rfl) ?_
                              refine lv_iload_n hx hb dL_tries_256 rfl (lv_at hl 7 rfl) ?_
                              refine lv_iload hx hb dL_tries_257 (lv_at hl 1 rfl) ?_
                              refine lv_iconst (v := nI 1) hx hb dL_tries_259 (by decide) ?_
                              refine lv_isub hx hb dL_tries_260 ?_
                              refine lv_tpi (z := nI (j8 - 1)) (pk_sub (by omega)) ?_
                              have hP : va_P D vwCl ((oW T z b1 b2 b3 h a q y d32 n32 σ32 g gb32 V32 G32) ++ []) H := by rw [List.append_nil]; exact hP
                              have hD : va_D A ((oW T z b1 b2 b3 h a q y d32 n32 σ32 g gb32 V32 G32) ++ []) := by rw [List.append_nil]; exact hD
                              refine callSm (As := [.ref z, .int (nI p), .int (nI (j8 - 1))]) (wr := []) ⟨hx, hb, hml, hown, hts⟩ (mL_moves l T D z b1 b2 b3 h a q y d32 n32 σ32 g gb32 V32 G32 c0 hj hn32 p hp (j8 - 1) (by omega)) (va_cwS 3 hts gL_tries_L_moves rfl rfl rfl (pdL_moves).2 ⟨Nat.le_of_ble_eq_true rfl, Nat.le_of_ble_eq_true rfl⟩) hP hD hK hS hA xN_bl (fun U _ hW => XN_warm hW hX) hl.1 rfl rfl (Nat.le_of_ble_eq_true rfl) dL_tries_261 ⟨Nat.zero_le _, Nat.zero_le _⟩ (fun r37_ u38_ H locs eu38_ hP hD hS => ?_)
                              rw [List.append_nil] at hP hD
                              obtain ⟨⟨d35, n35, σ35⟩, ⟨g35, gb35⟩, V35, G35⟩ := u38_
                              obtain ⟨eb35, eg35, hn35⟩ := eu38_
                              have hP : va_P D vwCl (oW T z b1 b2 b3 h a q y d35 n35 σ35 g35 gb35 V35 G35) H := hP
                              have hD : va_D A (oW T z b1 b2 b3 h a q y d35 n35 σ35 g35 gb35 V35 G35) := hD
                              have eg35 : g35 = g := eg35
                              have hn35 : n35 ≤ 4 := hn35
                              have eg35 := eg35.symm
                              subst eg35
                              have hP : va_P D vwCl (oW T z b1 b2 b3 h a q y d35 n35 σ35 g gb35 V35 G35) H := hP
                              have hD : va_D A (oW T z b1 b2 b3 h a q y d35 n35 σ35 g gb35 V35 G35) := hD
                              refine lv_if_ne (tgt := 288) hx hb dL_tries_264 (by decide) (fun c264 => ?_) (fun c264 => ?_)
                              · skip
                                exact absurd c264 (fun z => hmin8 (j8 - 1) (by omega) (bz_n0 eb35 z))
                              · skip
                                refine lv_iload hx hb dL_tries_267 (lv_at hl 1 rfl) ?_
                                refine lv_bipush (v := (-5)) hx hb dL_tries_269 (by decide) ?_
                                refine lv_icmp_ne (tgt := 284) hx hb dL_tries_271 (by decide) (fun c271 => ?_) (fun c271 => ?_)
                                · skip
                                  exact hJ284 d35 n35 σ35 gb35 V35 G35 ls H locs hn35 hP hD hS (by rw [elv]; exact lv_sub hl [0, 1, 2, 3, 4, 5, 6, 7, 8, 9] rfl)
                                · skip
                                  exact absurd c271 (nI_nm5 (by omega))
                  refine lv_iload hx hb dL_tries_178 (lv_at hl 2 rfl) ?_
                  refine lv_if_ne (tgt := 187) hx hb dL_tries_180 (by decide) (fun c180 => ?_) (fun c180 => ?_)
                  · skip
                    refine lv_iconst (v := 0) hx hb dL_tries_187 (by decide) ?_
                    refine lv_aload_n hx hb dL_tries_188 rfl (lv_at hl 6 rfl) ?_
                    refine lv_iload_n hx hb dL_tries_189 rfl (lv_at hl 5 rfl) ?_
                    refine lv_iconst (v := 1) hx hb dL_tries_190 (by decide) ?_
                    have hP := dp_P hP
                    have hD := dp_D hD
                    refine callMi (As := [.int (nI p), .int 1]) (wr := fl [hiW T h d8 n8 σ8, sgW T b2 gb8, sgW T b3 sg0, siZ T y]) ⟨hx, hb, hml, hown, hts⟩ (mX5_depthIn l T D z (b2 0) (b3 0) (h 0) (y 0) 0 0 0 0 b1 g.1 g.2.1 g.2.2 hj.1 a q V8 G8 (nI p) 1) (cwV 2 hts gL_tries_X5_depthIn rfl rfl rfl pdX5_depthIn ⟨Nat.le_of_ble_eq_true rfl, Nat.le_of_ble_eq_true rfl⟩) hP hD hK hS hA xN_bl (fun U _ hW => XN_warm hW hX) (ci := 5) rfl rfl rfl hl.1 rfl rfl (Nat.le_of_ble_eq_true rfl) dL_tries_191 ⟨Nat.zero_le _, Nat.zero_le _⟩ (fun r39_ u40_ H locs eu40_ hP hD hS hkf => ?_)
                    obtain ⟨V40, G40⟩ := u40_
                    have hP : va_P D vwCl (oW T z b1 b2 b3 h a q y d8 n8 σ8 g gb8 V40 G40) H := pd_P hP
                    have hD : va_D A (oW T z b1 b2 b3 h a q y d8 n8 σ8 g gb8 V40 G40) := pd_D hD
                    obtain rfl : r39_ = tD (g.2.1 p) 1 := eu40_.trans (sP_t hp)
                    refine lv_iload hx hb dL_tries_194 (lv_at hl 1 rfl) ?_
                    refine lv_icmp_ne (tgt := 203) hx hb dL_tries_196 (by decide) (fun c196 => ?_) (fun c196 => ?_)
                    · skip
                      refine lv_iconst (v := 0) hx hb dL_tries_203 (by decide) ?_
                      refine lv_icmp_ne (tgt := 211) hx hb dL_tries_204 (by decide) (fun c204 => ?_) (fun c204 => ?_)
                      · skip
                        exact absurd c204 (by decide)
                      · skip
                        refine lv_iconst (v := 1) hx hb dL_tries_207 (by decide) ?_
                        refine lv_goto (tgt := 212) hx hb dL_tries_208 (by decide) ?_
                        exact hJ212 V40 G40 ls H locs hP hD hS hl
                    · skip
                      exact absurd c196 (fun z => c180 (rs_iff.mpr ((td_1i _).mp z)))
                  · skip
                    refine lv_iconst (v := 1) hx hb dL_tries_183 (by decide) ?_
                    refine lv_goto (tgt := 188) hx hb dL_tries_184 (by decide) ?_
                    refine lv_aload_n hx hb dL_tries_188 rfl (lv_at hl 6 rfl) ?_
                    refine lv_iload_n hx hb dL_tries_189 rfl (lv_at hl 5 rfl) ?_
                    refine lv_iconst (v := 1) hx hb dL_tries_190 (by decide) ?_
                    have hP := dp_P hP
                    have hD := dp_D hD
                    refine callMi (As := [.int (nI p), .int 1]) (wr := fl [hiW T h d8 n8 σ8, sgW T b2 gb8, sgW T b3 sg0, siZ T y]) ⟨hx, hb, hml, hown, hts⟩ (mX5_depthIn l T D z (b2 0) (b3 0) (h 0) (y 0) 0 0 0 0 b1 g.1 g.2.1 g.2.2 hj.1 a q V8 G8 (nI p) 1) (cwV 2 hts gL_tries_X5_depthIn rfl rfl rfl pdX5_depthIn ⟨Nat.le_of_ble_eq_true rfl, Nat.le_of_ble_eq_true rfl⟩) hP hD hK hS hA xN_bl (fun U _ hW => XN_warm hW hX) (ci := 5) rfl rfl rfl hl.1 rfl rfl (Nat.le_of_ble_eq_true rfl) dL_tries_191 ⟨Nat.zero_le _, Nat.zero_le _⟩ (fun r42_ u43_ H locs eu43_ hP hD hS hkf => ?_)
                    obtain ⟨V43, G43⟩ := u43_
                    have hP : va_P D vwCl (oW T z b1 b2 b3 h a q y d8 n8 σ8 g gb8 V43 G43) H := pd_P hP
                    have hD : va_D A (oW T z b1 b2 b3 h a q y d8 n8 σ8 g gb8 V43 G43) := pd_D hD
                    obtain rfl : r42_ = tD (g.2.1 p) 1 := eu43_.trans (sP_t hp)
                    refine lv_iload hx hb dL_tries_194 (lv_at hl 1 rfl) ?_
                    refine lv_icmp_ne (tgt := 203) hx hb dL_tries_196 (by decide) (fun c196 => ?_) (fun c196 => ?_)
                    · skip
                      exact absurd c196 (fun z => z ((td_1i _).mpr (rs_iff.mp c180)))
                    · skip
                      refine lv_iconst (v := 1) hx hb dL_tries_199 (by decide) ?_
                      refine lv_goto (tgt := 204) hx hb dL_tries_200 (by decide) ?_
                      refine lv_icmp_ne (tgt := 211) hx hb dL_tries_204 (by decide) (fun c204 => ?_) (fun c204 => ?_)
                      · skip
                        exact absurd c204 (by decide)
                      · skip
                        refine lv_iconst (v := 1) hx hb dL_tries_207 (by decide) ?_
                        refine lv_goto (tgt := 212) hx hb dL_tries_208 (by decide) ?_
                        exact hJ212 V43 G43 ls H locs hP hD hS hl
              refine lv_iload hx hb dL_tries_114 (lv_at hl 2 rfl) ?_
              refine lv_if_le (tgt := 173) hx hb dL_tries_116 (by decide) (fun c116 => ?_) (fun c116 => ?_)
              · skip
                exact hJ173 (hiD n d) (rcN n - 1) (hiS n σ g) g V8 G8 ls H locs hn15 hP hD hS (lv_sub hl [0, 1, 2, 3, 4, 5, 6, 7] rfl)
              · skip
                refine lv_iload hx hb dL_tries_119 (lv_at hl 2 rfl) ?_
                refine lv_bipush (v := 99) hx hb dL_tries_121 (by decide) ?_
                refine lv_icmp_gt (tgt := 173) hx hb dL_tries_123 (by decide) (fun c123 => ?_) (fun c123 => ?_)
                · skip
                  exact hJ173 (hiD n d) (rcN n - 1) (hiS n σ g) g V8 G8 ls H locs hn15 hP hD hS (lv_sub hl [0, 1, 2, 3, 4, 5, 6, 7] rfl)
                · skip
                  refine lv_aload_n hx hb dL_tries_126 rfl (lv_at hl 6 rfl) ?_
                  obtain ⟨r9, hr1, hr2, er9, hb9⟩ := rs_rng c116 c123
                  refine lv_iload hx hb dL_tries_127 (lv_at hl 2 rfl) ?_
                  refine lv_tpi (z := nI r9) (er9) ?_
                  have hP := fP4.mp hP
                  have hD := fD4.mp hD
                  refine callMi (As := [.int (nI r9)]) (wr := fl [sgW T b3 sg0, plW T a q V8 G8, siZ T y]) ⟨hx, hb, hml, hown, hts⟩ (mX5_pass l T D z b1 b2 (b3 0) a (y 0) 0 0 0 0 h (hiD n d) (rcN n - 1) (hiS n σ g) g g hn15 hj.1 (nI r9)) (cwV 1 hts gL_tries_X5_pass rfl rfl rfl pdX5_pass ⟨Nat.le_of_ble_eq_true rfl, Nat.le_of_ble_eq_true rfl⟩) hP hD hK hS hA xN_bl (fun U _ hW => XN_warm hW hX) (ci := 5) rfl rfl rfl hl.1 rfl rfl (Nat.le_of_ble_eq_true rfl) dL_tries_129 ⟨Nat.zero_le _, Nat.zero_le _⟩ (fun r45_ u46_ H locs eu46_ hP hD hS hkf => ?_)
                  obtain ⟨g46, q46⟩ := u46_
                  obtain ⟨er46, eq46⟩ := eu46_
                  have eg46 : g46 = (oPs (nI r9) g).2 := congrArg Prod.fst eq46
                  have eq46 : q46 = if 0 ≤ (oPs (nI r9) g).1 then (hiD (rcN n - 1) (hiD n d), rcN (rcN n - 1), hiS (rcN n - 1) (hiS n σ g) g) else ((hiD n d), (rcN n - 1), (hiS n σ g)) := congrArg Prod.snd eq46
                  have hP : va_P D vwCl (oW T z b1 b2 b3 h a q y q46.1 q46.2.1 q46.2.2 g46 g V8 G8) H := fP4.mpr hP
                  have hD : va_D A (oW T z b1 b2 b3 h a q y q46.1 q46.2.1 q46.2.2 g46 g V8 G8) := fD4.mpr hD
                  have hn46 : q46.2.1 ≤ 4 := qn_le hn15 eq46
                  have hj46 : jOk (c0 + r9) g46 := by rw [eg46]; exact (aOk_pass hj (n := r9) (by omega) (by omega) (by omega)).2
                  have h0r9 : 0 ≤ r45_ := by rw [er46]; exact pass_0 hj (n := r9) (by omega) (by omega) (by omega)
                  have hatr9 : g46.2.1 p = tIt (g.2.1 p) r9 := by rw [eg46]; exact ps_at hj (by omega) (by omega) (by omega) hp
                  rw [if_pos (pass_0 hj (n := r9) (by omega) (by omega) (by omega))] at eq46
                  subst eq46
                  have hP : va_P D vwCl (oW T z b1 b2 b3 h a q y (hiD (rcN n - 1) (hiD n d)) (rcN (rcN n - 1)) (hiS (rcN n - 1) (hiS n σ g) g) g46 g V8 G8) H := hP
                  have hD : va_D A (oW T z b1 b2 b3 h a q y (hiD (rcN n - 1) (hiD n d)) (rcN (rcN n - 1)) (hiS (rcN n - 1) (hiS n σ g) g) g46 g V8 G8) := hD
                  have hn46 : rcN (rcN n - 1) ≤ 4 := hn46
                  refine lv_if_lt (tgt := 170) hx hb dL_tries_132 (by decide) (fun c132 => ?_) (fun c132 => ?_)
                  · skip
                    exact absurd c132 (Int32.not_lt.mpr h0r9)
                  · skip
                    refine lv_aload_n hx hb dL_tries_135 rfl (lv_at hl 6 rfl) ?_
                    refine lv_iload_n hx hb dL_tries_136 rfl (lv_at hl 5 rfl) ?_
                    have hP := dp_P hP
                    have hD := dp_D hD
                    refine callMi (As := [.int (nI p)]) (wr := fl [hiW T h (hiD (rcN n - 1) (hiD n d)) (rcN (rcN n - 1)) (hiS (rcN n - 1) (hiS n σ g) g), sgW T b2 g, sgW T b3 sg0, siZ T y]) ⟨hx, hb, hml, hown, hts⟩ (mX5_restsIn l T D z (b2 0) (b3 0) (h 0) (y 0) 0 0 0 0 b1 g46.1 g46.2.1 g46.2.2 hj46.1 a q V8 G8 (nI p)) (cwV 1 hts gL_tries_X5_restsIn rfl rfl rfl pdX5_restsIn ⟨Nat.le_of_ble_eq_true rfl, Nat.le_of_ble_eq_true rfl⟩) hP hD hK hS hA xN_bl (fun U _ hW => XN_warm hW hX) (ci := 5) rfl rfl rfl hl.1 rfl rfl (Nat.le_of_ble_eq_true rfl) dL_tries_137 ⟨Nat.zero_le _, Nat.zero_le _⟩ (fun r48_ u49_ H locs eu49_ hP hD hS hkf => ?_)
                    obtain ⟨V49, G49⟩ := u49_
                    have hP : va_P D vwCl (oW T z b1 b2 b3 h a q y (hiD (rcN n - 1) (hiD n d)) (rcN (rcN n - 1)) (hiS (rcN n - 1) (hiS n σ g) g) g46 g V49 G49) H := pd_P hP
                    have hD : va_D A (oW T z b1 b2 b3 h a q y (hiD (rcN n - 1) (hiD n d)) (rcN (rcN n - 1)) (hiS (rcN n - 1) (hiS n σ g) g) g46 g V49 G49) := pd_D hD
                    obtain rfl : r48_ = kRs (g46.2.1 p) := eu49_.trans (sP_t hp)
                    refine lv_if_ne (tgt := 170) hx hb dL_tries_140 (by decide) (fun c140 => ?_) (fun c140 => ?_)
                    · skip
                      exact absurd c140 (fun z => z (by rw [hatr9]; exact rs_0 ((gBy_it _ _).trans hb9)))
                    · skip
                      refine lv_aload_n hx hb dL_tries_143 rfl (lv_at hl 6 rfl) ?_
                      refine lv_iload_n hx hb dL_tries_144 rfl (lv_at hl 5 rfl) ?_
                      refine lv_iconst (v := 1) hx hb dL_tries_145 (by decide) ?_
                      have hP := dp_P hP
                      have hD := dp_D hD
                      refine callMi (As := [.int (nI p), .int 1]) (wr := fl [hiW T h (hiD (rcN n - 1) (hiD n d)) (rcN (rcN n - 1)) (hiS (rcN n - 1) (hiS n σ g) g), sgW T b2 g, sgW T b3 sg0, siZ T y]) ⟨hx, hb, hml, hown, hts⟩ (mX5_depthIn l T D z (b2 0) (b3 0) (h 0) (y 0) 0 0 0 0 b1 g46.1 g46.2.1 g46.2.2 hj46.1 a q V49 G49 (nI p) 1) (cwV 2 hts gL_tries_X5_depthIn rfl rfl rfl pdX5_depthIn ⟨Nat.le_of_ble_eq_true rfl, Nat.le_of_ble_eq_true rfl⟩) hP hD hK hS hA xN_bl (fun U _ hW => XN_warm hW hX) (ci := 5) rfl rfl rfl hl.1 rfl rfl (Nat.le_of_ble_eq_true rfl) dL_tries_146 ⟨Nat.zero_le _, Nat.zero_le _⟩ (fun r51_ u52_ H locs eu52_ hP hD hS hkf => ?_)
                      obtain ⟨V52, G52⟩ := u52_
                      have hP : va_P D vwCl (oW T z b1 b2 b3 h a q y (hiD (rcN n - 1) (hiD n d)) (rcN (rcN n - 1)) (hiS (rcN n - 1) (hiS n σ g) g) g46 g V52 G52) H := pd_P hP
                      have hD : va_D A (oW T z b1 b2 b3 h a q y (hiD (rcN n - 1) (hiD n d)) (rcN (rcN n - 1)) (hiS (rcN n - 1) (hiS n σ g) g) g46 g V52 G52) := pd_D hD
                      obtain rfl : r51_ = tD (g46.2.1 p) 1 := eu52_.trans (sP_t hp)
                      refine lv_aload_n hx hb dL_tries_149 rfl (lv_at hl 6 rfl) ?_
                      refine lv_iload_n hx hb dL_tries_150 rfl (lv_at hl 5 rfl) ?_
                      refine lv_bipush (v := 6) hx hb dL_tries_151 (by decide) ?_
                      refine callRi (As := [.int (nI p), .int 6]) ⟨hx, hb, hml, hown, hts⟩ (mX5_pair l T D z (b2 0) (b3 0) (h 0) a (y 0) 0 0 0 0 b1 g46.1 g46.2.1 g46.2.2 hj46.1 (nI p) 6) (cwV 2 hts gL_tries_X5_pair rfl rfl rfl pdX5_pair ⟨Nat.le_of_ble_eq_true rfl, Nat.le_of_ble_eq_true rfl⟩) (oW_rd hP) hK xN_bl (fun U _ hW => XN_warm hW hX) (ci := 5) rfl rfl rfl hl.1 rfl rfl (Nat.le_of_ble_eq_true rfl) dL_tries_153 ⟨Nat.zero_le _, Nat.zero_le _⟩ (fun r54_ er54_ => ?_)
                      obtain rfl : r54_ = (g46.2.1 p) 6 := er54_.trans ((rp hp _).trans rfl)
                      refine lv_icmp_ne (tgt := 170) hx hb dL_tries_156 (by decide) (fun c156 => ?_) (fun c156 => ?_)
                      · skip
                        exact absurd c156 (fun z => z (by rw [hatr9]; exact (td_1i _).mpr ((gBy_it _ _).trans hb9)))
                      · skip
                        refine lv_aload_n hx hb dL_tries_159 rfl (lv_at hl 6 rfl) ?_
                        have hP := fP3.mp hP
                        have hD := fD3.mp hD
                        refine callMi (As := []) (wr := fl [sgW T b2 g, sgW T b3 sg0, plW T a q V52 G52, siZ T y]) ⟨hx, hb, hml, hown, hts⟩ (mX5_undo l T D z b1 (b2 0) (b3 0) a (y 0) 0 0 0 0 h (hiD (rcN n - 1) (hiD n d)) (rcN (rcN n - 1)) (hiS (rcN n - 1) (hiS n σ g) g) g46 hn46 (fun _ => by rw [hi_top]; exact hj.1)) (cwV 0 hts gL_tries_X5_undo rfl rfl rfl pdX5_undo ⟨Nat.le_of_ble_eq_true rfl, Nat.le_of_ble_eq_true rfl⟩) hP hD hK hS hA xN_bl (fun U _ hW => XN_warm hW hX) (ci := 5) rfl rfl rfl hl.1 rfl rfl (Nat.le_of_ble_eq_true rfl) dL_tries_160 ⟨Nat.zero_le _, Nat.zero_le _⟩ (fun r55_ u56_ H locs eu56_ hP hD hS hkf => ?_)
                        obtain ⟨eu1, eu2⟩ := un_is eu56_
                        subst eu1
                        subst eu2
                        have hP : va_P D vwCl (oW T z b1 b2 b3 h a q y (hiD (rcN n - 1) (hiD n d)) (rcN (rcN n - 1) - 1) (hiS (rcN n - 1) (hiS n σ g) g) g g V52 G52) H := fP3.mpr hP
                        have hD : va_D A (oW T z b1 b2 b3 h a q y (hiD (rcN n - 1) (hiD n d)) (rcN (rcN n - 1) - 1) (hiS (rcN n - 1) (hiS n σ g) g) g g V52 G52) := fD3.mpr hD
                        have hn56 : rcN (rcN n - 1) - 1 ≤ 4 := Nat.le_trans (Nat.sub_le _ _) hn46
                        refine lv_if_lt (tgt := 170) hx hb dL_tries_163 (by decide) (fun c163 => ?_) (fun c163 => ?_)
                        · skip
                          exact absurd c163 (nI_pos (by omega))
                        · skip
                          refine lv_iconst (v := 1) hx hb dL_tries_166 (by decide) ?_
                          refine lv_goto (tgt := 171) hx hb dL_tries_167 (by decide) ?_
                          refine lv_istore (lv' := [(7, .int 1), (6, .int ((g.2.1 p) 6)), (5, .int (kRs (g.2.1 p))), (4, .int (tD (g.2.1 p) (nI tk))), (3, .int (nI tk)), (2, .int (nI p)), (0, .ref z), (1, .int vx)]) hx hb dL_tries_171 hl (by decide) rfl (fun ls hl => ?_)
                          exact hJ173 (hiD (rcN n - 1) (hiD n d)) (rcN (rcN n - 1) - 1) (hiS (rcN n - 1) (hiS n σ g) g) g V52 G52 ls H locs hn56 hP hD hS (lv_sub hl [0, 1, 2, 3, 4, 5, 6, 7] rfl)
      refine lv_iload hx hb dL_tries_61 (lv_at hl 1 rfl) ?_
      refine lv_bipush (v := (-5)) hx hb dL_tries_63 (by decide) ?_
      refine lv_icmp_eq (tgt := 83) hx hb dL_tries_65 (by decide) (fun c65 => ?_) (fun c65 => ?_)
      · skip
        exact hJ83 V7 G7 ls H locs hP hD hS hl
      · skip
        refine lv_iload hx hb dL_tries_68 (lv_at hl 1 rfl) ?_
        refine lv_iload_n hx hb dL_tries_70 rfl (lv_at hl 3 rfl) ?_
        refine lv_icmp_lt (tgt := 83) hx hb dL_tries_71 (by decide) (fun c71 => ?_) (fun c71 => ?_)
        · skip
          exact hJ83 V7 G7 ls H locs hP hD hS hl
        · skip
          refine lv_aload_n hx hb dL_tries_74 rfl (lv_at hl 5 rfl) ?_
          refine lv_iload_n hx hb dL_tries_75 rfl (lv_at hl 4 rfl) ?_
          refine lv_iconst (v := 1) hx hb dL_tries_76 (by decide) ?_
          have hP := dp_P hP
          have hD := dp_D hD
          refine callMi (As := [.int (nI p), .int 1]) (wr := fl [hiW T h (hiD n d) (rcN n) (hiS n σ g), sgW T b2 g, sgW T b3 sg0, siZ T y]) ⟨hx, hb, hml, hown, hts⟩ (mX5_depthIn l T D z (b2 0) (b3 0) (h 0) (y 0) 0 0 0 0 b1 g11.1 g11.2.1 g11.2.2 hj11.1 a q V7 G7 (nI p) 1) (cwV 2 hts gL_tries_X5_depthIn rfl rfl rfl pdX5_depthIn ⟨Nat.le_of_ble_eq_true rfl, Nat.le_of_ble_eq_true rfl⟩) hP hD hK hS hA xN_bl (fun U _ hW => XN_warm hW hX) (ci := 5) rfl rfl rfl hl.1 rfl rfl (Nat.le_of_ble_eq_true rfl) dL_tries_77 ⟨Nat.zero_le _, Nat.zero_le _⟩ (fun r58_ u59_ H locs eu59_ hP hD hS hkf => ?_)
          obtain ⟨V59, G59⟩ := u59_
          have hP : va_P D vwCl (oW T z b1 b2 b3 h a q y (hiD n d) (rcN n) (hiS n σ g) g11 g V59 G59) H := pd_P hP
          have hD : va_D A (oW T z b1 b2 b3 h a q y (hiD n d) (rcN n) (hiS n σ g) g11 g V59 G59) := pd_D hD
          obtain rfl : r58_ = tD (g11.2.1 p) 1 := eu59_.trans (sP_t hp)
          refine lv_if_lt (tgt := 106) hx hb dL_tries_80 (by decide) (fun c80 => ?_) (fun c80 => ?_)
          · skip
            exact absurd c80 (Int32.not_lt.mpr (td_p _ (hj11.1 p hp)))
          · skip
            exact hJ83 V59 G59 ls H locs hP hD hS hl

