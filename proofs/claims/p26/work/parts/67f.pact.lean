def rmL_act : Room := { frames := 8, cells := 0, slots := 0, locals := 203 }
set_option maxHeartbeats 4000000 in
set_option maxRecDepth 100000 in
theorem mL_act (l : Launch) (T : Nat → ClassId) (D : va_G) (z : Nat) (b1 b2 b3 h : Nat → Nat) (a q : Nat) (y : Nat → Nat) (d : Nat → Nat → Nat) (n : Nat) (σ : Nat → SG) (g gb : SG) (V : Nat → Int32) (G : Nat → Int64) (c0 : Nat) (hj : jOk c0 g) (hn : n ≤ 4) (hc : c0 + 14 ≤ 99999) (k9 : Nat) (hk9 : k9 < 14) (va vb : Int32) : MuI l yL_act wsL_act rmL_act T xS D [.ref z, .int (nI k9), .int va, .int vb] (oW T z b1 b2 b3 h a q y d n σ g gb V G) (S := OSt) (fun r u => ¬ r = -1000 ∧ jOk (c0 + 14) u.2.1.1 ∧ u.1.2.1 = if 0 ≤ r then rcN n else n) (fun u => oU T z b1 b2 b3 h a q y u) 0 0 := by
  refine met_mi (cc := cL_act) (maxL := 6) (by decide) rfl (Nat.le_of_ble_eq_true rfl) ?_
  intro p_ e s m args below meth c ls A Q hx hb hts hown hml hX hP hD hK hS hA hl hret
  have hl : lv_has ls 6 [(0, .ref z), (1, .int (nI k9)), (2, .int va), (3, .int vb)] := hl
  obtain ⟨H, hH⟩ : ∃ H, H = s.heap := ⟨_, rfl⟩
  have hS : va_S A s.heap H [] := by rw [hH]; exact hS
  obtain ⟨locs, hlc⟩ : ∃ x9 : List Loc, x9 = [] := ⟨_, rfl⟩
  rw [← hlc] at hS ⊢
  rw [← hH] at hP ⊢
  have hXS := hX
  have hX := hX.1
  refine lv_iload_n hx hb dL_act_0 rfl (lv_at hl 2 rfl) ?_
  refine lv_iconst (v := 4) hx hb dL_act_1 (by decide) ?_
  refine callSi (As := [.int va, .int 4]) ⟨hx, hb, hml, hown, hts⟩ (mL_low l T D va 4 (by decide)) (va_cwS 2 hts gL_act_L_low rfl rfl rfl (pdL_low).2 ⟨Nat.le_of_ble_eq_true rfl, Nat.le_of_ble_eq_true rfl⟩) wP_nil hK xN_bl (fun U _ hW => XN_warm hW hX) hl.1 rfl rfl (Nat.le_of_ble_eq_true rfl) dL_act_2 ⟨Nat.zero_le _, Nat.zero_le _⟩ (fun r1_ er1_ => ?_)
  obtain ⟨p, hp, elp⟩ := lowI_of va (N := 4) (by decide) (by decide)
  obtain rfl : r1_ = nI p := er1_.trans elp
  skip
  refine lv_istore (lv' := [(4, .int (nI p)), (0, .ref z), (1, .int (nI k9)), (2, .int va), (3, .int vb)]) hx hb dL_act_5 hl (by decide) rfl (fun ls hl => ?_)
  have hJ64 : ∀  (ls : Array Slot), lv_has ls 6 [(4, .int (nI p)), (0, .ref z), (1, .int (nI k9)), (2, .int va), (3, .int vb)] → W p_ l e rmL_act s m args below meth c H locs 0 0 Q (F0 m 64 ls []) := by
    intro ls hl
    refine lv_iload_n hx hb dL_act_64 rfl (lv_at hl 3 rfl) ?_
    refine lv_iconst (v := 2) hx hb dL_act_65 (by decide) ?_
    refine lv_ishr hx hb dL_act_66 ?_
    refine lv_bipush (v := 6) hx hb dL_act_67 (by decide) ?_
    refine callSi (As := [.int (va >>> (2 &&& 31)), .int 6]) ⟨hx, hb, hml, hown, hts⟩ (mL_low l T D (va >>> (2 &&& 31)) 6 (by decide)) (va_cwS 2 hts gL_act_L_low rfl rfl rfl (pdL_low).2 ⟨Nat.le_of_ble_eq_true rfl, Nat.le_of_ble_eq_true rfl⟩) wP_nil hK xN_bl (fun U _ hW => XN_warm hW hX) hl.1 rfl rfl (Nat.le_of_ble_eq_true rfl) dL_act_69 ⟨Nat.zero_le _, Nat.zero_le _⟩ (fun r2_ er2_ => ?_)
    obtain ⟨w9, hw9, elw9⟩ := lowI_of (va >>> (2 &&& 31)) (N := 6) (by decide) (by decide)
    obtain rfl : r2_ = nI w9 := er2_.trans elw9
    refine lv_istore (lv' := [(5, .int (nI w9)), (4, .int (nI p)), (0, .ref z), (1, .int (nI k9)), (2, .int va), (3, .int vb)]) hx hb dL_act_72 hl (by decide) rfl (fun ls hl => ?_)
    have hJ146 : ∀ (y9 : Int32) (ls : Array Slot), lv_has ls 6 [(5, .int (nI w9)), (4, .int (nI p)), (0, .ref z), (1, .int (nI k9)), (2, .int va), (3, .int vb)] → W p_ l e rmL_act s m args below meth c H locs 0 0 Q (F0 m 146 ls [.int y9, .int (nI w9), .int (nI p), .ref z]) := by
      intro y9 ls hl
      have hP := fP4.mp hP
      have hD := fD4.mp hD
      refine callMi (As := [.int (nI p), .int (nI w9), .int y9]) (wr := fl [sgW T b3 sg0, plW T a q V G, siZ T y]) ⟨hx, hb, hml, hown, hts⟩ (mX5_set l T D z b1 b2 (b3 0) a (y 0) 0 0 0 0 h d n σ g gb hn hj.1 (nI p) (nI w9) y9) (cwV 3 hts gL_act_X5_set rfl rfl rfl pdX5_set ⟨Nat.le_of_ble_eq_true rfl, Nat.le_of_ble_eq_true rfl⟩) hP hD hK hS hA xS_bl (fun U hU hW => xS_go hXS hS hU hW (fr_free hD hS hA)) (ci := 5) rfl rfl rfl hl.1 rfl rfl (Nat.le_of_ble_eq_true rfl) dL_act_146 ⟨Nat.zero_le _, Nat.zero_le _⟩ (fun r3_ u4_ H locs eu4_ hP hD hS hkf => ?_)
      obtain ⟨g4, q4⟩ := u4_
      obtain ⟨er4, eq4⟩ := eu4_
      have eg4 : g4 = (oSet (nI p) (nI w9) y9 g).2 := congrArg Prod.fst eq4
      have eq4 : q4 = if 0 ≤ (oSet (nI p) (nI w9) y9 g).1 then (hiD n d, rcN n, hiS n σ g) else (d, n, σ) := congrArg Prod.snd eq4
      have hP : va_P D vwCl (oW T z b1 b2 b3 h a q y q4.1 q4.2.1 q4.2.2 g4 g V G) H := fP4.mpr hP
      have hD : va_D A (oW T z b1 b2 b3 h a q y q4.1 q4.2.1 q4.2.2 g4 g V G) := fD4.mpr hD
      have hn4 : q4.2.1 ≤ 4 := qn_le hn eq4
      exact hret _ _ _ ((q4.1, q4.2.1, q4.2.2), (g4, g), V, G) _ _ dL_act_149 hS hP hD (⟨by rw [er4]; exact aOk_n (aOk_set hj (nI p) (nI w9) y9), by rw [eg4]; exact jOk_le (aOk_set hj (nI p) (nI w9) y9).2 (by omega), by rw [er4]; exact qn_is eq4⟩)
    refine lv_aload_n hx hb dL_act_74 rfl (lv_at hl 2 rfl) ?_
    refine lv_iload hx hb dL_act_75 (lv_at hl 1 rfl) ?_
    refine lv_iload hx hb dL_act_77 (lv_at hl 0 rfl) ?_
    refine lv_iload hx hb dL_act_79 (lv_at hl 0 rfl) ?_
    refine lv_iconst (v := 2) hx hb dL_act_81 (by decide) ?_
    refine lv_icmp_ne (tgt := 94) hx hb dL_act_82 (by decide) (fun c82 => ?_) (fun c82 => ?_)
    · skip
      refine lv_iload hx hb dL_act_94 (lv_at hl 0 rfl) ?_
      refine lv_iconst (v := 4) hx hb dL_act_96 (by decide) ?_
      refine lv_icmp_ne (tgt := 110) hx hb dL_act_97 (by decide) (fun c97 => ?_) (fun c97 => ?_)
      · skip
        refine lv_iload hx hb dL_act_110 (lv_at hl 0 rfl) ?_
        refine lv_iconst (v := 5) hx hb dL_act_112 (by decide) ?_
        refine lv_icmp_ne (tgt := 125) hx hb dL_act_113 (by decide) (fun c113 => ?_) (fun c113 => ?_)
        · skip
          refine lv_iload hx hb dL_act_125 (lv_at hl 0 rfl) ?_
          refine lv_iconst (v := 3) hx hb dL_act_127 (by decide) ?_
          refine lv_icmp_ne (tgt := 140) hx hb dL_act_128 (by decide) (fun c128 => ?_) (fun c128 => ?_)
          · skip
            refine lv_iload_n hx hb dL_act_140 rfl (lv_at hl 5 rfl) ?_
            refine lv_bipush (v := 10) hx hb dL_act_141 (by decide) ?_
            refine callSi (As := [.int vb, .int 10]) ⟨hx, hb, hml, hown, hts⟩ (mL_low l T D vb 10 (by decide)) (va_cwS 2 hts gL_act_L_low rfl rfl rfl (pdL_low).2 ⟨Nat.le_of_ble_eq_true rfl, Nat.le_of_ble_eq_true rfl⟩) wP_nil hK xN_bl (fun U _ hW => XN_warm hW hX) hl.1 rfl rfl (Nat.le_of_ble_eq_true rfl) dL_act_143 ⟨Nat.zero_le _, Nat.zero_le _⟩ (fun r6_ er6_ => ?_)
            exact hJ146 r6_ ls hl
          · skip
            refine lv_iload_n hx hb dL_act_131 rfl (lv_at hl 5 rfl) ?_
            refine lv_bipush (v := 42) hx hb dL_act_132 (by decide) ?_
            refine callSi (As := [.int vb, .int 42]) ⟨hx, hb, hml, hown, hts⟩ (mL_low l T D vb 42 (by decide)) (va_cwS 2 hts gL_act_L_low rfl rfl rfl (pdL_low).2 ⟨Nat.le_of_ble_eq_true rfl, Nat.le_of_ble_eq_true rfl⟩) wP_nil hK xN_bl (fun U _ hW => XN_warm hW hX) hl.1 rfl rfl (Nat.le_of_ble_eq_true rfl) dL_act_134 ⟨Nat.zero_le _, Nat.zero_le _⟩ (fun r7_ er7_ => ?_)
            refine lv_goto (tgt := 146) hx hb dL_act_137 (by decide) ?_
            exact hJ146 r7_ ls hl
        · skip
          refine lv_iload_n hx hb dL_act_116 rfl (lv_at hl 5 rfl) ?_
          refine lv_bipush (v := 101) hx hb dL_act_117 (by decide) ?_
          refine callSi (As := [.int vb, .int 101]) ⟨hx, hb, hml, hown, hts⟩ (mL_low l T D vb 101 (by decide)) (va_cwS 2 hts gL_act_L_low rfl rfl rfl (pdL_low).2 ⟨Nat.le_of_ble_eq_true rfl, Nat.le_of_ble_eq_true rfl⟩) wP_nil hK xN_bl (fun U _ hW => XN_warm hW hX) hl.1 rfl rfl (Nat.le_of_ble_eq_true rfl) dL_act_119 ⟨Nat.zero_le _, Nat.zero_le _⟩ (fun r8_ er8_ => ?_)
          refine lv_goto (tgt := 146) hx hb dL_act_122 (by decide) ?_
          exact hJ146 r8_ ls hl
      · skip
        refine lv_iload_n hx hb dL_act_100 rfl (lv_at hl 5 rfl) ?_
        refine lv_sipush (v := 900) hx hb dL_act_101 (by decide) ?_
        refine callSi (As := [.int vb, .int 900]) ⟨hx, hb, hml, hown, hts⟩ (mL_low l T D vb 900 (by decide)) (va_cwS 2 hts gL_act_L_low rfl rfl rfl (pdL_low).2 ⟨Nat.le_of_ble_eq_true rfl, Nat.le_of_ble_eq_true rfl⟩) wP_nil hK xN_bl (fun U _ hW => XN_warm hW hX) hl.1 rfl rfl (Nat.le_of_ble_eq_true rfl) dL_act_104 ⟨Nat.zero_le _, Nat.zero_le _⟩ (fun r9_ er9_ => ?_)
        refine lv_goto (tgt := 146) hx hb dL_act_107 (by decide) ?_
        exact hJ146 r9_ ls hl
    · skip
      refine lv_iload_n hx hb dL_act_85 rfl (lv_at hl 5 rfl) ?_
      refine lv_bipush (v := 60) hx hb dL_act_86 (by decide) ?_
      refine callSi (As := [.int vb, .int 60]) ⟨hx, hb, hml, hown, hts⟩ (mL_low l T D vb 60 (by decide)) (va_cwS 2 hts gL_act_L_low rfl rfl rfl (pdL_low).2 ⟨Nat.le_of_ble_eq_true rfl, Nat.le_of_ble_eq_true rfl⟩) wP_nil hK xN_bl (fun U _ hW => XN_warm hW hX) hl.1 rfl rfl (Nat.le_of_ble_eq_true rfl) dL_act_88 ⟨Nat.zero_le _, Nat.zero_le _⟩ (fun r10_ er10_ => ?_)
      refine lv_goto (tgt := 146) hx hb dL_act_91 (by decide) ?_
      exact hJ146 r10_ ls hl
  have hJ150 : ∀  (ls : Array Slot), lv_has ls 6 [(4, .int (nI p)), (0, .ref z), (1, .int (nI k9)), (2, .int va), (3, .int vb)] → W p_ l e rmL_act s m args below meth c H locs 0 0 Q (F0 m 150 ls []) := by
    intro ls hl
    refine lv_aload_n hx hb dL_act_150 rfl (lv_at hl 1 rfl) ?_
    refine lv_iload hx hb dL_act_151 (lv_at hl 0 rfl) ?_
    refine lv_iload_n hx hb dL_act_153 rfl (lv_at hl 4 rfl) ?_
    refine lv_bipush (v := 31) hx hb dL_act_154 (by decide) ?_
    refine callSi (As := [.int vb, .int 31]) ⟨hx, hb, hml, hown, hts⟩ (mL_low l T D vb 31 (by decide)) (va_cwS 2 hts gL_act_L_low rfl rfl rfl (pdL_low).2 ⟨Nat.le_of_ble_eq_true rfl, Nat.le_of_ble_eq_true rfl⟩) wP_nil hK xN_bl (fun U _ hW => XN_warm hW hX) hl.1 rfl rfl (Nat.le_of_ble_eq_true rfl) dL_act_156 ⟨Nat.zero_le _, Nat.zero_le _⟩ (fun r11_ er11_ => ?_)
    have hP := fP4.mp hP
    have hD := fD4.mp hD
    refine callMi (As := [.int (nI p), .int r11_]) (wr := fl [sgW T b3 sg0, plW T a q V G, siZ T y]) ⟨hx, hb, hml, hown, hts⟩ (mX5_turnOn l T D z b1 b2 (b3 0) a (y 0) 0 0 0 0 h d n σ g gb hn hj.1 (nI p) r11_) (cwV 2 hts gL_act_X5_turnOn rfl rfl rfl pdX5_turnOn ⟨Nat.le_of_ble_eq_true rfl, Nat.le_of_ble_eq_true rfl⟩) hP hD hK hS hA xN_bl (fun U _ hW => XN_warm hW hX) (ci := 5) rfl rfl rfl hl.1 rfl rfl (Nat.le_of_ble_eq_true rfl) dL_act_159 ⟨Nat.zero_le _, Nat.zero_le _⟩ (fun r12_ u13_ H locs eu13_ hP hD hS hkf => ?_)
    obtain ⟨g13, q13⟩ := u13_
    obtain ⟨er13, eq13⟩ := eu13_
    have eg13 : g13 = (oTurnOn (nI p) r11_ g).2 := congrArg Prod.fst eq13
    have eq13 : q13 = if 0 ≤ (oTurnOn (nI p) r11_ g).1 then (hiD n d, rcN n, hiS n σ g) else (d, n, σ) := congrArg Prod.snd eq13
    have hP : va_P D vwCl (oW T z b1 b2 b3 h a q y q13.1 q13.2.1 q13.2.2 g13 g V G) H := fP4.mpr hP
    have hD : va_D A (oW T z b1 b2 b3 h a q y q13.1 q13.2.1 q13.2.2 g13 g V G) := fD4.mpr hD
    have hn13 : q13.2.1 ≤ 4 := qn_le hn eq13
    exact hret _ _ _ ((q13.1, q13.2.1, q13.2.2), (g13, g), V, G) _ _ dL_act_162 hS hP hD (⟨by rw [er13]; exact aOk_n (aOk_turnOn hj _ _), by rw [eg13]; exact jOk_le (aOk_turnOn hj _ _).2 (by omega), by rw [er13]; exact qn_is eq13⟩)
  have hJ163 : ∀  (ls : Array Slot), lv_has ls 6 [(4, .int (nI p)), (0, .ref z), (1, .int (nI k9)), (2, .int va), (3, .int vb)] → W p_ l e rmL_act s m args below meth c H locs 0 0 Q (F0 m 163 ls []) := by
    intro ls hl
    refine lv_aload_n hx hb dL_act_163 rfl (lv_at hl 1 rfl) ?_
    refine lv_iload hx hb dL_act_164 (lv_at hl 0 rfl) ?_
    have hP := fP4.mp hP
    have hD := fD4.mp hD
    refine callMi (As := [.int (nI p)]) (wr := fl [sgW T b3 sg0, plW T a q V G, siZ T y]) ⟨hx, hb, hml, hown, hts⟩ (mX5_turnOff l T D z b1 b2 (b3 0) a (y 0) 0 0 0 0 h d n σ g gb hn hj.1 (nI p)) (cwV 1 hts gL_act_X5_turnOff rfl rfl rfl pdX5_turnOff ⟨Nat.le_of_ble_eq_true rfl, Nat.le_of_ble_eq_true rfl⟩) hP hD hK hS hA xN_bl (fun U _ hW => XN_warm hW hX) (ci := 5) rfl rfl rfl hl.1 rfl rfl (Nat.le_of_ble_eq_true rfl) dL_act_166 ⟨Nat.zero_le _, Nat.zero_le _⟩ (fun r15_ u16_ H locs eu16_ hP hD hS hkf => ?_)
    obtain ⟨g16, q16⟩ := u16_
    obtain ⟨er16, eq16⟩ := eu16_
    have eg16 : g16 = (oTurnOff (nI p) g).2 := congrArg Prod.fst eq16
    have eq16 : q16 = if 0 ≤ (oTurnOff (nI p) g).1 then (hiD n d, rcN n, hiS n σ g) else (d, n, σ) := congrArg Prod.snd eq16
    have hP : va_P D vwCl (oW T z b1 b2 b3 h a q y q16.1 q16.2.1 q16.2.2 g16 g V G) H := fP4.mpr hP
    have hD : va_D A (oW T z b1 b2 b3 h a q y q16.1 q16.2.1 q16.2.2 g16 g V G) := fD4.mpr hD
    have hn16 : q16.2.1 ≤ 4 := qn_le hn eq16
    exact hret _ _ _ ((q16.1, q16.2.1, q16.2.2), (g16, g), V, G) _ _ dL_act_169 hS hP hD (⟨by rw [er16]; exact aOk_n (aOk_turnOff hj _), by rw [eg16]; exact jOk_le (aOk_turnOff hj _).2 (by omega), by rw [er16]; exact qn_is eq16⟩)
  have hJ186 : ∀  (ls : Array Slot), lv_has ls 6 [(4, .int (nI p)), (0, .ref z), (1, .int (nI k9)), (2, .int va), (3, .int vb)] → W p_ l e rmL_act s m args below meth c H locs 0 0 Q (F0 m 186 ls []) := by
    intro ls hl
    refine lv_aload_n hx hb dL_act_186 rfl (lv_at hl 1 rfl) ?_
    refine lv_iload hx hb dL_act_187 (lv_at hl 0 rfl) ?_
    refine lv_iload_n hx hb dL_act_189 rfl (lv_at hl 4 rfl) ?_
    refine lv_iconst (v := 3) hx hb dL_act_190 (by decide) ?_
    obtain ⟨p2, hp2, ep2⟩ := and3_of vb
    refine lv_iand hx hb dL_act_191 ?_
    skip
    refine lv_tpi (z := nI p2) (ep2) ?_
    have hP : va_P D vwCl ((oW T z b1 b2 b3 h a q y d n σ g gb V G) ++ []) H := by rw [List.append_nil]; exact hP
    have hD : va_D A ((oW T z b1 b2 b3 h a q y d n σ g gb V G) ++ []) := by rw [List.append_nil]; exact hD
    refine callSm (As := [.ref z, .int (nI p), .int (nI p2)]) (wr := []) ⟨hx, hb, hml, hown, hts⟩ (mL_couples l T D z b1 b2 b3 h a q y d n σ g gb V G c0 hj hn p hp p2 hp2) (va_cwS 3 hts gL_act_L_couples rfl rfl rfl (pdL_couples).2 ⟨Nat.le_of_ble_eq_true rfl, Nat.le_of_ble_eq_true rfl⟩) hP hD hK hS hA xN_bl (fun U _ hW => XN_warm hW hX) hl.1 rfl rfl (Nat.le_of_ble_eq_true rfl) dL_act_192 ⟨Nat.zero_le _, Nat.zero_le _⟩ (fun r19_ u20_ H locs eu20_ hP hD hS => ?_)
    rw [List.append_nil] at hP hD
    obtain ⟨⟨d17, n17, σ17⟩, ⟨g17, gb17⟩, V17, G17⟩ := u20_
    obtain ⟨er17, eg17, en17⟩ := eu20_
    have hP : va_P D vwCl (oW T z b1 b2 b3 h a q y d17 n17 σ17 g17 gb17 V17 G17) H := hP
    have hD : va_D A (oW T z b1 b2 b3 h a q y d17 n17 σ17 g17 gb17 V17 G17) := hD
    exact hret _ _ _ ((d17, n17, σ17), (g17, gb17), V17, G17) _ _ dL_act_195 hS hP hD (⟨by rw [er17]; exact aOk_n (aOk_couple hj hp hp2), by rw [eg17]; exact jOk_le (aOk_couple hj hp hp2).2 (by omega), by rw [er17]; exact en17⟩)
  refine lv_iload_n hx hb dL_act_7 rfl (lv_at hl 2 rfl) ?_
  rcases k14 hk9 with rfl | rfl | rfl | rfl | rfl | rfl | rfl | rfl | rfl | rfl | hk10
  · skip
    refine lv_tableIn (off := 56) (tgt := 64) hx hb dL_act_8 (by decide) (by decide) (by decide) (by decide) ?_
    exact hJ64 ls hl
  · skip
    refine lv_tableIn (off := 56) (tgt := 64) hx hb dL_act_8 (by decide) (by decide) (by decide) (by decide) ?_
    exact hJ64 ls hl
  · skip
    refine lv_tableIn (off := 56) (tgt := 64) hx hb dL_act_8 (by decide) (by decide) (by decide) (by decide) ?_
    exact hJ64 ls hl
  · skip
    refine lv_tableIn (off := 142) (tgt := 150) hx hb dL_act_8 (by decide) (by decide) (by decide) (by decide) ?_
    exact hJ150 ls hl
  · skip
    refine lv_tableIn (off := 142) (tgt := 150) hx hb dL_act_8 (by decide) (by decide) (by decide) (by decide) ?_
    exact hJ150 ls hl
  · skip
    refine lv_tableIn (off := 155) (tgt := 163) hx hb dL_act_8 (by decide) (by decide) (by decide) (by decide) ?_
    exact hJ163 ls hl
  · skip
    refine lv_tableIn (off := 155) (tgt := 163) hx hb dL_act_8 (by decide) (by decide) (by decide) (by decide) ?_
    exact hJ163 ls hl
  · skip
    refine lv_tableIn (off := 162) (tgt := 170) hx hb dL_act_8 (by decide) (by decide) (by decide) (by decide) ?_
    refine lv_aload_n hx hb dL_act_170 rfl (lv_at hl 1 rfl) ?_
    refine lv_iload_n hx hb dL_act_171 rfl (lv_at hl 3 rfl) ?_
    refine lv_iconst (v := 5) hx hb dL_act_172 (by decide) ?_
    refine callSi (As := [.int va, .int 5]) ⟨hx, hb, hml, hown, hts⟩ (mL_low l T D va 5 (by decide)) (va_cwS 2 hts gL_act_L_low rfl rfl rfl (pdL_low).2 ⟨Nat.le_of_ble_eq_true rfl, Nat.le_of_ble_eq_true rfl⟩) wP_nil hK xN_bl (fun U _ hW => XN_warm hW hX) hl.1 rfl rfl (Nat.le_of_ble_eq_true rfl) dL_act_173 ⟨Nat.zero_le _, Nat.zero_le _⟩ (fun r21_ er21_ => ?_)
    refine lv_iload_n hx hb dL_act_176 rfl (lv_at hl 4 rfl) ?_
    refine lv_bipush (v := 41) hx hb dL_act_177 (by decide) ?_
    refine callSi (As := [.int vb, .int 41]) ⟨hx, hb, hml, hown, hts⟩ (mL_low l T D vb 41 (by decide)) (va_cwS 2 hts gL_act_L_low rfl rfl rfl (pdL_low).2 ⟨Nat.le_of_ble_eq_true rfl, Nat.le_of_ble_eq_true rfl⟩) wP_nil hK xN_bl (fun U _ hW => XN_warm hW hX) hl.1 rfl rfl (Nat.le_of_ble_eq_true rfl) dL_act_179 ⟨Nat.zero_le _, Nat.zero_le _⟩ (fun r22_ er22_ => ?_)
    have hP := fP4.mp hP
    have hD := fD4.mp hD
    refine callMi (As := [.int r21_, .int r22_]) (wr := fl [sgW T b3 sg0, plW T a q V G, siZ T y]) ⟨hx, hb, hml, hown, hts⟩ (mX5_put l T D z b1 b2 (b3 0) a (y 0) 0 0 0 0 h d n σ g gb hn hj.1 r21_ r22_) (cwV 2 hts gL_act_X5_put rfl rfl rfl pdX5_put ⟨Nat.le_of_ble_eq_true rfl, Nat.le_of_ble_eq_true rfl⟩) hP hD hK hS hA xN_bl (fun U _ hW => XN_warm hW hX) (ci := 5) rfl rfl rfl hl.1 rfl rfl (Nat.le_of_ble_eq_true rfl) dL_act_182 ⟨Nat.zero_le _, Nat.zero_le _⟩ (fun r23_ u24_ H locs eu24_ hP hD hS hkf => ?_)
    obtain ⟨g24, q24⟩ := u24_
    obtain ⟨er24, eq24⟩ := eu24_
    have eg24 : g24 = (oPut r21_ r22_ g).2 := congrArg Prod.fst eq24
    have eq24 : q24 = if 0 ≤ (oPut r21_ r22_ g).1 then (hiD n d, rcN n, hiS n σ g) else (d, n, σ) := congrArg Prod.snd eq24
    have hP : va_P D vwCl (oW T z b1 b2 b3 h a q y q24.1 q24.2.1 q24.2.2 g24 g V G) H := fP4.mpr hP
    have hD : va_D A (oW T z b1 b2 b3 h a q y q24.1 q24.2.1 q24.2.2 g24 g V G) := fD4.mpr hD
    have hn24 : q24.2.1 ≤ 4 := qn_le hn eq24
    exact hret _ _ _ ((q24.1, q24.2.1, q24.2.2), (g24, g), V, G) _ _ dL_act_185 hS hP hD (⟨by rw [er24]; exact aOk_n (aOk_put hj _ _), by rw [eg24]; exact jOk_le (aOk_put hj _ _).2 (by omega), by rw [er24]; exact qn_is eq24⟩)
  · skip
    refine lv_tableIn (off := 178) (tgt := 186) hx hb dL_act_8 (by decide) (by decide) (by decide) (by decide) ?_
    exact hJ186 ls hl
  · skip
    refine lv_tableIn (off := 178) (tgt := 186) hx hb dL_act_8 (by decide) (by decide) (by decide) (by decide) ?_
    exact hJ186 ls hl
  · skip
    refine lv_tableOut (tgt := 196) hx hb dL_act_8 (Or.inr (by rw [nI_toInt (by omega)]; omega)) (by decide) ?_
    refine lv_aload_n hx hb dL_act_196 rfl (lv_at hl 1 rfl) ?_
    refine lv_iconst (v := (nI 1)) hx hb dL_act_197 (by decide) ?_
    refine lv_iload_n hx hb dL_act_198 rfl (lv_at hl 4 rfl) ?_
    refine lv_bipush (v := 14) hx hb dL_act_199 (by decide) ?_
    refine callSi (As := [.int vb, .int 14]) ⟨hx, hb, hml, hown, hts⟩ (mL_low l T D vb 14 (by decide)) (va_cwS 2 hts gL_act_L_low rfl rfl rfl (pdL_low).2 ⟨Nat.le_of_ble_eq_true rfl, Nat.le_of_ble_eq_true rfl⟩) wP_nil hK xN_bl (fun U _ hW => XN_warm hW hX) hl.1 rfl rfl (Nat.le_of_ble_eq_true rfl) dL_act_201 ⟨Nat.zero_le _, Nat.zero_le _⟩ (fun r26_ er26_ => ?_)
    obtain ⟨t9, ht9, elt9⟩ := lowI_of vb (N := 14) (by decide) (by decide)
    obtain rfl : r26_ = nI t9 := er26_.trans elt9
    refine lv_iadd hx hb dL_act_204 ?_
    refine lv_tpi (z := nI (1 + t9)) (nI_add 1 t9) ?_
    have hP := fP4.mp hP
    have hD := fD4.mp hD
    refine callMi (As := [.int (nI (1 + t9))]) (wr := fl [sgW T b3 sg0, plW T a q V G, siZ T y]) ⟨hx, hb, hml, hown, hts⟩ (mX5_pass l T D z b1 b2 (b3 0) a (y 0) 0 0 0 0 h d n σ g gb hn hj.1 (nI (1 + t9))) (cwV 1 hts gL_act_X5_pass rfl rfl rfl pdX5_pass ⟨Nat.le_of_ble_eq_true rfl, Nat.le_of_ble_eq_true rfl⟩) hP hD hK hS hA xN_bl (fun U _ hW => XN_warm hW hX) (ci := 5) rfl rfl rfl hl.1 rfl rfl (Nat.le_of_ble_eq_true rfl) dL_act_205 ⟨Nat.zero_le _, Nat.zero_le _⟩ (fun r27_ u28_ H locs eu28_ hP hD hS hkf => ?_)
    obtain ⟨g28, q28⟩ := u28_
    obtain ⟨er28, eq28⟩ := eu28_
    have eg28 : g28 = (oPs (nI (1 + t9)) g).2 := congrArg Prod.fst eq28
    have eq28 : q28 = if 0 ≤ (oPs (nI (1 + t9)) g).1 then (hiD n d, rcN n, hiS n σ g) else (d, n, σ) := congrArg Prod.snd eq28
    have hP : va_P D vwCl (oW T z b1 b2 b3 h a q y q28.1 q28.2.1 q28.2.2 g28 g V G) H := fP4.mpr hP
    have hD : va_D A (oW T z b1 b2 b3 h a q y q28.1 q28.2.1 q28.2.2 g28 g V G) := fD4.mpr hD
    have hn28 : q28.2.1 ≤ 4 := qn_le hn eq28
    exact hret _ _ _ ((q28.1, q28.2.1, q28.2.2), (g28, g), V, G) _ _ dL_act_208 hS hP hD (⟨by rw [er28]; exact aOk_n (aOk_pass hj (n := 1 + t9) (by omega) (by omega) (by omega)), by rw [eg28]; exact jOk_le (aOk_pass hj (n := 1 + t9) (by omega) (by omega) (by omega)).2 (by omega), by rw [er28]; exact qn_is eq28⟩)

