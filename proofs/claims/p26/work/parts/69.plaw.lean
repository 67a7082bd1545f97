section PLAW
variable {p : Program} {l : Launch} {e : Env} {s : State} {m : MethodId} {below : List Frame} {meth : Method} {c : Code} {Q : State → Prop} {bq L : Nat} {xs : Nat → Int32} {T : Nat → ClassId} {D : va_G} {A : Nat → Prop} {z a q : Nat} {b1 b2 b3 h y : Nat → Nat}
set_option maxHeartbeats 4000000 in
set_option maxRecDepth 100000 in
theorem law_go (hx : p.tables.exec = Jvm.exec) (hb : c.code = cL_law) (hml : c.maxLocals = 7) (hown : s.vm.findClass RL = some m.cls) (hts : ∀ w ∈ wsL_law, w.before #[Value.ref bq] s = true) (hsx : va_X bq L xs s s.heap) (hbl : bq < s.heap.size) (hbA : ¬ A bq) (hK : va_K D vwCl (tyL T) s) (hXS : xS A s) (hA : ∀ q9, s.heap.size ≤ q9 → A q9) (hL : L ≤ 260)
    (kf : ∀ (H : Heap) (locs : List Loc) (ls : Array Slot), va_S A s.heap H locs → W p l e room_1 s m #[Value.ref bq] below meth c H locs 81 608 Q (F0 m 204 ls [.int 1]))
    (d : Nat → Nat → Nat) (V : Nat → Int32) (G : Nat → Int64) (H : Heap) (locs : List Loc) (ls : Array Slot) (hP : va_P D vwCl (oW T z b1 b2 b3 h a q y d 0 (fun _ => sg0) sg0 sg0 V G) H) (hD : va_D A (oW T z b1 b2 b3 h a q y d 0 (fun _ => sg0) sg0 sg0 V G)) (hS : va_S A s.heap H locs) (hl : lv_has ls 7 [(1, .ref z), (0, .ref bq)]) : W p l e room_1 s m #[Value.ref bq] below meth c H locs 81 608 Q (F0 m 8 ls []) := by
  have hX := hXS.1
  refine lv_aload_n hx hb dL_law_8 rfl (lv_at hl 0 rfl) ?_
  refine callSi (As := [.ref z]) ⟨hx, hb, hml, hown, hts⟩ (mL_holds l T D z b1 b2 b3 h a q y d 0 (fun _ => sg0) sg0 sg0 V G 0 jOk_0) (va_cwS 1 hts gL_law_L_holds rfl rfl rfl (pdL_holds).2 ⟨Nat.le_of_ble_eq_true rfl, Nat.le_of_ble_eq_true rfl⟩) hP hK xN_bl (fun U _ hW => XN_warm hW hX) hl.1 rfl rfl (Nat.le_of_ble_eq_true rfl) dL_law_9 ⟨Nat.le_of_ble_eq_true rfl, Nat.le_of_ble_eq_true rfl⟩ (fun r1_ er1_ => ?_)
  obtain rfl : r1_ = 1 := er1_
  refine lv_if_eq (tgt := 37) hx hb dL_law_12 (by decide) (fun c12 => ?_) (fun c12 => ?_)
  · skip
    exact absurd c12 (by decide)
  · skip
    refine lv_aload_n hx hb dL_law_15 rfl (lv_at hl 0 rfl) ?_
    have hP := fP3.mp hP
    have hD := fD3.mp hD
    refine callMi (As := []) (wr := fl [sgW T b2 sg0, sgW T b3 sg0, plW T a q V G, siZ T y]) ⟨hx, hb, hml, hown, hts⟩ (mX5_undo l T D z b1 (b2 0) (b3 0) a (y 0) 0 0 0 0 h d 0 (fun _ => sg0) sg0 (Nat.zero_le _) (fun _ => sg0_ok)) (cwV 0 hts gL_law_X5_undo rfl rfl rfl pdX5_undo ⟨Nat.le_of_ble_eq_true rfl, Nat.le_of_ble_eq_true rfl⟩) hP hD hK hS hA xN_bl (fun U _ hW => XN_warm hW hX) (ci := 5) rfl rfl rfl hl.1 rfl rfl (Nat.le_of_ble_eq_true rfl) dL_law_16 ⟨Nat.le_of_ble_eq_true rfl, Nat.le_of_ble_eq_true rfl⟩ (fun r2_ u3_ H locs eu3_ hP hD hS hkf => ?_)
    obtain ⟨eu1, eu2⟩ : r2_ = -5 ∧ u3_ = (0, sg0) := by
      rcases eu3_ with h9 | h9
      · exact h9.2
      · exact absurd h9.1 (by decide)
    subst eu1
    subst eu2
    have hP : va_P D vwCl (oW T z b1 b2 b3 h a q y d 0 (fun _ => sg0) sg0 sg0 V G) H := fP3.mpr hP
    have hD : va_D A (oW T z b1 b2 b3 h a q y d 0 (fun _ => sg0) sg0 sg0 V G) := fD3.mpr hD
    skip
    refine lv_bipush (v := (-5)) hx hb dL_law_19 (by decide) ?_
    refine lv_icmp_ne (tgt := 37) hx hb dL_law_21 (by decide) (fun c21 => ?_) (fun c21 => ?_)
    · skip
      exact absurd c21 (by decide)
    · skip
      refine lv_aload_n hx hb dL_law_24 rfl (lv_at hl 0 rfl) ?_
      have hP := fP5.mp hP
      have hD := fD5.mp hD
      refine callMi (As := []) (wr := fl [plW T a q V G, siZ T y]) ⟨hx, hb, hml, hown, hts⟩ (mX5_restore l T D z b1 b2 b3 a (y 0) 0 0 0 0 h d 0 (fun _ => sg0) sg0 sg0 sg0 (Nat.zero_le _) sg0_ok sg0_ok (gT_0 sg0_w.2)) (cwV 0 hts gL_law_X5_restore rfl rfl rfl pdX5_restore ⟨Nat.le_of_ble_eq_true rfl, Nat.le_of_ble_eq_true rfl⟩) hP hD hK hS hA xN_bl (fun U _ hW => XN_warm hW hX) (ci := 5) rfl rfl rfl hl.1 rfl rfl (Nat.le_of_ble_eq_true rfl) dL_law_25 ⟨Nat.le_of_ble_eq_true rfl, Nat.le_of_ble_eq_true rfl⟩ (fun r4_ u5_ H locs eu5_ hP hD hS hkf => ?_)
      obtain ⟨eu1, eu2⟩ : r4_ = -5 ∧ u5_ = (sg0, (d, 0, fun _ => sg0), sg0) := by
        rcases eu5_ with h9 | h9
        · exact h9.2
        · exact absurd rfl h9.1
      subst eu1
      subst eu2
      have hP : va_P D vwCl (oW T z b1 b2 b3 h a q y d 0 (fun _ => sg0) sg0 sg0 V G) H := fP5.mpr hP
      have hD : va_D A (oW T z b1 b2 b3 h a q y d 0 (fun _ => sg0) sg0 sg0 V G) := fD5.mpr hD
      skip
      refine lv_bipush (v := (-5)) hx hb dL_law_28 (by decide) ?_
      refine lv_icmp_ne (tgt := 37) hx hb dL_law_30 (by decide) (fun c30 => ?_) (fun c30 => ?_)
      · skip
        exact absurd c30 (by decide)
      · skip
        refine lv_iconst (v := 1) hx hb dL_law_33 (by decide) ?_
        refine lv_goto (tgt := 38) hx hb dL_law_34 (by decide) ?_
        refine lv_istore_n (lv' := [(2, .int 1), (1, .ref z), (0, .ref bq)]) hx hb dL_law_38 rfl hl (by decide) rfl (fun ls hl => ?_)
        have hJ57 : ∀ (t9 : Nat) (ls : Array Slot), (3 * t9 ≤ L ∧ t9 ≤ 34) → lv_has ls 7 [(2, .int 1), (1, .ref z), (0, .ref bq)] → W p l e room_1 s m #[Value.ref bq] below meth c H locs 81 608 Q (F0 m 57 ls [.int (nI t9)]) := by
          intro t9 ls ht9 hl
          refine lv_istore_n (lv' := [(3, .int (nI t9)), (2, .int 1), (1, .ref z), (0, .ref bq)]) hx hb dL_law_57 rfl hl (by decide) rfl (fun ls hl => ?_)
          refine lv_iconst (v := nI 0) hx hb dL_law_58 (by decide) ?_
          refine lv_istore (lv' := [(4, .int (nI 0)), (3, .int (nI t9)), (2, .int 1), (1, .ref z), (0, .ref bq)]) hx hb dL_law_59 hl (by decide) rfl (fun ls hl => ?_)
          have loop : ∀ (j : Nat) (i : Nat) (d : Nat → Nat → Nat) (n : Nat) (σ : Nat → SG) (g : SG) (gb : SG) (V : Nat → Int32) (G : Nat → Int64) (ls : Array Slot) (H : Heap) (locs : List Loc), (t9 + 1 ≤ i + j) → (i ≤ t9) → (jOk (14 * i) g) → (n ≤ 4) → va_P D vwCl (oW T z b1 b2 b3 h a q y d n σ g gb V G) H → va_D A (oW T z b1 b2 b3 h a q y d n σ g gb V G) → va_S A s.heap H locs → lv_has ls 7 [(4, .int (nI i)), (3, .int (nI t9)), (2, .int 1), (1, .ref z), (0, .ref bq)] → W p l e room_1 s m #[Value.ref bq] below meth c H locs 81 608 Q (F0 m 61 ls []) := by
            intro j
            induction j with
            | zero => intro i d n σ g gb V G ls H locs hm hi; exact absurd hm (by omega)
            | succ j ih =>
              intro i d n σ g gb V G ls H locs hm hi hj hn hP hD hS hl
              refine lv_iload hx hb dL_law_61 (lv_at hl 0 rfl) ?_
              refine lv_iload_n hx hb dL_law_63 rfl (lv_at hl 1 rfl) ?_
              refine lv_icmp_ge (tgt := 203) hx hb dL_law_64 (by decide) (fun c64 => ?_) (fun c64 => ?_)
              · skip
                refine lv_iload_n hx hb dL_law_203 rfl (lv_at hl 2 rfl) ?_
                exact kf H locs ls hS
              · skip
                have hit : i < t9 := by
                  have := mt (nI_leI (a := t9) (b := i) (by omega) (by omega)).mpr c64
                  omega
                refine lv_iload_n hx hb dL_law_67 rfl (lv_at hl 2 rfl) ?_
                refine lv_if_eq (tgt := 203) hx hb dL_law_68 (by decide) (fun c68 => ?_) (fun c68 => ?_)
                · skip
                  exact absurd c68 (by decide)
                · skip
                  refine lv_aload_n hx hb dL_law_71 rfl (lv_at hl 3 rfl) ?_
                  refine lv_bipush (v := 9) hx hb dL_law_72 (by decide) ?_
                  refine callRi (As := [.int 9]) ⟨hx, hb, hml, hown, hts⟩ (mX5_count l T D z (b2 0) (b3 0) a 0 0 0 0 b1 g.1 g.2.1 g.2.2 hj.1 h y n 0 z0 9) (cwV 1 hts gL_law_X5_count rfl rfl rfl pdX5_count ⟨Nat.le_of_ble_eq_true rfl, Nat.le_of_ble_eq_true rfl⟩) (oW_cn hP) hK xN_bl (fun U _ hW => XN_warm hW hX) (ci := 5) rfl rfl rfl hl.1 rfl rfl (Nat.le_of_ble_eq_true rfl) dL_law_74 ⟨Nat.le_of_ble_eq_true rfl, Nat.le_of_ble_eq_true rfl⟩ (fun r6_ er6_ => ?_)
                  obtain rfl : r6_ = nI n := er6_.trans tC_s.2.2.2.2.2.2.2
                  refine lv_istore (lv' := [(5, .int (nI n)), (4, .int (nI i)), (3, .int (nI t9)), (2, .int 1), (1, .ref z), (0, .ref bq)]) hx hb dL_law_77 hl (by decide) rfl (fun ls hl => ?_)
                  refine lv_aload_n hx hb dL_law_79 rfl (lv_at hl 4 rfl) ?_
                  refine lv_aload_n hx hb dL_law_80 rfl (lv_at hl 5 rfl) ?_
                  refine lv_iconst (v := nI 3) hx hb dL_law_81 (by decide) ?_
                  refine lv_iload hx hb dL_law_82 (lv_at hl 1 rfl) ?_
                  refine lv_imul hx hb dL_law_84 ?_
                  refine lv_tpi (z := nI (3 * i)) (pk_mul 3 i) ?_
                  refine callSi (As := [.ref bq, .int (nI (3 * i))]) ⟨hx, hb, hml, hown, hts⟩ (mL_cell l T D bq L xs hL (3 * i) (by omega)) (va_cwS 2 hts gL_law_L_cell rfl rfl rfl (pdL_cell).2 ⟨Nat.le_of_ble_eq_true rfl, Nat.le_of_ble_eq_true rfl⟩) wP_nil hK xC_bl (fun U hU hW => xC_go hsx hbl hbA hS hU hW) hl.1 rfl rfl (Nat.le_of_ble_eq_true rfl) dL_law_85 ⟨Nat.le_of_ble_eq_true rfl, Nat.le_of_ble_eq_true rfl⟩ (fun r7_ er7_ => ?_)
                  obtain rfl : r7_ = xs (3 * i) := er7_
                  refine lv_bipush (v := 14) hx hb dL_law_88 (by decide) ?_
                  refine callSi (As := [.int (xs (3 * i)), .int 14]) ⟨hx, hb, hml, hown, hts⟩ (mL_low l T D (xs (3 * i)) 14 (by decide)) (va_cwS 2 hts gL_law_L_low rfl rfl rfl (pdL_low).2 ⟨Nat.le_of_ble_eq_true rfl, Nat.le_of_ble_eq_true rfl⟩) wP_nil hK xN_bl (fun U _ hW => XN_warm hW hX) hl.1 rfl rfl (Nat.le_of_ble_eq_true rfl) dL_law_90 ⟨Nat.le_of_ble_eq_true rfl, Nat.le_of_ble_eq_true rfl⟩ (fun r8_ er8_ => ?_)
                  obtain ⟨k9, hk9, elk9⟩ := lowI_of (xs (3 * i)) (N := 14) (by decide) (by decide)
                  obtain rfl : r8_ = nI k9 := er8_.trans elk9
                  refine lv_aload_n hx hb dL_law_93 rfl (lv_at hl 5 rfl) ?_
                  refine lv_iconst (v := nI 3) hx hb dL_law_94 (by decide) ?_
                  refine lv_iload hx hb dL_law_95 (lv_at hl 1 rfl) ?_
                  refine lv_imul hx hb dL_law_97 ?_
                  refine lv_tpi (z := nI (3 * i)) (pk_mul 3 i) ?_
                  refine lv_iconst (v := nI 1) hx hb dL_law_98 (by decide) ?_
                  refine lv_iadd hx hb dL_law_99 ?_
                  refine lv_tpi (z := nI (3 * i + 1)) (nI_add _ _) ?_
                  refine callSi (As := [.ref bq, .int (nI (3 * i + 1))]) ⟨hx, hb, hml, hown, hts⟩ (mL_cell l T D bq L xs hL (3 * i + 1) (by omega)) (va_cwS 2 hts gL_law_L_cell rfl rfl rfl (pdL_cell).2 ⟨Nat.le_of_ble_eq_true rfl, Nat.le_of_ble_eq_true rfl⟩) wP_nil hK xC_bl (fun U hU hW => xC_go hsx hbl hbA hS hU hW) hl.1 rfl rfl (Nat.le_of_ble_eq_true rfl) dL_law_100 ⟨Nat.le_of_ble_eq_true rfl, Nat.le_of_ble_eq_true rfl⟩ (fun r9_ er9_ => ?_)
                  obtain rfl : r9_ = xs (3 * i + 1) := er9_
                  refine lv_aload_n hx hb dL_law_103 rfl (lv_at hl 5 rfl) ?_
                  refine lv_iconst (v := nI 3) hx hb dL_law_104 (by decide) ?_
                  refine lv_iload hx hb dL_law_105 (lv_at hl 1 rfl) ?_
                  refine lv_imul hx hb dL_law_107 ?_
                  refine lv_tpi (z := nI (3 * i)) (pk_mul 3 i) ?_
                  refine lv_iconst (v := nI 2) hx hb dL_law_108 (by decide) ?_
                  refine lv_iadd hx hb dL_law_109 ?_
                  refine lv_tpi (z := nI (3 * i + 2)) (nI_add _ _) ?_
                  refine callSi (As := [.ref bq, .int (nI (3 * i + 2))]) ⟨hx, hb, hml, hown, hts⟩ (mL_cell l T D bq L xs hL (3 * i + 2) (by omega)) (va_cwS 2 hts gL_law_L_cell rfl rfl rfl (pdL_cell).2 ⟨Nat.le_of_ble_eq_true rfl, Nat.le_of_ble_eq_true rfl⟩) wP_nil hK xC_bl (fun U hU hW => xC_go hsx hbl hbA hS hU hW) hl.1 rfl rfl (Nat.le_of_ble_eq_true rfl) dL_law_110 ⟨Nat.le_of_ble_eq_true rfl, Nat.le_of_ble_eq_true rfl⟩ (fun r10_ er10_ => ?_)
                  obtain rfl : r10_ = xs (3 * i + 2) := er10_
                  have hP : va_P D vwCl ((oW T z b1 b2 b3 h a q y d n σ g gb V G) ++ []) H := by rw [List.append_nil]; exact hP
                  have hD : va_D A ((oW T z b1 b2 b3 h a q y d n σ g gb V G) ++ []) := by rw [List.append_nil]; exact hD
                  refine callSm (As := [.ref z, .int (nI k9), .int (xs (3 * i + 1)), .int (xs (3 * i + 2))]) (wr := []) ⟨hx, hb, hml, hown, hts⟩ (mL_act l T D z b1 b2 b3 h a q y d n σ g gb V G (14 * i) hj hn (by omega) k9 hk9 (xs (3 * i + 1)) (xs (3 * i + 2))) (va_cwS 4 hts gL_law_L_act rfl rfl rfl (pdL_act).2 ⟨Nat.le_of_ble_eq_true rfl, Nat.le_of_ble_eq_true rfl⟩) hP hD hK hS hA xS_bl (fun U hU hW => xS_go hXS hS hU hW (fr_free hD hS hA)) hl.1 rfl rfl (Nat.le_of_ble_eq_true rfl) dL_law_113 ⟨Nat.le_of_ble_eq_true rfl, Nat.le_of_ble_eq_true rfl⟩ (fun r12_ u13_ H locs eu13_ hP hD hS => ?_)
                  rw [List.append_nil] at hP hD
                  obtain ⟨⟨d10, n10, σ10⟩, ⟨g10, gb10⟩, V10, G10⟩ := u13_
                  obtain ⟨er10, eg10, en10⟩ := eu13_
                  have hP : va_P D vwCl (oW T z b1 b2 b3 h a q y d10 n10 σ10 g10 gb10 V10 G10) H := hP
                  have hD : va_D A (oW T z b1 b2 b3 h a q y d10 n10 σ10 g10 gb10 V10 G10) := hD
                  have hjk : jOk (14 * i + 14) g10 := eg10
                  have ek : n10 = if 0 ≤ r12_ then rcN n else n := en10
                  have hnk : n10 ≤ 4 := by
                    rw [ek]
                    split
                    · exact rc_le hn
                    · exact hn
                  refine lv_istore (lv' := [(6, .int r12_), (5, .int (nI n)), (4, .int (nI i)), (3, .int (nI t9)), (2, .int 1), (1, .ref z), (0, .ref bq)]) hx hb dL_law_116 hl (by decide) rfl (fun ls hl => ?_)
                  refine lv_iload hx hb dL_law_118 (lv_at hl 0 rfl) ?_
                  refine lv_sipush (v := (-1000)) hx hb dL_law_120 (by decide) ?_
                  refine lv_icmp_eq (tgt := 195) hx hb dL_law_123 (by decide) (fun c123 => ?_) (fun c123 => ?_)
                  · skip
                    exact absurd c123 er10
                  · skip
                    refine lv_aload_n hx hb dL_law_126 rfl (lv_at hl 5 rfl) ?_
                    refine lv_bipush (v := 9) hx hb dL_law_127 (by decide) ?_
                    refine callRi (As := [.int 9]) ⟨hx, hb, hml, hown, hts⟩ (mX5_count l T D z (b2 0) (b3 0) a 0 0 0 0 b1 g10.1 g10.2.1 g10.2.2 hjk.1 h y n10 0 z0 9) (cwV 1 hts gL_law_X5_count rfl rfl rfl pdX5_count ⟨Nat.le_of_ble_eq_true rfl, Nat.le_of_ble_eq_true rfl⟩) (oW_cn hP) hK xN_bl (fun U _ hW => XN_warm hW hX) (ci := 5) rfl rfl rfl hl.1 rfl rfl (Nat.le_of_ble_eq_true rfl) dL_law_129 ⟨Nat.le_of_ble_eq_true rfl, Nat.le_of_ble_eq_true rfl⟩ (fun r14_ er14_ => ?_)
                    obtain rfl : r14_ = nI n10 := er14_.trans tC_s.2.2.2.2.2.2.2
                    have hJ156 : ∀ (x9 : Int32) (ls : Array Slot), (x9 = nI n10) → lv_has ls 7 [(6, .int r12_), (5, .int (nI n)), (4, .int (nI i)), (3, .int (nI t9)), (2, .int 1), (1, .ref z), (0, .ref bq)] → W p l e room_1 s m #[Value.ref bq] below meth c H locs 81 608 Q (F0 m 156 ls [.int x9, .int (nI n10)]) := by
                      intro x9 ls hx9 hl
                      refine lv_icmp_ne (tgt := 195) hx hb dL_law_156 (by decide) (fun c156 => ?_) (fun c156 => ?_)
                      · skip
                        exact absurd c156 (fun z => z (hx9.symm))
                      · skip
                        refine lv_aload_n hx hb dL_law_159 rfl (lv_at hl 5 rfl) ?_
                        refine callSi (As := [.ref z]) ⟨hx, hb, hml, hown, hts⟩ (mL_holds l T D z b1 b2 b3 h a q y d10 n10 σ10 g10 gb10 V10 G10 (14 * i + 14) hjk) (va_cwS 1 hts gL_law_L_holds rfl rfl rfl (pdL_holds).2 ⟨Nat.le_of_ble_eq_true rfl, Nat.le_of_ble_eq_true rfl⟩) hP hK xN_bl (fun U _ hW => XN_warm hW hX) hl.1 rfl rfl (Nat.le_of_ble_eq_true rfl) dL_law_160 ⟨Nat.le_of_ble_eq_true rfl, Nat.le_of_ble_eq_true rfl⟩ (fun r15_ er15_ => ?_)
                        obtain rfl : r15_ = 1 := er15_
                        refine lv_if_eq (tgt := 195) hx hb dL_law_163 (by decide) (fun c163 => ?_) (fun c163 => ?_)
                        · skip
                          exact absurd c163 (by decide)
                        · skip
                          refine lv_iload hx hb dL_law_166 (lv_at hl 2 rfl) ?_
                          refine lv_iconst (v := nI 3) hx hb dL_law_168 (by decide) ?_
                          refine lv_irem hx hb dL_law_169 (by decide) ?_
                          refine lv_tpi (z := nI (i % 3)) (pk_rem (by omega) (by decide) (by decide)) ?_
                          refine lv_iconst (v := nI 2) hx hb dL_law_170 (by decide) ?_
                          refine lv_icmp_ne (tgt := 191) hx hb dL_law_171 (by decide) (fun c171 => ?_) (fun c171 => ?_)
                          · skip
                            refine lv_iconst (v := 1) hx hb dL_law_191 (by decide) ?_
                            refine lv_goto (tgt := 196) hx hb dL_law_192 (by decide) ?_
                            refine lv_istore_n (lv' := [(2, .int 1), (6, .int r12_), (5, .int (nI n)), (4, .int (nI i)), (3, .int (nI t9)), (1, .ref z), (0, .ref bq)]) hx hb dL_law_196 rfl hl (by decide) rfl (fun ls hl => ?_)
                            refine lv_iinc (v := nI (i + 1)) (lv' := [(4, .int (nI (i + 1))), (2, .int 1), (6, .int r12_), (5, .int (nI n)), (3, .int (nI t9)), (1, .ref z), (0, .ref bq)]) hx hb dL_law_197 hl (k := 3) rfl (nI_1 i) (by decide) rfl (fun ls hl => ?_)
                            refine lv_goto (tgt := 61) hx hb dL_law_200 (by decide) ?_
                            exact ih (i + 1) d10 n10 σ10 g10 gb10 V10 G10 ls H locs (by omega) (by omega) (jOk_le hjk (by omega)) hnk hP hD hS (lv_sub hl [0, 4, 1, 5, 6] rfl)
                          · skip
                            refine lv_aload_n hx hb dL_law_174 rfl (lv_at hl 5 rfl) ?_
                            refine lv_aload_n hx hb dL_law_175 rfl (lv_at hl 6 rfl) ?_
                            refine lv_iconst (v := nI 3) hx hb dL_law_176 (by decide) ?_
                            refine lv_iload hx hb dL_law_177 (lv_at hl 2 rfl) ?_
                            refine lv_imul hx hb dL_law_179 ?_
                            refine lv_tpi (z := nI (3 * i)) (pk_mul 3 i) ?_
                            refine lv_iconst (v := nI 2) hx hb dL_law_180 (by decide) ?_
                            refine lv_iadd hx hb dL_law_181 ?_
                            refine lv_tpi (z := nI (3 * i + 2)) (nI_add _ _) ?_
                            refine callSi (As := [.ref bq, .int (nI (3 * i + 2))]) ⟨hx, hb, hml, hown, hts⟩ (mL_cell l T D bq L xs hL (3 * i + 2) (by omega)) (va_cwS 2 hts gL_law_L_cell rfl rfl rfl (pdL_cell).2 ⟨Nat.le_of_ble_eq_true rfl, Nat.le_of_ble_eq_true rfl⟩) wP_nil hK xC_bl (fun U hU hW => xC_go hsx hbl hbA hS hU hW) hl.1 rfl rfl (Nat.le_of_ble_eq_true rfl) dL_law_182 ⟨Nat.le_of_ble_eq_true rfl, Nat.le_of_ble_eq_true rfl⟩ (fun r16_ er16_ => ?_)
                            obtain rfl : r16_ = xs (3 * i + 2) := er16_
                            have hP : va_P D vwCl ((oW T z b1 b2 b3 h a q y d10 n10 σ10 g10 gb10 V10 G10) ++ []) H := by rw [List.append_nil]; exact hP
                            have hD : va_D A ((oW T z b1 b2 b3 h a q y d10 n10 σ10 g10 gb10 V10 G10) ++ []) := by rw [List.append_nil]; exact hD
                            refine callSm (As := [.ref z, .int (xs (3 * i + 2))]) (wr := []) ⟨hx, hb, hml, hown, hts⟩ (mL_tries l T D z b1 b2 b3 h a q y d10 n10 σ10 g10 gb10 V10 G10 (14 * i + 14) hjk hnk (by omega) (xs (3 * i + 2))) (va_cwS 2 hts gL_law_L_tries rfl rfl rfl (pdL_tries).2 ⟨Nat.le_of_ble_eq_true rfl, Nat.le_of_ble_eq_true rfl⟩) hP hD hK hS hA xN_bl (fun U _ hW => XN_warm hW hX) hl.1 rfl rfl (Nat.le_of_ble_eq_true rfl) dL_law_185 ⟨Nat.le_of_ble_eq_true rfl, Nat.le_of_ble_eq_true rfl⟩ (fun r18_ u19_ H locs eu19_ hP hD hS => ?_)
                            rw [List.append_nil] at hP hD
                            obtain ⟨⟨d16, n16, σ16⟩, ⟨g16, gb16⟩, V16, G16⟩ := u19_
                            obtain ⟨eb16, eg16, hn16⟩ := eu19_
                            have hP : va_P D vwCl (oW T z b1 b2 b3 h a q y d16 n16 σ16 g16 gb16 V16 G16) H := hP
                            have hD : va_D A (oW T z b1 b2 b3 h a q y d16 n16 σ16 g16 gb16 V16 G16) := hD
                            have eg16 : g16 = g10 := eg16
                            have hn16 : n16 ≤ 4 := hn16
                            have eg16 := eg16.symm
                            subst eg16
                            have hP : va_P D vwCl (oW T z b1 b2 b3 h a q y d16 n16 σ16 g10 gb16 V16 G16) H := hP
                            have hD : va_D A (oW T z b1 b2 b3 h a q y d16 n16 σ16 g10 gb16 V16 G16) := hD
                            obtain rfl : r18_ = 1 := eb16
                            refine lv_if_eq (tgt := 195) hx hb dL_law_188 (by decide) (fun c188 => ?_) (fun c188 => ?_)
                            · skip
                              exact absurd c188 (by decide)
                            · skip
                              refine lv_iconst (v := 1) hx hb dL_law_191 (by decide) ?_
                              refine lv_goto (tgt := 196) hx hb dL_law_192 (by decide) ?_
                              refine lv_istore_n (lv' := [(2, .int 1), (6, .int r12_), (5, .int (nI n)), (4, .int (nI i)), (3, .int (nI t9)), (1, .ref z), (0, .ref bq)]) hx hb dL_law_196 rfl hl (by decide) rfl (fun ls hl => ?_)
                              refine lv_iinc (v := nI (i + 1)) (lv' := [(4, .int (nI (i + 1))), (2, .int 1), (6, .int r12_), (5, .int (nI n)), (3, .int (nI t9)), (1, .ref z), (0, .ref bq)]) hx hb dL_law_197 hl (k := 3) rfl (nI_1 i) (by decide) rfl (fun ls hl => ?_)
                              refine lv_goto (tgt := 61) hx hb dL_law_200 (by decide) ?_
                              exact ih (i + 1) d16 n16 σ16 g10 gb16 V16 G16 ls H locs (by omega) (by omega) (jOk_le hjk (by omega)) hn16 hP hD hS (lv_sub hl [0, 4, 1, 5, 6] rfl)
                    refine lv_iload hx hb dL_law_132 (lv_at hl 0 rfl) ?_
                    refine lv_if_ge (tgt := 142) hx hb dL_law_134 (by decide) (fun c134 => ?_) (fun c134 => ?_)
                    · skip
                      refine lv_iload hx hb dL_law_142 (lv_at hl 1 rfl) ?_
                      refine lv_iconst (v := nI 4) hx hb dL_law_144 (by decide) ?_
                      refine lv_icmp_ne (tgt := 152) hx hb dL_law_145 (by decide) (fun c145 => ?_) (fun c145 => ?_)
                      · skip
                        have hn4 : ¬ n = 4 := fun z => c145 (by rw [z])
                        refine lv_iload hx hb dL_law_152 (lv_at hl 1 rfl) ?_
                        refine lv_iconst (v := nI 1) hx hb dL_law_154 (by decide) ?_
                        refine lv_iadd hx hb dL_law_155 ?_
                        refine lv_tpi (z := nI (n + 1)) (nI_add n 1) ?_
                        exact hJ156 (nI (n + 1)) ls (by rw [ek, if_pos c134, rcN, if_neg hn4]) hl
                      · skip
                        have hn4 : n = 4 := (nI_eq (by omega) (by decide)).mp c145
                        refine lv_iconst (v := 4) hx hb dL_law_148 (by decide) ?_
                        refine lv_goto (tgt := 156) hx hb dL_law_149 (by decide) ?_
                        exact hJ156 4 ls (by rw [ek, if_pos c134, rcN, if_pos hn4]; rfl) hl
                    · skip
                      refine lv_iload hx hb dL_law_137 (lv_at hl 1 rfl) ?_
                      refine lv_goto (tgt := 156) hx hb dL_law_139 (by decide) ?_
                      exact hJ156 (nI n) ls (by rw [ek, if_neg c134]) hl
          exact loop (t9 + 1) 0 d 0 (fun _ => sg0) sg0 sg0 V G ls H locs (by omega) (by omega) jOk_0 (Nat.zero_le _) hP hD hS (lv_sub hl [0, 1, 2, 3, 4] rfl)
        refine lv_aload_n hx hb dL_law_39 rfl (lv_at hl 2 rfl) ?_
        refine va_slen hx hb hsx hbl hbA hS dL_law_40 ?_
        refine lv_tpi (z := nI L) (rfl) ?_
        refine lv_iconst (v := nI 3) hx hb dL_law_41 (by decide) ?_
        refine lv_idiv hx hb dL_law_42 (by decide) ?_
        refine lv_tpi (z := nI (L / 3)) (pk_div (by omega) (by decide) (by decide)) ?_
        refine lv_bipush (v := nI 34) hx hb dL_law_43 (by decide) ?_
        refine lv_icmp_le (tgt := 53) hx hb dL_law_45 (by decide) (fun c45 => ?_) (fun c45 => ?_)
        · skip
          refine lv_aload_n hx hb dL_law_53 rfl (lv_at hl 2 rfl) ?_
          refine va_slen hx hb hsx hbl hbA hS dL_law_54 ?_
          refine lv_tpi (z := nI L) (rfl) ?_
          refine lv_iconst (v := nI 3) hx hb dL_law_55 (by decide) ?_
          refine lv_idiv hx hb dL_law_56 (by decide) ?_
          refine lv_tpi (z := nI (L / 3)) (pk_div (by omega) (by decide) (by decide)) ?_
          exact hJ57 (L / 3) ls (by
              have := (nI_leI (a := L / 3) (b := 34) (by omega) (by decide)).mp c45
              omega) hl
        · skip
          refine lv_bipush (v := nI 34) hx hb dL_law_48 (by decide) ?_
          refine lv_goto (tgt := 57) hx hb dL_law_50 (by decide) ?_
          exact hJ57 34 ls (by
              have := mt (nI_leI (a := L / 3) (b := 34) (by omega) (by decide)).mpr c45
              omega) hl
end PLAW
