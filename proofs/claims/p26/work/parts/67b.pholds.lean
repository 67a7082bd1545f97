def rmL_cell : Room := { frames := 0, cells := 0, slots := 0, locals := 0 }
set_option maxHeartbeats 4000000 in
set_option maxRecDepth 100000 in
theorem mL_cell (l : Launch) (T : Nat → ClassId) (D : va_G) (bq L : Nat) (xs : Nat → Int32) (hL : L ≤ 260) (i : Nat) (hi : i < L) : RdI l yL_cell wsL_cell rmL_cell T (xC bq L xs) D [.ref bq, .int (nI i)] [] (fun r => r = xs i) := by
  refine met_ri (cc := cL_cell) (maxL := 2) (by decide) rfl (Nat.le_of_ble_eq_true rfl) ?_
  intro p_ e s m args below meth c H ls Q hx hb hts hown hml hX hH hP hK hl hret
  have hl : lv_has ls 2 [(0, .ref bq), (1, .int (nI i))] := hl
  refine lv_iload_n hx hb dL_cell_0 rfl (lv_at hl 1 rfl) ?_
  refine lv_aload_n hx hb dL_cell_1 rfl (lv_at hl 0 rfl) ?_
  refine va_slen (A := fun _ => False) hx hb hX.1 hX.2 (fun z => z) (by rw [hH]; exact va_S.rf) dL_cell_2 ?_
  refine lv_tpi (z := nI L) (rfl) ?_
  refine lv_icmp_ge (tgt := 12) hx hb dL_cell_3 (by decide) (fun c3 => ?_) (fun c3 => ?_)
  · skip
    exact absurd c3 (nI_ge hi (by omega))
  · skip
    refine lv_aload_n hx hb dL_cell_6 rfl (lv_at hl 0 rfl) ?_
    refine lv_iload_n hx hb dL_cell_7 rfl (lv_at hl 1 rfl) ?_
    refine va_sld (A := fun _ => False) hx hb hX.1 hX.2 (fun z => z) (by rw [hH]; exact va_S.rf) (vp_in_nI (by omega) (by omega)) dL_cell_8 ?_
    refine lv_tpi (z := xs i) (congrArg xs (nI_clamp (by omega))) ?_
    refine lv_goto (tgt := 20) hx hb dL_cell_9 (by decide) ?_
    exact hret _ _ _ dL_cell_20 rfl

def rmL_holds : Room := { frames := 7, cells := 0, slots := 0, locals := 153 }
set_option maxHeartbeats 4000000 in
set_option maxRecDepth 100000 in
theorem mL_holds (l : Launch) (T : Nat → ClassId) (D : va_G) (z : Nat) (b1 b2 b3 h : Nat → Nat) (a q : Nat) (y : Nat → Nat) (d : Nat → Nat → Nat) (n : Nat) (σ : Nat → SG) (g gb : SG) (V : Nat → Int32) (G : Nat → Int64) (c0 : Nat) (hj : jOk c0 g) : RdI l yL_holds wsL_holds rmL_holds T xN D [.ref z] (oW T z b1 b2 b3 h a q y d n σ g gb V G) (fun r => r = 1) := by
  refine met_rz (cc := cL_holds) (maxL := 10) (by decide) rfl (Nat.le_of_ble_eq_true rfl) (fun r h => Or.inr h) ?_
  intro p_ e s m args below meth c H ls Q hx hb hts hown hml hX hH hP hK hl hret
  have hl : lv_has ls 10 [(0, .ref z)] := hl
  refine lv_iconst (v := 0) hx hb dL_holds_0 (by decide) ?_
  refine lv_istore_n (lv' := [(1, .int 0), (0, .ref z)]) hx hb dL_holds_1 rfl hl (by decide) rfl (fun ls hl => ?_)
  refine lv_iconst (v := 0) hx hb dL_holds_2 (by decide) ?_
  refine lv_istore_n (lv' := [(2, .int 0), (1, .int 0), (0, .ref z)]) hx hb dL_holds_3 rfl hl (by decide) rfl (fun ls hl => ?_)
  refine lv_iconst (v := 0) hx hb dL_holds_4 (by decide) ?_
  refine lv_istore_n (lv' := [(3, .int 0), (2, .int 0), (1, .int 0), (0, .ref z)]) hx hb dL_holds_5 rfl hl (by decide) rfl (fun ls hl => ?_)
  refine lv_iconst (v := 0) hx hb dL_holds_6 (by decide) ?_
  refine lv_istore (lv' := [(4, .int 0), (3, .int 0), (2, .int 0), (1, .int 0), (0, .ref z)]) hx hb dL_holds_7 hl (by decide) rfl (fun ls hl => ?_)
  refine lv_iconst (v := 0) hx hb dL_holds_9 (by decide) ?_
  refine lv_istore (lv' := [(5, .int 0), (4, .int 0), (3, .int 0), (2, .int 0), (1, .int 0), (0, .ref z)]) hx hb dL_holds_10 hl (by decide) rfl (fun ls hl => ?_)
  refine lv_iconst (v := 0) hx hb dL_holds_12 (by decide) ?_
  refine lv_istore (lv' := [(6, .int 0), (5, .int 0), (4, .int 0), (3, .int 0), (2, .int 0), (1, .int 0), (0, .ref z)]) hx hb dL_holds_13 hl (by decide) rfl (fun ls hl => ?_)
  refine lv_bipush (v := (-5)) hx hb dL_holds_15 (by decide) ?_
  refine lv_istore (lv' := [(7, .int (-5)), (6, .int 0), (5, .int 0), (4, .int 0), (3, .int 0), (2, .int 0), (1, .int 0), (0, .ref z)]) hx hb dL_holds_17 hl (by decide) rfl (fun ls hl => ?_)
  refine lv_aload_n hx hb dL_holds_19 rfl (lv_at hl 7 rfl) ?_
  refine lv_iconst (v := 4) hx hb dL_holds_20 (by decide) ?_
  refine lv_iconst (v := 0) hx hb dL_holds_21 (by decide) ?_
  refine callRi (As := [.int 4, .int 0]) ⟨hx, hb, hml, hown, hts⟩ (mX5_pair l T D z (b2 0) (b3 0) (h 0) a (y 0) 0 0 0 0 b1 g.1 g.2.1 g.2.2 hj.1 4 0) (cwV 2 hts gL_holds_X5_pair rfl rfl rfl pdX5_pair ⟨Nat.le_of_ble_eq_true rfl, Nat.le_of_ble_eq_true rfl⟩) (oW_rd hP) hK xN_bl (fun U _ hW => XN_warm hW hX) (ci := 5) rfl rfl rfl hl.1 rfl rfl (Nat.le_of_ble_eq_true rfl) dL_holds_22 ⟨Nat.zero_le _, Nat.zero_le _⟩ (fun r1_ er1_ => ?_)
  obtain rfl : r1_ = -1 := er1_.trans (sP_f (by decide))
  skip
  refine lv_iconst (v := (-1)) hx hb dL_holds_25 (by decide) ?_
  refine lv_icmp_ne (tgt := 46) hx hb dL_holds_26 (by decide) (fun c26 => ?_) (fun c26 => ?_)
  · skip
    exact absurd c26 (fun z => z (rfl))
  · skip
    refine lv_aload_n hx hb dL_holds_29 rfl (lv_at hl 7 rfl) ?_
    refine lv_iconst (v := (-1)) hx hb dL_holds_30 (by decide) ?_
    refine lv_iconst (v := 0) hx hb dL_holds_31 (by decide) ?_
    refine callRl (As := [.int (-1), .int 0]) ⟨hx, hb, hml, hown, hts⟩ (mX5_book l T D z (b2 0) (b3 0) (h 0) a (y 0) 0 0 0 0 b1 g.1 g.2.1 g.2.2 hj.1 (-1) 0) (cwV 2 hts gL_holds_X5_book rfl rfl rfl pdX5_book ⟨Nat.le_of_ble_eq_true rfl, Nat.le_of_ble_eq_true rfl⟩) (oW_rd hP) hK xN_bl (fun U _ hW => XN_warm hW hX) (ci := 5) rfl rfl rfl hl.1 rfl rfl (Nat.le_of_ble_eq_true rfl) dL_holds_32 ⟨Nat.zero_le _, Nat.zero_le _⟩ (fun r2_ er2_ => ?_)
    obtain rfl : r2_ = -1 := er2_.trans (sP_f (by decide))
    skip
    refine lv_ldc2 (v := -1) hx hb hown (hts (.constantLong RL 60 (-1)) (List.mem_of_getElem? (i := 1) rfl)) dL_holds_35 ?_
    refine W.lcmp hx hb dL_holds_38 ?_
    refine lv_tpi (z := 0) (lc_0 (rfl)) ?_
    refine lv_if_ne (tgt := 46) hx hb dL_holds_39 (by decide) (fun c39 => ?_) (fun c39 => ?_)
    · skip
      exact absurd c39 (by decide)
    · skip
      refine lv_iconst (v := 1) hx hb dL_holds_42 (by decide) ?_
      refine lv_goto (tgt := 47) hx hb dL_holds_43 (by decide) ?_
      refine lv_istore (lv' := [(8, .int 1), (7, .int (-5)), (6, .int 0), (5, .int 0), (4, .int 0), (3, .int 0), (2, .int 0), (1, .int 0), (0, .ref z)]) hx hb dL_holds_47 hl (by decide) rfl (fun ls hl => ?_)
      refine lv_iconst (v := (nI 4 - 1)) hx hb dL_holds_49 (by decide) ?_
      refine lv_istore (lv' := [(9, .int ((nI 4 - 1))), (8, .int 1), (7, .int (-5)), (6, .int 0), (5, .int 0), (4, .int 0), (3, .int 0), (2, .int 0), (1, .int 0), (0, .ref z)]) hx hb dL_holds_50 hl (by decide) rfl (fun ls hl => ?_)
      have loop : ∀ (j : Nat) (i : Nat) (o : Option Nat) (ls : Array Slot), (5 ≤ i + j) → (i ≤ 4) → (sMax g.2.1 4 none = sMax g.2.1 (4 - i) o) → (∀ f, o = some f → f < 4) → lv_has ls 10 [(9, .int (nI (4 - i) - 1)), (8, .int 1), (7, .int (oI o)), (6, .int (hD g.2.1 6 i)), (5, .int (hD g.2.1 5 i)), (4, .int (hD g.2.1 4 i)), (3, .int (hD g.2.1 3 i)), (2, .int (hD g.2.1 2 i)), (1, .int (hD g.2.1 1 i)), (0, .ref z)] → W p_ l e rmL_holds s m args below meth c H [] 0 0 Q (F0 m 52 ls []) := by
        intro j
        induction j with
        | zero => intro i o ls hm hi; exact absurd hm (by omega)
        | succ j ih =>
          intro i o ls hm hi ho hf hl
          refine lv_iload hx hb dL_holds_52 (lv_at hl 0 rfl) ?_
          refine lv_if_lt (tgt := 211) hx hb dL_holds_54 (by decide) (fun c54 => ?_) (fun c54 => ?_)
          · skip
            obtain rfl : i = 4 := by
              have := (pm_lt (k := 4 - i) (by omega)).mp c54
              omega
            refine lv_iload hx hb dL_holds_211 (lv_at hl 1 rfl) ?_
            refine lv_if_eq (tgt := 287) hx hb dL_holds_213 (by decide) (fun c213 => ?_) (fun c213 => ?_)
            · skip
              exact absurd c213 (by decide)
            · skip
              refine lv_iload_n hx hb dL_holds_216 rfl (lv_at hl 8 rfl) ?_
              refine lv_aload_n hx hb dL_holds_217 rfl (lv_at hl 9 rfl) ?_
              refine lv_iconst (v := 1) hx hb dL_holds_218 (by decide) ?_
              refine callRi (As := [.int 1]) ⟨hx, hb, hml, hown, hts⟩ (mX5_count l T D z (b2 0) (b3 0) a 0 0 0 0 b1 g.1 g.2.1 g.2.2 hj.1 h y n 0 z0 1) (cwV 1 hts gL_holds_X5_count rfl rfl rfl pdX5_count ⟨Nat.le_of_ble_eq_true rfl, Nat.le_of_ble_eq_true rfl⟩) (oW_cn hP) hK xN_bl (fun U _ hW => XN_warm hW hX) (ci := 5) rfl rfl rfl hl.1 rfl rfl (Nat.le_of_ble_eq_true rfl) dL_holds_219 ⟨Nat.zero_le _, Nat.zero_le _⟩ (fun r3_ er3_ => ?_)
              obtain rfl : r3_ = cSum g.2.1 1 4 := er3_.trans tC_s.1
              refine lv_icmp_ne (tgt := 287) hx hb dL_holds_222 (by decide) (fun c222 => ?_) (fun c222 => ?_)
              · skip
                exact absurd c222 (fun z => z (hD_4 _ _))
              · skip
                refine lv_iload_n hx hb dL_holds_225 rfl (lv_at hl 7 rfl) ?_
                refine lv_aload_n hx hb dL_holds_226 rfl (lv_at hl 9 rfl) ?_
                refine lv_iconst (v := 2) hx hb dL_holds_227 (by decide) ?_
                refine callRi (As := [.int 2]) ⟨hx, hb, hml, hown, hts⟩ (mX5_count l T D z (b2 0) (b3 0) a 0 0 0 0 b1 g.1 g.2.1 g.2.2 hj.1 h y n 0 z0 2) (cwV 1 hts gL_holds_X5_count rfl rfl rfl pdX5_count ⟨Nat.le_of_ble_eq_true rfl, Nat.le_of_ble_eq_true rfl⟩) (oW_cn hP) hK xN_bl (fun U _ hW => XN_warm hW hX) (ci := 5) rfl rfl rfl hl.1 rfl rfl (Nat.le_of_ble_eq_true rfl) dL_holds_228 ⟨Nat.zero_le _, Nat.zero_le _⟩ (fun r4_ er4_ => ?_)
                obtain rfl : r4_ = cSum g.2.1 2 4 := er4_.trans tC_s.2.1
                refine lv_icmp_ne (tgt := 287) hx hb dL_holds_231 (by decide) (fun c231 => ?_) (fun c231 => ?_)
                · skip
                  exact absurd c231 (fun z => z (hD_4 _ _))
                · skip
                  refine lv_iload_n hx hb dL_holds_234 rfl (lv_at hl 6 rfl) ?_
                  refine lv_aload_n hx hb dL_holds_235 rfl (lv_at hl 9 rfl) ?_
                  refine lv_iconst (v := 3) hx hb dL_holds_236 (by decide) ?_
                  refine callRi (As := [.int 3]) ⟨hx, hb, hml, hown, hts⟩ (mX5_count l T D z (b2 0) (b3 0) a 0 0 0 0 b1 g.1 g.2.1 g.2.2 hj.1 h y n 0 z0 3) (cwV 1 hts gL_holds_X5_count rfl rfl rfl pdX5_count ⟨Nat.le_of_ble_eq_true rfl, Nat.le_of_ble_eq_true rfl⟩) (oW_cn hP) hK xN_bl (fun U _ hW => XN_warm hW hX) (ci := 5) rfl rfl rfl hl.1 rfl rfl (Nat.le_of_ble_eq_true rfl) dL_holds_237 ⟨Nat.zero_le _, Nat.zero_le _⟩ (fun r5_ er5_ => ?_)
                  obtain rfl : r5_ = cSum g.2.1 3 4 := er5_.trans tC_s.2.2.1
                  refine lv_icmp_ne (tgt := 287) hx hb dL_holds_240 (by decide) (fun c240 => ?_) (fun c240 => ?_)
                  · skip
                    exact absurd c240 (fun z => z (hD_4 _ _))
                  · skip
                    refine lv_iload hx hb dL_holds_243 (lv_at hl 5 rfl) ?_
                    refine lv_aload_n hx hb dL_holds_245 rfl (lv_at hl 9 rfl) ?_
                    refine lv_iconst (v := 4) hx hb dL_holds_246 (by decide) ?_
                    refine callRi (As := [.int 4]) ⟨hx, hb, hml, hown, hts⟩ (mX5_count l T D z (b2 0) (b3 0) a 0 0 0 0 b1 g.1 g.2.1 g.2.2 hj.1 h y n 0 z0 4) (cwV 1 hts gL_holds_X5_count rfl rfl rfl pdX5_count ⟨Nat.le_of_ble_eq_true rfl, Nat.le_of_ble_eq_true rfl⟩) (oW_cn hP) hK xN_bl (fun U _ hW => XN_warm hW hX) (ci := 5) rfl rfl rfl hl.1 rfl rfl (Nat.le_of_ble_eq_true rfl) dL_holds_247 ⟨Nat.zero_le _, Nat.zero_le _⟩ (fun r6_ er6_ => ?_)
                    obtain rfl : r6_ = cSum g.2.1 4 4 := er6_.trans tC_s.2.2.2.1
                    refine lv_icmp_ne (tgt := 287) hx hb dL_holds_250 (by decide) (fun c250 => ?_) (fun c250 => ?_)
                    · skip
                      exact absurd c250 (fun z => z (hD_4 _ _))
                    · skip
                      refine lv_iload hx hb dL_holds_253 (lv_at hl 4 rfl) ?_
                      refine lv_aload_n hx hb dL_holds_255 rfl (lv_at hl 9 rfl) ?_
                      refine lv_iconst (v := 5) hx hb dL_holds_256 (by decide) ?_
                      refine callRi (As := [.int 5]) ⟨hx, hb, hml, hown, hts⟩ (mX5_count l T D z (b2 0) (b3 0) a 0 0 0 0 b1 g.1 g.2.1 g.2.2 hj.1 h y n 0 z0 5) (cwV 1 hts gL_holds_X5_count rfl rfl rfl pdX5_count ⟨Nat.le_of_ble_eq_true rfl, Nat.le_of_ble_eq_true rfl⟩) (oW_cn hP) hK xN_bl (fun U _ hW => XN_warm hW hX) (ci := 5) rfl rfl rfl hl.1 rfl rfl (Nat.le_of_ble_eq_true rfl) dL_holds_257 ⟨Nat.zero_le _, Nat.zero_le _⟩ (fun r7_ er7_ => ?_)
                      obtain rfl : r7_ = cSum g.2.1 5 4 := er7_.trans tC_s.2.2.2.2.1
                      refine lv_icmp_ne (tgt := 287) hx hb dL_holds_260 (by decide) (fun c260 => ?_) (fun c260 => ?_)
                      · skip
                        exact absurd c260 (fun z => z (hD_4 _ _))
                      · skip
                        refine lv_iload hx hb dL_holds_263 (lv_at hl 3 rfl) ?_
                        refine lv_aload_n hx hb dL_holds_265 rfl (lv_at hl 9 rfl) ?_
                        refine lv_bipush (v := 6) hx hb dL_holds_266 (by decide) ?_
                        refine callRi (As := [.int 6]) ⟨hx, hb, hml, hown, hts⟩ (mX5_count l T D z (b2 0) (b3 0) a 0 0 0 0 b1 g.1 g.2.1 g.2.2 hj.1 h y n 0 z0 6) (cwV 1 hts gL_holds_X5_count rfl rfl rfl pdX5_count ⟨Nat.le_of_ble_eq_true rfl, Nat.le_of_ble_eq_true rfl⟩) (oW_cn hP) hK xN_bl (fun U _ hW => XN_warm hW hX) (ci := 5) rfl rfl rfl hl.1 rfl rfl (Nat.le_of_ble_eq_true rfl) dL_holds_268 ⟨Nat.zero_le _, Nat.zero_le _⟩ (fun r8_ er8_ => ?_)
                        obtain rfl : r8_ = cSum g.2.1 6 4 := er8_.trans tC_s.2.2.2.2.2.1
                        refine lv_icmp_ne (tgt := 287) hx hb dL_holds_271 (by decide) (fun c271 => ?_) (fun c271 => ?_)
                        · skip
                          exact absurd c271 (fun z => z (hD_4 _ _))
                        · skip
                          refine lv_iload hx hb dL_holds_274 (lv_at hl 2 rfl) ?_
                          refine lv_aload_n hx hb dL_holds_276 rfl (lv_at hl 9 rfl) ?_
                          refine callRi (As := []) ⟨hx, hb, hml, hown, hts⟩ (mX5_strongest l T D z (b2 0) (b3 0) (h 0) a (y 0) 0 0 0 0 b1 g.1 g.2.1 g.2.2 hj.1) (cwV 0 hts gL_holds_X5_strongest rfl rfl rfl pdX5_strongest ⟨Nat.le_of_ble_eq_true rfl, Nat.le_of_ble_eq_true rfl⟩) (oW_rd hP) hK xN_bl (fun U _ hW => XN_warm hW hX) (ci := 5) rfl rfl rfl hl.1 rfl rfl (Nat.le_of_ble_eq_true rfl) dL_holds_277 ⟨Nat.zero_le _, Nat.zero_le _⟩ (fun r9_ er9_ => ?_)
                          obtain rfl : r9_ = oI (sMax g.2.1 4 none) := er9_.trans (sUp_max _)
                          refine lv_icmp_ne (tgt := 287) hx hb dL_holds_280 (by decide) (fun c280 => ?_) (fun c280 => ?_)
                          · skip
                            exact absurd c280 (fun z => z (congrArg oI ho.symm))
                          · skip
                            refine lv_iconst (v := 1) hx hb dL_holds_283 (by decide) ?_
                            refine lv_goto (tgt := 288) hx hb dL_holds_284 (by decide) ?_
                            exact hret _ _ _ dL_holds_288 rfl
          · skip
            obtain ⟨p, ep⟩ : ∃ p, 4 - i = p + 1 := ⟨3 - i, by
              have := mt (pm_lt (k := 4 - i) (by omega)).mpr c54
              omega⟩
            have hp : p < 4 := by omega
            have e3 : 3 - i = p := by omega
            have hl : lv_has ls 10 [(9, .int (nI p)), (8, .int 1), (7, .int (oI o)), (6, .int (hD g.2.1 6 i)), (5, .int (hD g.2.1 5 i)), (4, .int (hD g.2.1 4 i)), (3, .int (hD g.2.1 3 i)), (2, .int (hD g.2.1 2 i)), (1, .int (hD g.2.1 1 i)), (0, .ref z)] := by rw [ep, nI_pred] at hl; exact hl
            rw [ep] at ho
            refine lv_iload hx hb dL_holds_57 (lv_at hl 1 rfl) ?_
            refine lv_if_eq (tgt := 211) hx hb dL_holds_59 (by decide) (fun c59 => ?_) (fun c59 => ?_)
            · skip
              exact absurd c59 (by decide)
            · skip
              refine lv_aload_n hx hb dL_holds_62 rfl (lv_at hl 9 rfl) ?_
              refine lv_iload hx hb dL_holds_63 (lv_at hl 0 rfl) ?_
              refine callSi (As := [.ref z, .int (nI p)]) ⟨hx, hb, hml, hown, hts⟩ (mL_isPair l T D z b1 b2 b3 h a q y d n σ g gb V G c0 hj p hp) (va_cwS 2 hts gL_holds_L_isPair rfl rfl rfl (pdL_isPair).2 ⟨Nat.le_of_ble_eq_true rfl, Nat.le_of_ble_eq_true rfl⟩) hP hK xN_bl (fun U _ hW => XN_warm hW hX) hl.1 rfl rfl (Nat.le_of_ble_eq_true rfl) dL_holds_65 ⟨Nat.zero_le _, Nat.zero_le _⟩ (fun r10_ er10_ => ?_)
              obtain rfl : r10_ = 1 := er10_
              refine lv_istore (lv' := [(8, .int 1), (9, .int (nI p)), (7, .int (oI o)), (6, .int (hD g.2.1 6 i)), (5, .int (hD g.2.1 5 i)), (4, .int (hD g.2.1 4 i)), (3, .int (hD g.2.1 3 i)), (2, .int (hD g.2.1 2 i)), (1, .int (hD g.2.1 1 i)), (0, .ref z)]) hx hb dL_holds_68 hl (by decide) rfl (fun ls hl => ?_)
              refine lv_iload_n hx hb dL_holds_70 rfl (lv_at hl 8 rfl) ?_
              refine lv_aload_n hx hb dL_holds_71 rfl (lv_at hl 9 rfl) ?_
              refine lv_iload hx hb dL_holds_72 (lv_at hl 1 rfl) ?_
              refine lv_bipush (v := 10) hx hb dL_holds_74 (by decide) ?_
              refine callRi (As := [.int (nI p), .int 10]) ⟨hx, hb, hml, hown, hts⟩ (mX5_pair l T D z (b2 0) (b3 0) (h 0) a (y 0) 0 0 0 0 b1 g.1 g.2.1 g.2.2 hj.1 (nI p) 10) (cwV 2 hts gL_holds_X5_pair rfl rfl rfl pdX5_pair ⟨Nat.le_of_ble_eq_true rfl, Nat.le_of_ble_eq_true rfl⟩) (oW_rd hP) hK xN_bl (fun U _ hW => XN_warm hW hX) (ci := 5) rfl rfl rfl hl.1 rfl rfl (Nat.le_of_ble_eq_true rfl) dL_holds_76 ⟨Nat.zero_le _, Nat.zero_le _⟩ (fun r11_ er11_ => ?_)
              obtain rfl : r11_ = (g.2.1 p) 9 := er11_.trans ((rp hp _).trans rfl)
              refine lv_iadd hx hb dL_holds_79 ?_
              refine lv_tpi (z := hD g.2.1 1 (i + 1)) (hD_s e3 rfl) ?_
              refine lv_istore_n (lv' := [(1, .int (hD g.2.1 1 (i + 1))), (8, .int 1), (9, .int (nI p)), (7, .int (oI o)), (6, .int (hD g.2.1 6 i)), (5, .int (hD g.2.1 5 i)), (4, .int (hD g.2.1 4 i)), (3, .int (hD g.2.1 3 i)), (2, .int (hD g.2.1 2 i)), (0, .ref z)]) hx hb dL_holds_80 rfl hl (by decide) rfl (fun ls hl => ?_)
              have hJ97 : ∀ (x9 : Int32) (ls : Array Slot), (x9 = cPart (g.2.1 p) 2) → lv_has ls 10 [(1, .int (hD g.2.1 1 (i + 1))), (8, .int 1), (9, .int (nI p)), (7, .int (oI o)), (6, .int (hD g.2.1 6 i)), (5, .int (hD g.2.1 5 i)), (4, .int (hD g.2.1 4 i)), (3, .int (hD g.2.1 3 i)), (2, .int (hD g.2.1 2 i)), (0, .ref z)] → W p_ l e rmL_holds s m args below meth c H [] 0 0 Q (F0 m 97 ls [.int x9, .int (hD g.2.1 2 i)]) := by
                intro x9 ls hx9 hl
                refine lv_iadd hx hb dL_holds_97 ?_
                refine lv_tpi (z := hD g.2.1 2 (i + 1)) (hD_s e3 hx9) ?_
                refine lv_istore_n (lv' := [(2, .int (hD g.2.1 2 (i + 1))), (1, .int (hD g.2.1 1 (i + 1))), (8, .int 1), (9, .int (nI p)), (7, .int (oI o)), (6, .int (hD g.2.1 6 i)), (5, .int (hD g.2.1 5 i)), (4, .int (hD g.2.1 4 i)), (3, .int (hD g.2.1 3 i)), (0, .ref z)]) hx hb dL_holds_98 rfl hl (by decide) rfl (fun ls hl => ?_)
                refine lv_iload_n hx hb dL_holds_99 rfl (lv_at hl 8 rfl) ?_
                refine lv_aload_n hx hb dL_holds_100 rfl (lv_at hl 9 rfl) ?_
                refine lv_iload hx hb dL_holds_101 (lv_at hl 3 rfl) ?_
                refine lv_bipush (v := 8) hx hb dL_holds_103 (by decide) ?_
                refine callRi (As := [.int (nI p), .int 8]) ⟨hx, hb, hml, hown, hts⟩ (mX5_pair l T D z (b2 0) (b3 0) (h 0) a (y 0) 0 0 0 0 b1 g.1 g.2.1 g.2.2 hj.1 (nI p) 8) (cwV 2 hts gL_holds_X5_pair rfl rfl rfl pdX5_pair ⟨Nat.le_of_ble_eq_true rfl, Nat.le_of_ble_eq_true rfl⟩) (oW_rd hP) hK xN_bl (fun U _ hW => XN_warm hW hX) (ci := 5) rfl rfl rfl hl.1 rfl rfl (Nat.le_of_ble_eq_true rfl) dL_holds_105 ⟨Nat.zero_le _, Nat.zero_le _⟩ (fun r12_ er12_ => ?_)
                obtain rfl : r12_ = (g.2.1 p) 7 := er12_.trans ((rp hp _).trans rfl)
                refine lv_iadd hx hb dL_holds_108 ?_
                refine lv_tpi (z := hD g.2.1 3 (i + 1)) (hD_s e3 rfl) ?_
                refine lv_istore_n (lv' := [(3, .int (hD g.2.1 3 (i + 1))), (2, .int (hD g.2.1 2 (i + 1))), (1, .int (hD g.2.1 1 (i + 1))), (8, .int 1), (9, .int (nI p)), (7, .int (oI o)), (6, .int (hD g.2.1 6 i)), (5, .int (hD g.2.1 5 i)), (4, .int (hD g.2.1 4 i)), (0, .ref z)]) hx hb dL_holds_109 rfl hl (by decide) rfl (fun ls hl => ?_)
                refine lv_iload hx hb dL_holds_110 (lv_at hl 8 rfl) ?_
                refine lv_aload_n hx hb dL_holds_112 rfl (lv_at hl 9 rfl) ?_
                refine lv_iload hx hb dL_holds_113 (lv_at hl 4 rfl) ?_
                refine lv_bipush (v := 7) hx hb dL_holds_115 (by decide) ?_
                refine callRi (As := [.int (nI p), .int 7]) ⟨hx, hb, hml, hown, hts⟩ (mX5_pair l T D z (b2 0) (b3 0) (h 0) a (y 0) 0 0 0 0 b1 g.1 g.2.1 g.2.2 hj.1 (nI p) 7) (cwV 2 hts gL_holds_X5_pair rfl rfl rfl pdX5_pair ⟨Nat.le_of_ble_eq_true rfl, Nat.le_of_ble_eq_true rfl⟩) (oW_rd hP) hK xN_bl (fun U _ hW => XN_warm hW hX) (ci := 5) rfl rfl rfl hl.1 rfl rfl (Nat.le_of_ble_eq_true rfl) dL_holds_117 ⟨Nat.zero_le _, Nat.zero_le _⟩ (fun r13_ er13_ => ?_)
                obtain rfl : r13_ = kCap (g.2.1 p) ((g.2.1 p) 6) := er13_.trans ((rp hp _).trans rfl)
                refine lv_iadd hx hb dL_holds_120 ?_
                refine lv_tpi (z := hD g.2.1 4 (i + 1)) (hD_s e3 rfl) ?_
                refine lv_istore (lv' := [(4, .int (hD g.2.1 4 (i + 1))), (3, .int (hD g.2.1 3 (i + 1))), (2, .int (hD g.2.1 2 (i + 1))), (1, .int (hD g.2.1 1 (i + 1))), (8, .int 1), (9, .int (nI p)), (7, .int (oI o)), (6, .int (hD g.2.1 6 i)), (5, .int (hD g.2.1 5 i)), (0, .ref z)]) hx hb dL_holds_121 hl (by decide) rfl (fun ls hl => ?_)
                refine lv_iload hx hb dL_holds_123 (lv_at hl 8 rfl) ?_
                refine lv_aload_n hx hb dL_holds_125 rfl (lv_at hl 9 rfl) ?_
                refine lv_iload hx hb dL_holds_126 (lv_at hl 5 rfl) ?_
                refine lv_bipush (v := 6) hx hb dL_holds_128 (by decide) ?_
                refine callRi (As := [.int (nI p), .int 6]) ⟨hx, hb, hml, hown, hts⟩ (mX5_pair l T D z (b2 0) (b3 0) (h 0) a (y 0) 0 0 0 0 b1 g.1 g.2.1 g.2.2 hj.1 (nI p) 6) (cwV 2 hts gL_holds_X5_pair rfl rfl rfl pdX5_pair ⟨Nat.le_of_ble_eq_true rfl, Nat.le_of_ble_eq_true rfl⟩) (oW_rd hP) hK xN_bl (fun U _ hW => XN_warm hW hX) (ci := 5) rfl rfl rfl hl.1 rfl rfl (Nat.le_of_ble_eq_true rfl) dL_holds_130 ⟨Nat.zero_le _, Nat.zero_le _⟩ (fun r14_ er14_ => ?_)
                obtain rfl : r14_ = (g.2.1 p) 6 := er14_.trans ((rp hp _).trans rfl)
                refine lv_iadd hx hb dL_holds_133 ?_
                refine lv_tpi (z := hD g.2.1 5 (i + 1)) (hD_s e3 rfl) ?_
                refine lv_istore (lv' := [(5, .int (hD g.2.1 5 (i + 1))), (4, .int (hD g.2.1 4 (i + 1))), (3, .int (hD g.2.1 3 (i + 1))), (2, .int (hD g.2.1 2 (i + 1))), (1, .int (hD g.2.1 1 (i + 1))), (8, .int 1), (9, .int (nI p)), (7, .int (oI o)), (6, .int (hD g.2.1 6 i)), (0, .ref z)]) hx hb dL_holds_134 hl (by decide) rfl (fun ls hl => ?_)
                have hJ156 : ∀ (x9 : Int32) (ls : Array Slot), (x9 = cPart (g.2.1 p) 6) → lv_has ls 10 [(5, .int (hD g.2.1 5 (i + 1))), (4, .int (hD g.2.1 4 (i + 1))), (3, .int (hD g.2.1 3 (i + 1))), (2, .int (hD g.2.1 2 (i + 1))), (1, .int (hD g.2.1 1 (i + 1))), (8, .int 1), (9, .int (nI p)), (7, .int (oI o)), (6, .int (hD g.2.1 6 i)), (0, .ref z)] → W p_ l e rmL_holds s m args below meth c H [] 0 0 Q (F0 m 156 ls [.int x9, .int (hD g.2.1 6 i)]) := by
                  intro x9 ls hx9 hl
                  refine lv_iadd hx hb dL_holds_156 ?_
                  refine lv_tpi (z := hD g.2.1 6 (i + 1)) (hD_s e3 hx9) ?_
                  refine lv_istore (lv' := [(6, .int (hD g.2.1 6 (i + 1))), (5, .int (hD g.2.1 5 (i + 1))), (4, .int (hD g.2.1 4 (i + 1))), (3, .int (hD g.2.1 3 (i + 1))), (2, .int (hD g.2.1 2 (i + 1))), (1, .int (hD g.2.1 1 (i + 1))), (8, .int 1), (9, .int (nI p)), (7, .int (oI o)), (0, .ref z)]) hx hb dL_holds_157 hl (by decide) rfl (fun ls hl => ?_)
                  have hJ203 : ∀ (o2 : Option Nat) (ls : Array Slot), (sMax g.2.1 4 none = sMax g.2.1 p o2) → (∀ f, o2 = some f → f < 4) → lv_has ls 10 [(6, .int (hD g.2.1 6 (i + 1))), (5, .int (hD g.2.1 5 (i + 1))), (4, .int (hD g.2.1 4 (i + 1))), (3, .int (hD g.2.1 3 (i + 1))), (2, .int (hD g.2.1 2 (i + 1))), (1, .int (hD g.2.1 1 (i + 1))), (8, .int 1), (9, .int (nI p)), (7, .int (oI o)), (0, .ref z)] → W p_ l e rmL_holds s m args below meth c H [] 0 0 Q (F0 m 203 ls [.int (oI o2)]) := by
                    intro o2 ls hs2 hf2 hl
                    refine lv_istore (lv' := [(7, .int (oI o2)), (6, .int (hD g.2.1 6 (i + 1))), (5, .int (hD g.2.1 5 (i + 1))), (4, .int (hD g.2.1 4 (i + 1))), (3, .int (hD g.2.1 3 (i + 1))), (2, .int (hD g.2.1 2 (i + 1))), (1, .int (hD g.2.1 1 (i + 1))), (8, .int 1), (9, .int (nI p)), (0, .ref z)]) hx hb dL_holds_203 hl (by decide) rfl (fun ls hl => ?_)
                    refine lv_iinc (v := nI (4 - (i + 1)) - 1) (lv' := [(9, .int (nI (4 - (i + 1)) - 1)), (7, .int (oI o2)), (6, .int (hD g.2.1 6 (i + 1))), (5, .int (hD g.2.1 5 (i + 1))), (4, .int (hD g.2.1 4 (i + 1))), (3, .int (hD g.2.1 3 (i + 1))), (2, .int (hD g.2.1 2 (i + 1))), (1, .int (hD g.2.1 1 (i + 1))), (8, .int 1), (0, .ref z)]) hx hb dL_holds_205 hl (k := 8) rfl (iinc_m1 (by omega)) (by decide) rfl (fun ls hl => ?_)
                    refine lv_goto (tgt := 52) hx hb dL_holds_208 (by decide) ?_
                    exact ih (i + 1) o2 ls (by omega) (by omega) (by rw [show 4 - (i + 1) = p by omega]; exact hs2) hf2 (lv_sub hl [0, 8, 1, 2, 3, 4, 5, 6, 7, 9] rfl)
                  refine lv_aload_n hx hb dL_holds_159 rfl (lv_at hl 9 rfl) ?_
                  refine lv_iload hx hb dL_holds_160 (lv_at hl 7 rfl) ?_
                  refine lv_bipush (v := 11) hx hb dL_holds_162 (by decide) ?_
                  refine callRi (As := [.int (nI p), .int 11]) ⟨hx, hb, hml, hown, hts⟩ (mX5_pair l T D z (b2 0) (b3 0) (h 0) a (y 0) 0 0 0 0 b1 g.1 g.2.1 g.2.2 hj.1 (nI p) 11) (cwV 2 hts gL_holds_X5_pair rfl rfl rfl pdX5_pair ⟨Nat.le_of_ble_eq_true rfl, Nat.le_of_ble_eq_true rfl⟩) (oW_rd hP) hK xN_bl (fun U _ hW => XN_warm hW hX) (ci := 5) rfl rfl rfl hl.1 rfl rfl (Nat.le_of_ble_eq_true rfl) dL_holds_164 ⟨Nat.zero_le _, Nat.zero_le _⟩ (fun r15_ er15_ => ?_)
                  obtain rfl : r15_ = kPullAt (g.2.1 p) ((g.2.1 p) 6) ((g.2.1 p) 7) := er15_.trans ((rp hp _).trans rfl)
                  refine lv_if_le (tgt := 201) hx hb dL_holds_167 (by decide) (fun c167 => ?_) (fun c167 => ?_)
                  · skip
                    refine lv_iload hx hb dL_holds_201 (lv_at hl 8 rfl) ?_
                    exact hJ203 o ls (ho.trans (congrArg (sMax g.2.1 p) (sStep_no (Int32.not_lt.mpr c167)))) (hf) hl
                  · skip
                    refine lv_iload hx hb dL_holds_170 (lv_at hl 8 rfl) ?_
                    refine lv_bipush (v := (-5)) hx hb dL_holds_172 (by decide) ?_
                    refine lv_icmp_eq (tgt := 196) hx hb dL_holds_174 (by decide) (fun c174 => ?_) (fun c174 => ?_)
                    · skip
                      obtain rfl : o = none := oI_none hf c174
                      refine lv_iload hx hb dL_holds_196 (lv_at hl 7 rfl) ?_
                      refine lv_goto (tgt := 203) hx hb dL_holds_198 (by decide) ?_
                      exact hJ203 (some p) ls (ho.trans (congrArg (sMax g.2.1 p) (sStep_none (Int32.not_le.mp c167)))) (fun f9 e9 => by cases e9; exact hp) hl
                    · skip
                      obtain ⟨f, rfl⟩ := oI_some c174
                      have hff : f < 4 := hf f rfl
                      refine lv_aload_n hx hb dL_holds_177 rfl (lv_at hl 9 rfl) ?_
                      refine lv_iload hx hb dL_holds_178 (lv_at hl 7 rfl) ?_
                      refine lv_bipush (v := 11) hx hb dL_holds_180 (by decide) ?_
                      refine callRi (As := [.int (nI p), .int 11]) ⟨hx, hb, hml, hown, hts⟩ (mX5_pair l T D z (b2 0) (b3 0) (h 0) a (y 0) 0 0 0 0 b1 g.1 g.2.1 g.2.2 hj.1 (nI p) 11) (cwV 2 hts gL_holds_X5_pair rfl rfl rfl pdX5_pair ⟨Nat.le_of_ble_eq_true rfl, Nat.le_of_ble_eq_true rfl⟩) (oW_rd hP) hK xN_bl (fun U _ hW => XN_warm hW hX) (ci := 5) rfl rfl rfl hl.1 rfl rfl (Nat.le_of_ble_eq_true rfl) dL_holds_182 ⟨Nat.zero_le _, Nat.zero_le _⟩ (fun r16_ er16_ => ?_)
                      obtain rfl : r16_ = kPullAt (g.2.1 p) ((g.2.1 p) 6) ((g.2.1 p) 7) := er16_.trans ((rp hp _).trans rfl)
                      refine lv_aload_n hx hb dL_holds_185 rfl (lv_at hl 9 rfl) ?_
                      refine lv_iload hx hb dL_holds_186 (lv_at hl 8 rfl) ?_
                      refine lv_bipush (v := 11) hx hb dL_holds_188 (by decide) ?_
                      refine callRi (As := [.int (nI f), .int 11]) ⟨hx, hb, hml, hown, hts⟩ (mX5_pair l T D z (b2 0) (b3 0) (h 0) a (y 0) 0 0 0 0 b1 g.1 g.2.1 g.2.2 hj.1 (nI f) 11) (cwV 2 hts gL_holds_X5_pair rfl rfl rfl pdX5_pair ⟨Nat.le_of_ble_eq_true rfl, Nat.le_of_ble_eq_true rfl⟩) (oW_rd hP) hK xN_bl (fun U _ hW => XN_warm hW hX) (ci := 5) rfl rfl rfl hl.1 rfl rfl (Nat.le_of_ble_eq_true rfl) dL_holds_190 ⟨Nat.zero_le _, Nat.zero_le _⟩ (fun r17_ er17_ => ?_)
                      obtain rfl : r17_ = kPullAt (g.2.1 f) ((g.2.1 f) 6) ((g.2.1 f) 7) := er17_.trans ((rp hff _).trans rfl)
                      refine lv_icmp_lt (tgt := 201) hx hb dL_holds_193 (by decide) (fun c193 => ?_) (fun c193 => ?_)
                      · skip
                        refine lv_iload hx hb dL_holds_201 (lv_at hl 8 rfl) ?_
                        exact hJ203 (some f) ls (ho.trans (congrArg (sMax g.2.1 p) (sStep_less (Int32.not_le.mpr c193)))) (fun f9 e9 => by cases e9; exact hff) hl
                      · skip
                        refine lv_iload hx hb dL_holds_196 (lv_at hl 7 rfl) ?_
                        refine lv_goto (tgt := 203) hx hb dL_holds_198 (by decide) ?_
                        exact hJ203 (some p) ls (ho.trans (congrArg (sMax g.2.1 p) (sStep_more (Int32.not_le.mp c167) (Int32.not_lt.mp c193)))) (fun f9 e9 => by cases e9; exact hp) hl
                refine lv_iload hx hb dL_holds_136 (lv_at hl 8 rfl) ?_
                refine lv_aload_n hx hb dL_holds_138 rfl (lv_at hl 9 rfl) ?_
                refine lv_iload hx hb dL_holds_139 (lv_at hl 6 rfl) ?_
                refine lv_bipush (v := 6) hx hb dL_holds_141 (by decide) ?_
                refine callRi (As := [.int (nI p), .int 6]) ⟨hx, hb, hml, hown, hts⟩ (mX5_pair l T D z (b2 0) (b3 0) (h 0) a (y 0) 0 0 0 0 b1 g.1 g.2.1 g.2.2 hj.1 (nI p) 6) (cwV 2 hts gL_holds_X5_pair rfl rfl rfl pdX5_pair ⟨Nat.le_of_ble_eq_true rfl, Nat.le_of_ble_eq_true rfl⟩) (oW_rd hP) hK xN_bl (fun U _ hW => XN_warm hW hX) (ci := 5) rfl rfl rfl hl.1 rfl rfl (Nat.le_of_ble_eq_true rfl) dL_holds_143 ⟨Nat.zero_le _, Nat.zero_le _⟩ (fun r18_ er18_ => ?_)
                obtain rfl : r18_ = (g.2.1 p) 6 := er18_.trans ((rp hp _).trans rfl)
                refine lv_bipush (v := 40) hx hb dL_holds_146 (by decide) ?_
                refine lv_icmp_ne (tgt := 155) hx hb dL_holds_148 (by decide) (fun c148 => ?_) (fun c148 => ?_)
                · skip
                  refine lv_iconst (v := 0) hx hb dL_holds_155 (by decide) ?_
                  exact hJ156 0 ls ((if_neg c148).symm) hl
                · skip
                  refine lv_iconst (v := 1) hx hb dL_holds_151 (by decide) ?_
                  refine lv_goto (tgt := 156) hx hb dL_holds_152 (by decide) ?_
                  exact hJ156 1 ls ((if_pos c148).symm) hl
              refine lv_iload_n hx hb dL_holds_81 rfl (lv_at hl 8 rfl) ?_
              refine lv_aload_n hx hb dL_holds_82 rfl (lv_at hl 9 rfl) ?_
              refine lv_iload hx hb dL_holds_83 (lv_at hl 2 rfl) ?_
              refine callRi (As := [.int (nI p)]) ⟨hx, hb, hml, hown, hts⟩ (mX5_reason l T D z (b2 0) (b3 0) (h 0) a (y 0) 0 0 0 0 b1 g.1 g.2.1 g.2.2 hj.1 (nI p)) (cwV 1 hts gL_holds_X5_reason rfl rfl rfl pdX5_reason ⟨Nat.le_of_ble_eq_true rfl, Nat.le_of_ble_eq_true rfl⟩) (oW_rd hP) hK xN_bl (fun U _ hW => XN_warm hW hX) (ci := 5) rfl rfl rfl hl.1 rfl rfl (Nat.le_of_ble_eq_true rfl) dL_holds_85 ⟨Nat.zero_le _, Nat.zero_le _⟩ (fun r19_ er19_ => ?_)
              obtain rfl : r19_ = kWhy (g.2.1 p) := er19_.trans (sP_t hp)
              refine lv_iconst (v := 2) hx hb dL_holds_88 (by decide) ?_
              refine lv_icmp_ge (tgt := 96) hx hb dL_holds_89 (by decide) (fun c89 => ?_) (fun c89 => ?_)
              · skip
                refine lv_iconst (v := 0) hx hb dL_holds_96 (by decide) ?_
                exact hJ97 0 ls ((if_neg (Int32.not_lt.mpr c89)).symm) hl
              · skip
                refine lv_iconst (v := 1) hx hb dL_holds_92 (by decide) ?_
                refine lv_goto (tgt := 97) hx hb dL_holds_93 (by decide) ?_
                exact hJ97 1 ls ((if_pos (Int32.not_le.mp c89)).symm) hl
      exact loop 5 0 none ls (by omega) (by omega) rfl (fun f9 e9 => nomatch e9) (lv_sub hl [0, 1, 2, 3, 4, 5, 6, 7, 8, 9] rfl)

