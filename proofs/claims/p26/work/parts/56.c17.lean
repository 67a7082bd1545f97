theorem pdX5_partOfCount : yX5_partOfCount.cls = RX5 ∧ yX5_partOfCount.cls ≠ "java/lang/invoke/MethodHandle" ∧ yX5_partOfCount.cls ≠ "java/lang/invoke/VarHandle" ∧ (parseMethodDescriptor yX5_partOfCount.desc).map (fun d => d.parameters.length) = some 2 := by decide +kernel
theorem pdX5_sumOfPairs : yX5_sumOfPairs.cls = RX5 ∧ yX5_sumOfPairs.cls ≠ "java/lang/invoke/MethodHandle" ∧ yX5_sumOfPairs.cls ≠ "java/lang/invoke/VarHandle" ∧ (parseMethodDescriptor yX5_sumOfPairs.desc).map (fun d => d.parameters.length) = some 1 := by decide +kernel
theorem inwX5_partOfCount_X1 : ∀ w ∈ wsX10, w ∈ wsX5_partOfCount := by decide +kernel
theorem inwX5_sumOfPairs_X5 : ∀ w ∈ wsX50, w ∈ wsX5_sumOfPairs := by decide +kernel
theorem inwX5_sumOfPairs_X2 : ∀ w ∈ wsX20, w ∈ wsX5_sumOfPairs := by decide +kernel
theorem inwX5_sumOfPairs_X1 : ∀ w ∈ wsX10, w ∈ wsX5_sumOfPairs := by decide +kernel
theorem sw_1_5 (w : Int32) : (w.toInt < 1 ∨ 5 < w.toInt) ∨ w = 1 ∨ w = 2 ∨ w = 3 ∨ w = 4 ∨ w = 5 := by
  rcases sw_of w 1 5 with h | h
  · exact Or.inl h
  · have e : w.toInt = 1 ∨ w.toInt = 2 ∨ w.toInt = 3 ∨ w.toInt = 4 ∨ w.toInt = 5 := by omega
    rcases e with e | e | e | e | e
    · exact Or.inr (Or.inl (w_is (c := 1) (e.trans (by decide))))
    · exact Or.inr (Or.inr (Or.inl (w_is (c := 2) (e.trans (by decide)))))
    · exact Or.inr (Or.inr (Or.inr (Or.inl (w_is (c := 3) (e.trans (by decide))))))
    · exact Or.inr (Or.inr (Or.inr (Or.inr (Or.inl (w_is (c := 4) (e.trans (by decide)))))))
    · exact Or.inr (Or.inr (Or.inr (Or.inr (Or.inr ((w_is (c := 5) (e.trans (by decide))))))))
theorem cPart_out {V : Nat → Int32} {w : Int32} (h : w.toInt < 1 ∨ 5 < w.toInt) : cPart V w = if V 6 = 40 then 1 else 0 := by
  rw [cPart, if_neg (w_not h 1 (by decide)), if_neg (w_not h 2 (by decide)), if_neg (w_not h 3 (by decide)), if_neg (w_not h 4 (by decide)), if_neg (w_not h 5 (by decide))]
theorem le1 {x : Int32} : ¬ 1 < x ↔ x < 2 := by
  rw [fa_lt, fa_lt, i_1, show (2 : Int32).toInt = 2 by decide]
  omega
def rmX5_partOfCount : Room := { frames := 4, cells := 0, slots := 0, locals := 88 }
set_option maxHeartbeats 4000000 in
set_option maxRecDepth 100000 in
theorem mX5_partOfCount (l : Launch) (T : Nat → ClassId) (D : va_G) (a q : Nat) (V : Nat → Int32) (G : Nat → Int64) (hk : kOk V) (w : Int32) : RdI l yX5_partOfCount wsX5_partOfCount rmX5_partOfCount T xN D [.ref a, .int w] [(a, .inr (1, [.ref q, .int (V 6), .int (V 7), .int (V 8), .int (V 9), .long (G 0), .long (G 1), .long (G 2)])), (q, .inl (T 0, 6, .inl (V)))] (fun r => r = cPart V w) := by
  refine met_ri (cc := cX5_partOfCount) (maxL := 2) (by decide) rfl (Nat.le_of_ble_eq_true rfl) ?_
  intro p_ e s m args below meth c H ls Q hx hb hts hown hml hX hH hP hK hl hret
  have hl : lv_has ls 2 [(0, .ref a), (1, .int w)] := hl
  refine lv_iload_n hx hb dX5_partOfCount_0 rfl (lv_at hl 1 rfl) ?_
  rcases sw_1_5 w with hw | hw | hw | hw | hw | hw
  · skip
    refine lv_tableOut (tgt := 82) hx hb dX5_partOfCount_1 hw (by decide) ?_
    refine lv_aload_n hx hb dX5_partOfCount_82 rfl (lv_at hl 0 rfl) ?_
    refine va_get (D := D) (ci := 1) (v := .int (V 6)) (C := RX1) (T := TX1) (N := 8) hx hb hts inwX5_partOfCount_X1 hown hK hP 0 rfl rfl 1 (by decide) (hts (.fieldLink RX5 146 "PlateSlabs$Plates" "depth" "I") (List.mem_of_getElem? (i := 3) rfl)) (fun _ h9 => h9) rfl dX5_partOfCount_83 ?_
    refine lv_bipush (v := 40) hx hb dX5_partOfCount_86 (by decide) ?_
    refine lv_icmp_ne (tgt := 95) hx hb dX5_partOfCount_88 (by decide) (fun c88 => ?_) (fun c88 => ?_)
    · skip
      refine lv_iconst (v := 0) hx hb dX5_partOfCount_95 (by decide) ?_
      exact hret _ _ _ dX5_partOfCount_96 (by rw [cPart_out hw, if_neg c88])
    · skip
      refine lv_iconst (v := 1) hx hb dX5_partOfCount_91 (by decide) ?_
      refine lv_goto (tgt := 96) hx hb dX5_partOfCount_92 (by decide) ?_
      exact hret _ _ _ dX5_partOfCount_96 (by rw [cPart_out hw, if_pos c88])
  · skip
    subst hw
    refine lv_tableIn (off := 35) (tgt := 36) hx hb dX5_partOfCount_1 (by decide) (by decide) (by decide) (by decide) ?_
    refine lv_aload_n hx hb dX5_partOfCount_36 rfl (lv_at hl 0 rfl) ?_
    refine va_get (D := D) (ci := 1) (v := .int (V 9)) (C := RX1) (T := TX1) (N := 8) hx hb hts inwX5_partOfCount_X1 hown hK hP 0 rfl rfl 4 (by decide) (hts (.fieldLink RX5 158 "PlateSlabs$Plates" "isOn" "Z") (List.mem_of_getElem? (i := 1) rfl)) (fun _ h9 => h9) rfl dX5_partOfCount_37 ?_
    refine lv_if_eq (tgt := 47) hx hb dX5_partOfCount_40 (by decide) (fun c40 => ?_) (fun c40 => ?_)
    · skip
      have h9 := off_of c40
      refine lv_iconst (v := 0) hx hb dX5_partOfCount_47 (by decide) ?_
      exact hret _ _ _ dX5_partOfCount_48 (show (0 : Int32) = V 9 from c40.symm)
    · skip
      have h9 := on_of hk c40
      refine lv_iconst (v := 1) hx hb dX5_partOfCount_43 (by decide) ?_
      refine lv_goto (tgt := 48) hx hb dX5_partOfCount_44 (by decide) ?_
      exact hret _ _ _ dX5_partOfCount_48 (show (1 : Int32) = V 9 from h9.symm)
  · skip
    subst hw
    refine lv_tableIn (off := 48) (tgt := 49) hx hb dX5_partOfCount_1 (by decide) (by decide) (by decide) (by decide) ?_
    refine lv_aload_n hx hb dX5_partOfCount_49 rfl (lv_at hl 0 rfl) ?_
    refine callRi (As := []) ⟨hx, hb, hml, hown, hts⟩ (mX1_reasonNow l T D a q V G hk) (cwV 0 hts gX5_partOfCount_X1_reasonNow rfl rfl rfl pdX1_reasonNow ⟨Nat.le_of_ble_eq_true rfl, Nat.le_of_ble_eq_true rfl⟩) hP hK xN_bl (fun U _ hW => XN_warm hW hX) (ci := 1) rfl rfl rfl hl.1 rfl rfl (Nat.le_of_ble_eq_true rfl) dX5_partOfCount_50 ⟨Nat.zero_le _, Nat.zero_le _⟩ (fun r1_ er1_ => ?_)
    obtain rfl : r1_ = kWhy V := er1_
    refine lv_iconst (v := 1) hx hb dX5_partOfCount_53 (by decide) ?_
    refine lv_icmp_gt (tgt := 61) hx hb dX5_partOfCount_54 (by decide) (fun c54 => ?_) (fun c54 => ?_)
    · skip
      refine lv_iconst (v := 0) hx hb dX5_partOfCount_61 (by decide) ?_
      exact hret _ _ _ dX5_partOfCount_62 (show (0 : Int32) = if kWhy V < 2 then 1 else 0 from (if_neg (fun z => le1.mpr z c54)).symm)
    · skip
      refine lv_iconst (v := 1) hx hb dX5_partOfCount_57 (by decide) ?_
      refine lv_goto (tgt := 62) hx hb dX5_partOfCount_58 (by decide) ?_
      exact hret _ _ _ dX5_partOfCount_62 (show (1 : Int32) = if kWhy V < 2 then 1 else 0 from (if_pos (le1.mp c54)).symm)
  · skip
    subst hw
    refine lv_tableIn (off := 62) (tgt := 63) hx hb dX5_partOfCount_1 (by decide) (by decide) (by decide) (by decide) ?_
    refine lv_aload_n hx hb dX5_partOfCount_63 rfl (lv_at hl 0 rfl) ?_
    refine va_get (D := D) (ci := 1) (v := .int (V 7)) (C := RX1) (T := TX1) (N := 8) hx hb hts inwX5_partOfCount_X1 hown hK hP 0 rfl rfl 2 (by decide) (hts (.fieldLink RX5 152 "PlateSlabs$Plates" "charge" "I") (List.mem_of_getElem? (i := 2) rfl)) (fun _ h9 => h9) rfl dX5_partOfCount_64 ?_
    exact hret _ _ _ dX5_partOfCount_67 rfl
  · skip
    subst hw
    refine lv_tableIn (off := 67) (tgt := 68) hx hb dX5_partOfCount_1 (by decide) (by decide) (by decide) (by decide) ?_
    refine lv_aload_n hx hb dX5_partOfCount_68 rfl (lv_at hl 0 rfl) ?_
    refine lv_aload_n hx hb dX5_partOfCount_69 rfl (lv_at hl 0 rfl) ?_
    refine va_get (D := D) (ci := 1) (v := .int (V 6)) (C := RX1) (T := TX1) (N := 8) hx hb hts inwX5_partOfCount_X1 hown hK hP 0 rfl rfl 1 (by decide) (hts (.fieldLink RX5 146 "PlateSlabs$Plates" "depth" "I") (List.mem_of_getElem? (i := 3) rfl)) (fun _ h9 => h9) rfl dX5_partOfCount_70 ?_
    refine callRi (As := [.int (V 6)]) ⟨hx, hb, hml, hown, hts⟩ (mX1_capacityAt l T D a q V G (V 6)) (cwV 1 hts gX5_partOfCount_X1_capacityAt rfl rfl rfl pdX1_capacityAt ⟨Nat.le_of_ble_eq_true rfl, Nat.le_of_ble_eq_true rfl⟩) hP hK xN_bl (fun U _ hW => XN_warm hW hX) (ci := 1) rfl rfl rfl hl.1 rfl rfl (Nat.le_of_ble_eq_true rfl) dX5_partOfCount_73 ⟨Nat.zero_le _, Nat.zero_le _⟩ (fun r2_ er2_ => ?_)
    obtain rfl : r2_ = kCap V (V 6) := er2_
    exact hret _ _ _ dX5_partOfCount_76 rfl
  · skip
    subst hw
    refine lv_tableIn (off := 76) (tgt := 77) hx hb dX5_partOfCount_1 (by decide) (by decide) (by decide) (by decide) ?_
    refine lv_aload_n hx hb dX5_partOfCount_77 rfl (lv_at hl 0 rfl) ?_
    refine va_get (D := D) (ci := 1) (v := .int (V 6)) (C := RX1) (T := TX1) (N := 8) hx hb hts inwX5_partOfCount_X1 hown hK hP 0 rfl rfl 1 (by decide) (hts (.fieldLink RX5 146 "PlateSlabs$Plates" "depth" "I") (List.mem_of_getElem? (i := 3) rfl)) (fun _ h9 => h9) rfl dX5_partOfCount_78 ?_
    exact hret _ _ _ dX5_partOfCount_81 rfl

def rmX5_sumOfPairs : Room := { frames := 5, cells := 0, slots := 0, locals := 109 }
set_option maxHeartbeats 4000000 in
set_option maxRecDepth 100000 in
theorem mX5_sumOfPairs (l : Launch) (T : Nat → ClassId) (D : va_G) (z x2 x3 xh xa xy : Nat) (k0 k1 k2 k3 : Int32) (b : Nat → Nat) (t : Nat → Int32) (P : Nat → Nat → Int32) (E : Nat → Nat → Int64) (hk : ∀ p, p < 4 → kOk (P p)) (w : Int32) : RdI l yX5_sumOfPairs wsX5_sumOfPairs rmX5_sumOfPairs T xN D [.ref z, .int w] ([(z, .inr (5, [.ref (b 0), .ref x2, .ref x3, .int k0, .ref xh, .ref xa, .ref xy, .int k1, .int k2, .int k3])), ((b 0), .inr (2, [.ref (b 1), .int (t 0), .int (t 1), .int (t 2)])), ((b 1), .inl (T 3, 4, .inr (.inr (.inr (.inr ((fun i => some (b (2 + 2 * i)))))))))] ++ stT T b P E) (fun r => r = cSum P w 4) := by
  refine met_ri (cc := cX5_sumOfPairs) (maxL := 4) (by decide) rfl (Nat.le_of_ble_eq_true rfl) ?_
  intro p_ e s m args below meth c H ls Q hx hb hts hown hml hX hH hP hK hl hret
  have hl : lv_has ls 4 [(0, .ref z), (1, .int w)] := hl
  refine lv_iconst (v := 0) hx hb dX5_sumOfPairs_0 (by decide) ?_
  refine lv_istore_n (lv' := [(2, .int 0), (0, .ref z), (1, .int w)]) hx hb dX5_sumOfPairs_1 rfl hl (by decide) rfl (fun ls hl => ?_)
  refine lv_iconst (v := nI 0) hx hb dX5_sumOfPairs_2 (by decide) ?_
  refine lv_istore_n (lv' := [(3, .int (nI 0)), (2, .int 0), (0, .ref z), (1, .int w)]) hx hb dX5_sumOfPairs_3 rfl hl (by decide) rfl (fun ls hl => ?_)
  have loop : ∀ (j : Nat) (i : Nat) (x2_ : Int32) (ls : Array Slot), (5 ≤ i + j) → (i ≤ 4) → (x2_ = cSum P w i) → lv_has ls 4 [(0, .ref z), (1, .int w), (2, .int x2_), (3, .int (nI i))] → W p_ l e rmX5_sumOfPairs s m args below meth c H [] 0 0 Q (F0 m 4 ls []) := by
    intro j
    induction j with
    | zero => intro i x2_ ls hm hi; exact absurd hm (by omega)
    | succ j ih =>
      intro i x2_ ls hm hi ex hl
      refine lv_iload_n hx hb dX5_sumOfPairs_4 rfl (lv_at hl 3 rfl) ?_
      refine lv_iconst (v := nI 4) hx hb dX5_sumOfPairs_5 (by decide) ?_
      refine lv_icmp_ge (tgt := 31) hx hb dX5_sumOfPairs_6 (by decide) (fun c6 => ?_) (fun c6 => ?_)
      · skip
        have ei : i = 4 := by
          have := (nI_leI (a := 4) (b := i) (by decide) (by omega)).mp c6
          omega
        subst ei
        refine lv_iload_n hx hb dX5_sumOfPairs_31 rfl (lv_at hl 2 rfl) ?_
        exact hret _ _ _ dX5_sumOfPairs_32 ex
      · skip
        have hi4 : i < 4 := by
          have := mt (nI_leI (a := 4) (b := i) (by decide) (by omega)).mpr c6
          omega
        refine lv_iload_n hx hb dX5_sumOfPairs_9 rfl (lv_at hl 2 rfl) ?_
        refine lv_aload_n hx hb dX5_sumOfPairs_10 rfl (lv_at hl 0 rfl) ?_
        refine va_get (D := D) (ci := 5) (v := .ref (b 0)) (C := RX5) (T := TX5) (N := 10) hx hb hts inwX5_sumOfPairs_X5 hown hK hP 0 rfl rfl 0 (by decide) (hts (.fieldLink RX5 10 "PlateSlabs" "now" "LPlateSlabs$State;") (List.mem_of_getElem? (i := 1) rfl)) (fun _ h9 => h9) rfl dX5_sumOfPairs_11 ?_
        refine va_get (D := D) (ci := 2) (v := .ref (b 1)) (C := RX2) (T := TX2) (N := 4) hx hb hts inwX5_sumOfPairs_X2 hown hK hP 1 rfl rfl 0 (by decide) (hts (.fieldLink RX5 135 "PlateSlabs$State" "pairs" "[LPlateSlabs$Plates;") (List.mem_of_getElem? (i := 2) rfl)) (fun _ h9 => h9) rfl dX5_sumOfPairs_14 ?_
        refine lv_iload_n hx hb dX5_sumOfPairs_17 rfl (lv_at hl 3 rfl) ?_
        refine va_aldq hx hb hK hP 2 3 rfl rfl (vp_in_nI (by omega) (by decide)) dX5_sumOfPairs_18 ?_
        refine lv_tpv (congrArg (fun z => va_rf ((fun i => some (b (2 + 2 * i))) z)) (nI_clamp (by omega))) ?_
        refine lv_iload_n hx hb dX5_sumOfPairs_19 rfl (lv_at hl 1 rfl) ?_
        refine callSi (As := [.ref (b (2 + 2 * i)), .int w]) ⟨hx, hb, hml, hown, hts⟩ (mX5_partOfCount l T D (b (2 + 2 * i)) (b (3 + 2 * i)) (P i) (E i) (hk i hi4) w) (va_cwS 2 hts gX5_sumOfPairs_X5_partOfCount rfl rfl rfl (pdX5_partOfCount).2 ⟨Nat.le_of_ble_eq_true rfl, Nat.le_of_ble_eq_true rfl⟩) ((st_foc hi4 (wP_right (w1 := [_]) hP)).sub [0, 1] rfl) hK xN_bl (fun U _ hW => XN_warm hW hX) hl.1 rfl rfl (Nat.le_of_ble_eq_true rfl) dX5_sumOfPairs_20 ⟨Nat.zero_le _, Nat.zero_le _⟩ (fun r1_ er1_ => ?_)
        obtain rfl : r1_ = cPart (P i) w := er1_
        refine lv_iadd hx hb dX5_sumOfPairs_23 ?_
        refine lv_topi (fun y2_ ey2_ => ?_)
        refine lv_istore_n (lv' := [(2, .int y2_), (0, .ref z), (1, .int w), (3, .int (nI i))]) hx hb dX5_sumOfPairs_24 rfl hl (by decide) rfl (fun ls hl => ?_)
        refine lv_iinc (v := nI (i + 1)) (lv' := [(3, .int (nI (i + 1))), (2, .int y2_), (0, .ref z), (1, .int w)]) hx hb dX5_sumOfPairs_25 hl (k := 3) rfl (nI_1 i) (by decide) rfl (fun ls hl => ?_)
        refine lv_goto (tgt := 4) hx hb dX5_sumOfPairs_28 (by decide) ?_
        exact ih (i + 1) _ ls (by omega) (by omega) (by rw [ey2_, ex]; rfl) (lv_sub hl [2, 3, 1, 0] rfl)
  exact loop 5 0 0 ls (by omega) (by omega) rfl (lv_sub hl [2, 3, 1, 0] rfl)
