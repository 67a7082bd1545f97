theorem pdX5_strongest : yX5_strongest.cls = RX5 ∧ yX5_strongest.cls ≠ "java/lang/invoke/MethodHandle" ∧ yX5_strongest.cls ≠ "java/lang/invoke/VarHandle" ∧ (parseMethodDescriptor yX5_strongest.desc).map (fun d => d.parameters.length) = some 0 := by decide +kernel
theorem inwX5_strongest_X5 : ∀ w ∈ wsX50, w ∈ wsX5_strongest := by decide +kernel
theorem inwX5_strongest_X2 : ∀ w ∈ wsX20, w ∈ wsX5_strongest := by decide +kernel
theorem inwX5_strongest_X1 : ∀ w ∈ wsX10, w ∈ wsX5_strongest := by decide +kernel
/-- the pair that is pulled most, from the first on: its pull and its number -/
def sUp (P : Nat → Nat → Int32) : Nat → Int32 × Int32
  | 0 => (0, -5)
  | i + 1 => if (sUp P i).1 < kPl (P i) then (kPl (P i), nI i) else sUp P i
def rmX5_strongest : Room := { frames := 2, cells := 0, slots := 0, locals := 46 }
set_option maxHeartbeats 4000000 in
set_option maxRecDepth 100000 in
theorem mX5_strongest (l : Launch) (T : Nat → ClassId) (D : va_G) (z x2 x3 xh xa xy : Nat) (k0 k1 k2 k3 : Int32) (b : Nat → Nat) (t : Nat → Int32) (P : Nat → Nat → Int32) (E : Nat → Nat → Int64) (hk : ∀ p, p < 4 → kOk (P p)) : RdI l yX5_strongest wsX5_strongest rmX5_strongest T xN D [.ref z] ([(z, .inr (5, [.ref (b 0), .ref x2, .ref x3, .int k0, .ref xh, .ref xa, .ref xy, .int k1, .int k2, .int k3])), ((b 0), .inr (2, [.ref (b 1), .int (t 0), .int (t 1), .int (t 2)])), ((b 1), .inl (T 3, 4, .inr (.inr (.inr (.inr ((fun i => some (b (2 + 2 * i)))))))))] ++ stT T b P E) (fun r => r = (sUp P 4).2) := by
  refine met_ri (cc := cX5_strongest) (maxL := 6) (by decide) rfl (Nat.le_of_ble_eq_true rfl) ?_
  intro p_ e s m args below meth c H ls Q hx hb hts hown hml hX hH hP hK hl hret
  have hl : lv_has ls 6 [(0, .ref z)] := hl
  refine lv_iconst (v := 0) hx hb dX5_strongest_0 (by decide) ?_
  refine lv_istore_n (lv' := [(1, .int 0), (0, .ref z)]) hx hb dX5_strongest_1 rfl hl (by decide) rfl (fun ls hl => ?_)
  refine lv_bipush (v := (-5)) hx hb dX5_strongest_2 (by decide) ?_
  refine lv_istore_n (lv' := [(2, .int (-5)), (1, .int 0), (0, .ref z)]) hx hb dX5_strongest_4 rfl hl (by decide) rfl (fun ls hl => ?_)
  refine lv_iconst (v := nI 0) hx hb dX5_strongest_5 (by decide) ?_
  refine lv_istore_n (lv' := [(3, .int (nI 0)), (2, .int (-5)), (1, .int 0), (0, .ref z)]) hx hb dX5_strongest_6 rfl hl (by decide) rfl (fun ls hl => ?_)
  have loop : ∀ (j : Nat) (i : Nat) (y1 : Int32) (y2 : Int32) (ls : Array Slot), (5 ≤ i + j) → (i ≤ 4) → ((y1, y2) = sUp P i) → lv_has ls 6 [(0, .ref z), (1, .int y1), (2, .int y2), (3, .int (nI i))] → W p_ l e rmX5_strongest s m args below meth c H [] 0 0 Q (F0 m 7 ls []) := by
    intro j
    induction j with
    | zero => intro i y1 y2 ls hm hi; exact absurd hm (by omega)
    | succ j ih =>
      intro i y1 y2 ls hm hi ey hl
      refine lv_iload_n hx hb dX5_strongest_7 rfl (lv_at hl 3 rfl) ?_
      refine lv_iconst (v := nI 4) hx hb dX5_strongest_8 (by decide) ?_
      refine lv_icmp_ge (tgt := 52) hx hb dX5_strongest_9 (by decide) (fun c9 => ?_) (fun c9 => ?_)
      · skip
        have ei : i = 4 := by
          have := (nI_leI (a := 4) (b := i) (by decide) (by omega)).mp c9
          omega
        subst ei
        refine lv_iload_n hx hb dX5_strongest_52 rfl (lv_at hl 2 rfl) ?_
        exact hret _ _ _ dX5_strongest_53 (by rw [← ey])
      · skip
        have hi4 : i < 4 := by
          have := mt (nI_leI (a := 4) (b := i) (by decide) (by omega)).mpr c9
          omega
        have e1 : (sUp P i).1 = y1 := by rw [← ey]
        refine lv_aload_n hx hb dX5_strongest_12 rfl (lv_at hl 0 rfl) ?_
        refine va_get (D := D) (ci := 5) (v := .ref (b 0)) (C := RX5) (T := TX5) (N := 10) hx hb hts inwX5_strongest_X5 hown hK hP 0 rfl rfl 0 (by decide) (hts (.fieldLink RX5 10 "PlateSlabs" "now" "LPlateSlabs$State;") (List.mem_of_getElem? (i := 1) rfl)) (fun _ h9 => h9) rfl dX5_strongest_13 ?_
        refine va_get (D := D) (ci := 2) (v := .ref (b 1)) (C := RX2) (T := TX2) (N := 4) hx hb hts inwX5_strongest_X2 hown hK hP 1 rfl rfl 0 (by decide) (hts (.fieldLink RX5 135 "PlateSlabs$State" "pairs" "[LPlateSlabs$Plates;") (List.mem_of_getElem? (i := 2) rfl)) (fun _ h9 => h9) rfl dX5_strongest_16 ?_
        refine lv_iload_n hx hb dX5_strongest_19 rfl (lv_at hl 3 rfl) ?_
        refine va_aldq hx hb hK hP 2 3 rfl rfl (vp_in_nI (by omega) (by decide)) dX5_strongest_20 ?_
        refine lv_tpv (congrArg (fun z => va_rf ((fun i => some (b (2 + 2 * i))) z)) (nI_clamp (by omega))) ?_
        refine lv_astore (lv' := [(4, .ref (b (2 + 2 * i))), (0, .ref z), (1, .int y1), (2, .int y2), (3, .int (nI i))]) hx hb dX5_strongest_21 hl (by decide) rfl (fun ls hl => ?_)
        have hP : va_P D vwCl ([((b (2 + 2 * i)), .inr (1, [.ref (b (3 + 2 * i)), .int ((P i) 6), .int ((P i) 7), .int ((P i) 8), .int ((P i) 9), .long ((E i) 0), .long ((E i) 1), .long ((E i) 2)])), ((b (3 + 2 * i)), .inl (T 0, 6, .inl ((P i)))), ((b 0), .inr (2, [.ref (b 1), .int (t 0), .int (t 1), .int (t 2)])), ((b 1), .inl (T 3, 4, .inr (.inr (.inr (.inr ((fun i => some (b (2 + 2 * i)))))))))] ++ stO T b P E i) H := st_foc hi4 (wP_right (w1 := [_]) hP)
        refine lv_aload hx hb dX5_strongest_23 (lv_at hl 0 rfl) ?_
        refine lv_aload hx hb dX5_strongest_25 (lv_at hl 0 rfl) ?_
        refine va_get (D := D) (ci := 1) (v := .int ((P i) 6)) (C := RX1) (T := TX1) (N := 8) hx hb hts inwX5_strongest_X1 hown hK hP 0 rfl rfl 1 (by decide) (hts (.fieldLink RX5 146 "PlateSlabs$Plates" "depth" "I") (List.mem_of_getElem? (i := 3) rfl)) (fun _ h9 => h9) rfl dX5_strongest_27 ?_
        refine callRi (As := [.int ((P i) 6)]) ⟨hx, hb, hml, hown, hts⟩ (mX1_pullAt l T D (b (2 + 2 * i)) (b (3 + 2 * i)) (P i) (E i) (hk i hi4) ((P i) 6) (kOk_d (hk i hi4))) (cwV 1 hts gX5_strongest_X1_pullAt rfl rfl rfl pdX1_pullAt ⟨Nat.le_of_ble_eq_true rfl, Nat.le_of_ble_eq_true rfl⟩) (hP.sub [0, 1] rfl) hK xN_bl (fun U _ hW => XN_warm hW hX) (ci := 1) rfl rfl rfl hl.1 rfl rfl (Nat.le_of_ble_eq_true rfl) dX5_strongest_30 ⟨Nat.zero_le _, Nat.zero_le _⟩ (fun r1_ er1_ => ?_)
        obtain rfl : r1_ = kPullAt (P i) ((P i) 6) ((P i) 7) := er1_
        refine lv_topi (fun y5 ey5 => ?_)
        refine lv_istore (lv' := [(5, .int y5), (4, .ref (b (2 + 2 * i))), (0, .ref z), (1, .int y1), (2, .int y2), (3, .int (nI i))]) hx hb dX5_strongest_33 hl (by decide) rfl (fun ls hl => ?_)
        refine lv_iload hx hb dX5_strongest_35 (lv_at hl 0 rfl) ?_
        refine lv_iload_n hx hb dX5_strongest_37 rfl (lv_at hl 3 rfl) ?_
        refine lv_icmp_le (tgt := 46) hx hb dX5_strongest_38 (by decide) (fun c38 => ?_) (fun c38 => ?_)
        · skip
          refine lv_iinc (v := nI (i + 1)) (lv' := [(3, .int (nI (i + 1))), (5, .int y5), (4, .ref (b (2 + 2 * i))), (0, .ref z), (1, .int y1), (2, .int y2)]) hx hb dX5_strongest_46 hl (k := 5) rfl (nI_1 i) (by decide) rfl (fun ls hl => ?_)
          refine lv_goto (tgt := 7) hx hb dX5_strongest_49 (by decide) ?_
          exact ih (i + 1) _ _ ls (by omega) (by omega) (by rw [sUp, if_neg (by rw [e1, kPl, ← ey5]; exact Int32.not_lt.mpr c38)]; exact ey) (lv_sub hl [3, 4, 5, 0] rfl)
        · skip
          refine lv_iload hx hb dX5_strongest_41 (lv_at hl 0 rfl) ?_
          refine lv_istore_n (lv' := [(1, .int y5), (5, .int y5), (4, .ref (b (2 + 2 * i))), (0, .ref z), (2, .int y2), (3, .int (nI i))]) hx hb dX5_strongest_43 rfl hl (by decide) rfl (fun ls hl => ?_)
          refine lv_iload_n hx hb dX5_strongest_44 rfl (lv_at hl 5 rfl) ?_
          refine lv_istore_n (lv' := [(2, .int (nI i)), (1, .int y5), (5, .int y5), (4, .ref (b (2 + 2 * i))), (0, .ref z), (3, .int (nI i))]) hx hb dX5_strongest_45 rfl hl (by decide) rfl (fun ls hl => ?_)
          refine lv_iinc (v := nI (i + 1)) (lv' := [(3, .int (nI (i + 1))), (2, .int (nI i)), (1, .int y5), (5, .int y5), (4, .ref (b (2 + 2 * i))), (0, .ref z)]) hx hb dX5_strongest_46 hl (k := 5) rfl (nI_1 i) (by decide) rfl (fun ls hl => ?_)
          refine lv_goto (tgt := 7) hx hb dX5_strongest_49 (by decide) ?_
          exact ih (i + 1) _ _ ls (by omega) (by omega) (by rw [sUp, if_pos (by rw [e1, kPl, ← ey5]; exact Int32.not_le.mp c38), kPl, ← ey5]) (lv_sub hl [5, 2, 1, 0] rfl)
  exact loop 5 0 0 (-5) ls (by omega) (by omega) rfl (lv_sub hl [3, 2, 1, 0] rfl)
