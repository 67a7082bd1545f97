theorem pdX6_isNext : yX6_isNext.cls = RX6 ∧ yX6_isNext.cls ≠ "java/lang/invoke/MethodHandle" ∧ yX6_isNext.cls ≠ "java/lang/invoke/VarHandle" ∧ (parseMethodDescriptor yX6_isNext.desc).map (fun d => d.parameters.length) = some 2 := by decide +kernel
theorem pdX6_takes : yX6_takes.cls = RX6 ∧ yX6_takes.cls ≠ "java/lang/invoke/MethodHandle" ∧ yX6_takes.cls ≠ "java/lang/invoke/VarHandle" ∧ (parseMethodDescriptor yX6_takes.desc).map (fun d => d.parameters.length) = some 2 := by decide +kernel
theorem pdX6_takesNumber : yX6_takesNumber.cls = RX6 ∧ yX6_takesNumber.cls ≠ "java/lang/invoke/MethodHandle" ∧ yX6_takesNumber.cls ≠ "java/lang/invoke/VarHandle" ∧ (parseMethodDescriptor yX6_takesNumber.desc).map (fun d => d.parameters.length) = some 2 := by decide +kernel
theorem inwX6_isNext_X6 : ∀ w ∈ wsX60, w ∈ wsX6_isNext := by decide +kernel
theorem inwX6_takes_X6 : ∀ w ∈ wsX60, w ∈ wsX6_takes := by decide +kernel
theorem inwX6_takesNumber_X6 : ∀ w ∈ wsX60, w ∈ wsX6_takesNumber := by decide +kernel
def rmX6_isNext : Room := { frames := 1, cells := 0, slots := 0, locals := 22 }
set_option maxHeartbeats 4000000 in
set_option maxRecDepth 100000 in
theorem mX6_isNext (l : Launch) (T : Nat → ClassId) (D : va_G) (b : Nat → Nat) (v : Nat → Int32) (tx : Nat → Int32) (i len : Nat) (hlen : len ≤ 60) (hil : i ≤ len) (h2 : v 2 = nI len) (h5 : v 5 = nI i) (h6 : v 6 = 0 ∨ v 6 = 1) (lo hi : Int32) : RdI l yX6_isNext wsX6_isNext rmX6_isNext T xN D [.ref (b 0), .int lo, .int hi] [(b 0, .inr (6, moF b v)), ((b 9), .inl (T 0, 60, .inl (tx)))] (fun r => r = bI (v 6 = 0 ∧ i < len ∧ lo ≤ tx i ∧ tx i ≤ hi)) := by
  refine met_rz (cc := cX6_isNext) (maxL := 3) (by decide) rfl (Nat.le_of_ble_eq_true rfl) (fun r h => bI_01 h) ?_
  intro p_ e s m args below meth c H ls Q hx hb hts hown hml hX hH hP hK hl hret
  have hl : lv_has ls 3 [(0, .ref (b 0)), (1, .int lo), (2, .int hi)] := hl
  refine lv_aload_n hx hb dX6_isNext_0 rfl (lv_at hl 0 rfl) ?_
  refine va_get (D := D) (ci := 6) (v := .int (v 6)) (C := RX6) (T := TX6) (N := 22) hx hb hts inwX6_isNext_X6 hown hK hP 0 rfl rfl 15 (by decide) (hts (.fieldLink RX6 152 "PlateSlabsModel" "isWrong" "Z") (List.mem_of_getElem? (i := 1) rfl)) (fun _ h9 => h9) rfl dX6_isNext_1 ?_
  refine lv_if_ne (tgt := 39) hx hb dX6_isNext_4 (by decide) (fun c4 => ?_) (fun c4 => ?_)
  · skip
    refine lv_iconst (v := 0) hx hb dX6_isNext_39 (by decide) ?_
    exact hret _ _ _ dX6_isNext_40 (bI_f (fun z => c4 z.1))
  · skip
    refine lv_aload_n hx hb dX6_isNext_7 rfl (lv_at hl 0 rfl) ?_
    refine va_get (D := D) (ci := 6) (v := .int (v 5)) (C := RX6) (T := TX6) (N := 22) hx hb hts inwX6_isNext_X6 hown hK hP 0 rfl rfl 14 (by decide) (hts (.fieldLink RX6 156 "PlateSlabsModel" "position" "I") (List.mem_of_getElem? (i := 2) rfl)) (fun _ h9 => h9) rfl dX6_isNext_8 ?_
    refine lv_aload_n hx hb dX6_isNext_11 rfl (lv_at hl 0 rfl) ?_
    refine va_get (D := D) (ci := 6) (v := .int (v 2)) (C := RX6) (T := TX6) (N := 22) hx hb hts inwX6_isNext_X6 hown hK hP 0 rfl rfl 11 (by decide) (hts (.fieldLink RX6 149 "PlateSlabsModel" "length" "I") (List.mem_of_getElem? (i := 3) rfl)) (fun _ h9 => h9) rfl dX6_isNext_12 ?_
    refine lv_icmp_ge (tgt := 39) hx hb dX6_isNext_15 (by decide) (fun c15 => ?_) (fun c15 => ?_)
    · skip
      have hlt : ¬ i < len := by
        rw [h2, h5] at c15
        have := (nI_leI (by omega) (by omega)).mp c15
        omega
      refine lv_iconst (v := 0) hx hb dX6_isNext_39 (by decide) ?_
      exact hret _ _ _ dX6_isNext_40 (bI_f (fun z => hlt z.2.1))
    · skip
      have hlt : i < len := by
        rw [h2, h5] at c15
        have := mt (nI_leI (a := len) (b := i) (by omega) (by omega)).mpr c15
        omega
      refine lv_aload_n hx hb dX6_isNext_18 rfl (lv_at hl 0 rfl) ?_
      refine va_get (D := D) (ci := 6) (v := .ref (b 9)) (C := RX6) (T := TX6) (N := 22) hx hb hts inwX6_isNext_X6 hown hK hP 0 rfl rfl 10 (by decide) (hts (.fieldLink RX6 35 "PlateSlabsModel" "text" "[I") (List.mem_of_getElem? (i := 4) rfl)) (fun _ h9 => h9) rfl dX6_isNext_19 ?_
      refine lv_aload_n hx hb dX6_isNext_22 rfl (lv_at hl 0 rfl) ?_
      refine va_get (D := D) (ci := 6) (v := .int (v 5)) (C := RX6) (T := TX6) (N := 22) hx hb hts inwX6_isNext_X6 hown hK hP 0 rfl rfl 14 (by decide) (hts (.fieldLink RX6 156 "PlateSlabsModel" "position" "I") (List.mem_of_getElem? (i := 2) rfl)) (fun _ h9 => h9) rfl dX6_isNext_23 ?_
      refine va_iald hx hb hK hP 1 0 rfl rfl (in_of h5 (by omega) (by decide)) dX6_isNext_26 ?_
      refine lv_tpi (congrArg (fun z => tx z) (cl_of h5 (by omega))) ?_
      refine lv_iload_n hx hb dX6_isNext_27 rfl (lv_at hl 1 rfl) ?_
      refine lv_iload_n hx hb dX6_isNext_28 rfl (lv_at hl 2 rfl) ?_
      refine callSi (As := [.int (tx i), .int lo, .int hi]) ⟨hx, hb, hml, hown, hts⟩ (mX6_in l T D (tx i) lo hi) (va_cwS 3 hts gX6_isNext_X6_in rfl rfl rfl (pdX6_in).2 ⟨Nat.le_of_ble_eq_true rfl, Nat.le_of_ble_eq_true rfl⟩) wP_nil hK xN_bl (fun U _ hW => XN_warm hW hX) hl.1 rfl rfl (Nat.le_of_ble_eq_true rfl) dX6_isNext_29 ⟨Nat.zero_le _, Nat.zero_le _⟩ (fun r1_ er1_ => ?_)
      obtain rfl : r1_ = bI (lo ≤ (tx i) ∧ (tx i) ≤ hi) := er1_
      refine lv_if_eq (tgt := 39) hx hb dX6_isNext_32 (by decide) (fun c32 => ?_) (fun c32 => ?_)
      · skip
        have c32 := bI_0 c32
        refine lv_iconst (v := 0) hx hb dX6_isNext_39 (by decide) ?_
        exact hret _ _ _ dX6_isNext_40 (bI_f (fun z => c32 z.2.2))
      · skip
        have c32 := bI_n0 c32
        refine lv_iconst (v := 1) hx hb dX6_isNext_35 (by decide) ?_
        refine lv_goto (tgt := 40) hx hb dX6_isNext_36 (by decide) ?_
        exact hret _ _ _ dX6_isNext_40 (bI_t ⟨c4, hlt, c32⟩)

def rmX6_takes : Room := { frames := 1, cells := 0, slots := 0, locals := 22 }
set_option maxHeartbeats 4000000 in
set_option maxRecDepth 100000 in
theorem mX6_takes (l : Launch) (T : Nat → ClassId) (D : va_G) (b : Nat → Nat) (v : Nat → Int32) (tx : Nat → Int32) (i len : Nat) (hlen : len ≤ 60) (hil : i ≤ len) (h2 : v 2 = nI len) (h5 : v 5 = nI i) (h6 : v 6 = 0 ∨ v 6 = 1) (lo hi : Int32) : MuI l yX6_takes wsX6_takes rmX6_takes T xN D [.ref (b 0), .int lo, .int hi] [(b 0, .inr (6, moF b v)), ((b 9), .inl (T 0, 60, .inl (tx)))] (S := Nat → Int32) (fun r u => r = tch tx len i - lo ∧ tkP (tch tx len i) v u i lo hi) (fun u => moX T b u tx) 0 0 := by
  refine met_mi (cc := cX6_takes) (maxL := 4) (by decide) rfl (Nat.le_of_ble_eq_true rfl) ?_
  intro p_ e s m args below meth c ls A Q hx hb hts hown hml hX hP hD hK hS hA hl hret
  have hl : lv_has ls 4 [(0, .ref (b 0)), (1, .int lo), (2, .int hi)] := hl
  obtain ⟨H, hH⟩ : ∃ H, H = s.heap := ⟨_, rfl⟩
  have hS : va_S A s.heap H [] := by rw [hH]; exact hS
  rw [← hH] at hP ⊢
  refine lv_aload_n hx hb dX6_takes_0 rfl (lv_at hl 0 rfl) ?_
  refine va_get (D := D) (ci := 6) (v := .int (v 5)) (C := RX6) (T := TX6) (N := 22) hx hb hts inwX6_takes_X6 hown hK hP 0 rfl rfl 14 (by decide) (hts (.fieldLink RX6 156 "PlateSlabsModel" "position" "I") (List.mem_of_getElem? (i := 1) rfl)) (fun _ h9 => h9) rfl dX6_takes_1 ?_
  refine lv_aload_n hx hb dX6_takes_4 rfl (lv_at hl 0 rfl) ?_
  refine va_get (D := D) (ci := 6) (v := .int (v 2)) (C := RX6) (T := TX6) (N := 22) hx hb hts inwX6_takes_X6 hown hK hP 0 rfl rfl 11 (by decide) (hts (.fieldLink RX6 149 "PlateSlabsModel" "length" "I") (List.mem_of_getElem? (i := 2) rfl)) (fun _ h9 => h9) rfl dX6_takes_5 ?_
  have hJ24 : ∀  (ls : Array Slot) (H : Heap) (locs : List Loc), va_P D vwCl [(b 0, .inr (6, moF b v)), ((b 9), .inl (T 0, 60, .inl (tx)))] H → va_D A [(b 0, .inr (6, moF b v)), ((b 9), .inl (T 0, 60, .inl (tx)))] → va_S A s.heap H locs → lv_has ls 4 [(0, .ref (b 0)), (1, .int lo), (2, .int hi)] → W p_ l e rmX6_takes s m args below meth c H locs 0 0 Q (F0 m 24 ls [.int (tch tx len i)]) := by
    intro ls H locs hP hD hS hl
    refine lv_topi (fun ch ech => ?_)
    refine lv_istore_n (lv' := [(3, .int ch), (0, .ref (b 0)), (1, .int lo), (2, .int hi)]) hx hb dX6_takes_24 rfl hl (by decide) rfl (fun ls hl => ?_)
    refine lv_aload_n hx hb dX6_takes_25 rfl (lv_at hl 1 rfl) ?_
    refine lv_aload_n hx hb dX6_takes_26 rfl (lv_at hl 1 rfl) ?_
    refine va_get (D := D) (ci := 6) (v := .int (v 6)) (C := RX6) (T := TX6) (N := 22) hx hb hts inwX6_takes_X6 hown hK hP 0 rfl rfl 15 (by decide) (hts (.fieldLink RX6 152 "PlateSlabsModel" "isWrong" "Z") (List.mem_of_getElem? (i := 4) rfl)) (fun _ h9 => h9) rfl dX6_takes_27 ?_
    refine lv_if_ne (tgt := 42) hx hb dX6_takes_30 (by decide) (fun c30 => ?_) (fun c30 => ?_)
    · skip
      refine lv_iconst (v := 1) hx hb dX6_takes_42 (by decide) ?_
      refine lv_goto (tgt := 47) hx hb dX6_takes_43 (by decide) ?_
      refine va_put (D := D) (ci := 6) (v := .int 1) (C := RX6) (T := TX6) (N := 22) hx hb hts inwX6_takes_X6 tyX6 tyX6_ok nmX6 hown hK hP hD hS 0 rfl rfl 15 (by decide) (hts (.fieldLink RX6 152 "PlateSlabsModel" "isWrong" "Z") (List.mem_of_getElem? (i := 4) rfl)) (fun _ h9 => h9) rfl (tyX6_ok 15 (by decide)) (rfl) rfl (Nat.le_of_ble_eq_true rfl) dX6_takes_47 (fun H locs hP hD hS => ?_)
      have hP : va_P D vwCl [(b 0, .inr (6, moF b (upd v 6 1))), ((b 9), .inl (T 0, 60, .inl (tx)))] H := hP
      have hD : va_D A [(b 0, .inr (6, moF b (upd v 6 1))), ((b 9), .inl (T 0, 60, .inl (tx)))] := hD
      refine lv_aload_n hx hb dX6_takes_50 rfl (lv_at hl 1 rfl) ?_
      refine lv_dup hx hb dX6_takes_51 rfl ?_
      refine va_get (D := D) (ci := 6) (v := .int (v 5)) (C := RX6) (T := TX6) (N := 22) hx hb hts inwX6_takes_X6 hown hK hP 0 rfl rfl 14 (by decide) (hts (.fieldLink RX6 156 "PlateSlabsModel" "position" "I") (List.mem_of_getElem? (i := 1) rfl)) (fun _ h9 => h9) rfl dX6_takes_52 ?_
      refine lv_aload_n hx hb dX6_takes_55 rfl (lv_at hl 1 rfl) ?_
      refine va_get (D := D) (ci := 6) (v := .int 1) (C := RX6) (T := TX6) (N := 22) hx hb hts inwX6_takes_X6 hown hK hP 0 rfl rfl 15 (by decide) (hts (.fieldLink RX6 152 "PlateSlabsModel" "isWrong" "Z") (List.mem_of_getElem? (i := 4) rfl)) (fun _ h9 => h9) rfl dX6_takes_56 ?_
      refine lv_if_eq (tgt := 66) hx hb dX6_takes_59 (by decide) (fun c59 => ?_) (fun c59 => ?_)
      · skip
        exact absurd c59 (by decide)
      · skip
        refine lv_iconst (v := 0) hx hb dX6_takes_62 (by decide) ?_
        refine lv_goto (tgt := 67) hx hb dX6_takes_63 (by decide) ?_
        refine lv_iadd hx hb dX6_takes_67 ?_
        refine lv_tpi (z := nI i) (by rw [h5, Int32.add_zero]) ?_
        refine va_put (D := D) (ci := 6) (v := .int (nI i)) (C := RX6) (T := TX6) (N := 22) hx hb hts inwX6_takes_X6 tyX6 tyX6_ok nmX6 hown hK hP hD hS 0 rfl rfl 14 (by decide) (hts (.fieldLink RX6 156 "PlateSlabsModel" "position" "I") (List.mem_of_getElem? (i := 1) rfl)) (fun _ h9 => h9) rfl (tyX6_ok 14 (by decide)) (rfl) rfl (Nat.le_of_ble_eq_true rfl) dX6_takes_68 (fun H locs hP hD hS => ?_)
        have hP : va_P D vwCl [(b 0, .inr (6, moF b (upd (upd v 6 1) 5 (nI i)))), ((b 9), .inl (T 0, 60, .inl (tx)))] H := hP
        have hD : va_D A [(b 0, .inr (6, moF b (upd (upd v 6 1) 5 (nI i)))), ((b 9), .inl (T 0, 60, .inl (tx)))] := hD
        refine lv_iload_n hx hb dX6_takes_71 rfl (lv_at hl 0 rfl) ?_
        refine lv_iload_n hx hb dX6_takes_72 rfl (lv_at hl 2 rfl) ?_
        refine lv_isub hx hb dX6_takes_73 ?_
        exact hret _ _ _ (upd (upd v 6 1) 5 (nI i)) _ _ dX6_takes_74 hS hP hD ⟨by rw [ech], vR_up _ _ _, Or.inr ⟨fun z => c30 z.1, rfl, rfl⟩⟩
    · skip
      refine lv_iload_n hx hb dX6_takes_33 rfl (lv_at hl 0 rfl) ?_
      refine lv_iload_n hx hb dX6_takes_34 rfl (lv_at hl 2 rfl) ?_
      refine lv_iload_n hx hb dX6_takes_35 rfl (lv_at hl 3 rfl) ?_
      refine callSi (As := [.int ch, .int lo, .int hi]) ⟨hx, hb, hml, hown, hts⟩ (mX6_in l T D ch lo hi) (va_cwS 3 hts gX6_takes_X6_in rfl rfl rfl (pdX6_in).2 ⟨Nat.le_of_ble_eq_true rfl, Nat.le_of_ble_eq_true rfl⟩) wP_nil hK xN_bl (fun U _ hW => XN_warm hW hX) hl.1 rfl rfl (Nat.le_of_ble_eq_true rfl) dX6_takes_36 ⟨Nat.zero_le _, Nat.zero_le _⟩ (fun r1_ er1_ => ?_)
      obtain rfl : r1_ = bI (lo ≤ ch ∧ ch ≤ hi) := er1_
      refine lv_if_ne (tgt := 46) hx hb dX6_takes_39 (by decide) (fun c39 => ?_) (fun c39 => ?_)
      · skip
        have c39 := bI_n0 c39
        refine lv_iconst (v := 0) hx hb dX6_takes_46 (by decide) ?_
        refine va_put (D := D) (ci := 6) (v := .int 0) (C := RX6) (T := TX6) (N := 22) hx hb hts inwX6_takes_X6 tyX6 tyX6_ok nmX6 hown hK hP hD hS 0 rfl rfl 15 (by decide) (hts (.fieldLink RX6 152 "PlateSlabsModel" "isWrong" "Z") (List.mem_of_getElem? (i := 4) rfl)) (fun _ h9 => h9) rfl (tyX6_ok 15 (by decide)) (rfl) rfl (Nat.le_of_ble_eq_true rfl) dX6_takes_47 (fun H locs hP hD hS => ?_)
        have hP : va_P D vwCl [(b 0, .inr (6, moF b (upd v 6 0))), ((b 9), .inl (T 0, 60, .inl (tx)))] H := hP
        have hD : va_D A [(b 0, .inr (6, moF b (upd v 6 0))), ((b 9), .inl (T 0, 60, .inl (tx)))] := hD
        refine lv_aload_n hx hb dX6_takes_50 rfl (lv_at hl 1 rfl) ?_
        refine lv_dup hx hb dX6_takes_51 rfl ?_
        refine va_get (D := D) (ci := 6) (v := .int (v 5)) (C := RX6) (T := TX6) (N := 22) hx hb hts inwX6_takes_X6 hown hK hP 0 rfl rfl 14 (by decide) (hts (.fieldLink RX6 156 "PlateSlabsModel" "position" "I") (List.mem_of_getElem? (i := 1) rfl)) (fun _ h9 => h9) rfl dX6_takes_52 ?_
        refine lv_aload_n hx hb dX6_takes_55 rfl (lv_at hl 1 rfl) ?_
        refine va_get (D := D) (ci := 6) (v := .int 0) (C := RX6) (T := TX6) (N := 22) hx hb hts inwX6_takes_X6 hown hK hP 0 rfl rfl 15 (by decide) (hts (.fieldLink RX6 152 "PlateSlabsModel" "isWrong" "Z") (List.mem_of_getElem? (i := 4) rfl)) (fun _ h9 => h9) rfl dX6_takes_56 ?_
        refine lv_if_eq (tgt := 66) hx hb dX6_takes_59 (by decide) (fun c59 => ?_) (fun c59 => ?_)
        · skip
          refine lv_iconst (v := 1) hx hb dX6_takes_66 (by decide) ?_
          refine lv_iadd hx hb dX6_takes_67 ?_
          refine lv_tpi (z := nI (i + 1)) (by rw [h5]; exact nI_1 i) ?_
          refine va_put (D := D) (ci := 6) (v := .int (nI (i + 1))) (C := RX6) (T := TX6) (N := 22) hx hb hts inwX6_takes_X6 tyX6 tyX6_ok nmX6 hown hK hP hD hS 0 rfl rfl 14 (by decide) (hts (.fieldLink RX6 156 "PlateSlabsModel" "position" "I") (List.mem_of_getElem? (i := 1) rfl)) (fun _ h9 => h9) rfl (tyX6_ok 14 (by decide)) (rfl) rfl (Nat.le_of_ble_eq_true rfl) dX6_takes_68 (fun H locs hP hD hS => ?_)
          have hP : va_P D vwCl [(b 0, .inr (6, moF b (upd (upd v 6 0) 5 (nI (i + 1))))), ((b 9), .inl (T 0, 60, .inl (tx)))] H := hP
          have hD : va_D A [(b 0, .inr (6, moF b (upd (upd v 6 0) 5 (nI (i + 1))))), ((b 9), .inl (T 0, 60, .inl (tx)))] := hD
          refine lv_iload_n hx hb dX6_takes_71 rfl (lv_at hl 0 rfl) ?_
          refine lv_iload_n hx hb dX6_takes_72 rfl (lv_at hl 2 rfl) ?_
          refine lv_isub hx hb dX6_takes_73 ?_
          exact hret _ _ _ (upd (upd v 6 0) 5 (nI (i + 1))) _ _ dX6_takes_74 hS hP hD ⟨by rw [ech], vR_up _ _ _, Or.inl ⟨⟨c30, by rw [← ech]; exact c39⟩, rfl, rfl⟩⟩
        · skip
          exact absurd rfl c59
      · skip
        have c39 := bI_0 c39
        refine lv_iconst (v := 1) hx hb dX6_takes_42 (by decide) ?_
        refine lv_goto (tgt := 47) hx hb dX6_takes_43 (by decide) ?_
        refine va_put (D := D) (ci := 6) (v := .int 1) (C := RX6) (T := TX6) (N := 22) hx hb hts inwX6_takes_X6 tyX6 tyX6_ok nmX6 hown hK hP hD hS 0 rfl rfl 15 (by decide) (hts (.fieldLink RX6 152 "PlateSlabsModel" "isWrong" "Z") (List.mem_of_getElem? (i := 4) rfl)) (fun _ h9 => h9) rfl (tyX6_ok 15 (by decide)) (rfl) rfl (Nat.le_of_ble_eq_true rfl) dX6_takes_47 (fun H locs hP hD hS => ?_)
        have hP : va_P D vwCl [(b 0, .inr (6, moF b (upd v 6 1))), ((b 9), .inl (T 0, 60, .inl (tx)))] H := hP
        have hD : va_D A [(b 0, .inr (6, moF b (upd v 6 1))), ((b 9), .inl (T 0, 60, .inl (tx)))] := hD
        refine lv_aload_n hx hb dX6_takes_50 rfl (lv_at hl 1 rfl) ?_
        refine lv_dup hx hb dX6_takes_51 rfl ?_
        refine va_get (D := D) (ci := 6) (v := .int (v 5)) (C := RX6) (T := TX6) (N := 22) hx hb hts inwX6_takes_X6 hown hK hP 0 rfl rfl 14 (by decide) (hts (.fieldLink RX6 156 "PlateSlabsModel" "position" "I") (List.mem_of_getElem? (i := 1) rfl)) (fun _ h9 => h9) rfl dX6_takes_52 ?_
        refine lv_aload_n hx hb dX6_takes_55 rfl (lv_at hl 1 rfl) ?_
        refine va_get (D := D) (ci := 6) (v := .int 1) (C := RX6) (T := TX6) (N := 22) hx hb hts inwX6_takes_X6 hown hK hP 0 rfl rfl 15 (by decide) (hts (.fieldLink RX6 152 "PlateSlabsModel" "isWrong" "Z") (List.mem_of_getElem? (i := 4) rfl)) (fun _ h9 => h9) rfl dX6_takes_56 ?_
        refine lv_if_eq (tgt := 66) hx hb dX6_takes_59 (by decide) (fun c59 => ?_) (fun c59 => ?_)
        · skip
          exact absurd c59 (by decide)
        · skip
          refine lv_iconst (v := 0) hx hb dX6_takes_62 (by decide) ?_
          refine lv_goto (tgt := 67) hx hb dX6_takes_63 (by decide) ?_
          refine lv_iadd hx hb dX6_takes_67 ?_
          refine lv_tpi (z := nI i) (by rw [h5, Int32.add_zero]) ?_
          refine va_put (D := D) (ci := 6) (v := .int (nI i)) (C := RX6) (T := TX6) (N := 22) hx hb hts inwX6_takes_X6 tyX6 tyX6_ok nmX6 hown hK hP hD hS 0 rfl rfl 14 (by decide) (hts (.fieldLink RX6 156 "PlateSlabsModel" "position" "I") (List.mem_of_getElem? (i := 1) rfl)) (fun _ h9 => h9) rfl (tyX6_ok 14 (by decide)) (rfl) rfl (Nat.le_of_ble_eq_true rfl) dX6_takes_68 (fun H locs hP hD hS => ?_)
          have hP : va_P D vwCl [(b 0, .inr (6, moF b (upd (upd v 6 1) 5 (nI i)))), ((b 9), .inl (T 0, 60, .inl (tx)))] H := hP
          have hD : va_D A [(b 0, .inr (6, moF b (upd (upd v 6 1) 5 (nI i)))), ((b 9), .inl (T 0, 60, .inl (tx)))] := hD
          refine lv_iload_n hx hb dX6_takes_71 rfl (lv_at hl 0 rfl) ?_
          refine lv_iload_n hx hb dX6_takes_72 rfl (lv_at hl 2 rfl) ?_
          refine lv_isub hx hb dX6_takes_73 ?_
          exact hret _ _ _ (upd (upd v 6 1) 5 (nI i)) _ _ dX6_takes_74 hS hP hD ⟨by rw [ech], vR_up _ _ _, Or.inr ⟨fun z => c39 (by rw [ech]; exact z.2), rfl, rfl⟩⟩
  refine lv_icmp_ge (tgt := 23) hx hb dX6_takes_8 (by decide) (fun c8 => ?_) (fun c8 => ?_)
  · skip
    have hlt : ¬ i < len := by
      rw [h2, h5] at c8
      have := (nI_leI (by omega) (by omega)).mp c8
      omega
    refine lv_iconst (v := 0) hx hb dX6_takes_23 (by decide) ?_
    refine lv_tpi (z := tch tx len i) ((tch_out hlt).symm) ?_
    exact hJ24 ls _ _ hP hD hS (lv_sub hl [0, 1, 2] rfl)
  · skip
    have hlt : i < len := by
      rw [h2, h5] at c8
      have := mt (nI_leI (a := len) (b := i) (by omega) (by omega)).mpr c8
      omega
    refine lv_aload_n hx hb dX6_takes_11 rfl (lv_at hl 0 rfl) ?_
    refine va_get (D := D) (ci := 6) (v := .ref (b 9)) (C := RX6) (T := TX6) (N := 22) hx hb hts inwX6_takes_X6 hown hK hP 0 rfl rfl 10 (by decide) (hts (.fieldLink RX6 35 "PlateSlabsModel" "text" "[I") (List.mem_of_getElem? (i := 3) rfl)) (fun _ h9 => h9) rfl dX6_takes_12 ?_
    refine lv_aload_n hx hb dX6_takes_15 rfl (lv_at hl 0 rfl) ?_
    refine va_get (D := D) (ci := 6) (v := .int (v 5)) (C := RX6) (T := TX6) (N := 22) hx hb hts inwX6_takes_X6 hown hK hP 0 rfl rfl 14 (by decide) (hts (.fieldLink RX6 156 "PlateSlabsModel" "position" "I") (List.mem_of_getElem? (i := 1) rfl)) (fun _ h9 => h9) rfl dX6_takes_16 ?_
    refine va_iald hx hb hK hP 1 0 rfl rfl (in_of h5 (by omega) (by decide)) dX6_takes_19 ?_
    refine lv_tpi (congrArg (fun z => tx z) (cl_of h5 (by omega))) ?_
    refine lv_tpi (z := tch tx len i) ((tch_in hlt).symm) ?_
    refine lv_goto (tgt := 24) hx hb dX6_takes_20 (by decide) ?_
    exact hJ24 ls _ _ hP hD hS (lv_sub hl [0, 1, 2] rfl)

def rmX6_takesNumber : Room := { frames := 2, cells := 0, slots := 0, locals := 45 }
set_option maxHeartbeats 4000000 in
set_option maxRecDepth 100000 in
theorem mX6_takesNumber (l : Launch) (T : Nat → ClassId) (D : va_G) (b : Nat → Nat) (v : Nat → Int32) (tx : Nat → Int32) (i len : Nat) (hlen : len ≤ 60) (hil : i ≤ len) (h2 : v 2 = nI len) (h5 : v 5 = nI i) (h6 : v 6 = 0 ∨ v 6 = 1) (lo hi : Nat) (hlo : lo ≤ 9) (hhi : hi ≤ 99) : MuI l yX6_takesNumber wsX6_takesNumber rmX6_takesNumber T xN D [.ref (b 0), .int (nI lo), .int (nI hi)] [(b 0, .inr (6, moF b v)), ((b 9), .inl (T 0, 60, .inl (tx)))] (S := Nat → Int32) (fun r u => nmP (tch tx len) v u r i lo hi) (fun u => moX T b u tx) 0 0 := by
  refine met_mi (cc := cX6_takesNumber) (maxL := 5) (by decide) rfl (Nat.le_of_ble_eq_true rfl) ?_
  intro p_ e s m args below meth c ls A Q hx hb hts hown hml hX hP hD hK hS hA hl hret
  have hl : lv_has ls 5 [(0, .ref (b 0)), (1, .int (nI lo)), (2, .int (nI hi))] := hl
  obtain ⟨H, hH⟩ : ∃ H, H = s.heap := ⟨_, rfl⟩
  have hS : va_S A s.heap H [] := by rw [hH]; exact hS
  rw [← hH] at hP ⊢
  refine lv_iload_n hx hb dX6_takesNumber_0 rfl (lv_at hl 1 rfl) ?_
  refine lv_aload_n hx hb dX6_takesNumber_1 rfl (lv_at hl 0 rfl) ?_
  refine lv_bipush (v := nI 48) hx hb dX6_takesNumber_2 (by decide) ?_
  refine lv_iload_n hx hb dX6_takesNumber_4 rfl (lv_at hl 1 rfl) ?_
  refine lv_iadd hx hb dX6_takesNumber_5 ?_
  refine lv_tpi (z := nI (48 + lo)) (nI_add _ _) ?_
  refine lv_bipush (v := 57) hx hb dX6_takesNumber_6 (by decide) ?_
  refine callMi (As := [.int (nI (48 + lo)), .int 57]) (wr := []) ⟨hx, hb, hml, hown, hts⟩ (mX6_takes l T D b v tx i len hlen hil h2 h5 h6 (nI (48 + lo)) 57) (cwV 2 hts gX6_takesNumber_X6_takes rfl rfl rfl pdX6_takes ⟨Nat.le_of_ble_eq_true rfl, Nat.le_of_ble_eq_true rfl⟩) hP hD hK hS hA xN_bl (fun U _ hW => XN_warm hW hX) (ci := 6) rfl rfl rfl hl.1 rfl rfl (Nat.le_of_ble_eq_true rfl) dX6_takesNumber_8 ⟨Nat.zero_le _, Nat.zero_le _⟩ (fun r1_ u2_ H locs eu2_ hP hD hS hkf => ?_)
  obtain ⟨v1, rfl⟩ : ∃ z, z = u2_ := ⟨_, rfl⟩
  obtain ⟨er1_, kv1⟩ := eu2_
  have hP : va_P D vwCl [(b 0, .inr (6, moF b v1)), ((b 9), .inl (T 0, 60, .inl (tx)))] H := hP
  have hD : va_D A [(b 0, .inr (6, moF b v1)), ((b 9), .inl (T 0, 60, .inl (tx)))] := hD
  refine lv_iadd hx hb dX6_takesNumber_11 ?_
  refine lv_topi (fun x3_ ex3_ => ?_)
  refine lv_istore_n (lv' := [(3, .int x3_), (0, .ref (b 0)), (1, .int (nI lo)), (2, .int (nI hi))]) hx hb dX6_takesNumber_12 rfl hl (by decide) rfl (fun ls hl => ?_)
  have hD0 : ∀ (u : Nat → Int32) (y : Int32) (ls : Array Slot) (H : Heap) (locs : List Loc), (nmP (tch tx len) v u y i lo hi) → va_P D vwCl [(b 0, .inr (6, moF b u)), ((b 9), .inl (T 0, 60, .inl (tx)))] H → va_D A [(b 0, .inr (6, moF b u)), ((b 9), .inl (T 0, 60, .inl (tx)))] → va_S A s.heap H locs → lv_has ls 5 [(0, .ref (b 0)), (1, .int (nI lo)), (2, .int (nI hi)), (3, .int y), (4, .int 0)] → W p_ l e rmX6_takesNumber s m args below meth c H locs 0 0 Q (F0 m 24 ls []) := by
    intro u y ls H locs hn hP hD hS hl
    refine lv_iload hx hb dX6_takesNumber_24 (lv_at hl 4 rfl) ?_
    refine lv_if_eq (tgt := 94) hx hb dX6_takesNumber_26 (by decide) (fun c26 => ?_) (fun c26 => ?_)
    · skip
      refine lv_iload_n hx hb dX6_takesNumber_94 rfl (lv_at hl 3 rfl) ?_
      exact hret _ _ _ u _ _ dX6_takesNumber_95 hS hP hD hn
    · skip
      exact absurd rfl c26
  have hDw : ∀ (u : Nat → Int32) (y : Int32) (ls : Array Slot) (H : Heap) (locs : List Loc), (nmP (tch tx len) v u y i lo hi) → (u 6 = 1) → (u 5 = nI i) → (u 2 = nI len) → va_P D vwCl [(b 0, .inr (6, moF b u)), ((b 9), .inl (T 0, 60, .inl (tx)))] H → va_D A [(b 0, .inr (6, moF b u)), ((b 9), .inl (T 0, 60, .inl (tx)))] → va_S A s.heap H locs → lv_has ls 5 [(0, .ref (b 0)), (1, .int (nI lo)), (2, .int (nI hi)), (3, .int y), (4, .int 1)] → W p_ l e rmX6_takesNumber s m args below meth c H locs 0 0 Q (F0 m 24 ls []) := by
    intro u y ls H locs hn hu6 hu5 hu2 hP hD hS hl
    refine lv_iload hx hb dX6_takesNumber_24 (lv_at hl 4 rfl) ?_
    refine lv_if_eq (tgt := 94) hx hb dX6_takesNumber_26 (by decide) (fun c26 => ?_) (fun c26 => ?_)
    · skip
      exact absurd c26 (by decide)
    · skip
      refine lv_aload_n hx hb dX6_takesNumber_29 rfl (lv_at hl 0 rfl) ?_
      refine lv_bipush (v := 48) hx hb dX6_takesNumber_30 (by decide) ?_
      refine lv_bipush (v := 57) hx hb dX6_takesNumber_32 (by decide) ?_
      refine callRi (As := [.int 48, .int 57]) ⟨hx, hb, hml, hown, hts⟩ (mX6_isNext l T D b u tx i len hlen hil hu2 hu5 (Or.inr hu6) 48 57) (cwV 2 hts gX6_takesNumber_X6_isNext rfl rfl rfl pdX6_isNext ⟨Nat.le_of_ble_eq_true rfl, Nat.le_of_ble_eq_true rfl⟩) hP hK xN_bl (fun U _ hW => XN_warm hW hX) (ci := 6) rfl rfl rfl hl.1 rfl rfl (Nat.le_of_ble_eq_true rfl) dX6_takesNumber_34 ⟨Nat.zero_le _, Nat.zero_le _⟩ (fun r3_ er3_ => ?_)
      obtain rfl : r3_ = bI (u 6 = 0 ∧ i < len ∧ 48 ≤ tx i ∧ tx i ≤ 57) := er3_
      refine lv_if_eq (tgt := 65) hx hb dX6_takesNumber_37 (by decide) (fun c37 => ?_) (fun c37 => ?_)
      · skip
        have c37 := bI_0 c37
        refine lv_iconst (v := 0) hx hb dX6_takesNumber_65 (by decide) ?_
        refine lv_istore (lv' := [(4, .int 0), (0, .ref (b 0)), (1, .int (nI lo)), (2, .int (nI hi)), (3, .int y)]) hx hb dX6_takesNumber_66 hl (by decide) rfl (fun ls hl => ?_)
        refine lv_iload hx hb dX6_takesNumber_68 (lv_at hl 0 rfl) ?_
        refine lv_if_eq (tgt := 89) hx hb dX6_takesNumber_70 (by decide) (fun c70 => ?_) (fun c70 => ?_)
        · skip
          refine lv_iload_n hx hb dX6_takesNumber_89 rfl (lv_at hl 4 rfl) ?_
          refine lv_istore_n (lv' := [(3, .int y), (4, .int 0), (0, .ref (b 0)), (1, .int (nI lo)), (2, .int (nI hi))]) hx hb dX6_takesNumber_90 rfl hl (by decide) rfl (fun ls hl => ?_)
          refine lv_goto (tgt := 24) hx hb dX6_takesNumber_91 (by decide) ?_
          exact hD0 _ _ ls _ _ (hn) hP hD hS (lv_sub hl [2, 3, 4, 0, 1] rfl)
        · skip
          exact absurd rfl c70
      · skip
        have c37 := bI_n0 c37
        exact absurd (hu6.symm.trans c37.1) (by decide)
  have hD2 : ∀ (u : Nat → Int32) (y : Int32) (w : Nat) (ls : Array Slot) (H : Heap) (locs : List Loc), (nmP (tch tx len) v u y i lo hi) → (y = nI w) → (10 ≤ w) → (w ≤ 99) → (u 6 = 0) → (u 5 = nI (i + 2)) → (u 2 = nI len) → (i + 2 ≤ len) → va_P D vwCl [(b 0, .inr (6, moF b u)), ((b 9), .inl (T 0, 60, .inl (tx)))] H → va_D A [(b 0, .inr (6, moF b u)), ((b 9), .inl (T 0, 60, .inl (tx)))] → va_S A s.heap H locs → lv_has ls 5 [(0, .ref (b 0)), (1, .int (nI lo)), (2, .int (nI hi)), (3, .int y), (4, .int 1)] → W p_ l e rmX6_takesNumber s m args below meth c H locs 0 0 Q (F0 m 24 ls []) := by
    intro u y w ls H locs hn hyw hy10 hy99 hu6 hu5 hu2 hil2 hP hD hS hl
    subst hyw
    refine lv_iload hx hb dX6_takesNumber_24 (lv_at hl 4 rfl) ?_
    refine lv_if_eq (tgt := 94) hx hb dX6_takesNumber_26 (by decide) (fun c26 => ?_) (fun c26 => ?_)
    · skip
      exact absurd c26 (by decide)
    · skip
      refine lv_aload_n hx hb dX6_takesNumber_29 rfl (lv_at hl 0 rfl) ?_
      refine lv_bipush (v := 48) hx hb dX6_takesNumber_30 (by decide) ?_
      refine lv_bipush (v := 57) hx hb dX6_takesNumber_32 (by decide) ?_
      refine callRi (As := [.int 48, .int 57]) ⟨hx, hb, hml, hown, hts⟩ (mX6_isNext l T D b u tx (i + 2) len hlen hil2 hu2 hu5 (Or.inl hu6) 48 57) (cwV 2 hts gX6_takesNumber_X6_isNext rfl rfl rfl pdX6_isNext ⟨Nat.le_of_ble_eq_true rfl, Nat.le_of_ble_eq_true rfl⟩) hP hK xN_bl (fun U _ hW => XN_warm hW hX) (ci := 6) rfl rfl rfl hl.1 rfl rfl (Nat.le_of_ble_eq_true rfl) dX6_takesNumber_34 ⟨Nat.zero_le _, Nat.zero_le _⟩ (fun r4_ er4_ => ?_)
      obtain rfl : r4_ = bI (u 6 = 0 ∧ (i + 2) < len ∧ 48 ≤ tx (i + 2) ∧ tx (i + 2) ≤ 57) := er4_
      refine lv_if_eq (tgt := 65) hx hb dX6_takesNumber_37 (by decide) (fun c37 => ?_) (fun c37 => ?_)
      · skip
        have c37 := bI_0 c37
        refine lv_iconst (v := 0) hx hb dX6_takesNumber_65 (by decide) ?_
        refine lv_istore (lv' := [(4, .int 0), (0, .ref (b 0)), (1, .int (nI lo)), (2, .int (nI hi)), (3, .int (nI w))]) hx hb dX6_takesNumber_66 hl (by decide) rfl (fun ls hl => ?_)
        refine lv_iload hx hb dX6_takesNumber_68 (lv_at hl 0 rfl) ?_
        refine lv_if_eq (tgt := 89) hx hb dX6_takesNumber_70 (by decide) (fun c70 => ?_) (fun c70 => ?_)
        · skip
          refine lv_iload_n hx hb dX6_takesNumber_89 rfl (lv_at hl 4 rfl) ?_
          refine lv_istore_n (lv' := [(3, .int (nI w)), (4, .int 0), (0, .ref (b 0)), (1, .int (nI lo)), (2, .int (nI hi))]) hx hb dX6_takesNumber_90 rfl hl (by decide) rfl (fun ls hl => ?_)
          refine lv_goto (tgt := 24) hx hb dX6_takesNumber_91 (by decide) ?_
          exact hD0 _ _ ls _ _ (hn) hP hD hS (lv_sub hl [2, 3, 4, 0, 1] rfl)
        · skip
          exact absurd rfl c70
      · skip
        have c37 := bI_n0 c37
        refine lv_bipush (v := 10) hx hb dX6_takesNumber_40 (by decide) ?_
        refine lv_iload_n hx hb dX6_takesNumber_42 rfl (lv_at hl 3 rfl) ?_
        refine lv_imul hx hb dX6_takesNumber_43 ?_
        refine lv_aload_n hx hb dX6_takesNumber_44 rfl (lv_at hl 0 rfl) ?_
        refine va_get (D := D) (ci := 6) (v := .ref (b 9)) (C := RX6) (T := TX6) (N := 22) hx hb hts inwX6_takesNumber_X6 hown hK hP 0 rfl rfl 10 (by decide) (hts (.fieldLink RX6 35 "PlateSlabsModel" "text" "[I") (List.mem_of_getElem? (i := 1) rfl)) (fun _ h9 => h9) rfl dX6_takesNumber_45 ?_
        refine lv_aload_n hx hb dX6_takesNumber_48 rfl (lv_at hl 0 rfl) ?_
        refine va_get (D := D) (ci := 6) (v := .int (u 5)) (C := RX6) (T := TX6) (N := 22) hx hb hts inwX6_takesNumber_X6 hown hK hP 0 rfl rfl 14 (by decide) (hts (.fieldLink RX6 156 "PlateSlabsModel" "position" "I") (List.mem_of_getElem? (i := 2) rfl)) (fun _ h9 => h9) rfl dX6_takesNumber_49 ?_
        refine va_iald hx hb hK hP 1 0 rfl rfl (in_of hu5 (by omega) (by decide)) dX6_takesNumber_52 ?_
        refine lv_tpi (congrArg (fun z => tx z) (cl_of hu5 (by omega))) ?_
        refine lv_iadd hx hb dX6_takesNumber_53 ?_
        refine lv_bipush (v := 48) hx hb dX6_takesNumber_54 (by decide) ?_
        skip
        refine lv_isub hx hb dX6_takesNumber_56 ?_
        refine lv_iload_n hx hb dX6_takesNumber_57 rfl (lv_at hl 2 rfl) ?_
        refine lv_icmp_gt (tgt := 65) hx hb dX6_takesNumber_58 (by decide) (fun c58 => ?_) (fun c58 => ?_)
        · skip
          refine lv_iconst (v := 0) hx hb dX6_takesNumber_65 (by decide) ?_
          refine lv_istore (lv' := [(4, .int 0), (0, .ref (b 0)), (1, .int (nI lo)), (2, .int (nI hi)), (3, .int (nI w))]) hx hb dX6_takesNumber_66 hl (by decide) rfl (fun ls hl => ?_)
          refine lv_iload hx hb dX6_takesNumber_68 (lv_at hl 0 rfl) ?_
          refine lv_if_eq (tgt := 89) hx hb dX6_takesNumber_70 (by decide) (fun c70 => ?_) (fun c70 => ?_)
          · skip
            refine lv_iload_n hx hb dX6_takesNumber_89 rfl (lv_at hl 4 rfl) ?_
            refine lv_istore_n (lv' := [(3, .int (nI w)), (4, .int 0), (0, .ref (b 0)), (1, .int (nI lo)), (2, .int (nI hi))]) hx hb dX6_takesNumber_90 rfl hl (by decide) rfl (fun ls hl => ?_)
            refine lv_goto (tgt := 24) hx hb dX6_takesNumber_91 (by decide) ?_
            exact hD0 _ _ ls _ _ (hn) hP hD hS (lv_sub hl [2, 3, 4, 0, 1] rfl)
          · skip
            exact absurd rfl c70
        · skip
          exact absurd (two_big hy10 hy99 c37.2.2 hhi) c58
  have hD1 : ∀ (u : Nat → Int32) (y : Int32) (ls : Array Slot) (H : Heap) (locs : List Loc), (v 6 = 0) → (nI (48 + lo) ≤ tch tx len i ∧ tch tx len i ≤ 57) → (vR v u) → (y = nI (dg (tch tx len i))) → (0 < dg (tch tx len i)) → (dg (tch tx len i) ≤ 9) → (u 6 = 0) → (u 5 = nI (i + 1)) → (u 2 = nI len) → (i + 1 ≤ len) → va_P D vwCl [(b 0, .inr (6, moF b u)), ((b 9), .inl (T 0, 60, .inl (tx)))] H → va_D A [(b 0, .inr (6, moF b u)), ((b 9), .inl (T 0, 60, .inl (tx)))] → va_S A s.heap H locs → lv_has ls 5 [(0, .ref (b 0)), (1, .int (nI lo)), (2, .int (nI hi)), (3, .int y), (4, .int 1)] → W p_ l e rmX6_takesNumber s m args below meth c H locs 0 0 Q (F0 m 24 ls []) := by
    intro u y ls H locs hv6 hr hvr hyw hd0 hd9i hu6 hu5 hu2 hil1 hP hD hS hl
    subst hyw
    refine lv_iload hx hb dX6_takesNumber_24 (lv_at hl 4 rfl) ?_
    refine lv_if_eq (tgt := 94) hx hb dX6_takesNumber_26 (by decide) (fun c26 => ?_) (fun c26 => ?_)
    · skip
      exact absurd c26 (by decide)
    · skip
      refine lv_aload_n hx hb dX6_takesNumber_29 rfl (lv_at hl 0 rfl) ?_
      refine lv_bipush (v := 48) hx hb dX6_takesNumber_30 (by decide) ?_
      refine lv_bipush (v := 57) hx hb dX6_takesNumber_32 (by decide) ?_
      refine callRi (As := [.int 48, .int 57]) ⟨hx, hb, hml, hown, hts⟩ (mX6_isNext l T D b u tx (i + 1) len hlen hil1 hu2 hu5 (Or.inl hu6) 48 57) (cwV 2 hts gX6_takesNumber_X6_isNext rfl rfl rfl pdX6_isNext ⟨Nat.le_of_ble_eq_true rfl, Nat.le_of_ble_eq_true rfl⟩) hP hK xN_bl (fun U _ hW => XN_warm hW hX) (ci := 6) rfl rfl rfl hl.1 rfl rfl (Nat.le_of_ble_eq_true rfl) dX6_takesNumber_34 ⟨Nat.zero_le _, Nat.zero_le _⟩ (fun r5_ er5_ => ?_)
      obtain rfl : r5_ = bI (u 6 = 0 ∧ (i + 1) < len ∧ 48 ≤ tx (i + 1) ∧ tx (i + 1) ≤ 57) := er5_
      refine lv_if_eq (tgt := 65) hx hb dX6_takesNumber_37 (by decide) (fun c37 => ?_) (fun c37 => ?_)
      · skip
        have c37 := bI_0 c37
        refine lv_iconst (v := 0) hx hb dX6_takesNumber_65 (by decide) ?_
        refine lv_istore (lv' := [(4, .int 0), (0, .ref (b 0)), (1, .int (nI lo)), (2, .int (nI hi)), (3, .int (nI (dg (tch tx len i))))]) hx hb dX6_takesNumber_66 hl (by decide) rfl (fun ls hl => ?_)
        refine lv_iload hx hb dX6_takesNumber_68 (lv_at hl 0 rfl) ?_
        refine lv_if_eq (tgt := 89) hx hb dX6_takesNumber_70 (by decide) (fun c70 => ?_) (fun c70 => ?_)
        · skip
          refine lv_iload_n hx hb dX6_takesNumber_89 rfl (lv_at hl 4 rfl) ?_
          refine lv_topi (fun y9_ ey9_ => ?_)
          refine lv_istore_n (lv' := [(3, .int y9_), (4, .int 0), (0, .ref (b 0)), (1, .int (nI lo)), (2, .int (nI hi))]) hx hb dX6_takesNumber_90 rfl hl (by decide) rfl (fun ls hl => ?_)
          refine lv_goto (tgt := 24) hx hb dX6_takesNumber_91 (by decide) ?_
          exact hD0 _ _ ls _ _ ⟨hvr, Or.inl ⟨_, _, hv6, ⟨hr, Or.inr ⟨fun z => c37 ⟨hu6, tch_pos z.2.1.1, by rw [← tch_in (tx := tx) (tch_pos z.2.1.1)]; exact z.2.1.1, by rw [← tch_in (tx := tx) (tch_pos z.2.1.1)]; exact z.2.1.2⟩, rfl, rfl⟩⟩, ey9_, hu6, hu5⟩⟩ hP hD hS (lv_sub hl [2, 3, 4, 0, 1] rfl)
        · skip
          exact absurd rfl c70
      · skip
        have c37 := bI_n0 c37
        have hc1 : tch tx len (i + 1) = tx (i + 1) := tch_in c37.2.1
        have hdd : 48 ≤ tch tx len (i + 1) ∧ tch tx len (i + 1) ≤ 57 := by rw [hc1]; exact c37.2.2
        have hd9 := dg_of hdd
        refine lv_bipush (v := 10) hx hb dX6_takesNumber_40 (by decide) ?_
        refine lv_iload_n hx hb dX6_takesNumber_42 rfl (lv_at hl 3 rfl) ?_
        refine lv_imul hx hb dX6_takesNumber_43 ?_
        refine lv_aload_n hx hb dX6_takesNumber_44 rfl (lv_at hl 0 rfl) ?_
        refine va_get (D := D) (ci := 6) (v := .ref (b 9)) (C := RX6) (T := TX6) (N := 22) hx hb hts inwX6_takesNumber_X6 hown hK hP 0 rfl rfl 10 (by decide) (hts (.fieldLink RX6 35 "PlateSlabsModel" "text" "[I") (List.mem_of_getElem? (i := 1) rfl)) (fun _ h9 => h9) rfl dX6_takesNumber_45 ?_
        refine lv_aload_n hx hb dX6_takesNumber_48 rfl (lv_at hl 0 rfl) ?_
        refine va_get (D := D) (ci := 6) (v := .int (u 5)) (C := RX6) (T := TX6) (N := 22) hx hb hts inwX6_takesNumber_X6 hown hK hP 0 rfl rfl 14 (by decide) (hts (.fieldLink RX6 156 "PlateSlabsModel" "position" "I") (List.mem_of_getElem? (i := 2) rfl)) (fun _ h9 => h9) rfl dX6_takesNumber_49 ?_
        refine va_iald hx hb hK hP 1 0 rfl rfl (in_of hu5 (by omega) (by decide)) dX6_takesNumber_52 ?_
        refine lv_tpi (congrArg (fun z => tx z) (cl_of hu5 (by omega))) ?_
        refine lv_iadd hx hb dX6_takesNumber_53 ?_
        refine lv_bipush (v := 48) hx hb dX6_takesNumber_54 (by decide) ?_
        refine lv_isub hx hb dX6_takesNumber_56 ?_
        refine lv_tpi (z := nI (10 * dg (tch tx len i) + dg (tch tx len (i + 1)))) (by rw [← hc1]; exact num2 hd9.2) ?_
        refine lv_iload_n hx hb dX6_takesNumber_57 rfl (lv_at hl 2 rfl) ?_
        refine lv_icmp_gt (tgt := 65) hx hb dX6_takesNumber_58 (by decide) (fun c58 => ?_) (fun c58 => ?_)
        · skip
          refine lv_iconst (v := 0) hx hb dX6_takesNumber_65 (by decide) ?_
          refine lv_istore (lv' := [(4, .int 0), (0, .ref (b 0)), (1, .int (nI lo)), (2, .int (nI hi)), (3, .int (nI (dg (tch tx len i))))]) hx hb dX6_takesNumber_66 hl (by decide) rfl (fun ls hl => ?_)
          refine lv_iload hx hb dX6_takesNumber_68 (lv_at hl 0 rfl) ?_
          refine lv_if_eq (tgt := 89) hx hb dX6_takesNumber_70 (by decide) (fun c70 => ?_) (fun c70 => ?_)
          · skip
            refine lv_iload_n hx hb dX6_takesNumber_89 rfl (lv_at hl 4 rfl) ?_
            refine lv_topi (fun y9_ ey9_ => ?_)
            refine lv_istore_n (lv' := [(3, .int y9_), (4, .int 0), (0, .ref (b 0)), (1, .int (nI lo)), (2, .int (nI hi))]) hx hb dX6_takesNumber_90 rfl hl (by decide) rfl (fun ls hl => ?_)
            refine lv_goto (tgt := 24) hx hb dX6_takesNumber_91 (by decide) ?_
            exact hD0 _ _ ls _ _ ⟨hvr, Or.inl ⟨_, _, hv6, ⟨hr, Or.inr ⟨fun z => absurd c58 (Int32.not_lt.mpr ((nI_leI (by omega) (by omega)).mpr z.2.2)), rfl, rfl⟩⟩, ey9_, hu6, hu5⟩⟩ hP hD hS (lv_sub hl [2, 3, 4, 0, 1] rfl)
          · skip
            exact absurd rfl c70
        · skip
          have hle : 10 * dg (tch tx len i) + dg (tch tx len (i + 1)) ≤ hi := (nI_leI (by omega) (by omega)).mp (Int32.not_lt.mp c58)
          refine lv_iconst (v := 1) hx hb dX6_takesNumber_61 (by decide) ?_
          refine lv_goto (tgt := 66) hx hb dX6_takesNumber_62 (by decide) ?_
          refine lv_istore (lv' := [(4, .int 1), (0, .ref (b 0)), (1, .int (nI lo)), (2, .int (nI hi)), (3, .int (nI (dg (tch tx len i))))]) hx hb dX6_takesNumber_66 hl (by decide) rfl (fun ls hl => ?_)
          refine lv_iload hx hb dX6_takesNumber_68 (lv_at hl 0 rfl) ?_
          refine lv_if_eq (tgt := 89) hx hb dX6_takesNumber_70 (by decide) (fun c70 => ?_) (fun c70 => ?_)
          · skip
            exact absurd c70 (by decide)
          · skip
            refine lv_bipush (v := 10) hx hb dX6_takesNumber_73 (by decide) ?_
            refine lv_iload_n hx hb dX6_takesNumber_75 rfl (lv_at hl 4 rfl) ?_
            refine lv_imul hx hb dX6_takesNumber_76 ?_
            refine lv_aload_n hx hb dX6_takesNumber_77 rfl (lv_at hl 1 rfl) ?_
            refine lv_bipush (v := 48) hx hb dX6_takesNumber_78 (by decide) ?_
            refine lv_bipush (v := 57) hx hb dX6_takesNumber_80 (by decide) ?_
            refine callMi (As := [.int 48, .int 57]) (wr := []) ⟨hx, hb, hml, hown, hts⟩ (mX6_takes l T D b u tx (i + 1) len hlen hil1 hu2 hu5 (Or.inl hu6) 48 57) (cwV 2 hts gX6_takesNumber_X6_takes rfl rfl rfl pdX6_takes ⟨Nat.le_of_ble_eq_true rfl, Nat.le_of_ble_eq_true rfl⟩) hP hD hK hS hA xN_bl (fun U _ hW => XN_warm hW hX) (ci := 6) rfl rfl rfl hl.1 rfl rfl (Nat.le_of_ble_eq_true rfl) dX6_takesNumber_82 ⟨Nat.zero_le _, Nat.zero_le _⟩ (fun r6_ u7_ H locs eu7_ hP hD hS hkf => ?_)
            obtain ⟨v9, rfl⟩ : ∃ z, z = u7_ := ⟨_, rfl⟩
            obtain ⟨er6_, kv9⟩ := eu7_
            have hP : va_P D vwCl [(b 0, .inr (6, moF b v9)), ((b 9), .inl (T 0, 60, .inl (tx)))] H := hP
            have hD : va_D A [(b 0, .inr (6, moF b v9)), ((b 9), .inl (T 0, 60, .inl (tx)))] := hD
            have hk9 : v9 6 = 0 ∧ v9 5 = nI (i + 2) := by
              rcases kv9.2 with ⟨-, z⟩ | ⟨z, -⟩
              · exact z
              · exact absurd ⟨hu6, hdd.1, hdd.2⟩ z
            have hvr9 : vR v v9 := vR_tr hvr kv9.1
            refine lv_iadd hx hb dX6_takesNumber_85 ?_
            refine lv_tpi (z := nI (10 * dg (tch tx len i) + dg (tch tx len (i + 1)))) (by rw [er6_]; exact num3 hd9.2) ?_
            refine lv_goto (tgt := 90) hx hb dX6_takesNumber_86 (by decide) ?_
            refine lv_topi (fun y9_ ey9_ => ?_)
            refine lv_istore_n (lv' := [(3, .int y9_), (4, .int 1), (0, .ref (b 0)), (1, .int (nI lo)), (2, .int (nI hi))]) hx hb dX6_takesNumber_90 rfl hl (by decide) rfl (fun ls hl => ?_)
            refine lv_goto (tgt := 24) hx hb dX6_takesNumber_91 (by decide) ?_
            exact hD2 _ _ (10 * dg (tch tx len i) + dg (tch tx len (i + 1))) ls _ _ ⟨hvr9, Or.inl ⟨_, _, hv6, ⟨hr, Or.inl ⟨⟨hd0, hdd, hle⟩, rfl, rfl⟩⟩, ey9_, hk9.1, hk9.2⟩⟩ ey9_ (by omega) (by omega) hk9.1 hk9.2 ((kv9.1 2 (by decide) (by decide)).trans hu2) (by have := c37.2.1; omega) hP hD hS (lv_sub hl [2, 3, 4, 0, 1] rfl)
  have hu2 : v1 2 = nI len := (kv1.1 2 (by decide) (by decide)).trans h2
  rcases kv1.2 with ⟨ha, hb6, hb5⟩ | ⟨ha, hb6, hb5⟩
  · skip
    have hr48 := dg_lo hlo ha.2
    have hg := dg_of hr48
    have ey : x3_ = nI (dg (tch tx len i)) := by rw [ex3_, er1_]; exact num1 hg.2
    refine lv_iload_n hx hb dX6_takesNumber_13 rfl (lv_at hl 0 rfl) ?_
    refine lv_if_le (tgt := 21) hx hb dX6_takesNumber_14 (by decide) (fun c14 => ?_) (fun c14 => ?_)
    · skip
      have hz0 : dg (tch tx len i) = 0 := by
        rw [ey] at c14
        have := (nI_leI (b := 0) (by omega) (by decide)).mp c14
        omega
      refine lv_iconst (v := 0) hx hb dX6_takesNumber_21 (by decide) ?_
      refine lv_istore (lv' := [(4, .int 0), (3, .int x3_), (0, .ref (b 0)), (1, .int (nI lo)), (2, .int (nI hi))]) hx hb dX6_takesNumber_22 hl (by decide) rfl (fun ls hl => ?_)
      exact hD0 _ _ ls _ _ ⟨kv1.1, Or.inl ⟨_, _, ha.1, ⟨ha.2, Or.inr ⟨fun z => absurd z.1 (by omega), rfl, rfl⟩⟩, ey, hb6, hb5⟩⟩ hP hD hS (lv_sub hl [2, 3, 4, 1, 0] rfl)
    · skip
      have hd0 : 0 < dg (tch tx len i) := by
        rw [ey] at c14
        have := mt (nI_leI (a := dg (tch tx len i)) (b := 0) (by omega) (by decide)).mpr c14
        omega
      refine lv_iconst (v := 1) hx hb dX6_takesNumber_17 (by decide) ?_
      refine lv_goto (tgt := 22) hx hb dX6_takesNumber_18 (by decide) ?_
      refine lv_istore (lv' := [(4, .int 1), (3, .int x3_), (0, .ref (b 0)), (1, .int (nI lo)), (2, .int (nI hi))]) hx hb dX6_takesNumber_22 hl (by decide) rfl (fun ls hl => ?_)
      exact hD1 _ _ ls _ _ ha.1 ha.2 kv1.1 ey hd0 hg.1 hb6 hb5 hu2 (by have := tch_pos hr48.1; omega) hP hD hS (lv_sub hl [2, 3, 4, 1, 0] rfl)
  · skip
    refine lv_iload_n hx hb dX6_takesNumber_13 rfl (lv_at hl 0 rfl) ?_
    refine lv_if_le (tgt := 21) hx hb dX6_takesNumber_14 (by decide) (fun c14 => ?_) (fun c14 => ?_)
    · skip
      refine lv_iconst (v := 0) hx hb dX6_takesNumber_21 (by decide) ?_
      refine lv_istore (lv' := [(4, .int 0), (3, .int x3_), (0, .ref (b 0)), (1, .int (nI lo)), (2, .int (nI hi))]) hx hb dX6_takesNumber_22 hl (by decide) rfl (fun ls hl => ?_)
      exact hD0 _ _ ls _ _ ⟨kv1.1, Or.inr ⟨ha, hb6, hb5⟩⟩ hP hD hS (lv_sub hl [2, 3, 4, 1, 0] rfl)
    · skip
      refine lv_iconst (v := 1) hx hb dX6_takesNumber_17 (by decide) ?_
      refine lv_goto (tgt := 22) hx hb dX6_takesNumber_18 (by decide) ?_
      refine lv_istore (lv' := [(4, .int 1), (3, .int x3_), (0, .ref (b 0)), (1, .int (nI lo)), (2, .int (nI hi))]) hx hb dX6_takesNumber_22 hl (by decide) rfl (fun ls hl => ?_)
      exact hDw _ _ ls _ _ ⟨kv1.1, Or.inr ⟨ha, hb6, hb5⟩⟩ hb6 hb5 hu2 hP hD hS (lv_sub hl [2, 3, 4, 1, 0] rfl)

