theorem pdX6_looks : yX6_looks.cls = RX6 ∧ yX6_looks.cls ≠ "java/lang/invoke/MethodHandle" ∧ yX6_looks.cls ≠ "java/lang/invoke/VarHandle" ∧ (parseMethodDescriptor yX6_looks.desc).map (fun d => d.parameters.length) = some 0 := by decide +kernel
theorem pdX6_looksBack : yX6_looksBack.cls = RX6 ∧ yX6_looksBack.cls ≠ "java/lang/invoke/MethodHandle" ∧ yX6_looksBack.cls ≠ "java/lang/invoke/VarHandle" ∧ (parseMethodDescriptor yX6_looksBack.desc).map (fun d => d.parameters.length) = some 0 := by decide +kernel
theorem pdX6_records : yX6_records.cls = RX6 ∧ yX6_records.cls ≠ "java/lang/invoke/MethodHandle" ∧ yX6_records.cls ≠ "java/lang/invoke/VarHandle" ∧ (parseMethodDescriptor yX6_records.desc).map (fun d => d.parameters.length) = some 0 := by decide +kernel
theorem pdX6_acted : yX6_acted.cls = RX6 ∧ yX6_acted.cls ≠ "java/lang/invoke/MethodHandle" ∧ yX6_acted.cls ≠ "java/lang/invoke/VarHandle" ∧ (parseMethodDescriptor yX6_acted.desc).map (fun d => d.parameters.length) = some 1 := by decide +kernel
theorem pdX6_undo : yX6_undo.cls = RX6 ∧ yX6_undo.cls ≠ "java/lang/invoke/MethodHandle" ∧ yX6_undo.cls ≠ "java/lang/invoke/VarHandle" ∧ (parseMethodDescriptor yX6_undo.desc).map (fun d => d.parameters.length) = some 0 := by decide +kernel
theorem pdX6_keep : yX6_keep.cls = RX6 ∧ yX6_keep.cls ≠ "java/lang/invoke/MethodHandle" ∧ yX6_keep.cls ≠ "java/lang/invoke/VarHandle" ∧ (parseMethodDescriptor yX6_keep.desc).map (fun d => d.parameters.length) = some 0 := by decide +kernel
theorem pdX6_restore : yX6_restore.cls = RX6 ∧ yX6_restore.cls ≠ "java/lang/invoke/MethodHandle" ∧ yX6_restore.cls ≠ "java/lang/invoke/VarHandle" ∧ (parseMethodDescriptor yX6_restore.desc).map (fun d => d.parameters.length) = some 0 := by decide +kernel
theorem inwX6_looks_X6 : ∀ w ∈ wsX60, w ∈ wsX6_looks := by decide +kernel
theorem inwX6_looksBack_X6 : ∀ w ∈ wsX60, w ∈ wsX6_looksBack := by decide +kernel
theorem inwX6_records_X6 : ∀ w ∈ wsX60, w ∈ wsX6_records := by decide +kernel
theorem inwX6_acted_X6 : ∀ w ∈ wsX60, w ∈ wsX6_acted := by decide +kernel
theorem inwX6_undo_X6 : ∀ w ∈ wsX60, w ∈ wsX6_undo := by decide +kernel
theorem inwX6_keep_X6 : ∀ w ∈ wsX60, w ∈ wsX6_keep := by decide +kernel
theorem inwX6_restore_X6 : ∀ w ∈ wsX60, w ∈ wsX6_restore := by decide +kernel
def rmX6_looks : Room := { frames := 0, cells := 0, slots := 0, locals := 0 }
set_option maxHeartbeats 4000000 in
set_option maxRecDepth 100000 in
theorem mX6_looks (l : Launch) (T : Nat → ClassId) (D : va_G) (b : Nat → Nat) (v : Nat → Int32) (sA : Nat → Int32) (eA : Nat → Int64) (ia : Nat → Int32) (ea : Nat → Int64) (ik : Nat → Int32) (ek : Nat → Int64) (ib : Nat → Int32) (eb : Nat → Int64) (tx : Nat → Int32) : MuV l yX6_looks wsX6_looks rmX6_looks T xN D [.ref (b 0)] (moW T b v sA eA ia ea ik ek ib eb tx) (S := Unit) (fun _ => True) (fun _ => moW T b v sA eA sA eA ik ek ib eb tx) 0 0 := by
  refine met_mv (cc := cX6_looks) (maxL := 2) (by decide) rfl (Nat.le_of_ble_eq_true rfl) ?_
  intro p_ e s m args below meth c ls A Q hx hb hts hown hml hX hP hD hK hS hA hl hin hret
  have hl : lv_has ls 2 [(0, .ref (b 0))] := hl
  obtain ⟨H, hH⟩ : ∃ H, H = s.heap := ⟨_, rfl⟩
  have hS : va_S A s.heap H [] := by rw [hH]; exact hS
  rw [← hH] at hP ⊢
  refine lv_iconst (v := 0) hx hb dX6_looks_0 (by decide) ?_
  refine lv_istore_n (lv' := [(1, .int 0), (0, .ref (b 0))]) hx hb dX6_looks_1 rfl hl (by decide) rfl (fun ls hl => ?_)
  have hP : va_P D vwCl (moW T b v sA eA (cpA ia sA 0 0) ea ik ek ib eb tx) H := by rw [cpA_0]; exact hP
  have hD : va_D A (moW T b v sA eA (cpA ia sA 0 0) ea ik ek ib eb tx) := by rw [cpA_0]; exact hD
  have loop2 : ∀ (j : Nat) (i : Nat) (x : Int32) (ls : Array Slot) (H : Heap) (locs : List Loc), (44 ≤ i + j) → (i ≤ 43) → (x = nI i) → va_P D vwCl (moW T b v sA eA (cpA ia sA 0 i) ea ik ek ib eb tx) H → va_D A (moW T b v sA eA (cpA ia sA 0 i) ea ik ek ib eb tx) → va_S A s.heap H locs → lv_has ls 2 [(1, .int x), (0, .ref (b 0))] → W p_ l e rmX6_looks s m args below meth c H locs 0 0 Q (F0 m 2 ls []) := by
    intro j
    induction j with
    | zero => intro i x ls H locs hm hi; exact absurd hm (by omega)
    | succ j ih =>
      intro i x ls H locs hm hi e1 hP hD hS hl
      refine lv_iload_n hx hb dX6_looks_2 rfl (lv_at hl 0 rfl) ?_
      refine lv_bipush (v := 43) hx hb dX6_looks_3 (by decide) ?_
      refine lv_icmp_ge (tgt := 26) hx hb dX6_looks_5 (by decide) (fun c5 => ?_) (fun c5 => ?_)
      · skip
        have ei : i = 43 := ge_lit e1 hi (by decide) c5
        rw [ei] at hP hD
        have hP : va_P D vwCl (moW T b v sA eA sA ea ik ek ib eb tx) H := wP_re hP 3 rfl (at_i (fun j hj => cpA_al hj))
        have hD : va_D A (moW T b v sA eA sA ea ik ek ib eb tx) := wD_ad hD rfl
        refine lv_iconst (v := 0) hx hb dX6_looks_26 (by decide) ?_
        refine lv_istore_n (lv' := [(1, .int 0), (0, .ref (b 0))]) hx hb dX6_looks_27 rfl hl (by decide) rfl (fun ls hl => ?_)
        have hP : va_P D vwCl (moW T b v sA eA sA (cpA ea eA 0 0) ik ek ib eb tx) H := by rw [cpA_0]; exact hP
        have hD : va_D A (moW T b v sA eA sA (cpA ea eA 0 0) ik ek ib eb tx) := by rw [cpA_0]; exact hD
        have loop28 : ∀ (j : Nat) (i : Nat) (x : Int32) (ls : Array Slot) (H : Heap) (locs : List Loc), (13 ≤ i + j) → (i ≤ 12) → (x = nI i) → va_P D vwCl (moW T b v sA eA sA (cpA ea eA 0 i) ik ek ib eb tx) H → va_D A (moW T b v sA eA sA (cpA ea eA 0 i) ik ek ib eb tx) → va_S A s.heap H locs → lv_has ls 2 [(1, .int x), (0, .ref (b 0))] → W p_ l e rmX6_looks s m args below meth c H locs 0 0 Q (F0 m 28 ls []) := by
          intro j
          induction j with
          | zero => intro i x ls H locs hm hi; exact absurd hm (by omega)
          | succ j ih =>
            intro i x ls H locs hm hi e1 hP hD hS hl
            refine lv_iload_n hx hb dX6_looks_28 rfl (lv_at hl 0 rfl) ?_
            refine lv_bipush (v := 12) hx hb dX6_looks_29 (by decide) ?_
            refine lv_icmp_ge (tgt := 52) hx hb dX6_looks_31 (by decide) (fun c31 => ?_) (fun c31 => ?_)
            · skip
              have ei : i = 12 := ge_lit e1 hi (by decide) c31
              rw [ei] at hP hD
              have hP : va_P D vwCl (moW T b v sA eA sA eA ik ek ib eb tx) H := wP_re hP 4 rfl (at_l (fun j hj => cpA_al hj))
              have hD : va_D A (moW T b v sA eA sA eA ik ek ib eb tx) := wD_ad hD rfl
              exact hret _ _ () _ _ dX6_looks_52 hS hP hD trivial
            · skip
              have hlt : i < 12 := nge_lit e1 hi (by decide) c31
              refine lv_aload_n hx hb dX6_looks_34 rfl (lv_at hl 1 rfl) ?_
              refine va_get (D := D) (ci := 6) (v := .ref (b 4)) (C := RX6) (T := TX6) (N := 22) hx hb hts inwX6_looks_X6 hown hK hP 0 rfl rfl 3 (by decide) (hts (.fieldLink RX6 20 "PlateSlabsModel" "eAhead" "[J") (List.mem_of_getElem? (i := 3) rfl)) (fun _ h9 => h9) rfl dX6_looks_35 ?_
              refine lv_iload_n hx hb dX6_looks_38 rfl (lv_at hl 0 rfl) ?_
              refine lv_aload_n hx hb dX6_looks_39 rfl (lv_at hl 1 rfl) ?_
              refine va_get (D := D) (ci := 6) (v := .ref (b 2)) (C := RX6) (T := TX6) (N := 22) hx hb hts inwX6_looks_X6 hown hK hP 0 rfl rfl 1 (by decide) (hts (.fieldLink RX6 13 "PlateSlabsModel" "e" "[J") (List.mem_of_getElem? (i := 4) rfl)) (fun _ h9 => h9) rfl dX6_looks_40 ?_
              refine lv_iload_n hx hb dX6_looks_43 rfl (lv_at hl 0 rfl) ?_
              refine va_lald hx hb hK hP 2 1 rfl rfl (in_of e1 (by omega) (by decide)) dX6_looks_44 ?_
              refine lv_tpl (congrArg (fun z => eA z) (cl_of e1 (by omega))) ?_
              refine va_last hx hb hK hP hD hS 4 1 rfl rfl (in_of e1 (by omega) (by decide)) dX6_looks_45 (fun H locs hP hD hS => ?_)
              rw [show Int32.toNatClampNeg x = i from cl_of e1 (by omega)] at hP hD
              have hP : va_P D vwCl (moW T b v sA eA sA (vp_updL (cpA ea eA 0 i) i (eA i)) ik ek ib eb tx) H := hP
              have hD : va_D A (moW T b v sA eA sA (vp_updL (cpA ea eA 0 i) i (eA i)) ik ek ib eb tx) := hD
              rw [cpA_sL0 ea eA i] at hP hD
              have hP : va_P D vwCl (moW T b v sA eA sA (cpA ea eA 0 (i + 1)) ik ek ib eb tx) H := hP
              have hD : va_D A (moW T b v sA eA sA (cpA ea eA 0 (i + 1)) ik ek ib eb tx) := hD
              obtain ⟨y_, ey_⟩ : ∃ y : Int32, y = x + 1 := ⟨_, rfl⟩
              refine lv_iinc (v := y_) (lv' := [(1, .int y_), (0, .ref (b 0))]) hx hb dX6_looks_46 hl (k := 0) rfl (by rw [ey_]; rfl) (by decide) rfl (fun ls hl => ?_)
              refine lv_goto (tgt := 28) hx hb dX6_looks_49 (by decide) ?_
              exact ih (i + 1) _ ls _ _ (by omega) (by omega) (by rw [ey_, e1, nI_1]) hP hD hS (lv_sub hl [0, 1] rfl)
        exact loop28 13 0 0 ls _ _ (by omega) (Nat.zero_le _) rfl hP hD hS (lv_sub hl [0, 1] rfl)
      · skip
        have hlt : i < 43 := nge_lit e1 hi (by decide) c5
        refine lv_aload_n hx hb dX6_looks_8 rfl (lv_at hl 1 rfl) ?_
        refine va_get (D := D) (ci := 6) (v := .ref (b 3)) (C := RX6) (T := TX6) (N := 22) hx hb hts inwX6_looks_X6 hown hK hP 0 rfl rfl 2 (by decide) (hts (.fieldLink RX6 17 "PlateSlabsModel" "ahead" "[I") (List.mem_of_getElem? (i := 1) rfl)) (fun _ h9 => h9) rfl dX6_looks_9 ?_
        refine lv_iload_n hx hb dX6_looks_12 rfl (lv_at hl 0 rfl) ?_
        refine lv_aload_n hx hb dX6_looks_13 rfl (lv_at hl 1 rfl) ?_
        refine va_get (D := D) (ci := 6) (v := .ref (b 1)) (C := RX6) (T := TX6) (N := 22) hx hb hts inwX6_looks_X6 hown hK hP 0 rfl rfl 0 (by decide) (hts (.fieldLink RX6 7 "PlateSlabsModel" "s" "[I") (List.mem_of_getElem? (i := 2) rfl)) (fun _ h9 => h9) rfl dX6_looks_14 ?_
        refine lv_iload_n hx hb dX6_looks_17 rfl (lv_at hl 0 rfl) ?_
        refine va_iald hx hb hK hP 1 0 rfl rfl (in_of e1 (by omega) (by decide)) dX6_looks_18 ?_
        refine lv_tpi (congrArg (fun z => sA z) (cl_of e1 (by omega))) ?_
        refine va_iast hx hb hK hP hD hS 3 0 rfl rfl (in_of e1 (by omega) (by decide)) dX6_looks_19 (fun H locs hP hD hS => ?_)
        rw [show Int32.toNatClampNeg x = i from cl_of e1 (by omega)] at hP hD
        have hP : va_P D vwCl (moW T b v sA eA (upd (cpA ia sA 0 i) i (sA i)) ea ik ek ib eb tx) H := hP
        have hD : va_D A (moW T b v sA eA (upd (cpA ia sA 0 i) i (sA i)) ea ik ek ib eb tx) := hD
        rw [cpA_s0 ia sA i] at hP hD
        have hP : va_P D vwCl (moW T b v sA eA (cpA ia sA 0 (i + 1)) ea ik ek ib eb tx) H := hP
        have hD : va_D A (moW T b v sA eA (cpA ia sA 0 (i + 1)) ea ik ek ib eb tx) := hD
        obtain ⟨y_, ey_⟩ : ∃ y : Int32, y = x + 1 := ⟨_, rfl⟩
        refine lv_iinc (v := y_) (lv' := [(1, .int y_), (0, .ref (b 0))]) hx hb dX6_looks_20 hl (k := 0) rfl (by rw [ey_]; rfl) (by decide) rfl (fun ls hl => ?_)
        refine lv_goto (tgt := 2) hx hb dX6_looks_23 (by decide) ?_
        exact ih (i + 1) _ ls _ _ (by omega) (by omega) (by rw [ey_, e1, nI_1]) hP hD hS (lv_sub hl [0, 1] rfl)
  exact loop2 44 0 0 ls _ _ (by omega) (Nat.zero_le _) rfl hP hD hS (lv_sub hl [0, 1] rfl)

def rmX6_looksBack : Room := { frames := 0, cells := 0, slots := 0, locals := 0 }
set_option maxHeartbeats 4000000 in
set_option maxRecDepth 100000 in
theorem mX6_looksBack (l : Launch) (T : Nat → ClassId) (D : va_G) (b : Nat → Nat) (v : Nat → Int32) (sA : Nat → Int32) (eA : Nat → Int64) (ia : Nat → Int32) (ea : Nat → Int64) (ik : Nat → Int32) (ek : Nat → Int64) (ib : Nat → Int32) (eb : Nat → Int64) (tx : Nat → Int32) : MuV l yX6_looksBack wsX6_looksBack rmX6_looksBack T xN D [.ref (b 0)] (moW T b v sA eA ia ea ik ek ib eb tx) (S := Unit) (fun _ => True) (fun _ => moW T b v ia ea ia ea ik ek ib eb tx) 0 0 := by
  refine met_mv (cc := cX6_looksBack) (maxL := 2) (by decide) rfl (Nat.le_of_ble_eq_true rfl) ?_
  intro p_ e s m args below meth c ls A Q hx hb hts hown hml hX hP hD hK hS hA hl hin hret
  have hl : lv_has ls 2 [(0, .ref (b 0))] := hl
  obtain ⟨H, hH⟩ : ∃ H, H = s.heap := ⟨_, rfl⟩
  have hS : va_S A s.heap H [] := by rw [hH]; exact hS
  rw [← hH] at hP ⊢
  refine lv_iconst (v := 0) hx hb dX6_looksBack_0 (by decide) ?_
  refine lv_istore_n (lv' := [(1, .int 0), (0, .ref (b 0))]) hx hb dX6_looksBack_1 rfl hl (by decide) rfl (fun ls hl => ?_)
  have hP : va_P D vwCl (moW T b v (cpA sA ia 0 0) eA ia ea ik ek ib eb tx) H := by rw [cpA_0]; exact hP
  have hD : va_D A (moW T b v (cpA sA ia 0 0) eA ia ea ik ek ib eb tx) := by rw [cpA_0]; exact hD
  have loop2 : ∀ (j : Nat) (i : Nat) (x : Int32) (ls : Array Slot) (H : Heap) (locs : List Loc), (44 ≤ i + j) → (i ≤ 43) → (x = nI i) → va_P D vwCl (moW T b v (cpA sA ia 0 i) eA ia ea ik ek ib eb tx) H → va_D A (moW T b v (cpA sA ia 0 i) eA ia ea ik ek ib eb tx) → va_S A s.heap H locs → lv_has ls 2 [(1, .int x), (0, .ref (b 0))] → W p_ l e rmX6_looksBack s m args below meth c H locs 0 0 Q (F0 m 2 ls []) := by
    intro j
    induction j with
    | zero => intro i x ls H locs hm hi; exact absurd hm (by omega)
    | succ j ih =>
      intro i x ls H locs hm hi e1 hP hD hS hl
      refine lv_iload_n hx hb dX6_looksBack_2 rfl (lv_at hl 0 rfl) ?_
      refine lv_bipush (v := 43) hx hb dX6_looksBack_3 (by decide) ?_
      refine lv_icmp_ge (tgt := 26) hx hb dX6_looksBack_5 (by decide) (fun c5 => ?_) (fun c5 => ?_)
      · skip
        have ei : i = 43 := ge_lit e1 hi (by decide) c5
        rw [ei] at hP hD
        have hP : va_P D vwCl (moW T b v ia eA ia ea ik ek ib eb tx) H := wP_re hP 1 rfl (at_i (fun j hj => cpA_al hj))
        have hD : va_D A (moW T b v ia eA ia ea ik ek ib eb tx) := wD_ad hD rfl
        refine lv_iconst (v := 0) hx hb dX6_looksBack_26 (by decide) ?_
        refine lv_istore_n (lv' := [(1, .int 0), (0, .ref (b 0))]) hx hb dX6_looksBack_27 rfl hl (by decide) rfl (fun ls hl => ?_)
        have hP : va_P D vwCl (moW T b v ia (cpA eA ea 0 0) ia ea ik ek ib eb tx) H := by rw [cpA_0]; exact hP
        have hD : va_D A (moW T b v ia (cpA eA ea 0 0) ia ea ik ek ib eb tx) := by rw [cpA_0]; exact hD
        have loop28 : ∀ (j : Nat) (i : Nat) (x : Int32) (ls : Array Slot) (H : Heap) (locs : List Loc), (13 ≤ i + j) → (i ≤ 12) → (x = nI i) → va_P D vwCl (moW T b v ia (cpA eA ea 0 i) ia ea ik ek ib eb tx) H → va_D A (moW T b v ia (cpA eA ea 0 i) ia ea ik ek ib eb tx) → va_S A s.heap H locs → lv_has ls 2 [(1, .int x), (0, .ref (b 0))] → W p_ l e rmX6_looksBack s m args below meth c H locs 0 0 Q (F0 m 28 ls []) := by
          intro j
          induction j with
          | zero => intro i x ls H locs hm hi; exact absurd hm (by omega)
          | succ j ih =>
            intro i x ls H locs hm hi e1 hP hD hS hl
            refine lv_iload_n hx hb dX6_looksBack_28 rfl (lv_at hl 0 rfl) ?_
            refine lv_bipush (v := 12) hx hb dX6_looksBack_29 (by decide) ?_
            refine lv_icmp_ge (tgt := 52) hx hb dX6_looksBack_31 (by decide) (fun c31 => ?_) (fun c31 => ?_)
            · skip
              have ei : i = 12 := ge_lit e1 hi (by decide) c31
              rw [ei] at hP hD
              have hP : va_P D vwCl (moW T b v ia ea ia ea ik ek ib eb tx) H := wP_re hP 2 rfl (at_l (fun j hj => cpA_al hj))
              have hD : va_D A (moW T b v ia ea ia ea ik ek ib eb tx) := wD_ad hD rfl
              exact hret _ _ () _ _ dX6_looksBack_52 hS hP hD trivial
            · skip
              have hlt : i < 12 := nge_lit e1 hi (by decide) c31
              refine lv_aload_n hx hb dX6_looksBack_34 rfl (lv_at hl 1 rfl) ?_
              refine va_get (D := D) (ci := 6) (v := .ref (b 2)) (C := RX6) (T := TX6) (N := 22) hx hb hts inwX6_looksBack_X6 hown hK hP 0 rfl rfl 1 (by decide) (hts (.fieldLink RX6 13 "PlateSlabsModel" "e" "[J") (List.mem_of_getElem? (i := 3) rfl)) (fun _ h9 => h9) rfl dX6_looksBack_35 ?_
              refine lv_iload_n hx hb dX6_looksBack_38 rfl (lv_at hl 0 rfl) ?_
              refine lv_aload_n hx hb dX6_looksBack_39 rfl (lv_at hl 1 rfl) ?_
              refine va_get (D := D) (ci := 6) (v := .ref (b 4)) (C := RX6) (T := TX6) (N := 22) hx hb hts inwX6_looksBack_X6 hown hK hP 0 rfl rfl 3 (by decide) (hts (.fieldLink RX6 20 "PlateSlabsModel" "eAhead" "[J") (List.mem_of_getElem? (i := 4) rfl)) (fun _ h9 => h9) rfl dX6_looksBack_40 ?_
              refine lv_iload_n hx hb dX6_looksBack_43 rfl (lv_at hl 0 rfl) ?_
              refine va_lald hx hb hK hP 4 1 rfl rfl (in_of e1 (by omega) (by decide)) dX6_looksBack_44 ?_
              refine lv_tpl (congrArg (fun z => ea z) (cl_of e1 (by omega))) ?_
              refine va_last hx hb hK hP hD hS 2 1 rfl rfl (in_of e1 (by omega) (by decide)) dX6_looksBack_45 (fun H locs hP hD hS => ?_)
              rw [show Int32.toNatClampNeg x = i from cl_of e1 (by omega)] at hP hD
              have hP : va_P D vwCl (moW T b v ia (vp_updL (cpA eA ea 0 i) i (ea i)) ia ea ik ek ib eb tx) H := hP
              have hD : va_D A (moW T b v ia (vp_updL (cpA eA ea 0 i) i (ea i)) ia ea ik ek ib eb tx) := hD
              rw [cpA_sL0 eA ea i] at hP hD
              have hP : va_P D vwCl (moW T b v ia (cpA eA ea 0 (i + 1)) ia ea ik ek ib eb tx) H := hP
              have hD : va_D A (moW T b v ia (cpA eA ea 0 (i + 1)) ia ea ik ek ib eb tx) := hD
              obtain ⟨y_, ey_⟩ : ∃ y : Int32, y = x + 1 := ⟨_, rfl⟩
              refine lv_iinc (v := y_) (lv' := [(1, .int y_), (0, .ref (b 0))]) hx hb dX6_looksBack_46 hl (k := 0) rfl (by rw [ey_]; rfl) (by decide) rfl (fun ls hl => ?_)
              refine lv_goto (tgt := 28) hx hb dX6_looksBack_49 (by decide) ?_
              exact ih (i + 1) _ ls _ _ (by omega) (by omega) (by rw [ey_, e1, nI_1]) hP hD hS (lv_sub hl [0, 1] rfl)
        exact loop28 13 0 0 ls _ _ (by omega) (Nat.zero_le _) rfl hP hD hS (lv_sub hl [0, 1] rfl)
      · skip
        have hlt : i < 43 := nge_lit e1 hi (by decide) c5
        refine lv_aload_n hx hb dX6_looksBack_8 rfl (lv_at hl 1 rfl) ?_
        refine va_get (D := D) (ci := 6) (v := .ref (b 1)) (C := RX6) (T := TX6) (N := 22) hx hb hts inwX6_looksBack_X6 hown hK hP 0 rfl rfl 0 (by decide) (hts (.fieldLink RX6 7 "PlateSlabsModel" "s" "[I") (List.mem_of_getElem? (i := 1) rfl)) (fun _ h9 => h9) rfl dX6_looksBack_9 ?_
        refine lv_iload_n hx hb dX6_looksBack_12 rfl (lv_at hl 0 rfl) ?_
        refine lv_aload_n hx hb dX6_looksBack_13 rfl (lv_at hl 1 rfl) ?_
        refine va_get (D := D) (ci := 6) (v := .ref (b 3)) (C := RX6) (T := TX6) (N := 22) hx hb hts inwX6_looksBack_X6 hown hK hP 0 rfl rfl 2 (by decide) (hts (.fieldLink RX6 17 "PlateSlabsModel" "ahead" "[I") (List.mem_of_getElem? (i := 2) rfl)) (fun _ h9 => h9) rfl dX6_looksBack_14 ?_
        refine lv_iload_n hx hb dX6_looksBack_17 rfl (lv_at hl 0 rfl) ?_
        refine va_iald hx hb hK hP 3 0 rfl rfl (in_of e1 (by omega) (by decide)) dX6_looksBack_18 ?_
        refine lv_tpi (congrArg (fun z => ia z) (cl_of e1 (by omega))) ?_
        refine va_iast hx hb hK hP hD hS 1 0 rfl rfl (in_of e1 (by omega) (by decide)) dX6_looksBack_19 (fun H locs hP hD hS => ?_)
        rw [show Int32.toNatClampNeg x = i from cl_of e1 (by omega)] at hP hD
        have hP : va_P D vwCl (moW T b v (upd (cpA sA ia 0 i) i (ia i)) eA ia ea ik ek ib eb tx) H := hP
        have hD : va_D A (moW T b v (upd (cpA sA ia 0 i) i (ia i)) eA ia ea ik ek ib eb tx) := hD
        rw [cpA_s0 sA ia i] at hP hD
        have hP : va_P D vwCl (moW T b v (cpA sA ia 0 (i + 1)) eA ia ea ik ek ib eb tx) H := hP
        have hD : va_D A (moW T b v (cpA sA ia 0 (i + 1)) eA ia ea ik ek ib eb tx) := hD
        obtain ⟨y_, ey_⟩ : ∃ y : Int32, y = x + 1 := ⟨_, rfl⟩
        refine lv_iinc (v := y_) (lv' := [(1, .int y_), (0, .ref (b 0))]) hx hb dX6_looksBack_20 hl (k := 0) rfl (by rw [ey_]; rfl) (by decide) rfl (fun ls hl => ?_)
        refine lv_goto (tgt := 2) hx hb dX6_looksBack_23 (by decide) ?_
        exact ih (i + 1) _ ls _ _ (by omega) (by omega) (by rw [ey_, e1, nI_1]) hP hD hS (lv_sub hl [0, 1] rfl)
  exact loop2 44 0 0 ls _ _ (by omega) (Nat.zero_le _) rfl hP hD hS (lv_sub hl [0, 1] rfl)

def rmX6_keep : Room := { frames := 0, cells := 0, slots := 0, locals := 0 }
set_option maxHeartbeats 4000000 in
set_option maxRecDepth 100000 in
theorem mX6_keep (l : Launch) (T : Nat → ClassId) (D : va_G) (b : Nat → Nat) (v : Nat → Int32) (sA : Nat → Int32) (eA : Nat → Int64) (ia : Nat → Int32) (ea : Nat → Int64) (ik : Nat → Int32) (ek : Nat → Int64) (ib : Nat → Int32) (eb : Nat → Int64) (tx : Nat → Int32) : MuI l yX6_keep wsX6_keep rmX6_keep T xN D [.ref (b 0)] (moW T b v sA eA ia ea ik ek ib eb tx) (S := Unit) (fun r _ => r = sA 0) (fun _ => moW T b (upd v 0 1) sA eA ia ea sA eA ib eb tx) 0 0 := by
  refine met_mi (cc := cX6_keep) (maxL := 2) (by decide) rfl (Nat.le_of_ble_eq_true rfl) ?_
  intro p_ e s m args below meth c ls A Q hx hb hts hown hml hX hP hD hK hS hA hl hret
  have hl : lv_has ls 2 [(0, .ref (b 0))] := hl
  obtain ⟨H, hH⟩ : ∃ H, H = s.heap := ⟨_, rfl⟩
  have hS : va_S A s.heap H [] := by rw [hH]; exact hS
  rw [← hH] at hP ⊢
  refine lv_iconst (v := 0) hx hb dX6_keep_0 (by decide) ?_
  refine lv_istore_n (lv' := [(1, .int 0), (0, .ref (b 0))]) hx hb dX6_keep_1 rfl hl (by decide) rfl (fun ls hl => ?_)
  have hP : va_P D vwCl (moW T b v sA eA ia ea (cpA ik sA 0 0) ek ib eb tx) H := by rw [cpA_0]; exact hP
  have hD : va_D A (moW T b v sA eA ia ea (cpA ik sA 0 0) ek ib eb tx) := by rw [cpA_0]; exact hD
  have loop2 : ∀ (j : Nat) (i : Nat) (x : Int32) (ls : Array Slot) (H : Heap) (locs : List Loc), (44 ≤ i + j) → (i ≤ 43) → (x = nI i) → va_P D vwCl (moW T b v sA eA ia ea (cpA ik sA 0 i) ek ib eb tx) H → va_D A (moW T b v sA eA ia ea (cpA ik sA 0 i) ek ib eb tx) → va_S A s.heap H locs → lv_has ls 2 [(1, .int x), (0, .ref (b 0))] → W p_ l e rmX6_keep s m args below meth c H locs 0 0 Q (F0 m 2 ls []) := by
    intro j
    induction j with
    | zero => intro i x ls H locs hm hi; exact absurd hm (by omega)
    | succ j ih =>
      intro i x ls H locs hm hi e1 hP hD hS hl
      refine lv_iload_n hx hb dX6_keep_2 rfl (lv_at hl 0 rfl) ?_
      refine lv_bipush (v := 43) hx hb dX6_keep_3 (by decide) ?_
      refine lv_icmp_ge (tgt := 26) hx hb dX6_keep_5 (by decide) (fun c5 => ?_) (fun c5 => ?_)
      · skip
        have ei : i = 43 := ge_lit e1 hi (by decide) c5
        rw [ei] at hP hD
        have hP : va_P D vwCl (moW T b v sA eA ia ea sA ek ib eb tx) H := wP_re hP 5 rfl (at_i (fun j hj => cpA_al hj))
        have hD : va_D A (moW T b v sA eA ia ea sA ek ib eb tx) := wD_ad hD rfl
        refine lv_iconst (v := 0) hx hb dX6_keep_26 (by decide) ?_
        refine lv_istore_n (lv' := [(1, .int 0), (0, .ref (b 0))]) hx hb dX6_keep_27 rfl hl (by decide) rfl (fun ls hl => ?_)
        have hP : va_P D vwCl (moW T b v sA eA ia ea sA (cpA ek eA 0 0) ib eb tx) H := by rw [cpA_0]; exact hP
        have hD : va_D A (moW T b v sA eA ia ea sA (cpA ek eA 0 0) ib eb tx) := by rw [cpA_0]; exact hD
        have loop28 : ∀ (j : Nat) (i : Nat) (x : Int32) (ls : Array Slot) (H : Heap) (locs : List Loc), (13 ≤ i + j) → (i ≤ 12) → (x = nI i) → va_P D vwCl (moW T b v sA eA ia ea sA (cpA ek eA 0 i) ib eb tx) H → va_D A (moW T b v sA eA ia ea sA (cpA ek eA 0 i) ib eb tx) → va_S A s.heap H locs → lv_has ls 2 [(1, .int x), (0, .ref (b 0))] → W p_ l e rmX6_keep s m args below meth c H locs 0 0 Q (F0 m 28 ls []) := by
          intro j
          induction j with
          | zero => intro i x ls H locs hm hi; exact absurd hm (by omega)
          | succ j ih =>
            intro i x ls H locs hm hi e1 hP hD hS hl
            refine lv_iload_n hx hb dX6_keep_28 rfl (lv_at hl 0 rfl) ?_
            refine lv_bipush (v := 12) hx hb dX6_keep_29 (by decide) ?_
            refine lv_icmp_ge (tgt := 52) hx hb dX6_keep_31 (by decide) (fun c31 => ?_) (fun c31 => ?_)
            · skip
              have ei : i = 12 := ge_lit e1 hi (by decide) c31
              rw [ei] at hP hD
              have hP : va_P D vwCl (moW T b v sA eA ia ea sA eA ib eb tx) H := wP_re hP 6 rfl (at_l (fun j hj => cpA_al hj))
              have hD : va_D A (moW T b v sA eA ia ea sA eA ib eb tx) := wD_ad hD rfl
              refine lv_aload_n hx hb dX6_keep_52 rfl (lv_at hl 1 rfl) ?_
              refine lv_iconst (v := 1) hx hb dX6_keep_53 (by decide) ?_
              refine va_put (D := D) (ci := 6) (v := .int 1) (C := RX6) (T := TX6) (N := 22) hx hb hts inwX6_keep_X6 tyX6 tyX6_ok nmX6 hown hK hP hD hS 0 rfl rfl 6 (by decide) (hts (.fieldLink RX6 195 "PlateSlabsModel" "isKept" "Z") (List.mem_of_getElem? (i := 5) rfl)) (fun _ h9 => h9) rfl (tyX6_ok 6 (by decide)) (rfl) rfl (Nat.le_of_ble_eq_true rfl) dX6_keep_54 (fun H locs hP hD hS => ?_)
              have hP : va_P D vwCl (moW T b (upd v 0 1) sA eA ia ea sA eA ib eb tx) H := hP
              have hD : va_D A (moW T b (upd v 0 1) sA eA ia ea sA eA ib eb tx) := hD
              refine lv_aload_n hx hb dX6_keep_57 rfl (lv_at hl 1 rfl) ?_
              refine va_get (D := D) (ci := 6) (v := .ref (b 1)) (C := RX6) (T := TX6) (N := 22) hx hb hts inwX6_keep_X6 hown hK hP 0 rfl rfl 0 (by decide) (hts (.fieldLink RX6 7 "PlateSlabsModel" "s" "[I") (List.mem_of_getElem? (i := 2) rfl)) (fun _ h9 => h9) rfl dX6_keep_58 ?_
              refine lv_iconst (v := 0) hx hb dX6_keep_61 (by decide) ?_
              refine va_iald hx hb hK hP 1 0 rfl rfl (in_lit (by decide)) dX6_keep_62 ?_
              refine lv_tpi (congrArg (fun z => sA z) (cl_0)) ?_
              exact hret _ _ _ () _ _ dX6_keep_63 hS hP hD rfl
            · skip
              have hlt : i < 12 := nge_lit e1 hi (by decide) c31
              refine lv_aload_n hx hb dX6_keep_34 rfl (lv_at hl 1 rfl) ?_
              refine va_get (D := D) (ci := 6) (v := .ref (b 6)) (C := RX6) (T := TX6) (N := 22) hx hb hts inwX6_keep_X6 hown hK hP 0 rfl rfl 5 (by decide) (hts (.fieldLink RX6 26 "PlateSlabsModel" "eSnapshot" "[J") (List.mem_of_getElem? (i := 3) rfl)) (fun _ h9 => h9) rfl dX6_keep_35 ?_
              refine lv_iload_n hx hb dX6_keep_38 rfl (lv_at hl 0 rfl) ?_
              refine lv_aload_n hx hb dX6_keep_39 rfl (lv_at hl 1 rfl) ?_
              refine va_get (D := D) (ci := 6) (v := .ref (b 2)) (C := RX6) (T := TX6) (N := 22) hx hb hts inwX6_keep_X6 hown hK hP 0 rfl rfl 1 (by decide) (hts (.fieldLink RX6 13 "PlateSlabsModel" "e" "[J") (List.mem_of_getElem? (i := 4) rfl)) (fun _ h9 => h9) rfl dX6_keep_40 ?_
              refine lv_iload_n hx hb dX6_keep_43 rfl (lv_at hl 0 rfl) ?_
              refine va_lald hx hb hK hP 2 1 rfl rfl (in_of e1 (by omega) (by decide)) dX6_keep_44 ?_
              refine lv_tpl (congrArg (fun z => eA z) (cl_of e1 (by omega))) ?_
              refine va_last hx hb hK hP hD hS 6 1 rfl rfl (in_of e1 (by omega) (by decide)) dX6_keep_45 (fun H locs hP hD hS => ?_)
              rw [show Int32.toNatClampNeg x = i from cl_of e1 (by omega)] at hP hD
              have hP : va_P D vwCl (moW T b v sA eA ia ea sA (vp_updL (cpA ek eA 0 i) i (eA i)) ib eb tx) H := hP
              have hD : va_D A (moW T b v sA eA ia ea sA (vp_updL (cpA ek eA 0 i) i (eA i)) ib eb tx) := hD
              rw [cpA_sL0 ek eA i] at hP hD
              have hP : va_P D vwCl (moW T b v sA eA ia ea sA (cpA ek eA 0 (i + 1)) ib eb tx) H := hP
              have hD : va_D A (moW T b v sA eA ia ea sA (cpA ek eA 0 (i + 1)) ib eb tx) := hD
              obtain ⟨y_, ey_⟩ : ∃ y : Int32, y = x + 1 := ⟨_, rfl⟩
              refine lv_iinc (v := y_) (lv' := [(1, .int y_), (0, .ref (b 0))]) hx hb dX6_keep_46 hl (k := 0) rfl (by rw [ey_]; rfl) (by decide) rfl (fun ls hl => ?_)
              refine lv_goto (tgt := 28) hx hb dX6_keep_49 (by decide) ?_
              exact ih (i + 1) _ ls _ _ (by omega) (by omega) (by rw [ey_, e1, nI_1]) hP hD hS (lv_sub hl [0, 1] rfl)
        exact loop28 13 0 0 ls _ _ (by omega) (Nat.zero_le _) rfl hP hD hS (lv_sub hl [0, 1] rfl)
      · skip
        have hlt : i < 43 := nge_lit e1 hi (by decide) c5
        refine lv_aload_n hx hb dX6_keep_8 rfl (lv_at hl 1 rfl) ?_
        refine va_get (D := D) (ci := 6) (v := .ref (b 5)) (C := RX6) (T := TX6) (N := 22) hx hb hts inwX6_keep_X6 hown hK hP 0 rfl rfl 4 (by decide) (hts (.fieldLink RX6 23 "PlateSlabsModel" "snapshot" "[I") (List.mem_of_getElem? (i := 1) rfl)) (fun _ h9 => h9) rfl dX6_keep_9 ?_
        refine lv_iload_n hx hb dX6_keep_12 rfl (lv_at hl 0 rfl) ?_
        refine lv_aload_n hx hb dX6_keep_13 rfl (lv_at hl 1 rfl) ?_
        refine va_get (D := D) (ci := 6) (v := .ref (b 1)) (C := RX6) (T := TX6) (N := 22) hx hb hts inwX6_keep_X6 hown hK hP 0 rfl rfl 0 (by decide) (hts (.fieldLink RX6 7 "PlateSlabsModel" "s" "[I") (List.mem_of_getElem? (i := 2) rfl)) (fun _ h9 => h9) rfl dX6_keep_14 ?_
        refine lv_iload_n hx hb dX6_keep_17 rfl (lv_at hl 0 rfl) ?_
        refine va_iald hx hb hK hP 1 0 rfl rfl (in_of e1 (by omega) (by decide)) dX6_keep_18 ?_
        refine lv_tpi (congrArg (fun z => sA z) (cl_of e1 (by omega))) ?_
        refine va_iast hx hb hK hP hD hS 5 0 rfl rfl (in_of e1 (by omega) (by decide)) dX6_keep_19 (fun H locs hP hD hS => ?_)
        rw [show Int32.toNatClampNeg x = i from cl_of e1 (by omega)] at hP hD
        have hP : va_P D vwCl (moW T b v sA eA ia ea (upd (cpA ik sA 0 i) i (sA i)) ek ib eb tx) H := hP
        have hD : va_D A (moW T b v sA eA ia ea (upd (cpA ik sA 0 i) i (sA i)) ek ib eb tx) := hD
        rw [cpA_s0 ik sA i] at hP hD
        have hP : va_P D vwCl (moW T b v sA eA ia ea (cpA ik sA 0 (i + 1)) ek ib eb tx) H := hP
        have hD : va_D A (moW T b v sA eA ia ea (cpA ik sA 0 (i + 1)) ek ib eb tx) := hD
        obtain ⟨y_, ey_⟩ : ∃ y : Int32, y = x + 1 := ⟨_, rfl⟩
        refine lv_iinc (v := y_) (lv' := [(1, .int y_), (0, .ref (b 0))]) hx hb dX6_keep_20 hl (k := 0) rfl (by rw [ey_]; rfl) (by decide) rfl (fun ls hl => ?_)
        refine lv_goto (tgt := 2) hx hb dX6_keep_23 (by decide) ?_
        exact ih (i + 1) _ ls _ _ (by omega) (by omega) (by rw [ey_, e1, nI_1]) hP hD hS (lv_sub hl [0, 1] rfl)
  exact loop2 44 0 0 ls _ _ (by omega) (Nat.zero_le _) rfl hP hD hS (lv_sub hl [0, 1] rfl)

def rmX6_records : Room := { frames := 0, cells := 0, slots := 0, locals := 0 }
set_option maxHeartbeats 4000000 in
set_option maxRecDepth 100000 in
theorem mX6_records (l : Launch) (T : Nat → ClassId) (D : va_G) (b : Nat → Nat) (v : Nat → Int32) (sA : Nat → Int32) (eA : Nat → Int64) (ia : Nat → Int32) (ea : Nat → Int64) (ik : Nat → Int32) (ek : Nat → Int64) (ib : Nat → Int32) (eb : Nat → Int64) (tx : Nat → Int32) (n : Nat) (hn : n ≤ 4) (hv : v 1 = nI n) : MuV l yX6_records wsX6_records rmX6_records T xN D [.ref (b 0)] (moW T b v sA eA ia ea ik ek ib eb tx) (S := Unit) (fun _ => True) (fun _ => moW T b (upd v 1 (nI (rcN n))) sA eA ia ea ik ek (rcI n ib ia) (rcE n eb ea) tx) 0 0 := by
  refine met_mv (cc := cX6_records) (maxL := 2) (by decide) rfl (Nat.le_of_ble_eq_true rfl) ?_
  intro p_ e s m args below meth c ls A Q hx hb hts hown hml hX hP hD hK hS hA hl hin hret
  have hl : lv_has ls 2 [(0, .ref (b 0))] := hl
  obtain ⟨H, hH⟩ : ∃ H, H = s.heap := ⟨_, rfl⟩
  have hS : va_S A s.heap H [] := by rw [hH]; exact hS
  rw [← hH] at hP ⊢
  refine lv_aload_n hx hb dX6_records_0 rfl (lv_at hl 0 rfl) ?_
  refine va_get (D := D) (ci := 6) (v := .int (v 1)) (C := RX6) (T := TX6) (N := 22) hx hb hts inwX6_records_X6 hown hK hP 0 rfl rfl 9 (by decide) (hts (.fieldLink RX6 56 "PlateSlabsModel" "known" "I") (List.mem_of_getElem? (i := 1) rfl)) (fun _ h9 => h9) rfl dX6_records_1 ?_
  refine lv_iconst (v := 4) hx hb dX6_records_4 (by decide) ?_
  have hJ77 : ∀ (m1 : Nat) (ib1 : Nat → Int32) (eb1 : Nat → Int64) (ls : Array Slot) (H : Heap) (locs : List Loc), (m1 ≤ 3) → (m1 = if n = 4 then 3 else n) → (ib1 = if n = 4 then cpA ib (fun j => ib (43 + j)) 0 129 else ib) → (eb1 = if n = 4 then cpA eb (fun j => eb (12 + j)) 0 36 else eb) → va_P D vwCl (moW T b (upd v 1 (nI m1)) sA eA ia ea ik ek ib1 eb1 tx) H → va_D A (moW T b (upd v 1 (nI m1)) sA eA ia ea ik ek ib1 eb1 tx) → va_S A s.heap H locs → lv_has ls 2 [(0, .ref (b 0))] → W p_ l e rmX6_records s m args below meth c H locs 0 0 Q (F0 m 77 ls []) := by
    intro m1 ib1 eb1 ls H locs hm1 em1 eib eeb hP hD hS hl
    refine lv_iconst (v := 0) hx hb dX6_records_77 (by decide) ?_
    refine lv_istore_n (lv' := [(1, .int 0), (0, .ref (b 0))]) hx hb dX6_records_78 rfl hl (by decide) rfl (fun ls hl => ?_)
    have hP : va_P D vwCl (moW T b (upd v 1 (nI m1)) sA eA ia ea ik ek (cpA ib1 ia (43 * m1) 0) eb1 tx) H := by rw [cpA_0]; exact hP
    have hD : va_D A (moW T b (upd v 1 (nI m1)) sA eA ia ea ik ek (cpA ib1 ia (43 * m1) 0) eb1 tx) := by rw [cpA_0]; exact hD
    have loop79 : ∀ (j : Nat) (i : Nat) (x : Int32) (ls : Array Slot) (H : Heap) (locs : List Loc), (44 ≤ i + j) → (i ≤ 43) → (x = nI i) → va_P D vwCl (moW T b (upd v 1 (nI m1)) sA eA ia ea ik ek (cpA ib1 ia (43 * m1) i) eb1 tx) H → va_D A (moW T b (upd v 1 (nI m1)) sA eA ia ea ik ek (cpA ib1 ia (43 * m1) i) eb1 tx) → va_S A s.heap H locs → lv_has ls 2 [(1, .int x), (0, .ref (b 0))] → W p_ l e rmX6_records s m args below meth c H locs 0 0 Q (F0 m 79 ls []) := by
      intro j
      induction j with
      | zero => intro i x ls H locs hm hi; exact absurd hm (by omega)
      | succ j ih =>
        intro i x ls H locs hm hi e1 hP hD hS hl
        refine lv_iload_n hx hb dX6_records_79 rfl (lv_at hl 0 rfl) ?_
        refine lv_bipush (v := 43) hx hb dX6_records_80 (by decide) ?_
        refine lv_icmp_ge (tgt := 111) hx hb dX6_records_82 (by decide) (fun c82 => ?_) (fun c82 => ?_)
        · skip
          have ei : i = 43 := ge_lit e1 hi (by decide) c82
          rw [ei] at hP hD
          refine lv_iconst (v := 0) hx hb dX6_records_111 (by decide) ?_
          refine lv_istore_n (lv' := [(1, .int 0), (0, .ref (b 0))]) hx hb dX6_records_112 rfl hl (by decide) rfl (fun ls hl => ?_)
          have hP : va_P D vwCl (moW T b (upd v 1 (nI m1)) sA eA ia ea ik ek (cpA ib1 ia (43 * m1) 43) (cpA eb1 ea (12 * m1) 0) tx) H := by rw [cpA_0]; exact hP
          have hD : va_D A (moW T b (upd v 1 (nI m1)) sA eA ia ea ik ek (cpA ib1 ia (43 * m1) 43) (cpA eb1 ea (12 * m1) 0) tx) := by rw [cpA_0]; exact hD
          have loop113 : ∀ (j : Nat) (i : Nat) (x : Int32) (ls : Array Slot) (H : Heap) (locs : List Loc), (13 ≤ i + j) → (i ≤ 12) → (x = nI i) → va_P D vwCl (moW T b (upd v 1 (nI m1)) sA eA ia ea ik ek (cpA ib1 ia (43 * m1) 43) (cpA eb1 ea (12 * m1) i) tx) H → va_D A (moW T b (upd v 1 (nI m1)) sA eA ia ea ik ek (cpA ib1 ia (43 * m1) 43) (cpA eb1 ea (12 * m1) i) tx) → va_S A s.heap H locs → lv_has ls 2 [(1, .int x), (0, .ref (b 0))] → W p_ l e rmX6_records s m args below meth c H locs 0 0 Q (F0 m 113 ls []) := by
            intro j
            induction j with
            | zero => intro i x ls H locs hm hi; exact absurd hm (by omega)
            | succ j ih =>
              intro i x ls H locs hm hi e1 hP hD hS hl
              refine lv_iload_n hx hb dX6_records_113 rfl (lv_at hl 0 rfl) ?_
              refine lv_bipush (v := 12) hx hb dX6_records_114 (by decide) ?_
              refine lv_icmp_ge (tgt := 145) hx hb dX6_records_116 (by decide) (fun c116 => ?_) (fun c116 => ?_)
              · skip
                have ei : i = 12 := ge_lit e1 hi (by decide) c116
                rw [ei] at hP hD
                refine lv_aload_n hx hb dX6_records_145 rfl (lv_at hl 1 rfl) ?_
                refine lv_dup hx hb dX6_records_146 rfl ?_
                refine va_get (D := D) (ci := 6) (v := .int (nI m1)) (C := RX6) (T := TX6) (N := 22) hx hb hts inwX6_records_X6 hown hK hP 0 rfl rfl 9 (by decide) (hts (.fieldLink RX6 56 "PlateSlabsModel" "known" "I") (List.mem_of_getElem? (i := 1) rfl)) (fun _ h9 => h9) rfl dX6_records_147 ?_
                refine lv_iconst (v := nI 1) hx hb dX6_records_150 (by decide) ?_
                refine lv_iadd hx hb dX6_records_151 ?_
                refine lv_tpi (z := nI (m1 + 1)) (by rw [nI_add]) ?_
                refine va_put (D := D) (ci := 6) (v := .int (nI (m1 + 1))) (C := RX6) (T := TX6) (N := 22) hx hb hts inwX6_records_X6 tyX6 tyX6_ok nmX6 hown hK hP hD hS 0 rfl rfl 9 (by decide) (hts (.fieldLink RX6 56 "PlateSlabsModel" "known" "I") (List.mem_of_getElem? (i := 1) rfl)) (fun _ h9 => h9) rfl (tyX6_ok 9 (by decide)) (rfl) rfl (Nat.le_of_ble_eq_true rfl) dX6_records_152 (fun H locs hP hD hS => ?_)
                have hP : va_P D vwCl (moW T b (upd v 1 (nI (m1 + 1))) sA eA ia ea ik ek (cpA ib1 ia (43 * m1) 43) (cpA eb1 ea (12 * m1) 12) tx) H := hP
                have hD : va_D A (moW T b (upd v 1 (nI (m1 + 1))) sA eA ia ea ik ek (cpA ib1 ia (43 * m1) 43) (cpA eb1 ea (12 * m1) 12) tx) := hD
                have fI : rcI n ib ia = cpA ib1 ia (43 * m1) 43 := by rw [rcI, ← eib, ← em1]
                have fE : rcE n eb ea = cpA eb1 ea (12 * m1) 12 := by rw [rcE, ← eeb, ← em1]
                have fN : rcN n = m1 + 1 := by rw [rcN, ← em1]
                exact hret _ _ () _ _ dX6_records_155 hS (by rw [fI, fE, fN]; exact hP) (by rw [fI, fE, fN]; exact hD) trivial
              · skip
                have hlt : i < 12 := nge_lit e1 hi (by decide) c116
                refine lv_aload_n hx hb dX6_records_119 rfl (lv_at hl 1 rfl) ?_
                refine va_get (D := D) (ci := 6) (v := .ref (b 8)) (C := RX6) (T := TX6) (N := 22) hx hb hts inwX6_records_X6 hown hK hP 0 rfl rfl 8 (by decide) (hts (.fieldLink RX6 32 "PlateSlabsModel" "eBefore" "[J") (List.mem_of_getElem? (i := 3) rfl)) (fun _ h9 => h9) rfl dX6_records_120 ?_
                refine lv_bipush (v := nI 12) hx hb dX6_records_123 (by decide) ?_
                refine lv_aload_n hx hb dX6_records_125 rfl (lv_at hl 1 rfl) ?_
                refine va_get (D := D) (ci := 6) (v := .int (nI m1)) (C := RX6) (T := TX6) (N := 22) hx hb hts inwX6_records_X6 hown hK hP 0 rfl rfl 9 (by decide) (hts (.fieldLink RX6 56 "PlateSlabsModel" "known" "I") (List.mem_of_getElem? (i := 1) rfl)) (fun _ h9 => h9) rfl dX6_records_126 ?_
                refine lv_imul hx hb dX6_records_129 ?_
                refine lv_iload_n hx hb dX6_records_130 rfl (lv_at hl 0 rfl) ?_
                refine lv_iadd hx hb dX6_records_131 ?_
                refine lv_tpi (z := nI (12 * m1 + i)) (by rw [e1, pk_mul, nI_add]) ?_
                refine lv_aload_n hx hb dX6_records_132 rfl (lv_at hl 1 rfl) ?_
                refine va_get (D := D) (ci := 6) (v := .ref (b 4)) (C := RX6) (T := TX6) (N := 22) hx hb hts inwX6_records_X6 hown hK hP 0 rfl rfl 3 (by decide) (hts (.fieldLink RX6 20 "PlateSlabsModel" "eAhead" "[J") (List.mem_of_getElem? (i := 5) rfl)) (fun _ h9 => h9) rfl dX6_records_133 ?_
                refine lv_iload_n hx hb dX6_records_136 rfl (lv_at hl 0 rfl) ?_
                refine va_lald hx hb hK hP 4 1 rfl rfl (in_of e1 (by omega) (by decide)) dX6_records_137 ?_
                refine lv_tpl (congrArg (fun z => ea z) (cl_of e1 (by omega))) ?_
                refine va_last hx hb hK hP hD hS 8 1 rfl rfl (vp_in_nI (by omega) (by decide)) dX6_records_138 (fun H locs hP hD hS => ?_)
                rw [nI_clamp (show 12 * m1 + i < 2 ^ 31 by omega)] at hP hD
                have hP : va_P D vwCl (moW T b (upd v 1 (nI m1)) sA eA ia ea ik ek (cpA ib1 ia (43 * m1) 43) (vp_updL (cpA eb1 ea (12 * m1) i) (12 * m1 + i) (ea i)) tx) H := hP
                have hD : va_D A (moW T b (upd v 1 (nI m1)) sA eA ia ea ik ek (cpA ib1 ia (43 * m1) 43) (vp_updL (cpA eb1 ea (12 * m1) i) (12 * m1 + i) (ea i)) tx) := hD
                rw [cpA_sL eb1 ea (12 * m1) i] at hP hD
                have hP : va_P D vwCl (moW T b (upd v 1 (nI m1)) sA eA ia ea ik ek (cpA ib1 ia (43 * m1) 43) (cpA eb1 ea (12 * m1) (i + 1)) tx) H := hP
                have hD : va_D A (moW T b (upd v 1 (nI m1)) sA eA ia ea ik ek (cpA ib1 ia (43 * m1) 43) (cpA eb1 ea (12 * m1) (i + 1)) tx) := hD
                obtain ⟨y_, ey_⟩ : ∃ y : Int32, y = x + 1 := ⟨_, rfl⟩
                refine lv_iinc (v := y_) (lv' := [(1, .int y_), (0, .ref (b 0))]) hx hb dX6_records_139 hl (k := 0) rfl (by rw [ey_]; rfl) (by decide) rfl (fun ls hl => ?_)
                refine lv_goto (tgt := 113) hx hb dX6_records_142 (by decide) ?_
                exact ih (i + 1) _ ls _ _ (by omega) (by omega) (by rw [ey_, e1, nI_1]) hP hD hS (lv_sub hl [0, 1] rfl)
          exact loop113 13 0 0 ls _ _ (by omega) (Nat.zero_le _) rfl hP hD hS (lv_sub hl [0, 1] rfl)
        · skip
          have hlt : i < 43 := nge_lit e1 hi (by decide) c82
          refine lv_aload_n hx hb dX6_records_85 rfl (lv_at hl 1 rfl) ?_
          refine va_get (D := D) (ci := 6) (v := .ref (b 7)) (C := RX6) (T := TX6) (N := 22) hx hb hts inwX6_records_X6 hown hK hP 0 rfl rfl 7 (by decide) (hts (.fieldLink RX6 29 "PlateSlabsModel" "before" "[I") (List.mem_of_getElem? (i := 2) rfl)) (fun _ h9 => h9) rfl dX6_records_86 ?_
          refine lv_bipush (v := nI 43) hx hb dX6_records_89 (by decide) ?_
          refine lv_aload_n hx hb dX6_records_91 rfl (lv_at hl 1 rfl) ?_
          refine va_get (D := D) (ci := 6) (v := .int (nI m1)) (C := RX6) (T := TX6) (N := 22) hx hb hts inwX6_records_X6 hown hK hP 0 rfl rfl 9 (by decide) (hts (.fieldLink RX6 56 "PlateSlabsModel" "known" "I") (List.mem_of_getElem? (i := 1) rfl)) (fun _ h9 => h9) rfl dX6_records_92 ?_
          refine lv_imul hx hb dX6_records_95 ?_
          refine lv_iload_n hx hb dX6_records_96 rfl (lv_at hl 0 rfl) ?_
          refine lv_iadd hx hb dX6_records_97 ?_
          refine lv_tpi (z := nI (43 * m1 + i)) (by rw [e1, pk_mul, nI_add]) ?_
          refine lv_aload_n hx hb dX6_records_98 rfl (lv_at hl 1 rfl) ?_
          refine va_get (D := D) (ci := 6) (v := .ref (b 3)) (C := RX6) (T := TX6) (N := 22) hx hb hts inwX6_records_X6 hown hK hP 0 rfl rfl 2 (by decide) (hts (.fieldLink RX6 17 "PlateSlabsModel" "ahead" "[I") (List.mem_of_getElem? (i := 4) rfl)) (fun _ h9 => h9) rfl dX6_records_99 ?_
          refine lv_iload_n hx hb dX6_records_102 rfl (lv_at hl 0 rfl) ?_
          refine va_iald hx hb hK hP 3 0 rfl rfl (in_of e1 (by omega) (by decide)) dX6_records_103 ?_
          refine lv_tpi (congrArg (fun z => ia z) (cl_of e1 (by omega))) ?_
          refine va_iast hx hb hK hP hD hS 7 0 rfl rfl (vp_in_nI (by omega) (by decide)) dX6_records_104 (fun H locs hP hD hS => ?_)
          rw [nI_clamp (show 43 * m1 + i < 2 ^ 31 by omega)] at hP hD
          have hP : va_P D vwCl (moW T b (upd v 1 (nI m1)) sA eA ia ea ik ek (upd (cpA ib1 ia (43 * m1) i) (43 * m1 + i) (ia i)) eb1 tx) H := hP
          have hD : va_D A (moW T b (upd v 1 (nI m1)) sA eA ia ea ik ek (upd (cpA ib1 ia (43 * m1) i) (43 * m1 + i) (ia i)) eb1 tx) := hD
          rw [cpA_s ib1 ia (43 * m1) i] at hP hD
          have hP : va_P D vwCl (moW T b (upd v 1 (nI m1)) sA eA ia ea ik ek (cpA ib1 ia (43 * m1) (i + 1)) eb1 tx) H := hP
          have hD : va_D A (moW T b (upd v 1 (nI m1)) sA eA ia ea ik ek (cpA ib1 ia (43 * m1) (i + 1)) eb1 tx) := hD
          obtain ⟨y_, ey_⟩ : ∃ y : Int32, y = x + 1 := ⟨_, rfl⟩
          refine lv_iinc (v := y_) (lv' := [(1, .int y_), (0, .ref (b 0))]) hx hb dX6_records_105 hl (k := 0) rfl (by rw [ey_]; rfl) (by decide) rfl (fun ls hl => ?_)
          refine lv_goto (tgt := 79) hx hb dX6_records_108 (by decide) ?_
          exact ih (i + 1) _ ls _ _ (by omega) (by omega) (by rw [ey_, e1, nI_1]) hP hD hS (lv_sub hl [0, 1] rfl)
    exact loop79 44 0 0 ls _ _ (by omega) (Nat.zero_le _) rfl hP hD hS (lv_sub hl [0, 1] rfl)
  refine lv_icmp_ne (tgt := 77) hx hb dX6_records_5 (by decide) (fun c5 => ?_) (fun c5 => ?_)
  · skip
    have hn4 : ¬ n = 4 := by
      intro z
      rw [hv, z] at c5
      exact c5 rfl
    have hvu : upd v 1 (nI n) = v := by rw [← hv, upd_id]
    exact hJ77 n ib eb ls _ _ (by omega) (by rw [if_neg hn4]) (by rw [if_neg hn4]) (by rw [if_neg hn4]) (by rw [hvu]; exact hP) (by rw [hvu]; exact hD) hS (lv_sub hl [0] rfl)
  · skip
    have hn4 : n = 4 := by
      rw [hv] at c5
      exact (nI_eq (by omega) (by decide)).mp c5
    refine lv_iconst (v := 0) hx hb dX6_records_8 (by decide) ?_
    refine lv_istore_n (lv' := [(1, .int 0), (0, .ref (b 0))]) hx hb dX6_records_9 rfl hl (by decide) rfl (fun ls hl => ?_)
    have hP : va_P D vwCl (moW T b v sA eA ia ea ik ek (cpA ib (fun j => ib (43 + j)) 0 0) eb tx) H := by rw [cpA_0]; exact hP
    have hD : va_D A (moW T b v sA eA ia ea ik ek (cpA ib (fun j => ib (43 + j)) 0 0) eb tx) := by rw [cpA_0]; exact hD
    have loop10 : ∀ (j : Nat) (i : Nat) (x : Int32) (ls : Array Slot) (H : Heap) (locs : List Loc), (130 ≤ i + j) → (i ≤ 129) → (x = nI i) → va_P D vwCl (moW T b v sA eA ia ea ik ek (cpA ib (fun j => ib (43 + j)) 0 i) eb tx) H → va_D A (moW T b v sA eA ia ea ik ek (cpA ib (fun j => ib (43 + j)) 0 i) eb tx) → va_S A s.heap H locs → lv_has ls 2 [(1, .int x), (0, .ref (b 0))] → W p_ l e rmX6_records s m args below meth c H locs 0 0 Q (F0 m 10 ls []) := by
      intro j
      induction j with
      | zero => intro i x ls H locs hm hi; exact absurd hm (by omega)
      | succ j ih =>
        intro i x ls H locs hm hi e1 hP hD hS hl
        refine lv_iload_n hx hb dX6_records_10 rfl (lv_at hl 0 rfl) ?_
        refine lv_sipush (v := 129) hx hb dX6_records_11 (by decide) ?_
        refine lv_icmp_ge (tgt := 38) hx hb dX6_records_14 (by decide) (fun c14 => ?_) (fun c14 => ?_)
        · skip
          have ei : i = 129 := ge_lit e1 hi (by decide) c14
          rw [ei] at hP hD
          refine lv_iconst (v := 0) hx hb dX6_records_38 (by decide) ?_
          refine lv_istore_n (lv' := [(1, .int 0), (0, .ref (b 0))]) hx hb dX6_records_39 rfl hl (by decide) rfl (fun ls hl => ?_)
          have hP : va_P D vwCl (moW T b v sA eA ia ea ik ek (cpA ib (fun j => ib (43 + j)) 0 129) (cpA eb (fun j => eb (12 + j)) 0 0) tx) H := by rw [cpA_0]; exact hP
          have hD : va_D A (moW T b v sA eA ia ea ik ek (cpA ib (fun j => ib (43 + j)) 0 129) (cpA eb (fun j => eb (12 + j)) 0 0) tx) := by rw [cpA_0]; exact hD
          have loop40 : ∀ (j : Nat) (i : Nat) (x : Int32) (ls : Array Slot) (H : Heap) (locs : List Loc), (37 ≤ i + j) → (i ≤ 36) → (x = nI i) → va_P D vwCl (moW T b v sA eA ia ea ik ek (cpA ib (fun j => ib (43 + j)) 0 129) (cpA eb (fun j => eb (12 + j)) 0 i) tx) H → va_D A (moW T b v sA eA ia ea ik ek (cpA ib (fun j => ib (43 + j)) 0 129) (cpA eb (fun j => eb (12 + j)) 0 i) tx) → va_S A s.heap H locs → lv_has ls 2 [(1, .int x), (0, .ref (b 0))] → W p_ l e rmX6_records s m args below meth c H locs 0 0 Q (F0 m 40 ls []) := by
            intro j
            induction j with
            | zero => intro i x ls H locs hm hi; exact absurd hm (by omega)
            | succ j ih =>
              intro i x ls H locs hm hi e1 hP hD hS hl
              refine lv_iload_n hx hb dX6_records_40 rfl (lv_at hl 0 rfl) ?_
              refine lv_bipush (v := 36) hx hb dX6_records_41 (by decide) ?_
              refine lv_icmp_ge (tgt := 67) hx hb dX6_records_43 (by decide) (fun c43 => ?_) (fun c43 => ?_)
              · skip
                have ei : i = 36 := ge_lit e1 hi (by decide) c43
                rw [ei] at hP hD
                refine lv_aload_n hx hb dX6_records_67 rfl (lv_at hl 1 rfl) ?_
                refine lv_dup hx hb dX6_records_68 rfl ?_
                refine va_get (D := D) (ci := 6) (v := .int (v 1)) (C := RX6) (T := TX6) (N := 22) hx hb hts inwX6_records_X6 hown hK hP 0 rfl rfl 9 (by decide) (hts (.fieldLink RX6 56 "PlateSlabsModel" "known" "I") (List.mem_of_getElem? (i := 1) rfl)) (fun _ h9 => h9) rfl dX6_records_69 ?_
                refine lv_iconst (v := 1) hx hb dX6_records_72 (by decide) ?_
                refine lv_isub hx hb dX6_records_73 ?_
                refine lv_topi (fun x7_ ex7_ => ?_)
                refine va_put (D := D) (ci := 6) (v := .int x7_) (C := RX6) (T := TX6) (N := 22) hx hb hts inwX6_records_X6 tyX6 tyX6_ok nmX6 hown hK hP hD hS 0 rfl rfl 9 (by decide) (hts (.fieldLink RX6 56 "PlateSlabsModel" "known" "I") (List.mem_of_getElem? (i := 1) rfl)) (fun _ h9 => h9) rfl (tyX6_ok 9 (by decide)) (rfl) rfl (Nat.le_of_ble_eq_true rfl) dX6_records_74 (fun H locs hP hD hS => ?_)
                have hP : va_P D vwCl (moW T b (upd v 1 x7_) sA eA ia ea ik ek (cpA ib (fun j => ib (43 + j)) 0 129) (cpA eb (fun j => eb (12 + j)) 0 36) tx) H := hP
                have hD : va_D A (moW T b (upd v 1 x7_) sA eA ia ea ik ek (cpA ib (fun j => ib (43 + j)) 0 129) (cpA eb (fun j => eb (12 + j)) 0 36) tx) := hD
                have hx3 : x7_ = nI 3 := by rw [ex7_, c5]; decide
                exact hJ77 3 _ _ ls _ _ (by omega) (by rw [if_pos hn4]) (by rw [if_pos hn4]) (by rw [if_pos hn4]) (by rw [← hx3]; exact hP) (by rw [← hx3]; exact hD) hS (lv_sub hl [1] rfl)
              · skip
                have hlt : i < 36 := nge_lit e1 hi (by decide) c43
                refine lv_aload_n hx hb dX6_records_46 rfl (lv_at hl 1 rfl) ?_
                refine va_get (D := D) (ci := 6) (v := .ref (b 8)) (C := RX6) (T := TX6) (N := 22) hx hb hts inwX6_records_X6 hown hK hP 0 rfl rfl 8 (by decide) (hts (.fieldLink RX6 32 "PlateSlabsModel" "eBefore" "[J") (List.mem_of_getElem? (i := 3) rfl)) (fun _ h9 => h9) rfl dX6_records_47 ?_
                refine lv_iload_n hx hb dX6_records_50 rfl (lv_at hl 0 rfl) ?_
                refine lv_aload_n hx hb dX6_records_51 rfl (lv_at hl 1 rfl) ?_
                refine va_get (D := D) (ci := 6) (v := .ref (b 8)) (C := RX6) (T := TX6) (N := 22) hx hb hts inwX6_records_X6 hown hK hP 0 rfl rfl 8 (by decide) (hts (.fieldLink RX6 32 "PlateSlabsModel" "eBefore" "[J") (List.mem_of_getElem? (i := 3) rfl)) (fun _ h9 => h9) rfl dX6_records_52 ?_
                refine lv_bipush (v := nI 12) hx hb dX6_records_55 (by decide) ?_
                refine lv_iload_n hx hb dX6_records_57 rfl (lv_at hl 0 rfl) ?_
                refine lv_iadd hx hb dX6_records_58 ?_
                refine lv_tpi (z := nI (12 + i)) (by rw [e1, nI_add]) ?_
                refine va_lald hx hb hK hP 8 1 rfl rfl (vp_in_nI (by omega) (by decide)) dX6_records_59 ?_
                refine lv_tpl (congrArg (fun z => (cpA eb (fun j => eb (12 + j)) 0 i) z) (nI_clamp (by omega))) ?_
                refine lv_tpl (z := (fun j => eb (12 + j)) i) (cpA_out (by omega)) ?_
                refine va_last hx hb hK hP hD hS 8 1 rfl rfl (in_of e1 (by omega) (by decide)) dX6_records_60 (fun H locs hP hD hS => ?_)
                rw [show Int32.toNatClampNeg x = i from cl_of e1 (by omega)] at hP hD
                have hP : va_P D vwCl (moW T b v sA eA ia ea ik ek (cpA ib (fun j => ib (43 + j)) 0 129) (vp_updL (cpA eb (fun j => eb (12 + j)) 0 i) i ((fun j => eb (12 + j)) i)) tx) H := hP
                have hD : va_D A (moW T b v sA eA ia ea ik ek (cpA ib (fun j => ib (43 + j)) 0 129) (vp_updL (cpA eb (fun j => eb (12 + j)) 0 i) i ((fun j => eb (12 + j)) i)) tx) := hD
                rw [cpA_sL0 eb (fun j => eb (12 + j)) i] at hP hD
                have hP : va_P D vwCl (moW T b v sA eA ia ea ik ek (cpA ib (fun j => ib (43 + j)) 0 129) (cpA eb (fun j => eb (12 + j)) 0 (i + 1)) tx) H := hP
                have hD : va_D A (moW T b v sA eA ia ea ik ek (cpA ib (fun j => ib (43 + j)) 0 129) (cpA eb (fun j => eb (12 + j)) 0 (i + 1)) tx) := hD
                obtain ⟨y_, ey_⟩ : ∃ y : Int32, y = x + 1 := ⟨_, rfl⟩
                refine lv_iinc (v := y_) (lv' := [(1, .int y_), (0, .ref (b 0))]) hx hb dX6_records_61 hl (k := 0) rfl (by rw [ey_]; rfl) (by decide) rfl (fun ls hl => ?_)
                refine lv_goto (tgt := 40) hx hb dX6_records_64 (by decide) ?_
                exact ih (i + 1) _ ls _ _ (by omega) (by omega) (by rw [ey_, e1, nI_1]) hP hD hS (lv_sub hl [0, 1] rfl)
          exact loop40 37 0 0 ls _ _ (by omega) (Nat.zero_le _) rfl hP hD hS (lv_sub hl [0, 1] rfl)
        · skip
          have hlt : i < 129 := nge_lit e1 hi (by decide) c14
          refine lv_aload_n hx hb dX6_records_17 rfl (lv_at hl 1 rfl) ?_
          refine va_get (D := D) (ci := 6) (v := .ref (b 7)) (C := RX6) (T := TX6) (N := 22) hx hb hts inwX6_records_X6 hown hK hP 0 rfl rfl 7 (by decide) (hts (.fieldLink RX6 29 "PlateSlabsModel" "before" "[I") (List.mem_of_getElem? (i := 2) rfl)) (fun _ h9 => h9) rfl dX6_records_18 ?_
          refine lv_iload_n hx hb dX6_records_21 rfl (lv_at hl 0 rfl) ?_
          refine lv_aload_n hx hb dX6_records_22 rfl (lv_at hl 1 rfl) ?_
          refine va_get (D := D) (ci := 6) (v := .ref (b 7)) (C := RX6) (T := TX6) (N := 22) hx hb hts inwX6_records_X6 hown hK hP 0 rfl rfl 7 (by decide) (hts (.fieldLink RX6 29 "PlateSlabsModel" "before" "[I") (List.mem_of_getElem? (i := 2) rfl)) (fun _ h9 => h9) rfl dX6_records_23 ?_
          refine lv_bipush (v := nI 43) hx hb dX6_records_26 (by decide) ?_
          refine lv_iload_n hx hb dX6_records_28 rfl (lv_at hl 0 rfl) ?_
          refine lv_iadd hx hb dX6_records_29 ?_
          refine lv_tpi (z := nI (43 + i)) (by rw [e1, nI_add]) ?_
          refine va_iald hx hb hK hP 7 0 rfl rfl (vp_in_nI (by omega) (by decide)) dX6_records_30 ?_
          refine lv_tpi (congrArg (fun z => (cpA ib (fun j => ib (43 + j)) 0 i) z) (nI_clamp (by omega))) ?_
          refine lv_tpi (z := (fun j => ib (43 + j)) i) (cpA_out (by omega)) ?_
          refine va_iast hx hb hK hP hD hS 7 0 rfl rfl (in_of e1 (by omega) (by decide)) dX6_records_31 (fun H locs hP hD hS => ?_)
          rw [show Int32.toNatClampNeg x = i from cl_of e1 (by omega)] at hP hD
          have hP : va_P D vwCl (moW T b v sA eA ia ea ik ek (upd (cpA ib (fun j => ib (43 + j)) 0 i) i ((fun j => ib (43 + j)) i)) eb tx) H := hP
          have hD : va_D A (moW T b v sA eA ia ea ik ek (upd (cpA ib (fun j => ib (43 + j)) 0 i) i ((fun j => ib (43 + j)) i)) eb tx) := hD
          rw [cpA_s0 ib (fun j => ib (43 + j)) i] at hP hD
          have hP : va_P D vwCl (moW T b v sA eA ia ea ik ek (cpA ib (fun j => ib (43 + j)) 0 (i + 1)) eb tx) H := hP
          have hD : va_D A (moW T b v sA eA ia ea ik ek (cpA ib (fun j => ib (43 + j)) 0 (i + 1)) eb tx) := hD
          obtain ⟨y_, ey_⟩ : ∃ y : Int32, y = x + 1 := ⟨_, rfl⟩
          refine lv_iinc (v := y_) (lv' := [(1, .int y_), (0, .ref (b 0))]) hx hb dX6_records_32 hl (k := 0) rfl (by rw [ey_]; rfl) (by decide) rfl (fun ls hl => ?_)
          refine lv_goto (tgt := 10) hx hb dX6_records_35 (by decide) ?_
          exact ih (i + 1) _ ls _ _ (by omega) (by omega) (by rw [ey_, e1, nI_1]) hP hD hS (lv_sub hl [0, 1] rfl)
    exact loop10 130 0 0 ls _ _ (by omega) (Nat.zero_le _) rfl hP hD hS (lv_sub hl [0, 1] rfl)

def rmX6_undo : Room := { frames := 0, cells := 0, slots := 0, locals := 0 }
set_option maxHeartbeats 4000000 in
set_option maxRecDepth 100000 in
theorem mX6_undo (l : Launch) (T : Nat → ClassId) (D : va_G) (b : Nat → Nat) (v : Nat → Int32) (sA : Nat → Int32) (eA : Nat → Int64) (ia : Nat → Int32) (ea : Nat → Int64) (ik : Nat → Int32) (ek : Nat → Int64) (ib : Nat → Int32) (eb : Nat → Int64) (tx : Nat → Int32) (n : Nat) (hn : n ≤ 4) (hv : v 1 = nI n) : MuI l yX6_undo wsX6_undo rmX6_undo T xN D [.ref (b 0)] (moW T b v sA eA ia ea ik ek ib eb tx) (S := MW) (fun r u => (n = 0 ∧ r = -5 ∧ u = (v, sA, eA, ia, ea, ik, ek, ib, eb, tx)) ∨ (0 < n ∧ r = nI (n - 1) ∧ u = (upd v 1 (nI (n - 1)), (fun j => ib (43 * (n - 1) + j)), (fun j => eb (12 * (n - 1) + j)), ia, ea, ik, ek, ib, eb, tx))) (fun u => moU T b u) 0 0 := by
  refine met_mi (cc := cX6_undo) (maxL := 2) (by decide) rfl (Nat.le_of_ble_eq_true rfl) ?_
  intro p_ e s m args below meth c ls A Q hx hb hts hown hml hX hP hD hK hS hA hl hret
  have hl : lv_has ls 2 [(0, .ref (b 0))] := hl
  obtain ⟨H, hH⟩ : ∃ H, H = s.heap := ⟨_, rfl⟩
  have hS : va_S A s.heap H [] := by rw [hH]; exact hS
  rw [← hH] at hP ⊢
  refine lv_aload_n hx hb dX6_undo_0 rfl (lv_at hl 0 rfl) ?_
  refine va_get (D := D) (ci := 6) (v := .int (v 1)) (C := RX6) (T := TX6) (N := 22) hx hb hts inwX6_undo_X6 hown hK hP 0 rfl rfl 9 (by decide) (hts (.fieldLink RX6 56 "PlateSlabsModel" "known" "I") (List.mem_of_getElem? (i := 1) rfl)) (fun _ h9 => h9) rfl dX6_undo_1 ?_
  refine lv_if_ne (tgt := 10) hx hb dX6_undo_4 (by decide) (fun c4 => ?_) (fun c4 => ?_)
  · skip
    have hn0 : 0 < n := by
      rcases Nat.eq_zero_or_pos n with z | z
      · rw [hv, z] at c4
        exact absurd rfl c4
      · exact z
    refine lv_aload_n hx hb dX6_undo_10 rfl (lv_at hl 0 rfl) ?_
    refine lv_dup hx hb dX6_undo_11 rfl ?_
    refine va_get (D := D) (ci := 6) (v := .int (v 1)) (C := RX6) (T := TX6) (N := 22) hx hb hts inwX6_undo_X6 hown hK hP 0 rfl rfl 9 (by decide) (hts (.fieldLink RX6 56 "PlateSlabsModel" "known" "I") (List.mem_of_getElem? (i := 1) rfl)) (fun _ h9 => h9) rfl dX6_undo_12 ?_
    refine lv_iconst (v := nI 1) hx hb dX6_undo_15 (by decide) ?_
    refine lv_isub hx hb dX6_undo_16 ?_
    refine lv_tpi (z := nI (n - 1)) (by rw [hv]; exact pk_sub hn0) ?_
    refine va_put (D := D) (ci := 6) (v := .int (nI (n - 1))) (C := RX6) (T := TX6) (N := 22) hx hb hts inwX6_undo_X6 tyX6 tyX6_ok nmX6 hown hK hP hD hS 0 rfl rfl 9 (by decide) (hts (.fieldLink RX6 56 "PlateSlabsModel" "known" "I") (List.mem_of_getElem? (i := 1) rfl)) (fun _ h9 => h9) rfl (tyX6_ok 9 (by decide)) (rfl) rfl (Nat.le_of_ble_eq_true rfl) dX6_undo_17 (fun H locs hP hD hS => ?_)
    have hP : va_P D vwCl (moW T b (upd v 1 (nI (n - 1))) sA eA ia ea ik ek ib eb tx) H := hP
    have hD : va_D A (moW T b (upd v 1 (nI (n - 1))) sA eA ia ea ik ek ib eb tx) := hD
    refine lv_iconst (v := 0) hx hb dX6_undo_20 (by decide) ?_
    refine lv_istore_n (lv' := [(1, .int 0), (0, .ref (b 0))]) hx hb dX6_undo_21 rfl hl (by decide) rfl (fun ls hl => ?_)
    have hP : va_P D vwCl (moW T b (upd v 1 (nI (n - 1))) (cpA sA (fun j => ib (43 * (n - 1) + j)) 0 0) eA ia ea ik ek ib eb tx) H := by rw [cpA_0]; exact hP
    have hD : va_D A (moW T b (upd v 1 (nI (n - 1))) (cpA sA (fun j => ib (43 * (n - 1) + j)) 0 0) eA ia ea ik ek ib eb tx) := by rw [cpA_0]; exact hD
    have loop22 : ∀ (j : Nat) (i : Nat) (x : Int32) (ls : Array Slot) (H : Heap) (locs : List Loc), (44 ≤ i + j) → (i ≤ 43) → (x = nI i) → va_P D vwCl (moW T b (upd v 1 (nI (n - 1))) (cpA sA (fun j => ib (43 * (n - 1) + j)) 0 i) eA ia ea ik ek ib eb tx) H → va_D A (moW T b (upd v 1 (nI (n - 1))) (cpA sA (fun j => ib (43 * (n - 1) + j)) 0 i) eA ia ea ik ek ib eb tx) → va_S A s.heap H locs → lv_has ls 2 [(1, .int x), (0, .ref (b 0))] → W p_ l e rmX6_undo s m args below meth c H locs 0 0 Q (F0 m 22 ls []) := by
      intro j
      induction j with
      | zero => intro i x ls H locs hm hi; exact absurd hm (by omega)
      | succ j ih =>
        intro i x ls H locs hm hi e1 hP hD hS hl
        refine lv_iload_n hx hb dX6_undo_22 rfl (lv_at hl 0 rfl) ?_
        refine lv_bipush (v := 43) hx hb dX6_undo_23 (by decide) ?_
        refine lv_icmp_ge (tgt := 54) hx hb dX6_undo_25 (by decide) (fun c25 => ?_) (fun c25 => ?_)
        · skip
          have ei : i = 43 := ge_lit e1 hi (by decide) c25
          rw [ei] at hP hD
          have hP : va_P D vwCl (moW T b (upd v 1 (nI (n - 1))) (fun j => ib (43 * (n - 1) + j)) eA ia ea ik ek ib eb tx) H := wP_re hP 1 rfl (at_i (fun j hj => cpA_al hj))
          have hD : va_D A (moW T b (upd v 1 (nI (n - 1))) (fun j => ib (43 * (n - 1) + j)) eA ia ea ik ek ib eb tx) := wD_ad hD rfl
          refine lv_iconst (v := 0) hx hb dX6_undo_54 (by decide) ?_
          refine lv_istore_n (lv' := [(1, .int 0), (0, .ref (b 0))]) hx hb dX6_undo_55 rfl hl (by decide) rfl (fun ls hl => ?_)
          have hP : va_P D vwCl (moW T b (upd v 1 (nI (n - 1))) (fun j => ib (43 * (n - 1) + j)) (cpA eA (fun j => eb (12 * (n - 1) + j)) 0 0) ia ea ik ek ib eb tx) H := by rw [cpA_0]; exact hP
          have hD : va_D A (moW T b (upd v 1 (nI (n - 1))) (fun j => ib (43 * (n - 1) + j)) (cpA eA (fun j => eb (12 * (n - 1) + j)) 0 0) ia ea ik ek ib eb tx) := by rw [cpA_0]; exact hD
          have loop56 : ∀ (j : Nat) (i : Nat) (x : Int32) (ls : Array Slot) (H : Heap) (locs : List Loc), (13 ≤ i + j) → (i ≤ 12) → (x = nI i) → va_P D vwCl (moW T b (upd v 1 (nI (n - 1))) (fun j => ib (43 * (n - 1) + j)) (cpA eA (fun j => eb (12 * (n - 1) + j)) 0 i) ia ea ik ek ib eb tx) H → va_D A (moW T b (upd v 1 (nI (n - 1))) (fun j => ib (43 * (n - 1) + j)) (cpA eA (fun j => eb (12 * (n - 1) + j)) 0 i) ia ea ik ek ib eb tx) → va_S A s.heap H locs → lv_has ls 2 [(1, .int x), (0, .ref (b 0))] → W p_ l e rmX6_undo s m args below meth c H locs 0 0 Q (F0 m 56 ls []) := by
            intro j
            induction j with
            | zero => intro i x ls H locs hm hi; exact absurd hm (by omega)
            | succ j ih =>
              intro i x ls H locs hm hi e1 hP hD hS hl
              refine lv_iload_n hx hb dX6_undo_56 rfl (lv_at hl 0 rfl) ?_
              refine lv_bipush (v := 12) hx hb dX6_undo_57 (by decide) ?_
              refine lv_icmp_ge (tgt := 88) hx hb dX6_undo_59 (by decide) (fun c59 => ?_) (fun c59 => ?_)
              · skip
                have ei : i = 12 := ge_lit e1 hi (by decide) c59
                rw [ei] at hP hD
                have hP : va_P D vwCl (moW T b (upd v 1 (nI (n - 1))) (fun j => ib (43 * (n - 1) + j)) (fun j => eb (12 * (n - 1) + j)) ia ea ik ek ib eb tx) H := wP_re hP 2 rfl (at_l (fun j hj => cpA_al hj))
                have hD : va_D A (moW T b (upd v 1 (nI (n - 1))) (fun j => ib (43 * (n - 1) + j)) (fun j => eb (12 * (n - 1) + j)) ia ea ik ek ib eb tx) := wD_ad hD rfl
                refine lv_aload_n hx hb dX6_undo_88 rfl (lv_at hl 1 rfl) ?_
                refine va_get (D := D) (ci := 6) (v := .int (nI (n - 1))) (C := RX6) (T := TX6) (N := 22) hx hb hts inwX6_undo_X6 hown hK hP 0 rfl rfl 9 (by decide) (hts (.fieldLink RX6 56 "PlateSlabsModel" "known" "I") (List.mem_of_getElem? (i := 1) rfl)) (fun _ h9 => h9) rfl dX6_undo_89 ?_
                exact hret _ _ _ (upd v 1 (nI (n - 1)), (fun j => ib (43 * (n - 1) + j)), (fun j => eb (12 * (n - 1) + j)), ia, ea, ik, ek, ib, eb, tx) _ _ dX6_undo_92 hS hP hD (Or.inr ⟨hn0, rfl, rfl⟩)
              · skip
                have hlt : i < 12 := nge_lit e1 hi (by decide) c59
                refine lv_aload_n hx hb dX6_undo_62 rfl (lv_at hl 1 rfl) ?_
                refine va_get (D := D) (ci := 6) (v := .ref (b 2)) (C := RX6) (T := TX6) (N := 22) hx hb hts inwX6_undo_X6 hown hK hP 0 rfl rfl 1 (by decide) (hts (.fieldLink RX6 13 "PlateSlabsModel" "e" "[J") (List.mem_of_getElem? (i := 4) rfl)) (fun _ h9 => h9) rfl dX6_undo_63 ?_
                refine lv_iload_n hx hb dX6_undo_66 rfl (lv_at hl 0 rfl) ?_
                refine lv_aload_n hx hb dX6_undo_67 rfl (lv_at hl 1 rfl) ?_
                refine va_get (D := D) (ci := 6) (v := .ref (b 8)) (C := RX6) (T := TX6) (N := 22) hx hb hts inwX6_undo_X6 hown hK hP 0 rfl rfl 8 (by decide) (hts (.fieldLink RX6 32 "PlateSlabsModel" "eBefore" "[J") (List.mem_of_getElem? (i := 5) rfl)) (fun _ h9 => h9) rfl dX6_undo_68 ?_
                refine lv_bipush (v := nI 12) hx hb dX6_undo_71 (by decide) ?_
                refine lv_aload_n hx hb dX6_undo_73 rfl (lv_at hl 1 rfl) ?_
                refine va_get (D := D) (ci := 6) (v := .int (nI (n - 1))) (C := RX6) (T := TX6) (N := 22) hx hb hts inwX6_undo_X6 hown hK hP 0 rfl rfl 9 (by decide) (hts (.fieldLink RX6 56 "PlateSlabsModel" "known" "I") (List.mem_of_getElem? (i := 1) rfl)) (fun _ h9 => h9) rfl dX6_undo_74 ?_
                refine lv_imul hx hb dX6_undo_77 ?_
                refine lv_iload_n hx hb dX6_undo_78 rfl (lv_at hl 0 rfl) ?_
                refine lv_iadd hx hb dX6_undo_79 ?_
                refine lv_tpi (z := nI (12 * (n - 1) + i)) (by rw [e1, pk_mul, nI_add]) ?_
                refine va_lald hx hb hK hP 8 1 rfl rfl (vp_in_nI (by omega) (by decide)) dX6_undo_80 ?_
                refine lv_tpl (congrArg (fun z => eb z) (nI_clamp (by omega))) ?_
                refine lv_tpl (z := (fun j => eb (12 * (n - 1) + j)) i) (rfl) ?_
                refine va_last hx hb hK hP hD hS 2 1 rfl rfl (in_of e1 (by omega) (by decide)) dX6_undo_81 (fun H locs hP hD hS => ?_)
                rw [show Int32.toNatClampNeg x = i from cl_of e1 (by omega)] at hP hD
                have hP : va_P D vwCl (moW T b (upd v 1 (nI (n - 1))) (fun j => ib (43 * (n - 1) + j)) (vp_updL (cpA eA (fun j => eb (12 * (n - 1) + j)) 0 i) i ((fun j => eb (12 * (n - 1) + j)) i)) ia ea ik ek ib eb tx) H := hP
                have hD : va_D A (moW T b (upd v 1 (nI (n - 1))) (fun j => ib (43 * (n - 1) + j)) (vp_updL (cpA eA (fun j => eb (12 * (n - 1) + j)) 0 i) i ((fun j => eb (12 * (n - 1) + j)) i)) ia ea ik ek ib eb tx) := hD
                rw [cpA_sL0 eA (fun j => eb (12 * (n - 1) + j)) i] at hP hD
                have hP : va_P D vwCl (moW T b (upd v 1 (nI (n - 1))) (fun j => ib (43 * (n - 1) + j)) (cpA eA (fun j => eb (12 * (n - 1) + j)) 0 (i + 1)) ia ea ik ek ib eb tx) H := hP
                have hD : va_D A (moW T b (upd v 1 (nI (n - 1))) (fun j => ib (43 * (n - 1) + j)) (cpA eA (fun j => eb (12 * (n - 1) + j)) 0 (i + 1)) ia ea ik ek ib eb tx) := hD
                obtain ⟨y_, ey_⟩ : ∃ y : Int32, y = x + 1 := ⟨_, rfl⟩
                refine lv_iinc (v := y_) (lv' := [(1, .int y_), (0, .ref (b 0))]) hx hb dX6_undo_82 hl (k := 0) rfl (by rw [ey_]; rfl) (by decide) rfl (fun ls hl => ?_)
                refine lv_goto (tgt := 56) hx hb dX6_undo_85 (by decide) ?_
                exact ih (i + 1) _ ls _ _ (by omega) (by omega) (by rw [ey_, e1, nI_1]) hP hD hS (lv_sub hl [0, 1] rfl)
          exact loop56 13 0 0 ls _ _ (by omega) (Nat.zero_le _) rfl hP hD hS (lv_sub hl [0, 1] rfl)
        · skip
          have hlt : i < 43 := nge_lit e1 hi (by decide) c25
          refine lv_aload_n hx hb dX6_undo_28 rfl (lv_at hl 1 rfl) ?_
          refine va_get (D := D) (ci := 6) (v := .ref (b 1)) (C := RX6) (T := TX6) (N := 22) hx hb hts inwX6_undo_X6 hown hK hP 0 rfl rfl 0 (by decide) (hts (.fieldLink RX6 7 "PlateSlabsModel" "s" "[I") (List.mem_of_getElem? (i := 2) rfl)) (fun _ h9 => h9) rfl dX6_undo_29 ?_
          refine lv_iload_n hx hb dX6_undo_32 rfl (lv_at hl 0 rfl) ?_
          refine lv_aload_n hx hb dX6_undo_33 rfl (lv_at hl 1 rfl) ?_
          refine va_get (D := D) (ci := 6) (v := .ref (b 7)) (C := RX6) (T := TX6) (N := 22) hx hb hts inwX6_undo_X6 hown hK hP 0 rfl rfl 7 (by decide) (hts (.fieldLink RX6 29 "PlateSlabsModel" "before" "[I") (List.mem_of_getElem? (i := 3) rfl)) (fun _ h9 => h9) rfl dX6_undo_34 ?_
          refine lv_bipush (v := nI 43) hx hb dX6_undo_37 (by decide) ?_
          refine lv_aload_n hx hb dX6_undo_39 rfl (lv_at hl 1 rfl) ?_
          refine va_get (D := D) (ci := 6) (v := .int (nI (n - 1))) (C := RX6) (T := TX6) (N := 22) hx hb hts inwX6_undo_X6 hown hK hP 0 rfl rfl 9 (by decide) (hts (.fieldLink RX6 56 "PlateSlabsModel" "known" "I") (List.mem_of_getElem? (i := 1) rfl)) (fun _ h9 => h9) rfl dX6_undo_40 ?_
          refine lv_imul hx hb dX6_undo_43 ?_
          refine lv_iload_n hx hb dX6_undo_44 rfl (lv_at hl 0 rfl) ?_
          refine lv_iadd hx hb dX6_undo_45 ?_
          refine lv_tpi (z := nI (43 * (n - 1) + i)) (by rw [e1, pk_mul, nI_add]) ?_
          refine va_iald hx hb hK hP 7 0 rfl rfl (vp_in_nI (by omega) (by decide)) dX6_undo_46 ?_
          refine lv_tpi (congrArg (fun z => ib z) (nI_clamp (by omega))) ?_
          refine lv_tpi (z := (fun j => ib (43 * (n - 1) + j)) i) (rfl) ?_
          refine va_iast hx hb hK hP hD hS 1 0 rfl rfl (in_of e1 (by omega) (by decide)) dX6_undo_47 (fun H locs hP hD hS => ?_)
          rw [show Int32.toNatClampNeg x = i from cl_of e1 (by omega)] at hP hD
          have hP : va_P D vwCl (moW T b (upd v 1 (nI (n - 1))) (upd (cpA sA (fun j => ib (43 * (n - 1) + j)) 0 i) i ((fun j => ib (43 * (n - 1) + j)) i)) eA ia ea ik ek ib eb tx) H := hP
          have hD : va_D A (moW T b (upd v 1 (nI (n - 1))) (upd (cpA sA (fun j => ib (43 * (n - 1) + j)) 0 i) i ((fun j => ib (43 * (n - 1) + j)) i)) eA ia ea ik ek ib eb tx) := hD
          rw [cpA_s0 sA (fun j => ib (43 * (n - 1) + j)) i] at hP hD
          have hP : va_P D vwCl (moW T b (upd v 1 (nI (n - 1))) (cpA sA (fun j => ib (43 * (n - 1) + j)) 0 (i + 1)) eA ia ea ik ek ib eb tx) H := hP
          have hD : va_D A (moW T b (upd v 1 (nI (n - 1))) (cpA sA (fun j => ib (43 * (n - 1) + j)) 0 (i + 1)) eA ia ea ik ek ib eb tx) := hD
          obtain ⟨y_, ey_⟩ : ∃ y : Int32, y = x + 1 := ⟨_, rfl⟩
          refine lv_iinc (v := y_) (lv' := [(1, .int y_), (0, .ref (b 0))]) hx hb dX6_undo_48 hl (k := 0) rfl (by rw [ey_]; rfl) (by decide) rfl (fun ls hl => ?_)
          refine lv_goto (tgt := 22) hx hb dX6_undo_51 (by decide) ?_
          exact ih (i + 1) _ ls _ _ (by omega) (by omega) (by rw [ey_, e1, nI_1]) hP hD hS (lv_sub hl [0, 1] rfl)
    exact loop22 44 0 0 ls _ _ (by omega) (Nat.zero_le _) rfl hP hD hS (lv_sub hl [0, 1] rfl)
  · skip
    have hn0 : n = 0 := by
      rw [hv] at c4
      exact (nI_eq (by omega) (by decide)).mp c4
    refine lv_bipush (v := (-5)) hx hb dX6_undo_7 (by decide) ?_
    exact hret _ _ _ (v, sA, eA, ia, ea, ik, ek, ib, eb, tx) _ _ dX6_undo_9 hS hP hD (Or.inl ⟨hn0, rfl, rfl⟩)

def rmX6_restore : Room := { frames := 1, cells := 0, slots := 0, locals := 21 }
set_option maxHeartbeats 4000000 in
set_option maxRecDepth 100000 in
theorem mX6_restore (l : Launch) (T : Nat → ClassId) (D : va_G) (b : Nat → Nat) (v : Nat → Int32) (sA : Nat → Int32) (eA : Nat → Int64) (ia : Nat → Int32) (ea : Nat → Int64) (ik : Nat → Int32) (ek : Nat → Int64) (ib : Nat → Int32) (eb : Nat → Int64) (tx : Nat → Int32) (n : Nat) (hn : n ≤ 4) (hv : v 1 = nI n) : MuI l yX6_restore wsX6_restore rmX6_restore T xN D [.ref (b 0)] (moW T b v sA eA ia ea ik ek ib eb tx) (S := MW) (fun r u => (v 0 = 0 ∧ r = -5 ∧ u = (v, sA, eA, ia, ea, ik, ek, ib, eb, tx)) ∨ (¬ v 0 = 0 ∧ r = ik 0 ∧ u = (upd v 1 (nI (rcN n)), ik, ek, sA, eA, ik, ek, rcI n ib sA, rcE n eb eA, tx))) (fun u => moU T b u) 0 0 := by
  refine met_mi (cc := cX6_restore) (maxL := 2) (by decide) rfl (Nat.le_of_ble_eq_true rfl) ?_
  intro p_ e s m args below meth c ls A Q hx hb hts hown hml hX hP hD hK hS hA hl hret
  have hl : lv_has ls 2 [(0, .ref (b 0))] := hl
  obtain ⟨H, hH⟩ : ∃ H, H = s.heap := ⟨_, rfl⟩
  have hS : va_S A s.heap H [] := by rw [hH]; exact hS
  rw [← hH] at hP ⊢
  refine lv_aload_n hx hb dX6_restore_0 rfl (lv_at hl 0 rfl) ?_
  refine va_get (D := D) (ci := 6) (v := .int (v 0)) (C := RX6) (T := TX6) (N := 22) hx hb hts inwX6_restore_X6 hown hK hP 0 rfl rfl 6 (by decide) (hts (.fieldLink RX6 195 "PlateSlabsModel" "isKept" "Z") (List.mem_of_getElem? (i := 1) rfl)) (fun _ h9 => h9) rfl dX6_restore_1 ?_
  refine lv_if_ne (tgt := 10) hx hb dX6_restore_4 (by decide) (fun c4 => ?_) (fun c4 => ?_)
  · skip
    refine lv_aload_n hx hb dX6_restore_10 rfl (lv_at hl 0 rfl) ?_
    refine callMv (As := []) (wr := []) ⟨hx, hb, hml, hown, hts⟩ (mX6_looks l T D b v sA eA ia ea ik ek ib eb tx ) (cwV 0 hts gX6_restore_X6_looks rfl rfl rfl pdX6_looks ⟨Nat.le_of_ble_eq_true rfl, Nat.le_of_ble_eq_true rfl⟩) hP hD hK hS hA xN_bl (fun U _ hW => XN_warm hW hX) (ci := 6) rfl rfl rfl hl.1 rfl rfl (Nat.le_of_ble_eq_true rfl) dX6_restore_11 ⟨Nat.zero_le _, Nat.zero_le _⟩ (fun u2_ H locs eu2_ hP hD hS hkf => ?_)
    have hP : va_P D vwCl (moW T b v sA eA sA eA ik ek ib eb tx) H := hP
    have hD : va_D A (moW T b v sA eA sA eA ik ek ib eb tx) := hD
    refine lv_aload_n hx hb dX6_restore_14 rfl (lv_at hl 0 rfl) ?_
    refine callMv (As := []) (wr := []) ⟨hx, hb, hml, hown, hts⟩ (mX6_records l T D b v sA eA sA eA ik ek ib eb tx n hn hv) (cwV 0 hts gX6_restore_X6_records rfl rfl rfl pdX6_records ⟨Nat.le_of_ble_eq_true rfl, Nat.le_of_ble_eq_true rfl⟩) hP hD hK hS hA xN_bl (fun U _ hW => XN_warm hW hX) (ci := 6) rfl rfl rfl hl.1 rfl rfl (Nat.le_of_ble_eq_true rfl) dX6_restore_15 ⟨Nat.zero_le _, Nat.zero_le _⟩ (fun u4_ H locs eu4_ hP hD hS hkf => ?_)
    have hP : va_P D vwCl (moW T b (upd v 1 (nI (rcN n))) sA eA sA eA ik ek (rcI n ib sA) (rcE n eb eA) tx) H := hP
    have hD : va_D A (moW T b (upd v 1 (nI (rcN n))) sA eA sA eA ik ek (rcI n ib sA) (rcE n eb eA) tx) := hD
    refine lv_iconst (v := 0) hx hb dX6_restore_18 (by decide) ?_
    refine lv_istore_n (lv' := [(1, .int 0), (0, .ref (b 0))]) hx hb dX6_restore_19 rfl hl (by decide) rfl (fun ls hl => ?_)
    have hP : va_P D vwCl (moW T b (upd v 1 (nI (rcN n))) (cpA sA ik 0 0) eA sA eA ik ek (rcI n ib sA) (rcE n eb eA) tx) H := by rw [cpA_0]; exact hP
    have hD : va_D A (moW T b (upd v 1 (nI (rcN n))) (cpA sA ik 0 0) eA sA eA ik ek (rcI n ib sA) (rcE n eb eA) tx) := by rw [cpA_0]; exact hD
    have loop20 : ∀ (j : Nat) (i : Nat) (x : Int32) (ls : Array Slot) (H : Heap) (locs : List Loc), (44 ≤ i + j) → (i ≤ 43) → (x = nI i) → va_P D vwCl (moW T b (upd v 1 (nI (rcN n))) (cpA sA ik 0 i) eA sA eA ik ek (rcI n ib sA) (rcE n eb eA) tx) H → va_D A (moW T b (upd v 1 (nI (rcN n))) (cpA sA ik 0 i) eA sA eA ik ek (rcI n ib sA) (rcE n eb eA) tx) → va_S A s.heap H locs → lv_has ls 2 [(1, .int x), (0, .ref (b 0))] → W p_ l e rmX6_restore s m args below meth c H locs 0 0 Q (F0 m 20 ls []) := by
      intro j
      induction j with
      | zero => intro i x ls H locs hm hi; exact absurd hm (by omega)
      | succ j ih =>
        intro i x ls H locs hm hi e1 hP hD hS hl
        refine lv_iload_n hx hb dX6_restore_20 rfl (lv_at hl 0 rfl) ?_
        refine lv_bipush (v := 43) hx hb dX6_restore_21 (by decide) ?_
        refine lv_icmp_ge (tgt := 44) hx hb dX6_restore_23 (by decide) (fun c23 => ?_) (fun c23 => ?_)
        · skip
          have ei : i = 43 := ge_lit e1 hi (by decide) c23
          rw [ei] at hP hD
          have hP : va_P D vwCl (moW T b (upd v 1 (nI (rcN n))) ik eA sA eA ik ek (rcI n ib sA) (rcE n eb eA) tx) H := wP_re hP 1 rfl (at_i (fun j hj => cpA_al hj))
          have hD : va_D A (moW T b (upd v 1 (nI (rcN n))) ik eA sA eA ik ek (rcI n ib sA) (rcE n eb eA) tx) := wD_ad hD rfl
          refine lv_iconst (v := 0) hx hb dX6_restore_44 (by decide) ?_
          refine lv_istore_n (lv' := [(1, .int 0), (0, .ref (b 0))]) hx hb dX6_restore_45 rfl hl (by decide) rfl (fun ls hl => ?_)
          have hP : va_P D vwCl (moW T b (upd v 1 (nI (rcN n))) ik (cpA eA ek 0 0) sA eA ik ek (rcI n ib sA) (rcE n eb eA) tx) H := by rw [cpA_0]; exact hP
          have hD : va_D A (moW T b (upd v 1 (nI (rcN n))) ik (cpA eA ek 0 0) sA eA ik ek (rcI n ib sA) (rcE n eb eA) tx) := by rw [cpA_0]; exact hD
          have loop46 : ∀ (j : Nat) (i : Nat) (x : Int32) (ls : Array Slot) (H : Heap) (locs : List Loc), (13 ≤ i + j) → (i ≤ 12) → (x = nI i) → va_P D vwCl (moW T b (upd v 1 (nI (rcN n))) ik (cpA eA ek 0 i) sA eA ik ek (rcI n ib sA) (rcE n eb eA) tx) H → va_D A (moW T b (upd v 1 (nI (rcN n))) ik (cpA eA ek 0 i) sA eA ik ek (rcI n ib sA) (rcE n eb eA) tx) → va_S A s.heap H locs → lv_has ls 2 [(1, .int x), (0, .ref (b 0))] → W p_ l e rmX6_restore s m args below meth c H locs 0 0 Q (F0 m 46 ls []) := by
            intro j
            induction j with
            | zero => intro i x ls H locs hm hi; exact absurd hm (by omega)
            | succ j ih =>
              intro i x ls H locs hm hi e1 hP hD hS hl
              refine lv_iload_n hx hb dX6_restore_46 rfl (lv_at hl 0 rfl) ?_
              refine lv_bipush (v := 12) hx hb dX6_restore_47 (by decide) ?_
              refine lv_icmp_ge (tgt := 70) hx hb dX6_restore_49 (by decide) (fun c49 => ?_) (fun c49 => ?_)
              · skip
                have ei : i = 12 := ge_lit e1 hi (by decide) c49
                rw [ei] at hP hD
                have hP : va_P D vwCl (moW T b (upd v 1 (nI (rcN n))) ik ek sA eA ik ek (rcI n ib sA) (rcE n eb eA) tx) H := wP_re hP 2 rfl (at_l (fun j hj => cpA_al hj))
                have hD : va_D A (moW T b (upd v 1 (nI (rcN n))) ik ek sA eA ik ek (rcI n ib sA) (rcE n eb eA) tx) := wD_ad hD rfl
                refine lv_aload_n hx hb dX6_restore_70 rfl (lv_at hl 1 rfl) ?_
                refine va_get (D := D) (ci := 6) (v := .ref (b 1)) (C := RX6) (T := TX6) (N := 22) hx hb hts inwX6_restore_X6 hown hK hP 0 rfl rfl 0 (by decide) (hts (.fieldLink RX6 7 "PlateSlabsModel" "s" "[I") (List.mem_of_getElem? (i := 2) rfl)) (fun _ h9 => h9) rfl dX6_restore_71 ?_
                refine lv_iconst (v := 0) hx hb dX6_restore_74 (by decide) ?_
                refine va_iald hx hb hK hP 1 0 rfl rfl (in_lit (by decide)) dX6_restore_75 ?_
                refine lv_tpi (congrArg (fun z => ik z) (cl_0)) ?_
                exact hret _ _ _ (upd v 1 (nI (rcN n)), ik, ek, sA, eA, ik, ek, rcI n ib sA, rcE n eb eA, tx) _ _ dX6_restore_76 hS hP hD (Or.inr ⟨c4, rfl, rfl⟩)
              · skip
                have hlt : i < 12 := nge_lit e1 hi (by decide) c49
                refine lv_aload_n hx hb dX6_restore_52 rfl (lv_at hl 1 rfl) ?_
                refine va_get (D := D) (ci := 6) (v := .ref (b 2)) (C := RX6) (T := TX6) (N := 22) hx hb hts inwX6_restore_X6 hown hK hP 0 rfl rfl 1 (by decide) (hts (.fieldLink RX6 13 "PlateSlabsModel" "e" "[J") (List.mem_of_getElem? (i := 4) rfl)) (fun _ h9 => h9) rfl dX6_restore_53 ?_
                refine lv_iload_n hx hb dX6_restore_56 rfl (lv_at hl 0 rfl) ?_
                refine lv_aload_n hx hb dX6_restore_57 rfl (lv_at hl 1 rfl) ?_
                refine va_get (D := D) (ci := 6) (v := .ref (b 6)) (C := RX6) (T := TX6) (N := 22) hx hb hts inwX6_restore_X6 hown hK hP 0 rfl rfl 5 (by decide) (hts (.fieldLink RX6 26 "PlateSlabsModel" "eSnapshot" "[J") (List.mem_of_getElem? (i := 5) rfl)) (fun _ h9 => h9) rfl dX6_restore_58 ?_
                refine lv_iload_n hx hb dX6_restore_61 rfl (lv_at hl 0 rfl) ?_
                refine va_lald hx hb hK hP 6 1 rfl rfl (in_of e1 (by omega) (by decide)) dX6_restore_62 ?_
                refine lv_tpl (congrArg (fun z => ek z) (cl_of e1 (by omega))) ?_
                refine va_last hx hb hK hP hD hS 2 1 rfl rfl (in_of e1 (by omega) (by decide)) dX6_restore_63 (fun H locs hP hD hS => ?_)
                rw [show Int32.toNatClampNeg x = i from cl_of e1 (by omega)] at hP hD
                have hP : va_P D vwCl (moW T b (upd v 1 (nI (rcN n))) ik (vp_updL (cpA eA ek 0 i) i (ek i)) sA eA ik ek (rcI n ib sA) (rcE n eb eA) tx) H := hP
                have hD : va_D A (moW T b (upd v 1 (nI (rcN n))) ik (vp_updL (cpA eA ek 0 i) i (ek i)) sA eA ik ek (rcI n ib sA) (rcE n eb eA) tx) := hD
                rw [cpA_sL0 eA ek i] at hP hD
                have hP : va_P D vwCl (moW T b (upd v 1 (nI (rcN n))) ik (cpA eA ek 0 (i + 1)) sA eA ik ek (rcI n ib sA) (rcE n eb eA) tx) H := hP
                have hD : va_D A (moW T b (upd v 1 (nI (rcN n))) ik (cpA eA ek 0 (i + 1)) sA eA ik ek (rcI n ib sA) (rcE n eb eA) tx) := hD
                obtain ⟨y_, ey_⟩ : ∃ y : Int32, y = x + 1 := ⟨_, rfl⟩
                refine lv_iinc (v := y_) (lv' := [(1, .int y_), (0, .ref (b 0))]) hx hb dX6_restore_64 hl (k := 0) rfl (by rw [ey_]; rfl) (by decide) rfl (fun ls hl => ?_)
                refine lv_goto (tgt := 46) hx hb dX6_restore_67 (by decide) ?_
                exact ih (i + 1) _ ls _ _ (by omega) (by omega) (by rw [ey_, e1, nI_1]) hP hD hS (lv_sub hl [0, 1] rfl)
          exact loop46 13 0 0 ls _ _ (by omega) (Nat.zero_le _) rfl hP hD hS (lv_sub hl [0, 1] rfl)
        · skip
          have hlt : i < 43 := nge_lit e1 hi (by decide) c23
          refine lv_aload_n hx hb dX6_restore_26 rfl (lv_at hl 1 rfl) ?_
          refine va_get (D := D) (ci := 6) (v := .ref (b 1)) (C := RX6) (T := TX6) (N := 22) hx hb hts inwX6_restore_X6 hown hK hP 0 rfl rfl 0 (by decide) (hts (.fieldLink RX6 7 "PlateSlabsModel" "s" "[I") (List.mem_of_getElem? (i := 2) rfl)) (fun _ h9 => h9) rfl dX6_restore_27 ?_
          refine lv_iload_n hx hb dX6_restore_30 rfl (lv_at hl 0 rfl) ?_
          refine lv_aload_n hx hb dX6_restore_31 rfl (lv_at hl 1 rfl) ?_
          refine va_get (D := D) (ci := 6) (v := .ref (b 5)) (C := RX6) (T := TX6) (N := 22) hx hb hts inwX6_restore_X6 hown hK hP 0 rfl rfl 4 (by decide) (hts (.fieldLink RX6 23 "PlateSlabsModel" "snapshot" "[I") (List.mem_of_getElem? (i := 3) rfl)) (fun _ h9 => h9) rfl dX6_restore_32 ?_
          refine lv_iload_n hx hb dX6_restore_35 rfl (lv_at hl 0 rfl) ?_
          refine va_iald hx hb hK hP 5 0 rfl rfl (in_of e1 (by omega) (by decide)) dX6_restore_36 ?_
          refine lv_tpi (congrArg (fun z => ik z) (cl_of e1 (by omega))) ?_
          refine va_iast hx hb hK hP hD hS 1 0 rfl rfl (in_of e1 (by omega) (by decide)) dX6_restore_37 (fun H locs hP hD hS => ?_)
          rw [show Int32.toNatClampNeg x = i from cl_of e1 (by omega)] at hP hD
          have hP : va_P D vwCl (moW T b (upd v 1 (nI (rcN n))) (upd (cpA sA ik 0 i) i (ik i)) eA sA eA ik ek (rcI n ib sA) (rcE n eb eA) tx) H := hP
          have hD : va_D A (moW T b (upd v 1 (nI (rcN n))) (upd (cpA sA ik 0 i) i (ik i)) eA sA eA ik ek (rcI n ib sA) (rcE n eb eA) tx) := hD
          rw [cpA_s0 sA ik i] at hP hD
          have hP : va_P D vwCl (moW T b (upd v 1 (nI (rcN n))) (cpA sA ik 0 (i + 1)) eA sA eA ik ek (rcI n ib sA) (rcE n eb eA) tx) H := hP
          have hD : va_D A (moW T b (upd v 1 (nI (rcN n))) (cpA sA ik 0 (i + 1)) eA sA eA ik ek (rcI n ib sA) (rcE n eb eA) tx) := hD
          obtain ⟨y_, ey_⟩ : ∃ y : Int32, y = x + 1 := ⟨_, rfl⟩
          refine lv_iinc (v := y_) (lv' := [(1, .int y_), (0, .ref (b 0))]) hx hb dX6_restore_38 hl (k := 0) rfl (by rw [ey_]; rfl) (by decide) rfl (fun ls hl => ?_)
          refine lv_goto (tgt := 20) hx hb dX6_restore_41 (by decide) ?_
          exact ih (i + 1) _ ls _ _ (by omega) (by omega) (by rw [ey_, e1, nI_1]) hP hD hS (lv_sub hl [0, 1] rfl)
    exact loop20 44 0 0 ls _ _ (by omega) (Nat.zero_le _) rfl hP hD hS (lv_sub hl [0, 1] rfl)
  · skip
    refine lv_bipush (v := (-5)) hx hb dX6_restore_7 (by decide) ?_
    exact hret _ _ _ (v, sA, eA, ia, ea, ik, ek, ib, eb, tx) _ _ dX6_restore_9 hS hP hD (Or.inl ⟨c4, rfl, rfl⟩)

def rmX6_acted : Room := { frames := 1, cells := 0, slots := 0, locals := 21 }
set_option maxHeartbeats 4000000 in
set_option maxRecDepth 100000 in
theorem mX6_acted (l : Launch) (T : Nat → ClassId) (D : va_G) (b : Nat → Nat) (v : Nat → Int32) (sA : Nat → Int32) (eA : Nat → Int64) (ia : Nat → Int32) (ea : Nat → Int64) (ik : Nat → Int32) (ek : Nat → Int64) (ib : Nat → Int32) (eb : Nat → Int64) (tx : Nat → Int32) (n : Nat) (hn : n ≤ 4) (hv : v 1 = nI n) (r0 : Int32) : MuI l yX6_acted wsX6_acted rmX6_acted T xN D [.ref (b 0), .int r0] (moW T b v sA eA ia ea ik ek ib eb tx) (S := MW) (fun r u => r = r0 ∧ u = if 0 ≤ r0 then (upd v 1 (nI (rcN n)), sA, eA, ia, ea, ik, ek, rcI n ib ia, rcE n eb ea, tx) else (v, sA, eA, ia, ea, ik, ek, ib, eb, tx)) (fun u => moU T b u) 0 0 := by
  refine met_mi (cc := cX6_acted) (maxL := 2) (by decide) rfl (Nat.le_of_ble_eq_true rfl) ?_
  intro p_ e s m args below meth c ls A Q hx hb hts hown hml hX hP hD hK hS hA hl hret
  have hl : lv_has ls 2 [(0, .ref (b 0)), (1, .int r0)] := hl
  obtain ⟨H, hH⟩ : ∃ H, H = s.heap := ⟨_, rfl⟩
  have hS : va_S A s.heap H [] := by rw [hH]; exact hS
  rw [← hH] at hP ⊢
  refine lv_iload_n hx hb dX6_acted_0 rfl (lv_at hl 1 rfl) ?_
  refine lv_if_lt (tgt := 8) hx hb dX6_acted_1 (by decide) (fun c1 => ?_) (fun c1 => ?_)
  · skip
    refine lv_iload_n hx hb dX6_acted_8 rfl (lv_at hl 1 rfl) ?_
    exact hret _ _ _ (v, sA, eA, ia, ea, ik, ek, ib, eb, tx) _ _ dX6_acted_9 hS hP hD ⟨rfl, by rw [if_neg (Int32.not_le.mpr c1)]⟩
  · skip
    refine lv_aload_n hx hb dX6_acted_4 rfl (lv_at hl 0 rfl) ?_
    refine callMv (As := []) (wr := []) ⟨hx, hb, hml, hown, hts⟩ (mX6_records l T D b v sA eA ia ea ik ek ib eb tx n hn hv) (cwV 0 hts gX6_acted_X6_records rfl rfl rfl pdX6_records ⟨Nat.le_of_ble_eq_true rfl, Nat.le_of_ble_eq_true rfl⟩) hP hD hK hS hA xN_bl (fun U _ hW => XN_warm hW hX) (ci := 6) rfl rfl rfl hl.1 rfl rfl (Nat.le_of_ble_eq_true rfl) dX6_acted_5 ⟨Nat.zero_le _, Nat.zero_le _⟩ (fun u2_ H locs eu2_ hP hD hS hkf => ?_)
    have hP : va_P D vwCl (moW T b (upd v 1 (nI (rcN n))) sA eA ia ea ik ek (rcI n ib ia) (rcE n eb ea) tx) H := hP
    have hD : va_D A (moW T b (upd v 1 (nI (rcN n))) sA eA ia ea ik ek (rcI n ib ia) (rcE n eb ea) tx) := hD
    refine lv_iload_n hx hb dX6_acted_8 rfl (lv_at hl 1 rfl) ?_
    exact hret _ _ _ (upd v 1 (nI (rcN n)), sA, eA, ia, ea, ik, ek, rcI n ib ia, rcE n eb ea, tx) _ _ dX6_acted_9 hS hP hD ⟨rfl, by rw [if_pos (Int32.not_lt.mp c1)]⟩

