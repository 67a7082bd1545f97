theorem pdX0_dropOldest : yX0_dropOldest.cls = RX0 ∧ yX0_dropOldest.cls ≠ "java/lang/invoke/MethodHandle" ∧ yX0_dropOldest.cls ≠ "java/lang/invoke/VarHandle" ∧ (parseMethodDescriptor yX0_dropOldest.desc).map (fun d => d.parameters.length) = some 0 := by decide +kernel
theorem pdX0_push : yX0_push.cls = RX0 ∧ yX0_push.cls ≠ "java/lang/invoke/MethodHandle" ∧ yX0_push.cls ≠ "java/lang/invoke/VarHandle" ∧ (parseMethodDescriptor yX0_push.desc).map (fun d => d.parameters.length) = some 1 := by decide +kernel
theorem pdX0_popInto : yX0_popInto.cls = RX0 ∧ yX0_popInto.cls ≠ "java/lang/invoke/MethodHandle" ∧ yX0_popInto.cls ≠ "java/lang/invoke/VarHandle" ∧ (parseMethodDescriptor yX0_popInto.desc).map (fun d => d.parameters.length) = some 1 := by decide +kernel
theorem inwX0_dropOldest_X0 : ∀ w ∈ wsX00, w ∈ wsX0_dropOldest := by decide +kernel
theorem inwX0_push_X0 : ∀ w ∈ wsX00, w ∈ wsX0_push := by decide +kernel
theorem inwX0_push_X2 : ∀ w ∈ wsX20, w ∈ wsX0_push := by decide +kernel
theorem inwX0_push_X1 : ∀ w ∈ wsX10, w ∈ wsX0_push := by decide +kernel
theorem inwX0_popInto_X0 : ∀ w ∈ wsX00, w ∈ wsX0_popInto := by decide +kernel
theorem inwX0_popInto_X2 : ∀ w ∈ wsX20, w ∈ wsX0_popInto := by decide +kernel
theorem inwX0_popInto_X1 : ∀ w ∈ wsX10, w ∈ wsX0_popInto := by decide +kernel
def rmX0_dropOldest : Room := { frames := 0, cells := 0, slots := 0, locals := 0 }
set_option maxHeartbeats 4000000 in
set_option maxRecDepth 100000 in
theorem mX0_dropOldest (l : Launch) (T : Nat → ClassId) (D : va_G) (h : Nat → Nat) (d : Nat → Nat → Nat) (n : Nat) (f0 f1 f2 f3 : List Value) : MuV l yX0_dropOldest wsX0_dropOldest rmX0_dropOldest T xN D [.ref (h 0)] [((h 0), .inr (0, [.ref (h 1), .int (nI n)])), ((h 1), .inl (T 4, 4, .inr (.inr (.inr (.inr ((fun i => some (d i 0)))))))), ((d 0 0), .inr (2, f0)), ((d 1 0), .inr (2, f1)), ((d 2 0), .inr (2, f2)), ((d 3 0), .inr (2, f3))] (S := Unit) (fun _ => True) (fun _ => [((h 0), .inr (0, [.ref (h 1), .int (nI 3)])), ((h 1), .inl (T 4, 4, .inr (.inr (.inr (.inr ((fun i => some (rot d i 0)))))))), ((d 0 0), .inr (2, f0)), ((d 1 0), .inr (2, f1)), ((d 2 0), .inr (2, f2)), ((d 3 0), .inr (2, f3))]) 0 0 := by
  refine met_mv (cc := cX0_dropOldest) (maxL := 3) (by decide) rfl (Nat.le_of_ble_eq_true rfl) ?_
  intro p_ e s m args below meth c ls A Q hx hb hts hown hml hX hP hD hK hS hA hl hin hret
  have hl : lv_has ls 3 [(0, .ref (h 0))] := hl
  obtain ⟨H, hH⟩ : ∃ H, H = s.heap := ⟨_, rfl⟩
  have hS : va_S A s.heap H [] := by rw [hH]; exact hS
  rw [← hH] at hP ⊢
  refine lv_aload_n hx hb dX0_dropOldest_0 rfl (lv_at hl 0 rfl) ?_
  refine va_get (D := D) (ci := 0) (v := .ref (h 1)) (C := RX0) (T := TX0) (N := 2) hx hb hts inwX0_dropOldest_X0 hown hK hP 0 rfl rfl 0 (by decide) (hts (.fieldLink RX0 11 "PlateSlabs$History" "states" "[LPlateSlabs$State;") (List.mem_of_getElem? (i := 1) rfl)) (fun _ h9 => h9) rfl dX0_dropOldest_1 ?_
  refine lv_iconst (v := 0) hx hb dX0_dropOldest_4 (by decide) ?_
  refine va_aldq hx hb hK hP 1 4 rfl rfl (in_lit (by decide)) dX0_dropOldest_5 ?_
  refine lv_tpv (congrArg (fun z => va_rf ((fun i => some (d i 0)) z)) (cl_0)) ?_
  refine lv_astore_n (lv' := [(1, .ref (d 0 0)), (0, .ref (h 0))]) hx hb dX0_dropOldest_6 rfl hl (by decide) rfl (fun ls hl => ?_)
  refine lv_iconst (v := 1) hx hb dX0_dropOldest_7 (by decide) ?_
  refine lv_istore_n (lv' := [(2, .int 1), (1, .ref (d 0 0)), (0, .ref (h 0))]) hx hb dX0_dropOldest_8 rfl hl (by decide) rfl (fun ls hl => ?_)
  refine lv_iload_n hx hb dX0_dropOldest_9 rfl (lv_at hl 0 rfl) ?_
  refine lv_iconst (v := 4) hx hb dX0_dropOldest_10 (by decide) ?_
  refine lv_icmp_ge (tgt := 34) hx hb dX0_dropOldest_11 (by decide) (fun c11 => ?_) (fun c11 => ?_)
  · skip
    exact absurd c11 (by decide)
  · skip
    refine lv_aload_n hx hb dX0_dropOldest_14 rfl (lv_at hl 2 rfl) ?_
    refine va_get (D := D) (ci := 0) (v := .ref (h 1)) (C := RX0) (T := TX0) (N := 2) hx hb hts inwX0_dropOldest_X0 hown hK hP 0 rfl rfl 0 (by decide) (hts (.fieldLink RX0 11 "PlateSlabs$History" "states" "[LPlateSlabs$State;") (List.mem_of_getElem? (i := 1) rfl)) (fun _ h9 => h9) rfl dX0_dropOldest_15 ?_
    refine lv_iload_n hx hb dX0_dropOldest_18 rfl (lv_at hl 0 rfl) ?_
    refine lv_iconst (v := 1) hx hb dX0_dropOldest_19 (by decide) ?_
    refine lv_isub hx hb dX0_dropOldest_20 ?_
    refine lv_tpi (z := 0) (by decide) ?_
    refine lv_aload_n hx hb dX0_dropOldest_21 rfl (lv_at hl 2 rfl) ?_
    refine va_get (D := D) (ci := 0) (v := .ref (h 1)) (C := RX0) (T := TX0) (N := 2) hx hb hts inwX0_dropOldest_X0 hown hK hP 0 rfl rfl 0 (by decide) (hts (.fieldLink RX0 11 "PlateSlabs$History" "states" "[LPlateSlabs$State;") (List.mem_of_getElem? (i := 1) rfl)) (fun _ h9 => h9) rfl dX0_dropOldest_22 ?_
    refine lv_iload_n hx hb dX0_dropOldest_25 rfl (lv_at hl 0 rfl) ?_
    refine va_aldq hx hb hK hP 1 4 rfl rfl (in_lit (by decide)) dX0_dropOldest_26 ?_
    refine lv_tpv (congrArg (fun z => va_rf ((fun i => some (d i 0)) z)) (cl_1)) ?_
    refine va_astq hx hb hK hP hD hS 1 4 3 2 rfl rfl rfl rfl (in_lit (by decide)) dX0_dropOldest_27 (fun H locs hP hD hS => ?_)
    rw [cl_0] at hP hD
    have hP : va_P D vwCl [((h 0), .inr (0, [.ref (h 1), .int (nI n)])), ((h 1), .inl (T 4, 4, .inr (.inr (.inr (.inr (va_up (fun i => some (d i 0)) 0 (some (d 1 0)))))))), ((d 0 0), .inr (2, f0)), ((d 1 0), .inr (2, f1)), ((d 2 0), .inr (2, f2)), ((d 3 0), .inr (2, f3))] H := hP
    have hD : va_D A [((h 0), .inr (0, [.ref (h 1), .int (nI n)])), ((h 1), .inl (T 4, 4, .inr (.inr (.inr (.inr (va_up (fun i => some (d i 0)) 0 (some (d 1 0)))))))), ((d 0 0), .inr (2, f0)), ((d 1 0), .inr (2, f1)), ((d 2 0), .inr (2, f2)), ((d 3 0), .inr (2, f3))] := hD
    refine lv_iinc (v := 2) (lv' := [(2, .int (2)), (1, .ref (d 0 0)), (0, .ref (h 0))]) hx hb dX0_dropOldest_28 hl (k := 0) rfl (by decide) (by decide) rfl (fun ls hl => ?_)
    refine lv_goto (tgt := 9) hx hb dX0_dropOldest_31 (by decide) ?_
    refine lv_iload_n hx hb dX0_dropOldest_9 rfl (lv_at hl 0 rfl) ?_
    refine lv_iconst (v := 4) hx hb dX0_dropOldest_10 (by decide) ?_
    refine lv_icmp_ge (tgt := 34) hx hb dX0_dropOldest_11 (by decide) (fun c11 => ?_) (fun c11 => ?_)
    · skip
      exact absurd c11 (by decide)
    · skip
      refine lv_aload_n hx hb dX0_dropOldest_14 rfl (lv_at hl 2 rfl) ?_
      refine va_get (D := D) (ci := 0) (v := .ref (h 1)) (C := RX0) (T := TX0) (N := 2) hx hb hts inwX0_dropOldest_X0 hown hK hP 0 rfl rfl 0 (by decide) (hts (.fieldLink RX0 11 "PlateSlabs$History" "states" "[LPlateSlabs$State;") (List.mem_of_getElem? (i := 1) rfl)) (fun _ h9 => h9) rfl dX0_dropOldest_15 ?_
      refine lv_iload_n hx hb dX0_dropOldest_18 rfl (lv_at hl 0 rfl) ?_
      refine lv_iconst (v := 1) hx hb dX0_dropOldest_19 (by decide) ?_
      refine lv_isub hx hb dX0_dropOldest_20 ?_
      refine lv_tpi (z := 1) (by decide) ?_
      refine lv_aload_n hx hb dX0_dropOldest_21 rfl (lv_at hl 2 rfl) ?_
      refine va_get (D := D) (ci := 0) (v := .ref (h 1)) (C := RX0) (T := TX0) (N := 2) hx hb hts inwX0_dropOldest_X0 hown hK hP 0 rfl rfl 0 (by decide) (hts (.fieldLink RX0 11 "PlateSlabs$History" "states" "[LPlateSlabs$State;") (List.mem_of_getElem? (i := 1) rfl)) (fun _ h9 => h9) rfl dX0_dropOldest_22 ?_
      refine lv_iload_n hx hb dX0_dropOldest_25 rfl (lv_at hl 0 rfl) ?_
      refine va_aldq hx hb hK hP 1 4 rfl rfl (in_lit (by decide)) dX0_dropOldest_26 ?_
      refine lv_tpv (congrArg (fun z => va_rf ((va_up (fun i => some (d i 0)) 0 (some (d 1 0))) z)) (cl_2)) ?_
      refine va_astq hx hb hK hP hD hS 1 4 4 2 rfl rfl rfl rfl (in_lit (by decide)) dX0_dropOldest_27 (fun H locs hP hD hS => ?_)
      rw [cl_1] at hP hD
      have hP : va_P D vwCl [((h 0), .inr (0, [.ref (h 1), .int (nI n)])), ((h 1), .inl (T 4, 4, .inr (.inr (.inr (.inr (va_up (va_up (fun i => some (d i 0)) 0 (some (d 1 0))) 1 (some (d 2 0)))))))), ((d 0 0), .inr (2, f0)), ((d 1 0), .inr (2, f1)), ((d 2 0), .inr (2, f2)), ((d 3 0), .inr (2, f3))] H := hP
      have hD : va_D A [((h 0), .inr (0, [.ref (h 1), .int (nI n)])), ((h 1), .inl (T 4, 4, .inr (.inr (.inr (.inr (va_up (va_up (fun i => some (d i 0)) 0 (some (d 1 0))) 1 (some (d 2 0)))))))), ((d 0 0), .inr (2, f0)), ((d 1 0), .inr (2, f1)), ((d 2 0), .inr (2, f2)), ((d 3 0), .inr (2, f3))] := hD
      refine lv_iinc (v := 3) (lv' := [(2, .int (3)), (1, .ref (d 0 0)), (0, .ref (h 0))]) hx hb dX0_dropOldest_28 hl (k := 0) rfl (by decide) (by decide) rfl (fun ls hl => ?_)
      refine lv_goto (tgt := 9) hx hb dX0_dropOldest_31 (by decide) ?_
      refine lv_iload_n hx hb dX0_dropOldest_9 rfl (lv_at hl 0 rfl) ?_
      refine lv_iconst (v := 4) hx hb dX0_dropOldest_10 (by decide) ?_
      refine lv_icmp_ge (tgt := 34) hx hb dX0_dropOldest_11 (by decide) (fun c11 => ?_) (fun c11 => ?_)
      · skip
        exact absurd c11 (by decide)
      · skip
        refine lv_aload_n hx hb dX0_dropOldest_14 rfl (lv_at hl 2 rfl) ?_
        refine va_get (D := D) (ci := 0) (v := .ref (h 1)) (C := RX0) (T := TX0) (N := 2) hx hb hts inwX0_dropOldest_X0 hown hK hP 0 rfl rfl 0 (by decide) (hts (.fieldLink RX0 11 "PlateSlabs$History" "states" "[LPlateSlabs$State;") (List.mem_of_getElem? (i := 1) rfl)) (fun _ h9 => h9) rfl dX0_dropOldest_15 ?_
        refine lv_iload_n hx hb dX0_dropOldest_18 rfl (lv_at hl 0 rfl) ?_
        refine lv_iconst (v := 1) hx hb dX0_dropOldest_19 (by decide) ?_
        refine lv_isub hx hb dX0_dropOldest_20 ?_
        refine lv_tpi (z := 2) (by decide) ?_
        refine lv_aload_n hx hb dX0_dropOldest_21 rfl (lv_at hl 2 rfl) ?_
        refine va_get (D := D) (ci := 0) (v := .ref (h 1)) (C := RX0) (T := TX0) (N := 2) hx hb hts inwX0_dropOldest_X0 hown hK hP 0 rfl rfl 0 (by decide) (hts (.fieldLink RX0 11 "PlateSlabs$History" "states" "[LPlateSlabs$State;") (List.mem_of_getElem? (i := 1) rfl)) (fun _ h9 => h9) rfl dX0_dropOldest_22 ?_
        refine lv_iload_n hx hb dX0_dropOldest_25 rfl (lv_at hl 0 rfl) ?_
        refine va_aldq hx hb hK hP 1 4 rfl rfl (in_lit (by decide)) dX0_dropOldest_26 ?_
        refine lv_tpv (congrArg (fun z => va_rf ((va_up (va_up (fun i => some (d i 0)) 0 (some (d 1 0))) 1 (some (d 2 0))) z)) (cl_3)) ?_
        refine va_astq hx hb hK hP hD hS 1 4 5 2 rfl rfl rfl rfl (in_lit (by decide)) dX0_dropOldest_27 (fun H locs hP hD hS => ?_)
        rw [cl_2] at hP hD
        have hP : va_P D vwCl [((h 0), .inr (0, [.ref (h 1), .int (nI n)])), ((h 1), .inl (T 4, 4, .inr (.inr (.inr (.inr (va_up (va_up (va_up (fun i => some (d i 0)) 0 (some (d 1 0))) 1 (some (d 2 0))) 2 (some (d 3 0)))))))), ((d 0 0), .inr (2, f0)), ((d 1 0), .inr (2, f1)), ((d 2 0), .inr (2, f2)), ((d 3 0), .inr (2, f3))] H := hP
        have hD : va_D A [((h 0), .inr (0, [.ref (h 1), .int (nI n)])), ((h 1), .inl (T 4, 4, .inr (.inr (.inr (.inr (va_up (va_up (va_up (fun i => some (d i 0)) 0 (some (d 1 0))) 1 (some (d 2 0))) 2 (some (d 3 0)))))))), ((d 0 0), .inr (2, f0)), ((d 1 0), .inr (2, f1)), ((d 2 0), .inr (2, f2)), ((d 3 0), .inr (2, f3))] := hD
        refine lv_iinc (v := 4) (lv' := [(2, .int (4)), (1, .ref (d 0 0)), (0, .ref (h 0))]) hx hb dX0_dropOldest_28 hl (k := 0) rfl (by decide) (by decide) rfl (fun ls hl => ?_)
        refine lv_goto (tgt := 9) hx hb dX0_dropOldest_31 (by decide) ?_
        refine lv_iload_n hx hb dX0_dropOldest_9 rfl (lv_at hl 0 rfl) ?_
        refine lv_iconst (v := 4) hx hb dX0_dropOldest_10 (by decide) ?_
        refine lv_icmp_ge (tgt := 34) hx hb dX0_dropOldest_11 (by decide) (fun c11 => ?_) (fun c11 => ?_)
        · skip
          refine lv_aload_n hx hb dX0_dropOldest_34 rfl (lv_at hl 2 rfl) ?_
          refine va_get (D := D) (ci := 0) (v := .ref (h 1)) (C := RX0) (T := TX0) (N := 2) hx hb hts inwX0_dropOldest_X0 hown hK hP 0 rfl rfl 0 (by decide) (hts (.fieldLink RX0 11 "PlateSlabs$History" "states" "[LPlateSlabs$State;") (List.mem_of_getElem? (i := 1) rfl)) (fun _ h9 => h9) rfl dX0_dropOldest_35 ?_
          refine lv_iconst (v := 3) hx hb dX0_dropOldest_38 (by decide) ?_
          refine lv_aload_n hx hb dX0_dropOldest_39 rfl (lv_at hl 1 rfl) ?_
          refine va_astq hx hb hK hP hD hS 1 4 2 2 rfl rfl rfl rfl (in_lit (by decide)) dX0_dropOldest_40 (fun H locs hP hD hS => ?_)
          rw [cl_3] at hP hD
          have hP : va_P D vwCl [((h 0), .inr (0, [.ref (h 1), .int (nI n)])), ((h 1), .inl (T 4, 4, .inr (.inr (.inr (.inr (va_up (va_up (va_up (va_up (fun i => some (d i 0)) 0 (some (d 1 0))) 1 (some (d 2 0))) 2 (some (d 3 0))) 3 (some (d 0 0)))))))), ((d 0 0), .inr (2, f0)), ((d 1 0), .inr (2, f1)), ((d 2 0), .inr (2, f2)), ((d 3 0), .inr (2, f3))] H := hP
          have hD : va_D A [((h 0), .inr (0, [.ref (h 1), .int (nI n)])), ((h 1), .inl (T 4, 4, .inr (.inr (.inr (.inr (va_up (va_up (va_up (va_up (fun i => some (d i 0)) 0 (some (d 1 0))) 1 (some (d 2 0))) 2 (some (d 3 0))) 3 (some (d 0 0)))))))), ((d 0 0), .inr (2, f0)), ((d 1 0), .inr (2, f1)), ((d 2 0), .inr (2, f2)), ((d 3 0), .inr (2, f3))] := hD
          refine lv_aload_n hx hb dX0_dropOldest_41 rfl (lv_at hl 2 rfl) ?_
          refine lv_iconst (v := nI 3) hx hb dX0_dropOldest_42 (by decide) ?_
          refine va_put (D := D) (ci := 0) (v := .int (nI 3)) (C := RX0) (T := TX0) (N := 2) hx hb hts inwX0_dropOldest_X0 tyX0 tyX0_ok nmX0 hown hK hP hD hS 0 rfl rfl 1 (by decide) (hts (.fieldLink RX0 18 "PlateSlabs$History" "size" "I") (List.mem_of_getElem? (i := 2) rfl)) (fun _ h9 => h9) rfl (tyX0_ok 1 (by decide)) (rfl) (rfl) (Nat.le_of_ble_eq_true rfl) dX0_dropOldest_43 (fun H locs hP hD hS => ?_)
          have hP : va_P D vwCl [((h 0), .inr (0, [.ref (h 1), .int (nI 3)])), ((h 1), .inl (T 4, 4, .inr (.inr (.inr (.inr (va_up (va_up (va_up (va_up (fun i => some (d i 0)) 0 (some (d 1 0))) 1 (some (d 2 0))) 2 (some (d 3 0))) 3 (some (d 0 0)))))))), ((d 0 0), .inr (2, f0)), ((d 1 0), .inr (2, f1)), ((d 2 0), .inr (2, f2)), ((d 3 0), .inr (2, f3))] H := hP
          have hD : va_D A [((h 0), .inr (0, [.ref (h 1), .int (nI 3)])), ((h 1), .inl (T 4, 4, .inr (.inr (.inr (.inr (va_up (va_up (va_up (va_up (fun i => some (d i 0)) 0 (some (d 1 0))) 1 (some (d 2 0))) 2 (some (d 3 0))) 3 (some (d 0 0)))))))), ((d 0 0), .inr (2, f0)), ((d 1 0), .inr (2, f1)), ((d 2 0), .inr (2, f2)), ((d 3 0), .inr (2, f3))] := hD
          have hP : va_P D vwCl [((h 0), .inr (0, [.ref (h 1), .int (nI 3)])), ((h 1), .inl (T 4, 4, .inr (.inr (.inr (.inr ((fun i => some (rot d i 0)))))))), ((d 0 0), .inr (2, f0)), ((d 1 0), .inr (2, f1)), ((d 2 0), .inr (2, f2)), ((d 3 0), .inr (2, f3))] H := wP_re hP 1 rfl (at_q (fun j hj => by rcases lt4c hj with rfl | rfl | rfl | rfl <;> rfl))
          have hD : va_D A [((h 0), .inr (0, [.ref (h 1), .int (nI 3)])), ((h 1), .inl (T 4, 4, .inr (.inr (.inr (.inr ((fun i => some (rot d i 0)))))))), ((d 0 0), .inr (2, f0)), ((d 1 0), .inr (2, f1)), ((d 2 0), .inr (2, f2)), ((d 3 0), .inr (2, f3))] := wD_ad hD rfl
          exact hret _ _ () _ _ dX0_dropOldest_46 hS hP hD trivial
        · skip
          exact absurd (by decide) c11

def rmX0_push : Room := { frames := 3, cells := 0, slots := 0, locals := 103 }
set_option maxHeartbeats 4000000 in
set_option maxRecDepth 100000 in
theorem mX0_push (l : Launch) (T : Nat → ClassId) (D : va_G) (h : Nat → Nat) (d : Nat → Nat → Nat) (n : Nat) (σ : Nat → SG) (b : Nat → Nat) (g : SG) (hn : n ≤ 4) (hg : gOk g) : MuV l yX0_push wsX0_push rmX0_push T xN D [.ref (h 0), .ref (b 0)] ([((h 0), .inr (0, [.ref (h 1), .int (nI n)])), ((h 1), .inl (T 4, 4, .inr (.inr (.inr (.inr ((fun i => some (d i 0))))))))] ++ (hiT T d σ ++ sgW T b g)) (S := Unit) (fun _ => True) (fun _ => ([((h 0), .inr (0, [.ref (h 1), .int (nI (rcN n))])), ((h 1), .inl (T 4, 4, .inr (.inr (.inr (.inr ((fun i => some ((hiD n d) i 0))))))))] ++ (hiT T (hiD n d) (hiS n σ g) ++ sgW T b g))) 0 0 := by
  refine met_mv (cc := cX0_push) (maxL := 2) (by decide) rfl (Nat.le_of_ble_eq_true rfl) ?_
  intro p_ e s m args below meth c ls A Q hx hb hts hown hml hX hP hD hK hS hA hl hin hret
  have hl : lv_has ls 2 [(0, .ref (h 0)), (1, .ref (b 0))] := hl
  obtain ⟨H, hH⟩ : ∃ H, H = s.heap := ⟨_, rfl⟩
  have hS : va_S A s.heap H [] := by rw [hH]; exact hS
  rw [← hH] at hP ⊢
  refine lv_aload_n hx hb dX0_push_0 rfl (lv_at hl 0 rfl) ?_
  refine va_get (D := D) (ci := 0) (v := .int (nI n)) (C := RX0) (T := TX0) (N := 2) hx hb hts inwX0_push_X0 hown hK hP 0 rfl rfl 1 (by decide) (hts (.fieldLink RX0 18 "PlateSlabs$History" "size" "I") (List.mem_of_getElem? (i := 1) rfl)) (fun _ h9 => h9) rfl dX0_push_1 ?_
  refine lv_iconst (v := nI 4) hx hb dX0_push_4 (by decide) ?_
  have hJ12 : ∀ (n1 : Nat) (d1 : Nat → Nat → Nat) (σ1 : Nat → SG) (ls : Array Slot) (H : Heap) (locs : List Loc), (n1 < 4) → (n1 = if n = 4 then 3 else n) → (d1 = hiD n d) → (σ1 = if n = 4 then rot σ else σ) → va_P D vwCl ([((h 0), .inr (0, [.ref (h 1), .int (nI n1)])), ((h 1), .inl (T 4, 4, .inr (.inr (.inr (.inr ((fun i => some (d1 i 0))))))))] ++ (hiT T d1 σ1 ++ sgW T b g)) H → va_D A ([((h 0), .inr (0, [.ref (h 1), .int (nI n1)])), ((h 1), .inl (T 4, 4, .inr (.inr (.inr (.inr ((fun i => some (d1 i 0))))))))] ++ (hiT T d1 σ1 ++ sgW T b g)) → va_S A s.heap H locs → lv_has ls 2 [(0, .ref (h 0)), (1, .ref (b 0))] → W p_ l e rmX0_push s m args below meth c H locs 0 0 Q (F0 m 12 ls []) := by
    intro n1 d1 σ1 ls H locs hn1 en ed eσ hP hD hS hl
    refine lv_aload_n hx hb dX0_push_12 rfl (lv_at hl 0 rfl) ?_
    refine va_get (D := D) (ci := 0) (v := .ref (h 1)) (C := RX0) (T := TX0) (N := 2) hx hb hts inwX0_push_X0 hown hK hP 0 rfl rfl 0 (by decide) (hts (.fieldLink RX0 11 "PlateSlabs$History" "states" "[LPlateSlabs$State;") (List.mem_of_getElem? (i := 2) rfl)) (fun _ h9 => h9) rfl dX0_push_13 ?_
    refine lv_aload_n hx hb dX0_push_16 rfl (lv_at hl 0 rfl) ?_
    refine va_get (D := D) (ci := 0) (v := .int (nI n1)) (C := RX0) (T := TX0) (N := 2) hx hb hts inwX0_push_X0 hown hK hP 0 rfl rfl 1 (by decide) (hts (.fieldLink RX0 18 "PlateSlabs$History" "size" "I") (List.mem_of_getElem? (i := 1) rfl)) (fun _ h9 => h9) rfl dX0_push_17 ?_
    refine va_aldq hx hb hK hP 1 4 rfl rfl (vp_in_nI (by omega) (by decide)) dX0_push_20 ?_
    refine lv_tpv (congrArg (fun z => va_rf ((fun i => some (d1 i 0)) z)) (nI_clamp (by omega))) ?_
    refine lv_aload_n hx hb dX0_push_21 rfl (lv_at hl 1 rfl) ?_
    have hP := wP_perm (hp_foc (T := T) (d := d1) (σ := σ1) (b := b) (g := g) (hh := hiH T h d1 n1) hn1) hP
    have hD := wD_perm (hp_foc (T := T) (d := d1) (σ := σ1) (b := b) (g := g) (hh := hiH T h d1 n1) hn1) hD
    refine callMv (As := [.ref (b 0)]) (wr := (hiH T h d1 n1 ++ hiO T d1 σ1 n1)) ⟨hx, hb, hml, hown, hts⟩ (mX2_copyFrom l T D (d1 n1) (σ1 n1).1 (σ1 n1).2.1 (σ1 n1).2.2 b g.1 g.2.1 g.2.2 hg) (cwV 1 hts gX0_push_X2_copyFrom rfl rfl rfl pdX2_copyFrom ⟨Nat.le_of_ble_eq_true rfl, Nat.le_of_ble_eq_true rfl⟩) hP hD hK hS hA xN_bl (fun U _ hW => XN_warm hW hX) (ci := 2) rfl rfl rfl hl.1 rfl rfl (Nat.le_of_ble_eq_true rfl) dX0_push_22 ⟨Nat.zero_le _, Nat.zero_le _⟩ (fun u2_ H locs eu2_ hP hD hS hkf => ?_)
    have hP : va_P D vwCl ([((h 0), .inr (0, [.ref (h 1), .int (nI n1)])), ((h 1), .inl (T 4, 4, .inr (.inr (.inr (.inr ((fun i => some (d1 i 0))))))))] ++ (hiT T d1 (va_up σ1 n1 g) ++ sgW T b g)) H := wP_perm (hp_unf (T := T) (d := d1) (σ := σ1) (b := b) (g := g) (hh := hiH T h d1 n1) hn1) hP
    have hD : va_D A ([((h 0), .inr (0, [.ref (h 1), .int (nI n1)])), ((h 1), .inl (T 4, 4, .inr (.inr (.inr (.inr ((fun i => some (d1 i 0))))))))] ++ (hiT T d1 (va_up σ1 n1 g) ++ sgW T b g)) := wD_perm (hp_unf (T := T) (d := d1) (σ := σ1) (b := b) (g := g) (hh := hiH T h d1 n1) hn1) hD
    refine lv_aload_n hx hb dX0_push_25 rfl (lv_at hl 0 rfl) ?_
    refine lv_dup hx hb dX0_push_26 rfl ?_
    refine va_get (D := D) (ci := 0) (v := .int (nI n1)) (C := RX0) (T := TX0) (N := 2) hx hb hts inwX0_push_X0 hown hK hP 0 rfl rfl 1 (by decide) (hts (.fieldLink RX0 18 "PlateSlabs$History" "size" "I") (List.mem_of_getElem? (i := 1) rfl)) (fun _ h9 => h9) rfl dX0_push_27 ?_
    refine lv_iconst (v := 1) hx hb dX0_push_30 (by decide) ?_
    refine lv_iadd hx hb dX0_push_31 ?_
    refine lv_tpi (z := nI (n1 + 1)) (nI_1 n1) ?_
    refine va_put (D := D) (ci := 0) (v := .int (nI (n1 + 1))) (C := RX0) (T := TX0) (N := 2) hx hb hts inwX0_push_X0 tyX0 tyX0_ok nmX0 hown hK hP hD hS 0 rfl rfl 1 (by decide) (hts (.fieldLink RX0 18 "PlateSlabs$History" "size" "I") (List.mem_of_getElem? (i := 1) rfl)) (fun _ h9 => h9) rfl (tyX0_ok 1 (by decide)) (rfl) (rfl) (Nat.le_of_ble_eq_true rfl) dX0_push_32 (fun H locs hP hD hS => ?_)
    have hP : va_P D vwCl ([((h 0), .inr (0, [.ref (h 1), .int (nI (n1 + 1))])), ((h 1), .inl (T 4, 4, .inr (.inr (.inr (.inr ((fun i => some (d1 i 0))))))))] ++ (hiT T d1 (va_up σ1 n1 g) ++ sgW T b g)) H := hP
    have hD : va_D A ([((h 0), .inr (0, [.ref (h 1), .int (nI (n1 + 1))])), ((h 1), .inl (T 4, 4, .inr (.inr (.inr (.inr ((fun i => some (d1 i 0))))))))] ++ (hiT T d1 (va_up σ1 n1 g) ++ sgW T b g)) := hD
    have f1 : n1 + 1 = rcN n := by rw [rcN, ← en]
    have f2 : va_up σ1 n1 g = hiS n σ g := by rw [hiS, ← en, ← eσ]
    exact hret _ _ () _ _ dX0_push_35 hS (by rw [← f1, ← f2, ← ed]; exact hP) (by rw [← f1, ← f2, ← ed]; exact hD) trivial
  refine lv_icmp_lt (tgt := 12) hx hb dX0_push_5 (by decide) (fun c5 => ?_) (fun c5 => ?_)
  · skip
    have hn4 : ¬ n = 4 := by
      have := (nI_ltI (by omega) (by omega)).mp c5
      omega
    exact hJ12 n d σ ls _ _ (by omega) (by rw [if_neg hn4]) (by rw [hiD, if_neg hn4]) (by rw [if_neg hn4]) hP hD hS (lv_sub hl [0, 1] rfl)
  · skip
    have hn4 : n = 4 := by
      have := mt (nI_ltI (a := n) (b := 4) (by omega) (by decide)).mpr c5
      omega
    refine lv_aload_n hx hb dX0_push_8 rfl (lv_at hl 0 rfl) ?_
    have hP := wP_perm (hs_perm (hh := hiH T h d n) (sgW T b g)) hP
    have hD := wD_perm (hs_perm (hh := hiH T h d n) (sgW T b g)) hD
    refine callMv (As := []) (wr := (fl [stR T (d 0) (σ 0), stR T (d 1) (σ 1), stR T (d 2) (σ 2), stR T (d 3) (σ 3)] ++ sgW T b g)) ⟨hx, hb, hml, hown, hts⟩ (mX0_dropOldest l T D h d n (stF (d 0) (σ 0)) (stF (d 1) (σ 1)) (stF (d 2) (σ 2)) (stF (d 3) (σ 3))) (cwV 0 hts gX0_push_X0_dropOldest rfl rfl rfl pdX0_dropOldest ⟨Nat.le_of_ble_eq_true rfl, Nat.le_of_ble_eq_true rfl⟩) hP hD hK hS hA xN_bl (fun U _ hW => XN_warm hW hX) (ci := 0) rfl rfl rfl hl.1 rfl rfl (Nat.le_of_ble_eq_true rfl) dX0_push_9 ⟨Nat.zero_le _, Nat.zero_le _⟩ (fun u4_ H locs eu4_ hP hD hS hkf => ?_)
    have hP : va_P D vwCl ([((h 0), .inr (0, [.ref (h 1), .int (nI 3)])), ((h 1), .inl (T 4, 4, .inr (.inr (.inr (.inr ((fun i => some ((rot d) i 0))))))))] ++ (hiT T (rot d) (rot σ) ++ sgW T b g)) H := wP_perm (hrot_perm (hh := hiH T h (rot d) 3) (sgW T b g)) hP
    have hD : va_D A ([((h 0), .inr (0, [.ref (h 1), .int (nI 3)])), ((h 1), .inl (T 4, 4, .inr (.inr (.inr (.inr ((fun i => some ((rot d) i 0))))))))] ++ (hiT T (rot d) (rot σ) ++ sgW T b g)) := wD_perm (hrot_perm (hh := hiH T h (rot d) 3) (sgW T b g)) hD
    exact hJ12 3 (rot d) (rot σ) ls _ _ (by omega) (by rw [if_pos hn4]) (by rw [hiD, if_pos hn4]) (by rw [if_pos hn4]) hP hD hS (lv_sub hl [0, 1] rfl)

def rmX0_popInto : Room := { frames := 3, cells := 0, slots := 0, locals := 103 }
set_option maxHeartbeats 4000000 in
set_option maxRecDepth 100000 in
theorem mX0_popInto (l : Launch) (T : Nat → ClassId) (D : va_G) (h : Nat → Nat) (d : Nat → Nat → Nat) (n : Nat) (σ : Nat → SG) (b : Nat → Nat) (g : SG) (hn : n ≤ 4) (hσ : 0 < n → gOk (σ (n - 1))) : MuI l yX0_popInto wsX0_popInto rmX0_popInto T xN D [.ref (h 0), .ref (b 0)] ([((h 0), .inr (0, [.ref (h 1), .int (nI n)])), ((h 1), .inl (T 4, 4, .inr (.inr (.inr (.inr ((fun i => some (d i 0))))))))] ++ (hiT T d σ ++ sgW T b g)) (S := Nat × SG) (fun r u => (n = 0 ∧ r = -5 ∧ u = (n, g)) ∨ (0 < n ∧ r = nI (n - 1) ∧ u = (n - 1, σ (n - 1)))) (fun u => ([((h 0), .inr (0, [.ref (h 1), .int (nI u.1)])), ((h 1), .inl (T 4, 4, .inr (.inr (.inr (.inr ((fun i => some (d i 0))))))))] ++ (hiT T d σ ++ sgW T b u.2))) 0 0 := by
  refine met_mi (cc := cX0_popInto) (maxL := 2) (by decide) rfl (Nat.le_of_ble_eq_true rfl) ?_
  intro p_ e s m args below meth c ls A Q hx hb hts hown hml hX hP hD hK hS hA hl hret
  have hl : lv_has ls 2 [(0, .ref (h 0)), (1, .ref (b 0))] := hl
  obtain ⟨H, hH⟩ : ∃ H, H = s.heap := ⟨_, rfl⟩
  have hS : va_S A s.heap H [] := by rw [hH]; exact hS
  rw [← hH] at hP ⊢
  refine lv_aload_n hx hb dX0_popInto_0 rfl (lv_at hl 0 rfl) ?_
  refine va_get (D := D) (ci := 0) (v := .int (nI n)) (C := RX0) (T := TX0) (N := 2) hx hb hts inwX0_popInto_X0 hown hK hP 0 rfl rfl 1 (by decide) (hts (.fieldLink RX0 18 "PlateSlabs$History" "size" "I") (List.mem_of_getElem? (i := 1) rfl)) (fun _ h9 => h9) rfl dX0_popInto_1 ?_
  refine lv_iconst (v := 1) hx hb dX0_popInto_4 (by decide) ?_
  refine lv_icmp_ge (tgt := 11) hx hb dX0_popInto_5 (by decide) (fun c5 => ?_) (fun c5 => ?_)
  · skip
    have hn0 : 0 < n := by
      have := (nI_leI (a := 1) (b := n) (by decide) (by omega)).mp c5
      omega
    have hn1 : n - 1 < 4 := by omega
    refine lv_aload_n hx hb dX0_popInto_11 rfl (lv_at hl 0 rfl) ?_
    refine lv_dup hx hb dX0_popInto_12 rfl ?_
    refine va_get (D := D) (ci := 0) (v := .int (nI n)) (C := RX0) (T := TX0) (N := 2) hx hb hts inwX0_popInto_X0 hown hK hP 0 rfl rfl 1 (by decide) (hts (.fieldLink RX0 18 "PlateSlabs$History" "size" "I") (List.mem_of_getElem? (i := 1) rfl)) (fun _ h9 => h9) rfl dX0_popInto_13 ?_
    refine lv_iconst (v := nI 1) hx hb dX0_popInto_16 (by decide) ?_
    refine lv_isub hx hb dX0_popInto_17 ?_
    refine lv_tpi (z := nI (n - 1)) (pk_sub hn0) ?_
    refine va_put (D := D) (ci := 0) (v := .int (nI (n - 1))) (C := RX0) (T := TX0) (N := 2) hx hb hts inwX0_popInto_X0 tyX0 tyX0_ok nmX0 hown hK hP hD hS 0 rfl rfl 1 (by decide) (hts (.fieldLink RX0 18 "PlateSlabs$History" "size" "I") (List.mem_of_getElem? (i := 1) rfl)) (fun _ h9 => h9) rfl (tyX0_ok 1 (by decide)) (rfl) (rfl) (Nat.le_of_ble_eq_true rfl) dX0_popInto_18 (fun H locs hP hD hS => ?_)
    have hP : va_P D vwCl ([((h 0), .inr (0, [.ref (h 1), .int (nI (n - 1))])), ((h 1), .inl (T 4, 4, .inr (.inr (.inr (.inr ((fun i => some (d i 0))))))))] ++ (hiT T d σ ++ sgW T b g)) H := hP
    have hD : va_D A ([((h 0), .inr (0, [.ref (h 1), .int (nI (n - 1))])), ((h 1), .inl (T 4, 4, .inr (.inr (.inr (.inr ((fun i => some (d i 0))))))))] ++ (hiT T d σ ++ sgW T b g)) := hD
    refine lv_aload_n hx hb dX0_popInto_21 rfl (lv_at hl 1 rfl) ?_
    refine lv_aload_n hx hb dX0_popInto_22 rfl (lv_at hl 0 rfl) ?_
    refine va_get (D := D) (ci := 0) (v := .ref (h 1)) (C := RX0) (T := TX0) (N := 2) hx hb hts inwX0_popInto_X0 hown hK hP 0 rfl rfl 0 (by decide) (hts (.fieldLink RX0 11 "PlateSlabs$History" "states" "[LPlateSlabs$State;") (List.mem_of_getElem? (i := 2) rfl)) (fun _ h9 => h9) rfl dX0_popInto_23 ?_
    refine lv_aload_n hx hb dX0_popInto_26 rfl (lv_at hl 0 rfl) ?_
    refine va_get (D := D) (ci := 0) (v := .int (nI (n - 1))) (C := RX0) (T := TX0) (N := 2) hx hb hts inwX0_popInto_X0 hown hK hP 0 rfl rfl 1 (by decide) (hts (.fieldLink RX0 18 "PlateSlabs$History" "size" "I") (List.mem_of_getElem? (i := 1) rfl)) (fun _ h9 => h9) rfl dX0_popInto_27 ?_
    refine va_aldq hx hb hK hP 1 4 rfl rfl (vp_in_nI (by omega) (by decide)) dX0_popInto_30 ?_
    refine lv_tpv (congrArg (fun z => va_rf ((fun i => some (d i 0)) z)) (nI_clamp (by omega))) ?_
    have hP := wP_perm (hq_foc (T := T) (d := d) (σ := σ) (b := b) (g := g) (hh := hiH T h d (n - 1)) hn1) hP
    have hD := wD_perm (hq_foc (T := T) (d := d) (σ := σ) (b := b) (g := g) (hh := hiH T h d (n - 1)) hn1) hD
    refine callMv (As := [.ref (d (n - 1) 0)]) (wr := (hiH T h d (n - 1) ++ hiO T d σ (n - 1))) ⟨hx, hb, hml, hown, hts⟩ (mX2_copyFrom l T D b g.1 g.2.1 g.2.2 (d (n - 1)) (σ (n - 1)).1 (σ (n - 1)).2.1 (σ (n - 1)).2.2 (hσ hn0)) (cwV 1 hts gX0_popInto_X2_copyFrom rfl rfl rfl pdX2_copyFrom ⟨Nat.le_of_ble_eq_true rfl, Nat.le_of_ble_eq_true rfl⟩) hP hD hK hS hA xN_bl (fun U _ hW => XN_warm hW hX) (ci := 2) rfl rfl rfl hl.1 rfl rfl (Nat.le_of_ble_eq_true rfl) dX0_popInto_31 ⟨Nat.zero_le _, Nat.zero_le _⟩ (fun u2_ H locs eu2_ hP hD hS hkf => ?_)
    have hP : va_P D vwCl ([((h 0), .inr (0, [.ref (h 1), .int (nI (n - 1))])), ((h 1), .inl (T 4, 4, .inr (.inr (.inr (.inr ((fun i => some (d i 0))))))))] ++ (hiT T d σ ++ sgW T b (σ (n - 1)))) H := wP_perm ((hq_foc (T := T) (d := d) (σ := σ) (b := b) (g := σ (n - 1)) (hh := hiH T h d (n - 1)) hn1).symm) hP
    have hD : va_D A ([((h 0), .inr (0, [.ref (h 1), .int (nI (n - 1))])), ((h 1), .inl (T 4, 4, .inr (.inr (.inr (.inr ((fun i => some (d i 0))))))))] ++ (hiT T d σ ++ sgW T b (σ (n - 1)))) := wD_perm ((hq_foc (T := T) (d := d) (σ := σ) (b := b) (g := σ (n - 1)) (hh := hiH T h d (n - 1)) hn1).symm) hD
    refine lv_aload_n hx hb dX0_popInto_34 rfl (lv_at hl 0 rfl) ?_
    refine va_get (D := D) (ci := 0) (v := .int (nI (n - 1))) (C := RX0) (T := TX0) (N := 2) hx hb hts inwX0_popInto_X0 hown hK hP 0 rfl rfl 1 (by decide) (hts (.fieldLink RX0 18 "PlateSlabs$History" "size" "I") (List.mem_of_getElem? (i := 1) rfl)) (fun _ h9 => h9) rfl dX0_popInto_35 ?_
    exact hret _ _ _ (n - 1, σ (n - 1)) _ _ dX0_popInto_38 hS hP hD (Or.inr ⟨hn0, rfl, rfl⟩)
  · skip
    have hn0 : n = 0 := by
      have := mt (nI_leI (a := 1) (b := n) (by decide) (by omega)).mpr c5
      omega
    refine lv_bipush (v := (-5)) hx hb dX0_popInto_8 (by decide) ?_
    exact hret _ _ _ (n, g) _ _ dX0_popInto_10 hS hP hD (Or.inl ⟨hn0, rfl, rfl⟩)
