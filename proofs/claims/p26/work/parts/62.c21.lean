theorem pdX1_init : yX1_init.cls = RX1 ∧ yX1_init.cls ≠ "java/lang/invoke/MethodHandle" ∧ yX1_init.cls ≠ "java/lang/invoke/VarHandle" ∧ (parseMethodDescriptor yX1_init.desc).map (fun d => d.parameters.length) = some 0 := by decide +kernel
theorem pdX2_init : yX2_init.cls = RX2 ∧ yX2_init.cls ≠ "java/lang/invoke/MethodHandle" ∧ yX2_init.cls ≠ "java/lang/invoke/VarHandle" ∧ (parseMethodDescriptor yX2_init.desc).map (fun d => d.parameters.length) = some 0 := by decide +kernel
theorem pdX0_init : yX0_init.cls = RX0 ∧ yX0_init.cls ≠ "java/lang/invoke/MethodHandle" ∧ yX0_init.cls ≠ "java/lang/invoke/VarHandle" ∧ (parseMethodDescriptor yX0_init.desc).map (fun d => d.parameters.length) = some 0 := by decide +kernel
theorem pdX3_init : yX3_init.cls = RX3 ∧ yX3_init.cls ≠ "java/lang/invoke/MethodHandle" ∧ yX3_init.cls ≠ "java/lang/invoke/VarHandle" ∧ (parseMethodDescriptor yX3_init.desc).map (fun d => d.parameters.length) = some 0 := by decide +kernel
theorem pdX4_init : yX4_init.cls = RX4 ∧ yX4_init.cls ≠ "java/lang/invoke/MethodHandle" ∧ yX4_init.cls ≠ "java/lang/invoke/VarHandle" ∧ (parseMethodDescriptor yX4_init.desc).map (fun d => d.parameters.length) = some 0 := by decide +kernel
theorem pdX5_init : yX5_init.cls = RX5 ∧ yX5_init.cls ≠ "java/lang/invoke/MethodHandle" ∧ yX5_init.cls ≠ "java/lang/invoke/VarHandle" ∧ (parseMethodDescriptor yX5_init.desc).map (fun d => d.parameters.length) = some 0 := by decide +kernel
theorem inwX1_init_X1 : ∀ w ∈ wsX10, w ∈ wsX1_init := by decide +kernel
theorem inwX2_init_X2 : ∀ w ∈ wsX20, w ∈ wsX2_init := by decide +kernel
theorem inwX2_init_X1 : ∀ w ∈ wsX10, w ∈ wsX2_init := by decide +kernel
theorem inwX0_init_X0 : ∀ w ∈ wsX00, w ∈ wsX0_init := by decide +kernel
theorem inwX0_init_X2 : ∀ w ∈ wsX20, w ∈ wsX0_init := by decide +kernel
theorem inwX0_init_X1 : ∀ w ∈ wsX10, w ∈ wsX0_init := by decide +kernel
theorem inwX3_init_X3 : ∀ w ∈ wsX30, w ∈ wsX3_init := by decide +kernel
theorem inwX4_init_X3 : ∀ w ∈ wsX30, w ∈ wsX4_init := by decide +kernel
theorem inwX4_init_X4 : ∀ w ∈ wsX40, w ∈ wsX4_init := by decide +kernel
theorem inwX5_init_X2 : ∀ w ∈ wsX20, w ∈ wsX5_init := by decide +kernel
theorem inwX5_init_X5 : ∀ w ∈ wsX50, w ∈ wsX5_init := by decide +kernel
theorem inwX5_init_X0 : ∀ w ∈ wsX00, w ∈ wsX5_init := by decide +kernel
theorem inwX5_init_X1 : ∀ w ∈ wsX10, w ∈ wsX5_init := by decide +kernel
theorem inwX5_init_X4 : ∀ w ∈ wsX40, w ∈ wsX5_init := by decide +kernel
theorem inwX5_init_X3 : ∀ w ∈ wsX30, w ∈ wsX5_init := by decide +kernel
theorem pm3 (x y z : va_W) : (x ++ (y ++ z)).Perm (y ++ (x ++ z)) := by
  rw [← List.append_assoc, ← List.append_assoc]
  exact List.Perm.append_right z List.perm_append_comm
def rmX1_init : Room := { frames := 1, cells := 1, slots := 6, locals := 12 }
set_option maxHeartbeats 4000000 in
set_option maxRecDepth 100000 in
theorem mX1_init (l : Launch) (T : Nat → ClassId) (D : va_G) (a : Nat) : MuV l yX1_init wsX1_init rmX1_init T xN D [.ref a] [(a, .inr (1, [.null, .int 0, .int 0, .int 0, .int 0, .long 0, .long 0, .long 0]))] (S := Nat) (fun _ => True) (fun q => plW T a q pV0 pG0) 1 6 := by
  refine met_mv (cc := cX1_init) (maxL := 1) (by decide) rfl (Nat.le_of_ble_eq_true rfl) ?_
  intro p_ e s m args below meth c ls A Q hx hb hts hown hml hX hP hD hK hS hA hl hin hret
  have hl : lv_has ls 1 [(0, .ref a)] := hl
  obtain ⟨H, hH⟩ : ∃ H, H = s.heap := ⟨_, rfl⟩
  have hS : va_S A s.heap H [] := by rw [hH]; exact hS
  rw [← hH] at hP ⊢
  refine lv_aload_n hx hb dX1_init_0 rfl (lv_at hl 0 rfl) ?_
  refine W.objInit hx hb hown (hts (.methodLink RX1 3 objectInit) (List.mem_of_getElem? (i := 1) rfl)) (hts (.instanceMethod objectInit) (List.mem_of_getElem? (i := 2) rfl)) (hts _ (List.mem_of_getElem? (i := 3) rfl)) rfl (by rw [hml]; exact hl.1) rfl dX1_init_1 (Nat.le_of_ble_eq_true rfl) (Nat.le_of_ble_eq_true rfl) ?_
  refine W.eq (g2 := F0 m 4 ls []) rfl ?_
  refine lv_aload_n hx hb dX1_init_4 rfl (lv_at hl 0 rfl) ?_
  refine lv_bipush (v := 6) hx hb dX1_init_5 (by decide) ?_
  refine nw_a hx hb (atype := .int) (hts (.arrayClass .int) (List.mem_of_getElem? (i := 4) rfl)) (ty := .int) rfl 0 rfl hK hP hD hS hA (N' := 6) (a0 := (6, (.inl z0))) (fun _ => rfl) (by decide) (by decide) (Nat.le_of_ble_eq_true rfl) (Nat.le_of_ble_eq_true rfl) (Nat.le_of_ble_eq_true rfl) dX1_init_7 (fun q1_ H hP hD hS => ?_)
  refine W.widen (k := 1) (n := 6) (by omega) (by omega) ?_
  have hP : va_P D vwCl [(q1_, .inl (T 0, 6, .inl (z0))), (a, .inr (1, [.null, .int 0, .int 0, .int 0, .int 0, .long 0, .long 0, .long 0]))] H := hP
  have hD : va_D A [(q1_, .inl (T 0, 6, .inl (z0))), (a, .inr (1, [.null, .int 0, .int 0, .int 0, .int 0, .long 0, .long 0, .long 0]))] := hD
  refine lv_dup hx hb dX1_init_9 rfl ?_
  refine lv_iconst (v := 0) hx hb dX1_init_10 (by decide) ?_
  refine lv_iconst (v := 1) hx hb dX1_init_11 (by decide) ?_
  refine va_iast hx hb hK hP hD hS 0 0 rfl rfl (in_lit (by decide)) dX1_init_12 (fun H locs hP hD hS => ?_)
  rw [cl_0] at hP hD
  have hP : va_P D vwCl [(q1_, .inl (T 0, 6, .inl (upd z0 0 1))), (a, .inr (1, [.null, .int 0, .int 0, .int 0, .int 0, .long 0, .long 0, .long 0]))] H := hP
  have hD : va_D A [(q1_, .inl (T 0, 6, .inl (upd z0 0 1))), (a, .inr (1, [.null, .int 0, .int 0, .int 0, .int 0, .long 0, .long 0, .long 0]))] := hD
  refine lv_dup hx hb dX1_init_13 rfl ?_
  refine lv_iconst (v := 1) hx hb dX1_init_14 (by decide) ?_
  refine lv_iconst (v := 2) hx hb dX1_init_15 (by decide) ?_
  refine va_iast hx hb hK hP hD hS 0 0 rfl rfl (in_lit (by decide)) dX1_init_16 (fun H locs hP hD hS => ?_)
  rw [cl_1] at hP hD
  have hP : va_P D vwCl [(q1_, .inl (T 0, 6, .inl (upd (upd z0 0 1) 1 2))), (a, .inr (1, [.null, .int 0, .int 0, .int 0, .int 0, .long 0, .long 0, .long 0]))] H := hP
  have hD : va_D A [(q1_, .inl (T 0, 6, .inl (upd (upd z0 0 1) 1 2))), (a, .inr (1, [.null, .int 0, .int 0, .int 0, .int 0, .long 0, .long 0, .long 0]))] := hD
  refine lv_dup hx hb dX1_init_17 rfl ?_
  refine lv_iconst (v := 2) hx hb dX1_init_18 (by decide) ?_
  refine lv_iconst (v := 0) hx hb dX1_init_19 (by decide) ?_
  refine va_iast hx hb hK hP hD hS 0 0 rfl rfl (in_lit (by decide)) dX1_init_20 (fun H locs hP hD hS => ?_)
  rw [cl_2] at hP hD
  have hP : va_P D vwCl [(q1_, .inl (T 0, 6, .inl (upd (upd (upd z0 0 1) 1 2) 2 0))), (a, .inr (1, [.null, .int 0, .int 0, .int 0, .int 0, .long 0, .long 0, .long 0]))] H := hP
  have hD : va_D A [(q1_, .inl (T 0, 6, .inl (upd (upd (upd z0 0 1) 1 2) 2 0))), (a, .inr (1, [.null, .int 0, .int 0, .int 0, .int 0, .long 0, .long 0, .long 0]))] := hD
  refine lv_dup hx hb dX1_init_21 rfl ?_
  refine lv_iconst (v := 3) hx hb dX1_init_22 (by decide) ?_
  refine lv_iconst (v := 0) hx hb dX1_init_23 (by decide) ?_
  refine va_iast hx hb hK hP hD hS 0 0 rfl rfl (in_lit (by decide)) dX1_init_24 (fun H locs hP hD hS => ?_)
  rw [cl_3] at hP hD
  have hP : va_P D vwCl [(q1_, .inl (T 0, 6, .inl (upd (upd (upd (upd z0 0 1) 1 2) 2 0) 3 0))), (a, .inr (1, [.null, .int 0, .int 0, .int 0, .int 0, .long 0, .long 0, .long 0]))] H := hP
  have hD : va_D A [(q1_, .inl (T 0, 6, .inl (upd (upd (upd (upd z0 0 1) 1 2) 2 0) 3 0))), (a, .inr (1, [.null, .int 0, .int 0, .int 0, .int 0, .long 0, .long 0, .long 0]))] := hD
  refine lv_dup hx hb dX1_init_25 rfl ?_
  refine lv_iconst (v := 4) hx hb dX1_init_26 (by decide) ?_
  refine lv_iconst (v := 0) hx hb dX1_init_27 (by decide) ?_
  refine va_iast hx hb hK hP hD hS 0 0 rfl rfl (in_lit (by decide)) dX1_init_28 (fun H locs hP hD hS => ?_)
  rw [cl_4] at hP hD
  have hP : va_P D vwCl [(q1_, .inl (T 0, 6, .inl (upd (upd (upd (upd (upd z0 0 1) 1 2) 2 0) 3 0) 4 0))), (a, .inr (1, [.null, .int 0, .int 0, .int 0, .int 0, .long 0, .long 0, .long 0]))] H := hP
  have hD : va_D A [(q1_, .inl (T 0, 6, .inl (upd (upd (upd (upd (upd z0 0 1) 1 2) 2 0) 3 0) 4 0))), (a, .inr (1, [.null, .int 0, .int 0, .int 0, .int 0, .long 0, .long 0, .long 0]))] := hD
  refine lv_dup hx hb dX1_init_29 rfl ?_
  refine lv_iconst (v := 5) hx hb dX1_init_30 (by decide) ?_
  refine lv_iconst (v := 0) hx hb dX1_init_31 (by decide) ?_
  refine va_iast hx hb hK hP hD hS 0 0 rfl rfl (in_lit (by decide)) dX1_init_32 (fun H locs hP hD hS => ?_)
  rw [cl_5] at hP hD
  have hP : va_P D vwCl [(q1_, .inl (T 0, 6, .inl (upd (upd (upd (upd (upd (upd z0 0 1) 1 2) 2 0) 3 0) 4 0) 5 0))), (a, .inr (1, [.null, .int 0, .int 0, .int 0, .int 0, .long 0, .long 0, .long 0]))] H := hP
  have hD : va_D A [(q1_, .inl (T 0, 6, .inl (upd (upd (upd (upd (upd (upd z0 0 1) 1 2) 2 0) 3 0) 4 0) 5 0))), (a, .inr (1, [.null, .int 0, .int 0, .int 0, .int 0, .long 0, .long 0, .long 0]))] := hD
  have hP : va_P D vwCl [(q1_, .inl (T 0, 6, .inl (pV0))), (a, .inr (1, [.null, .int 0, .int 0, .int 0, .int 0, .long 0, .long 0, .long 0]))] H := wP_re hP 0 rfl (at_i (fun j hj => by rcases lt6c hj with rfl | rfl | rfl | rfl | rfl | rfl <;> rfl))
  have hD : va_D A [(q1_, .inl (T 0, 6, .inl (pV0))), (a, .inr (1, [.null, .int 0, .int 0, .int 0, .int 0, .long 0, .long 0, .long 0]))] := wD_ad hD rfl
  refine va_putF (D := D) (ci := 1) (v := .ref q1_) (C := RX1) (T := TX1) (N := 8) hx hb hts inwX1_init_X1 tyX1 tyX1_ok nmX1 hown hK hP hD hS 1 rfl rfl 0 (by decide) (hts (.fieldLink RX1 9 "PlateSlabs$Plates" "settings" "[I") (List.mem_of_getElem? (i := 5) rfl)) (fun _ h9 => h9) rfl hin rfl (tyX1_ok 0 (by decide)) rfl rfl (Nat.le_of_ble_eq_true rfl) dX1_init_33 (fun H locs hP hD hS => ?_)
  have hP : va_P D vwCl [(q1_, .inl (T 0, 6, .inl (pV0))), (a, .inr (1, [.ref q1_, .int 0, .int 0, .int 0, .int 0, .long 0, .long 0, .long 0]))] H := hP
  have hD : va_D A [(q1_, .inl (T 0, 6, .inl (pV0))), (a, .inr (1, [.ref q1_, .int 0, .int 0, .int 0, .int 0, .long 0, .long 0, .long 0]))] := hD
  refine lv_aload_n hx hb dX1_init_36 rfl (lv_at hl 0 rfl) ?_
  refine lv_bipush (v := 10) hx hb dX1_init_37 (by decide) ?_
  refine va_put (D := D) (ci := 1) (v := .int 10) (C := RX1) (T := TX1) (N := 8) hx hb hts inwX1_init_X1 tyX1 tyX1_ok nmX1 hown hK hP hD hS 1 rfl rfl 3 (by decide) (hts (.fieldLink RX1 15 "PlateSlabs$Plates" "voltage" "I") (List.mem_of_getElem? (i := 6) rfl)) (fun _ h9 => h9) rfl (tyX1_ok 3 (by decide)) (rfl) (rfl) (Nat.le_of_ble_eq_true rfl) dX1_init_39 (fun H locs hP hD hS => ?_)
  have hP : va_P D vwCl [(q1_, .inl (T 0, 6, .inl (pV0))), (a, .inr (1, [.ref q1_, .int 0, .int 0, .int 10, .int 0, .long 0, .long 0, .long 0]))] H := hP
  have hD : va_D A [(q1_, .inl (T 0, 6, .inl (pV0))), (a, .inr (1, [.ref q1_, .int 0, .int 0, .int 10, .int 0, .long 0, .long 0, .long 0]))] := hD
  have hP := bP (bs := [[(q1_, .inl (T 0, 6, .inl (pV0)))], [(a, .inr (1, [.ref q1_, .int 0, .int 0, .int 10, .int 0, .long 0, .long 0, .long 0]))]]) (bs' := [[(a, .inr (1, [.ref q1_, .int 0, .int 0, .int 10, .int 0, .long 0, .long 0, .long 0]))], [(q1_, .inl (T 0, 6, .inl (pV0)))]]) hP [1, 0] rfl rfl
  have hD := bD (bs := [[(q1_, .inl (T 0, 6, .inl (pV0)))], [(a, .inr (1, [.ref q1_, .int 0, .int 0, .int 10, .int 0, .long 0, .long 0, .long 0]))]]) (bs' := [[(a, .inr (1, [.ref q1_, .int 0, .int 0, .int 10, .int 0, .long 0, .long 0, .long 0]))], [(q1_, .inl (T 0, 6, .inl (pV0)))]]) hD [1, 0] rfl rfl
  exact hret _ _ q1_ _ _ dX1_init_42 hS hP hD trivial

def rmX2_init : Room := { frames := 2, cells := 9, slots := 60, locals := 32 }
set_option maxHeartbeats 4000000 in
set_option maxRecDepth 100000 in
theorem mX2_init (l : Launch) (T : Nat → ClassId) (D : va_G) (a : Nat) : MuV l yX2_init wsX2_init rmX2_init T xN D [.ref a] [(a, .inr (2, [.null, .int 0, .int 0, .int 0]))] (S := Nat → Nat) (fun c => c 0 = a) (fun c => sgW T c sg0) 9 60 := by
  refine met_mv (cc := cX2_init) (maxL := 2) (by decide) rfl (Nat.le_of_ble_eq_true rfl) ?_
  intro p_ e s m args below meth c ls A Q hx hb hts hown hml hX hP hD hK hS hA hl hin hret
  have hl : lv_has ls 2 [(0, .ref a)] := hl
  obtain ⟨H, hH⟩ : ∃ H, H = s.heap := ⟨_, rfl⟩
  have hS : va_S A s.heap H [] := by rw [hH]; exact hS
  rw [← hH] at hP ⊢
  refine lv_aload_n hx hb dX2_init_0 rfl (lv_at hl 0 rfl) ?_
  refine W.objInit hx hb hown (hts (.methodLink RX2 3 objectInit) (List.mem_of_getElem? (i := 1) rfl)) (hts (.instanceMethod objectInit) (List.mem_of_getElem? (i := 2) rfl)) (hts _ (List.mem_of_getElem? (i := 3) rfl)) rfl (by rw [hml]; exact hl.1) rfl dX2_init_1 (Nat.le_of_ble_eq_true rfl) (Nat.le_of_ble_eq_true rfl) ?_
  refine W.eq (g2 := F0 m 4 ls []) rfl ?_
  refine lv_aload_n hx hb dX2_init_4 rfl (lv_at hl 0 rfl) ?_
  refine lv_iconst (v := 4) hx hb dX2_init_5 (by decide) ?_
  refine nw_q hx hb hown (hts (.classLink RX2 9 RX1) (List.mem_of_getElem? (i := 4) rfl)) hX.2.1 3 rfl hK hP hD hS hA (N' := 4) (by decide) (by decide) (Nat.le_of_ble_eq_true rfl) (Nat.le_of_ble_eq_true rfl) (Nat.le_of_ble_eq_true rfl) dX2_init_6 (fun q1_ H hP hD hS => ?_)
  refine W.widen (k := 1) (n := 4) (by omega) (by omega) ?_
  have hP : va_P D vwCl [(q1_, .inl (T 3, 4, .inr (.inr (.inr (.inr ((fun _ => none))))))), (a, .inr (2, [.null, .int 0, .int 0, .int 0]))] H := hP
  have hD : va_D A [(q1_, .inl (T 3, 4, .inr (.inr (.inr (.inr ((fun _ => none))))))), (a, .inr (2, [.null, .int 0, .int 0, .int 0]))] := hD
  refine va_putF (D := D) (ci := 2) (v := .ref q1_) (C := RX2) (T := TX2) (N := 4) hx hb hts inwX2_init_X2 tyX2 tyX2_ok nmX2 hown hK hP hD hS 1 rfl rfl 0 (by decide) (hts (.fieldLink RX2 11 "PlateSlabs$State" "pairs" "[LPlateSlabs$Plates;") (List.mem_of_getElem? (i := 5) rfl)) (fun _ h9 => h9) rfl hin rfl (tyX2_ok 0 (by decide)) rfl rfl (Nat.le_of_ble_eq_true rfl) dX2_init_9 (fun H locs hP hD hS => ?_)
  have hP : va_P D vwCl [(q1_, .inl (T 3, 4, .inr (.inr (.inr (.inr ((fun _ => none))))))), (a, .inr (2, [.ref q1_, .int 0, .int 0, .int 0]))] H := hP
  have hD : va_D A [(q1_, .inl (T 3, 4, .inr (.inr (.inr (.inr ((fun _ => none))))))), (a, .inr (2, [.ref q1_, .int 0, .int 0, .int 0]))] := hD
  refine lv_iconst (v := 0) hx hb dX2_init_12 (by decide) ?_
  refine lv_istore_n (lv' := [(1, .int 0), (0, .ref a)]) hx hb dX2_init_13 rfl hl (by decide) rfl (fun ls hl => ?_)
  refine lv_iload_n hx hb dX2_init_14 rfl (lv_at hl 0 rfl) ?_
  refine lv_iconst (v := 4) hx hb dX2_init_15 (by decide) ?_
  refine lv_icmp_ge (tgt := 38) hx hb dX2_init_16 (by decide) (fun c16 => ?_) (fun c16 => ?_)
  · skip
    exact absurd c16 (by decide)
  · skip
    refine lv_aload_n hx hb dX2_init_19 rfl (lv_at hl 1 rfl) ?_
    refine va_get (D := D) (ci := 2) (v := .ref q1_) (C := RX2) (T := TX2) (N := 4) hx hb hts inwX2_init_X2 hown hK hP 1 rfl rfl 0 (by decide) (hts (.fieldLink RX2 11 "PlateSlabs$State" "pairs" "[LPlateSlabs$Plates;") (List.mem_of_getElem? (i := 5) rfl)) (fun _ h9 => h9) rfl dX2_init_20 ?_
    refine lv_iload_n hx hb dX2_init_23 rfl (lv_at hl 0 rfl) ?_
    refine nw_o (ci := 1) (fs := [.null, .int 0, .int 0, .int 0, .int 0, .long 0, .long 0, .long 0]) (C := RX1) (TT := TX1) (N := 8) hx hb hts inwX2_init_X1 tyX1 tyX1_ok hown (hts (.classLink RX2 9 RX1) (List.mem_of_getElem? (i := 4) rfl)) (hts (.instantiable RX1 8) (List.mem_of_getElem? (i := 6) rfl)) (hts (.initialized RX1) (List.mem_of_getElem? (i := 7) rfl)) hK hP hD hS hA rfl (fun j hj => by rcases (show j = 0 ∨ j = 1 ∨ j = 2 ∨ j = 3 ∨ j = 4 ∨ j = 5 ∨ j = 6 ∨ j = 7 by omega) with rfl | rfl | rfl | rfl | rfl | rfl | rfl | rfl <;> rfl) (Nat.le_of_ble_eq_true rfl) (Nat.le_of_ble_eq_true rfl) dX2_init_24 (fun q2_ H hP hD hS => ?_)
    refine W.widen (k := 2) (n := 12) (by omega) (by omega) ?_
    have hP : va_P D vwCl [(q2_, .inr (1, [.null, .int 0, .int 0, .int 0, .int 0, .long 0, .long 0, .long 0])), (q1_, .inl (T 3, 4, .inr (.inr (.inr (.inr ((fun _ => none))))))), (a, .inr (2, [.ref q1_, .int 0, .int 0, .int 0]))] H := hP
    have hD : va_D A [(q2_, .inr (1, [.null, .int 0, .int 0, .int 0, .int 0, .long 0, .long 0, .long 0])), (q1_, .inl (T 3, 4, .inr (.inr (.inr (.inr ((fun _ => none))))))), (a, .inr (2, [.ref q1_, .int 0, .int 0, .int 0]))] := hD
    refine lv_dup hx hb dX2_init_27 rfl ?_
    refine callIN (As := []) (wr := [(q1_, .inl (T 3, 4, .inr (.inr (.inr (.inr ((fun _ => none))))))), (a, .inr (2, [.ref q1_, .int 0, .int 0, .int 0]))]) ⟨hx, hb, hml, hown, hts⟩ (mX1_init l T D q2_) ⟨va_cnB 0 hts gX2_init_X1_init_n17 rfl rfl rfl (hX.1 _ (List.mem_of_getElem? (i := 0) rfl)) (hts (.initialized RX1) (List.mem_of_getElem? (i := 7) rfl)) (pdX1_init).2 ⟨Nat.le_of_ble_eq_true rfl, Nat.le_of_ble_eq_true rfl⟩, rfl, (hts (.instanceMethod yX1_init) (List.mem_of_getElem? (i := 8) rfl))⟩ hP hD hK hS hA xN_bl (fun U _ hW => XN_warm hW hX) hl.1 rfl rfl (Nat.le_of_ble_eq_true rfl) dX2_init_28 ⟨Nat.le_of_ble_eq_true rfl, Nat.le_of_ble_eq_true rfl⟩ (fun u4_ H locs eu4_ hP hD hS => ?_)
    refine W.widen (k := 3) (n := 18) (by omega) (by omega) ?_
    have hP : va_P D vwCl [(q2_, .inr (1, [.ref u4_, .int (pV0 6), .int (pV0 7), .int (pV0 8), .int (pV0 9), .long (pG0 0), .long (pG0 1), .long (pG0 2)])), (u4_, .inl (T 0, 6, .inl (pV0))), (q1_, .inl (T 3, 4, .inr (.inr (.inr (.inr ((fun _ => none))))))), (a, .inr (2, [.ref q1_, .int 0, .int 0, .int 0]))] H := hP
    have hD : va_D A [(q2_, .inr (1, [.ref u4_, .int (pV0 6), .int (pV0 7), .int (pV0 8), .int (pV0 9), .long (pG0 0), .long (pG0 1), .long (pG0 2)])), (u4_, .inl (T 0, 6, .inl (pV0))), (q1_, .inl (T 3, 4, .inr (.inr (.inr (.inr ((fun _ => none))))))), (a, .inr (2, [.ref q1_, .int 0, .int 0, .int 0]))] := hD
    refine va_astq hx hb hK hP hD hS 2 3 0 1 rfl rfl rfl rfl (in_lit (by decide)) dX2_init_31 (fun H locs hP hD hS => ?_)
    rw [cl_0] at hP hD
    have hP : va_P D vwCl [(q2_, .inr (1, [.ref u4_, .int (pV0 6), .int (pV0 7), .int (pV0 8), .int (pV0 9), .long (pG0 0), .long (pG0 1), .long (pG0 2)])), (u4_, .inl (T 0, 6, .inl (pV0))), (q1_, .inl (T 3, 4, .inr (.inr (.inr (.inr (va_up (fun _ => none) 0 (some q2_))))))), (a, .inr (2, [.ref q1_, .int 0, .int 0, .int 0]))] H := hP
    have hD : va_D A [(q2_, .inr (1, [.ref u4_, .int (pV0 6), .int (pV0 7), .int (pV0 8), .int (pV0 9), .long (pG0 0), .long (pG0 1), .long (pG0 2)])), (u4_, .inl (T 0, 6, .inl (pV0))), (q1_, .inl (T 3, 4, .inr (.inr (.inr (.inr (va_up (fun _ => none) 0 (some q2_))))))), (a, .inr (2, [.ref q1_, .int 0, .int 0, .int 0]))] := hD
    refine lv_iinc (v := 1) (lv' := [(1, .int (1)), (0, .ref a)]) hx hb dX2_init_32 hl (k := 0) rfl (by decide) (by decide) rfl (fun ls hl => ?_)
    refine lv_goto (tgt := 14) hx hb dX2_init_35 (by decide) ?_
    refine lv_iload_n hx hb dX2_init_14 rfl (lv_at hl 0 rfl) ?_
    refine lv_iconst (v := 4) hx hb dX2_init_15 (by decide) ?_
    refine lv_icmp_ge (tgt := 38) hx hb dX2_init_16 (by decide) (fun c16 => ?_) (fun c16 => ?_)
    · skip
      exact absurd c16 (by decide)
    · skip
      refine lv_aload_n hx hb dX2_init_19 rfl (lv_at hl 1 rfl) ?_
      refine va_get (D := D) (ci := 2) (v := .ref q1_) (C := RX2) (T := TX2) (N := 4) hx hb hts inwX2_init_X2 hown hK hP 3 rfl rfl 0 (by decide) (hts (.fieldLink RX2 11 "PlateSlabs$State" "pairs" "[LPlateSlabs$Plates;") (List.mem_of_getElem? (i := 5) rfl)) (fun _ h9 => h9) rfl dX2_init_20 ?_
      refine lv_iload_n hx hb dX2_init_23 rfl (lv_at hl 0 rfl) ?_
      refine nw_o (ci := 1) (fs := [.null, .int 0, .int 0, .int 0, .int 0, .long 0, .long 0, .long 0]) (C := RX1) (TT := TX1) (N := 8) hx hb hts inwX2_init_X1 tyX1 tyX1_ok hown (hts (.classLink RX2 9 RX1) (List.mem_of_getElem? (i := 4) rfl)) (hts (.instantiable RX1 8) (List.mem_of_getElem? (i := 6) rfl)) (hts (.initialized RX1) (List.mem_of_getElem? (i := 7) rfl)) hK hP hD hS hA rfl (fun j hj => by rcases (show j = 0 ∨ j = 1 ∨ j = 2 ∨ j = 3 ∨ j = 4 ∨ j = 5 ∨ j = 6 ∨ j = 7 by omega) with rfl | rfl | rfl | rfl | rfl | rfl | rfl | rfl <;> rfl) (Nat.le_of_ble_eq_true rfl) (Nat.le_of_ble_eq_true rfl) dX2_init_24 (fun q5_ H hP hD hS => ?_)
      refine W.widen (k := 4) (n := 26) (by omega) (by omega) ?_
      have hP : va_P D vwCl [(q5_, .inr (1, [.null, .int 0, .int 0, .int 0, .int 0, .long 0, .long 0, .long 0])), (q2_, .inr (1, [.ref u4_, .int (pV0 6), .int (pV0 7), .int (pV0 8), .int (pV0 9), .long (pG0 0), .long (pG0 1), .long (pG0 2)])), (u4_, .inl (T 0, 6, .inl (pV0))), (q1_, .inl (T 3, 4, .inr (.inr (.inr (.inr (va_up (fun _ => none) 0 (some q2_))))))), (a, .inr (2, [.ref q1_, .int 0, .int 0, .int 0]))] H := hP
      have hD : va_D A [(q5_, .inr (1, [.null, .int 0, .int 0, .int 0, .int 0, .long 0, .long 0, .long 0])), (q2_, .inr (1, [.ref u4_, .int (pV0 6), .int (pV0 7), .int (pV0 8), .int (pV0 9), .long (pG0 0), .long (pG0 1), .long (pG0 2)])), (u4_, .inl (T 0, 6, .inl (pV0))), (q1_, .inl (T 3, 4, .inr (.inr (.inr (.inr (va_up (fun _ => none) 0 (some q2_))))))), (a, .inr (2, [.ref q1_, .int 0, .int 0, .int 0]))] := hD
      refine lv_dup hx hb dX2_init_27 rfl ?_
      refine callIN (As := []) (wr := [(q2_, .inr (1, [.ref u4_, .int (pV0 6), .int (pV0 7), .int (pV0 8), .int (pV0 9), .long (pG0 0), .long (pG0 1), .long (pG0 2)])), (u4_, .inl (T 0, 6, .inl (pV0))), (q1_, .inl (T 3, 4, .inr (.inr (.inr (.inr (va_up (fun _ => none) 0 (some q2_))))))), (a, .inr (2, [.ref q1_, .int 0, .int 0, .int 0]))]) ⟨hx, hb, hml, hown, hts⟩ (mX1_init l T D q5_) ⟨va_cnB 0 hts gX2_init_X1_init_n17 rfl rfl rfl (hX.1 _ (List.mem_of_getElem? (i := 0) rfl)) (hts (.initialized RX1) (List.mem_of_getElem? (i := 7) rfl)) (pdX1_init).2 ⟨Nat.le_of_ble_eq_true rfl, Nat.le_of_ble_eq_true rfl⟩, rfl, (hts (.instanceMethod yX1_init) (List.mem_of_getElem? (i := 8) rfl))⟩ hP hD hK hS hA xN_bl (fun U _ hW => XN_warm hW hX) hl.1 rfl rfl (Nat.le_of_ble_eq_true rfl) dX2_init_28 ⟨Nat.le_of_ble_eq_true rfl, Nat.le_of_ble_eq_true rfl⟩ (fun u7_ H locs eu7_ hP hD hS => ?_)
      refine W.widen (k := 5) (n := 32) (by omega) (by omega) ?_
      have hP : va_P D vwCl [(q5_, .inr (1, [.ref u7_, .int (pV0 6), .int (pV0 7), .int (pV0 8), .int (pV0 9), .long (pG0 0), .long (pG0 1), .long (pG0 2)])), (u7_, .inl (T 0, 6, .inl (pV0))), (q2_, .inr (1, [.ref u4_, .int (pV0 6), .int (pV0 7), .int (pV0 8), .int (pV0 9), .long (pG0 0), .long (pG0 1), .long (pG0 2)])), (u4_, .inl (T 0, 6, .inl (pV0))), (q1_, .inl (T 3, 4, .inr (.inr (.inr (.inr (va_up (fun _ => none) 0 (some q2_))))))), (a, .inr (2, [.ref q1_, .int 0, .int 0, .int 0]))] H := hP
      have hD : va_D A [(q5_, .inr (1, [.ref u7_, .int (pV0 6), .int (pV0 7), .int (pV0 8), .int (pV0 9), .long (pG0 0), .long (pG0 1), .long (pG0 2)])), (u7_, .inl (T 0, 6, .inl (pV0))), (q2_, .inr (1, [.ref u4_, .int (pV0 6), .int (pV0 7), .int (pV0 8), .int (pV0 9), .long (pG0 0), .long (pG0 1), .long (pG0 2)])), (u4_, .inl (T 0, 6, .inl (pV0))), (q1_, .inl (T 3, 4, .inr (.inr (.inr (.inr (va_up (fun _ => none) 0 (some q2_))))))), (a, .inr (2, [.ref q1_, .int 0, .int 0, .int 0]))] := hD
      refine va_astq hx hb hK hP hD hS 4 3 0 1 rfl rfl rfl rfl (in_lit (by decide)) dX2_init_31 (fun H locs hP hD hS => ?_)
      rw [cl_1] at hP hD
      have hP : va_P D vwCl [(q5_, .inr (1, [.ref u7_, .int (pV0 6), .int (pV0 7), .int (pV0 8), .int (pV0 9), .long (pG0 0), .long (pG0 1), .long (pG0 2)])), (u7_, .inl (T 0, 6, .inl (pV0))), (q2_, .inr (1, [.ref u4_, .int (pV0 6), .int (pV0 7), .int (pV0 8), .int (pV0 9), .long (pG0 0), .long (pG0 1), .long (pG0 2)])), (u4_, .inl (T 0, 6, .inl (pV0))), (q1_, .inl (T 3, 4, .inr (.inr (.inr (.inr (va_up (va_up (fun _ => none) 0 (some q2_)) 1 (some q5_))))))), (a, .inr (2, [.ref q1_, .int 0, .int 0, .int 0]))] H := hP
      have hD : va_D A [(q5_, .inr (1, [.ref u7_, .int (pV0 6), .int (pV0 7), .int (pV0 8), .int (pV0 9), .long (pG0 0), .long (pG0 1), .long (pG0 2)])), (u7_, .inl (T 0, 6, .inl (pV0))), (q2_, .inr (1, [.ref u4_, .int (pV0 6), .int (pV0 7), .int (pV0 8), .int (pV0 9), .long (pG0 0), .long (pG0 1), .long (pG0 2)])), (u4_, .inl (T 0, 6, .inl (pV0))), (q1_, .inl (T 3, 4, .inr (.inr (.inr (.inr (va_up (va_up (fun _ => none) 0 (some q2_)) 1 (some q5_))))))), (a, .inr (2, [.ref q1_, .int 0, .int 0, .int 0]))] := hD
      refine lv_iinc (v := 2) (lv' := [(1, .int (2)), (0, .ref a)]) hx hb dX2_init_32 hl (k := 0) rfl (by decide) (by decide) rfl (fun ls hl => ?_)
      refine lv_goto (tgt := 14) hx hb dX2_init_35 (by decide) ?_
      refine lv_iload_n hx hb dX2_init_14 rfl (lv_at hl 0 rfl) ?_
      refine lv_iconst (v := 4) hx hb dX2_init_15 (by decide) ?_
      refine lv_icmp_ge (tgt := 38) hx hb dX2_init_16 (by decide) (fun c16 => ?_) (fun c16 => ?_)
      · skip
        exact absurd c16 (by decide)
      · skip
        refine lv_aload_n hx hb dX2_init_19 rfl (lv_at hl 1 rfl) ?_
        refine va_get (D := D) (ci := 2) (v := .ref q1_) (C := RX2) (T := TX2) (N := 4) hx hb hts inwX2_init_X2 hown hK hP 5 rfl rfl 0 (by decide) (hts (.fieldLink RX2 11 "PlateSlabs$State" "pairs" "[LPlateSlabs$Plates;") (List.mem_of_getElem? (i := 5) rfl)) (fun _ h9 => h9) rfl dX2_init_20 ?_
        refine lv_iload_n hx hb dX2_init_23 rfl (lv_at hl 0 rfl) ?_
        refine nw_o (ci := 1) (fs := [.null, .int 0, .int 0, .int 0, .int 0, .long 0, .long 0, .long 0]) (C := RX1) (TT := TX1) (N := 8) hx hb hts inwX2_init_X1 tyX1 tyX1_ok hown (hts (.classLink RX2 9 RX1) (List.mem_of_getElem? (i := 4) rfl)) (hts (.instantiable RX1 8) (List.mem_of_getElem? (i := 6) rfl)) (hts (.initialized RX1) (List.mem_of_getElem? (i := 7) rfl)) hK hP hD hS hA rfl (fun j hj => by rcases (show j = 0 ∨ j = 1 ∨ j = 2 ∨ j = 3 ∨ j = 4 ∨ j = 5 ∨ j = 6 ∨ j = 7 by omega) with rfl | rfl | rfl | rfl | rfl | rfl | rfl | rfl <;> rfl) (Nat.le_of_ble_eq_true rfl) (Nat.le_of_ble_eq_true rfl) dX2_init_24 (fun q8_ H hP hD hS => ?_)
        refine W.widen (k := 6) (n := 40) (by omega) (by omega) ?_
        have hP : va_P D vwCl [(q8_, .inr (1, [.null, .int 0, .int 0, .int 0, .int 0, .long 0, .long 0, .long 0])), (q5_, .inr (1, [.ref u7_, .int (pV0 6), .int (pV0 7), .int (pV0 8), .int (pV0 9), .long (pG0 0), .long (pG0 1), .long (pG0 2)])), (u7_, .inl (T 0, 6, .inl (pV0))), (q2_, .inr (1, [.ref u4_, .int (pV0 6), .int (pV0 7), .int (pV0 8), .int (pV0 9), .long (pG0 0), .long (pG0 1), .long (pG0 2)])), (u4_, .inl (T 0, 6, .inl (pV0))), (q1_, .inl (T 3, 4, .inr (.inr (.inr (.inr (va_up (va_up (fun _ => none) 0 (some q2_)) 1 (some q5_))))))), (a, .inr (2, [.ref q1_, .int 0, .int 0, .int 0]))] H := hP
        have hD : va_D A [(q8_, .inr (1, [.null, .int 0, .int 0, .int 0, .int 0, .long 0, .long 0, .long 0])), (q5_, .inr (1, [.ref u7_, .int (pV0 6), .int (pV0 7), .int (pV0 8), .int (pV0 9), .long (pG0 0), .long (pG0 1), .long (pG0 2)])), (u7_, .inl (T 0, 6, .inl (pV0))), (q2_, .inr (1, [.ref u4_, .int (pV0 6), .int (pV0 7), .int (pV0 8), .int (pV0 9), .long (pG0 0), .long (pG0 1), .long (pG0 2)])), (u4_, .inl (T 0, 6, .inl (pV0))), (q1_, .inl (T 3, 4, .inr (.inr (.inr (.inr (va_up (va_up (fun _ => none) 0 (some q2_)) 1 (some q5_))))))), (a, .inr (2, [.ref q1_, .int 0, .int 0, .int 0]))] := hD
        refine lv_dup hx hb dX2_init_27 rfl ?_
        refine callIN (As := []) (wr := [(q5_, .inr (1, [.ref u7_, .int (pV0 6), .int (pV0 7), .int (pV0 8), .int (pV0 9), .long (pG0 0), .long (pG0 1), .long (pG0 2)])), (u7_, .inl (T 0, 6, .inl (pV0))), (q2_, .inr (1, [.ref u4_, .int (pV0 6), .int (pV0 7), .int (pV0 8), .int (pV0 9), .long (pG0 0), .long (pG0 1), .long (pG0 2)])), (u4_, .inl (T 0, 6, .inl (pV0))), (q1_, .inl (T 3, 4, .inr (.inr (.inr (.inr (va_up (va_up (fun _ => none) 0 (some q2_)) 1 (some q5_))))))), (a, .inr (2, [.ref q1_, .int 0, .int 0, .int 0]))]) ⟨hx, hb, hml, hown, hts⟩ (mX1_init l T D q8_) ⟨va_cnB 0 hts gX2_init_X1_init_n17 rfl rfl rfl (hX.1 _ (List.mem_of_getElem? (i := 0) rfl)) (hts (.initialized RX1) (List.mem_of_getElem? (i := 7) rfl)) (pdX1_init).2 ⟨Nat.le_of_ble_eq_true rfl, Nat.le_of_ble_eq_true rfl⟩, rfl, (hts (.instanceMethod yX1_init) (List.mem_of_getElem? (i := 8) rfl))⟩ hP hD hK hS hA xN_bl (fun U _ hW => XN_warm hW hX) hl.1 rfl rfl (Nat.le_of_ble_eq_true rfl) dX2_init_28 ⟨Nat.le_of_ble_eq_true rfl, Nat.le_of_ble_eq_true rfl⟩ (fun u10_ H locs eu10_ hP hD hS => ?_)
        refine W.widen (k := 7) (n := 46) (by omega) (by omega) ?_
        have hP : va_P D vwCl [(q8_, .inr (1, [.ref u10_, .int (pV0 6), .int (pV0 7), .int (pV0 8), .int (pV0 9), .long (pG0 0), .long (pG0 1), .long (pG0 2)])), (u10_, .inl (T 0, 6, .inl (pV0))), (q5_, .inr (1, [.ref u7_, .int (pV0 6), .int (pV0 7), .int (pV0 8), .int (pV0 9), .long (pG0 0), .long (pG0 1), .long (pG0 2)])), (u7_, .inl (T 0, 6, .inl (pV0))), (q2_, .inr (1, [.ref u4_, .int (pV0 6), .int (pV0 7), .int (pV0 8), .int (pV0 9), .long (pG0 0), .long (pG0 1), .long (pG0 2)])), (u4_, .inl (T 0, 6, .inl (pV0))), (q1_, .inl (T 3, 4, .inr (.inr (.inr (.inr (va_up (va_up (fun _ => none) 0 (some q2_)) 1 (some q5_))))))), (a, .inr (2, [.ref q1_, .int 0, .int 0, .int 0]))] H := hP
        have hD : va_D A [(q8_, .inr (1, [.ref u10_, .int (pV0 6), .int (pV0 7), .int (pV0 8), .int (pV0 9), .long (pG0 0), .long (pG0 1), .long (pG0 2)])), (u10_, .inl (T 0, 6, .inl (pV0))), (q5_, .inr (1, [.ref u7_, .int (pV0 6), .int (pV0 7), .int (pV0 8), .int (pV0 9), .long (pG0 0), .long (pG0 1), .long (pG0 2)])), (u7_, .inl (T 0, 6, .inl (pV0))), (q2_, .inr (1, [.ref u4_, .int (pV0 6), .int (pV0 7), .int (pV0 8), .int (pV0 9), .long (pG0 0), .long (pG0 1), .long (pG0 2)])), (u4_, .inl (T 0, 6, .inl (pV0))), (q1_, .inl (T 3, 4, .inr (.inr (.inr (.inr (va_up (va_up (fun _ => none) 0 (some q2_)) 1 (some q5_))))))), (a, .inr (2, [.ref q1_, .int 0, .int 0, .int 0]))] := hD
        refine va_astq hx hb hK hP hD hS 6 3 0 1 rfl rfl rfl rfl (in_lit (by decide)) dX2_init_31 (fun H locs hP hD hS => ?_)
        rw [cl_2] at hP hD
        have hP : va_P D vwCl [(q8_, .inr (1, [.ref u10_, .int (pV0 6), .int (pV0 7), .int (pV0 8), .int (pV0 9), .long (pG0 0), .long (pG0 1), .long (pG0 2)])), (u10_, .inl (T 0, 6, .inl (pV0))), (q5_, .inr (1, [.ref u7_, .int (pV0 6), .int (pV0 7), .int (pV0 8), .int (pV0 9), .long (pG0 0), .long (pG0 1), .long (pG0 2)])), (u7_, .inl (T 0, 6, .inl (pV0))), (q2_, .inr (1, [.ref u4_, .int (pV0 6), .int (pV0 7), .int (pV0 8), .int (pV0 9), .long (pG0 0), .long (pG0 1), .long (pG0 2)])), (u4_, .inl (T 0, 6, .inl (pV0))), (q1_, .inl (T 3, 4, .inr (.inr (.inr (.inr (va_up (va_up (va_up (fun _ => none) 0 (some q2_)) 1 (some q5_)) 2 (some q8_))))))), (a, .inr (2, [.ref q1_, .int 0, .int 0, .int 0]))] H := hP
        have hD : va_D A [(q8_, .inr (1, [.ref u10_, .int (pV0 6), .int (pV0 7), .int (pV0 8), .int (pV0 9), .long (pG0 0), .long (pG0 1), .long (pG0 2)])), (u10_, .inl (T 0, 6, .inl (pV0))), (q5_, .inr (1, [.ref u7_, .int (pV0 6), .int (pV0 7), .int (pV0 8), .int (pV0 9), .long (pG0 0), .long (pG0 1), .long (pG0 2)])), (u7_, .inl (T 0, 6, .inl (pV0))), (q2_, .inr (1, [.ref u4_, .int (pV0 6), .int (pV0 7), .int (pV0 8), .int (pV0 9), .long (pG0 0), .long (pG0 1), .long (pG0 2)])), (u4_, .inl (T 0, 6, .inl (pV0))), (q1_, .inl (T 3, 4, .inr (.inr (.inr (.inr (va_up (va_up (va_up (fun _ => none) 0 (some q2_)) 1 (some q5_)) 2 (some q8_))))))), (a, .inr (2, [.ref q1_, .int 0, .int 0, .int 0]))] := hD
        refine lv_iinc (v := 3) (lv' := [(1, .int (3)), (0, .ref a)]) hx hb dX2_init_32 hl (k := 0) rfl (by decide) (by decide) rfl (fun ls hl => ?_)
        refine lv_goto (tgt := 14) hx hb dX2_init_35 (by decide) ?_
        refine lv_iload_n hx hb dX2_init_14 rfl (lv_at hl 0 rfl) ?_
        refine lv_iconst (v := 4) hx hb dX2_init_15 (by decide) ?_
        refine lv_icmp_ge (tgt := 38) hx hb dX2_init_16 (by decide) (fun c16 => ?_) (fun c16 => ?_)
        · skip
          exact absurd c16 (by decide)
        · skip
          refine lv_aload_n hx hb dX2_init_19 rfl (lv_at hl 1 rfl) ?_
          refine va_get (D := D) (ci := 2) (v := .ref q1_) (C := RX2) (T := TX2) (N := 4) hx hb hts inwX2_init_X2 hown hK hP 7 rfl rfl 0 (by decide) (hts (.fieldLink RX2 11 "PlateSlabs$State" "pairs" "[LPlateSlabs$Plates;") (List.mem_of_getElem? (i := 5) rfl)) (fun _ h9 => h9) rfl dX2_init_20 ?_
          refine lv_iload_n hx hb dX2_init_23 rfl (lv_at hl 0 rfl) ?_
          refine nw_o (ci := 1) (fs := [.null, .int 0, .int 0, .int 0, .int 0, .long 0, .long 0, .long 0]) (C := RX1) (TT := TX1) (N := 8) hx hb hts inwX2_init_X1 tyX1 tyX1_ok hown (hts (.classLink RX2 9 RX1) (List.mem_of_getElem? (i := 4) rfl)) (hts (.instantiable RX1 8) (List.mem_of_getElem? (i := 6) rfl)) (hts (.initialized RX1) (List.mem_of_getElem? (i := 7) rfl)) hK hP hD hS hA rfl (fun j hj => by rcases (show j = 0 ∨ j = 1 ∨ j = 2 ∨ j = 3 ∨ j = 4 ∨ j = 5 ∨ j = 6 ∨ j = 7 by omega) with rfl | rfl | rfl | rfl | rfl | rfl | rfl | rfl <;> rfl) (Nat.le_of_ble_eq_true rfl) (Nat.le_of_ble_eq_true rfl) dX2_init_24 (fun q11_ H hP hD hS => ?_)
          refine W.widen (k := 8) (n := 54) (by omega) (by omega) ?_
          have hP : va_P D vwCl [(q11_, .inr (1, [.null, .int 0, .int 0, .int 0, .int 0, .long 0, .long 0, .long 0])), (q8_, .inr (1, [.ref u10_, .int (pV0 6), .int (pV0 7), .int (pV0 8), .int (pV0 9), .long (pG0 0), .long (pG0 1), .long (pG0 2)])), (u10_, .inl (T 0, 6, .inl (pV0))), (q5_, .inr (1, [.ref u7_, .int (pV0 6), .int (pV0 7), .int (pV0 8), .int (pV0 9), .long (pG0 0), .long (pG0 1), .long (pG0 2)])), (u7_, .inl (T 0, 6, .inl (pV0))), (q2_, .inr (1, [.ref u4_, .int (pV0 6), .int (pV0 7), .int (pV0 8), .int (pV0 9), .long (pG0 0), .long (pG0 1), .long (pG0 2)])), (u4_, .inl (T 0, 6, .inl (pV0))), (q1_, .inl (T 3, 4, .inr (.inr (.inr (.inr (va_up (va_up (va_up (fun _ => none) 0 (some q2_)) 1 (some q5_)) 2 (some q8_))))))), (a, .inr (2, [.ref q1_, .int 0, .int 0, .int 0]))] H := hP
          have hD : va_D A [(q11_, .inr (1, [.null, .int 0, .int 0, .int 0, .int 0, .long 0, .long 0, .long 0])), (q8_, .inr (1, [.ref u10_, .int (pV0 6), .int (pV0 7), .int (pV0 8), .int (pV0 9), .long (pG0 0), .long (pG0 1), .long (pG0 2)])), (u10_, .inl (T 0, 6, .inl (pV0))), (q5_, .inr (1, [.ref u7_, .int (pV0 6), .int (pV0 7), .int (pV0 8), .int (pV0 9), .long (pG0 0), .long (pG0 1), .long (pG0 2)])), (u7_, .inl (T 0, 6, .inl (pV0))), (q2_, .inr (1, [.ref u4_, .int (pV0 6), .int (pV0 7), .int (pV0 8), .int (pV0 9), .long (pG0 0), .long (pG0 1), .long (pG0 2)])), (u4_, .inl (T 0, 6, .inl (pV0))), (q1_, .inl (T 3, 4, .inr (.inr (.inr (.inr (va_up (va_up (va_up (fun _ => none) 0 (some q2_)) 1 (some q5_)) 2 (some q8_))))))), (a, .inr (2, [.ref q1_, .int 0, .int 0, .int 0]))] := hD
          refine lv_dup hx hb dX2_init_27 rfl ?_
          refine callIN (As := []) (wr := [(q8_, .inr (1, [.ref u10_, .int (pV0 6), .int (pV0 7), .int (pV0 8), .int (pV0 9), .long (pG0 0), .long (pG0 1), .long (pG0 2)])), (u10_, .inl (T 0, 6, .inl (pV0))), (q5_, .inr (1, [.ref u7_, .int (pV0 6), .int (pV0 7), .int (pV0 8), .int (pV0 9), .long (pG0 0), .long (pG0 1), .long (pG0 2)])), (u7_, .inl (T 0, 6, .inl (pV0))), (q2_, .inr (1, [.ref u4_, .int (pV0 6), .int (pV0 7), .int (pV0 8), .int (pV0 9), .long (pG0 0), .long (pG0 1), .long (pG0 2)])), (u4_, .inl (T 0, 6, .inl (pV0))), (q1_, .inl (T 3, 4, .inr (.inr (.inr (.inr (va_up (va_up (va_up (fun _ => none) 0 (some q2_)) 1 (some q5_)) 2 (some q8_))))))), (a, .inr (2, [.ref q1_, .int 0, .int 0, .int 0]))]) ⟨hx, hb, hml, hown, hts⟩ (mX1_init l T D q11_) ⟨va_cnB 0 hts gX2_init_X1_init_n17 rfl rfl rfl (hX.1 _ (List.mem_of_getElem? (i := 0) rfl)) (hts (.initialized RX1) (List.mem_of_getElem? (i := 7) rfl)) (pdX1_init).2 ⟨Nat.le_of_ble_eq_true rfl, Nat.le_of_ble_eq_true rfl⟩, rfl, (hts (.instanceMethod yX1_init) (List.mem_of_getElem? (i := 8) rfl))⟩ hP hD hK hS hA xN_bl (fun U _ hW => XN_warm hW hX) hl.1 rfl rfl (Nat.le_of_ble_eq_true rfl) dX2_init_28 ⟨Nat.le_of_ble_eq_true rfl, Nat.le_of_ble_eq_true rfl⟩ (fun u13_ H locs eu13_ hP hD hS => ?_)
          refine W.widen (k := 9) (n := 60) (by omega) (by omega) ?_
          have hP : va_P D vwCl [(q11_, .inr (1, [.ref u13_, .int (pV0 6), .int (pV0 7), .int (pV0 8), .int (pV0 9), .long (pG0 0), .long (pG0 1), .long (pG0 2)])), (u13_, .inl (T 0, 6, .inl (pV0))), (q8_, .inr (1, [.ref u10_, .int (pV0 6), .int (pV0 7), .int (pV0 8), .int (pV0 9), .long (pG0 0), .long (pG0 1), .long (pG0 2)])), (u10_, .inl (T 0, 6, .inl (pV0))), (q5_, .inr (1, [.ref u7_, .int (pV0 6), .int (pV0 7), .int (pV0 8), .int (pV0 9), .long (pG0 0), .long (pG0 1), .long (pG0 2)])), (u7_, .inl (T 0, 6, .inl (pV0))), (q2_, .inr (1, [.ref u4_, .int (pV0 6), .int (pV0 7), .int (pV0 8), .int (pV0 9), .long (pG0 0), .long (pG0 1), .long (pG0 2)])), (u4_, .inl (T 0, 6, .inl (pV0))), (q1_, .inl (T 3, 4, .inr (.inr (.inr (.inr (va_up (va_up (va_up (fun _ => none) 0 (some q2_)) 1 (some q5_)) 2 (some q8_))))))), (a, .inr (2, [.ref q1_, .int 0, .int 0, .int 0]))] H := hP
          have hD : va_D A [(q11_, .inr (1, [.ref u13_, .int (pV0 6), .int (pV0 7), .int (pV0 8), .int (pV0 9), .long (pG0 0), .long (pG0 1), .long (pG0 2)])), (u13_, .inl (T 0, 6, .inl (pV0))), (q8_, .inr (1, [.ref u10_, .int (pV0 6), .int (pV0 7), .int (pV0 8), .int (pV0 9), .long (pG0 0), .long (pG0 1), .long (pG0 2)])), (u10_, .inl (T 0, 6, .inl (pV0))), (q5_, .inr (1, [.ref u7_, .int (pV0 6), .int (pV0 7), .int (pV0 8), .int (pV0 9), .long (pG0 0), .long (pG0 1), .long (pG0 2)])), (u7_, .inl (T 0, 6, .inl (pV0))), (q2_, .inr (1, [.ref u4_, .int (pV0 6), .int (pV0 7), .int (pV0 8), .int (pV0 9), .long (pG0 0), .long (pG0 1), .long (pG0 2)])), (u4_, .inl (T 0, 6, .inl (pV0))), (q1_, .inl (T 3, 4, .inr (.inr (.inr (.inr (va_up (va_up (va_up (fun _ => none) 0 (some q2_)) 1 (some q5_)) 2 (some q8_))))))), (a, .inr (2, [.ref q1_, .int 0, .int 0, .int 0]))] := hD
          refine va_astq hx hb hK hP hD hS 8 3 0 1 rfl rfl rfl rfl (in_lit (by decide)) dX2_init_31 (fun H locs hP hD hS => ?_)
          rw [cl_3] at hP hD
          have hP : va_P D vwCl [(q11_, .inr (1, [.ref u13_, .int (pV0 6), .int (pV0 7), .int (pV0 8), .int (pV0 9), .long (pG0 0), .long (pG0 1), .long (pG0 2)])), (u13_, .inl (T 0, 6, .inl (pV0))), (q8_, .inr (1, [.ref u10_, .int (pV0 6), .int (pV0 7), .int (pV0 8), .int (pV0 9), .long (pG0 0), .long (pG0 1), .long (pG0 2)])), (u10_, .inl (T 0, 6, .inl (pV0))), (q5_, .inr (1, [.ref u7_, .int (pV0 6), .int (pV0 7), .int (pV0 8), .int (pV0 9), .long (pG0 0), .long (pG0 1), .long (pG0 2)])), (u7_, .inl (T 0, 6, .inl (pV0))), (q2_, .inr (1, [.ref u4_, .int (pV0 6), .int (pV0 7), .int (pV0 8), .int (pV0 9), .long (pG0 0), .long (pG0 1), .long (pG0 2)])), (u4_, .inl (T 0, 6, .inl (pV0))), (q1_, .inl (T 3, 4, .inr (.inr (.inr (.inr (va_up (va_up (va_up (va_up (fun _ => none) 0 (some q2_)) 1 (some q5_)) 2 (some q8_)) 3 (some q11_))))))), (a, .inr (2, [.ref q1_, .int 0, .int 0, .int 0]))] H := hP
          have hD : va_D A [(q11_, .inr (1, [.ref u13_, .int (pV0 6), .int (pV0 7), .int (pV0 8), .int (pV0 9), .long (pG0 0), .long (pG0 1), .long (pG0 2)])), (u13_, .inl (T 0, 6, .inl (pV0))), (q8_, .inr (1, [.ref u10_, .int (pV0 6), .int (pV0 7), .int (pV0 8), .int (pV0 9), .long (pG0 0), .long (pG0 1), .long (pG0 2)])), (u10_, .inl (T 0, 6, .inl (pV0))), (q5_, .inr (1, [.ref u7_, .int (pV0 6), .int (pV0 7), .int (pV0 8), .int (pV0 9), .long (pG0 0), .long (pG0 1), .long (pG0 2)])), (u7_, .inl (T 0, 6, .inl (pV0))), (q2_, .inr (1, [.ref u4_, .int (pV0 6), .int (pV0 7), .int (pV0 8), .int (pV0 9), .long (pG0 0), .long (pG0 1), .long (pG0 2)])), (u4_, .inl (T 0, 6, .inl (pV0))), (q1_, .inl (T 3, 4, .inr (.inr (.inr (.inr (va_up (va_up (va_up (va_up (fun _ => none) 0 (some q2_)) 1 (some q5_)) 2 (some q8_)) 3 (some q11_))))))), (a, .inr (2, [.ref q1_, .int 0, .int 0, .int 0]))] := hD
          refine lv_iinc (v := 4) (lv' := [(1, .int (4)), (0, .ref a)]) hx hb dX2_init_32 hl (k := 0) rfl (by decide) (by decide) rfl (fun ls hl => ?_)
          refine lv_goto (tgt := 14) hx hb dX2_init_35 (by decide) ?_
          refine lv_iload_n hx hb dX2_init_14 rfl (lv_at hl 0 rfl) ?_
          refine lv_iconst (v := 4) hx hb dX2_init_15 (by decide) ?_
          refine lv_icmp_ge (tgt := 38) hx hb dX2_init_16 (by decide) (fun c16 => ?_) (fun c16 => ?_)
          · skip
            have hP := bP (bs := [[(q11_, .inr (1, [.ref u13_, .int (pV0 6), .int (pV0 7), .int (pV0 8), .int (pV0 9), .long (pG0 0), .long (pG0 1), .long (pG0 2)]))], [(u13_, .inl (T 0, 6, .inl (pV0)))], [(q8_, .inr (1, [.ref u10_, .int (pV0 6), .int (pV0 7), .int (pV0 8), .int (pV0 9), .long (pG0 0), .long (pG0 1), .long (pG0 2)]))], [(u10_, .inl (T 0, 6, .inl (pV0)))], [(q5_, .inr (1, [.ref u7_, .int (pV0 6), .int (pV0 7), .int (pV0 8), .int (pV0 9), .long (pG0 0), .long (pG0 1), .long (pG0 2)]))], [(u7_, .inl (T 0, 6, .inl (pV0)))], [(q2_, .inr (1, [.ref u4_, .int (pV0 6), .int (pV0 7), .int (pV0 8), .int (pV0 9), .long (pG0 0), .long (pG0 1), .long (pG0 2)]))], [(u4_, .inl (T 0, 6, .inl (pV0)))], [(q1_, .inl (T 3, 4, .inr (.inr (.inr (.inr (va_up (va_up (va_up (va_up (fun _ => none) 0 (some q2_)) 1 (some q5_)) 2 (some q8_)) 3 (some q11_)))))))], [(a, .inr (2, [.ref q1_, .int 0, .int 0, .int 0]))]]) (bs' := [[(a, .inr (2, [.ref q1_, .int 0, .int 0, .int 0]))], [(q1_, .inl (T 3, 4, .inr (.inr (.inr (.inr (va_up (va_up (va_up (va_up (fun _ => none) 0 (some q2_)) 1 (some q5_)) 2 (some q8_)) 3 (some q11_)))))))], [(q2_, .inr (1, [.ref u4_, .int (pV0 6), .int (pV0 7), .int (pV0 8), .int (pV0 9), .long (pG0 0), .long (pG0 1), .long (pG0 2)]))], [(u4_, .inl (T 0, 6, .inl (pV0)))], [(q5_, .inr (1, [.ref u7_, .int (pV0 6), .int (pV0 7), .int (pV0 8), .int (pV0 9), .long (pG0 0), .long (pG0 1), .long (pG0 2)]))], [(u7_, .inl (T 0, 6, .inl (pV0)))], [(q8_, .inr (1, [.ref u10_, .int (pV0 6), .int (pV0 7), .int (pV0 8), .int (pV0 9), .long (pG0 0), .long (pG0 1), .long (pG0 2)]))], [(u10_, .inl (T 0, 6, .inl (pV0)))], [(q11_, .inr (1, [.ref u13_, .int (pV0 6), .int (pV0 7), .int (pV0 8), .int (pV0 9), .long (pG0 0), .long (pG0 1), .long (pG0 2)]))], [(u13_, .inl (T 0, 6, .inl (pV0)))]]) hP [9, 8, 6, 7, 4, 5, 2, 3, 0, 1] rfl rfl
            have hD := bD (bs := [[(q11_, .inr (1, [.ref u13_, .int (pV0 6), .int (pV0 7), .int (pV0 8), .int (pV0 9), .long (pG0 0), .long (pG0 1), .long (pG0 2)]))], [(u13_, .inl (T 0, 6, .inl (pV0)))], [(q8_, .inr (1, [.ref u10_, .int (pV0 6), .int (pV0 7), .int (pV0 8), .int (pV0 9), .long (pG0 0), .long (pG0 1), .long (pG0 2)]))], [(u10_, .inl (T 0, 6, .inl (pV0)))], [(q5_, .inr (1, [.ref u7_, .int (pV0 6), .int (pV0 7), .int (pV0 8), .int (pV0 9), .long (pG0 0), .long (pG0 1), .long (pG0 2)]))], [(u7_, .inl (T 0, 6, .inl (pV0)))], [(q2_, .inr (1, [.ref u4_, .int (pV0 6), .int (pV0 7), .int (pV0 8), .int (pV0 9), .long (pG0 0), .long (pG0 1), .long (pG0 2)]))], [(u4_, .inl (T 0, 6, .inl (pV0)))], [(q1_, .inl (T 3, 4, .inr (.inr (.inr (.inr (va_up (va_up (va_up (va_up (fun _ => none) 0 (some q2_)) 1 (some q5_)) 2 (some q8_)) 3 (some q11_)))))))], [(a, .inr (2, [.ref q1_, .int 0, .int 0, .int 0]))]]) (bs' := [[(a, .inr (2, [.ref q1_, .int 0, .int 0, .int 0]))], [(q1_, .inl (T 3, 4, .inr (.inr (.inr (.inr (va_up (va_up (va_up (va_up (fun _ => none) 0 (some q2_)) 1 (some q5_)) 2 (some q8_)) 3 (some q11_)))))))], [(q2_, .inr (1, [.ref u4_, .int (pV0 6), .int (pV0 7), .int (pV0 8), .int (pV0 9), .long (pG0 0), .long (pG0 1), .long (pG0 2)]))], [(u4_, .inl (T 0, 6, .inl (pV0)))], [(q5_, .inr (1, [.ref u7_, .int (pV0 6), .int (pV0 7), .int (pV0 8), .int (pV0 9), .long (pG0 0), .long (pG0 1), .long (pG0 2)]))], [(u7_, .inl (T 0, 6, .inl (pV0)))], [(q8_, .inr (1, [.ref u10_, .int (pV0 6), .int (pV0 7), .int (pV0 8), .int (pV0 9), .long (pG0 0), .long (pG0 1), .long (pG0 2)]))], [(u10_, .inl (T 0, 6, .inl (pV0)))], [(q11_, .inr (1, [.ref u13_, .int (pV0 6), .int (pV0 7), .int (pV0 8), .int (pV0 9), .long (pG0 0), .long (pG0 1), .long (pG0 2)]))], [(u13_, .inl (T 0, 6, .inl (pV0)))]]) hD [9, 8, 6, 7, 4, 5, 2, 3, 0, 1] rfl rfl
            have hP : va_P D vwCl (sgW T (ad10 a q1_ q2_ u4_ q5_ u7_ q8_ u10_ q11_ u13_) sg0) H := wP_re hP 1 rfl (at_q (fun j hj => by rcases lt4c hj with rfl | rfl | rfl | rfl <;> rfl))
            have hD : va_D A (sgW T (ad10 a q1_ q2_ u4_ q5_ u7_ q8_ u10_ q11_ u13_) sg0) := wD_ad hD rfl
            exact hret _ _ (ad10 a q1_ q2_ u4_ q5_ u7_ q8_ u10_ q11_ u13_) _ _ dX2_init_38 hS hP hD rfl
          · skip
            exact absurd (by decide) c16

def rmX0_init : Room := { frames := 3, cells := 41, slots := 260, locals := 53 }
set_option maxHeartbeats 4000000 in
set_option maxRecDepth 100000 in
theorem mX0_init (l : Launch) (T : Nat → ClassId) (D : va_G) (a : Nat) : MuV l yX0_init wsX0_init rmX0_init T xN D [.ref a] [(a, .inr (0, [.null, .int 0]))] (S := (Nat → Nat) × (Nat → Nat → Nat)) (fun u => u.1 0 = a) (fun u => hiW T u.1 u.2 0 (fun _ => sg0)) 41 260 := by
  refine met_mv (cc := cX0_init) (maxL := 2) (by decide) rfl (Nat.le_of_ble_eq_true rfl) ?_
  intro p_ e s m args below meth c ls A Q hx hb hts hown hml hX hP hD hK hS hA hl hin hret
  have hl : lv_has ls 2 [(0, .ref a)] := hl
  obtain ⟨H, hH⟩ : ∃ H, H = s.heap := ⟨_, rfl⟩
  have hS : va_S A s.heap H [] := by rw [hH]; exact hS
  rw [← hH] at hP ⊢
  refine lv_aload_n hx hb dX0_init_0 rfl (lv_at hl 0 rfl) ?_
  refine W.objInit hx hb hown (hts (.methodLink RX0 3 objectInit) (List.mem_of_getElem? (i := 1) rfl)) (hts (.instanceMethod objectInit) (List.mem_of_getElem? (i := 2) rfl)) (hts _ (List.mem_of_getElem? (i := 3) rfl)) rfl (by rw [hml]; exact hl.1) rfl dX0_init_1 (Nat.le_of_ble_eq_true rfl) (Nat.le_of_ble_eq_true rfl) ?_
  refine W.eq (g2 := F0 m 4 ls []) rfl ?_
  refine lv_aload_n hx hb dX0_init_4 rfl (lv_at hl 0 rfl) ?_
  refine lv_iconst (v := 4) hx hb dX0_init_5 (by decide) ?_
  refine nw_q hx hb hown (hts (.classLink RX0 9 RX2) (List.mem_of_getElem? (i := 4) rfl)) hX.2.2 4 rfl hK hP hD hS hA (N' := 4) (by decide) (by decide) (Nat.le_of_ble_eq_true rfl) (Nat.le_of_ble_eq_true rfl) (Nat.le_of_ble_eq_true rfl) dX0_init_6 (fun q1_ H hP hD hS => ?_)
  refine W.widen (k := 1) (n := 4) (by omega) (by omega) ?_
  have hP : va_P D vwCl [(q1_, .inl (T 4, 4, .inr (.inr (.inr (.inr ((fun _ => none))))))), (a, .inr (0, [.null, .int 0]))] H := hP
  have hD : va_D A [(q1_, .inl (T 4, 4, .inr (.inr (.inr (.inr ((fun _ => none))))))), (a, .inr (0, [.null, .int 0]))] := hD
  refine va_putF (D := D) (ci := 0) (v := .ref q1_) (C := RX0) (T := TX0) (N := 2) hx hb hts inwX0_init_X0 tyX0 tyX0_ok nmX0 hown hK hP hD hS 1 rfl rfl 0 (by decide) (hts (.fieldLink RX0 11 "PlateSlabs$History" "states" "[LPlateSlabs$State;") (List.mem_of_getElem? (i := 5) rfl)) (fun _ h9 => h9) rfl hin rfl (tyX0_ok 0 (by decide)) rfl rfl (Nat.le_of_ble_eq_true rfl) dX0_init_9 (fun H locs hP hD hS => ?_)
  have hP : va_P D vwCl [(q1_, .inl (T 4, 4, .inr (.inr (.inr (.inr ((fun _ => none))))))), (a, .inr (0, [.ref q1_, .int 0]))] H := hP
  have hD : va_D A [(q1_, .inl (T 4, 4, .inr (.inr (.inr (.inr ((fun _ => none))))))), (a, .inr (0, [.ref q1_, .int 0]))] := hD
  refine lv_iconst (v := 0) hx hb dX0_init_12 (by decide) ?_
  refine lv_istore_n (lv' := [(1, .int 0), (0, .ref a)]) hx hb dX0_init_13 rfl hl (by decide) rfl (fun ls hl => ?_)
  refine lv_iload_n hx hb dX0_init_14 rfl (lv_at hl 0 rfl) ?_
  refine lv_iconst (v := 4) hx hb dX0_init_15 (by decide) ?_
  refine lv_icmp_ge (tgt := 38) hx hb dX0_init_16 (by decide) (fun c16 => ?_) (fun c16 => ?_)
  · skip
    exact absurd c16 (by decide)
  · skip
    refine lv_aload_n hx hb dX0_init_19 rfl (lv_at hl 1 rfl) ?_
    refine va_get (D := D) (ci := 0) (v := .ref q1_) (C := RX0) (T := TX0) (N := 2) hx hb hts inwX0_init_X0 hown hK hP 1 rfl rfl 0 (by decide) (hts (.fieldLink RX0 11 "PlateSlabs$History" "states" "[LPlateSlabs$State;") (List.mem_of_getElem? (i := 5) rfl)) (fun _ h9 => h9) rfl dX0_init_20 ?_
    refine lv_iload_n hx hb dX0_init_23 rfl (lv_at hl 0 rfl) ?_
    refine nw_o (ci := 2) (fs := [.null, .int 0, .int 0, .int 0]) (C := RX2) (TT := TX2) (N := 4) hx hb hts inwX0_init_X2 tyX2 tyX2_ok hown (hts (.classLink RX0 9 RX2) (List.mem_of_getElem? (i := 4) rfl)) (hts (.instantiable RX2 4) (List.mem_of_getElem? (i := 6) rfl)) (hts (.initialized RX2) (List.mem_of_getElem? (i := 7) rfl)) hK hP hD hS hA rfl (fun j hj => by rcases (show j = 0 ∨ j = 1 ∨ j = 2 ∨ j = 3 by omega) with rfl | rfl | rfl | rfl <;> rfl) (Nat.le_of_ble_eq_true rfl) (Nat.le_of_ble_eq_true rfl) dX0_init_24 (fun q2_ H hP hD hS => ?_)
    refine W.widen (k := 2) (n := 8) (by omega) (by omega) ?_
    have hP : va_P D vwCl [(q2_, .inr (2, [.null, .int 0, .int 0, .int 0])), (q1_, .inl (T 4, 4, .inr (.inr (.inr (.inr ((fun _ => none))))))), (a, .inr (0, [.ref q1_, .int 0]))] H := hP
    have hD : va_D A [(q2_, .inr (2, [.null, .int 0, .int 0, .int 0])), (q1_, .inl (T 4, 4, .inr (.inr (.inr (.inr ((fun _ => none))))))), (a, .inr (0, [.ref q1_, .int 0]))] := hD
    refine lv_dup hx hb dX0_init_27 rfl ?_
    refine callIv (As := []) (wr := [(q1_, .inl (T 4, 4, .inr (.inr (.inr (.inr ((fun _ => none))))))), (a, .inr (0, [.ref q1_, .int 0]))]) ⟨hx, hb, hml, hown, hts⟩ (mX2_init l T D q2_) (cwI 0 hts gX0_init_X2_init rfl rfl rfl (hts (.initialized RX2) (List.mem_of_getElem? (i := 7) rfl)) (hts (.methodLink RX0 17 yX2_init) (List.mem_of_getElem? (i := 8) rfl)) (hts (.instanceMethod yX2_init) (List.mem_of_getElem? (i := 9) rfl)) rfl (pdX2_init).2 ⟨Nat.le_of_ble_eq_true rfl, Nat.le_of_ble_eq_true rfl⟩) hP hD hK hS hA xN_bl (fun U _ hW => XN_warm hW hX) hl.1 rfl rfl (Nat.le_of_ble_eq_true rfl) dX0_init_28 ⟨Nat.le_of_ble_eq_true rfl, Nat.le_of_ble_eq_true rfl⟩ (fun u4_ H locs eu4_ hP hD hS => ?_)
    refine W.widen (k := 11) (n := 68) (by omega) (by omega) ?_
    have hP1 := hP
    have hD1 := hD
    subst eu4_
    have hP := hP1
    have hD := hD1
    have hP := wP_perm (pm3 (sgW T u4_ sg0) [(q1_, .inl (T 4, 4, .inr (.inr (.inr (.inr ((fun _ => none))))))), (a, .inr (0, [.ref q1_, .int 0]))] []) hP
    have hD := wD_perm (pm3 (sgW T u4_ sg0) [(q1_, .inl (T 4, 4, .inr (.inr (.inr (.inr ((fun _ => none))))))), (a, .inr (0, [.ref q1_, .int 0]))] []) hD
    have hP : va_P D vwCl ([(q1_, .inl (T 4, 4, .inr (.inr (.inr (.inr ((fun _ => none))))))), (a, .inr (0, [.ref q1_, .int 0]))] ++ (sgW T u4_ sg0 ++ [])) H := hP
    have hD : va_D A ([(q1_, .inl (T 4, 4, .inr (.inr (.inr (.inr ((fun _ => none))))))), (a, .inr (0, [.ref q1_, .int 0]))] ++ (sgW T u4_ sg0 ++ [])) := hD
    refine va_astq hx hb hK hP hD hS 0 4 2 2 rfl rfl rfl rfl (in_lit (by decide)) dX0_init_31 (fun H locs hP hD hS => ?_)
    rw [cl_0] at hP hD
    have hP : va_P D vwCl ([(q1_, .inl (T 4, 4, .inr (.inr (.inr (.inr (va_up (fun _ => none) 0 (some (u4_ 0)))))))), (a, .inr (0, [.ref q1_, .int 0]))] ++ (sgW T u4_ sg0 ++ [])) H := hP
    have hD : va_D A ([(q1_, .inl (T 4, 4, .inr (.inr (.inr (.inr (va_up (fun _ => none) 0 (some (u4_ 0)))))))), (a, .inr (0, [.ref q1_, .int 0]))] ++ (sgW T u4_ sg0 ++ [])) := hD
    refine lv_iinc (v := 1) (lv' := [(1, .int (1)), (0, .ref a)]) hx hb dX0_init_32 hl (k := 0) rfl (by decide) (by decide) rfl (fun ls hl => ?_)
    refine lv_goto (tgt := 14) hx hb dX0_init_35 (by decide) ?_
    refine lv_iload_n hx hb dX0_init_14 rfl (lv_at hl 0 rfl) ?_
    refine lv_iconst (v := 4) hx hb dX0_init_15 (by decide) ?_
    refine lv_icmp_ge (tgt := 38) hx hb dX0_init_16 (by decide) (fun c16 => ?_) (fun c16 => ?_)
    · skip
      exact absurd c16 (by decide)
    · skip
      refine lv_aload_n hx hb dX0_init_19 rfl (lv_at hl 1 rfl) ?_
      refine va_get (D := D) (ci := 0) (v := .ref q1_) (C := RX0) (T := TX0) (N := 2) hx hb hts inwX0_init_X0 hown hK hP 1 rfl rfl 0 (by decide) (hts (.fieldLink RX0 11 "PlateSlabs$History" "states" "[LPlateSlabs$State;") (List.mem_of_getElem? (i := 5) rfl)) (fun _ h9 => h9) rfl dX0_init_20 ?_
      refine lv_iload_n hx hb dX0_init_23 rfl (lv_at hl 0 rfl) ?_
      refine nw_o (ci := 2) (fs := [.null, .int 0, .int 0, .int 0]) (C := RX2) (TT := TX2) (N := 4) hx hb hts inwX0_init_X2 tyX2 tyX2_ok hown (hts (.classLink RX0 9 RX2) (List.mem_of_getElem? (i := 4) rfl)) (hts (.instantiable RX2 4) (List.mem_of_getElem? (i := 6) rfl)) (hts (.initialized RX2) (List.mem_of_getElem? (i := 7) rfl)) hK hP hD hS hA rfl (fun j hj => by rcases (show j = 0 ∨ j = 1 ∨ j = 2 ∨ j = 3 by omega) with rfl | rfl | rfl | rfl <;> rfl) (Nat.le_of_ble_eq_true rfl) (Nat.le_of_ble_eq_true rfl) dX0_init_24 (fun q5_ H hP hD hS => ?_)
      refine W.widen (k := 12) (n := 72) (by omega) (by omega) ?_
      have hP : va_P D vwCl ([(q5_, .inr (2, [.null, .int 0, .int 0, .int 0])), (q1_, .inl (T 4, 4, .inr (.inr (.inr (.inr (va_up (fun _ => none) 0 (some (u4_ 0)))))))), (a, .inr (0, [.ref q1_, .int 0]))] ++ (sgW T u4_ sg0 ++ [])) H := hP
      have hD : va_D A ([(q5_, .inr (2, [.null, .int 0, .int 0, .int 0])), (q1_, .inl (T 4, 4, .inr (.inr (.inr (.inr (va_up (fun _ => none) 0 (some (u4_ 0)))))))), (a, .inr (0, [.ref q1_, .int 0]))] ++ (sgW T u4_ sg0 ++ [])) := hD
      refine lv_dup hx hb dX0_init_27 rfl ?_
      refine callIv (As := []) (wr := ([(q1_, .inl (T 4, 4, .inr (.inr (.inr (.inr (va_up (fun _ => none) 0 (some (u4_ 0)))))))), (a, .inr (0, [.ref q1_, .int 0]))] ++ (sgW T u4_ sg0 ++ []))) ⟨hx, hb, hml, hown, hts⟩ (mX2_init l T D q5_) (cwI 0 hts gX0_init_X2_init rfl rfl rfl (hts (.initialized RX2) (List.mem_of_getElem? (i := 7) rfl)) (hts (.methodLink RX0 17 yX2_init) (List.mem_of_getElem? (i := 8) rfl)) (hts (.instanceMethod yX2_init) (List.mem_of_getElem? (i := 9) rfl)) rfl (pdX2_init).2 ⟨Nat.le_of_ble_eq_true rfl, Nat.le_of_ble_eq_true rfl⟩) hP hD hK hS hA xN_bl (fun U _ hW => XN_warm hW hX) hl.1 rfl rfl (Nat.le_of_ble_eq_true rfl) dX0_init_28 ⟨Nat.le_of_ble_eq_true rfl, Nat.le_of_ble_eq_true rfl⟩ (fun u7_ H locs eu7_ hP hD hS => ?_)
      refine W.widen (k := 21) (n := 132) (by omega) (by omega) ?_
      have hP1 := hP
      have hD1 := hD
      subst eu7_
      have hP := hP1
      have hD := hD1
      have hP := wP_perm (pm3 (sgW T u7_ sg0) [(q1_, .inl (T 4, 4, .inr (.inr (.inr (.inr (va_up (fun _ => none) 0 (some (u4_ 0)))))))), (a, .inr (0, [.ref q1_, .int 0]))] (sgW T u4_ sg0 ++ [])) hP
      have hD := wD_perm (pm3 (sgW T u7_ sg0) [(q1_, .inl (T 4, 4, .inr (.inr (.inr (.inr (va_up (fun _ => none) 0 (some (u4_ 0)))))))), (a, .inr (0, [.ref q1_, .int 0]))] (sgW T u4_ sg0 ++ [])) hD
      have hP : va_P D vwCl ([(q1_, .inl (T 4, 4, .inr (.inr (.inr (.inr (va_up (fun _ => none) 0 (some (u4_ 0)))))))), (a, .inr (0, [.ref q1_, .int 0]))] ++ (sgW T u7_ sg0 ++ (sgW T u4_ sg0 ++ []))) H := hP
      have hD : va_D A ([(q1_, .inl (T 4, 4, .inr (.inr (.inr (.inr (va_up (fun _ => none) 0 (some (u4_ 0)))))))), (a, .inr (0, [.ref q1_, .int 0]))] ++ (sgW T u7_ sg0 ++ (sgW T u4_ sg0 ++ []))) := hD
      refine va_astq hx hb hK hP hD hS 0 4 2 2 rfl rfl rfl rfl (in_lit (by decide)) dX0_init_31 (fun H locs hP hD hS => ?_)
      rw [cl_1] at hP hD
      have hP : va_P D vwCl ([(q1_, .inl (T 4, 4, .inr (.inr (.inr (.inr (va_up (va_up (fun _ => none) 0 (some (u4_ 0))) 1 (some (u7_ 0)))))))), (a, .inr (0, [.ref q1_, .int 0]))] ++ (sgW T u7_ sg0 ++ (sgW T u4_ sg0 ++ []))) H := hP
      have hD : va_D A ([(q1_, .inl (T 4, 4, .inr (.inr (.inr (.inr (va_up (va_up (fun _ => none) 0 (some (u4_ 0))) 1 (some (u7_ 0)))))))), (a, .inr (0, [.ref q1_, .int 0]))] ++ (sgW T u7_ sg0 ++ (sgW T u4_ sg0 ++ []))) := hD
      refine lv_iinc (v := 2) (lv' := [(1, .int (2)), (0, .ref a)]) hx hb dX0_init_32 hl (k := 0) rfl (by decide) (by decide) rfl (fun ls hl => ?_)
      refine lv_goto (tgt := 14) hx hb dX0_init_35 (by decide) ?_
      refine lv_iload_n hx hb dX0_init_14 rfl (lv_at hl 0 rfl) ?_
      refine lv_iconst (v := 4) hx hb dX0_init_15 (by decide) ?_
      refine lv_icmp_ge (tgt := 38) hx hb dX0_init_16 (by decide) (fun c16 => ?_) (fun c16 => ?_)
      · skip
        exact absurd c16 (by decide)
      · skip
        refine lv_aload_n hx hb dX0_init_19 rfl (lv_at hl 1 rfl) ?_
        refine va_get (D := D) (ci := 0) (v := .ref q1_) (C := RX0) (T := TX0) (N := 2) hx hb hts inwX0_init_X0 hown hK hP 1 rfl rfl 0 (by decide) (hts (.fieldLink RX0 11 "PlateSlabs$History" "states" "[LPlateSlabs$State;") (List.mem_of_getElem? (i := 5) rfl)) (fun _ h9 => h9) rfl dX0_init_20 ?_
        refine lv_iload_n hx hb dX0_init_23 rfl (lv_at hl 0 rfl) ?_
        refine nw_o (ci := 2) (fs := [.null, .int 0, .int 0, .int 0]) (C := RX2) (TT := TX2) (N := 4) hx hb hts inwX0_init_X2 tyX2 tyX2_ok hown (hts (.classLink RX0 9 RX2) (List.mem_of_getElem? (i := 4) rfl)) (hts (.instantiable RX2 4) (List.mem_of_getElem? (i := 6) rfl)) (hts (.initialized RX2) (List.mem_of_getElem? (i := 7) rfl)) hK hP hD hS hA rfl (fun j hj => by rcases (show j = 0 ∨ j = 1 ∨ j = 2 ∨ j = 3 by omega) with rfl | rfl | rfl | rfl <;> rfl) (Nat.le_of_ble_eq_true rfl) (Nat.le_of_ble_eq_true rfl) dX0_init_24 (fun q8_ H hP hD hS => ?_)
        refine W.widen (k := 22) (n := 136) (by omega) (by omega) ?_
        have hP : va_P D vwCl ([(q8_, .inr (2, [.null, .int 0, .int 0, .int 0])), (q1_, .inl (T 4, 4, .inr (.inr (.inr (.inr (va_up (va_up (fun _ => none) 0 (some (u4_ 0))) 1 (some (u7_ 0)))))))), (a, .inr (0, [.ref q1_, .int 0]))] ++ (sgW T u7_ sg0 ++ (sgW T u4_ sg0 ++ []))) H := hP
        have hD : va_D A ([(q8_, .inr (2, [.null, .int 0, .int 0, .int 0])), (q1_, .inl (T 4, 4, .inr (.inr (.inr (.inr (va_up (va_up (fun _ => none) 0 (some (u4_ 0))) 1 (some (u7_ 0)))))))), (a, .inr (0, [.ref q1_, .int 0]))] ++ (sgW T u7_ sg0 ++ (sgW T u4_ sg0 ++ []))) := hD
        refine lv_dup hx hb dX0_init_27 rfl ?_
        refine callIv (As := []) (wr := ([(q1_, .inl (T 4, 4, .inr (.inr (.inr (.inr (va_up (va_up (fun _ => none) 0 (some (u4_ 0))) 1 (some (u7_ 0)))))))), (a, .inr (0, [.ref q1_, .int 0]))] ++ (sgW T u7_ sg0 ++ (sgW T u4_ sg0 ++ [])))) ⟨hx, hb, hml, hown, hts⟩ (mX2_init l T D q8_) (cwI 0 hts gX0_init_X2_init rfl rfl rfl (hts (.initialized RX2) (List.mem_of_getElem? (i := 7) rfl)) (hts (.methodLink RX0 17 yX2_init) (List.mem_of_getElem? (i := 8) rfl)) (hts (.instanceMethod yX2_init) (List.mem_of_getElem? (i := 9) rfl)) rfl (pdX2_init).2 ⟨Nat.le_of_ble_eq_true rfl, Nat.le_of_ble_eq_true rfl⟩) hP hD hK hS hA xN_bl (fun U _ hW => XN_warm hW hX) hl.1 rfl rfl (Nat.le_of_ble_eq_true rfl) dX0_init_28 ⟨Nat.le_of_ble_eq_true rfl, Nat.le_of_ble_eq_true rfl⟩ (fun u10_ H locs eu10_ hP hD hS => ?_)
        refine W.widen (k := 31) (n := 196) (by omega) (by omega) ?_
        have hP1 := hP
        have hD1 := hD
        subst eu10_
        have hP := hP1
        have hD := hD1
        have hP := wP_perm (pm3 (sgW T u10_ sg0) [(q1_, .inl (T 4, 4, .inr (.inr (.inr (.inr (va_up (va_up (fun _ => none) 0 (some (u4_ 0))) 1 (some (u7_ 0)))))))), (a, .inr (0, [.ref q1_, .int 0]))] (sgW T u7_ sg0 ++ (sgW T u4_ sg0 ++ []))) hP
        have hD := wD_perm (pm3 (sgW T u10_ sg0) [(q1_, .inl (T 4, 4, .inr (.inr (.inr (.inr (va_up (va_up (fun _ => none) 0 (some (u4_ 0))) 1 (some (u7_ 0)))))))), (a, .inr (0, [.ref q1_, .int 0]))] (sgW T u7_ sg0 ++ (sgW T u4_ sg0 ++ []))) hD
        have hP : va_P D vwCl ([(q1_, .inl (T 4, 4, .inr (.inr (.inr (.inr (va_up (va_up (fun _ => none) 0 (some (u4_ 0))) 1 (some (u7_ 0)))))))), (a, .inr (0, [.ref q1_, .int 0]))] ++ (sgW T u10_ sg0 ++ (sgW T u7_ sg0 ++ (sgW T u4_ sg0 ++ [])))) H := hP
        have hD : va_D A ([(q1_, .inl (T 4, 4, .inr (.inr (.inr (.inr (va_up (va_up (fun _ => none) 0 (some (u4_ 0))) 1 (some (u7_ 0)))))))), (a, .inr (0, [.ref q1_, .int 0]))] ++ (sgW T u10_ sg0 ++ (sgW T u7_ sg0 ++ (sgW T u4_ sg0 ++ [])))) := hD
        refine va_astq hx hb hK hP hD hS 0 4 2 2 rfl rfl rfl rfl (in_lit (by decide)) dX0_init_31 (fun H locs hP hD hS => ?_)
        rw [cl_2] at hP hD
        have hP : va_P D vwCl ([(q1_, .inl (T 4, 4, .inr (.inr (.inr (.inr (va_up (va_up (va_up (fun _ => none) 0 (some (u4_ 0))) 1 (some (u7_ 0))) 2 (some (u10_ 0)))))))), (a, .inr (0, [.ref q1_, .int 0]))] ++ (sgW T u10_ sg0 ++ (sgW T u7_ sg0 ++ (sgW T u4_ sg0 ++ [])))) H := hP
        have hD : va_D A ([(q1_, .inl (T 4, 4, .inr (.inr (.inr (.inr (va_up (va_up (va_up (fun _ => none) 0 (some (u4_ 0))) 1 (some (u7_ 0))) 2 (some (u10_ 0)))))))), (a, .inr (0, [.ref q1_, .int 0]))] ++ (sgW T u10_ sg0 ++ (sgW T u7_ sg0 ++ (sgW T u4_ sg0 ++ [])))) := hD
        refine lv_iinc (v := 3) (lv' := [(1, .int (3)), (0, .ref a)]) hx hb dX0_init_32 hl (k := 0) rfl (by decide) (by decide) rfl (fun ls hl => ?_)
        refine lv_goto (tgt := 14) hx hb dX0_init_35 (by decide) ?_
        refine lv_iload_n hx hb dX0_init_14 rfl (lv_at hl 0 rfl) ?_
        refine lv_iconst (v := 4) hx hb dX0_init_15 (by decide) ?_
        refine lv_icmp_ge (tgt := 38) hx hb dX0_init_16 (by decide) (fun c16 => ?_) (fun c16 => ?_)
        · skip
          exact absurd c16 (by decide)
        · skip
          refine lv_aload_n hx hb dX0_init_19 rfl (lv_at hl 1 rfl) ?_
          refine va_get (D := D) (ci := 0) (v := .ref q1_) (C := RX0) (T := TX0) (N := 2) hx hb hts inwX0_init_X0 hown hK hP 1 rfl rfl 0 (by decide) (hts (.fieldLink RX0 11 "PlateSlabs$History" "states" "[LPlateSlabs$State;") (List.mem_of_getElem? (i := 5) rfl)) (fun _ h9 => h9) rfl dX0_init_20 ?_
          refine lv_iload_n hx hb dX0_init_23 rfl (lv_at hl 0 rfl) ?_
          refine nw_o (ci := 2) (fs := [.null, .int 0, .int 0, .int 0]) (C := RX2) (TT := TX2) (N := 4) hx hb hts inwX0_init_X2 tyX2 tyX2_ok hown (hts (.classLink RX0 9 RX2) (List.mem_of_getElem? (i := 4) rfl)) (hts (.instantiable RX2 4) (List.mem_of_getElem? (i := 6) rfl)) (hts (.initialized RX2) (List.mem_of_getElem? (i := 7) rfl)) hK hP hD hS hA rfl (fun j hj => by rcases (show j = 0 ∨ j = 1 ∨ j = 2 ∨ j = 3 by omega) with rfl | rfl | rfl | rfl <;> rfl) (Nat.le_of_ble_eq_true rfl) (Nat.le_of_ble_eq_true rfl) dX0_init_24 (fun q11_ H hP hD hS => ?_)
          refine W.widen (k := 32) (n := 200) (by omega) (by omega) ?_
          have hP : va_P D vwCl ([(q11_, .inr (2, [.null, .int 0, .int 0, .int 0])), (q1_, .inl (T 4, 4, .inr (.inr (.inr (.inr (va_up (va_up (va_up (fun _ => none) 0 (some (u4_ 0))) 1 (some (u7_ 0))) 2 (some (u10_ 0)))))))), (a, .inr (0, [.ref q1_, .int 0]))] ++ (sgW T u10_ sg0 ++ (sgW T u7_ sg0 ++ (sgW T u4_ sg0 ++ [])))) H := hP
          have hD : va_D A ([(q11_, .inr (2, [.null, .int 0, .int 0, .int 0])), (q1_, .inl (T 4, 4, .inr (.inr (.inr (.inr (va_up (va_up (va_up (fun _ => none) 0 (some (u4_ 0))) 1 (some (u7_ 0))) 2 (some (u10_ 0)))))))), (a, .inr (0, [.ref q1_, .int 0]))] ++ (sgW T u10_ sg0 ++ (sgW T u7_ sg0 ++ (sgW T u4_ sg0 ++ [])))) := hD
          refine lv_dup hx hb dX0_init_27 rfl ?_
          refine callIv (As := []) (wr := ([(q1_, .inl (T 4, 4, .inr (.inr (.inr (.inr (va_up (va_up (va_up (fun _ => none) 0 (some (u4_ 0))) 1 (some (u7_ 0))) 2 (some (u10_ 0)))))))), (a, .inr (0, [.ref q1_, .int 0]))] ++ (sgW T u10_ sg0 ++ (sgW T u7_ sg0 ++ (sgW T u4_ sg0 ++ []))))) ⟨hx, hb, hml, hown, hts⟩ (mX2_init l T D q11_) (cwI 0 hts gX0_init_X2_init rfl rfl rfl (hts (.initialized RX2) (List.mem_of_getElem? (i := 7) rfl)) (hts (.methodLink RX0 17 yX2_init) (List.mem_of_getElem? (i := 8) rfl)) (hts (.instanceMethod yX2_init) (List.mem_of_getElem? (i := 9) rfl)) rfl (pdX2_init).2 ⟨Nat.le_of_ble_eq_true rfl, Nat.le_of_ble_eq_true rfl⟩) hP hD hK hS hA xN_bl (fun U _ hW => XN_warm hW hX) hl.1 rfl rfl (Nat.le_of_ble_eq_true rfl) dX0_init_28 ⟨Nat.le_of_ble_eq_true rfl, Nat.le_of_ble_eq_true rfl⟩ (fun u13_ H locs eu13_ hP hD hS => ?_)
          refine W.widen (k := 41) (n := 260) (by omega) (by omega) ?_
          have hP1 := hP
          have hD1 := hD
          subst eu13_
          have hP := hP1
          have hD := hD1
          have hP := wP_perm (pm3 (sgW T u13_ sg0) [(q1_, .inl (T 4, 4, .inr (.inr (.inr (.inr (va_up (va_up (va_up (fun _ => none) 0 (some (u4_ 0))) 1 (some (u7_ 0))) 2 (some (u10_ 0)))))))), (a, .inr (0, [.ref q1_, .int 0]))] (sgW T u10_ sg0 ++ (sgW T u7_ sg0 ++ (sgW T u4_ sg0 ++ [])))) hP
          have hD := wD_perm (pm3 (sgW T u13_ sg0) [(q1_, .inl (T 4, 4, .inr (.inr (.inr (.inr (va_up (va_up (va_up (fun _ => none) 0 (some (u4_ 0))) 1 (some (u7_ 0))) 2 (some (u10_ 0)))))))), (a, .inr (0, [.ref q1_, .int 0]))] (sgW T u10_ sg0 ++ (sgW T u7_ sg0 ++ (sgW T u4_ sg0 ++ [])))) hD
          have hP : va_P D vwCl ([(q1_, .inl (T 4, 4, .inr (.inr (.inr (.inr (va_up (va_up (va_up (fun _ => none) 0 (some (u4_ 0))) 1 (some (u7_ 0))) 2 (some (u10_ 0)))))))), (a, .inr (0, [.ref q1_, .int 0]))] ++ (sgW T u13_ sg0 ++ (sgW T u10_ sg0 ++ (sgW T u7_ sg0 ++ (sgW T u4_ sg0 ++ []))))) H := hP
          have hD : va_D A ([(q1_, .inl (T 4, 4, .inr (.inr (.inr (.inr (va_up (va_up (va_up (fun _ => none) 0 (some (u4_ 0))) 1 (some (u7_ 0))) 2 (some (u10_ 0)))))))), (a, .inr (0, [.ref q1_, .int 0]))] ++ (sgW T u13_ sg0 ++ (sgW T u10_ sg0 ++ (sgW T u7_ sg0 ++ (sgW T u4_ sg0 ++ []))))) := hD
          refine va_astq hx hb hK hP hD hS 0 4 2 2 rfl rfl rfl rfl (in_lit (by decide)) dX0_init_31 (fun H locs hP hD hS => ?_)
          rw [cl_3] at hP hD
          have hP : va_P D vwCl ([(q1_, .inl (T 4, 4, .inr (.inr (.inr (.inr (va_up (va_up (va_up (va_up (fun _ => none) 0 (some (u4_ 0))) 1 (some (u7_ 0))) 2 (some (u10_ 0))) 3 (some (u13_ 0)))))))), (a, .inr (0, [.ref q1_, .int 0]))] ++ (sgW T u13_ sg0 ++ (sgW T u10_ sg0 ++ (sgW T u7_ sg0 ++ (sgW T u4_ sg0 ++ []))))) H := hP
          have hD : va_D A ([(q1_, .inl (T 4, 4, .inr (.inr (.inr (.inr (va_up (va_up (va_up (va_up (fun _ => none) 0 (some (u4_ 0))) 1 (some (u7_ 0))) 2 (some (u10_ 0))) 3 (some (u13_ 0)))))))), (a, .inr (0, [.ref q1_, .int 0]))] ++ (sgW T u13_ sg0 ++ (sgW T u10_ sg0 ++ (sgW T u7_ sg0 ++ (sgW T u4_ sg0 ++ []))))) := hD
          refine lv_iinc (v := 4) (lv' := [(1, .int (4)), (0, .ref a)]) hx hb dX0_init_32 hl (k := 0) rfl (by decide) (by decide) rfl (fun ls hl => ?_)
          refine lv_goto (tgt := 14) hx hb dX0_init_35 (by decide) ?_
          refine lv_iload_n hx hb dX0_init_14 rfl (lv_at hl 0 rfl) ?_
          refine lv_iconst (v := 4) hx hb dX0_init_15 (by decide) ?_
          refine lv_icmp_ge (tgt := 38) hx hb dX0_init_16 (by decide) (fun c16 => ?_) (fun c16 => ?_)
          · skip
            have hP := bP (bs := [[(q1_, .inl (T 4, 4, .inr (.inr (.inr (.inr (va_up (va_up (va_up (va_up (fun _ => none) 0 (some (u4_ 0))) 1 (some (u7_ 0))) 2 (some (u10_ 0))) 3 (some (u13_ 0))))))))], [(a, .inr (0, [.ref q1_, .int 0]))], sgW T u13_ sg0, sgW T u10_ sg0, sgW T u7_ sg0, sgW T u4_ sg0]) (bs' := [[(a, .inr (0, [.ref q1_, .int 0]))], [(q1_, .inl (T 4, 4, .inr (.inr (.inr (.inr (va_up (va_up (va_up (va_up (fun _ => none) 0 (some (u4_ 0))) 1 (some (u7_ 0))) 2 (some (u10_ 0))) 3 (some (u13_ 0))))))))], sgW T u4_ sg0, sgW T u7_ sg0, sgW T u10_ sg0, sgW T u13_ sg0]) hP [1, 0, 5, 4, 3, 2] rfl rfl
            have hD := bD (bs := [[(q1_, .inl (T 4, 4, .inr (.inr (.inr (.inr (va_up (va_up (va_up (va_up (fun _ => none) 0 (some (u4_ 0))) 1 (some (u7_ 0))) 2 (some (u10_ 0))) 3 (some (u13_ 0))))))))], [(a, .inr (0, [.ref q1_, .int 0]))], sgW T u13_ sg0, sgW T u10_ sg0, sgW T u7_ sg0, sgW T u4_ sg0]) (bs' := [[(a, .inr (0, [.ref q1_, .int 0]))], [(q1_, .inl (T 4, 4, .inr (.inr (.inr (.inr (va_up (va_up (va_up (va_up (fun _ => none) 0 (some (u4_ 0))) 1 (some (u7_ 0))) 2 (some (u10_ 0))) 3 (some (u13_ 0))))))))], sgW T u4_ sg0, sgW T u7_ sg0, sgW T u10_ sg0, sgW T u13_ sg0]) hD [1, 0, 5, 4, 3, 2] rfl rfl
            have hP := wP_re (y := .inl (T 4, 4, .inr (.inr (.inr (.inr (fun i => some ((ad4 u4_ u7_ u10_ u13_) i 0))))))) hP 1 rfl (at_q (fun j hj => by rcases lt4c hj with rfl | rfl | rfl | rfl <;> rfl))
            have hP : va_P D vwCl (hiW T (ad6 a q1_ 0 0 0 0) (ad4 u4_ u7_ u10_ u13_) 0 (fun _ => sg0)) H := hP
            have hD : va_D A (hiW T (ad6 a q1_ 0 0 0 0) (ad4 u4_ u7_ u10_ u13_) 0 (fun _ => sg0)) := wD_ad hD rfl
            exact hret _ _ ((ad6 a q1_ 0 0 0 0), (ad4 u4_ u7_ u10_ u13_)) _ _ dX0_init_38 hS hP hD rfl
          · skip
            exact absurd (by decide) c16

def rmX3_init : Room := { frames := 1, cells := 1, slots := 60, locals := 12 }
set_option maxHeartbeats 4000000 in
set_option maxRecDepth 100000 in
theorem mX3_init (l : Launch) (T : Nat → ClassId) (D : va_G) (a : Nat) : MuV l yX3_init wsX3_init rmX3_init T xN D [.ref a] [(a, .inr (3, [.null, .int 0]))] (S := Nat) (fun _ => True) (fun q => txW T (ad6 0 0 0 0 a q) z0 0) 1 60 := by
  refine met_mv (cc := cX3_init) (maxL := 1) (by decide) rfl (Nat.le_of_ble_eq_true rfl) ?_
  intro p_ e s m args below meth c ls A Q hx hb hts hown hml hX hP hD hK hS hA hl hin hret
  have hl : lv_has ls 1 [(0, .ref a)] := hl
  obtain ⟨H, hH⟩ : ∃ H, H = s.heap := ⟨_, rfl⟩
  have hS : va_S A s.heap H [] := by rw [hH]; exact hS
  rw [← hH] at hP ⊢
  refine lv_aload_n hx hb dX3_init_0 rfl (lv_at hl 0 rfl) ?_
  refine W.objInit hx hb hown (hts (.methodLink RX3 3 objectInit) (List.mem_of_getElem? (i := 1) rfl)) (hts (.instanceMethod objectInit) (List.mem_of_getElem? (i := 2) rfl)) (hts _ (List.mem_of_getElem? (i := 3) rfl)) rfl (by rw [hml]; exact hl.1) rfl dX3_init_1 (Nat.le_of_ble_eq_true rfl) (Nat.le_of_ble_eq_true rfl) ?_
  refine W.eq (g2 := F0 m 4 ls []) rfl ?_
  refine lv_aload_n hx hb dX3_init_4 rfl (lv_at hl 0 rfl) ?_
  refine lv_bipush (v := 60) hx hb dX3_init_5 (by decide) ?_
  refine nw_a hx hb (atype := .char) (hts (.arrayClass .char) (List.mem_of_getElem? (i := 4) rfl)) (ty := .char) rfl 2 rfl hK hP hD hS hA (N' := 60) (a0 := (60, (.inl z0))) (fun _ => rfl) (by decide) (by decide) (Nat.le_of_ble_eq_true rfl) (Nat.le_of_ble_eq_true rfl) (Nat.le_of_ble_eq_true rfl) dX3_init_7 (fun q1_ H hP hD hS => ?_)
  refine W.widen (k := 1) (n := 60) (by omega) (by omega) ?_
  have hP : va_P D vwCl [(q1_, .inl (T 2, 60, .inl (z0))), (a, .inr (3, [.null, .int 0]))] H := hP
  have hD : va_D A [(q1_, .inl (T 2, 60, .inl (z0))), (a, .inr (3, [.null, .int 0]))] := hD
  refine va_putF (D := D) (ci := 3) (v := .ref q1_) (C := RX3) (T := TX3) (N := 2) hx hb hts inwX3_init_X3 tyX3 tyX3_ok nmX3 hown hK hP hD hS 1 rfl rfl 0 (by decide) (hts (.fieldLink RX3 9 "PlateSlabs$Text" "signs" "[C") (List.mem_of_getElem? (i := 5) rfl)) (fun _ h9 => h9) rfl hin rfl (tyX3_ok 0 (by decide)) rfl rfl (Nat.le_of_ble_eq_true rfl) dX3_init_9 (fun H locs hP hD hS => ?_)
  have hP : va_P D vwCl [(q1_, .inl (T 2, 60, .inl (z0))), (a, .inr (3, [.ref q1_, .int 0]))] H := hP
  have hD : va_D A [(q1_, .inl (T 2, 60, .inl (z0))), (a, .inr (3, [.ref q1_, .int 0]))] := hD
  have hP := bP (bs := [[(q1_, .inl (T 2, 60, .inl (z0)))], [(a, .inr (3, [.ref q1_, .int 0]))]]) (bs' := [[(a, .inr (3, [.ref q1_, .int 0]))], [(q1_, .inl (T 2, 60, .inl (z0)))]]) hP [1, 0] rfl rfl
  have hD := bD (bs := [[(q1_, .inl (T 2, 60, .inl (z0)))], [(a, .inr (3, [.ref q1_, .int 0]))]]) (bs' := [[(a, .inr (3, [.ref q1_, .int 0]))], [(q1_, .inl (T 2, 60, .inl (z0)))]]) hD [1, 0] rfl rfl
  exact hret _ _ q1_ _ _ dX3_init_12 hS hP hD trivial

abbrev siW (T : Nat → ClassId) (y : Nat → Nat) (w K9 A9 W9 tx : Nat → Int32) (len : Nat) : va_W := [((y 0), .inr (4, [.ref (y 4), .ref (y 1), .ref (y 2), .ref (y 3), .int (w 0), .int (w 1), .int (w 2), .int (w 3)])), ((y 4), .inr (3, [.ref (y 5), .int (nI len)])), ((y 5), .inl (T 2, 60, .inl (tx))), ((y 1), .inl (T 0, 20, .inl (K9))), ((y 2), .inl (T 0, 20, .inl (A9))), ((y 3), .inl (T 0, 20, .inl (W9)))]
def rmX4_init : Room := { frames := 2, cells := 5, slots := 122, locals := 32 }
set_option maxHeartbeats 4000000 in
set_option maxRecDepth 100000 in
theorem mX4_init (l : Launch) (T : Nat → ClassId) (D : va_G) (a : Nat) : MuV l yX4_init wsX4_init rmX4_init T xN D [.ref a] [(a, .inr (4, [.null, .null, .null, .null, .int 0, .int 0, .int 0, .int 0]))] (S := Nat → Nat) (fun y => y 0 = a) (fun y => siW T y z0 z0 z0 z0 z0 0) 5 122 := by
  refine met_mv (cc := cX4_init) (maxL := 1) (by decide) rfl (Nat.le_of_ble_eq_true rfl) ?_
  intro p_ e s m args below meth c ls A Q hx hb hts hown hml hX hP hD hK hS hA hl hin hret
  have hl : lv_has ls 1 [(0, .ref a)] := hl
  obtain ⟨H, hH⟩ : ∃ H, H = s.heap := ⟨_, rfl⟩
  have hS : va_S A s.heap H [] := by rw [hH]; exact hS
  rw [← hH] at hP ⊢
  refine lv_aload_n hx hb dX4_init_0 rfl (lv_at hl 0 rfl) ?_
  refine W.objInit hx hb hown (hts (.methodLink RX4 3 objectInit) (List.mem_of_getElem? (i := 1) rfl)) (hts (.instanceMethod objectInit) (List.mem_of_getElem? (i := 2) rfl)) (hts _ (List.mem_of_getElem? (i := 3) rfl)) rfl (by rw [hml]; exact hl.1) rfl dX4_init_1 (Nat.le_of_ble_eq_true rfl) (Nat.le_of_ble_eq_true rfl) ?_
  refine W.eq (g2 := F0 m 4 ls []) rfl ?_
  refine lv_aload_n hx hb dX4_init_4 rfl (lv_at hl 0 rfl) ?_
  refine nw_o (ci := 3) (fs := [.null, .int 0]) (C := RX3) (TT := TX3) (N := 2) hx hb hts inwX4_init_X3 tyX3 tyX3_ok hown (hts (.classLink RX4 9 RX3) (List.mem_of_getElem? (i := 4) rfl)) (hts (.instantiable RX3 2) (List.mem_of_getElem? (i := 5) rfl)) (hts (.initialized RX3) (List.mem_of_getElem? (i := 6) rfl)) hK hP hD hS hA rfl (fun j hj => by rcases (show j = 0 ∨ j = 1 by omega) with rfl | rfl <;> rfl) (Nat.le_of_ble_eq_true rfl) (Nat.le_of_ble_eq_true rfl) dX4_init_5 (fun q1_ H hP hD hS => ?_)
  refine W.widen (k := 1) (n := 2) (by omega) (by omega) ?_
  have hP : va_P D vwCl [(q1_, .inr (3, [.null, .int 0])), (a, .inr (4, [.null, .null, .null, .null, .int 0, .int 0, .int 0, .int 0]))] H := hP
  have hD : va_D A [(q1_, .inr (3, [.null, .int 0])), (a, .inr (4, [.null, .null, .null, .null, .int 0, .int 0, .int 0, .int 0]))] := hD
  refine lv_dup hx hb dX4_init_8 rfl ?_
  refine callIN (As := []) (wr := [(a, .inr (4, [.null, .null, .null, .null, .int 0, .int 0, .int 0, .int 0]))]) ⟨hx, hb, hml, hown, hts⟩ (mX3_init l T D q1_) ⟨va_cnB 0 hts gX4_init_X3_init_n11 rfl rfl rfl (hX.1 _ (List.mem_of_getElem? (i := 3) rfl)) (hts (.initialized RX3) (List.mem_of_getElem? (i := 6) rfl)) (pdX3_init).2 ⟨Nat.le_of_ble_eq_true rfl, Nat.le_of_ble_eq_true rfl⟩, rfl, (hts (.instanceMethod yX3_init) (List.mem_of_getElem? (i := 12) rfl))⟩ hP hD hK hS hA xN_bl (fun U _ hW => XN_warm hW hX) hl.1 rfl rfl (Nat.le_of_ble_eq_true rfl) dX4_init_9 ⟨Nat.le_of_ble_eq_true rfl, Nat.le_of_ble_eq_true rfl⟩ (fun u3_ H locs eu3_ hP hD hS => ?_)
  refine W.widen (k := 2) (n := 62) (by omega) (by omega) ?_
  have hP : va_P D vwCl [(q1_, .inr (3, [.ref u3_, .int (nI 0)])), (u3_, .inl (T 2, 60, .inl (z0))), (a, .inr (4, [.null, .null, .null, .null, .int 0, .int 0, .int 0, .int 0]))] H := hP
  have hD : va_D A [(q1_, .inr (3, [.ref u3_, .int (nI 0)])), (u3_, .inl (T 2, 60, .inl (z0))), (a, .inr (4, [.null, .null, .null, .null, .int 0, .int 0, .int 0, .int 0]))] := hD
  refine va_putF (D := D) (ci := 4) (v := .ref q1_) (C := RX4) (T := TX4) (N := 8) hx hb hts inwX4_init_X4 tyX4 tyX4_ok nmX4 hown hK hP hD hS 2 rfl rfl 0 (by decide) (hts (.fieldLink RX4 12 "PlateSlabs$Trial" "text" "LPlateSlabs$Text;") (List.mem_of_getElem? (i := 7) rfl)) (fun _ h9 => h9) rfl hin rfl (tyX4_ok 0 (by decide)) rfl rfl (Nat.le_of_ble_eq_true rfl) dX4_init_12 (fun H locs hP hD hS => ?_)
  have hP : va_P D vwCl [(q1_, .inr (3, [.ref u3_, .int (nI 0)])), (u3_, .inl (T 2, 60, .inl (z0))), (a, .inr (4, [.ref q1_, .null, .null, .null, .int 0, .int 0, .int 0, .int 0]))] H := hP
  have hD : va_D A [(q1_, .inr (3, [.ref u3_, .int (nI 0)])), (u3_, .inl (T 2, 60, .inl (z0))), (a, .inr (4, [.ref q1_, .null, .null, .null, .int 0, .int 0, .int 0, .int 0]))] := hD
  refine lv_aload_n hx hb dX4_init_15 rfl (lv_at hl 0 rfl) ?_
  refine lv_bipush (v := 20) hx hb dX4_init_16 (by decide) ?_
  refine nw_a hx hb (atype := .int) (hts (.arrayClass .int) (List.mem_of_getElem? (i := 8) rfl)) (ty := .int) rfl 0 rfl hK hP hD hS hA (N' := 20) (a0 := (20, (.inl z0))) (fun _ => rfl) (by decide) (by decide) (Nat.le_of_ble_eq_true rfl) (Nat.le_of_ble_eq_true rfl) (Nat.le_of_ble_eq_true rfl) dX4_init_18 (fun q4_ H hP hD hS => ?_)
  refine W.widen (k := 3) (n := 82) (by omega) (by omega) ?_
  have hP : va_P D vwCl [(q4_, .inl (T 0, 20, .inl (z0))), (q1_, .inr (3, [.ref u3_, .int (nI 0)])), (u3_, .inl (T 2, 60, .inl (z0))), (a, .inr (4, [.ref q1_, .null, .null, .null, .int 0, .int 0, .int 0, .int 0]))] H := hP
  have hD : va_D A [(q4_, .inl (T 0, 20, .inl (z0))), (q1_, .inr (3, [.ref u3_, .int (nI 0)])), (u3_, .inl (T 2, 60, .inl (z0))), (a, .inr (4, [.ref q1_, .null, .null, .null, .int 0, .int 0, .int 0, .int 0]))] := hD
  refine va_putF (D := D) (ci := 4) (v := .ref q4_) (C := RX4) (T := TX4) (N := 8) hx hb hts inwX4_init_X4 tyX4 tyX4_ok nmX4 hown hK hP hD hS 3 rfl rfl 1 (by decide) (hts (.fieldLink RX4 18 "PlateSlabs$Trial" "kinds" "[I") (List.mem_of_getElem? (i := 9) rfl)) (fun _ h9 => h9) rfl hin rfl (tyX4_ok 1 (by decide)) rfl rfl (Nat.le_of_ble_eq_true rfl) dX4_init_20 (fun H locs hP hD hS => ?_)
  have hP : va_P D vwCl [(q4_, .inl (T 0, 20, .inl (z0))), (q1_, .inr (3, [.ref u3_, .int (nI 0)])), (u3_, .inl (T 2, 60, .inl (z0))), (a, .inr (4, [.ref q1_, .ref q4_, .null, .null, .int 0, .int 0, .int 0, .int 0]))] H := hP
  have hD : va_D A [(q4_, .inl (T 0, 20, .inl (z0))), (q1_, .inr (3, [.ref u3_, .int (nI 0)])), (u3_, .inl (T 2, 60, .inl (z0))), (a, .inr (4, [.ref q1_, .ref q4_, .null, .null, .int 0, .int 0, .int 0, .int 0]))] := hD
  refine lv_aload_n hx hb dX4_init_23 rfl (lv_at hl 0 rfl) ?_
  refine lv_bipush (v := 20) hx hb dX4_init_24 (by decide) ?_
  refine nw_a hx hb (atype := .int) (hts (.arrayClass .int) (List.mem_of_getElem? (i := 8) rfl)) (ty := .int) rfl 0 rfl hK hP hD hS hA (N' := 20) (a0 := (20, (.inl z0))) (fun _ => rfl) (by decide) (by decide) (Nat.le_of_ble_eq_true rfl) (Nat.le_of_ble_eq_true rfl) (Nat.le_of_ble_eq_true rfl) dX4_init_26 (fun q5_ H hP hD hS => ?_)
  refine W.widen (k := 4) (n := 102) (by omega) (by omega) ?_
  have hP : va_P D vwCl [(q5_, .inl (T 0, 20, .inl (z0))), (q4_, .inl (T 0, 20, .inl (z0))), (q1_, .inr (3, [.ref u3_, .int (nI 0)])), (u3_, .inl (T 2, 60, .inl (z0))), (a, .inr (4, [.ref q1_, .ref q4_, .null, .null, .int 0, .int 0, .int 0, .int 0]))] H := hP
  have hD : va_D A [(q5_, .inl (T 0, 20, .inl (z0))), (q4_, .inl (T 0, 20, .inl (z0))), (q1_, .inr (3, [.ref u3_, .int (nI 0)])), (u3_, .inl (T 2, 60, .inl (z0))), (a, .inr (4, [.ref q1_, .ref q4_, .null, .null, .int 0, .int 0, .int 0, .int 0]))] := hD
  refine va_putF (D := D) (ci := 4) (v := .ref q5_) (C := RX4) (T := TX4) (N := 8) hx hb hts inwX4_init_X4 tyX4 tyX4_ok nmX4 hown hK hP hD hS 4 rfl rfl 2 (by decide) (hts (.fieldLink RX4 22 "PlateSlabs$Trial" "pairs" "[I") (List.mem_of_getElem? (i := 10) rfl)) (fun _ h9 => h9) rfl hin rfl (tyX4_ok 2 (by decide)) rfl rfl (Nat.le_of_ble_eq_true rfl) dX4_init_28 (fun H locs hP hD hS => ?_)
  have hP : va_P D vwCl [(q5_, .inl (T 0, 20, .inl (z0))), (q4_, .inl (T 0, 20, .inl (z0))), (q1_, .inr (3, [.ref u3_, .int (nI 0)])), (u3_, .inl (T 2, 60, .inl (z0))), (a, .inr (4, [.ref q1_, .ref q4_, .ref q5_, .null, .int 0, .int 0, .int 0, .int 0]))] H := hP
  have hD : va_D A [(q5_, .inl (T 0, 20, .inl (z0))), (q4_, .inl (T 0, 20, .inl (z0))), (q1_, .inr (3, [.ref u3_, .int (nI 0)])), (u3_, .inl (T 2, 60, .inl (z0))), (a, .inr (4, [.ref q1_, .ref q4_, .ref q5_, .null, .int 0, .int 0, .int 0, .int 0]))] := hD
  refine lv_aload_n hx hb dX4_init_31 rfl (lv_at hl 0 rfl) ?_
  refine lv_bipush (v := 20) hx hb dX4_init_32 (by decide) ?_
  refine nw_a hx hb (atype := .int) (hts (.arrayClass .int) (List.mem_of_getElem? (i := 8) rfl)) (ty := .int) rfl 0 rfl hK hP hD hS hA (N' := 20) (a0 := (20, (.inl z0))) (fun _ => rfl) (by decide) (by decide) (Nat.le_of_ble_eq_true rfl) (Nat.le_of_ble_eq_true rfl) (Nat.le_of_ble_eq_true rfl) dX4_init_34 (fun q6_ H hP hD hS => ?_)
  refine W.widen (k := 5) (n := 122) (by omega) (by omega) ?_
  have hP : va_P D vwCl [(q6_, .inl (T 0, 20, .inl (z0))), (q5_, .inl (T 0, 20, .inl (z0))), (q4_, .inl (T 0, 20, .inl (z0))), (q1_, .inr (3, [.ref u3_, .int (nI 0)])), (u3_, .inl (T 2, 60, .inl (z0))), (a, .inr (4, [.ref q1_, .ref q4_, .ref q5_, .null, .int 0, .int 0, .int 0, .int 0]))] H := hP
  have hD : va_D A [(q6_, .inl (T 0, 20, .inl (z0))), (q5_, .inl (T 0, 20, .inl (z0))), (q4_, .inl (T 0, 20, .inl (z0))), (q1_, .inr (3, [.ref u3_, .int (nI 0)])), (u3_, .inl (T 2, 60, .inl (z0))), (a, .inr (4, [.ref q1_, .ref q4_, .ref q5_, .null, .int 0, .int 0, .int 0, .int 0]))] := hD
  refine va_putF (D := D) (ci := 4) (v := .ref q6_) (C := RX4) (T := TX4) (N := 8) hx hb hts inwX4_init_X4 tyX4 tyX4_ok nmX4 hown hK hP hD hS 5 rfl rfl 3 (by decide) (hts (.fieldLink RX4 25 "PlateSlabs$Trial" "values" "[I") (List.mem_of_getElem? (i := 11) rfl)) (fun _ h9 => h9) rfl hin rfl (tyX4_ok 3 (by decide)) rfl rfl (Nat.le_of_ble_eq_true rfl) dX4_init_36 (fun H locs hP hD hS => ?_)
  have hP : va_P D vwCl [(q6_, .inl (T 0, 20, .inl (z0))), (q5_, .inl (T 0, 20, .inl (z0))), (q4_, .inl (T 0, 20, .inl (z0))), (q1_, .inr (3, [.ref u3_, .int (nI 0)])), (u3_, .inl (T 2, 60, .inl (z0))), (a, .inr (4, [.ref q1_, .ref q4_, .ref q5_, .ref q6_, .int 0, .int 0, .int 0, .int 0]))] H := hP
  have hD : va_D A [(q6_, .inl (T 0, 20, .inl (z0))), (q5_, .inl (T 0, 20, .inl (z0))), (q4_, .inl (T 0, 20, .inl (z0))), (q1_, .inr (3, [.ref u3_, .int (nI 0)])), (u3_, .inl (T 2, 60, .inl (z0))), (a, .inr (4, [.ref q1_, .ref q4_, .ref q5_, .ref q6_, .int 0, .int 0, .int 0, .int 0]))] := hD
  have hP := bP (bs := [[(q6_, .inl (T 0, 20, .inl (z0)))], [(q5_, .inl (T 0, 20, .inl (z0)))], [(q4_, .inl (T 0, 20, .inl (z0)))], [(q1_, .inr (3, [.ref u3_, .int (nI 0)]))], [(u3_, .inl (T 2, 60, .inl (z0)))], [(a, .inr (4, [.ref q1_, .ref q4_, .ref q5_, .ref q6_, .int 0, .int 0, .int 0, .int 0]))]]) (bs' := [[(a, .inr (4, [.ref q1_, .ref q4_, .ref q5_, .ref q6_, .int 0, .int 0, .int 0, .int 0]))], [(q1_, .inr (3, [.ref u3_, .int (nI 0)]))], [(u3_, .inl (T 2, 60, .inl (z0)))], [(q4_, .inl (T 0, 20, .inl (z0)))], [(q5_, .inl (T 0, 20, .inl (z0)))], [(q6_, .inl (T 0, 20, .inl (z0)))]]) hP [5, 3, 4, 2, 1, 0] rfl rfl
  have hD := bD (bs := [[(q6_, .inl (T 0, 20, .inl (z0)))], [(q5_, .inl (T 0, 20, .inl (z0)))], [(q4_, .inl (T 0, 20, .inl (z0)))], [(q1_, .inr (3, [.ref u3_, .int (nI 0)]))], [(u3_, .inl (T 2, 60, .inl (z0)))], [(a, .inr (4, [.ref q1_, .ref q4_, .ref q5_, .ref q6_, .int 0, .int 0, .int 0, .int 0]))]]) (bs' := [[(a, .inr (4, [.ref q1_, .ref q4_, .ref q5_, .ref q6_, .int 0, .int 0, .int 0, .int 0]))], [(q1_, .inr (3, [.ref u3_, .int (nI 0)]))], [(u3_, .inl (T 2, 60, .inl (z0)))], [(q4_, .inl (T 0, 20, .inl (z0)))], [(q5_, .inl (T 0, 20, .inl (z0)))], [(q6_, .inl (T 0, 20, .inl (z0)))]]) hD [5, 3, 4, 2, 1, 0] rfl rfl
  exact hret _ _ (ad6 a q4_ q5_ q6_ q1_ u3_) _ _ dX4_init_39 hS hP hD rfl

abbrev AD5 : Type := ((Nat → Nat) × (Nat → Nat) × (Nat → Nat)) × ((Nat → Nat) × (Nat → Nat → Nat)) × (Nat × Nat) × (Nat → Nat)
abbrev obW (z : Nat) (b1 b2 b3 h : Nat → Nat) (a : Nat) (y : Nat → Nat) (k0 k1 k2 k3 : Int32) : va_W := [(z, .inr (5, [.ref (b1 0), .ref (b2 0), .ref (b3 0), .int k0, .ref (h 0), .ref a, .ref (y 0), .int k1, .int k2, .int k3]))]
def rmX5_init : Room := { frames := 4, cells := 80, slots := 598, locals := 74 }
set_option maxHeartbeats 4000000 in
set_option maxRecDepth 100000 in
theorem mX5_init (l : Launch) (T : Nat → ClassId) (D : va_G) (a : Nat) : MuV l yX5_init wsX5_init rmX5_init T xN D [.ref a] [(a, .inr (5, [.null, .null, .null, .int 0, .null, .null, .null, .int 0, .int 0, .int 0]))] (S := AD5) (fun _ => True) (fun u => fl [obW a u.1.1 u.1.2.1 u.1.2.2 u.2.1.1 u.2.2.1.1 u.2.2.2 0 0 0 0, sgW T u.1.1 sg0, hiW T u.2.1.1 u.2.1.2 0 (fun _ => sg0), sgW T u.1.2.1 sg0, sgW T u.1.2.2 sg0, plW T u.2.2.1.1 u.2.2.1.2 pV0 pG0, siW T u.2.2.2 z0 z0 z0 z0 z0 0]) 80 598 := by
  refine met_mv (cc := cX5_init) (maxL := 1) (by decide) rfl (Nat.le_of_ble_eq_true rfl) ?_
  intro p_ e s m args below meth c ls A Q hx hb hts hown hml hX hP hD hK hS hA hl hin hret
  have hl : lv_has ls 1 [(0, .ref a)] := hl
  obtain ⟨H, hH⟩ : ∃ H, H = s.heap := ⟨_, rfl⟩
  have hS : va_S A s.heap H [] := by rw [hH]; exact hS
  rw [← hH] at hP ⊢
  refine lv_aload_n hx hb dX5_init_0 rfl (lv_at hl 0 rfl) ?_
  refine W.objInit hx hb hown (hts (.methodLink RX5 1 objectInit) (List.mem_of_getElem? (i := 1) rfl)) (hts (.instanceMethod objectInit) (List.mem_of_getElem? (i := 2) rfl)) (hts _ (List.mem_of_getElem? (i := 3) rfl)) rfl (by rw [hml]; exact hl.1) rfl dX5_init_1 (Nat.le_of_ble_eq_true rfl) (Nat.le_of_ble_eq_true rfl) ?_
  refine W.eq (g2 := F0 m 4 ls []) rfl ?_
  refine lv_aload_n hx hb dX5_init_4 rfl (lv_at hl 0 rfl) ?_
  refine nw_o (ci := 2) (fs := [.null, .int 0, .int 0, .int 0]) (C := RX2) (TT := TX2) (N := 4) hx hb hts inwX5_init_X2 tyX2 tyX2_ok hown (hts (.classLink RX5 7 RX2) (List.mem_of_getElem? (i := 4) rfl)) (hts (.instantiable RX2 4) (List.mem_of_getElem? (i := 5) rfl)) (hts (.initialized RX2) (List.mem_of_getElem? (i := 6) rfl)) hK hP hD hS hA rfl (fun j hj => by rcases (show j = 0 ∨ j = 1 ∨ j = 2 ∨ j = 3 by omega) with rfl | rfl | rfl | rfl <;> rfl) (Nat.le_of_ble_eq_true rfl) (Nat.le_of_ble_eq_true rfl) dX5_init_5 (fun q1_ H hP hD hS => ?_)
  refine W.widen (k := 1) (n := 4) (by omega) (by omega) ?_
  have hP : va_P D vwCl [(q1_, .inr (2, [.null, .int 0, .int 0, .int 0])), (a, .inr (5, [.null, .null, .null, .int 0, .null, .null, .null, .int 0, .int 0, .int 0]))] H := hP
  have hD : va_D A [(q1_, .inr (2, [.null, .int 0, .int 0, .int 0])), (a, .inr (5, [.null, .null, .null, .int 0, .null, .null, .null, .int 0, .int 0, .int 0]))] := hD
  refine lv_dup hx hb dX5_init_8 rfl ?_
  refine callIv (As := []) (wr := [(a, .inr (5, [.null, .null, .null, .int 0, .null, .null, .null, .int 0, .int 0, .int 0]))]) ⟨hx, hb, hml, hown, hts⟩ (mX2_init l T D q1_) (cwI 0 hts gX5_init_X2_init rfl rfl rfl (hts (.initialized RX2) (List.mem_of_getElem? (i := 6) rfl)) (hts (.methodLink RX5 9 yX2_init) (List.mem_of_getElem? (i := 22) rfl)) (hts (.instanceMethod yX2_init) (List.mem_of_getElem? (i := 23) rfl)) rfl (pdX2_init).2 ⟨Nat.le_of_ble_eq_true rfl, Nat.le_of_ble_eq_true rfl⟩) hP hD hK hS hA xN_bl (fun U _ hW => XN_warm hW hX) hl.1 rfl rfl (Nat.le_of_ble_eq_true rfl) dX5_init_9 ⟨Nat.le_of_ble_eq_true rfl, Nat.le_of_ble_eq_true rfl⟩ (fun u3_ H locs eu3_ hP hD hS => ?_)
  refine W.widen (k := 10) (n := 64) (by omega) (by omega) ?_
  have hP1 := hP
  have hD1 := hD
  subst eu3_
  have hP := hP1
  have hD := hD1
  have hP := wP_perm (pm3 (sgW T u3_ sg0) [(a, .inr (5, [.null, .null, .null, .int 0, .null, .null, .null, .int 0, .int 0, .int 0]))] []) hP
  have hD := wD_perm (pm3 (sgW T u3_ sg0) [(a, .inr (5, [.null, .null, .null, .int 0, .null, .null, .null, .int 0, .int 0, .int 0]))] []) hD
  have hP : va_P D vwCl ([(a, .inr (5, [.null, .null, .null, .int 0, .null, .null, .null, .int 0, .int 0, .int 0]))] ++ (sgW T u3_ sg0 ++ [])) H := hP
  have hD : va_D A ([(a, .inr (5, [.null, .null, .null, .int 0, .null, .null, .null, .int 0, .int 0, .int 0]))] ++ (sgW T u3_ sg0 ++ [])) := hD
  refine va_putF (D := D) (ci := 5) (v := .ref (u3_ 0)) (C := RX5) (T := TX5) (N := 10) hx hb hts inwX5_init_X5 tyX5 tyX5_ok nmX5 hown hK hP hD hS 0 rfl rfl 0 (by decide) (hts (.fieldLink RX5 10 "PlateSlabs" "now" "LPlateSlabs$State;") (List.mem_of_getElem? (i := 7) rfl)) (fun _ h9 => h9) rfl hin rfl (tyX5_ok 0 (by decide)) rfl rfl (Nat.le_of_ble_eq_true rfl) dX5_init_12 (fun H locs hP hD hS => ?_)
  have hP : va_P D vwCl ([(a, .inr (5, [.ref (u3_ 0), .null, .null, .int 0, .null, .null, .null, .int 0, .int 0, .int 0]))] ++ (sgW T u3_ sg0 ++ [])) H := hP
  have hD : va_D A ([(a, .inr (5, [.ref (u3_ 0), .null, .null, .int 0, .null, .null, .null, .int 0, .int 0, .int 0]))] ++ (sgW T u3_ sg0 ++ [])) := hD
  refine lv_aload_n hx hb dX5_init_15 rfl (lv_at hl 0 rfl) ?_
  refine nw_o (ci := 2) (fs := [.null, .int 0, .int 0, .int 0]) (C := RX2) (TT := TX2) (N := 4) hx hb hts inwX5_init_X2 tyX2 tyX2_ok hown (hts (.classLink RX5 7 RX2) (List.mem_of_getElem? (i := 4) rfl)) (hts (.instantiable RX2 4) (List.mem_of_getElem? (i := 5) rfl)) (hts (.initialized RX2) (List.mem_of_getElem? (i := 6) rfl)) hK hP hD hS hA rfl (fun j hj => by rcases (show j = 0 ∨ j = 1 ∨ j = 2 ∨ j = 3 by omega) with rfl | rfl | rfl | rfl <;> rfl) (Nat.le_of_ble_eq_true rfl) (Nat.le_of_ble_eq_true rfl) dX5_init_16 (fun q4_ H hP hD hS => ?_)
  refine W.widen (k := 11) (n := 68) (by omega) (by omega) ?_
  have hP : va_P D vwCl ([(q4_, .inr (2, [.null, .int 0, .int 0, .int 0])), (a, .inr (5, [.ref (u3_ 0), .null, .null, .int 0, .null, .null, .null, .int 0, .int 0, .int 0]))] ++ (sgW T u3_ sg0 ++ [])) H := hP
  have hD : va_D A ([(q4_, .inr (2, [.null, .int 0, .int 0, .int 0])), (a, .inr (5, [.ref (u3_ 0), .null, .null, .int 0, .null, .null, .null, .int 0, .int 0, .int 0]))] ++ (sgW T u3_ sg0 ++ [])) := hD
  refine lv_dup hx hb dX5_init_19 rfl ?_
  refine callIv (As := []) (wr := ([(a, .inr (5, [.ref (u3_ 0), .null, .null, .int 0, .null, .null, .null, .int 0, .int 0, .int 0]))] ++ (sgW T u3_ sg0 ++ []))) ⟨hx, hb, hml, hown, hts⟩ (mX2_init l T D q4_) (cwI 0 hts gX5_init_X2_init rfl rfl rfl (hts (.initialized RX2) (List.mem_of_getElem? (i := 6) rfl)) (hts (.methodLink RX5 9 yX2_init) (List.mem_of_getElem? (i := 22) rfl)) (hts (.instanceMethod yX2_init) (List.mem_of_getElem? (i := 23) rfl)) rfl (pdX2_init).2 ⟨Nat.le_of_ble_eq_true rfl, Nat.le_of_ble_eq_true rfl⟩) hP hD hK hS hA xN_bl (fun U _ hW => XN_warm hW hX) hl.1 rfl rfl (Nat.le_of_ble_eq_true rfl) dX5_init_20 ⟨Nat.le_of_ble_eq_true rfl, Nat.le_of_ble_eq_true rfl⟩ (fun u6_ H locs eu6_ hP hD hS => ?_)
  refine W.widen (k := 20) (n := 128) (by omega) (by omega) ?_
  have hP1 := hP
  have hD1 := hD
  subst eu6_
  have hP := hP1
  have hD := hD1
  have hP := wP_perm (pm3 (sgW T u6_ sg0) [(a, .inr (5, [.ref (u3_ 0), .null, .null, .int 0, .null, .null, .null, .int 0, .int 0, .int 0]))] (sgW T u3_ sg0 ++ [])) hP
  have hD := wD_perm (pm3 (sgW T u6_ sg0) [(a, .inr (5, [.ref (u3_ 0), .null, .null, .int 0, .null, .null, .null, .int 0, .int 0, .int 0]))] (sgW T u3_ sg0 ++ [])) hD
  have hP : va_P D vwCl ([(a, .inr (5, [.ref (u3_ 0), .null, .null, .int 0, .null, .null, .null, .int 0, .int 0, .int 0]))] ++ (sgW T u6_ sg0 ++ (sgW T u3_ sg0 ++ []))) H := hP
  have hD : va_D A ([(a, .inr (5, [.ref (u3_ 0), .null, .null, .int 0, .null, .null, .null, .int 0, .int 0, .int 0]))] ++ (sgW T u6_ sg0 ++ (sgW T u3_ sg0 ++ []))) := hD
  refine va_putF (D := D) (ci := 5) (v := .ref (u6_ 0)) (C := RX5) (T := TX5) (N := 10) hx hb hts inwX5_init_X5 tyX5 tyX5_ok nmX5 hown hK hP hD hS 0 rfl rfl 1 (by decide) (hts (.fieldLink RX5 16 "PlateSlabs" "before" "LPlateSlabs$State;") (List.mem_of_getElem? (i := 8) rfl)) (fun _ h9 => h9) rfl hin rfl (tyX5_ok 1 (by decide)) rfl rfl (Nat.le_of_ble_eq_true rfl) dX5_init_23 (fun H locs hP hD hS => ?_)
  have hP : va_P D vwCl ([(a, .inr (5, [.ref (u3_ 0), .ref (u6_ 0), .null, .int 0, .null, .null, .null, .int 0, .int 0, .int 0]))] ++ (sgW T u6_ sg0 ++ (sgW T u3_ sg0 ++ []))) H := hP
  have hD : va_D A ([(a, .inr (5, [.ref (u3_ 0), .ref (u6_ 0), .null, .int 0, .null, .null, .null, .int 0, .int 0, .int 0]))] ++ (sgW T u6_ sg0 ++ (sgW T u3_ sg0 ++ []))) := hD
  refine lv_aload_n hx hb dX5_init_26 rfl (lv_at hl 0 rfl) ?_
  refine nw_o (ci := 2) (fs := [.null, .int 0, .int 0, .int 0]) (C := RX2) (TT := TX2) (N := 4) hx hb hts inwX5_init_X2 tyX2 tyX2_ok hown (hts (.classLink RX5 7 RX2) (List.mem_of_getElem? (i := 4) rfl)) (hts (.instantiable RX2 4) (List.mem_of_getElem? (i := 5) rfl)) (hts (.initialized RX2) (List.mem_of_getElem? (i := 6) rfl)) hK hP hD hS hA rfl (fun j hj => by rcases (show j = 0 ∨ j = 1 ∨ j = 2 ∨ j = 3 by omega) with rfl | rfl | rfl | rfl <;> rfl) (Nat.le_of_ble_eq_true rfl) (Nat.le_of_ble_eq_true rfl) dX5_init_27 (fun q7_ H hP hD hS => ?_)
  refine W.widen (k := 21) (n := 132) (by omega) (by omega) ?_
  have hP : va_P D vwCl ([(q7_, .inr (2, [.null, .int 0, .int 0, .int 0])), (a, .inr (5, [.ref (u3_ 0), .ref (u6_ 0), .null, .int 0, .null, .null, .null, .int 0, .int 0, .int 0]))] ++ (sgW T u6_ sg0 ++ (sgW T u3_ sg0 ++ []))) H := hP
  have hD : va_D A ([(q7_, .inr (2, [.null, .int 0, .int 0, .int 0])), (a, .inr (5, [.ref (u3_ 0), .ref (u6_ 0), .null, .int 0, .null, .null, .null, .int 0, .int 0, .int 0]))] ++ (sgW T u6_ sg0 ++ (sgW T u3_ sg0 ++ []))) := hD
  refine lv_dup hx hb dX5_init_30 rfl ?_
  refine callIv (As := []) (wr := ([(a, .inr (5, [.ref (u3_ 0), .ref (u6_ 0), .null, .int 0, .null, .null, .null, .int 0, .int 0, .int 0]))] ++ (sgW T u6_ sg0 ++ (sgW T u3_ sg0 ++ [])))) ⟨hx, hb, hml, hown, hts⟩ (mX2_init l T D q7_) (cwI 0 hts gX5_init_X2_init rfl rfl rfl (hts (.initialized RX2) (List.mem_of_getElem? (i := 6) rfl)) (hts (.methodLink RX5 9 yX2_init) (List.mem_of_getElem? (i := 22) rfl)) (hts (.instanceMethod yX2_init) (List.mem_of_getElem? (i := 23) rfl)) rfl (pdX2_init).2 ⟨Nat.le_of_ble_eq_true rfl, Nat.le_of_ble_eq_true rfl⟩) hP hD hK hS hA xN_bl (fun U _ hW => XN_warm hW hX) hl.1 rfl rfl (Nat.le_of_ble_eq_true rfl) dX5_init_31 ⟨Nat.le_of_ble_eq_true rfl, Nat.le_of_ble_eq_true rfl⟩ (fun u9_ H locs eu9_ hP hD hS => ?_)
  refine W.widen (k := 30) (n := 192) (by omega) (by omega) ?_
  have hP1 := hP
  have hD1 := hD
  subst eu9_
  have hP := hP1
  have hD := hD1
  have hP := wP_perm (pm3 (sgW T u9_ sg0) [(a, .inr (5, [.ref (u3_ 0), .ref (u6_ 0), .null, .int 0, .null, .null, .null, .int 0, .int 0, .int 0]))] (sgW T u6_ sg0 ++ (sgW T u3_ sg0 ++ []))) hP
  have hD := wD_perm (pm3 (sgW T u9_ sg0) [(a, .inr (5, [.ref (u3_ 0), .ref (u6_ 0), .null, .int 0, .null, .null, .null, .int 0, .int 0, .int 0]))] (sgW T u6_ sg0 ++ (sgW T u3_ sg0 ++ []))) hD
  have hP : va_P D vwCl ([(a, .inr (5, [.ref (u3_ 0), .ref (u6_ 0), .null, .int 0, .null, .null, .null, .int 0, .int 0, .int 0]))] ++ (sgW T u9_ sg0 ++ (sgW T u6_ sg0 ++ (sgW T u3_ sg0 ++ [])))) H := hP
  have hD : va_D A ([(a, .inr (5, [.ref (u3_ 0), .ref (u6_ 0), .null, .int 0, .null, .null, .null, .int 0, .int 0, .int 0]))] ++ (sgW T u9_ sg0 ++ (sgW T u6_ sg0 ++ (sgW T u3_ sg0 ++ [])))) := hD
  refine va_putF (D := D) (ci := 5) (v := .ref (u9_ 0)) (C := RX5) (T := TX5) (N := 10) hx hb hts inwX5_init_X5 tyX5 tyX5_ok nmX5 hown hK hP hD hS 0 rfl rfl 2 (by decide) (hts (.fieldLink RX5 19 "PlateSlabs" "snapshot" "LPlateSlabs$State;") (List.mem_of_getElem? (i := 9) rfl)) (fun _ h9 => h9) rfl hin rfl (tyX5_ok 2 (by decide)) rfl rfl (Nat.le_of_ble_eq_true rfl) dX5_init_34 (fun H locs hP hD hS => ?_)
  have hP : va_P D vwCl ([(a, .inr (5, [.ref (u3_ 0), .ref (u6_ 0), .ref (u9_ 0), .int 0, .null, .null, .null, .int 0, .int 0, .int 0]))] ++ (sgW T u9_ sg0 ++ (sgW T u6_ sg0 ++ (sgW T u3_ sg0 ++ [])))) H := hP
  have hD : va_D A ([(a, .inr (5, [.ref (u3_ 0), .ref (u6_ 0), .ref (u9_ 0), .int 0, .null, .null, .null, .int 0, .int 0, .int 0]))] ++ (sgW T u9_ sg0 ++ (sgW T u6_ sg0 ++ (sgW T u3_ sg0 ++ [])))) := hD
  refine lv_aload_n hx hb dX5_init_37 rfl (lv_at hl 0 rfl) ?_
  refine nw_o (ci := 0) (fs := [.null, .int 0]) (C := RX0) (TT := TX0) (N := 2) hx hb hts inwX5_init_X0 tyX0 tyX0_ok hown (hts (.classLink RX5 22 RX0) (List.mem_of_getElem? (i := 10) rfl)) (hts (.instantiable RX0 2) (List.mem_of_getElem? (i := 11) rfl)) (hts (.initialized RX0) (List.mem_of_getElem? (i := 12) rfl)) hK hP hD hS hA rfl (fun j hj => by rcases (show j = 0 ∨ j = 1 by omega) with rfl | rfl <;> rfl) (Nat.le_of_ble_eq_true rfl) (Nat.le_of_ble_eq_true rfl) dX5_init_38 (fun q10_ H hP hD hS => ?_)
  refine W.widen (k := 31) (n := 194) (by omega) (by omega) ?_
  have hP : va_P D vwCl ([(q10_, .inr (0, [.null, .int 0])), (a, .inr (5, [.ref (u3_ 0), .ref (u6_ 0), .ref (u9_ 0), .int 0, .null, .null, .null, .int 0, .int 0, .int 0]))] ++ (sgW T u9_ sg0 ++ (sgW T u6_ sg0 ++ (sgW T u3_ sg0 ++ [])))) H := hP
  have hD : va_D A ([(q10_, .inr (0, [.null, .int 0])), (a, .inr (5, [.ref (u3_ 0), .ref (u6_ 0), .ref (u9_ 0), .int 0, .null, .null, .null, .int 0, .int 0, .int 0]))] ++ (sgW T u9_ sg0 ++ (sgW T u6_ sg0 ++ (sgW T u3_ sg0 ++ [])))) := hD
  refine lv_dup hx hb dX5_init_41 rfl ?_
  refine callIv (As := []) (wr := ([(a, .inr (5, [.ref (u3_ 0), .ref (u6_ 0), .ref (u9_ 0), .int 0, .null, .null, .null, .int 0, .int 0, .int 0]))] ++ (sgW T u9_ sg0 ++ (sgW T u6_ sg0 ++ (sgW T u3_ sg0 ++ []))))) ⟨hx, hb, hml, hown, hts⟩ (mX0_init l T D q10_) (cwI 0 hts gX5_init_X0_init rfl rfl rfl (hts (.initialized RX0) (List.mem_of_getElem? (i := 12) rfl)) (hts (.methodLink RX5 24 yX0_init) (List.mem_of_getElem? (i := 34) rfl)) (hts (.instanceMethod yX0_init) (List.mem_of_getElem? (i := 35) rfl)) rfl (pdX0_init).2 ⟨Nat.le_of_ble_eq_true rfl, Nat.le_of_ble_eq_true rfl⟩) hP hD hK hS hA xN_bl (fun U _ hW => XN_warm hW hX) hl.1 rfl rfl (Nat.le_of_ble_eq_true rfl) dX5_init_42 ⟨Nat.le_of_ble_eq_true rfl, Nat.le_of_ble_eq_true rfl⟩ (fun u12_ H locs eu12_ hP hD hS => ?_)
  refine W.widen (k := 72) (n := 454) (by omega) (by omega) ?_
  have hP1 := hP
  have hD1 := hD
  subst eu12_
  have hP := hP1
  have hD := hD1
  have hP := wP_perm (pm3 (hiW T u12_.1 u12_.2 0 (fun _ => sg0)) [(a, .inr (5, [.ref (u3_ 0), .ref (u6_ 0), .ref (u9_ 0), .int 0, .null, .null, .null, .int 0, .int 0, .int 0]))] (sgW T u9_ sg0 ++ (sgW T u6_ sg0 ++ (sgW T u3_ sg0 ++ [])))) hP
  have hD := wD_perm (pm3 (hiW T u12_.1 u12_.2 0 (fun _ => sg0)) [(a, .inr (5, [.ref (u3_ 0), .ref (u6_ 0), .ref (u9_ 0), .int 0, .null, .null, .null, .int 0, .int 0, .int 0]))] (sgW T u9_ sg0 ++ (sgW T u6_ sg0 ++ (sgW T u3_ sg0 ++ [])))) hD
  have hP : va_P D vwCl ([(a, .inr (5, [.ref (u3_ 0), .ref (u6_ 0), .ref (u9_ 0), .int 0, .null, .null, .null, .int 0, .int 0, .int 0]))] ++ (hiW T u12_.1 u12_.2 0 (fun _ => sg0) ++ (sgW T u9_ sg0 ++ (sgW T u6_ sg0 ++ (sgW T u3_ sg0 ++ []))))) H := hP
  have hD : va_D A ([(a, .inr (5, [.ref (u3_ 0), .ref (u6_ 0), .ref (u9_ 0), .int 0, .null, .null, .null, .int 0, .int 0, .int 0]))] ++ (hiW T u12_.1 u12_.2 0 (fun _ => sg0) ++ (sgW T u9_ sg0 ++ (sgW T u6_ sg0 ++ (sgW T u3_ sg0 ++ []))))) := hD
  refine va_putF (D := D) (ci := 5) (v := .ref (u12_.1 0)) (C := RX5) (T := TX5) (N := 10) hx hb hts inwX5_init_X5 tyX5 tyX5_ok nmX5 hown hK hP hD hS 0 rfl rfl 4 (by decide) (hts (.fieldLink RX5 25 "PlateSlabs" "history" "LPlateSlabs$History;") (List.mem_of_getElem? (i := 13) rfl)) (fun _ h9 => h9) rfl hin rfl (tyX5_ok 4 (by decide)) rfl rfl (Nat.le_of_ble_eq_true rfl) dX5_init_45 (fun H locs hP hD hS => ?_)
  have hP : va_P D vwCl ([(a, .inr (5, [.ref (u3_ 0), .ref (u6_ 0), .ref (u9_ 0), .int 0, .ref (u12_.1 0), .null, .null, .int 0, .int 0, .int 0]))] ++ (hiW T u12_.1 u12_.2 0 (fun _ => sg0) ++ (sgW T u9_ sg0 ++ (sgW T u6_ sg0 ++ (sgW T u3_ sg0 ++ []))))) H := hP
  have hD : va_D A ([(a, .inr (5, [.ref (u3_ 0), .ref (u6_ 0), .ref (u9_ 0), .int 0, .ref (u12_.1 0), .null, .null, .int 0, .int 0, .int 0]))] ++ (hiW T u12_.1 u12_.2 0 (fun _ => sg0) ++ (sgW T u9_ sg0 ++ (sgW T u6_ sg0 ++ (sgW T u3_ sg0 ++ []))))) := hD
  refine lv_aload_n hx hb dX5_init_48 rfl (lv_at hl 0 rfl) ?_
  refine nw_o (ci := 1) (fs := [.null, .int 0, .int 0, .int 0, .int 0, .long 0, .long 0, .long 0]) (C := RX1) (TT := TX1) (N := 8) hx hb hts inwX5_init_X1 tyX1 tyX1_ok hown (hts (.classLink RX5 29 RX1) (List.mem_of_getElem? (i := 14) rfl)) (hts (.instantiable RX1 8) (List.mem_of_getElem? (i := 15) rfl)) (hts (.initialized RX1) (List.mem_of_getElem? (i := 16) rfl)) hK hP hD hS hA rfl (fun j hj => by rcases (show j = 0 ∨ j = 1 ∨ j = 2 ∨ j = 3 ∨ j = 4 ∨ j = 5 ∨ j = 6 ∨ j = 7 by omega) with rfl | rfl | rfl | rfl | rfl | rfl | rfl | rfl <;> rfl) (Nat.le_of_ble_eq_true rfl) (Nat.le_of_ble_eq_true rfl) dX5_init_49 (fun q13_ H hP hD hS => ?_)
  refine W.widen (k := 73) (n := 462) (by omega) (by omega) ?_
  have hP : va_P D vwCl ([(q13_, .inr (1, [.null, .int 0, .int 0, .int 0, .int 0, .long 0, .long 0, .long 0])), (a, .inr (5, [.ref (u3_ 0), .ref (u6_ 0), .ref (u9_ 0), .int 0, .ref (u12_.1 0), .null, .null, .int 0, .int 0, .int 0]))] ++ (hiW T u12_.1 u12_.2 0 (fun _ => sg0) ++ (sgW T u9_ sg0 ++ (sgW T u6_ sg0 ++ (sgW T u3_ sg0 ++ []))))) H := hP
  have hD : va_D A ([(q13_, .inr (1, [.null, .int 0, .int 0, .int 0, .int 0, .long 0, .long 0, .long 0])), (a, .inr (5, [.ref (u3_ 0), .ref (u6_ 0), .ref (u9_ 0), .int 0, .ref (u12_.1 0), .null, .null, .int 0, .int 0, .int 0]))] ++ (hiW T u12_.1 u12_.2 0 (fun _ => sg0) ++ (sgW T u9_ sg0 ++ (sgW T u6_ sg0 ++ (sgW T u3_ sg0 ++ []))))) := hD
  refine lv_dup hx hb dX5_init_52 rfl ?_
  refine callIN (As := []) (wr := ([(a, .inr (5, [.ref (u3_ 0), .ref (u6_ 0), .ref (u9_ 0), .int 0, .ref (u12_.1 0), .null, .null, .int 0, .int 0, .int 0]))] ++ (hiW T u12_.1 u12_.2 0 (fun _ => sg0) ++ (sgW T u9_ sg0 ++ (sgW T u6_ sg0 ++ (sgW T u3_ sg0 ++ [])))))) ⟨hx, hb, hml, hown, hts⟩ (mX1_init l T D q13_) ⟨va_cnB 0 hts gX5_init_X1_init_n31 rfl rfl rfl (hX.1 _ (List.mem_of_getElem? (i := 1) rfl)) (hts (.initialized RX1) (List.mem_of_getElem? (i := 16) rfl)) (pdX1_init).2 ⟨Nat.le_of_ble_eq_true rfl, Nat.le_of_ble_eq_true rfl⟩, rfl, (hts (.instanceMethod yX1_init) (List.mem_of_getElem? (i := 28) rfl))⟩ hP hD hK hS hA xN_bl (fun U _ hW => XN_warm hW hX) hl.1 rfl rfl (Nat.le_of_ble_eq_true rfl) dX5_init_53 ⟨Nat.le_of_ble_eq_true rfl, Nat.le_of_ble_eq_true rfl⟩ (fun u15_ H locs eu15_ hP hD hS => ?_)
  refine W.widen (k := 74) (n := 468) (by omega) (by omega) ?_
  have hP := wP_perm (pm3 (plW T q13_ u15_ pV0 pG0) [(a, .inr (5, [.ref (u3_ 0), .ref (u6_ 0), .ref (u9_ 0), .int 0, .ref (u12_.1 0), .null, .null, .int 0, .int 0, .int 0]))] (hiW T u12_.1 u12_.2 0 (fun _ => sg0) ++ (sgW T u9_ sg0 ++ (sgW T u6_ sg0 ++ (sgW T u3_ sg0 ++ []))))) hP
  have hD := wD_perm (pm3 (plW T q13_ u15_ pV0 pG0) [(a, .inr (5, [.ref (u3_ 0), .ref (u6_ 0), .ref (u9_ 0), .int 0, .ref (u12_.1 0), .null, .null, .int 0, .int 0, .int 0]))] (hiW T u12_.1 u12_.2 0 (fun _ => sg0) ++ (sgW T u9_ sg0 ++ (sgW T u6_ sg0 ++ (sgW T u3_ sg0 ++ []))))) hD
  have hP : va_P D vwCl ([(a, .inr (5, [.ref (u3_ 0), .ref (u6_ 0), .ref (u9_ 0), .int 0, .ref (u12_.1 0), .null, .null, .int 0, .int 0, .int 0]))] ++ (plW T q13_ u15_ pV0 pG0 ++ (hiW T u12_.1 u12_.2 0 (fun _ => sg0) ++ (sgW T u9_ sg0 ++ (sgW T u6_ sg0 ++ (sgW T u3_ sg0 ++ [])))))) H := hP
  have hD : va_D A ([(a, .inr (5, [.ref (u3_ 0), .ref (u6_ 0), .ref (u9_ 0), .int 0, .ref (u12_.1 0), .null, .null, .int 0, .int 0, .int 0]))] ++ (plW T q13_ u15_ pV0 pG0 ++ (hiW T u12_.1 u12_.2 0 (fun _ => sg0) ++ (sgW T u9_ sg0 ++ (sgW T u6_ sg0 ++ (sgW T u3_ sg0 ++ [])))))) := hD
  refine va_putF (D := D) (ci := 5) (v := .ref q13_) (C := RX5) (T := TX5) (N := 10) hx hb hts inwX5_init_X5 tyX5 tyX5_ok nmX5 hown hK hP hD hS 0 rfl rfl 5 (by decide) (hts (.fieldLink RX5 32 "PlateSlabs" "guess" "LPlateSlabs$Plates;") (List.mem_of_getElem? (i := 17) rfl)) (fun _ h9 => h9) rfl hin rfl (tyX5_ok 5 (by decide)) rfl rfl (Nat.le_of_ble_eq_true rfl) dX5_init_56 (fun H locs hP hD hS => ?_)
  have hP : va_P D vwCl ([(a, .inr (5, [.ref (u3_ 0), .ref (u6_ 0), .ref (u9_ 0), .int 0, .ref (u12_.1 0), .ref q13_, .null, .int 0, .int 0, .int 0]))] ++ (plW T q13_ u15_ pV0 pG0 ++ (hiW T u12_.1 u12_.2 0 (fun _ => sg0) ++ (sgW T u9_ sg0 ++ (sgW T u6_ sg0 ++ (sgW T u3_ sg0 ++ [])))))) H := hP
  have hD : va_D A ([(a, .inr (5, [.ref (u3_ 0), .ref (u6_ 0), .ref (u9_ 0), .int 0, .ref (u12_.1 0), .ref q13_, .null, .int 0, .int 0, .int 0]))] ++ (plW T q13_ u15_ pV0 pG0 ++ (hiW T u12_.1 u12_.2 0 (fun _ => sg0) ++ (sgW T u9_ sg0 ++ (sgW T u6_ sg0 ++ (sgW T u3_ sg0 ++ [])))))) := hD
  refine lv_aload_n hx hb dX5_init_59 rfl (lv_at hl 0 rfl) ?_
  refine nw_o (ci := 4) (fs := [.null, .null, .null, .null, .int 0, .int 0, .int 0, .int 0]) (C := RX4) (TT := TX4) (N := 8) hx hb hts inwX5_init_X4 tyX4 tyX4_ok hown (hts (.classLink RX5 36 RX4) (List.mem_of_getElem? (i := 18) rfl)) (hts (.instantiable RX4 8) (List.mem_of_getElem? (i := 19) rfl)) (hts (.initialized RX4) (List.mem_of_getElem? (i := 20) rfl)) hK hP hD hS hA rfl (fun j hj => by rcases (show j = 0 ∨ j = 1 ∨ j = 2 ∨ j = 3 ∨ j = 4 ∨ j = 5 ∨ j = 6 ∨ j = 7 by omega) with rfl | rfl | rfl | rfl | rfl | rfl | rfl | rfl <;> rfl) (Nat.le_of_ble_eq_true rfl) (Nat.le_of_ble_eq_true rfl) dX5_init_60 (fun q16_ H hP hD hS => ?_)
  refine W.widen (k := 75) (n := 476) (by omega) (by omega) ?_
  have hP : va_P D vwCl ([(q16_, .inr (4, [.null, .null, .null, .null, .int 0, .int 0, .int 0, .int 0])), (a, .inr (5, [.ref (u3_ 0), .ref (u6_ 0), .ref (u9_ 0), .int 0, .ref (u12_.1 0), .ref q13_, .null, .int 0, .int 0, .int 0]))] ++ (plW T q13_ u15_ pV0 pG0 ++ (hiW T u12_.1 u12_.2 0 (fun _ => sg0) ++ (sgW T u9_ sg0 ++ (sgW T u6_ sg0 ++ (sgW T u3_ sg0 ++ [])))))) H := hP
  have hD : va_D A ([(q16_, .inr (4, [.null, .null, .null, .null, .int 0, .int 0, .int 0, .int 0])), (a, .inr (5, [.ref (u3_ 0), .ref (u6_ 0), .ref (u9_ 0), .int 0, .ref (u12_.1 0), .ref q13_, .null, .int 0, .int 0, .int 0]))] ++ (plW T q13_ u15_ pV0 pG0 ++ (hiW T u12_.1 u12_.2 0 (fun _ => sg0) ++ (sgW T u9_ sg0 ++ (sgW T u6_ sg0 ++ (sgW T u3_ sg0 ++ [])))))) := hD
  refine lv_dup hx hb dX5_init_63 rfl ?_
  refine callIN (As := []) (wr := ([(a, .inr (5, [.ref (u3_ 0), .ref (u6_ 0), .ref (u9_ 0), .int 0, .ref (u12_.1 0), .ref q13_, .null, .int 0, .int 0, .int 0]))] ++ (plW T q13_ u15_ pV0 pG0 ++ (hiW T u12_.1 u12_.2 0 (fun _ => sg0) ++ (sgW T u9_ sg0 ++ (sgW T u6_ sg0 ++ (sgW T u3_ sg0 ++ []))))))) ⟨hx, hb, hml, hown, hts⟩ (mX4_init l T D q16_) ⟨va_cnB 0 hts gX5_init_X4_init_n38 rfl rfl rfl (hX.1 _ (List.mem_of_getElem? (i := 2) rfl)) (hts (.initialized RX4) (List.mem_of_getElem? (i := 20) rfl)) (pdX4_init).2 ⟨Nat.le_of_ble_eq_true rfl, Nat.le_of_ble_eq_true rfl⟩, rfl, (hts (.instanceMethod yX4_init) (List.mem_of_getElem? (i := 41) rfl))⟩ hP hD hK hS hA xN_bl (fun U _ hW => XN_warm hW hX) hl.1 rfl rfl (Nat.le_of_ble_eq_true rfl) dX5_init_64 ⟨Nat.le_of_ble_eq_true rfl, Nat.le_of_ble_eq_true rfl⟩ (fun u18_ H locs eu18_ hP hD hS => ?_)
  refine W.widen (k := 80) (n := 598) (by omega) (by omega) ?_
  have hP1 := hP
  have hD1 := hD
  subst eu18_
  have hP := hP1
  have hD := hD1
  have hP := wP_perm (pm3 (siW T u18_ z0 z0 z0 z0 z0 0) [(a, .inr (5, [.ref (u3_ 0), .ref (u6_ 0), .ref (u9_ 0), .int 0, .ref (u12_.1 0), .ref q13_, .null, .int 0, .int 0, .int 0]))] (plW T q13_ u15_ pV0 pG0 ++ (hiW T u12_.1 u12_.2 0 (fun _ => sg0) ++ (sgW T u9_ sg0 ++ (sgW T u6_ sg0 ++ (sgW T u3_ sg0 ++ [])))))) hP
  have hD := wD_perm (pm3 (siW T u18_ z0 z0 z0 z0 z0 0) [(a, .inr (5, [.ref (u3_ 0), .ref (u6_ 0), .ref (u9_ 0), .int 0, .ref (u12_.1 0), .ref q13_, .null, .int 0, .int 0, .int 0]))] (plW T q13_ u15_ pV0 pG0 ++ (hiW T u12_.1 u12_.2 0 (fun _ => sg0) ++ (sgW T u9_ sg0 ++ (sgW T u6_ sg0 ++ (sgW T u3_ sg0 ++ [])))))) hD
  have hP : va_P D vwCl ([(a, .inr (5, [.ref (u3_ 0), .ref (u6_ 0), .ref (u9_ 0), .int 0, .ref (u12_.1 0), .ref q13_, .null, .int 0, .int 0, .int 0]))] ++ (siW T u18_ z0 z0 z0 z0 z0 0 ++ (plW T q13_ u15_ pV0 pG0 ++ (hiW T u12_.1 u12_.2 0 (fun _ => sg0) ++ (sgW T u9_ sg0 ++ (sgW T u6_ sg0 ++ (sgW T u3_ sg0 ++ []))))))) H := hP
  have hD : va_D A ([(a, .inr (5, [.ref (u3_ 0), .ref (u6_ 0), .ref (u9_ 0), .int 0, .ref (u12_.1 0), .ref q13_, .null, .int 0, .int 0, .int 0]))] ++ (siW T u18_ z0 z0 z0 z0 z0 0 ++ (plW T q13_ u15_ pV0 pG0 ++ (hiW T u12_.1 u12_.2 0 (fun _ => sg0) ++ (sgW T u9_ sg0 ++ (sgW T u6_ sg0 ++ (sgW T u3_ sg0 ++ []))))))) := hD
  refine va_putF (D := D) (ci := 5) (v := .ref (u18_ 0)) (C := RX5) (T := TX5) (N := 10) hx hb hts inwX5_init_X5 tyX5 tyX5_ok nmX5 hown hK hP hD hS 0 rfl rfl 6 (by decide) (hts (.fieldLink RX5 39 "PlateSlabs" "trial" "LPlateSlabs$Trial;") (List.mem_of_getElem? (i := 21) rfl)) (fun _ h9 => h9) rfl hin rfl (tyX5_ok 6 (by decide)) rfl rfl (Nat.le_of_ble_eq_true rfl) dX5_init_67 (fun H locs hP hD hS => ?_)
  have hP : va_P D vwCl ([(a, .inr (5, [.ref (u3_ 0), .ref (u6_ 0), .ref (u9_ 0), .int 0, .ref (u12_.1 0), .ref q13_, .ref (u18_ 0), .int 0, .int 0, .int 0]))] ++ (siW T u18_ z0 z0 z0 z0 z0 0 ++ (plW T q13_ u15_ pV0 pG0 ++ (hiW T u12_.1 u12_.2 0 (fun _ => sg0) ++ (sgW T u9_ sg0 ++ (sgW T u6_ sg0 ++ (sgW T u3_ sg0 ++ []))))))) H := hP
  have hD : va_D A ([(a, .inr (5, [.ref (u3_ 0), .ref (u6_ 0), .ref (u9_ 0), .int 0, .ref (u12_.1 0), .ref q13_, .ref (u18_ 0), .int 0, .int 0, .int 0]))] ++ (siW T u18_ z0 z0 z0 z0 z0 0 ++ (plW T q13_ u15_ pV0 pG0 ++ (hiW T u12_.1 u12_.2 0 (fun _ => sg0) ++ (sgW T u9_ sg0 ++ (sgW T u6_ sg0 ++ (sgW T u3_ sg0 ++ []))))))) := hD
  have hP := bP (bs := [[(a, .inr (5, [.ref (u3_ 0), .ref (u6_ 0), .ref (u9_ 0), .int 0, .ref (u12_.1 0), .ref q13_, .ref (u18_ 0), .int 0, .int 0, .int 0]))], siW T u18_ z0 z0 z0 z0 z0 0, plW T q13_ u15_ pV0 pG0, hiW T u12_.1 u12_.2 0 (fun _ => sg0), sgW T u9_ sg0, sgW T u6_ sg0, sgW T u3_ sg0]) (bs' := [[(a, .inr (5, [.ref (u3_ 0), .ref (u6_ 0), .ref (u9_ 0), .int 0, .ref (u12_.1 0), .ref q13_, .ref (u18_ 0), .int 0, .int 0, .int 0]))], sgW T u3_ sg0, hiW T u12_.1 u12_.2 0 (fun _ => sg0), sgW T u6_ sg0, sgW T u9_ sg0, plW T q13_ u15_ pV0 pG0, siW T u18_ z0 z0 z0 z0 z0 0]) hP [0, 6, 3, 5, 4, 2, 1] rfl rfl
  have hD := bD (bs := [[(a, .inr (5, [.ref (u3_ 0), .ref (u6_ 0), .ref (u9_ 0), .int 0, .ref (u12_.1 0), .ref q13_, .ref (u18_ 0), .int 0, .int 0, .int 0]))], siW T u18_ z0 z0 z0 z0 z0 0, plW T q13_ u15_ pV0 pG0, hiW T u12_.1 u12_.2 0 (fun _ => sg0), sgW T u9_ sg0, sgW T u6_ sg0, sgW T u3_ sg0]) (bs' := [[(a, .inr (5, [.ref (u3_ 0), .ref (u6_ 0), .ref (u9_ 0), .int 0, .ref (u12_.1 0), .ref q13_, .ref (u18_ 0), .int 0, .int 0, .int 0]))], sgW T u3_ sg0, hiW T u12_.1 u12_.2 0 (fun _ => sg0), sgW T u6_ sg0, sgW T u9_ sg0, plW T q13_ u15_ pV0 pG0, siW T u18_ z0 z0 z0 z0 z0 0]) hD [0, 6, 3, 5, 4, 2, 1] rfl rfl
  exact hret _ _ ((u3_, u6_, u9_), u12_, (q13_, u15_), u18_) _ _ dX5_init_70 hS hP hD trivial

