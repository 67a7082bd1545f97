theorem pdX6_set : yX6_set.cls = RX6 ∧ yX6_set.cls ≠ "java/lang/invoke/MethodHandle" ∧ yX6_set.cls ≠ "java/lang/invoke/VarHandle" ∧ (parseMethodDescriptor yX6_set.desc).map (fun d => d.parameters.length) = some 3 := by decide +kernel
theorem pdX6_turnOn : yX6_turnOn.cls = RX6 ∧ yX6_turnOn.cls ≠ "java/lang/invoke/MethodHandle" ∧ yX6_turnOn.cls ≠ "java/lang/invoke/VarHandle" ∧ (parseMethodDescriptor yX6_turnOn.desc).map (fun d => d.parameters.length) = some 2 := by decide +kernel
theorem pdX6_turnOff : yX6_turnOff.cls = RX6 ∧ yX6_turnOff.cls ≠ "java/lang/invoke/MethodHandle" ∧ yX6_turnOff.cls ≠ "java/lang/invoke/VarHandle" ∧ (parseMethodDescriptor yX6_turnOff.desc).map (fun d => d.parameters.length) = some 1 := by decide +kernel
theorem pdX6_put : yX6_put.cls = RX6 ∧ yX6_put.cls ≠ "java/lang/invoke/MethodHandle" ∧ yX6_put.cls ≠ "java/lang/invoke/VarHandle" ∧ (parseMethodDescriptor yX6_put.desc).map (fun d => d.parameters.length) = some 2 := by decide +kernel
theorem pdX6_couple : yX6_couple.cls = RX6 ∧ yX6_couple.cls ≠ "java/lang/invoke/MethodHandle" ∧ yX6_couple.cls ≠ "java/lang/invoke/VarHandle" ∧ (parseMethodDescriptor yX6_couple.desc).map (fun d => d.parameters.length) = some 2 := by decide +kernel
theorem pdX6_pass : yX6_pass.cls = RX6 ∧ yX6_pass.cls ≠ "java/lang/invoke/MethodHandle" ∧ yX6_pass.cls ≠ "java/lang/invoke/VarHandle" ∧ (parseMethodDescriptor yX6_pass.desc).map (fun d => d.parameters.length) = some 1 := by decide +kernel
theorem pdX6_type : yX6_type.cls = RX6 ∧ yX6_type.cls ≠ "java/lang/invoke/MethodHandle" ∧ yX6_type.cls ≠ "java/lang/invoke/VarHandle" ∧ (parseMethodDescriptor yX6_type.desc).map (fun d => d.parameters.length) = some 1 := by decide +kernel
theorem pdX6_clearText : yX6_clearText.cls = RX6 ∧ yX6_clearText.cls ≠ "java/lang/invoke/MethodHandle" ∧ yX6_clearText.cls ≠ "java/lang/invoke/VarHandle" ∧ (parseMethodDescriptor yX6_clearText.desc).map (fun d => d.parameters.length) = some 0 := by decide +kernel
theorem inwX6_set_X6 : ∀ w ∈ wsX60, w ∈ wsX6_set := by decide +kernel
theorem inwX6_turnOn_X6 : ∀ w ∈ wsX60, w ∈ wsX6_turnOn := by decide +kernel
theorem inwX6_turnOff_X6 : ∀ w ∈ wsX60, w ∈ wsX6_turnOff := by decide +kernel
theorem inwX6_put_X6 : ∀ w ∈ wsX60, w ∈ wsX6_put := by decide +kernel
theorem inwX6_couple_X6 : ∀ w ∈ wsX60, w ∈ wsX6_couple := by decide +kernel
theorem inwX6_pass_X6 : ∀ w ∈ wsX60, w ∈ wsX6_pass := by decide +kernel
theorem inwX6_type_X6 : ∀ w ∈ wsX60, w ∈ wsX6_type := by decide +kernel
theorem inwX6_clearText_X6 : ∀ w ∈ wsX60, w ∈ wsX6_clearText := by decide +kernel
def rmX6_set : Room := { frames := 6, cells := 0, slots := 0, locals := 132 }
set_option maxHeartbeats 4000000 in
set_option maxRecDepth 100000 in
theorem mX6_set (l : Launch) (T : Nat → ClassId) (D : va_G) (b : Nat → Nat) (v : Nat → Int32) (g : SG) (hg : gOk g) (ia : Nat → Int32) (ea : Nat → Int64) (ik : Nat → Int32) (ek : Nat → Int64) (ib : Nat → Int32) (eb : Nat → Int64) (tx : Nat → Int32) (n : Nat) (hn : n ≤ 4) (hv : v 1 = nI n) (x : Int32) (w : Int32) (y : Int32) : MuI l yX6_set wsX6_set rmX6_set T xN D [.ref (b 0), .int x, .int w, .int y] (moW T b v (mS g.1 g.2.1) (mE g.2.2) ia ea ik ek ib eb tx) (S := MW) (fun r u => r = (oSet x w y g).1 ∧ mAct n v g ik ek ib eb tx (oSet x w y g) u) (fun u => moU T b u) 0 0 := by
  refine met_mi (cc := cX6_set) (maxL := 4) (by decide) rfl (Nat.le_of_ble_eq_true rfl) ?_
  intro p_ e s m args below meth c ls A Q hx hb hts hown hml hX hP hD hK hS hA hl hret
  have hl : lv_has ls 4 [(0, .ref (b 0)), (1, .int x), (2, .int w), (3, .int y)] := hl
  obtain ⟨H, hH⟩ : ∃ H, H = s.heap := ⟨_, rfl⟩
  have hS : va_S A s.heap H [] := by rw [hH]; exact hS
  rw [← hH] at hP ⊢
  refine lv_iload_n hx hb dX6_set_0 rfl (lv_at hl 1 rfl) ?_
  refine callSi (As := [.int x]) ⟨hx, hb, hml, hown, hts⟩ (mX6_isPair l T D x) (va_cwS 1 hts gX6_set_X6_isPair rfl rfl rfl (pdX6_isPair).2 ⟨Nat.le_of_ble_eq_true rfl, Nat.le_of_ble_eq_true rfl⟩) wP_nil hK xN_bl (fun U _ hW => XN_warm hW hX) hl.1 rfl rfl (Nat.le_of_ble_eq_true rfl) dX6_set_1 ⟨Nat.zero_le _, Nat.zero_le _⟩ (fun r1_ er1_ => ?_)
  obtain rfl : r1_ = bI (0 ≤ x ∧ x ≤ 3) := er1_
  refine lv_if_eq (tgt := 16) hx hb dX6_set_4 (by decide) (fun c4 => ?_) (fun c4 => ?_)
  · skip
    have c4 := bI_0 c4
    refine lv_iconst (v := (-1)) hx hb dX6_set_16 (by decide) ?_
    exact hret _ _ _ (v, mS g.1 g.2.1, mE g.2.2, ia, ea, ik, ek, ib, eb, tx) _ _ dX6_set_17 hS hP hD (by rw [oSet_f g (fun z => c4 z.1)]; exact ⟨rfl, mAct_no (by decide) _ _⟩)
  · skip
    have c4 := bI_n0 c4
    obtain ⟨p, hp, rfl⟩ := pair_of c4
    refine lv_iload_n hx hb dX6_set_7 rfl (lv_at hl 2 rfl) ?_
    refine lv_iconst (v := 0) hx hb dX6_set_8 (by decide) ?_
    refine lv_iconst (v := 5) hx hb dX6_set_9 (by decide) ?_
    refine callSi (As := [.int w, .int 0, .int 5]) ⟨hx, hb, hml, hown, hts⟩ (mX6_in l T D w 0 5) (va_cwS 3 hts gX6_set_X6_in rfl rfl rfl (pdX6_in).2 ⟨Nat.le_of_ble_eq_true rfl, Nat.le_of_ble_eq_true rfl⟩) wP_nil hK xN_bl (fun U _ hW => XN_warm hW hX) hl.1 rfl rfl (Nat.le_of_ble_eq_true rfl) dX6_set_10 ⟨Nat.zero_le _, Nat.zero_le _⟩ (fun r2_ er2_ => ?_)
    obtain rfl : r2_ = bI (0 ≤ w ∧ w ≤ 5) := er2_
    refine lv_if_ne (tgt := 18) hx hb dX6_set_13 (by decide) (fun c13 => ?_) (fun c13 => ?_)
    · skip
      have c13 := bI_n0 c13
      obtain ⟨k, hkk, rfl⟩ := rng_of (n := 5) (by decide) c13
      refine lv_aload_n hx hb dX6_set_18 rfl (lv_at hl 0 rfl) ?_
      refine callMv (As := []) (wr := []) ⟨hx, hb, hml, hown, hts⟩ (mX6_looks l T D b v (mS g.1 g.2.1) (mE g.2.2) ia ea ik ek ib eb tx ) (cwV 0 hts gX6_set_X6_looks rfl rfl rfl pdX6_looks ⟨Nat.le_of_ble_eq_true rfl, Nat.le_of_ble_eq_true rfl⟩) hP hD hK hS hA xN_bl (fun U _ hW => XN_warm hW hX) (ci := 6) rfl rfl rfl hl.1 rfl rfl (Nat.le_of_ble_eq_true rfl) dX6_set_19 ⟨Nat.zero_le _, Nat.zero_le _⟩ (fun u4_ H locs eu4_ hP hD hS hkf => ?_)
      have hP : va_P D vwCl (moW T b v (mS g.1 g.2.1) (mE g.2.2) (mS g.1 g.2.1) (mE g.2.2) ik ek ib eb tx) H := hP
      have hD : va_D A (moW T b v (mS g.1 g.2.1) (mE g.2.2) (mS g.1 g.2.1) (mE g.2.2) ik ek ib eb tx) := hD
      refine lv_iload_n hx hb dX6_set_22 rfl (lv_at hl 3 rfl) ?_
      refine lv_iload_n hx hb dX6_set_23 rfl (lv_at hl 2 rfl) ?_
      refine callSi (As := [.int (nI k)]) ⟨hx, hb, hml, hown, hts⟩ (mX6_least l T D k (by omega)) (va_cwS 1 hts gX6_set_X6_least rfl rfl rfl (pdX6_least).2 ⟨Nat.le_of_ble_eq_true rfl, Nat.le_of_ble_eq_true rfl⟩) wP_nil hK xN_bl (fun U _ hW => XN_warm hW hX) hl.1 rfl rfl (Nat.le_of_ble_eq_true rfl) dX6_set_24 ⟨Nat.zero_le _, Nat.zero_le _⟩ (fun r5_ er5_ => ?_)
      obtain rfl : r5_ = kLo k := er5_
      refine lv_iload_n hx hb dX6_set_27 rfl (lv_at hl 2 rfl) ?_
      refine callSi (As := [.int (nI k)]) ⟨hx, hb, hml, hown, hts⟩ (mX6_most l T D k (by omega)) (va_cwS 1 hts gX6_set_X6_most rfl rfl rfl (pdX6_most).2 ⟨Nat.le_of_ble_eq_true rfl, Nat.le_of_ble_eq_true rfl⟩) wP_nil hK xN_bl (fun U _ hW => XN_warm hW hX) hl.1 rfl rfl (Nat.le_of_ble_eq_true rfl) dX6_set_28 ⟨Nat.zero_le _, Nat.zero_le _⟩ (fun r6_ er6_ => ?_)
      obtain rfl : r6_ = kHi k := er6_
      refine callSi (As := [.int y, .int (kLo k), .int (kHi k)]) ⟨hx, hb, hml, hown, hts⟩ (mX6_in l T D y (kLo k) (kHi k)) (va_cwS 3 hts gX6_set_X6_in rfl rfl rfl (pdX6_in).2 ⟨Nat.le_of_ble_eq_true rfl, Nat.le_of_ble_eq_true rfl⟩) wP_nil hK xN_bl (fun U _ hW => XN_warm hW hX) hl.1 rfl rfl (Nat.le_of_ble_eq_true rfl) dX6_set_31 ⟨Nat.zero_le _, Nat.zero_le _⟩ (fun r7_ er7_ => ?_)
      obtain rfl : r7_ = bI ((kLo k) ≤ y ∧ y ≤ (kHi k)) := er7_
      refine lv_if_eq (tgt := 51) hx hb dX6_set_34 (by decide) (fun c34 => ?_) (fun c34 => ?_)
      · skip
        have c34 := bI_0 c34
        refine lv_bipush (v := (-2)) hx hb dX6_set_51 (by decide) ?_
        exact hret _ _ _ (v, mS g.1 g.2.1, mE g.2.2, mS g.1 g.2.1, mE g.2.2, ik, ek, ib, eb, tx) _ _ dX6_set_53 hS hP hD (by rw [oSet_b hp hkk g c34]; exact ⟨rfl, mAct_no (by decide) _ _⟩)
      · skip
        have c34 := bI_n0 c34
        refine lv_aload_n hx hb dX6_set_37 rfl (lv_at hl 0 rfl) ?_
        refine lv_aload_n hx hb dX6_set_38 rfl (lv_at hl 0 rfl) ?_
        refine lv_iload_n hx hb dX6_set_39 rfl (lv_at hl 1 rfl) ?_
        refine lv_iload_n hx hb dX6_set_40 rfl (lv_at hl 2 rfl) ?_
        refine lv_iload_n hx hb dX6_set_41 rfl (lv_at hl 3 rfl) ?_
        refine callMi (As := [.int (nI p), .int (nI k), .int y]) (wr := [((b 3), .inl (T 0, 43, .inl (mS g.1 g.2.1))), ((b 4), .inl (T 1, 12, .inr (.inl (mE g.2.2)))), ((b 5), .inl (T 0, 43, .inl (ik))), ((b 6), .inl (T 1, 12, .inr (.inl (ek)))), ((b 7), .inl (T 0, 172, .inl (ib))), ((b 8), .inl (T 1, 48, .inr (.inl (eb)))), ((b 9), .inl (T 0, 60, .inl (tx)))]) ⟨hx, hb, hml, hown, hts⟩ (mX6_lays l T D (b 0) (b 1) (b 2) (moF b v) g.1 g.2.1 g.2.2 rfl rfl p hp k (by omega) y) (cwV 3 hts gX6_set_X6_lays rfl rfl rfl pdX6_lays ⟨Nat.le_of_ble_eq_true rfl, Nat.le_of_ble_eq_true rfl⟩) hP hD hK hS hA xN_bl (fun U _ hW => XN_warm hW hX) (ci := 6) rfl rfl rfl hl.1 rfl rfl (Nat.le_of_ble_eq_true rfl) dX6_set_42 ⟨Nat.zero_le _, Nat.zero_le _⟩ (fun r8_ u9_ H locs eu9_ hP hD hS hkf => ?_)
        obtain rfl : r8_ = (oLay p k y g).1 := congrArg Prod.fst eu9_
        obtain rfl : u9_ = (oLay p k y g).2 := congrArg Prod.snd eu9_
        have hP : va_P D vwCl (moW T b v (mS (oLay p k y g).2.1 (oLay p k y g).2.2.1) (mE (oLay p k y g).2.2.2) (mS g.1 g.2.1) (mE g.2.2) ik ek ib eb tx) H := hP
        have hD : va_D A (moW T b v (mS (oLay p k y g).2.1 (oLay p k y g).2.2.1) (mE (oLay p k y g).2.2.2) (mS g.1 g.2.1) (mE g.2.2) ik ek ib eb tx) := hD
        refine callMi (As := [.int (oLay p k y g).1]) (wr := []) ⟨hx, hb, hml, hown, hts⟩ (mX6_acted l T D b v (mS (oLay p k y g).2.1 (oLay p k y g).2.2.1) (mE (oLay p k y g).2.2.2) (mS g.1 g.2.1) (mE g.2.2) ik ek ib eb tx n hn hv ((oLay p k y g).1)) (cwV 1 hts gX6_set_X6_acted rfl rfl rfl pdX6_acted ⟨Nat.le_of_ble_eq_true rfl, Nat.le_of_ble_eq_true rfl⟩) hP hD hK hS hA xN_bl (fun U _ hW => XN_warm hW hX) (ci := 6) rfl rfl rfl hl.1 rfl rfl (Nat.le_of_ble_eq_true rfl) dX6_set_45 ⟨Nat.zero_le _, Nat.zero_le _⟩ (fun r10_ u11_ H locs eu11_ hP hD hS hkf => ?_)
        refine lv_goto (tgt := 53) hx hb dX6_set_48 (by decide) ?_
        exact hret _ _ _ _ _ _ dX6_set_53 hS hP hD (by rw [oSet_t hp hkk g c34]; exact ⟨eu11_.1, ⟨_, _, eu11_.2⟩⟩)
    · skip
      have c13 := bI_0 c13
      refine lv_iconst (v := (-1)) hx hb dX6_set_16 (by decide) ?_
      exact hret _ _ _ (v, mS g.1 g.2.1, mE g.2.2, ia, ea, ik, ek, ib, eb, tx) _ _ dX6_set_17 hS hP hD (by rw [oSet_f g (fun z => c13 z.2)]; exact ⟨rfl, mAct_no (by decide) _ _⟩)

def rmX6_turnOn : Room := { frames := 6, cells := 0, slots := 0, locals := 130 }
set_option maxHeartbeats 4000000 in
set_option maxRecDepth 100000 in
theorem mX6_turnOn (l : Launch) (T : Nat → ClassId) (D : va_G) (b : Nat → Nat) (v : Nat → Int32) (g : SG) (hg : gOk g) (ia : Nat → Int32) (ea : Nat → Int64) (ik : Nat → Int32) (ek : Nat → Int64) (ib : Nat → Int32) (eb : Nat → Int64) (tx : Nat → Int32) (n : Nat) (hn : n ≤ 4) (hv : v 1 = nI n) (x : Int32) (y : Int32) : MuI l yX6_turnOn wsX6_turnOn rmX6_turnOn T xN D [.ref (b 0), .int x, .int y] (moW T b v (mS g.1 g.2.1) (mE g.2.2) ia ea ik ek ib eb tx) (S := MW) (fun r u => r = (oTurnOn x y g).1 ∧ mAct n v g ik ek ib eb tx (oTurnOn x y g) u) (fun u => moU T b u) 0 0 := by
  refine met_mi (cc := cX6_turnOn) (maxL := 3) (by decide) rfl (Nat.le_of_ble_eq_true rfl) ?_
  intro p_ e s m args below meth c ls A Q hx hb hts hown hml hX hP hD hK hS hA hl hret
  have hl : lv_has ls 3 [(0, .ref (b 0)), (1, .int x), (2, .int y)] := hl
  obtain ⟨H, hH⟩ : ∃ H, H = s.heap := ⟨_, rfl⟩
  have hS : va_S A s.heap H [] := by rw [hH]; exact hS
  rw [← hH] at hP ⊢
  refine lv_iload_n hx hb dX6_turnOn_0 rfl (lv_at hl 1 rfl) ?_
  refine callSi (As := [.int x]) ⟨hx, hb, hml, hown, hts⟩ (mX6_isPair l T D x) (va_cwS 1 hts gX6_turnOn_X6_isPair rfl rfl rfl (pdX6_isPair).2 ⟨Nat.le_of_ble_eq_true rfl, Nat.le_of_ble_eq_true rfl⟩) wP_nil hK xN_bl (fun U _ hW => XN_warm hW hX) hl.1 rfl rfl (Nat.le_of_ble_eq_true rfl) dX6_turnOn_1 ⟨Nat.zero_le _, Nat.zero_le _⟩ (fun r1_ er1_ => ?_)
  obtain rfl : r1_ = bI (0 ≤ x ∧ x ≤ 3) := er1_
  refine lv_if_ne (tgt := 9) hx hb dX6_turnOn_4 (by decide) (fun c4 => ?_) (fun c4 => ?_)
  · skip
    have c4 := bI_n0 c4
    obtain ⟨p, hp, rfl⟩ := pair_of c4
    refine lv_aload_n hx hb dX6_turnOn_9 rfl (lv_at hl 0 rfl) ?_
    refine callMv (As := []) (wr := []) ⟨hx, hb, hml, hown, hts⟩ (mX6_looks l T D b v (mS g.1 g.2.1) (mE g.2.2) ia ea ik ek ib eb tx ) (cwV 0 hts gX6_turnOn_X6_looks rfl rfl rfl pdX6_looks ⟨Nat.le_of_ble_eq_true rfl, Nat.le_of_ble_eq_true rfl⟩) hP hD hK hS hA xN_bl (fun U _ hW => XN_warm hW hX) (ci := 6) rfl rfl rfl hl.1 rfl rfl (Nat.le_of_ble_eq_true rfl) dX6_turnOn_10 ⟨Nat.zero_le _, Nat.zero_le _⟩ (fun u3_ H locs eu3_ hP hD hS hkf => ?_)
    have hP : va_P D vwCl (moW T b v (mS g.1 g.2.1) (mE g.2.2) (mS g.1 g.2.1) (mE g.2.2) ik ek ib eb tx) H := hP
    have hD : va_D A (moW T b v (mS g.1 g.2.1) (mE g.2.2) (mS g.1 g.2.1) (mE g.2.2) ik ek ib eb tx) := hD
    refine lv_iload_n hx hb dX6_turnOn_13 rfl (lv_at hl 2 rfl) ?_
    refine lv_iconst (v := 0) hx hb dX6_turnOn_14 (by decide) ?_
    refine lv_bipush (v := 30) hx hb dX6_turnOn_15 (by decide) ?_
    refine callSi (As := [.int y, .int 0, .int 30]) ⟨hx, hb, hml, hown, hts⟩ (mX6_in l T D y 0 30) (va_cwS 3 hts gX6_turnOn_X6_in rfl rfl rfl (pdX6_in).2 ⟨Nat.le_of_ble_eq_true rfl, Nat.le_of_ble_eq_true rfl⟩) wP_nil hK xN_bl (fun U _ hW => XN_warm hW hX) hl.1 rfl rfl (Nat.le_of_ble_eq_true rfl) dX6_turnOn_17 ⟨Nat.zero_le _, Nat.zero_le _⟩ (fun r4_ er4_ => ?_)
    obtain rfl : r4_ = bI (0 ≤ y ∧ y ≤ 30) := er4_
    refine lv_if_eq (tgt := 36) hx hb dX6_turnOn_20 (by decide) (fun c20 => ?_) (fun c20 => ?_)
    · skip
      have c20 := bI_0 c20
      refine lv_bipush (v := (-2)) hx hb dX6_turnOn_36 (by decide) ?_
      exact hret _ _ _ (v, mS g.1 g.2.1, mE g.2.2, mS g.1 g.2.1, mE g.2.2, ik, ek, ib, eb, tx) _ _ dX6_turnOn_38 hS hP hD (by rw [oTurnOn_b hp g c20]; exact ⟨rfl, mAct_no (by decide) _ _⟩)
    · skip
      have c20 := bI_n0 c20
      refine lv_aload_n hx hb dX6_turnOn_23 rfl (lv_at hl 0 rfl) ?_
      refine lv_aload_n hx hb dX6_turnOn_24 rfl (lv_at hl 0 rfl) ?_
      refine lv_iload_n hx hb dX6_turnOn_25 rfl (lv_at hl 1 rfl) ?_
      refine lv_iload_n hx hb dX6_turnOn_26 rfl (lv_at hl 2 rfl) ?_
      refine callMi (As := [.int (nI p), .int y]) (wr := [((b 3), .inl (T 0, 43, .inl (mS g.1 g.2.1))), ((b 4), .inl (T 1, 12, .inr (.inl (mE g.2.2)))), ((b 5), .inl (T 0, 43, .inl (ik))), ((b 6), .inl (T 1, 12, .inr (.inl (ek)))), ((b 7), .inl (T 0, 172, .inl (ib))), ((b 8), .inl (T 1, 48, .inr (.inl (eb)))), ((b 9), .inl (T 0, 60, .inl (tx)))]) ⟨hx, hb, hml, hown, hts⟩ (mX6_turnsOn l T D (b 0) (b 1) (b 2) (moF b v) g.1 g.2.1 g.2.2 rfl rfl p hp y) (cwV 2 hts gX6_turnOn_X6_turnsOn rfl rfl rfl pdX6_turnsOn ⟨Nat.le_of_ble_eq_true rfl, Nat.le_of_ble_eq_true rfl⟩) hP hD hK hS hA xN_bl (fun U _ hW => XN_warm hW hX) (ci := 6) rfl rfl rfl hl.1 rfl rfl (Nat.le_of_ble_eq_true rfl) dX6_turnOn_27 ⟨Nat.zero_le _, Nat.zero_le _⟩ (fun r5_ u6_ H locs eu6_ hP hD hS hkf => ?_)
      obtain rfl : r5_ = (oOn p y g).1 := congrArg Prod.fst eu6_
      obtain rfl : u6_ = (oOn p y g).2 := congrArg Prod.snd eu6_
      have hP : va_P D vwCl (moW T b v (mS (oOn p y g).2.1 (oOn p y g).2.2.1) (mE (oOn p y g).2.2.2) (mS g.1 g.2.1) (mE g.2.2) ik ek ib eb tx) H := hP
      have hD : va_D A (moW T b v (mS (oOn p y g).2.1 (oOn p y g).2.2.1) (mE (oOn p y g).2.2.2) (mS g.1 g.2.1) (mE g.2.2) ik ek ib eb tx) := hD
      refine callMi (As := [.int (oOn p y g).1]) (wr := []) ⟨hx, hb, hml, hown, hts⟩ (mX6_acted l T D b v (mS (oOn p y g).2.1 (oOn p y g).2.2.1) (mE (oOn p y g).2.2.2) (mS g.1 g.2.1) (mE g.2.2) ik ek ib eb tx n hn hv ((oOn p y g).1)) (cwV 1 hts gX6_turnOn_X6_acted rfl rfl rfl pdX6_acted ⟨Nat.le_of_ble_eq_true rfl, Nat.le_of_ble_eq_true rfl⟩) hP hD hK hS hA xN_bl (fun U _ hW => XN_warm hW hX) (ci := 6) rfl rfl rfl hl.1 rfl rfl (Nat.le_of_ble_eq_true rfl) dX6_turnOn_30 ⟨Nat.zero_le _, Nat.zero_le _⟩ (fun r7_ u8_ H locs eu8_ hP hD hS hkf => ?_)
      refine lv_goto (tgt := 38) hx hb dX6_turnOn_33 (by decide) ?_
      exact hret _ _ _ _ _ _ dX6_turnOn_38 hS hP hD (by rw [oTurnOn_t hp g c20]; exact ⟨eu8_.1, ⟨_, _, eu8_.2⟩⟩)
  · skip
    have c4 := bI_0 c4
    refine lv_iconst (v := (-1)) hx hb dX6_turnOn_7 (by decide) ?_
    exact hret _ _ _ (v, mS g.1 g.2.1, mE g.2.2, ia, ea, ik, ek, ib, eb, tx) _ _ dX6_turnOn_8 hS hP hD (by rw [oTurnOn_f g c4]; exact ⟨rfl, mAct_no (by decide) _ _⟩)

def rmX6_turnOff : Room := { frames := 4, cells := 0, slots := 0, locals := 85 }
set_option maxHeartbeats 4000000 in
set_option maxRecDepth 100000 in
theorem mX6_turnOff (l : Launch) (T : Nat → ClassId) (D : va_G) (b : Nat → Nat) (v : Nat → Int32) (g : SG) (hg : gOk g) (ia : Nat → Int32) (ea : Nat → Int64) (ik : Nat → Int32) (ek : Nat → Int64) (ib : Nat → Int32) (eb : Nat → Int64) (tx : Nat → Int32) (n : Nat) (hn : n ≤ 4) (hv : v 1 = nI n) (x : Int32) : MuI l yX6_turnOff wsX6_turnOff rmX6_turnOff T xN D [.ref (b 0), .int x] (moW T b v (mS g.1 g.2.1) (mE g.2.2) ia ea ik ek ib eb tx) (S := MW) (fun r u => r = (oTurnOff x g).1 ∧ mAct n v g ik ek ib eb tx (oTurnOff x g) u) (fun u => moU T b u) 0 0 := by
  refine met_mi (cc := cX6_turnOff) (maxL := 2) (by decide) rfl (Nat.le_of_ble_eq_true rfl) ?_
  intro p_ e s m args below meth c ls A Q hx hb hts hown hml hX hP hD hK hS hA hl hret
  have hl : lv_has ls 2 [(0, .ref (b 0)), (1, .int x)] := hl
  obtain ⟨H, hH⟩ : ∃ H, H = s.heap := ⟨_, rfl⟩
  have hS : va_S A s.heap H [] := by rw [hH]; exact hS
  rw [← hH] at hP ⊢
  refine lv_aload_n hx hb dX6_turnOff_0 rfl (lv_at hl 0 rfl) ?_
  refine callMv (As := []) (wr := []) ⟨hx, hb, hml, hown, hts⟩ (mX6_looks l T D b v (mS g.1 g.2.1) (mE g.2.2) ia ea ik ek ib eb tx ) (cwV 0 hts gX6_turnOff_X6_looks rfl rfl rfl pdX6_looks ⟨Nat.le_of_ble_eq_true rfl, Nat.le_of_ble_eq_true rfl⟩) hP hD hK hS hA xN_bl (fun U _ hW => XN_warm hW hX) (ci := 6) rfl rfl rfl hl.1 rfl rfl (Nat.le_of_ble_eq_true rfl) dX6_turnOff_1 ⟨Nat.zero_le _, Nat.zero_le _⟩ (fun u2_ H locs eu2_ hP hD hS hkf => ?_)
  have hP : va_P D vwCl (moW T b v (mS g.1 g.2.1) (mE g.2.2) (mS g.1 g.2.1) (mE g.2.2) ik ek ib eb tx) H := hP
  have hD : va_D A (moW T b v (mS g.1 g.2.1) (mE g.2.2) (mS g.1 g.2.1) (mE g.2.2) ik ek ib eb tx) := hD
  refine lv_iload_n hx hb dX6_turnOff_4 rfl (lv_at hl 1 rfl) ?_
  refine callSi (As := [.int x]) ⟨hx, hb, hml, hown, hts⟩ (mX6_isPair l T D x) (va_cwS 1 hts gX6_turnOff_X6_isPair rfl rfl rfl (pdX6_isPair).2 ⟨Nat.le_of_ble_eq_true rfl, Nat.le_of_ble_eq_true rfl⟩) wP_nil hK xN_bl (fun U _ hW => XN_warm hW hX) hl.1 rfl rfl (Nat.le_of_ble_eq_true rfl) dX6_turnOff_5 ⟨Nat.zero_le _, Nat.zero_le _⟩ (fun r3_ er3_ => ?_)
  obtain rfl : r3_ = bI (0 ≤ x ∧ x ≤ 3) := er3_
  refine lv_if_eq (tgt := 23) hx hb dX6_turnOff_8 (by decide) (fun c8 => ?_) (fun c8 => ?_)
  · skip
    have c8 := bI_0 c8
    refine lv_iconst (v := (-1)) hx hb dX6_turnOff_23 (by decide) ?_
    exact hret _ _ _ (v, mS g.1 g.2.1, mE g.2.2, mS g.1 g.2.1, mE g.2.2, ik, ek, ib, eb, tx) _ _ dX6_turnOff_24 hS hP hD (by rw [oTurnOff_f g c8]; exact ⟨rfl, mAct_no (by decide) _ _⟩)
  · skip
    have c8 := bI_n0 c8
    obtain ⟨p, hp, rfl⟩ := pair_of c8
    refine lv_aload_n hx hb dX6_turnOff_11 rfl (lv_at hl 0 rfl) ?_
    refine lv_aload_n hx hb dX6_turnOff_12 rfl (lv_at hl 0 rfl) ?_
    refine lv_iload_n hx hb dX6_turnOff_13 rfl (lv_at hl 1 rfl) ?_
    refine callMi (As := [.int (nI p)]) (wr := [((b 3), .inl (T 0, 43, .inl (mS g.1 g.2.1))), ((b 4), .inl (T 1, 12, .inr (.inl (mE g.2.2)))), ((b 5), .inl (T 0, 43, .inl (ik))), ((b 6), .inl (T 1, 12, .inr (.inl (ek)))), ((b 7), .inl (T 0, 172, .inl (ib))), ((b 8), .inl (T 1, 48, .inr (.inl (eb)))), ((b 9), .inl (T 0, 60, .inl (tx)))]) ⟨hx, hb, hml, hown, hts⟩ (mX6_turnsOff l T D (b 0) (b 1) (b 2) (moF b v) g.1 g.2.1 g.2.2 rfl rfl p hp) (cwV 1 hts gX6_turnOff_X6_turnsOff rfl rfl rfl pdX6_turnsOff ⟨Nat.le_of_ble_eq_true rfl, Nat.le_of_ble_eq_true rfl⟩) hP hD hK hS hA xN_bl (fun U _ hW => XN_warm hW hX) (ci := 6) rfl rfl rfl hl.1 rfl rfl (Nat.le_of_ble_eq_true rfl) dX6_turnOff_14 ⟨Nat.zero_le _, Nat.zero_le _⟩ (fun r4_ u5_ H locs eu5_ hP hD hS hkf => ?_)
    obtain rfl : r4_ = (oOff p g).1 := congrArg Prod.fst eu5_
    obtain rfl : u5_ = (oOff p g).2 := congrArg Prod.snd eu5_
    have hP : va_P D vwCl (moW T b v (mS (oOff p g).2.1 (oOff p g).2.2.1) (mE (oOff p g).2.2.2) (mS g.1 g.2.1) (mE g.2.2) ik ek ib eb tx) H := hP
    have hD : va_D A (moW T b v (mS (oOff p g).2.1 (oOff p g).2.2.1) (mE (oOff p g).2.2.2) (mS g.1 g.2.1) (mE g.2.2) ik ek ib eb tx) := hD
    refine callMi (As := [.int (oOff p g).1]) (wr := []) ⟨hx, hb, hml, hown, hts⟩ (mX6_acted l T D b v (mS (oOff p g).2.1 (oOff p g).2.2.1) (mE (oOff p g).2.2.2) (mS g.1 g.2.1) (mE g.2.2) ik ek ib eb tx n hn hv ((oOff p g).1)) (cwV 1 hts gX6_turnOff_X6_acted rfl rfl rfl pdX6_acted ⟨Nat.le_of_ble_eq_true rfl, Nat.le_of_ble_eq_true rfl⟩) hP hD hK hS hA xN_bl (fun U _ hW => XN_warm hW hX) (ci := 6) rfl rfl rfl hl.1 rfl rfl (Nat.le_of_ble_eq_true rfl) dX6_turnOff_17 ⟨Nat.zero_le _, Nat.zero_le _⟩ (fun r6_ u7_ H locs eu7_ hP hD hS hkf => ?_)
    refine lv_goto (tgt := 24) hx hb dX6_turnOff_20 (by decide) ?_
    exact hret _ _ _ _ _ _ dX6_turnOff_24 hS hP hD (by rw [oTurnOff_t hp g]; exact ⟨eu7_.1, ⟨_, _, eu7_.2⟩⟩)

def rmX6_put : Room := { frames := 6, cells := 0, slots := 0, locals := 132 }
set_option maxHeartbeats 4000000 in
set_option maxRecDepth 100000 in
theorem mX6_put (l : Launch) (T : Nat → ClassId) (D : va_G) (b : Nat → Nat) (v : Nat → Int32) (g : SG) (hg : gOk g) (ia : Nat → Int32) (ea : Nat → Int64) (ik : Nat → Int32) (ek : Nat → Int64) (ib : Nat → Int32) (eb : Nat → Int64) (tx : Nat → Int32) (n : Nat) (hn : n ≤ 4) (hv : v 1 = nI n) (x : Int32) (y : Int32) : MuI l yX6_put wsX6_put rmX6_put T xN D [.ref (b 0), .int x, .int y] (moW T b v (mS g.1 g.2.1) (mE g.2.2) ia ea ik ek ib eb tx) (S := MW) (fun r u => r = (oPut x y g).1 ∧ mAct n v g ik ek ib eb tx (oPut x y g) u) (fun u => moU T b u) 0 0 := by
  refine met_mi (cc := cX6_put) (maxL := 3) (by decide) rfl (Nat.le_of_ble_eq_true rfl) ?_
  intro p_ e s m args below meth c ls A Q hx hb hts hown hml hX hP hD hK hS hA hl hret
  have hl : lv_has ls 3 [(0, .ref (b 0)), (1, .int x), (2, .int y)] := hl
  obtain ⟨H, hH⟩ : ∃ H, H = s.heap := ⟨_, rfl⟩
  have hS : va_S A s.heap H [] := by rw [hH]; exact hS
  rw [← hH] at hP ⊢
  refine lv_iload_n hx hb dX6_put_0 rfl (lv_at hl 1 rfl) ?_
  refine callSi (As := [.int x]) ⟨hx, hb, hml, hown, hts⟩ (mX6_isPair l T D x) (va_cwS 1 hts gX6_put_X6_isPair rfl rfl rfl (pdX6_isPair).2 ⟨Nat.le_of_ble_eq_true rfl, Nat.le_of_ble_eq_true rfl⟩) wP_nil hK xN_bl (fun U _ hW => XN_warm hW hX) hl.1 rfl rfl (Nat.le_of_ble_eq_true rfl) dX6_put_1 ⟨Nat.zero_le _, Nat.zero_le _⟩ (fun r1_ er1_ => ?_)
  obtain rfl : r1_ = bI (0 ≤ x ∧ x ≤ 3) := er1_
  refine lv_if_ne (tgt := 9) hx hb dX6_put_4 (by decide) (fun c4 => ?_) (fun c4 => ?_)
  · skip
    have c4 := bI_n0 c4
    obtain ⟨p, hp, rfl⟩ := pair_of c4
    refine lv_aload_n hx hb dX6_put_9 rfl (lv_at hl 0 rfl) ?_
    refine callMv (As := []) (wr := []) ⟨hx, hb, hml, hown, hts⟩ (mX6_looks l T D b v (mS g.1 g.2.1) (mE g.2.2) ia ea ik ek ib eb tx ) (cwV 0 hts gX6_put_X6_looks rfl rfl rfl pdX6_looks ⟨Nat.le_of_ble_eq_true rfl, Nat.le_of_ble_eq_true rfl⟩) hP hD hK hS hA xN_bl (fun U _ hW => XN_warm hW hX) (ci := 6) rfl rfl rfl hl.1 rfl rfl (Nat.le_of_ble_eq_true rfl) dX6_put_10 ⟨Nat.zero_le _, Nat.zero_le _⟩ (fun u3_ H locs eu3_ hP hD hS hkf => ?_)
    have hP : va_P D vwCl (moW T b v (mS g.1 g.2.1) (mE g.2.2) (mS g.1 g.2.1) (mE g.2.2) ik ek ib eb tx) H := hP
    have hD : va_D A (moW T b v (mS g.1 g.2.1) (mE g.2.2) (mS g.1 g.2.1) (mE g.2.2) ik ek ib eb tx) := hD
    refine lv_iload_n hx hb dX6_put_13 rfl (lv_at hl 2 rfl) ?_
    refine lv_iconst (v := 0) hx hb dX6_put_14 (by decide) ?_
    refine lv_bipush (v := 40) hx hb dX6_put_15 (by decide) ?_
    refine callSi (As := [.int y, .int 0, .int 40]) ⟨hx, hb, hml, hown, hts⟩ (mX6_in l T D y 0 40) (va_cwS 3 hts gX6_put_X6_in rfl rfl rfl (pdX6_in).2 ⟨Nat.le_of_ble_eq_true rfl, Nat.le_of_ble_eq_true rfl⟩) wP_nil hK xN_bl (fun U _ hW => XN_warm hW hX) hl.1 rfl rfl (Nat.le_of_ble_eq_true rfl) dX6_put_17 ⟨Nat.zero_le _, Nat.zero_le _⟩ (fun r4_ er4_ => ?_)
    obtain rfl : r4_ = bI (0 ≤ y ∧ y ≤ 40) := er4_
    refine lv_if_eq (tgt := 38) hx hb dX6_put_20 (by decide) (fun c20 => ?_) (fun c20 => ?_)
    · skip
      have c20 := bI_0 c20
      refine lv_bipush (v := (-2)) hx hb dX6_put_38 (by decide) ?_
      exact hret _ _ _ (v, mS g.1 g.2.1, mE g.2.2, mS g.1 g.2.1, mE g.2.2, ik, ek, ib, eb, tx) _ _ dX6_put_40 hS hP hD (by rw [oPut_b hp g c20]; exact ⟨rfl, mAct_no (by decide) _ _⟩)
    · skip
      have c20 := bI_n0 c20
      refine lv_aload_n hx hb dX6_put_23 rfl (lv_at hl 0 rfl) ?_
      refine lv_aload_n hx hb dX6_put_24 rfl (lv_at hl 0 rfl) ?_
      refine lv_iload_n hx hb dX6_put_25 rfl (lv_at hl 1 rfl) ?_
      refine lv_bipush (v := nI 6) hx hb dX6_put_26 (by decide) ?_
      refine lv_iload_n hx hb dX6_put_28 rfl (lv_at hl 2 rfl) ?_
      refine callMi (As := [.int (nI p), .int (nI 6), .int y]) (wr := [((b 3), .inl (T 0, 43, .inl (mS g.1 g.2.1))), ((b 4), .inl (T 1, 12, .inr (.inl (mE g.2.2)))), ((b 5), .inl (T 0, 43, .inl (ik))), ((b 6), .inl (T 1, 12, .inr (.inl (ek)))), ((b 7), .inl (T 0, 172, .inl (ib))), ((b 8), .inl (T 1, 48, .inr (.inl (eb)))), ((b 9), .inl (T 0, 60, .inl (tx)))]) ⟨hx, hb, hml, hown, hts⟩ (mX6_lays l T D (b 0) (b 1) (b 2) (moF b v) g.1 g.2.1 g.2.2 rfl rfl p hp 6 (by omega) y) (cwV 3 hts gX6_put_X6_lays rfl rfl rfl pdX6_lays ⟨Nat.le_of_ble_eq_true rfl, Nat.le_of_ble_eq_true rfl⟩) hP hD hK hS hA xN_bl (fun U _ hW => XN_warm hW hX) (ci := 6) rfl rfl rfl hl.1 rfl rfl (Nat.le_of_ble_eq_true rfl) dX6_put_29 ⟨Nat.zero_le _, Nat.zero_le _⟩ (fun r5_ u6_ H locs eu6_ hP hD hS hkf => ?_)
      obtain rfl : r5_ = (oLay p 6 y g).1 := congrArg Prod.fst eu6_
      obtain rfl : u6_ = (oLay p 6 y g).2 := congrArg Prod.snd eu6_
      have hP : va_P D vwCl (moW T b v (mS (oLay p 6 y g).2.1 (oLay p 6 y g).2.2.1) (mE (oLay p 6 y g).2.2.2) (mS g.1 g.2.1) (mE g.2.2) ik ek ib eb tx) H := hP
      have hD : va_D A (moW T b v (mS (oLay p 6 y g).2.1 (oLay p 6 y g).2.2.1) (mE (oLay p 6 y g).2.2.2) (mS g.1 g.2.1) (mE g.2.2) ik ek ib eb tx) := hD
      refine callMi (As := [.int (oLay p 6 y g).1]) (wr := []) ⟨hx, hb, hml, hown, hts⟩ (mX6_acted l T D b v (mS (oLay p 6 y g).2.1 (oLay p 6 y g).2.2.1) (mE (oLay p 6 y g).2.2.2) (mS g.1 g.2.1) (mE g.2.2) ik ek ib eb tx n hn hv ((oLay p 6 y g).1)) (cwV 1 hts gX6_put_X6_acted rfl rfl rfl pdX6_acted ⟨Nat.le_of_ble_eq_true rfl, Nat.le_of_ble_eq_true rfl⟩) hP hD hK hS hA xN_bl (fun U _ hW => XN_warm hW hX) (ci := 6) rfl rfl rfl hl.1 rfl rfl (Nat.le_of_ble_eq_true rfl) dX6_put_32 ⟨Nat.zero_le _, Nat.zero_le _⟩ (fun r7_ u8_ H locs eu8_ hP hD hS hkf => ?_)
      refine lv_goto (tgt := 40) hx hb dX6_put_35 (by decide) ?_
      exact hret _ _ _ _ _ _ dX6_put_40 hS hP hD (by rw [oPut_t hp g c20]; exact ⟨eu8_.1, ⟨_, _, eu8_.2⟩⟩)
  · skip
    have c4 := bI_0 c4
    refine lv_iconst (v := (-1)) hx hb dX6_put_7 (by decide) ?_
    exact hret _ _ _ (v, mS g.1 g.2.1, mE g.2.2, ia, ea, ik, ek, ib, eb, tx) _ _ dX6_put_8 hS hP hD (by rw [oPut_f g c4]; exact ⟨rfl, mAct_no (by decide) _ _⟩)

def rmX6_couple : Room := { frames := 6, cells := 0, slots := 0, locals := 139 }
set_option maxHeartbeats 4000000 in
set_option maxRecDepth 100000 in
theorem mX6_couple (l : Launch) (T : Nat → ClassId) (D : va_G) (b : Nat → Nat) (v : Nat → Int32) (g : SG) (hg : gOk g) (ia : Nat → Int32) (ea : Nat → Int64) (ik : Nat → Int32) (ek : Nat → Int64) (ib : Nat → Int32) (eb : Nat → Int64) (tx : Nat → Int32) (n : Nat) (hn : n ≤ 4) (hv : v 1 = nI n) (x : Int32) (y : Int32) : MuI l yX6_couple wsX6_couple rmX6_couple T xN D [.ref (b 0), .int x, .int y] (moW T b v (mS g.1 g.2.1) (mE g.2.2) ia ea ik ek ib eb tx) (S := MW) (fun r u => r = (oCouple x y g).1 ∧ mAct n v g ik ek ib eb tx (oCouple x y g) u) (fun u => moU T b u) 0 0 := by
  refine met_mi (cc := cX6_couple) (maxL := 3) (by decide) rfl (Nat.le_of_ble_eq_true rfl) ?_
  intro p_ e s m args below meth c ls A Q hx hb hts hown hml hX hP hD hK hS hA hl hret
  have hl : lv_has ls 3 [(0, .ref (b 0)), (1, .int x), (2, .int y)] := hl
  obtain ⟨H, hH⟩ : ∃ H, H = s.heap := ⟨_, rfl⟩
  have hS : va_S A s.heap H [] := by rw [hH]; exact hS
  rw [← hH] at hP ⊢
  refine lv_aload_n hx hb dX6_couple_0 rfl (lv_at hl 0 rfl) ?_
  refine callMv (As := []) (wr := []) ⟨hx, hb, hml, hown, hts⟩ (mX6_looks l T D b v (mS g.1 g.2.1) (mE g.2.2) ia ea ik ek ib eb tx ) (cwV 0 hts gX6_couple_X6_looks rfl rfl rfl pdX6_looks ⟨Nat.le_of_ble_eq_true rfl, Nat.le_of_ble_eq_true rfl⟩) hP hD hK hS hA xN_bl (fun U _ hW => XN_warm hW hX) (ci := 6) rfl rfl rfl hl.1 rfl rfl (Nat.le_of_ble_eq_true rfl) dX6_couple_1 ⟨Nat.zero_le _, Nat.zero_le _⟩ (fun u2_ H locs eu2_ hP hD hS hkf => ?_)
  have hP : va_P D vwCl (moW T b v (mS g.1 g.2.1) (mE g.2.2) (mS g.1 g.2.1) (mE g.2.2) ik ek ib eb tx) H := hP
  have hD : va_D A (moW T b v (mS g.1 g.2.1) (mE g.2.2) (mS g.1 g.2.1) (mE g.2.2) ik ek ib eb tx) := hD
  refine lv_iload_n hx hb dX6_couple_4 rfl (lv_at hl 1 rfl) ?_
  refine callSi (As := [.int x]) ⟨hx, hb, hml, hown, hts⟩ (mX6_isPair l T D x) (va_cwS 1 hts gX6_couple_X6_isPair rfl rfl rfl (pdX6_isPair).2 ⟨Nat.le_of_ble_eq_true rfl, Nat.le_of_ble_eq_true rfl⟩) wP_nil hK xN_bl (fun U _ hW => XN_warm hW hX) hl.1 rfl rfl (Nat.le_of_ble_eq_true rfl) dX6_couple_5 ⟨Nat.zero_le _, Nat.zero_le _⟩ (fun r3_ er3_ => ?_)
  obtain rfl : r3_ = bI (0 ≤ x ∧ x ≤ 3) := er3_
  refine lv_if_eq (tgt := 31) hx hb dX6_couple_8 (by decide) (fun c8 => ?_) (fun c8 => ?_)
  · skip
    have c8 := bI_0 c8
    refine lv_iconst (v := (-1)) hx hb dX6_couple_31 (by decide) ?_
    exact hret _ _ _ (v, mS g.1 g.2.1, mE g.2.2, mS g.1 g.2.1, mE g.2.2, ik, ek, ib, eb, tx) _ _ dX6_couple_32 hS hP hD (by rw [oCouple_f g (fun z => c8 z.1)]; exact ⟨rfl, mAct_no (by decide) _ _⟩)
  · skip
    have c8 := bI_n0 c8
    obtain ⟨p, hp, rfl⟩ := pair_of c8
    refine lv_iload_n hx hb dX6_couple_11 rfl (lv_at hl 2 rfl) ?_
    refine callSi (As := [.int y]) ⟨hx, hb, hml, hown, hts⟩ (mX6_isPair l T D y) (va_cwS 1 hts gX6_couple_X6_isPair rfl rfl rfl (pdX6_isPair).2 ⟨Nat.le_of_ble_eq_true rfl, Nat.le_of_ble_eq_true rfl⟩) wP_nil hK xN_bl (fun U _ hW => XN_warm hW hX) hl.1 rfl rfl (Nat.le_of_ble_eq_true rfl) dX6_couple_12 ⟨Nat.zero_le _, Nat.zero_le _⟩ (fun r4_ er4_ => ?_)
    obtain rfl : r4_ = bI (0 ≤ y ∧ y ≤ 3) := er4_
    refine lv_if_eq (tgt := 31) hx hb dX6_couple_15 (by decide) (fun c15 => ?_) (fun c15 => ?_)
    · skip
      have c15 := bI_0 c15
      refine lv_iconst (v := (-1)) hx hb dX6_couple_31 (by decide) ?_
      exact hret _ _ _ (v, mS g.1 g.2.1, mE g.2.2, mS g.1 g.2.1, mE g.2.2, ik, ek, ib, eb, tx) _ _ dX6_couple_32 hS hP hD (by rw [oCouple_f g (fun z => c15 z.2)]; exact ⟨rfl, mAct_no (by decide) _ _⟩)
    · skip
      have c15 := bI_n0 c15
      obtain ⟨q, hq, rfl⟩ := pair_of c15
      refine lv_aload_n hx hb dX6_couple_18 rfl (lv_at hl 0 rfl) ?_
      refine lv_aload_n hx hb dX6_couple_19 rfl (lv_at hl 0 rfl) ?_
      refine lv_iload_n hx hb dX6_couple_20 rfl (lv_at hl 1 rfl) ?_
      refine lv_iload_n hx hb dX6_couple_21 rfl (lv_at hl 2 rfl) ?_
      refine callMi (As := [.int (nI p), .int (nI q)]) (wr := [((b 3), .inl (T 0, 43, .inl (mS g.1 g.2.1))), ((b 4), .inl (T 1, 12, .inr (.inl (mE g.2.2)))), ((b 5), .inl (T 0, 43, .inl (ik))), ((b 6), .inl (T 1, 12, .inr (.inl (ek)))), ((b 7), .inl (T 0, 172, .inl (ib))), ((b 8), .inl (T 1, 48, .inr (.inl (eb)))), ((b 9), .inl (T 0, 60, .inl (tx)))]) ⟨hx, hb, hml, hown, hts⟩ (mX6_couples l T D (b 0) (b 1) (b 2) (moF b v) g.1 g.2.1 g.2.2 rfl rfl hg p hp q hq) (cwV 2 hts gX6_couple_X6_couples rfl rfl rfl pdX6_couples ⟨Nat.le_of_ble_eq_true rfl, Nat.le_of_ble_eq_true rfl⟩) hP hD hK hS hA xN_bl (fun U _ hW => XN_warm hW hX) (ci := 6) rfl rfl rfl hl.1 rfl rfl (Nat.le_of_ble_eq_true rfl) dX6_couple_22 ⟨Nat.zero_le _, Nat.zero_le _⟩ (fun r5_ u6_ H locs eu6_ hP hD hS hkf => ?_)
      obtain rfl : r5_ = (oCpl p q g).1 := congrArg Prod.fst eu6_
      obtain rfl : u6_ = (oCpl p q g).2 := congrArg Prod.snd eu6_
      have hP : va_P D vwCl (moW T b v (mS (oCpl p q g).2.1 (oCpl p q g).2.2.1) (mE (oCpl p q g).2.2.2) (mS g.1 g.2.1) (mE g.2.2) ik ek ib eb tx) H := hP
      have hD : va_D A (moW T b v (mS (oCpl p q g).2.1 (oCpl p q g).2.2.1) (mE (oCpl p q g).2.2.2) (mS g.1 g.2.1) (mE g.2.2) ik ek ib eb tx) := hD
      refine callMi (As := [.int (oCpl p q g).1]) (wr := []) ⟨hx, hb, hml, hown, hts⟩ (mX6_acted l T D b v (mS (oCpl p q g).2.1 (oCpl p q g).2.2.1) (mE (oCpl p q g).2.2.2) (mS g.1 g.2.1) (mE g.2.2) ik ek ib eb tx n hn hv ((oCpl p q g).1)) (cwV 1 hts gX6_couple_X6_acted rfl rfl rfl pdX6_acted ⟨Nat.le_of_ble_eq_true rfl, Nat.le_of_ble_eq_true rfl⟩) hP hD hK hS hA xN_bl (fun U _ hW => XN_warm hW hX) (ci := 6) rfl rfl rfl hl.1 rfl rfl (Nat.le_of_ble_eq_true rfl) dX6_couple_25 ⟨Nat.zero_le _, Nat.zero_le _⟩ (fun r7_ u8_ H locs eu8_ hP hD hS hkf => ?_)
      refine lv_goto (tgt := 32) hx hb dX6_couple_28 (by decide) ?_
      exact hret _ _ _ _ _ _ dX6_couple_32 hS hP hD (by rw [oCouple_t hp hq g]; exact ⟨eu8_.1, ⟨_, _, eu8_.2⟩⟩)

def rmX6_pass : Room := { frames := 8, cells := 0, slots := 0, locals := 182 }
set_option maxHeartbeats 4000000 in
set_option maxRecDepth 100000 in
theorem mX6_pass (l : Launch) (T : Nat → ClassId) (D : va_G) (b : Nat → Nat) (v : Nat → Int32) (g : SG) (hg : gOk g) (ia : Nat → Int32) (ea : Nat → Int64) (ik : Nat → Int32) (ek : Nat → Int64) (ib : Nat → Int32) (eb : Nat → Int64) (tx : Nat → Int32) (n : Nat) (hn : n ≤ 4) (hv : v 1 = nI n) (x : Int32) : MuI l yX6_pass wsX6_pass rmX6_pass T xN D [.ref (b 0), .int x] (moW T b v (mS g.1 g.2.1) (mE g.2.2) ia ea ik ek ib eb tx) (S := MW) (fun r u => r = (oPs x g).1 ∧ mAct n v g ik ek ib eb tx (oPs x g) u) (fun u => moU T b u) 0 0 := by
  refine met_mi (cc := cX6_pass) (maxL := 2) (by decide) rfl (Nat.le_of_ble_eq_true rfl) ?_
  intro p_ e s m args below meth c ls A Q hx hb hts hown hml hX hP hD hK hS hA hl hret
  have hl : lv_has ls 2 [(0, .ref (b 0)), (1, .int x)] := hl
  obtain ⟨H, hH⟩ : ∃ H, H = s.heap := ⟨_, rfl⟩
  have hS : va_S A s.heap H [] := by rw [hH]; exact hS
  rw [← hH] at hP ⊢
  refine lv_aload_n hx hb dX6_pass_0 rfl (lv_at hl 0 rfl) ?_
  refine callMv (As := []) (wr := []) ⟨hx, hb, hml, hown, hts⟩ (mX6_looks l T D b v (mS g.1 g.2.1) (mE g.2.2) ia ea ik ek ib eb tx ) (cwV 0 hts gX6_pass_X6_looks rfl rfl rfl pdX6_looks ⟨Nat.le_of_ble_eq_true rfl, Nat.le_of_ble_eq_true rfl⟩) hP hD hK hS hA xN_bl (fun U _ hW => XN_warm hW hX) (ci := 6) rfl rfl rfl hl.1 rfl rfl (Nat.le_of_ble_eq_true rfl) dX6_pass_1 ⟨Nat.zero_le _, Nat.zero_le _⟩ (fun u2_ H locs eu2_ hP hD hS hkf => ?_)
  have hP : va_P D vwCl (moW T b v (mS g.1 g.2.1) (mE g.2.2) (mS g.1 g.2.1) (mE g.2.2) ik ek ib eb tx) H := hP
  have hD : va_D A (moW T b v (mS g.1 g.2.1) (mE g.2.2) (mS g.1 g.2.1) (mE g.2.2) ik ek ib eb tx) := hD
  refine lv_iload_n hx hb dX6_pass_4 rfl (lv_at hl 1 rfl) ?_
  refine lv_iconst (v := 1) hx hb dX6_pass_5 (by decide) ?_
  refine lv_bipush (v := 99) hx hb dX6_pass_6 (by decide) ?_
  refine callSi (As := [.int x, .int 1, .int 99]) ⟨hx, hb, hml, hown, hts⟩ (mX6_in l T D x 1 99) (va_cwS 3 hts gX6_pass_X6_in rfl rfl rfl (pdX6_in).2 ⟨Nat.le_of_ble_eq_true rfl, Nat.le_of_ble_eq_true rfl⟩) wP_nil hK xN_bl (fun U _ hW => XN_warm hW hX) hl.1 rfl rfl (Nat.le_of_ble_eq_true rfl) dX6_pass_8 ⟨Nat.zero_le _, Nat.zero_le _⟩ (fun r3_ er3_ => ?_)
  obtain rfl : r3_ = bI (1 ≤ x ∧ x ≤ 99) := er3_
  refine lv_if_eq (tgt := 26) hx hb dX6_pass_11 (by decide) (fun c11 => ?_) (fun c11 => ?_)
  · skip
    have c11 := bI_0 c11
    refine lv_bipush (v := (-2)) hx hb dX6_pass_26 (by decide) ?_
    exact hret _ _ _ (v, mS g.1 g.2.1, mE g.2.2, mS g.1 g.2.1, mE g.2.2, ik, ek, ib, eb, tx) _ _ dX6_pass_28 hS hP hD (by rw [oPs_f g c11]; exact ⟨rfl, mAct_no (by decide) _ _⟩)
  · skip
    have c11 := bI_n0 c11
    obtain ⟨k, hkk, rfl⟩ := rng_of (n := 99) (by decide) ⟨Int32.le_trans (by decide) c11.1, c11.2⟩
    have hk1 : 1 ≤ k := (nI_leI (a := 1) (by decide) (by omega)).mp c11.1
    refine lv_aload_n hx hb dX6_pass_14 rfl (lv_at hl 0 rfl) ?_
    refine lv_aload_n hx hb dX6_pass_15 rfl (lv_at hl 0 rfl) ?_
    refine lv_iload_n hx hb dX6_pass_16 rfl (lv_at hl 1 rfl) ?_
    refine callMi (As := [.int (nI k)]) (wr := [((b 3), .inl (T 0, 43, .inl (mS g.1 g.2.1))), ((b 4), .inl (T 1, 12, .inr (.inl (mE g.2.2)))), ((b 5), .inl (T 0, 43, .inl (ik))), ((b 6), .inl (T 1, 12, .inr (.inl (ek)))), ((b 7), .inl (T 0, 172, .inl (ib))), ((b 8), .inl (T 1, 48, .inr (.inl (eb)))), ((b 9), .inl (T 0, 60, .inl (tx)))]) ⟨hx, hb, hml, hown, hts⟩ (mX6_passes l T D (b 0) (b 1) (b 2) (moF b v) g.1 g.2.1 g.2.2 rfl rfl hg k (by omega)) (cwV 1 hts gX6_pass_X6_passes rfl rfl rfl pdX6_passes ⟨Nat.le_of_ble_eq_true rfl, Nat.le_of_ble_eq_true rfl⟩) hP hD hK hS hA xN_bl (fun U _ hW => XN_warm hW hX) (ci := 6) rfl rfl rfl hl.1 rfl rfl (Nat.le_of_ble_eq_true rfl) dX6_pass_17 ⟨Nat.zero_le _, Nat.zero_le _⟩ (fun r4_ u5_ H locs eu5_ hP hD hS hkf => ?_)
    obtain rfl : r4_ = (oPass k g).1 := congrArg Prod.fst eu5_
    obtain rfl : u5_ = (oPass k g).2 := congrArg Prod.snd eu5_
    have hP : va_P D vwCl (moW T b v (mS (oPass k g).2.1 (oPass k g).2.2.1) (mE (oPass k g).2.2.2) (mS g.1 g.2.1) (mE g.2.2) ik ek ib eb tx) H := hP
    have hD : va_D A (moW T b v (mS (oPass k g).2.1 (oPass k g).2.2.1) (mE (oPass k g).2.2.2) (mS g.1 g.2.1) (mE g.2.2) ik ek ib eb tx) := hD
    refine callMi (As := [.int (oPass k g).1]) (wr := []) ⟨hx, hb, hml, hown, hts⟩ (mX6_acted l T D b v (mS (oPass k g).2.1 (oPass k g).2.2.1) (mE (oPass k g).2.2.2) (mS g.1 g.2.1) (mE g.2.2) ik ek ib eb tx n hn hv ((oPass k g).1)) (cwV 1 hts gX6_pass_X6_acted rfl rfl rfl pdX6_acted ⟨Nat.le_of_ble_eq_true rfl, Nat.le_of_ble_eq_true rfl⟩) hP hD hK hS hA xN_bl (fun U _ hW => XN_warm hW hX) (ci := 6) rfl rfl rfl hl.1 rfl rfl (Nat.le_of_ble_eq_true rfl) dX6_pass_20 ⟨Nat.zero_le _, Nat.zero_le _⟩ (fun r6_ u7_ H locs eu7_ hP hD hS hkf => ?_)
    refine lv_goto (tgt := 28) hx hb dX6_pass_23 (by decide) ?_
    exact hret _ _ _ _ _ _ dX6_pass_28 hS hP hD (by rw [oPs_t hk1 hkk g]; exact ⟨eu7_.1, ⟨_, _, eu7_.2⟩⟩)

def rmX6_type : Room := { frames := 0, cells := 0, slots := 0, locals := 0 }
set_option maxHeartbeats 4000000 in
set_option maxRecDepth 100000 in
theorem mX6_type (l : Launch) (T : Nat → ClassId) (D : va_G) (b : Nat → Nat) (v : Nat → Int32) (tx : Nat → Int32) (len : Nat) (hlen : len ≤ 60) (h2 : v 2 = nI len) (x : Int32) : MuI l yX6_type wsX6_type rmX6_type T xN D [.ref (b 0), .int x] [(b 0, .inr (6, moF b v)), ((b 9), .inl (T 0, 60, .inl (tx)))] (S := (Nat → Int32) × (Nat → Int32)) (fun r u => (len = 60 ∧ r = -3 ∧ u = (v, tx)) ∨ (len < 60 ∧ r = nI (len + 1) ∧ u = (upd v 2 (nI (len + 1)), upd tx len x))) (fun u => moX T b u.1 u.2) 0 0 := by
  refine met_mi (cc := cX6_type) (maxL := 2) (by decide) rfl (Nat.le_of_ble_eq_true rfl) ?_
  intro p_ e s m args below meth c ls A Q hx hb hts hown hml hX hP hD hK hS hA hl hret
  have hl : lv_has ls 2 [(0, .ref (b 0)), (1, .int x)] := hl
  obtain ⟨H, hH⟩ : ∃ H, H = s.heap := ⟨_, rfl⟩
  have hS : va_S A s.heap H [] := by rw [hH]; exact hS
  rw [← hH] at hP ⊢
  refine lv_aload_n hx hb dX6_type_0 rfl (lv_at hl 0 rfl) ?_
  refine va_get (D := D) (ci := 6) (v := .int (v 2)) (C := RX6) (T := TX6) (N := 22) hx hb hts inwX6_type_X6 hown hK hP 0 rfl rfl 11 (by decide) (hts (.fieldLink RX6 149 "PlateSlabsModel" "length" "I") (List.mem_of_getElem? (i := 1) rfl)) (fun _ h9 => h9) rfl dX6_type_1 ?_
  refine lv_bipush (v := 60) hx hb dX6_type_4 (by decide) ?_
  refine lv_icmp_ne (tgt := 12) hx hb dX6_type_6 (by decide) (fun c6 => ?_) (fun c6 => ?_)
  · skip
    have hl60 : ¬ len = 60 := fun z => c6 (by rw [h2, z]; rfl)
    refine lv_aload_n hx hb dX6_type_12 rfl (lv_at hl 0 rfl) ?_
    refine va_get (D := D) (ci := 6) (v := .ref (b 9)) (C := RX6) (T := TX6) (N := 22) hx hb hts inwX6_type_X6 hown hK hP 0 rfl rfl 10 (by decide) (hts (.fieldLink RX6 35 "PlateSlabsModel" "text" "[I") (List.mem_of_getElem? (i := 2) rfl)) (fun _ h9 => h9) rfl dX6_type_13 ?_
    refine lv_aload_n hx hb dX6_type_16 rfl (lv_at hl 0 rfl) ?_
    refine va_get (D := D) (ci := 6) (v := .int (v 2)) (C := RX6) (T := TX6) (N := 22) hx hb hts inwX6_type_X6 hown hK hP 0 rfl rfl 11 (by decide) (hts (.fieldLink RX6 149 "PlateSlabsModel" "length" "I") (List.mem_of_getElem? (i := 1) rfl)) (fun _ h9 => h9) rfl dX6_type_17 ?_
    refine lv_iload_n hx hb dX6_type_20 rfl (lv_at hl 1 rfl) ?_
    refine va_iast hx hb hK hP hD hS 1 0 rfl rfl (in_of h2 (by omega) (by decide)) dX6_type_21 (fun H locs hP hD hS => ?_)
    rw [cl_of h2 (by omega)] at hP hD
    have hP : va_P D vwCl [(b 0, .inr (6, moF b v)), ((b 9), .inl (T 0, 60, .inl (upd tx len x)))] H := hP
    have hD : va_D A [(b 0, .inr (6, moF b v)), ((b 9), .inl (T 0, 60, .inl (upd tx len x)))] := hD
    refine lv_aload_n hx hb dX6_type_22 rfl (lv_at hl 0 rfl) ?_
    refine lv_dup hx hb dX6_type_23 rfl ?_
    refine va_get (D := D) (ci := 6) (v := .int (v 2)) (C := RX6) (T := TX6) (N := 22) hx hb hts inwX6_type_X6 hown hK hP 0 rfl rfl 11 (by decide) (hts (.fieldLink RX6 149 "PlateSlabsModel" "length" "I") (List.mem_of_getElem? (i := 1) rfl)) (fun _ h9 => h9) rfl dX6_type_24 ?_
    refine lv_iconst (v := 1) hx hb dX6_type_27 (by decide) ?_
    refine lv_iadd hx hb dX6_type_28 ?_
    refine lv_tpi (z := nI (len + 1)) (by rw [h2]; exact nI_1 len) ?_
    refine va_put (D := D) (ci := 6) (v := .int (nI (len + 1))) (C := RX6) (T := TX6) (N := 22) hx hb hts inwX6_type_X6 tyX6 tyX6_ok nmX6 hown hK hP hD hS 0 rfl rfl 11 (by decide) (hts (.fieldLink RX6 149 "PlateSlabsModel" "length" "I") (List.mem_of_getElem? (i := 1) rfl)) (fun _ h9 => h9) rfl (tyX6_ok 11 (by decide)) (rfl) rfl (Nat.le_of_ble_eq_true rfl) dX6_type_29 (fun H locs hP hD hS => ?_)
    have hP : va_P D vwCl [(b 0, .inr (6, moF b (upd v 2 (nI (len + 1))))), ((b 9), .inl (T 0, 60, .inl (upd tx len x)))] H := hP
    have hD : va_D A [(b 0, .inr (6, moF b (upd v 2 (nI (len + 1))))), ((b 9), .inl (T 0, 60, .inl (upd tx len x)))] := hD
    refine lv_aload_n hx hb dX6_type_32 rfl (lv_at hl 0 rfl) ?_
    refine va_get (D := D) (ci := 6) (v := .int (nI (len + 1))) (C := RX6) (T := TX6) (N := 22) hx hb hts inwX6_type_X6 hown hK hP 0 rfl rfl 11 (by decide) (hts (.fieldLink RX6 149 "PlateSlabsModel" "length" "I") (List.mem_of_getElem? (i := 1) rfl)) (fun _ h9 => h9) rfl dX6_type_33 ?_
    exact hret _ _ _ (upd v 2 (nI (len + 1)), upd tx len x) _ _ dX6_type_36 hS hP hD (Or.inr ⟨by omega, rfl, rfl⟩)
  · skip
    have hl60 : len = 60 := (nI_eq (by omega) (by decide)).mp (h2.symm.trans c6)
    refine lv_bipush (v := (-3)) hx hb dX6_type_9 (by decide) ?_
    exact hret _ _ _ (v, tx) _ _ dX6_type_11 hS hP hD (Or.inl ⟨hl60, rfl, rfl⟩)

def rmX6_clearText : Room := { frames := 0, cells := 0, slots := 0, locals := 0 }
set_option maxHeartbeats 4000000 in
set_option maxRecDepth 100000 in
theorem mX6_clearText (l : Launch) (T : Nat → ClassId) (D : va_G) (b : Nat → Nat) (v : Nat → Int32) (tx : Nat → Int32) : MuI l yX6_clearText wsX6_clearText rmX6_clearText T xN D [.ref (b 0)] [(b 0, .inr (6, moF b v)), ((b 9), .inl (T 0, 60, .inl (tx)))] (S := Unit) (fun r _ => r = v 2) (fun _ => moX T b (upd v 2 0) tx) 0 0 := by
  refine met_mi (cc := cX6_clearText) (maxL := 2) (by decide) rfl (Nat.le_of_ble_eq_true rfl) ?_
  intro p_ e s m args below meth c ls A Q hx hb hts hown hml hX hP hD hK hS hA hl hret
  have hl : lv_has ls 2 [(0, .ref (b 0))] := hl
  refine lv_aload_n hx hb dX6_clearText_0 rfl (lv_at hl 0 rfl) ?_
  refine va_get (D := D) (ci := 6) (v := .int (v 2)) (C := RX6) (T := TX6) (N := 22) hx hb hts inwX6_clearText_X6 hown hK hP 0 rfl rfl 11 (by decide) (hts (.fieldLink RX6 149 "PlateSlabsModel" "length" "I") (List.mem_of_getElem? (i := 1) rfl)) (fun _ h9 => h9) rfl dX6_clearText_1 ?_
  refine lv_topi (fun x1_ ex1_ => ?_)
  refine lv_istore_n (lv' := [(1, .int x1_), (0, .ref (b 0))]) hx hb dX6_clearText_4 rfl hl (by decide) rfl (fun ls hl => ?_)
  refine lv_aload_n hx hb dX6_clearText_5 rfl (lv_at hl 1 rfl) ?_
  refine lv_iconst (v := 0) hx hb dX6_clearText_6 (by decide) ?_
  refine va_put (D := D) (ci := 6) (v := .int 0) (C := RX6) (T := TX6) (N := 22) hx hb hts inwX6_clearText_X6 tyX6 tyX6_ok nmX6 hown hK hP hD hS 0 rfl rfl 11 (by decide) (hts (.fieldLink RX6 149 "PlateSlabsModel" "length" "I") (List.mem_of_getElem? (i := 1) rfl)) (fun _ h9 => h9) rfl (tyX6_ok 11 (by decide)) (rfl) rfl (Nat.le_of_ble_eq_true rfl) dX6_clearText_7 (fun H locs hP hD hS => ?_)
  have hP : va_P D vwCl [(b 0, .inr (6, moF b (upd v 2 0))), ((b 9), .inl (T 0, 60, .inl (tx)))] H := hP
  have hD : va_D A [(b 0, .inr (6, moF b (upd v 2 0))), ((b 9), .inl (T 0, 60, .inl (tx)))] := hD
  refine lv_iload_n hx hb dX6_clearText_10 rfl (lv_at hl 0 rfl) ?_
  exact hret _ _ _ () _ _ dX6_clearText_11 hS hP hD ex1_

