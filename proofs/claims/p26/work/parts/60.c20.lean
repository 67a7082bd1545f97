theorem pdX5_restsIn : yX5_restsIn.cls = RX5 ∧ yX5_restsIn.cls ≠ "java/lang/invoke/MethodHandle" ∧ yX5_restsIn.cls ≠ "java/lang/invoke/VarHandle" ∧ (parseMethodDescriptor yX5_restsIn.desc).map (fun d => d.parameters.length) = some 1 := by decide +kernel
theorem pdX5_depthIn : yX5_depthIn.cls = RX5 ∧ yX5_depthIn.cls ≠ "java/lang/invoke/MethodHandle" ∧ yX5_depthIn.cls ≠ "java/lang/invoke/VarHandle" ∧ (parseMethodDescriptor yX5_depthIn.desc).map (fun d => d.parameters.length) = some 2 := by decide +kernel
theorem inwX5_restsIn_X5 : ∀ w ∈ wsX50, w ∈ wsX5_restsIn := by decide +kernel
theorem inwX5_restsIn_X2 : ∀ w ∈ wsX20, w ∈ wsX5_restsIn := by decide +kernel
theorem inwX5_restsIn_X1 : ∀ w ∈ wsX10, w ∈ wsX5_restsIn := by decide +kernel
theorem inwX5_depthIn_X5 : ∀ w ∈ wsX50, w ∈ wsX5_depthIn := by decide +kernel
theorem inwX5_depthIn_X2 : ∀ w ∈ wsX20, w ∈ wsX5_depthIn := by decide +kernel
theorem inwX5_depthIn_X1 : ∀ w ∈ wsX10, w ∈ wsX5_depthIn := by decide +kernel
theorem gs_perm {T : Nat → ClassId} {b : Nat → Nat} {t : Nat → Int32} {P : Nat → Nat → Int32} {E : Nat → Nat → Int64} {o g : va_W} {p : Nat} (hp : p < 4) : (o ++ (stW T b t P E ++ g)).Perm (g ++ (plB T b P E p ++ (o ++ (stH T b t ++ stO T b P E p)))) := by
  have h := fl_perm [o, plB T b P E p, stH T b t, stO T b P E p, g] [4, 1, 0, 2, 3] rfl rfl
  have e1 : fl [o, plB T b P E p, stH T b t, stO T b P E p, g] = o ++ ((plB T b P E p ++ (stH T b t ++ stO T b P E p)) ++ g) := by
    show o ++ (plB T b P E p ++ (stH T b t ++ (stO T b P E p ++ (g ++ [])))) = _
    rw [List.append_nil, List.append_assoc, List.append_assoc]
  have e2 : fl [g, plB T b P E p, o, stH T b t, stO T b P E p] = g ++ (plB T b P E p ++ (o ++ (stH T b t ++ stO T b P E p))) := by
    show g ++ (plB T b P E p ++ (o ++ (stH T b t ++ (stO T b P E p ++ [])))) = _
    rw [List.append_nil]
  refine (List.Perm.append_left o (List.Perm.append_right g (st_perm hp))).trans ?_
  rw [← e1, ← e2]
  exact h
def rmX5_restsIn : Room := { frames := 4, cells := 0, slots := 0, locals := 88 }
set_option maxHeartbeats 4000000 in
set_option maxRecDepth 100000 in
theorem mX5_restsIn (l : Launch) (T : Nat → ClassId) (D : va_G) (z x2 x3 xh xy : Nat) (k0 k1 k2 k3 : Int32) (b : Nat → Nat) (t : Nat → Int32) (P : Nat → Nat → Int32) (E : Nat → Nat → Int64) (hk : ∀ p, p < 4 → kOk (P p)) (a q : Nat) (V : Nat → Int32) (G : Nat → Int64) (x : Int32) : MuI l yX5_restsIn wsX5_restsIn rmX5_restsIn T xN D [.ref z, .int x] ([(z, .inr (5, [.ref (b 0), .ref x2, .ref x3, .int k0, .ref xh, .ref a, .ref xy, .int k1, .int k2, .int k3])), ((b 0), .inr (2, [.ref (b 1), .int (t 0), .int (t 1), .int (t 2)])), ((b 1), .inl (T 3, 4, .inr (.inr (.inr (.inr ((fun i => some (b (2 + 2 * i)))))))))] ++ (stT T b P E ++ plW T a q V G)) (S := (Nat → Int32) × (Nat → Int64)) (fun r _ => r = sP x (fun p => kRs (P p)) (-1)) (fun u => ([(z, .inr (5, [.ref (b 0), .ref x2, .ref x3, .int k0, .ref xh, .ref a, .ref xy, .int k1, .int k2, .int k3])), ((b 0), .inr (2, [.ref (b 1), .int (t 0), .int (t 1), .int (t 2)])), ((b 1), .inl (T 3, 4, .inr (.inr (.inr (.inr ((fun i => some (b (2 + 2 * i)))))))))] ++ (stT T b P E ++ plW T a q u.1 u.2))) 0 0 := by
  refine met_mi (cc := cX5_restsIn) (maxL := 3) (by decide) rfl (Nat.le_of_ble_eq_true rfl) ?_
  intro p_ e s m args below meth c ls A Q hx hb hts hown hml hX hP hD hK hS hA hl hret
  have hl : lv_has ls 3 [(0, .ref z), (1, .int x)] := hl
  obtain ⟨H, hH⟩ : ∃ H, H = s.heap := ⟨_, rfl⟩
  have hS : va_S A s.heap H [] := by rw [hH]; exact hS
  rw [← hH] at hP ⊢
  refine lv_iload_n hx hb dX5_restsIn_0 rfl (lv_at hl 1 rfl) ?_
  refine callSi (As := [.int x]) ⟨hx, hb, hml, hown, hts⟩ (mX5_isPair l T D x) (va_cwS 1 hts gX5_restsIn_X5_isPair rfl rfl rfl (pdX5_isPair).2 ⟨Nat.le_of_ble_eq_true rfl, Nat.le_of_ble_eq_true rfl⟩) wP_nil hK xN_bl (fun U _ hW => XN_warm hW hX) hl.1 rfl rfl (Nat.le_of_ble_eq_true rfl) dX5_restsIn_1 ⟨Nat.zero_le _, Nat.zero_le _⟩ (fun r1_ er1_ => ?_)
  obtain rfl : r1_ = bI (0 ≤ x ∧ x ≤ 3) := er1_
  refine lv_if_ne (tgt := 9) hx hb dX5_restsIn_4 (by decide) (fun c4 => ?_) (fun c4 => ?_)
  · skip
    have c4 := bI_n0 c4
    obtain ⟨p, hp, rfl⟩ := pair_of c4
    refine lv_aload_n hx hb dX5_restsIn_9 rfl (lv_at hl 0 rfl) ?_
    refine va_get (D := D) (ci := 5) (v := .ref a) (C := RX5) (T := TX5) (N := 10) hx hb hts inwX5_restsIn_X5 hown hK hP 0 rfl rfl 5 (by decide) (hts (.fieldLink RX5 32 "PlateSlabs" "guess" "LPlateSlabs$Plates;") (List.mem_of_getElem? (i := 1) rfl)) (fun _ h9 => h9) rfl dX5_restsIn_10 ?_
    refine lv_aload_n hx hb dX5_restsIn_13 rfl (lv_at hl 0 rfl) ?_
    refine va_get (D := D) (ci := 5) (v := .ref (b 0)) (C := RX5) (T := TX5) (N := 10) hx hb hts inwX5_restsIn_X5 hown hK hP 0 rfl rfl 0 (by decide) (hts (.fieldLink RX5 10 "PlateSlabs" "now" "LPlateSlabs$State;") (List.mem_of_getElem? (i := 2) rfl)) (fun _ h9 => h9) rfl dX5_restsIn_14 ?_
    refine va_get (D := D) (ci := 2) (v := .ref (b 1)) (C := RX2) (T := TX2) (N := 4) hx hb hts inwX5_restsIn_X2 hown hK hP 1 rfl rfl 0 (by decide) (hts (.fieldLink RX5 135 "PlateSlabs$State" "pairs" "[LPlateSlabs$Plates;") (List.mem_of_getElem? (i := 3) rfl)) (fun _ h9 => h9) rfl dX5_restsIn_17 ?_
    refine lv_iload_n hx hb dX5_restsIn_20 rfl (lv_at hl 1 rfl) ?_
    refine va_aldq hx hb hK hP 2 3 rfl rfl (vp_in_nI (by omega) (by decide)) dX5_restsIn_21 ?_
    refine lv_tpv (congrArg (fun z => va_rf ((fun i => some (b (2 + 2 * i))) z)) (nI_clamp (by omega))) ?_
    have hP := wP_perm (gs_perm (o := [(z, .inr (5, [.ref (b 0), .ref x2, .ref x3, .int k0, .ref xh, .ref a, .ref xy, .int k1, .int k2, .int k3]))]) (g := plW T a q V G) hp) hP
    have hD := wD_perm (gs_perm (o := [(z, .inr (5, [.ref (b 0), .ref x2, .ref x3, .int k0, .ref xh, .ref a, .ref xy, .int k1, .int k2, .int k3]))]) (g := plW T a q V G) hp) hD
    refine callMv (As := [.ref (b (2 + 2 * p))]) (wr := ([(z, .inr (5, [.ref (b 0), .ref x2, .ref x3, .int k0, .ref xh, .ref a, .ref xy, .int k1, .int k2, .int k3]))] ++ (stH T b t ++ stO T b P E p))) ⟨hx, hb, hml, hown, hts⟩ (mX1_copyFrom l T D a q V G (b (2 + 2 * p)) (b (3 + 2 * p)) (P p) (E p) (hk p hp)) (cwV 1 hts gX5_restsIn_X1_copyFrom rfl rfl rfl pdX1_copyFrom ⟨Nat.le_of_ble_eq_true rfl, Nat.le_of_ble_eq_true rfl⟩) hP hD hK hS hA xN_bl (fun U _ hW => XN_warm hW hX) (ci := 1) rfl rfl rfl hl.1 rfl rfl (Nat.le_of_ble_eq_true rfl) dX5_restsIn_22 ⟨Nat.zero_le _, Nat.zero_le _⟩ (fun u3_ H locs eu3_ hP hD hS hkf => ?_)
    have hP : va_P D vwCl ([(z, .inr (5, [.ref (b 0), .ref x2, .ref x3, .int k0, .ref xh, .ref a, .ref xy, .int k1, .int k2, .int k3])), ((b 0), .inr (2, [.ref (b 1), .int (t 0), .int (t 1), .int (t 2)])), ((b 1), .inl (T 3, 4, .inr (.inr (.inr (.inr ((fun i => some (b (2 + 2 * i)))))))))] ++ (stT T b P E ++ plW T a q (P p) (E p))) H := wP_perm (gs_perm (o := [(z, .inr (5, [.ref (b 0), .ref x2, .ref x3, .int k0, .ref xh, .ref a, .ref xy, .int k1, .int k2, .int k3]))]) (g := plW T a q (P p) (E p)) hp).symm hP
    have hD : va_D A ([(z, .inr (5, [.ref (b 0), .ref x2, .ref x3, .int k0, .ref xh, .ref a, .ref xy, .int k1, .int k2, .int k3])), ((b 0), .inr (2, [.ref (b 1), .int (t 0), .int (t 1), .int (t 2)])), ((b 1), .inl (T 3, 4, .inr (.inr (.inr (.inr ((fun i => some (b (2 + 2 * i)))))))))] ++ (stT T b P E ++ plW T a q (P p) (E p))) := wD_perm (gs_perm (o := [(z, .inr (5, [.ref (b 0), .ref x2, .ref x3, .int k0, .ref xh, .ref a, .ref xy, .int k1, .int k2, .int k3]))]) (g := plW T a q (P p) (E p)) hp).symm hD
    refine lv_iconst (v := nI 0) hx hb dX5_restsIn_25 (by decide) ?_
    refine lv_istore_n (lv' := [(2, .int (nI 0)), (0, .ref z), (1, .int (nI p))]) hx hb dX5_restsIn_26 rfl hl (by decide) rfl (fun ls hl => ?_)
    have loop : ∀ (j : Nat) (i : Nat) (G1 : Nat → Int64) (ls : Array Slot) (H : Heap) (locs : List Loc), (402 ≤ i + j) → (i ≤ 401) → (kRs (P p) = kFirst (fun n => decide (gBy (P p) n = 0)) (401 - i) i) → va_P D vwCl ([(z, .inr (5, [.ref (b 0), .ref x2, .ref x3, .int k0, .ref xh, .ref a, .ref xy, .int k1, .int k2, .int k3])), ((b 0), .inr (2, [.ref (b 1), .int (t 0), .int (t 1), .int (t 2)])), ((b 1), .inl (T 3, 4, .inr (.inr (.inr (.inr ((fun i => some (b (2 + 2 * i)))))))))] ++ (stT T b P E ++ plW T a q (tIt (P p) i) G1)) H → va_D A ([(z, .inr (5, [.ref (b 0), .ref x2, .ref x3, .int k0, .ref xh, .ref a, .ref xy, .int k1, .int k2, .int k3])), ((b 0), .inr (2, [.ref (b 1), .int (t 0), .int (t 1), .int (t 2)])), ((b 1), .inl (T 3, 4, .inr (.inr (.inr (.inr ((fun i => some (b (2 + 2 * i)))))))))] ++ (stT T b P E ++ plW T a q (tIt (P p) i) G1)) → va_S A s.heap H locs → lv_has ls 3 [(0, .ref z), (1, .int (nI p)), (2, .int (nI i))] → W p_ l e rmX5_restsIn s m args below meth c H locs 0 0 Q (F0 m 27 ls []) := by
      intro j
      induction j with
      | zero => intro i G1 ls H locs hm hi; exact absurd hm (by omega)
      | succ j ih =>
        intro i G1 ls H locs hm hi ef hP hD hS hl
        refine lv_iload_n hx hb dX5_restsIn_27 rfl (lv_at hl 2 rfl) ?_
        refine lv_sipush (v := 400) hx hb dX5_restsIn_28 (by decide) ?_
        refine lv_icmp_gt (tgt := 52) hx hb dX5_restsIn_31 (by decide) (fun c31 => ?_) (fun c31 => ?_)
        · skip
          have ei : i = 401 := by
            have := mt (nI_leI (a := i) (b := 400) (by omega) (by decide)).mpr (Int32.not_le.mpr c31)
            omega
          refine lv_bipush (v := (-5)) hx hb dX5_restsIn_52 (by decide) ?_
          exact hret _ _ _ (tIt (P p) i, G1) _ _ dX5_restsIn_54 hS hP hD (by rw [sP_t hp, ef, ei]; rfl)
        · skip
          have hi2 : i ≤ 400 := (nI_leI (by omega) (by decide)).mp (Int32.not_lt.mp c31)
          refine lv_aload_n hx hb dX5_restsIn_34 rfl (lv_at hl 0 rfl) ?_
          refine va_get (D := D) (ci := 5) (v := .ref a) (C := RX5) (T := TX5) (N := 10) hx hb hts inwX5_restsIn_X5 hown hK hP 0 rfl rfl 5 (by decide) (hts (.fieldLink RX5 32 "PlateSlabs" "guess" "LPlateSlabs$Plates;") (List.mem_of_getElem? (i := 1) rfl)) (fun _ h9 => h9) rfl dX5_restsIn_35 ?_
          have hP := bP (bs := [[(z, .inr (5, [.ref (b 0), .ref x2, .ref x3, .int k0, .ref xh, .ref a, .ref xy, .int k1, .int k2, .int k3]))], stH T b t, stT T b P E, plW T a q (tIt (P p) i) G1]) (bs' := [plW T a q (tIt (P p) i) G1, [(z, .inr (5, [.ref (b 0), .ref x2, .ref x3, .int k0, .ref xh, .ref a, .ref xy, .int k1, .int k2, .int k3]))], stH T b t, stT T b P E]) hP [3, 0, 1, 2] rfl rfl
          have hD := bD (bs := [[(z, .inr (5, [.ref (b 0), .ref x2, .ref x3, .int k0, .ref xh, .ref a, .ref xy, .int k1, .int k2, .int k3]))], stH T b t, stT T b P E, plW T a q (tIt (P p) i) G1]) (bs' := [plW T a q (tIt (P p) i) G1, [(z, .inr (5, [.ref (b 0), .ref x2, .ref x3, .int k0, .ref xh, .ref a, .ref xy, .int k1, .int k2, .int k3]))], stH T b t, stT T b P E]) hD [3, 0, 1, 2] rfl rfl
          refine callMi (As := []) (wr := ([(z, .inr (5, [.ref (b 0), .ref x2, .ref x3, .int k0, .ref xh, .ref a, .ref xy, .int k1, .int k2, .int k3]))] ++ (stH T b t ++ stT T b P E))) ⟨hx, hb, hml, hown, hts⟩ (mX1_movesInTick l T D a q (tIt (P p) i) G1 (tIt_ok (hk p hp) i)) (cwV 0 hts gX5_restsIn_X1_movesInTick rfl rfl rfl pdX1_movesInTick ⟨Nat.le_of_ble_eq_true rfl, Nat.le_of_ble_eq_true rfl⟩) hP hD hK hS hA xN_bl (fun U _ hW => XN_warm hW hX) (ci := 1) rfl rfl rfl hl.1 rfl rfl (Nat.le_of_ble_eq_true rfl) dX5_restsIn_38 ⟨Nat.zero_le _, Nat.zero_le _⟩ (fun r4_ u5_ H locs eu5_ hP hD hS hkf => ?_)
          have hP := bP (bs := [plW T a q (tIt (P p) (i + 1)) (kTickE (tIt (P p) i) G1), [(z, .inr (5, [.ref (b 0), .ref x2, .ref x3, .int k0, .ref xh, .ref a, .ref xy, .int k1, .int k2, .int k3]))], stH T b t, stT T b P E]) (bs' := [[(z, .inr (5, [.ref (b 0), .ref x2, .ref x3, .int k0, .ref xh, .ref a, .ref xy, .int k1, .int k2, .int k3]))], stH T b t, stT T b P E, plW T a q (tIt (P p) (i + 1)) (kTickE (tIt (P p) i) G1)]) hP [1, 2, 3, 0] rfl rfl
          have hD := bD (bs := [plW T a q (tIt (P p) (i + 1)) (kTickE (tIt (P p) i) G1), [(z, .inr (5, [.ref (b 0), .ref x2, .ref x3, .int k0, .ref xh, .ref a, .ref xy, .int k1, .int k2, .int k3]))], stH T b t, stT T b P E]) (bs' := [[(z, .inr (5, [.ref (b 0), .ref x2, .ref x3, .int k0, .ref xh, .ref a, .ref xy, .int k1, .int k2, .int k3]))], stH T b t, stT T b P E, plW T a q (tIt (P p) (i + 1)) (kTickE (tIt (P p) i) G1)]) hD [1, 2, 3, 0] rfl rfl
          have hP : va_P D vwCl ([(z, .inr (5, [.ref (b 0), .ref x2, .ref x3, .int k0, .ref xh, .ref a, .ref xy, .int k1, .int k2, .int k3])), ((b 0), .inr (2, [.ref (b 1), .int (t 0), .int (t 1), .int (t 2)])), ((b 1), .inl (T 3, 4, .inr (.inr (.inr (.inr ((fun i => some (b (2 + 2 * i)))))))))] ++ (stT T b P E ++ plW T a q (tIt (P p) (i + 1)) (kTickE (tIt (P p) i) G1))) H := hP
          have hD : va_D A ([(z, .inr (5, [.ref (b 0), .ref x2, .ref x3, .int k0, .ref xh, .ref a, .ref xy, .int k1, .int k2, .int k3])), ((b 0), .inr (2, [.ref (b 1), .int (t 0), .int (t 1), .int (t 2)])), ((b 1), .inl (T 3, 4, .inr (.inr (.inr (.inr ((fun i => some (b (2 + 2 * i)))))))))] ++ (stT T b P E ++ plW T a q (tIt (P p) (i + 1)) (kTickE (tIt (P p) i) G1))) := hD
          obtain rfl : r4_ = bI (¬ kBy (kLeakP (tIt (P p) i)) = 0) := eu5_
          refine lv_if_ne (tgt := 46) hx hb dX5_restsIn_41 (by decide) (fun c41 => ?_) (fun c41 => ?_)
          · skip
            have c41 := bI_n0 c41
            refine lv_iinc (v := nI (i + 1)) (lv' := [(2, .int (nI (i + 1))), (0, .ref z), (1, .int (nI p))]) hx hb dX5_restsIn_46 hl (k := 2) rfl (nI_1 i) (by decide) rfl (fun ls hl => ?_)
            refine lv_goto (tgt := 27) hx hb dX5_restsIn_49 (by decide) ?_
            exact ih (i + 1) _ ls _ _ (by omega) (by omega) (by rw [ef, show 401 - i = (401 - (i + 1)) + 1 by omega, kFirst_f (f := fun n => decide (gBy (P p) n = 0)) (by rw [decide_eq_true_eq, ← tIt_by]; exact c41)]) hP hD hS (lv_sub hl [1, 2, 0] rfl)
          · skip
            have c41 := bI_0 c41
            refine lv_iload_n hx hb dX5_restsIn_44 rfl (lv_at hl 2 rfl) ?_
            exact hret _ _ _ (tIt (P p) (i + 1), kTickE (tIt (P p) i) G1) _ _ dX5_restsIn_45 hS hP hD (by rw [sP_t hp, ef, show 401 - i = (401 - (i + 1)) + 1 by omega, kFirst_t (f := fun n => decide (gBy (P p) n = 0)) (by rw [decide_eq_true_eq, ← tIt_by]; exact Decidable.not_not.mp c41)])
    exact loop 402 0 _ ls _ _ (by omega) (by omega) rfl hP hD hS (lv_sub hl [1, 2, 0] rfl)
  · skip
    have c4 := bI_0 c4
    refine lv_iconst (v := (-1)) hx hb dX5_restsIn_7 (by decide) ?_
    exact hret _ _ _ (V, G) _ _ dX5_restsIn_8 hS hP hD ((sP_f c4).symm)

def rmX5_depthIn : Room := { frames := 4, cells := 0, slots := 0, locals := 88 }
set_option maxHeartbeats 4000000 in
set_option maxRecDepth 100000 in
theorem mX5_depthIn (l : Launch) (T : Nat → ClassId) (D : va_G) (z x2 x3 xh xy : Nat) (k0 k1 k2 k3 : Int32) (b : Nat → Nat) (t : Nat → Int32) (P : Nat → Nat → Int32) (E : Nat → Nat → Int64) (hk : ∀ p, p < 4 → kOk (P p)) (a q : Nat) (V : Nat → Int32) (G : Nat → Int64) (x w : Int32) : MuI l yX5_depthIn wsX5_depthIn rmX5_depthIn T xN D [.ref z, .int x, .int w] ([(z, .inr (5, [.ref (b 0), .ref x2, .ref x3, .int k0, .ref xh, .ref a, .ref xy, .int k1, .int k2, .int k3])), ((b 0), .inr (2, [.ref (b 1), .int (t 0), .int (t 1), .int (t 2)])), ((b 1), .inl (T 3, 4, .inr (.inr (.inr (.inr ((fun i => some (b (2 + 2 * i)))))))))] ++ (stT T b P E ++ plW T a q V G)) (S := (Nat → Int32) × (Nat → Int64)) (fun r _ => r = sP x (fun p => tD (P p) w) (-1)) (fun u => ([(z, .inr (5, [.ref (b 0), .ref x2, .ref x3, .int k0, .ref xh, .ref a, .ref xy, .int k1, .int k2, .int k3])), ((b 0), .inr (2, [.ref (b 1), .int (t 0), .int (t 1), .int (t 2)])), ((b 1), .inl (T 3, 4, .inr (.inr (.inr (.inr ((fun i => some (b (2 + 2 * i)))))))))] ++ (stT T b P E ++ plW T a q u.1 u.2))) 0 0 := by
  refine met_mi (cc := cX5_depthIn) (maxL := 4) (by decide) rfl (Nat.le_of_ble_eq_true rfl) ?_
  intro p_ e s m args below meth c ls A Q hx hb hts hown hml hX hP hD hK hS hA hl hret
  have hl : lv_has ls 4 [(0, .ref z), (1, .int x), (2, .int w)] := hl
  obtain ⟨H, hH⟩ : ∃ H, H = s.heap := ⟨_, rfl⟩
  have hS : va_S A s.heap H [] := by rw [hH]; exact hS
  rw [← hH] at hP ⊢
  refine lv_iload_n hx hb dX5_depthIn_0 rfl (lv_at hl 1 rfl) ?_
  refine callSi (As := [.int x]) ⟨hx, hb, hml, hown, hts⟩ (mX5_isPair l T D x) (va_cwS 1 hts gX5_depthIn_X5_isPair rfl rfl rfl (pdX5_isPair).2 ⟨Nat.le_of_ble_eq_true rfl, Nat.le_of_ble_eq_true rfl⟩) wP_nil hK xN_bl (fun U _ hW => XN_warm hW hX) hl.1 rfl rfl (Nat.le_of_ble_eq_true rfl) dX5_depthIn_1 ⟨Nat.zero_le _, Nat.zero_le _⟩ (fun r1_ er1_ => ?_)
  obtain rfl : r1_ = bI (0 ≤ x ∧ x ≤ 3) := er1_
  refine lv_if_ne (tgt := 9) hx hb dX5_depthIn_4 (by decide) (fun c4 => ?_) (fun c4 => ?_)
  · skip
    have c4 := bI_n0 c4
    obtain ⟨p, hp, rfl⟩ := pair_of c4
    refine lv_iload_n hx hb dX5_depthIn_9 rfl (lv_at hl 2 rfl) ?_
    refine lv_iconst (v := 1) hx hb dX5_depthIn_10 (by decide) ?_
    refine lv_icmp_lt (tgt := 21) hx hb dX5_depthIn_11 (by decide) (fun c11 => ?_) (fun c11 => ?_)
    · skip
      refine lv_bipush (v := (-2)) hx hb dX5_depthIn_21 (by decide) ?_
      exact hret _ _ _ (V, G) _ _ dX5_depthIn_23 hS hP hD (by rw [sP_t hp, tD, if_neg (fun z => absurd z.1 (Int32.not_le.mpr c11))])
    · skip
      refine lv_iload_n hx hb dX5_depthIn_14 rfl (lv_at hl 2 rfl) ?_
      refine lv_sipush (v := 400) hx hb dX5_depthIn_15 (by decide) ?_
      refine lv_icmp_le (tgt := 24) hx hb dX5_depthIn_18 (by decide) (fun c18 => ?_) (fun c18 => ?_)
      · skip
        obtain ⟨n, hn, rfl⟩ := rng_of (x := w) (n := 400) (by decide) ⟨Int32.le_trans (by decide) (Int32.not_lt.mp c11), c18⟩
        refine lv_aload_n hx hb dX5_depthIn_24 rfl (lv_at hl 0 rfl) ?_
        refine va_get (D := D) (ci := 5) (v := .ref a) (C := RX5) (T := TX5) (N := 10) hx hb hts inwX5_depthIn_X5 hown hK hP 0 rfl rfl 5 (by decide) (hts (.fieldLink RX5 32 "PlateSlabs" "guess" "LPlateSlabs$Plates;") (List.mem_of_getElem? (i := 1) rfl)) (fun _ h9 => h9) rfl dX5_depthIn_25 ?_
        refine lv_aload_n hx hb dX5_depthIn_28 rfl (lv_at hl 0 rfl) ?_
        refine va_get (D := D) (ci := 5) (v := .ref (b 0)) (C := RX5) (T := TX5) (N := 10) hx hb hts inwX5_depthIn_X5 hown hK hP 0 rfl rfl 0 (by decide) (hts (.fieldLink RX5 10 "PlateSlabs" "now" "LPlateSlabs$State;") (List.mem_of_getElem? (i := 2) rfl)) (fun _ h9 => h9) rfl dX5_depthIn_29 ?_
        refine va_get (D := D) (ci := 2) (v := .ref (b 1)) (C := RX2) (T := TX2) (N := 4) hx hb hts inwX5_depthIn_X2 hown hK hP 1 rfl rfl 0 (by decide) (hts (.fieldLink RX5 135 "PlateSlabs$State" "pairs" "[LPlateSlabs$Plates;") (List.mem_of_getElem? (i := 3) rfl)) (fun _ h9 => h9) rfl dX5_depthIn_32 ?_
        refine lv_iload_n hx hb dX5_depthIn_35 rfl (lv_at hl 1 rfl) ?_
        refine va_aldq hx hb hK hP 2 3 rfl rfl (vp_in_nI (by omega) (by decide)) dX5_depthIn_36 ?_
        refine lv_tpv (congrArg (fun z => va_rf ((fun i => some (b (2 + 2 * i))) z)) (nI_clamp (by omega))) ?_
        have hP := wP_perm (gs_perm (o := [(z, .inr (5, [.ref (b 0), .ref x2, .ref x3, .int k0, .ref xh, .ref a, .ref xy, .int k1, .int k2, .int k3]))]) (g := plW T a q V G) hp) hP
        have hD := wD_perm (gs_perm (o := [(z, .inr (5, [.ref (b 0), .ref x2, .ref x3, .int k0, .ref xh, .ref a, .ref xy, .int k1, .int k2, .int k3]))]) (g := plW T a q V G) hp) hD
        refine callMv (As := [.ref (b (2 + 2 * p))]) (wr := ([(z, .inr (5, [.ref (b 0), .ref x2, .ref x3, .int k0, .ref xh, .ref a, .ref xy, .int k1, .int k2, .int k3]))] ++ (stH T b t ++ stO T b P E p))) ⟨hx, hb, hml, hown, hts⟩ (mX1_copyFrom l T D a q V G (b (2 + 2 * p)) (b (3 + 2 * p)) (P p) (E p) (hk p hp)) (cwV 1 hts gX5_depthIn_X1_copyFrom rfl rfl rfl pdX1_copyFrom ⟨Nat.le_of_ble_eq_true rfl, Nat.le_of_ble_eq_true rfl⟩) hP hD hK hS hA xN_bl (fun U _ hW => XN_warm hW hX) (ci := 1) rfl rfl rfl hl.1 rfl rfl (Nat.le_of_ble_eq_true rfl) dX5_depthIn_37 ⟨Nat.zero_le _, Nat.zero_le _⟩ (fun u3_ H locs eu3_ hP hD hS hkf => ?_)
        have hP : va_P D vwCl ([(z, .inr (5, [.ref (b 0), .ref x2, .ref x3, .int k0, .ref xh, .ref a, .ref xy, .int k1, .int k2, .int k3])), ((b 0), .inr (2, [.ref (b 1), .int (t 0), .int (t 1), .int (t 2)])), ((b 1), .inl (T 3, 4, .inr (.inr (.inr (.inr ((fun i => some (b (2 + 2 * i)))))))))] ++ (stT T b P E ++ plW T a q (P p) (E p))) H := wP_perm (gs_perm (o := [(z, .inr (5, [.ref (b 0), .ref x2, .ref x3, .int k0, .ref xh, .ref a, .ref xy, .int k1, .int k2, .int k3]))]) (g := plW T a q (P p) (E p)) hp).symm hP
        have hD : va_D A ([(z, .inr (5, [.ref (b 0), .ref x2, .ref x3, .int k0, .ref xh, .ref a, .ref xy, .int k1, .int k2, .int k3])), ((b 0), .inr (2, [.ref (b 1), .int (t 0), .int (t 1), .int (t 2)])), ((b 1), .inl (T 3, 4, .inr (.inr (.inr (.inr ((fun i => some (b (2 + 2 * i)))))))))] ++ (stT T b P E ++ plW T a q (P p) (E p))) := wD_perm (gs_perm (o := [(z, .inr (5, [.ref (b 0), .ref x2, .ref x3, .int k0, .ref xh, .ref a, .ref xy, .int k1, .int k2, .int k3]))]) (g := plW T a q (P p) (E p)) hp).symm hD
        refine lv_iconst (v := nI 0) hx hb dX5_depthIn_40 (by decide) ?_
        refine lv_istore_n (lv' := [(3, .int (nI 0)), (0, .ref z), (1, .int (nI p)), (2, .int (nI n))]) hx hb dX5_depthIn_41 rfl hl (by decide) rfl (fun ls hl => ?_)
        have loop : ∀ (j : Nat) (i : Nat) (G1 : Nat → Int64) (ls : Array Slot) (H : Heap) (locs : List Loc), (n + 1 ≤ i + j) → (i ≤ n) → va_P D vwCl ([(z, .inr (5, [.ref (b 0), .ref x2, .ref x3, .int k0, .ref xh, .ref a, .ref xy, .int k1, .int k2, .int k3])), ((b 0), .inr (2, [.ref (b 1), .int (t 0), .int (t 1), .int (t 2)])), ((b 1), .inl (T 3, 4, .inr (.inr (.inr (.inr ((fun i => some (b (2 + 2 * i)))))))))] ++ (stT T b P E ++ plW T a q (tIt (P p) i) G1)) H → va_D A ([(z, .inr (5, [.ref (b 0), .ref x2, .ref x3, .int k0, .ref xh, .ref a, .ref xy, .int k1, .int k2, .int k3])), ((b 0), .inr (2, [.ref (b 1), .int (t 0), .int (t 1), .int (t 2)])), ((b 1), .inl (T 3, 4, .inr (.inr (.inr (.inr ((fun i => some (b (2 + 2 * i)))))))))] ++ (stT T b P E ++ plW T a q (tIt (P p) i) G1)) → va_S A s.heap H locs → lv_has ls 4 [(0, .ref z), (1, .int (nI p)), (2, .int (nI n)), (3, .int (nI i))] → W p_ l e rmX5_depthIn s m args below meth c H locs 0 0 Q (F0 m 42 ls []) := by
          intro j
          induction j with
          | zero => intro i G1 ls H locs hm hi; exact absurd hm (by omega)
          | succ j ih =>
            intro i G1 ls H locs hm hi hP hD hS hl
            refine lv_iload_n hx hb dX5_depthIn_42 rfl (lv_at hl 3 rfl) ?_
            refine lv_iload_n hx hb dX5_depthIn_43 rfl (lv_at hl 2 rfl) ?_
            refine lv_icmp_ge (tgt := 61) hx hb dX5_depthIn_44 (by decide) (fun c44 => ?_) (fun c44 => ?_)
            · skip
              have ei : i = n := by
                have := (nI_leI (a := n) (b := i) (by omega) (by omega)).mp c44
                omega
              have hP := bP (bs := [[(z, .inr (5, [.ref (b 0), .ref x2, .ref x3, .int k0, .ref xh, .ref a, .ref xy, .int k1, .int k2, .int k3]))], stH T b t, stT T b P E, plW T a q (tIt (P p) i) G1]) (bs' := [[(z, .inr (5, [.ref (b 0), .ref x2, .ref x3, .int k0, .ref xh, .ref a, .ref xy, .int k1, .int k2, .int k3]))], stH T b t, plW T a q (tIt (P p) i) G1, stT T b P E]) hP [0, 1, 3, 2] rfl rfl
              have hD := bD (bs := [[(z, .inr (5, [.ref (b 0), .ref x2, .ref x3, .int k0, .ref xh, .ref a, .ref xy, .int k1, .int k2, .int k3]))], stH T b t, stT T b P E, plW T a q (tIt (P p) i) G1]) (bs' := [[(z, .inr (5, [.ref (b 0), .ref x2, .ref x3, .int k0, .ref xh, .ref a, .ref xy, .int k1, .int k2, .int k3]))], stH T b t, plW T a q (tIt (P p) i) G1, stT T b P E]) hD [0, 1, 3, 2] rfl rfl
              have hP : va_P D vwCl ([(z, .inr (5, [.ref (b 0), .ref x2, .ref x3, .int k0, .ref xh, .ref a, .ref xy, .int k1, .int k2, .int k3])), ((b 0), .inr (2, [.ref (b 1), .int (t 0), .int (t 1), .int (t 2)])), ((b 1), .inl (T 3, 4, .inr (.inr (.inr (.inr ((fun i => some (b (2 + 2 * i))))))))), (a, .inr (1, [.ref q, .int ((tIt (P p) i) 6), .int ((tIt (P p) i) 7), .int ((tIt (P p) i) 8), .int ((tIt (P p) i) 9), .long (G1 0), .long (G1 1), .long (G1 2)])), (q, .inl (T 0, 6, .inl ((tIt (P p) i))))] ++ stT T b P E) H := hP
              have hD : va_D A ([(z, .inr (5, [.ref (b 0), .ref x2, .ref x3, .int k0, .ref xh, .ref a, .ref xy, .int k1, .int k2, .int k3])), ((b 0), .inr (2, [.ref (b 1), .int (t 0), .int (t 1), .int (t 2)])), ((b 1), .inl (T 3, 4, .inr (.inr (.inr (.inr ((fun i => some (b (2 + 2 * i))))))))), (a, .inr (1, [.ref q, .int ((tIt (P p) i) 6), .int ((tIt (P p) i) 7), .int ((tIt (P p) i) 8), .int ((tIt (P p) i) 9), .long (G1 0), .long (G1 1), .long (G1 2)])), (q, .inl (T 0, 6, .inl ((tIt (P p) i))))] ++ stT T b P E) := hD
              refine lv_aload_n hx hb dX5_depthIn_61 rfl (lv_at hl 0 rfl) ?_
              refine va_get (D := D) (ci := 5) (v := .ref a) (C := RX5) (T := TX5) (N := 10) hx hb hts inwX5_depthIn_X5 hown hK hP 0 rfl rfl 5 (by decide) (hts (.fieldLink RX5 32 "PlateSlabs" "guess" "LPlateSlabs$Plates;") (List.mem_of_getElem? (i := 1) rfl)) (fun _ h9 => h9) rfl dX5_depthIn_62 ?_
              refine va_get (D := D) (ci := 1) (v := .int ((tIt (P p) i) 6)) (C := RX1) (T := TX1) (N := 8) hx hb hts inwX5_depthIn_X1 hown hK hP 3 rfl rfl 1 (by decide) (hts (.fieldLink RX5 146 "PlateSlabs$Plates" "depth" "I") (List.mem_of_getElem? (i := 4) rfl)) (fun _ h9 => h9) rfl dX5_depthIn_65 ?_
              have hP := bP (bs := [[(z, .inr (5, [.ref (b 0), .ref x2, .ref x3, .int k0, .ref xh, .ref a, .ref xy, .int k1, .int k2, .int k3]))], stH T b t, plW T a q (tIt (P p) i) G1, stT T b P E]) (bs' := [[(z, .inr (5, [.ref (b 0), .ref x2, .ref x3, .int k0, .ref xh, .ref a, .ref xy, .int k1, .int k2, .int k3]))], stH T b t, stT T b P E, plW T a q (tIt (P p) i) G1]) hP [0, 1, 3, 2] rfl rfl
              have hD := bD (bs := [[(z, .inr (5, [.ref (b 0), .ref x2, .ref x3, .int k0, .ref xh, .ref a, .ref xy, .int k1, .int k2, .int k3]))], stH T b t, plW T a q (tIt (P p) i) G1, stT T b P E]) (bs' := [[(z, .inr (5, [.ref (b 0), .ref x2, .ref x3, .int k0, .ref xh, .ref a, .ref xy, .int k1, .int k2, .int k3]))], stH T b t, stT T b P E, plW T a q (tIt (P p) i) G1]) hD [0, 1, 3, 2] rfl rfl
              exact hret _ _ _ (tIt (P p) i, G1) _ _ dX5_depthIn_68 hS hP hD (by rw [sP_t hp, tD, if_pos ⟨Int32.not_lt.mp c11, c18⟩, nI_clamp (by omega), ← (tIt_g (P p) n).1, ei])
            · skip
              have hlt : i < n := by
                have := mt (nI_leI (a := n) (b := i) (by omega) (by omega)).mpr c44
                omega
              refine lv_aload_n hx hb dX5_depthIn_47 rfl (lv_at hl 0 rfl) ?_
              refine va_get (D := D) (ci := 5) (v := .ref a) (C := RX5) (T := TX5) (N := 10) hx hb hts inwX5_depthIn_X5 hown hK hP 0 rfl rfl 5 (by decide) (hts (.fieldLink RX5 32 "PlateSlabs" "guess" "LPlateSlabs$Plates;") (List.mem_of_getElem? (i := 1) rfl)) (fun _ h9 => h9) rfl dX5_depthIn_48 ?_
              have hP := bP (bs := [[(z, .inr (5, [.ref (b 0), .ref x2, .ref x3, .int k0, .ref xh, .ref a, .ref xy, .int k1, .int k2, .int k3]))], stH T b t, stT T b P E, plW T a q (tIt (P p) i) G1]) (bs' := [plW T a q (tIt (P p) i) G1, [(z, .inr (5, [.ref (b 0), .ref x2, .ref x3, .int k0, .ref xh, .ref a, .ref xy, .int k1, .int k2, .int k3]))], stH T b t, stT T b P E]) hP [3, 0, 1, 2] rfl rfl
              have hD := bD (bs := [[(z, .inr (5, [.ref (b 0), .ref x2, .ref x3, .int k0, .ref xh, .ref a, .ref xy, .int k1, .int k2, .int k3]))], stH T b t, stT T b P E, plW T a q (tIt (P p) i) G1]) (bs' := [plW T a q (tIt (P p) i) G1, [(z, .inr (5, [.ref (b 0), .ref x2, .ref x3, .int k0, .ref xh, .ref a, .ref xy, .int k1, .int k2, .int k3]))], stH T b t, stT T b P E]) hD [3, 0, 1, 2] rfl rfl
              refine callMi (As := []) (wr := ([(z, .inr (5, [.ref (b 0), .ref x2, .ref x3, .int k0, .ref xh, .ref a, .ref xy, .int k1, .int k2, .int k3]))] ++ (stH T b t ++ stT T b P E))) ⟨hx, hb, hml, hown, hts⟩ (mX1_movesInTick l T D a q (tIt (P p) i) G1 (tIt_ok (hk p hp) i)) (cwV 0 hts gX5_depthIn_X1_movesInTick rfl rfl rfl pdX1_movesInTick ⟨Nat.le_of_ble_eq_true rfl, Nat.le_of_ble_eq_true rfl⟩) hP hD hK hS hA xN_bl (fun U _ hW => XN_warm hW hX) (ci := 1) rfl rfl rfl hl.1 rfl rfl (Nat.le_of_ble_eq_true rfl) dX5_depthIn_51 ⟨Nat.zero_le _, Nat.zero_le _⟩ (fun r4_ u5_ H locs eu5_ hP hD hS hkf => ?_)
              have hP := bP (bs := [plW T a q (tIt (P p) (i + 1)) (kTickE (tIt (P p) i) G1), [(z, .inr (5, [.ref (b 0), .ref x2, .ref x3, .int k0, .ref xh, .ref a, .ref xy, .int k1, .int k2, .int k3]))], stH T b t, stT T b P E]) (bs' := [[(z, .inr (5, [.ref (b 0), .ref x2, .ref x3, .int k0, .ref xh, .ref a, .ref xy, .int k1, .int k2, .int k3]))], stH T b t, stT T b P E, plW T a q (tIt (P p) (i + 1)) (kTickE (tIt (P p) i) G1)]) hP [1, 2, 3, 0] rfl rfl
              have hD := bD (bs := [plW T a q (tIt (P p) (i + 1)) (kTickE (tIt (P p) i) G1), [(z, .inr (5, [.ref (b 0), .ref x2, .ref x3, .int k0, .ref xh, .ref a, .ref xy, .int k1, .int k2, .int k3]))], stH T b t, stT T b P E]) (bs' := [[(z, .inr (5, [.ref (b 0), .ref x2, .ref x3, .int k0, .ref xh, .ref a, .ref xy, .int k1, .int k2, .int k3]))], stH T b t, stT T b P E, plW T a q (tIt (P p) (i + 1)) (kTickE (tIt (P p) i) G1)]) hD [1, 2, 3, 0] rfl rfl
              have hP : va_P D vwCl ([(z, .inr (5, [.ref (b 0), .ref x2, .ref x3, .int k0, .ref xh, .ref a, .ref xy, .int k1, .int k2, .int k3])), ((b 0), .inr (2, [.ref (b 1), .int (t 0), .int (t 1), .int (t 2)])), ((b 1), .inl (T 3, 4, .inr (.inr (.inr (.inr ((fun i => some (b (2 + 2 * i)))))))))] ++ (stT T b P E ++ plW T a q (tIt (P p) (i + 1)) (kTickE (tIt (P p) i) G1))) H := hP
              have hD : va_D A ([(z, .inr (5, [.ref (b 0), .ref x2, .ref x3, .int k0, .ref xh, .ref a, .ref xy, .int k1, .int k2, .int k3])), ((b 0), .inr (2, [.ref (b 1), .int (t 0), .int (t 1), .int (t 2)])), ((b 1), .inl (T 3, 4, .inr (.inr (.inr (.inr ((fun i => some (b (2 + 2 * i)))))))))] ++ (stT T b P E ++ plW T a q (tIt (P p) (i + 1)) (kTickE (tIt (P p) i) G1))) := hD
              obtain rfl : r4_ = bI (¬ kBy (kLeakP (tIt (P p) i)) = 0) := eu5_
              refine lv_pop hx hb dX5_depthIn_54 rfl ?_
              refine lv_iinc (v := nI (i + 1)) (lv' := [(3, .int (nI (i + 1))), (0, .ref z), (1, .int (nI p)), (2, .int (nI n))]) hx hb dX5_depthIn_55 hl (k := 3) rfl (nI_1 i) (by decide) rfl (fun ls hl => ?_)
              refine lv_goto (tgt := 42) hx hb dX5_depthIn_58 (by decide) ?_
              exact ih (i + 1) _ ls _ _ (by omega) (by omega) hP hD hS (lv_sub hl [1, 2, 3, 0] rfl)
        exact loop (n + 1) 0 _ ls _ _ (by omega) (by omega) hP hD hS (lv_sub hl [1, 2, 3, 0] rfl)
      · skip
        refine lv_bipush (v := (-2)) hx hb dX5_depthIn_21 (by decide) ?_
        exact hret _ _ _ (V, G) _ _ dX5_depthIn_23 hS hP hD (by rw [sP_t hp, tD, if_neg (fun z => c18 z.2)])
  · skip
    have c4 := bI_0 c4
    refine lv_iconst (v := (-1)) hx hb dX5_depthIn_7 (by decide) ?_
    exact hret _ _ _ (V, G) _ _ dX5_depthIn_8 hS hP hD ((sP_f c4).symm)
