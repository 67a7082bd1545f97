section LAW
variable {p : Program} {l : Launch} {e : Env} {s : State} {m : MethodId} {below : List Frame} {meth : Method} {c : Code} {Q : State → Prop} {bq L : Nat} {xs : Nat → Int32} {T : Nat → ClassId} {D : va_G} {z a q : Nat} {b1 b2 b3 h y r : Nat → Nat}
set_option maxHeartbeats 4000000 in
set_option maxRecDepth 100000 in
theorem law_step (C : lwC p s m c bq L xs T D) {i : Nat} (hi : i + 4 ≤ L) (kk : lwB p l e s m below meth c Q bq T D z a q b1 b2 b3 h y r 18 (i + 4)) : lwB p l e s m below meth c Q bq T D z a q b1 b2 b3 h y r 702 i := by
  obtain ⟨hx, hb, hml, hown, hts, hsx, hbl, hK, hXS, hL⟩ := C
  intro d k0 k1 k2 k3 n σ g gb gs V G w K9 A9 W9 tx len v ia ea ik ek ib eb H locs ls hi9 hP hD hS hl
  refine lv_iinc (v := nI (i + 4)) (lv' := [(3, .int (nI (i + 4))), (0, .ref bq), (1, .ref z), (2, .ref (r 0))]) hx hb dL_law_702 hl (k := 0) rfl (nI_add i 4) (by decide) rfl (fun ls hl => ?_)
  refine lv_goto (tgt := 18) hx hb dL_law_705 (by decide) ?_
  exact kk d k0 k1 k2 k3 n σ g gb gs V G w K9 A9 W9 tx len v ia ea ik ek ib eb H locs ls hi9 hP hD hS hl
/- one turn: by its number, from the head of the loop to its foot -/
set_option maxHeartbeats 4000000 in
set_option maxRecDepth 100000 in
theorem law_turn (C : lwC p s m c bq L xs T D) {i : Nat} (hi : i + 4 ≤ L) (kk : lwB p l e s m below meth c Q bq T D z a q b1 b2 b3 h y r 18 (i + 4)) : lwB p l e s m below meth c Q bq T D z a q b1 b2 b3 h y r 26 i := by
  have kn := law_step C hi kk
  have C0 := C
  obtain ⟨hx, hb, hml, hown, hts, hsx, hbl, hK, hXS, hL⟩ := C
  have hbA : ¬ (fun q9 : Nat => s.heap.size ≤ q9) bq := Nat.not_le.mpr hbl
  intro d k0 k1 k2 k3 n σ g gb gs V G w K9 A9 W9 tx len v ia ea ik ek ib eb H locs ls hi9 hP hD hS hl
  refine lv_aload_n hx hb dL_law_26 rfl (lv_at hl 1 rfl) ?_
  refine lv_iload_n hx hb dL_law_27 rfl (lv_at hl 0 rfl) ?_
  refine va_sld hx hb hsx hbl hbA hS (vp_in_nI (by omega) (by omega)) dL_law_28 ?_
  refine lv_bipush (v := 31) hx hb dL_law_29 (by decide) ?_
  refine lv_iand hx hb dL_law_31 ?_
  refine lv_topi (fun w9 ew9 => ?_)
  rcases sw_0_22 w9 with hw | rfl | rfl | rfl | rfl | rfl | rfl | rfl | rfl | rfl | rfl | rfl | rfl | rfl | rfl | rfl | rfl | rfl | rfl | rfl | rfl | rfl | rfl | rfl
  · exact lv_tableOut (tgt := 702) hx hb dL_law_32 hw (by decide) (kn d k0 k1 k2 k3 n σ g gb gs V G w K9 A9 W9 tx len v ia ea ik ek ib eb H locs ls hi9 hP hD hS hl)
  · exact lv_tableIn (off := 108) (tgt := 140) hx hb dL_law_32 (by decide) (by decide) (by decide) (by decide) (lc_set C0 hi kn d k0 k1 k2 k3 n σ g gb gs V G w K9 A9 W9 tx len v ia ea ik ek ib eb H locs ls hi9 hP hD hS hl)
  · exact lv_tableIn (off := 151) (tgt := 183) hx hb dL_law_32 (by decide) (by decide) (by decide) (by decide) (lc_turnOn C0 hi kn d k0 k1 k2 k3 n σ g gb gs V G w K9 A9 W9 tx len v ia ea ik ek ib eb H locs ls hi9 hP hD hS hl)
  · exact lv_tableIn (off := 184) (tgt := 216) hx hb dL_law_32 (by decide) (by decide) (by decide) (by decide) (lc_turnOff C0 hi kn d k0 k1 k2 k3 n σ g gb gs V G w K9 A9 W9 tx len v ia ea ik ek ib eb H locs ls hi9 hP hD hS hl)
  · exact lv_tableIn (off := 207) (tgt := 239) hx hb dL_law_32 (by decide) (by decide) (by decide) (by decide) (lc_put C0 hi kn d k0 k1 k2 k3 n σ g gb gs V G w K9 A9 W9 tx len v ia ea ik ek ib eb H locs ls hi9 hP hD hS hl)
  · exact lv_tableIn (off := 240) (tgt := 272) hx hb dL_law_32 (by decide) (by decide) (by decide) (by decide) (lc_couple C0 hi kn d k0 k1 k2 k3 n σ g gb gs V G w K9 A9 W9 tx len v ia ea ik ek ib eb H locs ls hi9 hP hD hS hl)
  · exact lv_tableIn (off := 273) (tgt := 305) hx hb dL_law_32 (by decide) (by decide) (by decide) (by decide) (lc_pass C0 hi kn d k0 k1 k2 k3 n σ g gb gs V G w K9 A9 W9 tx len v ia ea ik ek ib eb H locs ls hi9 hP hD hS hl)
  · exact lv_tableIn (off := 296) (tgt := 328) hx hb dL_law_32 (by decide) (by decide) (by decide) (by decide) (lc_type C0 hi kn d k0 k1 k2 k3 n σ g gb gs V G w K9 A9 W9 tx len v ia ea ik ek ib eb H locs ls hi9 hP hD hS hl)
  · exact lv_tableIn (off := 321) (tgt := 353) hx hb dL_law_32 (by decide) (by decide) (by decide) (by decide) (lc_clearText C0 hi kn d k0 k1 k2 k3 n σ g gb gs V G w K9 A9 W9 tx len v ia ea ik ek ib eb H locs ls hi9 hP hD hS hl)
  · exact lv_tableIn (off := 334) (tgt := 366) hx hb dL_law_32 (by decide) (by decide) (by decide) (by decide) (lc_perform C0 hi kn d k0 k1 k2 k3 n σ g gb gs V G w K9 A9 W9 tx len v ia ea ik ek ib eb H locs ls hi9 hP hD hS hl)
  · exact lv_tableIn (off := 347) (tgt := 379) hx hb dL_law_32 (by decide) (by decide) (by decide) (by decide) (lc_stopped C0 hi kn d k0 k1 k2 k3 n σ g gb gs V G w K9 A9 W9 tx len v ia ea ik ek ib eb H locs ls hi9 hP hD hS hl)
  · exact lv_tableIn (off := 370) (tgt := 402) hx hb dL_law_32 (by decide) (by decide) (by decide) (by decide) (lc_undo C0 hi kn d k0 k1 k2 k3 n σ g gb gs V G w K9 A9 W9 tx len v ia ea ik ek ib eb H locs ls hi9 hP hD hS hl)
  · exact lv_tableIn (off := 383) (tgt := 415) hx hb dL_law_32 (by decide) (by decide) (by decide) (by decide) (lc_keep C0 hi kn d k0 k1 k2 k3 n σ g gb gs V G w K9 A9 W9 tx len v ia ea ik ek ib eb H locs ls hi9 hP hD hS hl)
  · exact lv_tableIn (off := 396) (tgt := 428) hx hb dL_law_32 (by decide) (by decide) (by decide) (by decide) (lc_restore C0 hi kn d k0 k1 k2 k3 n σ g gb gs V G w K9 A9 W9 tx len v ia ea ik ek ib eb H locs ls hi9 hP hD hS hl)
  · exact lv_tableIn (off := 409) (tgt := 441) hx hb dL_law_32 (by decide) (by decide) (by decide) (by decide) (lc_pair C0 hi kn d k0 k1 k2 k3 n σ g gb gs V G w K9 A9 W9 tx len v ia ea ik ek ib eb H locs ls hi9 hP hD hS hl)
  · exact lv_tableIn (off := 442) (tgt := 474) hx hb dL_law_32 (by decide) (by decide) (by decide) (by decide) (lc_book C0 hi kn d k0 k1 k2 k3 n σ g gb gs V G w K9 A9 W9 tx len v ia ea ik ek ib eb H locs ls hi9 hP hD hS hl)
  · exact lv_tableIn (off := 476) (tgt := 508) hx hb dL_law_32 (by decide) (by decide) (by decide) (by decide) (lc_reason C0 hi kn d k0 k1 k2 k3 n σ g gb gs V G w K9 A9 W9 tx len v ia ea ik ek ib eb H locs ls hi9 hP hD hS hl)
  · exact lv_tableIn (off := 499) (tgt := 531) hx hb dL_law_32 (by decide) (by decide) (by decide) (by decide) (lc_force C0 hi kn d k0 k1 k2 k3 n σ g gb gs V G w K9 A9 W9 tx len v ia ea ik ek ib eb H locs ls hi9 hP hD hS hl)
  · exact lv_tableIn (off := 532) (tgt := 564) hx hb dL_law_32 (by decide) (by decide) (by decide) (by decide) (lc_restsIn C0 hi kn d k0 k1 k2 k3 n σ g gb gs V G w K9 A9 W9 tx len v ia ea ik ek ib eb H locs ls hi9 hP hD hS hl)
  · exact lv_tableIn (off := 555) (tgt := 587) hx hb dL_law_32 (by decide) (by decide) (by decide) (by decide) (lc_depthIn C0 hi kn d k0 k1 k2 k3 n σ g gb gs V G w K9 A9 W9 tx len v ia ea ik ek ib eb H locs ls hi9 hP hD hS hl)
  · exact lv_tableIn (off := 588) (tgt := 620) hx hb dL_law_32 (by decide) (by decide) (by decide) (by decide) (lc_leastVoltage C0 hi kn d k0 k1 k2 k3 n σ g gb gs V G w K9 A9 W9 tx len v ia ea ik ek ib eb H locs ls hi9 hP hD hS hl)
  · exact lv_tableIn (off := 611) (tgt := 643) hx hb dL_law_32 (by decide) (by decide) (by decide) (by decide) (lc_drawingVoltage C0 hi kn d k0 k1 k2 k3 n σ g gb gs V G w K9 A9 W9 tx len v ia ea ik ek ib eb H locs ls hi9 hP hD hS hl)
  · exact lv_tableIn (off := 634) (tgt := 666) hx hb dL_law_32 (by decide) (by decide) (by decide) (by decide) (lc_strongest C0 hi kn d k0 k1 k2 k3 n σ g gb gs V G w K9 A9 W9 tx len v ia ea ik ek ib eb H locs ls hi9 hP hD hS hl)
  · exact lv_tableIn (off := 647) (tgt := 679) hx hb dL_law_32 (by decide) (by decide) (by decide) (by decide) (lc_count C0 hi kn d k0 k1 k2 k3 n σ g gb gs V G w K9 A9 W9 tx len v ia ea ik ek ib eb H locs ls hi9 hP hD hS hl)
/- the loop: the script is done, and 1 is on its way -/
set_option maxHeartbeats 4000000 in
set_option maxRecDepth 100000 in
theorem law_loop (C : lwC p s m c bq L xs T D) (kf : ∀ (H : Heap) (locs : List Loc) (ls : Array Slot), va_S (fun q9 : Nat => s.heap.size ≤ q9) s.heap H locs → W p l e room_1 s m #[Value.ref bq] below meth c H locs 91 1075 Q (F0 m 708 ls [])) : ∀ (j i : Nat), L + 1 ≤ i + j → i ≤ L → lwB p l e s m below meth c Q bq T D z a q b1 b2 b3 h y r 18 i := by
  intro j
  induction j with
  | zero => intro i hm hi; exact absurd hm (by omega)
  | succ j ih =>
    intro i hm hi
    have C0 := C
    obtain ⟨hx, hb, hml, hown, hts, hsx, hbl, hK, hXS, hL⟩ := C
    have hbA : ¬ (fun q9 : Nat => s.heap.size ≤ q9) bq := Nat.not_le.mpr hbl
    intro d k0 k1 k2 k3 n σ g gb gs V G w K9 A9 W9 tx len v ia ea ik ek ib eb H locs ls hi9 hP hD hS hl
    refine lv_iload_n hx hb dL_law_18 rfl (lv_at hl 0 rfl) ?_
    refine lv_aload_n hx hb dL_law_19 rfl (lv_at hl 1 rfl) ?_
    refine va_slen hx hb hsx hbl hbA hS dL_law_20 ?_
    refine lv_iconst (v := 4) hx hb dL_law_21 (by decide) ?_
    refine lv_isub hx hb dL_law_22 ?_
    refine lv_icmp_gt (tgt := 708) hx hb dL_law_23 (by decide) (fun c23 => ?_) (fun c23 => ?_)
    · exact kf H locs ls hS
    · have h4 : i + 4 ≤ L := by
        have e1 : (Int32.ofNat L).toInt = (L : Int) := nI_int (n := L) (by omega)
        have e2 := nI_int (n := i) (by omega)
        have e4 : (4 : Int32).toInt = 4 := by decide
        have e3 : (Int32.ofNat L - 4).toInt = (L : Int) - 4 := by rw [fb_subI (by omega) (by omega), e1, e4]
        rw [Int32.not_lt, fa_le, e2, e3] at c23
        omega
      exact law_turn C0 h4 (ih (i + 4) (by omega) h4) d k0 k1 k2 k3 n σ g gb gs V G w K9 A9 W9 tx len v ia ea ik ek ib eb H locs ls hi9 hP hD hS hl
end LAW
