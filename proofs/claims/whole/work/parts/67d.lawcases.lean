section LAW
variable {p : Program} {l : Launch} {e : Env} {s : State} {m : MethodId} {below : List Frame} {meth : Method} {c : Code} {Q : State → Prop} {bq L : Nat} {xs : Nat → Int32} {T : Nat → ClassId} {D : va_G} {z a q : Nat} {b1 b2 b3 h y r : Nat → Nat}
theorem cnt_g {H : Heap} {m0 o9 sA sT hA hB hT s2 s3 p0 yA yB i2 : va_W} (h : va_P D vwCl (fl [m0, o9, sA ++ sT, (hA ++ hB) ++ hT, s2, s3, p0, yA ++ yB, i2]) H) : va_P D vwCl (o9 ++ (sA ++ (hA ++ (yA ++ sT)))) H :=
  wP_of h (fun x hx => by
    simp only [fl, List.flatten_cons, List.flatten_nil, List.mem_append] at hx ⊢
    rcases hx with k | k | k | k | k
    · exact Or.inr (Or.inl k)
    · exact Or.inr (Or.inr (Or.inl (Or.inl k)))
    · exact Or.inr (Or.inr (Or.inr (Or.inl (Or.inl (Or.inl k)))))
    · exact Or.inr (Or.inr (Or.inr (Or.inr (Or.inr (Or.inr (Or.inr (Or.inl (Or.inl k))))))))
    · exact Or.inr (Or.inr (Or.inl (Or.inr k))))
theorem cnt_w {H : Heap} {m0 s3 s2 p0 i2 : va_W} {x3 x2 xa : Nat} {k0 k1 k2 k3 : Int32} {g : SG} {d : Nat → Nat → Nat} {n len : Nat} {σ : Nat → SG} {w tx : Nat → Int32} (hP : va_P D vwCl (fl [m0, [(z, .inr (5, [.ref (b1 0), .ref x2, .ref x3, .int k0, .ref (h 0), .ref xa, .ref (y 0), .int k1, .int k2, .int k3]))], sgW T b1 g, hiW T h d n σ, s2, s3, p0, siA T y w tx len, i2]) H) :
    va_P D vwCl ([(z, .inr (5, [.ref (b1 0), .ref x2, .ref x3, .int k0, .ref (h 0), .ref xa, .ref (y 0), .int k1, .int k2, .int k3])), ((b1 0), .inr (2, [.ref (b1 1), .int (g.1 0), .int (g.1 1), .int (g.1 2)])), ((b1 1), .inl (T 3, 4, .inr (.inr (.inr (.inr ((fun i => some (b1 (2 + 2 * i))))))))), ((h 0), .inr (0, [.ref (h 1), .int (nI n)])), ((y 0), .inr (4, [.ref (y 4), .ref (y 1), .ref (y 2), .ref (y 3), .int (w 0), .int (w 1), .int (w 2), .int (w 3)])), ((y 4), .inr (3, [.ref (y 5), .int (nI len)]))] ++ stT T b1 g.2.1 g.2.2) H := by
  exact cnt_g (sA := stH T b1 g.1) (sT := stT T b1 g.2.1 g.2.2) (hA := [((h 0), .inr (0, [.ref (h 1), .int (nI n)]))]) (hB := [(h 1, .inl (T 4, 4, .inr (.inr (.inr (.inr (fun i => some (d i 0)))))))]) (hT := hiT T d σ) (yA := [((y 0), .inr (4, [.ref (y 4), .ref (y 1), .ref (y 2), .ref (y 3), .int (w 0), .int (w 1), .int (w 2), .int (w 3)])), ((y 4), .inr (3, [.ref (y 5), .int (nI len)]))]) (yB := [((y 5), .inl (T 2, 60, .inl (tx)))]) hP
set_option maxHeartbeats 4000000 in
set_option maxRecDepth 100000 in
theorem lc_count (C : lwC p s m c bq L xs T D) {i : Nat} (hi : i + 4 ≤ L) (kk : lwB p l e s m below meth c Q bq T D z a q b1 b2 b3 h y r 702 i) : lwB p l e s m below meth c Q bq T D z a q b1 b2 b3 h y r 679 i := by
  obtain ⟨hx, hb, hml, hown, hts, hsx, hbl, hK, hXS, hL⟩ := C
  have hX := hXS.1
  have hA : ∀ q9 : Nat, s.heap.size ≤ q9 → (fun q9 : Nat => s.heap.size ≤ q9) q9 := fun _ h9 => h9
  have hbA : ¬ (fun q9 : Nat => s.heap.size ≤ q9) bq := Nat.not_le.mpr hbl
  intro d k0 k1 k2 k3 n σ g gb gs V G w K9 A9 W9 tx len v ia ea ik ek ib eb H locs ls hi9 hP hD hS hl
  refine lv_aload_n hx hb dL_law_679 rfl (lv_at hl 2 rfl) ?_
  refine lv_aload_n hx hb dL_law_680 rfl (lv_at hl 1 rfl) ?_
  refine lv_iload_n hx hb dL_law_681 rfl (lv_at hl 0 rfl) ?_
  refine lv_iconst (v := nI 1) hx hb dL_law_682 (by decide) ?_
  refine lv_iadd hx hb dL_law_683 ?_
  refine lv_tpi (nI_add i 1) ?_
  refine va_sld hx hb hsx hbl hbA hS (vp_in_nI (by omega) (by omega)) dL_law_684 ?_
  refine lv_tpi (congrArg xs (nI_clamp (by omega))) ?_
  refine callRi (As := [.int (xs (i + 1))]) ⟨hx, hb, hml, hown, hts⟩ (mX5_count l T D z (b2 0) (b3 0) a k0 k1 k2 k3 b1 g.1 g.2.1 g.2.2 (li_g hi9).1 h y n len w (xs (i + 1))) (cwV 1 hts gL_law_X5_count rfl rfl rfl pdX5_count ⟨Nat.le_of_ble_eq_true rfl, Nat.le_of_ble_eq_true rfl⟩) (cnt_w hP) hK xN_bl (fun U _ hW => XN_warm hW hX) (ci := 5) rfl rfl rfl hl.1 rfl rfl (Nat.le_of_ble_eq_true rfl) dL_law_685 ⟨Nat.le_of_ble_eq_true rfl, Nat.le_of_ble_eq_true rfl⟩ (fun r1_ er1_ => ?_)
  refine lv_aload_n hx hb dL_law_688 rfl (lv_at hl 3 rfl) ?_
  refine lv_aload_n hx hb dL_law_689 rfl (lv_at hl 1 rfl) ?_
  refine lv_iload_n hx hb dL_law_690 rfl (lv_at hl 0 rfl) ?_
  refine lv_iconst (v := nI 1) hx hb dL_law_691 (by decide) ?_
  refine lv_iadd hx hb dL_law_692 ?_
  refine lv_tpi (nI_add i 1) ?_
  refine va_sld hx hb hsx hbl hbA hS (vp_in_nI (by omega) (by omega)) dL_law_693 ?_
  refine lv_tpi (congrArg xs (nI_clamp (by omega))) ?_
  refine callRi (As := [.int (xs (i + 1))]) ⟨hx, hb, hml, hown, hts⟩ (mX6_count l T D (r 0) (r 1) (moF r v) g.1 g.2.1 rfl (li_g hi9).1 (v 1) (v 2) rfl rfl (xs (i + 1))) (cwV 1 hts gL_law_X6_count rfl rfl rfl pdX6_count ⟨Nat.le_of_ble_eq_true rfl, Nat.le_of_ble_eq_true rfl⟩) ((wP_left (fP1.mp hP)).sub [0, 1] rfl) hK xN_bl (fun U _ hW => XN_warm hW hX) (ci := 6) rfl rfl rfl hl.1 rfl rfl (Nat.le_of_ble_eq_true rfl) dL_law_694 ⟨Nat.le_of_ble_eq_true rfl, Nat.le_of_ble_eq_true rfl⟩ (fun r2_ er2_ => ?_)
  refine lv_icmp_eq (tgt := 702) hx hb dL_law_697 (by decide) (fun _ => ?_) (fun c9 => absurd ((er1_).trans ((by rw [li_v1 hi9, li_v2 hi9] : tC g.1 g.2.1 (nI n) (nI len) _ = tC g.1 g.2.1 (v 1) (v 2) _).trans (er2_).symm)) c9)
  exact kk d k0 k1 k2 k3 n σ g gb gs V G w K9 A9 W9 tx len v ia ea ik ek ib eb H _ ls hi9 hP hD hS (lv_sub hl [0, 1, 2, 3] rfl)
end LAW
