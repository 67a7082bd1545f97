def rmL_couples : Room := { frames := 7, cells := 0, slots := 0, locals := 167 }
set_option maxHeartbeats 4000000 in
set_option maxRecDepth 100000 in
theorem mL_couples (l : Launch) (T : Nat → ClassId) (D : va_G) (z : Nat) (b1 b2 b3 h : Nat → Nat) (a q : Nat) (y : Nat → Nat) (d : Nat → Nat → Nat) (n : Nat) (σ : Nat → SG) (g gb : SG) (V : Nat → Int32) (G : Nat → Int64) (c0 : Nat) (hj : jOk c0 g) (hn : n ≤ 4) (p : Nat) (hp : p < 4) (p2 : Nat) (hp2 : p2 < 4) : MuI l yL_couples wsL_couples rmL_couples T xN D [.ref z, .int (nI p), .int (nI p2)] (oW T z b1 b2 b3 h a q y d n σ g gb V G) (S := OSt) (fun r u => r = (oCouple (nI p) (nI p2) g).1 ∧ u.2.1.1 = (oCouple (nI p) (nI p2) g).2 ∧ u.1.2.1 = if 0 ≤ (oCouple (nI p) (nI p2) g).1 then rcN n else n) (fun u => oU T z b1 b2 b3 h a q y u) 0 0 := by
  refine met_mi (cc := cL_couples) (maxL := 17) (by decide) rfl (Nat.le_of_ble_eq_true rfl) ?_
  intro p_ e s m args below meth c ls A Q hx hb hts hown hml hX hP hD hK hS hA hl hret
  have hl : lv_has ls 17 [(0, .ref z), (1, .int (nI p)), (2, .int (nI p2))] := hl
  obtain ⟨H, hH⟩ : ∃ H, H = s.heap := ⟨_, rfl⟩
  have hS : va_S A s.heap H [] := by rw [hH]; exact hS
  obtain ⟨locs, hlc⟩ : ∃ x9 : List Loc, x9 = [] := ⟨_, rfl⟩
  rw [← hlc] at hS ⊢
  rw [← hH] at hP ⊢
  refine lv_aload_n hx hb dL_couples_0 rfl (lv_at hl 0 rfl) ?_
  refine lv_iload_n hx hb dL_couples_1 rfl (lv_at hl 1 rfl) ?_
  refine lv_bipush (v := 8) hx hb dL_couples_2 (by decide) ?_
  refine callRi (As := [.int (nI p), .int 8]) ⟨hx, hb, hml, hown, hts⟩ (mX5_pair l T D z (b2 0) (b3 0) (h 0) a (y 0) 0 0 0 0 b1 g.1 g.2.1 g.2.2 hj.1 (nI p) 8) (cwV 2 hts gL_couples_X5_pair rfl rfl rfl pdX5_pair ⟨Nat.le_of_ble_eq_true rfl, Nat.le_of_ble_eq_true rfl⟩) (oW_rd hP) hK xN_bl (fun U _ hW => XN_warm hW hX) (ci := 5) rfl rfl rfl hl.1 rfl rfl (Nat.le_of_ble_eq_true rfl) dL_couples_4 ⟨Nat.zero_le _, Nat.zero_le _⟩ (fun r1_ er1_ => ?_)
  obtain rfl : r1_ = (g.2.1 p) 7 := er1_.trans ((rp hp _).trans rfl)
  refine lv_istore_n (lv' := [(3, .int ((g.2.1 p) 7)), (0, .ref z), (1, .int (nI p)), (2, .int (nI p2))]) hx hb dL_couples_7 rfl hl (by decide) rfl (fun ls hl => ?_)
  refine lv_aload_n hx hb dL_couples_8 rfl (lv_at hl 1 rfl) ?_
  refine lv_iload_n hx hb dL_couples_9 rfl (lv_at hl 3 rfl) ?_
  refine lv_bipush (v := 8) hx hb dL_couples_10 (by decide) ?_
  refine callRi (As := [.int (nI p2), .int 8]) ⟨hx, hb, hml, hown, hts⟩ (mX5_pair l T D z (b2 0) (b3 0) (h 0) a (y 0) 0 0 0 0 b1 g.1 g.2.1 g.2.2 hj.1 (nI p2) 8) (cwV 2 hts gL_couples_X5_pair rfl rfl rfl pdX5_pair ⟨Nat.le_of_ble_eq_true rfl, Nat.le_of_ble_eq_true rfl⟩) (oW_rd hP) hK xN_bl (fun U _ hW => XN_warm hW hX) (ci := 5) rfl rfl rfl hl.1 rfl rfl (Nat.le_of_ble_eq_true rfl) dL_couples_12 ⟨Nat.zero_le _, Nat.zero_le _⟩ (fun r2_ er2_ => ?_)
  obtain rfl : r2_ = (g.2.1 p2) 7 := er2_.trans ((rp hp2 _).trans rfl)
  refine lv_istore (lv' := [(4, .int ((g.2.1 p2) 7)), (3, .int ((g.2.1 p) 7)), (0, .ref z), (1, .int (nI p)), (2, .int (nI p2))]) hx hb dL_couples_15 hl (by decide) rfl (fun ls hl => ?_)
  refine lv_aload_n hx hb dL_couples_17 rfl (lv_at hl 2 rfl) ?_
  refine lv_iload_n hx hb dL_couples_18 rfl (lv_at hl 3 rfl) ?_
  refine lv_bipush (v := 7) hx hb dL_couples_19 (by decide) ?_
  refine callRi (As := [.int (nI p), .int 7]) ⟨hx, hb, hml, hown, hts⟩ (mX5_pair l T D z (b2 0) (b3 0) (h 0) a (y 0) 0 0 0 0 b1 g.1 g.2.1 g.2.2 hj.1 (nI p) 7) (cwV 2 hts gL_couples_X5_pair rfl rfl rfl pdX5_pair ⟨Nat.le_of_ble_eq_true rfl, Nat.le_of_ble_eq_true rfl⟩) (oW_rd hP) hK xN_bl (fun U _ hW => XN_warm hW hX) (ci := 5) rfl rfl rfl hl.1 rfl rfl (Nat.le_of_ble_eq_true rfl) dL_couples_21 ⟨Nat.zero_le _, Nat.zero_le _⟩ (fun r3_ er3_ => ?_)
  obtain rfl : r3_ = kCap (g.2.1 p) ((g.2.1 p) 6) := er3_.trans ((rp hp _).trans rfl)
  refine lv_istore (lv' := [(5, .int (kCap (g.2.1 p) ((g.2.1 p) 6))), (4, .int ((g.2.1 p2) 7)), (3, .int ((g.2.1 p) 7)), (0, .ref z), (1, .int (nI p)), (2, .int (nI p2))]) hx hb dL_couples_24 hl (by decide) rfl (fun ls hl => ?_)
  refine lv_aload_n hx hb dL_couples_26 rfl (lv_at hl 3 rfl) ?_
  refine lv_iload_n hx hb dL_couples_27 rfl (lv_at hl 5 rfl) ?_
  refine lv_bipush (v := 7) hx hb dL_couples_28 (by decide) ?_
  refine callRi (As := [.int (nI p2), .int 7]) ⟨hx, hb, hml, hown, hts⟩ (mX5_pair l T D z (b2 0) (b3 0) (h 0) a (y 0) 0 0 0 0 b1 g.1 g.2.1 g.2.2 hj.1 (nI p2) 7) (cwV 2 hts gL_couples_X5_pair rfl rfl rfl pdX5_pair ⟨Nat.le_of_ble_eq_true rfl, Nat.le_of_ble_eq_true rfl⟩) (oW_rd hP) hK xN_bl (fun U _ hW => XN_warm hW hX) (ci := 5) rfl rfl rfl hl.1 rfl rfl (Nat.le_of_ble_eq_true rfl) dL_couples_30 ⟨Nat.zero_le _, Nat.zero_le _⟩ (fun r4_ er4_ => ?_)
  obtain rfl : r4_ = kCap (g.2.1 p2) ((g.2.1 p2) 6) := er4_.trans ((rp hp2 _).trans rfl)
  refine lv_istore (lv' := [(6, .int (kCap (g.2.1 p2) ((g.2.1 p2) 6))), (5, .int (kCap (g.2.1 p) ((g.2.1 p) 6))), (4, .int ((g.2.1 p2) 7)), (3, .int ((g.2.1 p) 7)), (0, .ref z), (1, .int (nI p)), (2, .int (nI p2))]) hx hb dL_couples_33 hl (by decide) rfl (fun ls hl => ?_)
  refine lv_aload_n hx hb dL_couples_35 rfl (lv_at hl 4 rfl) ?_
  refine lv_iload_n hx hb dL_couples_36 rfl (lv_at hl 5 rfl) ?_
  refine lv_iconst (v := 0) hx hb dL_couples_37 (by decide) ?_
  refine callRl (As := [.int (nI p), .int 0]) ⟨hx, hb, hml, hown, hts⟩ (mX5_book l T D z (b2 0) (b3 0) (h 0) a (y 0) 0 0 0 0 b1 g.1 g.2.1 g.2.2 hj.1 (nI p) 0) (cwV 2 hts gL_couples_X5_book rfl rfl rfl pdX5_book ⟨Nat.le_of_ble_eq_true rfl, Nat.le_of_ble_eq_true rfl⟩) (oW_rd hP) hK xN_bl (fun U _ hW => XN_warm hW hX) (ci := 5) rfl rfl rfl hl.1 rfl rfl (Nat.le_of_ble_eq_true rfl) dL_couples_38 ⟨Nat.zero_le _, Nat.zero_le _⟩ (fun r5_ er5_ => ?_)
  obtain rfl : r5_ = kStored (g.2.1 p) := er5_.trans ((rb hp _).trans rfl)
  refine lv_aload_n hx hb dL_couples_41 rfl (lv_at hl 4 rfl) ?_
  refine lv_iload_n hx hb dL_couples_42 rfl (lv_at hl 6 rfl) ?_
  refine lv_iconst (v := 0) hx hb dL_couples_43 (by decide) ?_
  refine callRl (As := [.int (nI p2), .int 0]) ⟨hx, hb, hml, hown, hts⟩ (mX5_book l T D z (b2 0) (b3 0) (h 0) a (y 0) 0 0 0 0 b1 g.1 g.2.1 g.2.2 hj.1 (nI p2) 0) (cwV 2 hts gL_couples_X5_book rfl rfl rfl pdX5_book ⟨Nat.le_of_ble_eq_true rfl, Nat.le_of_ble_eq_true rfl⟩) (oW_rd hP) hK xN_bl (fun U _ hW => XN_warm hW hX) (ci := 5) rfl rfl rfl hl.1 rfl rfl (Nat.le_of_ble_eq_true rfl) dL_couples_44 ⟨Nat.zero_le _, Nat.zero_le _⟩ (fun r6_ er6_ => ?_)
  obtain rfl : r6_ = kStored (g.2.1 p2) := er6_.trans ((rb hp2 _).trans rfl)
  refine lv_ladd hx hb dL_couples_47 ?_
  refine lv_lstore (lv' := [(7, .long ((kStored (g.2.1 p)) + (kStored (g.2.1 p2)))), (6, .int (kCap (g.2.1 p2) ((g.2.1 p2) 6))), (5, .int (kCap (g.2.1 p) ((g.2.1 p) 6))), (4, .int ((g.2.1 p2) 7)), (3, .int ((g.2.1 p) 7)), (0, .ref z), (1, .int (nI p)), (2, .int (nI p2))]) hx hb dL_couples_48 hl (by decide) rfl (fun ls hl => ?_)
  refine lv_aload_n hx hb dL_couples_50 rfl (lv_at hl 5 rfl) ?_
  refine lv_iload_n hx hb dL_couples_51 rfl (lv_at hl 6 rfl) ?_
  refine lv_iconst (v := 3) hx hb dL_couples_52 (by decide) ?_
  refine callRl (As := [.int (nI p), .int 3]) ⟨hx, hb, hml, hown, hts⟩ (mX5_book l T D z (b2 0) (b3 0) (h 0) a (y 0) 0 0 0 0 b1 g.1 g.2.1 g.2.2 hj.1 (nI p) 3) (cwV 2 hts gL_couples_X5_book rfl rfl rfl pdX5_book ⟨Nat.le_of_ble_eq_true rfl, Nat.le_of_ble_eq_true rfl⟩) (oW_rd hP) hK xN_bl (fun U _ hW => XN_warm hW hX) (ci := 5) rfl rfl rfl hl.1 rfl rfl (Nat.le_of_ble_eq_true rfl) dL_couples_53 ⟨Nat.zero_le _, Nat.zero_le _⟩ (fun r7_ er7_ => ?_)
  obtain rfl : r7_ = (g.2.2 p) 2 := er7_.trans ((rb hp _).trans rfl)
  refine lv_aload_n hx hb dL_couples_56 rfl (lv_at hl 5 rfl) ?_
  refine lv_iload_n hx hb dL_couples_57 rfl (lv_at hl 7 rfl) ?_
  refine lv_iconst (v := 3) hx hb dL_couples_58 (by decide) ?_
  refine callRl (As := [.int (nI p2), .int 3]) ⟨hx, hb, hml, hown, hts⟩ (mX5_book l T D z (b2 0) (b3 0) (h 0) a (y 0) 0 0 0 0 b1 g.1 g.2.1 g.2.2 hj.1 (nI p2) 3) (cwV 2 hts gL_couples_X5_book rfl rfl rfl pdX5_book ⟨Nat.le_of_ble_eq_true rfl, Nat.le_of_ble_eq_true rfl⟩) (oW_rd hP) hK xN_bl (fun U _ hW => XN_warm hW hX) (ci := 5) rfl rfl rfl hl.1 rfl rfl (Nat.le_of_ble_eq_true rfl) dL_couples_59 ⟨Nat.zero_le _, Nat.zero_le _⟩ (fun r8_ er8_ => ?_)
  obtain rfl : r8_ = (g.2.2 p2) 2 := er8_.trans ((rb hp2 _).trans rfl)
  refine lv_ladd hx hb dL_couples_62 ?_
  refine lv_lstore (lv' := [(9, .long (((g.2.2 p) 2) + ((g.2.2 p2) 2))), (7, .long ((kStored (g.2.1 p)) + (kStored (g.2.1 p2)))), (6, .int (kCap (g.2.1 p2) ((g.2.1 p2) 6))), (5, .int (kCap (g.2.1 p) ((g.2.1 p) 6))), (4, .int ((g.2.1 p2) 7)), (3, .int ((g.2.1 p) 7)), (0, .ref z), (1, .int (nI p)), (2, .int (nI p2))]) hx hb dL_couples_63 hl (by decide) rfl (fun ls hl => ?_)
  refine lv_aload_n hx hb dL_couples_65 rfl (lv_at hl 6 rfl) ?_
  refine lv_bipush (v := 7) hx hb dL_couples_66 (by decide) ?_
  refine callRi (As := [.int 7]) ⟨hx, hb, hml, hown, hts⟩ (mX5_count l T D z (b2 0) (b3 0) a 0 0 0 0 b1 g.1 g.2.1 g.2.2 hj.1 h y n 0 z0 7) (cwV 1 hts gL_couples_X5_count rfl rfl rfl pdX5_count ⟨Nat.le_of_ble_eq_true rfl, Nat.le_of_ble_eq_true rfl⟩) (oW_cn hP) hK xN_bl (fun U _ hW => XN_warm hW hX) (ci := 5) rfl rfl rfl hl.1 rfl rfl (Nat.le_of_ble_eq_true rfl) dL_couples_68 ⟨Nat.zero_le _, Nat.zero_le _⟩ (fun r9_ er9_ => ?_)
  obtain rfl : r9_ = g.1 1 := er9_.trans tC_s.2.2.2.2.2.2.1
  refine lv_istore (lv' := [(11, .int (g.1 1)), (9, .long (((g.2.2 p) 2) + ((g.2.2 p2) 2))), (7, .long ((kStored (g.2.1 p)) + (kStored (g.2.1 p2)))), (6, .int (kCap (g.2.1 p2) ((g.2.1 p2) 6))), (5, .int (kCap (g.2.1 p) ((g.2.1 p) 6))), (4, .int ((g.2.1 p2) 7)), (3, .int ((g.2.1 p) 7)), (0, .ref z), (1, .int (nI p)), (2, .int (nI p2))]) hx hb dL_couples_71 hl (by decide) rfl (fun ls hl => ?_)
  have hJ98 : ∀ (f9 : Int32) (ls : Array Slot), (bz f9 ((g.2.1 p) 9 = 0 ∧ (g.2.1 p2) 9 = 0)) → lv_has ls 17 [(11, .int (g.1 1)), (9, .long (((g.2.2 p) 2) + ((g.2.2 p2) 2))), (7, .long ((kStored (g.2.1 p)) + (kStored (g.2.1 p2)))), (6, .int (kCap (g.2.1 p2) ((g.2.1 p2) 6))), (5, .int (kCap (g.2.1 p) ((g.2.1 p) 6))), (4, .int ((g.2.1 p2) 7)), (3, .int ((g.2.1 p) 7)), (0, .ref z), (1, .int (nI p)), (2, .int (nI p2))] → W p_ l e rmL_couples s m args below meth c H locs 0 0 Q (F0 m 98 ls [.int f9]) := by
    intro f9 ls hf9 hl
    refine lv_istore (lv' := [(12, .int f9), (11, .int (g.1 1)), (9, .long (((g.2.2 p) 2) + ((g.2.2 p2) 2))), (7, .long ((kStored (g.2.1 p)) + (kStored (g.2.1 p2)))), (6, .int (kCap (g.2.1 p2) ((g.2.1 p2) 6))), (5, .int (kCap (g.2.1 p) ((g.2.1 p) 6))), (4, .int ((g.2.1 p2) 7)), (3, .int ((g.2.1 p) 7)), (0, .ref z), (1, .int (nI p)), (2, .int (nI p2))]) hx hb dL_couples_98 hl (by decide) rfl (fun ls hl => ?_)
    refine lv_aload_n hx hb dL_couples_100 rfl (lv_at hl 8 rfl) ?_
    refine lv_iload_n hx hb dL_couples_101 rfl (lv_at hl 9 rfl) ?_
    refine lv_iload_n hx hb dL_couples_102 rfl (lv_at hl 10 rfl) ?_
    have hP := fP4.mp hP
    have hD := fD4.mp hD
    refine callMi (As := [.int (nI p), .int (nI p2)]) (wr := fl [sgW T b3 sg0, plW T a q V G, siZ T y]) ⟨hx, hb, hml, hown, hts⟩ (mX5_couple l T D z b1 b2 (b3 0) a (y 0) 0 0 0 0 h d n σ g gb hn hj.1 (nI p) (nI p2)) (cwV 2 hts gL_couples_X5_couple rfl rfl rfl pdX5_couple ⟨Nat.le_of_ble_eq_true rfl, Nat.le_of_ble_eq_true rfl⟩) hP hD hK hS hA xN_bl (fun U _ hW => XN_warm hW hX) (ci := 5) rfl rfl rfl hl.1 rfl rfl (Nat.le_of_ble_eq_true rfl) dL_couples_103 ⟨Nat.zero_le _, Nat.zero_le _⟩ (fun r10_ u11_ H locs eu11_ hP hD hS hkf => ?_)
    obtain ⟨g11, q11⟩ := u11_
    obtain ⟨er11, eq11⟩ := eu11_
    have eg11 : g11 = (oCouple (nI p) (nI p2) g).2 := congrArg Prod.fst eq11
    have eq11 : q11 = if 0 ≤ (oCouple (nI p) (nI p2) g).1 then (hiD n d, rcN n, hiS n σ g) else (d, n, σ) := congrArg Prod.snd eq11
    have hP : va_P D vwCl (oW T z b1 b2 b3 h a q y q11.1 q11.2.1 q11.2.2 g11 g V G) H := fP4.mpr hP
    have hD : va_D A (oW T z b1 b2 b3 h a q y q11.1 q11.2.1 q11.2.2 g11 g V G) := fD4.mpr hD
    have hn11 : q11.2.1 ≤ 4 := qn_le hn eq11
    have hO : r10_ = (oCouple (nI p) (nI p2) g).1 := er11
    have hj1 : jOk c0 g11 := by rw [eg11]; exact (aOk_couple hj hp hp2).2
    refine lv_istore (lv' := [(13, .int r10_), (12, .int f9), (11, .int (g.1 1)), (9, .long (((g.2.2 p) 2) + ((g.2.2 p2) 2))), (7, .long ((kStored (g.2.1 p)) + (kStored (g.2.1 p2)))), (6, .int (kCap (g.2.1 p2) ((g.2.1 p2) 6))), (5, .int (kCap (g.2.1 p) ((g.2.1 p) 6))), (4, .int ((g.2.1 p2) 7)), (3, .int ((g.2.1 p) 7)), (0, .ref z), (1, .int (nI p)), (2, .int (nI p2))]) hx hb dL_couples_106 hl (by decide) rfl (fun ls hl => ?_)
    refine lv_iload hx hb dL_couples_108 (lv_at hl 0 rfl) ?_
    refine lv_if_ge (tgt := 199) hx hb dL_couples_110 (by decide) (fun c110 => ?_) (fun c110 => ?_)
    · skip
      have hps : 0 ≤ (oCouple (nI p) (nI p2) g).1 := by rw [← hO]; exact c110
      obtain ⟨hne, hof, hch, hst⟩ := cp_pos hj.1 hp hp2 hps
      have hr : r10_ = kMine (g.2.1 p) (g.2.1 p2) := by rw [hO, hst]
      have hnq : ¬ p2 = p := fun z => hne z.symm
      have e1 : g11.2.1 p = upd (g.2.1 p) 7 (kMine (g.2.1 p) (g.2.1 p2)) := by rw [eg11, hst]; show va_up (va_up g.2.1 p _) p2 _ p = _; rw [up_n hne, up_0]
      have e2 : g11.2.1 p2 = upd (g.2.1 p2) 7 (kRest (g.2.1 p) (g.2.1 p2)) := by rw [eg11, hst]; exact up_0
      have f1 : g11.2.2 p 2 = g.2.2 p 2 + kHalf (kLoss (g.2.1 p) (g.2.1 p2)) := by rw [eg11, hst]; show va_up (va_up g.2.2 p _) p2 _ p 2 = _; rw [up_n hne, up_0, pk_uLs]
      have f2 : g11.2.2 p2 2 = g.2.2 p2 2 + (kLoss (g.2.1 p) (g.2.1 p2) - kHalf (kLoss (g.2.1 p) (g.2.1 p2))) := by rw [eg11, hst]; show va_up (va_up g.2.2 p _) p2 _ p2 2 = _; rw [up_0, pk_uLs]
      have t1 : g11.1 1 = g.1 1 + 1 := by rw [eg11, hst]; show upd g.1 1 (g.1 1 + 1) 1 = _; exact upd_0
      refine lv_iload_n hx hb dL_couples_199 rfl (lv_at hl 8 rfl) ?_
      refine lv_i2l hx hb dL_couples_200 rfl ?_
      refine lv_iload hx hb dL_couples_201 (lv_at hl 7 rfl) ?_
      refine lv_i2l hx hb dL_couples_203 rfl ?_
      refine lv_ladd hx hb dL_couples_204 ?_
      refine lv_iload hx hb dL_couples_205 (lv_at hl 6 rfl) ?_
      refine lv_i2l hx hb dL_couples_207 rfl ?_
      refine lv_lmul hx hb dL_couples_208 ?_
      refine lv_iload hx hb dL_couples_209 (lv_at hl 6 rfl) ?_
      refine lv_iload hx hb dL_couples_211 (lv_at hl 5 rfl) ?_
      refine lv_iadd hx hb dL_couples_213 ?_
      refine lv_i2l hx hb dL_couples_214 rfl ?_
      refine lv_ldiv hx hb dL_couples_215 (kCap_ne2 (hj.1 p hp) (hj.1 p2 hp2)) ?_
      refine lv_lstore (lv' := [(14, .long ((((Int32.toInt64 ((g.2.1 p) 7)) + (Int32.toInt64 ((g.2.1 p2) 7))) * (Int32.toInt64 (kCap (g.2.1 p) ((g.2.1 p) 6)))) / (Int32.toInt64 ((kCap (g.2.1 p) ((g.2.1 p) 6)) + (kCap (g.2.1 p2) ((g.2.1 p2) 6)))))), (13, .int r10_), (12, .int f9), (11, .int (g.1 1)), (9, .long (((g.2.2 p) 2) + ((g.2.2 p2) 2))), (7, .long ((kStored (g.2.1 p)) + (kStored (g.2.1 p2)))), (6, .int (kCap (g.2.1 p2) ((g.2.1 p2) 6))), (5, .int (kCap (g.2.1 p) ((g.2.1 p) 6))), (4, .int ((g.2.1 p2) 7)), (3, .int ((g.2.1 p) 7)), (0, .ref z), (1, .int (nI p)), (2, .int (nI p2))]) hx hb dL_couples_216 hl (by decide) rfl (fun ls hl => ?_)
      refine lv_iload_n hx hb dL_couples_218 rfl (lv_at hl 11 rfl) ?_
      refine lv_iload_n hx hb dL_couples_219 rfl (lv_at hl 12 rfl) ?_
      refine lv_icmp_eq (tgt := 276) hx hb dL_couples_220 (by decide) (fun c220 => ?_) (fun c220 => ?_)
      · skip
        exact absurd c220 (fun z => hne ((nI_eq (a := p) (b := p2) (by omega) (by omega)).mp z))
      · skip
        refine lv_iload hx hb dL_couples_223 (lv_at hl 2 rfl) ?_
        refine lv_if_eq (tgt := 276) hx hb dL_couples_225 (by decide) (fun c225 => ?_) (fun c225 => ?_)
        · skip
          exact absurd c225 (fun z => bz_0 hf9 z hof)
        · skip
          refine lv_iload hx hb dL_couples_228 (lv_at hl 1 rfl) ?_
          refine lv_i2l hx hb dL_couples_230 rfl ?_
          refine lv_lload hx hb dL_couples_231 (lv_at hl 0 rfl) ?_
          refine W.lcmp hx hb dL_couples_233 ?_
          refine lv_tpi (z := 0) (lc_0 (by rw [hr]; exact due_is (hj.1 p hp) (hj.1 p2 hp2))) ?_
          refine lv_if_ne (tgt := 276) hx hb dL_couples_234 (by decide) (fun c234 => ?_) (fun c234 => ?_)
          · skip
            exact absurd c234 (by decide)
          · skip
            refine lv_aload_n hx hb dL_couples_237 rfl (lv_at hl 10 rfl) ?_
            refine lv_iload_n hx hb dL_couples_238 rfl (lv_at hl 11 rfl) ?_
            refine lv_bipush (v := 8) hx hb dL_couples_239 (by decide) ?_
            refine callRi (As := [.int (nI p), .int 8]) ⟨hx, hb, hml, hown, hts⟩ (mX5_pair l T D z (b2 0) (b3 0) (h 0) a (y 0) 0 0 0 0 b1 g11.1 g11.2.1 g11.2.2 hj1.1 (nI p) 8) (cwV 2 hts gL_couples_X5_pair rfl rfl rfl pdX5_pair ⟨Nat.le_of_ble_eq_true rfl, Nat.le_of_ble_eq_true rfl⟩) (oW_rd hP) hK xN_bl (fun U _ hW => XN_warm hW hX) (ci := 5) rfl rfl rfl hl.1 rfl rfl (Nat.le_of_ble_eq_true rfl) dL_couples_241 ⟨Nat.zero_le _, Nat.zero_le _⟩ (fun r13_ er13_ => ?_)
            obtain rfl : r13_ = (g11.2.1 p) 7 := er13_.trans ((rp hp _).trans rfl)
            refine lv_iload hx hb dL_couples_244 (lv_at hl 1 rfl) ?_
            refine lv_icmp_ne (tgt := 276) hx hb dL_couples_246 (by decide) (fun c246 => ?_) (fun c246 => ?_)
            · skip
              exact absurd c246 (fun z => z (by rw [e1, upd_0, hr]))
            · skip
              refine lv_aload_n hx hb dL_couples_249 rfl (lv_at hl 10 rfl) ?_
              refine lv_iload_n hx hb dL_couples_250 rfl (lv_at hl 12 rfl) ?_
              refine lv_bipush (v := 8) hx hb dL_couples_251 (by decide) ?_
              refine callRi (As := [.int (nI p2), .int 8]) ⟨hx, hb, hml, hown, hts⟩ (mX5_pair l T D z (b2 0) (b3 0) (h 0) a (y 0) 0 0 0 0 b1 g11.1 g11.2.1 g11.2.2 hj1.1 (nI p2) 8) (cwV 2 hts gL_couples_X5_pair rfl rfl rfl pdX5_pair ⟨Nat.le_of_ble_eq_true rfl, Nat.le_of_ble_eq_true rfl⟩) (oW_rd hP) hK xN_bl (fun U _ hW => XN_warm hW hX) (ci := 5) rfl rfl rfl hl.1 rfl rfl (Nat.le_of_ble_eq_true rfl) dL_couples_253 ⟨Nat.zero_le _, Nat.zero_le _⟩ (fun r14_ er14_ => ?_)
              obtain rfl : r14_ = (g11.2.1 p2) 7 := er14_.trans ((rp hp2 _).trans rfl)
              refine lv_iload_n hx hb dL_couples_256 rfl (lv_at hl 9 rfl) ?_
              refine lv_iload hx hb dL_couples_257 (lv_at hl 8 rfl) ?_
              refine lv_iadd hx hb dL_couples_259 ?_
              refine lv_iload hx hb dL_couples_260 (lv_at hl 1 rfl) ?_
              refine lv_isub hx hb dL_couples_262 ?_
              refine lv_icmp_ne (tgt := 276) hx hb dL_couples_263 (by decide) (fun c263 => ?_) (fun c263 => ?_)
              · skip
                exact absurd c263 (fun z => z (by rw [e2, upd_0, hr]; exact rest_is _ _))
              · skip
                refine lv_iload hx hb dL_couples_266 (lv_at hl 1 rfl) ?_
                refine lv_iload_n hx hb dL_couples_268 rfl (lv_at hl 9 rfl) ?_
                refine lv_icmp_eq (tgt := 276) hx hb dL_couples_269 (by decide) (fun c269 => ?_) (fun c269 => ?_)
                · skip
                  exact absurd c269 (fun z => hch (hr.symm.trans z))
                · skip
                  refine lv_iconst (v := 1) hx hb dL_couples_272 (by decide) ?_
                  refine lv_goto (tgt := 277) hx hb dL_couples_273 (by decide) ?_
                  refine lv_istore (lv' := [(16, .int 1), (14, .long ((((Int32.toInt64 ((g.2.1 p) 7)) + (Int32.toInt64 ((g.2.1 p2) 7))) * (Int32.toInt64 (kCap (g.2.1 p) ((g.2.1 p) 6)))) / (Int32.toInt64 ((kCap (g.2.1 p) ((g.2.1 p) 6)) + (kCap (g.2.1 p2) ((g.2.1 p2) 6)))))), (13, .int r10_), (12, .int f9), (11, .int (g.1 1)), (9, .long (((g.2.2 p) 2) + ((g.2.2 p2) 2))), (7, .long ((kStored (g.2.1 p)) + (kStored (g.2.1 p2)))), (6, .int (kCap (g.2.1 p2) ((g.2.1 p2) 6))), (5, .int (kCap (g.2.1 p) ((g.2.1 p) 6))), (4, .int ((g.2.1 p2) 7)), (3, .int ((g.2.1 p) 7)), (0, .ref z), (1, .int (nI p)), (2, .int (nI p2))]) hx hb dL_couples_277 hl (by decide) rfl (fun ls hl => ?_)
                  refine lv_iload hx hb dL_couples_279 (lv_at hl 0 rfl) ?_
                  refine lv_if_eq (tgt := 324) hx hb dL_couples_281 (by decide) (fun c281 => ?_) (fun c281 => ?_)
                  · skip
                    exact absurd c281 (by decide)
                  · skip
                    refine lv_aload_n hx hb dL_couples_284 rfl (lv_at hl 11 rfl) ?_
                    refine lv_iload_n hx hb dL_couples_285 rfl (lv_at hl 12 rfl) ?_
                    refine lv_iconst (v := 3) hx hb dL_couples_286 (by decide) ?_
                    refine callRl (As := [.int (nI p), .int 3]) ⟨hx, hb, hml, hown, hts⟩ (mX5_book l T D z (b2 0) (b3 0) (h 0) a (y 0) 0 0 0 0 b1 g11.1 g11.2.1 g11.2.2 hj1.1 (nI p) 3) (cwV 2 hts gL_couples_X5_book rfl rfl rfl pdX5_book ⟨Nat.le_of_ble_eq_true rfl, Nat.le_of_ble_eq_true rfl⟩) (oW_rd hP) hK xN_bl (fun U _ hW => XN_warm hW hX) (ci := 5) rfl rfl rfl hl.1 rfl rfl (Nat.le_of_ble_eq_true rfl) dL_couples_287 ⟨Nat.zero_le _, Nat.zero_le _⟩ (fun r15_ er15_ => ?_)
                    obtain rfl : r15_ = (g11.2.2 p) 2 := er15_.trans ((rb hp _).trans rfl)
                    refine lv_aload_n hx hb dL_couples_290 rfl (lv_at hl 11 rfl) ?_
                    refine lv_iload_n hx hb dL_couples_291 rfl (lv_at hl 13 rfl) ?_
                    refine lv_iconst (v := 3) hx hb dL_couples_292 (by decide) ?_
                    refine callRl (As := [.int (nI p2), .int 3]) ⟨hx, hb, hml, hown, hts⟩ (mX5_book l T D z (b2 0) (b3 0) (h 0) a (y 0) 0 0 0 0 b1 g11.1 g11.2.1 g11.2.2 hj1.1 (nI p2) 3) (cwV 2 hts gL_couples_X5_book rfl rfl rfl pdX5_book ⟨Nat.le_of_ble_eq_true rfl, Nat.le_of_ble_eq_true rfl⟩) (oW_rd hP) hK xN_bl (fun U _ hW => XN_warm hW hX) (ci := 5) rfl rfl rfl hl.1 rfl rfl (Nat.le_of_ble_eq_true rfl) dL_couples_293 ⟨Nat.zero_le _, Nat.zero_le _⟩ (fun r16_ er16_ => ?_)
                    obtain rfl : r16_ = (g11.2.2 p2) 2 := er16_.trans ((rb hp2 _).trans rfl)
                    refine lv_ladd hx hb dL_couples_296 ?_
                    refine lv_lload hx hb dL_couples_297 (lv_at hl 5 rfl) ?_
                    refine lv_lsub hx hb dL_couples_299 ?_
                    refine lv_lload hx hb dL_couples_300 (lv_at hl 6 rfl) ?_
                    refine lv_aload_n hx hb dL_couples_302 rfl (lv_at hl 11 rfl) ?_
                    refine lv_iload_n hx hb dL_couples_303 rfl (lv_at hl 12 rfl) ?_
                    refine lv_iconst (v := 0) hx hb dL_couples_304 (by decide) ?_
                    refine callRl (As := [.int (nI p), .int 0]) ⟨hx, hb, hml, hown, hts⟩ (mX5_book l T D z (b2 0) (b3 0) (h 0) a (y 0) 0 0 0 0 b1 g11.1 g11.2.1 g11.2.2 hj1.1 (nI p) 0) (cwV 2 hts gL_couples_X5_book rfl rfl rfl pdX5_book ⟨Nat.le_of_ble_eq_true rfl, Nat.le_of_ble_eq_true rfl⟩) (oW_rd hP) hK xN_bl (fun U _ hW => XN_warm hW hX) (ci := 5) rfl rfl rfl hl.1 rfl rfl (Nat.le_of_ble_eq_true rfl) dL_couples_305 ⟨Nat.zero_le _, Nat.zero_le _⟩ (fun r17_ er17_ => ?_)
                    obtain rfl : r17_ = kStored (g11.2.1 p) := er17_.trans ((rb hp _).trans rfl)
                    refine lv_lsub hx hb dL_couples_308 ?_
                    refine lv_aload_n hx hb dL_couples_309 rfl (lv_at hl 11 rfl) ?_
                    refine lv_iload_n hx hb dL_couples_310 rfl (lv_at hl 13 rfl) ?_
                    refine lv_iconst (v := 0) hx hb dL_couples_311 (by decide) ?_
                    refine callRl (As := [.int (nI p2), .int 0]) ⟨hx, hb, hml, hown, hts⟩ (mX5_book l T D z (b2 0) (b3 0) (h 0) a (y 0) 0 0 0 0 b1 g11.1 g11.2.1 g11.2.2 hj1.1 (nI p2) 0) (cwV 2 hts gL_couples_X5_book rfl rfl rfl pdX5_book ⟨Nat.le_of_ble_eq_true rfl, Nat.le_of_ble_eq_true rfl⟩) (oW_rd hP) hK xN_bl (fun U _ hW => XN_warm hW hX) (ci := 5) rfl rfl rfl hl.1 rfl rfl (Nat.le_of_ble_eq_true rfl) dL_couples_312 ⟨Nat.zero_le _, Nat.zero_le _⟩ (fun r18_ er18_ => ?_)
                    obtain rfl : r18_ = kStored (g11.2.1 p2) := er18_.trans ((rb hp2 _).trans rfl)
                    refine lv_lsub hx hb dL_couples_315 ?_
                    refine W.lcmp hx hb dL_couples_316 ?_
                    refine lv_tpi (z := 0) (lc_0 (by rw [f1, f2, e1, e2]; exact loss_id _ _ _ _ _ _ _ _ rfl)) ?_
                    refine lv_if_ne (tgt := 324) hx hb dL_couples_317 (by decide) (fun c317 => ?_) (fun c317 => ?_)
                    · skip
                      exact absurd c317 (by decide)
                    · skip
                      refine lv_iconst (v := 1) hx hb dL_couples_320 (by decide) ?_
                      refine lv_goto (tgt := 325) hx hb dL_couples_321 (by decide) ?_
                      refine lv_istore (lv' := [(16, .int 1), (14, .long ((((Int32.toInt64 ((g.2.1 p) 7)) + (Int32.toInt64 ((g.2.1 p2) 7))) * (Int32.toInt64 (kCap (g.2.1 p) ((g.2.1 p) 6)))) / (Int32.toInt64 ((kCap (g.2.1 p) ((g.2.1 p) 6)) + (kCap (g.2.1 p2) ((g.2.1 p2) 6)))))), (13, .int r10_), (12, .int f9), (11, .int (g.1 1)), (9, .long (((g.2.2 p) 2) + ((g.2.2 p2) 2))), (7, .long ((kStored (g.2.1 p)) + (kStored (g.2.1 p2)))), (6, .int (kCap (g.2.1 p2) ((g.2.1 p2) 6))), (5, .int (kCap (g.2.1 p) ((g.2.1 p) 6))), (4, .int ((g.2.1 p2) 7)), (3, .int ((g.2.1 p) 7)), (0, .ref z), (1, .int (nI p)), (2, .int (nI p2))]) hx hb dL_couples_325 hl (by decide) rfl (fun ls hl => ?_)
                      refine lv_iload hx hb dL_couples_327 (lv_at hl 0 rfl) ?_
                      refine lv_if_eq (tgt := 350) hx hb dL_couples_329 (by decide) (fun c329 => ?_) (fun c329 => ?_)
                      · skip
                        exact absurd c329 (by decide)
                      · skip
                        refine lv_aload_n hx hb dL_couples_332 rfl (lv_at hl 11 rfl) ?_
                        refine lv_bipush (v := 7) hx hb dL_couples_333 (by decide) ?_
                        refine callRi (As := [.int 7]) ⟨hx, hb, hml, hown, hts⟩ (mX5_count l T D z (b2 0) (b3 0) a 0 0 0 0 b1 g11.1 g11.2.1 g11.2.2 hj1.1 h y q11.2.1 0 z0 7) (cwV 1 hts gL_couples_X5_count rfl rfl rfl pdX5_count ⟨Nat.le_of_ble_eq_true rfl, Nat.le_of_ble_eq_true rfl⟩) (oW_cn hP) hK xN_bl (fun U _ hW => XN_warm hW hX) (ci := 5) rfl rfl rfl hl.1 rfl rfl (Nat.le_of_ble_eq_true rfl) dL_couples_335 ⟨Nat.zero_le _, Nat.zero_le _⟩ (fun r19_ er19_ => ?_)
                        obtain rfl : r19_ = g11.1 1 := er19_.trans tC_s.2.2.2.2.2.2.1
                        refine lv_iload hx hb dL_couples_338 (lv_at hl 4 rfl) ?_
                        refine lv_iconst (v := 1) hx hb dL_couples_340 (by decide) ?_
                        refine lv_iadd hx hb dL_couples_341 ?_
                        refine lv_icmp_ne (tgt := 350) hx hb dL_couples_342 (by decide) (fun c342 => ?_) (fun c342 => ?_)
                        · skip
                          exact absurd c342 (fun z => z (t1))
                        · skip
                          refine lv_iload hx hb dL_couples_345 (lv_at hl 2 rfl) ?_
                          refine lv_goto (tgt := 353) hx hb dL_couples_347 (by decide) ?_
                          exact hret _ _ _ ((q11.1, q11.2.1, q11.2.2), (g11, g), V, G) _ _ dL_couples_353 hS hP hD (⟨hO, eg11, qn_is eq11⟩)
    · skip
      have hng : ¬ 0 ≤ (oCouple (nI p) (nI p2) g).1 := fun z => c110 (by rw [hO]; exact z)
      have hgg := cp_neg hj.1 hp hp2 hng
      refine lv_iload_n hx hb dL_couples_113 rfl (lv_at hl 10 rfl) ?_
      refine lv_iload_n hx hb dL_couples_114 rfl (lv_at hl 11 rfl) ?_
      refine lv_icmp_ne (tgt := 133) hx hb dL_couples_115 (by decide) (fun c115 => ?_) (fun c115 => ?_)
      · skip
        have hpq : ¬ p = p2 := fun z => c115 ((nI_eq (a := p) (b := p2) (by omega) (by omega)).mpr z)
        refine lv_iload hx hb dL_couples_133 (lv_at hl 1 rfl) ?_
        refine lv_if_ne (tgt := 153) hx hb dL_couples_135 (by decide) (fun c135 => ?_) (fun c135 => ?_)
        · skip
          refine lv_iload hx hb dL_couples_153 (lv_at hl 0 rfl) ?_
          refine lv_bipush (v := (-5)) hx hb dL_couples_155 (by decide) ?_
          refine lv_icmp_eq (tgt := 167) hx hb dL_couples_157 (by decide) (fun c157 => ?_) (fun c157 => ?_)
          · skip
            refine lv_iconst (v := 1) hx hb dL_couples_167 (by decide) ?_
            refine lv_goto (tgt := 172) hx hb dL_couples_168 (by decide) ?_
            refine lv_istore (lv' := [(14, .int 1), (13, .int r10_), (12, .int f9), (11, .int (g.1 1)), (9, .long (((g.2.2 p) 2) + ((g.2.2 p2) 2))), (7, .long ((kStored (g.2.1 p)) + (kStored (g.2.1 p2)))), (6, .int (kCap (g.2.1 p2) ((g.2.1 p2) 6))), (5, .int (kCap (g.2.1 p) ((g.2.1 p) 6))), (4, .int ((g.2.1 p2) 7)), (3, .int ((g.2.1 p) 7)), (0, .ref z), (1, .int (nI p)), (2, .int (nI p2))]) hx hb dL_couples_172 hl (by decide) rfl (fun ls hl => ?_)
            refine lv_iload hx hb dL_couples_174 (lv_at hl 0 rfl) ?_
            refine lv_if_eq (tgt := 195) hx hb dL_couples_176 (by decide) (fun c176 => ?_) (fun c176 => ?_)
            · skip
              exact absurd c176 (by decide)
            · skip
              refine lv_aload_n hx hb dL_couples_179 rfl (lv_at hl 10 rfl) ?_
              refine lv_bipush (v := 7) hx hb dL_couples_180 (by decide) ?_
              refine callRi (As := [.int 7]) ⟨hx, hb, hml, hown, hts⟩ (mX5_count l T D z (b2 0) (b3 0) a 0 0 0 0 b1 g11.1 g11.2.1 g11.2.2 hj1.1 h y q11.2.1 0 z0 7) (cwV 1 hts gL_couples_X5_count rfl rfl rfl pdX5_count ⟨Nat.le_of_ble_eq_true rfl, Nat.le_of_ble_eq_true rfl⟩) (oW_cn hP) hK xN_bl (fun U _ hW => XN_warm hW hX) (ci := 5) rfl rfl rfl hl.1 rfl rfl (Nat.le_of_ble_eq_true rfl) dL_couples_182 ⟨Nat.zero_le _, Nat.zero_le _⟩ (fun r20_ er20_ => ?_)
              obtain rfl : r20_ = g11.1 1 := er20_.trans tC_s.2.2.2.2.2.2.1
              refine lv_iload hx hb dL_couples_185 (lv_at hl 3 rfl) ?_
              refine lv_icmp_ne (tgt := 195) hx hb dL_couples_187 (by decide) (fun c187 => ?_) (fun c187 => ?_)
              · skip
                exact absurd c187 (fun z => z (by rw [eg11, hgg]))
              · skip
                refine lv_iload hx hb dL_couples_190 (lv_at hl 1 rfl) ?_
                refine lv_goto (tgt := 198) hx hb dL_couples_192 (by decide) ?_
                exact hret _ _ _ ((q11.1, q11.2.1, q11.2.2), (g11, g), V, G) _ _ dL_couples_198 hS hP hD (⟨hO, eg11, qn_is eq11⟩)
          · skip
            refine lv_iload hx hb dL_couples_160 (lv_at hl 0 rfl) ?_
            refine lv_bipush (v := (-3)) hx hb dL_couples_162 (by decide) ?_
            refine lv_icmp_ne (tgt := 171) hx hb dL_couples_164 (by decide) (fun c164 => ?_) (fun c164 => ?_)
            · skip
              exact absurd c164 (fun z => z (hO.trans (cp_3 hj.1 hp hp2 hpq (bz_n0 hf9 c135) hng (fun z => c157 (hO.trans z)))))
            · skip
              refine lv_iconst (v := 1) hx hb dL_couples_167 (by decide) ?_
              refine lv_goto (tgt := 172) hx hb dL_couples_168 (by decide) ?_
              refine lv_istore (lv' := [(14, .int 1), (13, .int r10_), (12, .int f9), (11, .int (g.1 1)), (9, .long (((g.2.2 p) 2) + ((g.2.2 p2) 2))), (7, .long ((kStored (g.2.1 p)) + (kStored (g.2.1 p2)))), (6, .int (kCap (g.2.1 p2) ((g.2.1 p2) 6))), (5, .int (kCap (g.2.1 p) ((g.2.1 p) 6))), (4, .int ((g.2.1 p2) 7)), (3, .int ((g.2.1 p) 7)), (0, .ref z), (1, .int (nI p)), (2, .int (nI p2))]) hx hb dL_couples_172 hl (by decide) rfl (fun ls hl => ?_)
              refine lv_iload hx hb dL_couples_174 (lv_at hl 0 rfl) ?_
              refine lv_if_eq (tgt := 195) hx hb dL_couples_176 (by decide) (fun c176 => ?_) (fun c176 => ?_)
              · skip
                exact absurd c176 (by decide)
              · skip
                refine lv_aload_n hx hb dL_couples_179 rfl (lv_at hl 10 rfl) ?_
                refine lv_bipush (v := 7) hx hb dL_couples_180 (by decide) ?_
                refine callRi (As := [.int 7]) ⟨hx, hb, hml, hown, hts⟩ (mX5_count l T D z (b2 0) (b3 0) a 0 0 0 0 b1 g11.1 g11.2.1 g11.2.2 hj1.1 h y q11.2.1 0 z0 7) (cwV 1 hts gL_couples_X5_count rfl rfl rfl pdX5_count ⟨Nat.le_of_ble_eq_true rfl, Nat.le_of_ble_eq_true rfl⟩) (oW_cn hP) hK xN_bl (fun U _ hW => XN_warm hW hX) (ci := 5) rfl rfl rfl hl.1 rfl rfl (Nat.le_of_ble_eq_true rfl) dL_couples_182 ⟨Nat.zero_le _, Nat.zero_le _⟩ (fun r21_ er21_ => ?_)
                obtain rfl : r21_ = g11.1 1 := er21_.trans tC_s.2.2.2.2.2.2.1
                refine lv_iload hx hb dL_couples_185 (lv_at hl 3 rfl) ?_
                refine lv_icmp_ne (tgt := 195) hx hb dL_couples_187 (by decide) (fun c187 => ?_) (fun c187 => ?_)
                · skip
                  exact absurd c187 (fun z => z (by rw [eg11, hgg]))
                · skip
                  refine lv_iload hx hb dL_couples_190 (lv_at hl 1 rfl) ?_
                  refine lv_goto (tgt := 198) hx hb dL_couples_192 (by decide) ?_
                  exact hret _ _ _ ((q11.1, q11.2.1, q11.2.2), (g11, g), V, G) _ _ dL_couples_198 hS hP hD (⟨hO, eg11, qn_is eq11⟩)
        · skip
          refine lv_iload hx hb dL_couples_138 (lv_at hl 0 rfl) ?_
          refine lv_bipush (v := (-4)) hx hb dL_couples_140 (by decide) ?_
          refine lv_icmp_ne (tgt := 149) hx hb dL_couples_142 (by decide) (fun c142 => ?_) (fun c142 => ?_)
          · skip
            exact absurd c142 (fun z => z (hO.trans (cp_on hj.1 hp hp2 hpq (bz_0 hf9 c135))))
          · skip
            refine lv_iconst (v := 1) hx hb dL_couples_145 (by decide) ?_
            refine lv_goto (tgt := 172) hx hb dL_couples_146 (by decide) ?_
            refine lv_istore (lv' := [(14, .int 1), (13, .int r10_), (12, .int f9), (11, .int (g.1 1)), (9, .long (((g.2.2 p) 2) + ((g.2.2 p2) 2))), (7, .long ((kStored (g.2.1 p)) + (kStored (g.2.1 p2)))), (6, .int (kCap (g.2.1 p2) ((g.2.1 p2) 6))), (5, .int (kCap (g.2.1 p) ((g.2.1 p) 6))), (4, .int ((g.2.1 p2) 7)), (3, .int ((g.2.1 p) 7)), (0, .ref z), (1, .int (nI p)), (2, .int (nI p2))]) hx hb dL_couples_172 hl (by decide) rfl (fun ls hl => ?_)
            refine lv_iload hx hb dL_couples_174 (lv_at hl 0 rfl) ?_
            refine lv_if_eq (tgt := 195) hx hb dL_couples_176 (by decide) (fun c176 => ?_) (fun c176 => ?_)
            · skip
              exact absurd c176 (by decide)
            · skip
              refine lv_aload_n hx hb dL_couples_179 rfl (lv_at hl 10 rfl) ?_
              refine lv_bipush (v := 7) hx hb dL_couples_180 (by decide) ?_
              refine callRi (As := [.int 7]) ⟨hx, hb, hml, hown, hts⟩ (mX5_count l T D z (b2 0) (b3 0) a 0 0 0 0 b1 g11.1 g11.2.1 g11.2.2 hj1.1 h y q11.2.1 0 z0 7) (cwV 1 hts gL_couples_X5_count rfl rfl rfl pdX5_count ⟨Nat.le_of_ble_eq_true rfl, Nat.le_of_ble_eq_true rfl⟩) (oW_cn hP) hK xN_bl (fun U _ hW => XN_warm hW hX) (ci := 5) rfl rfl rfl hl.1 rfl rfl (Nat.le_of_ble_eq_true rfl) dL_couples_182 ⟨Nat.zero_le _, Nat.zero_le _⟩ (fun r22_ er22_ => ?_)
              obtain rfl : r22_ = g11.1 1 := er22_.trans tC_s.2.2.2.2.2.2.1
              refine lv_iload hx hb dL_couples_185 (lv_at hl 3 rfl) ?_
              refine lv_icmp_ne (tgt := 195) hx hb dL_couples_187 (by decide) (fun c187 => ?_) (fun c187 => ?_)
              · skip
                exact absurd c187 (fun z => z (by rw [eg11, hgg]))
              · skip
                refine lv_iload hx hb dL_couples_190 (lv_at hl 1 rfl) ?_
                refine lv_goto (tgt := 198) hx hb dL_couples_192 (by decide) ?_
                exact hret _ _ _ ((q11.1, q11.2.1, q11.2.2), (g11, g), V, G) _ _ dL_couples_198 hS hP hD (⟨hO, eg11, qn_is eq11⟩)
      · skip
        have hpq : p = p2 := (nI_eq (a := p) (b := p2) (by omega) (by omega)).mp c115
        refine lv_iload hx hb dL_couples_118 (lv_at hl 0 rfl) ?_
        refine lv_bipush (v := (-2)) hx hb dL_couples_120 (by decide) ?_
        refine lv_icmp_ne (tgt := 129) hx hb dL_couples_122 (by decide) (fun c122 => ?_) (fun c122 => ?_)
        · skip
          exact absurd c122 (fun z => z (hO.trans (cp_eq hp hp2 hpq)))
        · skip
          refine lv_iconst (v := 1) hx hb dL_couples_125 (by decide) ?_
          refine lv_goto (tgt := 172) hx hb dL_couples_126 (by decide) ?_
          refine lv_istore (lv' := [(14, .int 1), (13, .int r10_), (12, .int f9), (11, .int (g.1 1)), (9, .long (((g.2.2 p) 2) + ((g.2.2 p2) 2))), (7, .long ((kStored (g.2.1 p)) + (kStored (g.2.1 p2)))), (6, .int (kCap (g.2.1 p2) ((g.2.1 p2) 6))), (5, .int (kCap (g.2.1 p) ((g.2.1 p) 6))), (4, .int ((g.2.1 p2) 7)), (3, .int ((g.2.1 p) 7)), (0, .ref z), (1, .int (nI p)), (2, .int (nI p2))]) hx hb dL_couples_172 hl (by decide) rfl (fun ls hl => ?_)
          refine lv_iload hx hb dL_couples_174 (lv_at hl 0 rfl) ?_
          refine lv_if_eq (tgt := 195) hx hb dL_couples_176 (by decide) (fun c176 => ?_) (fun c176 => ?_)
          · skip
            exact absurd c176 (by decide)
          · skip
            refine lv_aload_n hx hb dL_couples_179 rfl (lv_at hl 10 rfl) ?_
            refine lv_bipush (v := 7) hx hb dL_couples_180 (by decide) ?_
            refine callRi (As := [.int 7]) ⟨hx, hb, hml, hown, hts⟩ (mX5_count l T D z (b2 0) (b3 0) a 0 0 0 0 b1 g11.1 g11.2.1 g11.2.2 hj1.1 h y q11.2.1 0 z0 7) (cwV 1 hts gL_couples_X5_count rfl rfl rfl pdX5_count ⟨Nat.le_of_ble_eq_true rfl, Nat.le_of_ble_eq_true rfl⟩) (oW_cn hP) hK xN_bl (fun U _ hW => XN_warm hW hX) (ci := 5) rfl rfl rfl hl.1 rfl rfl (Nat.le_of_ble_eq_true rfl) dL_couples_182 ⟨Nat.zero_le _, Nat.zero_le _⟩ (fun r23_ er23_ => ?_)
            obtain rfl : r23_ = g11.1 1 := er23_.trans tC_s.2.2.2.2.2.2.1
            refine lv_iload hx hb dL_couples_185 (lv_at hl 3 rfl) ?_
            refine lv_icmp_ne (tgt := 195) hx hb dL_couples_187 (by decide) (fun c187 => ?_) (fun c187 => ?_)
            · skip
              exact absurd c187 (fun z => z (by rw [eg11, hgg]))
            · skip
              refine lv_iload hx hb dL_couples_190 (lv_at hl 1 rfl) ?_
              refine lv_goto (tgt := 198) hx hb dL_couples_192 (by decide) ?_
              exact hret _ _ _ ((q11.1, q11.2.1, q11.2.2), (g11, g), V, G) _ _ dL_couples_198 hS hP hD (⟨hO, eg11, qn_is eq11⟩)
  refine lv_aload_n hx hb dL_couples_73 rfl (lv_at hl 7 rfl) ?_
  refine lv_iload_n hx hb dL_couples_74 rfl (lv_at hl 8 rfl) ?_
  refine lv_bipush (v := 10) hx hb dL_couples_75 (by decide) ?_
  refine callRi (As := [.int (nI p), .int 10]) ⟨hx, hb, hml, hown, hts⟩ (mX5_pair l T D z (b2 0) (b3 0) (h 0) a (y 0) 0 0 0 0 b1 g.1 g.2.1 g.2.2 hj.1 (nI p) 10) (cwV 2 hts gL_couples_X5_pair rfl rfl rfl pdX5_pair ⟨Nat.le_of_ble_eq_true rfl, Nat.le_of_ble_eq_true rfl⟩) (oW_rd hP) hK xN_bl (fun U _ hW => XN_warm hW hX) (ci := 5) rfl rfl rfl hl.1 rfl rfl (Nat.le_of_ble_eq_true rfl) dL_couples_77 ⟨Nat.zero_le _, Nat.zero_le _⟩ (fun r24_ er24_ => ?_)
  obtain rfl : r24_ = (g.2.1 p) 9 := er24_.trans ((rp hp _).trans rfl)
  refine lv_if_ne (tgt := 97) hx hb dL_couples_80 (by decide) (fun c80 => ?_) (fun c80 => ?_)
  · skip
    refine lv_iconst (v := 0) hx hb dL_couples_97 (by decide) ?_
    exact hJ98 0 ls (Or.inl ⟨rfl, fun z => c80 z.1⟩) hl
  · skip
    refine lv_aload_n hx hb dL_couples_83 rfl (lv_at hl 7 rfl) ?_
    refine lv_iload_n hx hb dL_couples_84 rfl (lv_at hl 9 rfl) ?_
    refine lv_bipush (v := 10) hx hb dL_couples_85 (by decide) ?_
    refine callRi (As := [.int (nI p2), .int 10]) ⟨hx, hb, hml, hown, hts⟩ (mX5_pair l T D z (b2 0) (b3 0) (h 0) a (y 0) 0 0 0 0 b1 g.1 g.2.1 g.2.2 hj.1 (nI p2) 10) (cwV 2 hts gL_couples_X5_pair rfl rfl rfl pdX5_pair ⟨Nat.le_of_ble_eq_true rfl, Nat.le_of_ble_eq_true rfl⟩) (oW_rd hP) hK xN_bl (fun U _ hW => XN_warm hW hX) (ci := 5) rfl rfl rfl hl.1 rfl rfl (Nat.le_of_ble_eq_true rfl) dL_couples_87 ⟨Nat.zero_le _, Nat.zero_le _⟩ (fun r25_ er25_ => ?_)
    obtain rfl : r25_ = (g.2.1 p2) 9 := er25_.trans ((rp hp2 _).trans rfl)
    refine lv_if_ne (tgt := 97) hx hb dL_couples_90 (by decide) (fun c90 => ?_) (fun c90 => ?_)
    · skip
      refine lv_iconst (v := 0) hx hb dL_couples_97 (by decide) ?_
      exact hJ98 0 ls (Or.inl ⟨rfl, fun z => c90 z.2⟩) hl
    · skip
      refine lv_iconst (v := 1) hx hb dL_couples_93 (by decide) ?_
      refine lv_goto (tgt := 98) hx hb dL_couples_94 (by decide) ?_
      exact hJ98 1 ls (Or.inr ⟨rfl, c80, c90⟩) hl

