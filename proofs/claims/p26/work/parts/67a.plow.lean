theorem pdL_low : yL_low.cls = RL ∧ yL_low.cls ≠ "java/lang/invoke/MethodHandle" ∧ yL_low.cls ≠ "java/lang/invoke/VarHandle" ∧ (parseMethodDescriptor yL_low.desc).map (fun d => d.parameters.length) = some 2 := by decide +kernel
theorem pdL_size : yL_size.cls = RL ∧ yL_size.cls ≠ "java/lang/invoke/MethodHandle" ∧ yL_size.cls ≠ "java/lang/invoke/VarHandle" ∧ (parseMethodDescriptor yL_size.desc).map (fun d => d.parameters.length) = some 1 := by decide +kernel
theorem pdL_cell : yL_cell.cls = RL ∧ yL_cell.cls ≠ "java/lang/invoke/MethodHandle" ∧ yL_cell.cls ≠ "java/lang/invoke/VarHandle" ∧ (parseMethodDescriptor yL_cell.desc).map (fun d => d.parameters.length) = some 2 := by decide +kernel
theorem pdL_isPair : yL_isPair.cls = RL ∧ yL_isPair.cls ≠ "java/lang/invoke/MethodHandle" ∧ yL_isPair.cls ≠ "java/lang/invoke/VarHandle" ∧ (parseMethodDescriptor yL_isPair.desc).map (fun d => d.parameters.length) = some 2 := by decide +kernel
theorem pdL_holds : yL_holds.cls = RL ∧ yL_holds.cls ≠ "java/lang/invoke/MethodHandle" ∧ yL_holds.cls ≠ "java/lang/invoke/VarHandle" ∧ (parseMethodDescriptor yL_holds.desc).map (fun d => d.parameters.length) = some 1 := by decide +kernel
theorem pdL_couples : yL_couples.cls = RL ∧ yL_couples.cls ≠ "java/lang/invoke/MethodHandle" ∧ yL_couples.cls ≠ "java/lang/invoke/VarHandle" ∧ (parseMethodDescriptor yL_couples.desc).map (fun d => d.parameters.length) = some 3 := by decide +kernel
theorem pdL_act : yL_act.cls = RL ∧ yL_act.cls ≠ "java/lang/invoke/MethodHandle" ∧ yL_act.cls ≠ "java/lang/invoke/VarHandle" ∧ (parseMethodDescriptor yL_act.desc).map (fun d => d.parameters.length) = some 4 := by decide +kernel
theorem pdL_moves : yL_moves.cls = RL ∧ yL_moves.cls ≠ "java/lang/invoke/MethodHandle" ∧ yL_moves.cls ≠ "java/lang/invoke/VarHandle" ∧ (parseMethodDescriptor yL_moves.desc).map (fun d => d.parameters.length) = some 3 := by decide +kernel
theorem pdL_draws : yL_draws.cls = RL ∧ yL_draws.cls ≠ "java/lang/invoke/MethodHandle" ∧ yL_draws.cls ≠ "java/lang/invoke/VarHandle" ∧ (parseMethodDescriptor yL_draws.desc).map (fun d => d.parameters.length) = some 3 := by decide +kernel
theorem pdL_tries : yL_tries.cls = RL ∧ yL_tries.cls ≠ "java/lang/invoke/MethodHandle" ∧ yL_tries.cls ≠ "java/lang/invoke/VarHandle" ∧ (parseMethodDescriptor yL_tries.desc).map (fun d => d.parameters.length) = some 2 := by decide +kernel
def rmL_low : Room := { frames := 0, cells := 0, slots := 0, locals := 0 }
set_option maxHeartbeats 4000000 in
set_option maxRecDepth 100000 in
theorem mL_low (l : Launch) (T : Nat → ClassId) (D : va_G) (v n : Int32) (hn : ¬ n = 0) : RdI l yL_low wsL_low rmL_low T xN D [.int v, .int n] [] (fun r => r = lowI v n) := by
  refine met_ri (cc := cL_low) (maxL := 2) (by decide) rfl (Nat.le_of_ble_eq_true rfl) ?_
  intro p_ e s m args below meth c H ls Q hx hb hts hown hml hX hH hP hK hl hret
  have hl : lv_has ls 2 [(0, .int v), (1, .int n)] := hl
  refine lv_iload_n hx hb dL_low_0 rfl (lv_at hl 0 rfl) ?_
  refine lv_ldc (v := 2147483647) hx hb hown (hts (.constant RL 8 (2147483647)) (List.mem_of_getElem? (i := 1) rfl)) dL_low_1 ?_
  refine lv_iand hx hb dL_low_3 ?_
  refine lv_iload_n hx hb dL_low_4 rfl (lv_at hl 1 rfl) ?_
  refine lv_irem hx hb dL_low_5 (hn) ?_
  exact hret _ _ _ dL_low_6 rfl

def rmL_size : Room := { frames := 0, cells := 0, slots := 0, locals := 0 }
set_option maxHeartbeats 4000000 in
set_option maxRecDepth 100000 in
theorem mL_size (l : Launch) (T : Nat → ClassId) (D : va_G) (v : Int32) : RdI l yL_size wsL_size rmL_size T xN D [.int v] [] (fun r => r = kSize v) := by
  refine met_ri (cc := cL_size) (maxL := 1) (by decide) rfl (Nat.le_of_ble_eq_true rfl) ?_
  intro p_ e s m args below meth c H ls Q hx hb hts hown hml hX hH hP hK hl hret
  have hl : lv_has ls 1 [(0, .int v)] := hl
  refine lv_iload_n hx hb dL_size_0 rfl (lv_at hl 0 rfl) ?_
  refine lv_if_ge (tgt := 9) hx hb dL_size_1 (by decide) (fun c1 => ?_) (fun c1 => ?_)
  · skip
    refine lv_iload_n hx hb dL_size_9 rfl (lv_at hl 0 rfl) ?_
    exact hret _ _ _ dL_size_10 (by rw [kSize, if_neg (Int32.not_lt.mpr c1)])
  · skip
    refine lv_iload_n hx hb dL_size_4 rfl (lv_at hl 0 rfl) ?_
    refine lv_ineg hx hb dL_size_5 ?_
    refine lv_goto (tgt := 10) hx hb dL_size_6 (by decide) ?_
    exact hret _ _ _ dL_size_10 (by rw [kSize, if_pos (Int32.not_le.mp c1)])

def rmL_isPair : Room := { frames := 5, cells := 0, slots := 0, locals := 109 }
set_option maxHeartbeats 4000000 in
set_option maxRecDepth 100000 in
theorem mL_isPair (l : Launch) (T : Nat → ClassId) (D : va_G) (z : Nat) (b1 b2 b3 h : Nat → Nat) (a q : Nat) (y : Nat → Nat) (d : Nat → Nat → Nat) (n : Nat) (σ : Nat → SG) (g gb : SG) (V : Nat → Int32) (G : Nat → Int64) (c0 : Nat) (hj : jOk c0 g) (p : Nat) (hp : p < 4) : RdI l yL_isPair wsL_isPair rmL_isPair T xN D [.ref z, .int (nI p)] (oW T z b1 b2 b3 h a q y d n σ g gb V G) (fun r => r = 1) := by
  refine met_rz (cc := cL_isPair) (maxL := 21) (by decide) rfl (Nat.le_of_ble_eq_true rfl) (fun r h => Or.inr h) ?_
  intro p_ e s m args below meth c H ls Q hx hb hts hown hml hX hH hP hK hl hret
  have hl : lv_has ls 21 [(0, .ref z), (1, .int (nI p))] := hl
  refine lv_aload_n hx hb dL_isPair_0 rfl (lv_at hl 0 rfl) ?_
  refine lv_iload_n hx hb dL_isPair_1 rfl (lv_at hl 1 rfl) ?_
  refine lv_iconst (v := 0) hx hb dL_isPair_2 (by decide) ?_
  refine callRi (As := [.int (nI p), .int 0]) ⟨hx, hb, hml, hown, hts⟩ (mX5_pair l T D z (b2 0) (b3 0) (h 0) a (y 0) 0 0 0 0 b1 g.1 g.2.1 g.2.2 hj.1 (nI p) 0) (cwV 2 hts gL_isPair_X5_pair rfl rfl rfl pdX5_pair ⟨Nat.le_of_ble_eq_true rfl, Nat.le_of_ble_eq_true rfl⟩) (oW_rd hP) hK xN_bl (fun U _ hW => XN_warm hW hX) (ci := 5) rfl rfl rfl hl.1 rfl rfl (Nat.le_of_ble_eq_true rfl) dL_isPair_3 ⟨Nat.zero_le _, Nat.zero_le _⟩ (fun r1_ er1_ => ?_)
  obtain rfl : r1_ = (g.2.1 p) 0 := er1_.trans ((rp hp _).trans rfl)
  refine lv_istore_n (lv' := [(2, .int ((g.2.1 p) 0)), (0, .ref z), (1, .int (nI p))]) hx hb dL_isPair_6 rfl hl (by decide) rfl (fun ls hl => ?_)
  refine lv_aload_n hx hb dL_isPair_7 rfl (lv_at hl 1 rfl) ?_
  refine lv_iload_n hx hb dL_isPair_8 rfl (lv_at hl 2 rfl) ?_
  refine lv_iconst (v := 1) hx hb dL_isPair_9 (by decide) ?_
  refine callRi (As := [.int (nI p), .int 1]) ⟨hx, hb, hml, hown, hts⟩ (mX5_pair l T D z (b2 0) (b3 0) (h 0) a (y 0) 0 0 0 0 b1 g.1 g.2.1 g.2.2 hj.1 (nI p) 1) (cwV 2 hts gL_isPair_X5_pair rfl rfl rfl pdX5_pair ⟨Nat.le_of_ble_eq_true rfl, Nat.le_of_ble_eq_true rfl⟩) (oW_rd hP) hK xN_bl (fun U _ hW => XN_warm hW hX) (ci := 5) rfl rfl rfl hl.1 rfl rfl (Nat.le_of_ble_eq_true rfl) dL_isPair_10 ⟨Nat.zero_le _, Nat.zero_le _⟩ (fun r2_ er2_ => ?_)
  obtain rfl : r2_ = (g.2.1 p) 1 := er2_.trans ((rp hp _).trans rfl)
  refine lv_istore_n (lv' := [(3, .int ((g.2.1 p) 1)), (2, .int ((g.2.1 p) 0)), (0, .ref z), (1, .int (nI p))]) hx hb dL_isPair_13 rfl hl (by decide) rfl (fun ls hl => ?_)
  refine lv_aload_n hx hb dL_isPair_14 rfl (lv_at hl 2 rfl) ?_
  refine lv_iload_n hx hb dL_isPair_15 rfl (lv_at hl 3 rfl) ?_
  refine lv_bipush (v := 6) hx hb dL_isPair_16 (by decide) ?_
  refine callRi (As := [.int (nI p), .int 6]) ⟨hx, hb, hml, hown, hts⟩ (mX5_pair l T D z (b2 0) (b3 0) (h 0) a (y 0) 0 0 0 0 b1 g.1 g.2.1 g.2.2 hj.1 (nI p) 6) (cwV 2 hts gL_isPair_X5_pair rfl rfl rfl pdX5_pair ⟨Nat.le_of_ble_eq_true rfl, Nat.le_of_ble_eq_true rfl⟩) (oW_rd hP) hK xN_bl (fun U _ hW => XN_warm hW hX) (ci := 5) rfl rfl rfl hl.1 rfl rfl (Nat.le_of_ble_eq_true rfl) dL_isPair_18 ⟨Nat.zero_le _, Nat.zero_le _⟩ (fun r3_ er3_ => ?_)
  obtain rfl : r3_ = (g.2.1 p) 6 := er3_.trans ((rp hp _).trans rfl)
  refine lv_istore (lv' := [(4, .int ((g.2.1 p) 6)), (3, .int ((g.2.1 p) 1)), (2, .int ((g.2.1 p) 0)), (0, .ref z), (1, .int (nI p))]) hx hb dL_isPair_21 hl (by decide) rfl (fun ls hl => ?_)
  refine lv_iload_n hx hb dL_isPair_23 rfl (lv_at hl 2 rfl) ?_
  refine lv_bipush (v := 40) hx hb dL_isPair_24 (by decide) ?_
  refine lv_iload_n hx hb dL_isPair_26 rfl (lv_at hl 1 rfl) ?_
  refine lv_iconst (v := 1) hx hb dL_isPair_27 (by decide) ?_
  refine lv_isub hx hb dL_isPair_28 ?_
  refine lv_iload hx hb dL_isPair_29 (lv_at hl 0 rfl) ?_
  refine lv_imul hx hb dL_isPair_31 ?_
  refine lv_iadd hx hb dL_isPair_32 ?_
  refine lv_imul hx hb dL_isPair_33 ?_
  refine lv_tpi (z := kCap (g.2.1 p) ((g.2.1 p) 6)) (rfl) ?_
  refine lv_istore (lv' := [(5, .int (kCap (g.2.1 p) ((g.2.1 p) 6))), (4, .int ((g.2.1 p) 6)), (3, .int ((g.2.1 p) 1)), (2, .int ((g.2.1 p) 0)), (0, .ref z), (1, .int (nI p))]) hx hb dL_isPair_34 hl (by decide) rfl (fun ls hl => ?_)
  refine lv_aload_n hx hb dL_isPair_36 rfl (lv_at hl 4 rfl) ?_
  refine lv_iload_n hx hb dL_isPair_37 rfl (lv_at hl 5 rfl) ?_
  refine lv_bipush (v := 8) hx hb dL_isPair_38 (by decide) ?_
  refine callRi (As := [.int (nI p), .int 8]) ⟨hx, hb, hml, hown, hts⟩ (mX5_pair l T D z (b2 0) (b3 0) (h 0) a (y 0) 0 0 0 0 b1 g.1 g.2.1 g.2.2 hj.1 (nI p) 8) (cwV 2 hts gL_isPair_X5_pair rfl rfl rfl pdX5_pair ⟨Nat.le_of_ble_eq_true rfl, Nat.le_of_ble_eq_true rfl⟩) (oW_rd hP) hK xN_bl (fun U _ hW => XN_warm hW hX) (ci := 5) rfl rfl rfl hl.1 rfl rfl (Nat.le_of_ble_eq_true rfl) dL_isPair_40 ⟨Nat.zero_le _, Nat.zero_le _⟩ (fun r4_ er4_ => ?_)
  obtain rfl : r4_ = (g.2.1 p) 7 := er4_.trans ((rp hp _).trans rfl)
  refine lv_i2l hx hb dL_isPair_43 rfl ?_
  refine lv_lstore (lv' := [(6, .long (Int32.toInt64 ((g.2.1 p) 7))), (5, .int (kCap (g.2.1 p) ((g.2.1 p) 6))), (4, .int ((g.2.1 p) 6)), (3, .int ((g.2.1 p) 1)), (2, .int ((g.2.1 p) 0)), (0, .ref z), (1, .int (nI p))]) hx hb dL_isPair_44 hl (by decide) rfl (fun ls hl => ?_)
  refine lv_aload_n hx hb dL_isPair_46 rfl (lv_at hl 5 rfl) ?_
  refine lv_iload_n hx hb dL_isPair_47 rfl (lv_at hl 6 rfl) ?_
  refine lv_bipush (v := 9) hx hb dL_isPair_48 (by decide) ?_
  refine callRi (As := [.int (nI p), .int 9]) ⟨hx, hb, hml, hown, hts⟩ (mX5_pair l T D z (b2 0) (b3 0) (h 0) a (y 0) 0 0 0 0 b1 g.1 g.2.1 g.2.2 hj.1 (nI p) 9) (cwV 2 hts gL_isPair_X5_pair rfl rfl rfl pdX5_pair ⟨Nat.le_of_ble_eq_true rfl, Nat.le_of_ble_eq_true rfl⟩) (oW_rd hP) hK xN_bl (fun U _ hW => XN_warm hW hX) (ci := 5) rfl rfl rfl hl.1 rfl rfl (Nat.le_of_ble_eq_true rfl) dL_isPair_50 ⟨Nat.zero_le _, Nat.zero_le _⟩ (fun r5_ er5_ => ?_)
  obtain rfl : r5_ = (g.2.1 p) 8 := er5_.trans ((rp hp _).trans rfl)
  refine lv_istore (lv' := [(8, .int ((g.2.1 p) 8)), (6, .long (Int32.toInt64 ((g.2.1 p) 7))), (5, .int (kCap (g.2.1 p) ((g.2.1 p) 6))), (4, .int ((g.2.1 p) 6)), (3, .int ((g.2.1 p) 1)), (2, .int ((g.2.1 p) 0)), (0, .ref z), (1, .int (nI p))]) hx hb dL_isPair_53 hl (by decide) rfl (fun ls hl => ?_)
  refine lv_aload_n hx hb dL_isPair_55 rfl (lv_at hl 6 rfl) ?_
  refine lv_iload_n hx hb dL_isPair_56 rfl (lv_at hl 7 rfl) ?_
  refine lv_bipush (v := 10) hx hb dL_isPair_57 (by decide) ?_
  refine callRi (As := [.int (nI p), .int 10]) ⟨hx, hb, hml, hown, hts⟩ (mX5_pair l T D z (b2 0) (b3 0) (h 0) a (y 0) 0 0 0 0 b1 g.1 g.2.1 g.2.2 hj.1 (nI p) 10) (cwV 2 hts gL_isPair_X5_pair rfl rfl rfl pdX5_pair ⟨Nat.le_of_ble_eq_true rfl, Nat.le_of_ble_eq_true rfl⟩) (oW_rd hP) hK xN_bl (fun U _ hW => XN_warm hW hX) (ci := 5) rfl rfl rfl hl.1 rfl rfl (Nat.le_of_ble_eq_true rfl) dL_isPair_59 ⟨Nat.zero_le _, Nat.zero_le _⟩ (fun r6_ er6_ => ?_)
  obtain rfl : r6_ = (g.2.1 p) 9 := er6_.trans ((rp hp _).trans rfl)
  refine lv_iconst (v := 1) hx hb dL_isPair_62 (by decide) ?_
  refine lv_icmp_ne (tgt := 70) hx hb dL_isPair_63 (by decide) (fun c63 => ?_) (fun c63 => ?_)
  · skip
    refine lv_iconst (v := 0) hx hb dL_isPair_70 (by decide) ?_
    refine lv_istore (lv' := [(9, .int 0), (8, .int ((g.2.1 p) 8)), (6, .long (Int32.toInt64 ((g.2.1 p) 7))), (5, .int (kCap (g.2.1 p) ((g.2.1 p) 6))), (4, .int ((g.2.1 p) 6)), (3, .int ((g.2.1 p) 1)), (2, .int ((g.2.1 p) 0)), (0, .ref z), (1, .int (nI p))]) hx hb dL_isPair_71 hl (by decide) rfl (fun ls hl => ?_)
    refine lv_iload hx hb dL_isPair_73 (lv_at hl 0 rfl) ?_
    refine lv_if_eq (tgt := 93) hx hb dL_isPair_75 (by decide) (fun c75 => ?_) (fun c75 => ?_)
    · skip
      refine lv_iload_n hx hb dL_isPair_93 rfl (lv_at hl 6 rfl) ?_
      refine lv_iload_n hx hb dL_isPair_94 rfl (lv_at hl 5 rfl) ?_
      refine lv_iconst (v := 1) hx hb dL_isPair_95 (by decide) ?_
      refine lv_isub hx hb dL_isPair_96 ?_
      refine lv_imul hx hb dL_isPair_97 ?_
      refine lv_i2l hx hb dL_isPair_98 rfl ?_
      refine lv_lload hx hb dL_isPair_99 (lv_at hl 2 rfl) ?_
      refine lv_lmul hx hb dL_isPair_101 ?_
      refine lv_lload hx hb dL_isPair_102 (lv_at hl 2 rfl) ?_
      refine lv_lmul hx hb dL_isPair_104 ?_
      refine lv_iload hx hb dL_isPair_105 (lv_at hl 3 rfl) ?_
      refine lv_i2l hx hb dL_isPair_107 rfl ?_
      refine lv_iload hx hb dL_isPair_108 (lv_at hl 3 rfl) ?_
      refine lv_i2l hx hb dL_isPair_110 rfl ?_
      refine lv_lmul hx hb dL_isPair_111 ?_
      refine lv_ldiv hx hb dL_isPair_112 (kCap_nn (hj.1 p hp) (kOk_d (hj.1 p hp))) ?_
      refine lv_tpl (z := kP64 (g.2.1 p) ((g.2.1 p) 6)) (p64_off c63 _) ?_
      refine lv_lstore (lv' := [(10, .long (kP64 (g.2.1 p) ((g.2.1 p) 6))), (9, .int 0), (8, .int ((g.2.1 p) 8)), (6, .long (Int32.toInt64 ((g.2.1 p) 7))), (5, .int (kCap (g.2.1 p) ((g.2.1 p) 6))), (4, .int ((g.2.1 p) 6)), (3, .int ((g.2.1 p) 1)), (2, .int ((g.2.1 p) 0)), (0, .ref z), (1, .int (nI p))]) hx hb dL_isPair_113 hl (by decide) rfl (fun ls hl => ?_)
      refine lv_aload_n hx hb dL_isPair_115 rfl (lv_at hl 8 rfl) ?_
      refine lv_iload_n hx hb dL_isPair_116 rfl (lv_at hl 9 rfl) ?_
      refine lv_iconst (v := 2) hx hb dL_isPair_117 (by decide) ?_
      refine callRi (As := [.int (nI p), .int 2]) ⟨hx, hb, hml, hown, hts⟩ (mX5_pair l T D z (b2 0) (b3 0) (h 0) a (y 0) 0 0 0 0 b1 g.1 g.2.1 g.2.2 hj.1 (nI p) 2) (cwV 2 hts gL_isPair_X5_pair rfl rfl rfl pdX5_pair ⟨Nat.le_of_ble_eq_true rfl, Nat.le_of_ble_eq_true rfl⟩) (oW_rd hP) hK xN_bl (fun U _ hW => XN_warm hW hX) (ci := 5) rfl rfl rfl hl.1 rfl rfl (Nat.le_of_ble_eq_true rfl) dL_isPair_118 ⟨Nat.zero_le _, Nat.zero_le _⟩ (fun r7_ er7_ => ?_)
      obtain rfl : r7_ = (g.2.1 p) 2 := er7_.trans ((rp hp _).trans rfl)
      refine lv_iload hx hb dL_isPair_121 (lv_at hl 5 rfl) ?_
      refine lv_aload_n hx hb dL_isPair_123 rfl (lv_at hl 8 rfl) ?_
      refine lv_iload_n hx hb dL_isPair_124 rfl (lv_at hl 9 rfl) ?_
      refine lv_iconst (v := 3) hx hb dL_isPair_125 (by decide) ?_
      refine callRi (As := [.int (nI p), .int 3]) ⟨hx, hb, hml, hown, hts⟩ (mX5_pair l T D z (b2 0) (b3 0) (h 0) a (y 0) 0 0 0 0 b1 g.1 g.2.1 g.2.2 hj.1 (nI p) 3) (cwV 2 hts gL_isPair_X5_pair rfl rfl rfl pdX5_pair ⟨Nat.le_of_ble_eq_true rfl, Nat.le_of_ble_eq_true rfl⟩) (oW_rd hP) hK xN_bl (fun U _ hW => XN_warm hW hX) (ci := 5) rfl rfl rfl hl.1 rfl rfl (Nat.le_of_ble_eq_true rfl) dL_isPair_126 ⟨Nat.zero_le _, Nat.zero_le _⟩ (fun r8_ er8_ => ?_)
      obtain rfl : r8_ = (g.2.1 p) 3 := er8_.trans ((rp hp _).trans rfl)
      refine lv_isub hx hb dL_isPair_129 ?_
      refine lv_imul hx hb dL_isPair_130 ?_
      refine lv_tpi (z := kSpring (g.2.1 p) ((g.2.1 p) 6)) (rfl) ?_
      refine lv_istore (lv' := [(12, .int (kSpring (g.2.1 p) ((g.2.1 p) 6))), (10, .long (kP64 (g.2.1 p) ((g.2.1 p) 6))), (9, .int 0), (8, .int ((g.2.1 p) 8)), (6, .long (Int32.toInt64 ((g.2.1 p) 7))), (5, .int (kCap (g.2.1 p) ((g.2.1 p) 6))), (4, .int ((g.2.1 p) 6)), (3, .int ((g.2.1 p) 1)), (2, .int ((g.2.1 p) 0)), (0, .ref z), (1, .int (nI p))]) hx hb dL_isPair_131 hl (by decide) rfl (fun ls hl => ?_)
      refine lv_lload hx hb dL_isPair_133 (lv_at hl 1 rfl) ?_
      refine lv_l2i hx hb dL_isPair_135 rfl ?_
      refine lv_tpi (z := kPullAt (g.2.1 p) ((g.2.1 p) 6) ((g.2.1 p) 7)) (p64_32 _ _) ?_
      refine lv_iload hx hb dL_isPair_136 (lv_at hl 0 rfl) ?_
      refine lv_isub hx hb dL_isPair_138 ?_
      refine lv_tpi (z := kNet (g.2.1 p)) (rfl) ?_
      refine lv_istore (lv' := [(13, .int (kNet (g.2.1 p))), (12, .int (kSpring (g.2.1 p) ((g.2.1 p) 6))), (10, .long (kP64 (g.2.1 p) ((g.2.1 p) 6))), (9, .int 0), (8, .int ((g.2.1 p) 8)), (6, .long (Int32.toInt64 ((g.2.1 p) 7))), (5, .int (kCap (g.2.1 p) ((g.2.1 p) 6))), (4, .int ((g.2.1 p) 6)), (3, .int ((g.2.1 p) 1)), (2, .int ((g.2.1 p) 0)), (0, .ref z), (1, .int (nI p))]) hx hb dL_isPair_139 hl (by decide) rfl (fun ls hl => ?_)
      have hJ227 : ∀ (w9 : Int32) (ls : Array Slot), (w9 = kWhy (g.2.1 p)) → lv_has ls 21 [(13, .int (kNet (g.2.1 p))), (12, .int (kSpring (g.2.1 p) ((g.2.1 p) 6))), (10, .long (kP64 (g.2.1 p) ((g.2.1 p) 6))), (9, .int 0), (8, .int ((g.2.1 p) 8)), (6, .long (Int32.toInt64 ((g.2.1 p) 7))), (5, .int (kCap (g.2.1 p) ((g.2.1 p) 6))), (4, .int ((g.2.1 p) 6)), (3, .int ((g.2.1 p) 1)), (2, .int ((g.2.1 p) 0)), (0, .ref z), (1, .int (nI p))] → W p_ l e rmL_isPair s m args below meth c H [] 0 0 Q (F0 m 227 ls [.int w9]) := by
        intro w9 ls hw hl
        refine lv_istore (lv' := [(14, .int w9), (13, .int (kNet (g.2.1 p))), (12, .int (kSpring (g.2.1 p) ((g.2.1 p) 6))), (10, .long (kP64 (g.2.1 p) ((g.2.1 p) 6))), (9, .int 0), (8, .int ((g.2.1 p) 8)), (6, .long (Int32.toInt64 ((g.2.1 p) 7))), (5, .int (kCap (g.2.1 p) ((g.2.1 p) 6))), (4, .int ((g.2.1 p) 6)), (3, .int ((g.2.1 p) 1)), (2, .int ((g.2.1 p) 0)), (0, .ref z), (1, .int (nI p))]) hx hb dL_isPair_227 hl (by decide) rfl (fun ls hl => ?_)
        refine lv_aload_n hx hb dL_isPair_229 rfl (lv_at hl 11 rfl) ?_
        refine lv_iload_n hx hb dL_isPair_230 rfl (lv_at hl 12 rfl) ?_
        refine lv_bipush (v := 7) hx hb dL_isPair_231 (by decide) ?_
        refine callRi (As := [.int (nI p), .int 7]) ⟨hx, hb, hml, hown, hts⟩ (mX5_pair l T D z (b2 0) (b3 0) (h 0) a (y 0) 0 0 0 0 b1 g.1 g.2.1 g.2.2 hj.1 (nI p) 7) (cwV 2 hts gL_isPair_X5_pair rfl rfl rfl pdX5_pair ⟨Nat.le_of_ble_eq_true rfl, Nat.le_of_ble_eq_true rfl⟩) (oW_rd hP) hK xN_bl (fun U _ hW => XN_warm hW hX) (ci := 5) rfl rfl rfl hl.1 rfl rfl (Nat.le_of_ble_eq_true rfl) dL_isPair_233 ⟨Nat.zero_le _, Nat.zero_le _⟩ (fun r9_ er9_ => ?_)
        obtain rfl : r9_ = kCap (g.2.1 p) ((g.2.1 p) 6) := er9_.trans ((rp hp _).trans rfl)
        refine lv_iload hx hb dL_isPair_236 (lv_at hl 7 rfl) ?_
        refine lv_icmp_ne (tgt := 349) hx hb dL_isPair_238 (by decide) (fun c238 => ?_) (fun c238 => ?_)
        · skip
          exact absurd c238 (fun z => z (rfl))
        · skip
          refine lv_iload hx hb dL_isPair_241 (lv_at hl 4 rfl) ?_
          refine lv_if_eq (tgt := 258) hx hb dL_isPair_243 (by decide) (fun c243 => ?_) (fun c243 => ?_)
          · skip
            refine lv_aload_n hx hb dL_isPair_258 rfl (lv_at hl 11 rfl) ?_
            refine lv_iload_n hx hb dL_isPair_259 rfl (lv_at hl 12 rfl) ?_
            refine lv_iconst (v := 0) hx hb dL_isPair_260 (by decide) ?_
            refine callRl (As := [.int (nI p), .int 0]) ⟨hx, hb, hml, hown, hts⟩ (mX5_book l T D z (b2 0) (b3 0) (h 0) a (y 0) 0 0 0 0 b1 g.1 g.2.1 g.2.2 hj.1 (nI p) 0) (cwV 2 hts gL_isPair_X5_book rfl rfl rfl pdX5_book ⟨Nat.le_of_ble_eq_true rfl, Nat.le_of_ble_eq_true rfl⟩) (oW_rd hP) hK xN_bl (fun U _ hW => XN_warm hW hX) (ci := 5) rfl rfl rfl hl.1 rfl rfl (Nat.le_of_ble_eq_true rfl) dL_isPair_261 ⟨Nat.zero_le _, Nat.zero_le _⟩ (fun r10_ er10_ => ?_)
            obtain rfl : r10_ = kStored (g.2.1 p) := er10_.trans ((rb hp _).trans rfl)
            refine lv_iload hx hb dL_isPair_264 (lv_at hl 4 rfl) ?_
            refine lv_if_eq (tgt := 278) hx hb dL_isPair_266 (by decide) (fun c266 => ?_) (fun c266 => ?_)
            · skip
              refine lv_lload hx hb dL_isPair_278 (lv_at hl 6 rfl) ?_
              refine lv_lload hx hb dL_isPair_280 (lv_at hl 6 rfl) ?_
              refine lv_lmul hx hb dL_isPair_282 ?_
              refine lv_iload hx hb dL_isPair_283 (lv_at hl 7 rfl) ?_
              refine lv_i2l hx hb dL_isPair_285 rfl ?_
              refine lv_ldiv hx hb dL_isPair_286 (kCap_ne (hj.1 p hp) (kOk_d (hj.1 p hp))) ?_
              refine W.lcmp hx hb dL_isPair_287 ?_
              refine lv_tpi (z := 0) (lc_0 (sto_off c63)) ?_
              refine lv_if_ne (tgt := 349) hx hb dL_isPair_288 (by decide) (fun c288 => ?_) (fun c288 => ?_)
              · skip
                exact absurd c288 (by decide)
              · skip
                refine lv_aload_n hx hb dL_isPair_291 rfl (lv_at hl 11 rfl) ?_
                refine lv_iload_n hx hb dL_isPair_292 rfl (lv_at hl 12 rfl) ?_
                refine lv_bipush (v := 11) hx hb dL_isPair_293 (by decide) ?_
                refine callRi (As := [.int (nI p), .int 11]) ⟨hx, hb, hml, hown, hts⟩ (mX5_pair l T D z (b2 0) (b3 0) (h 0) a (y 0) 0 0 0 0 b1 g.1 g.2.1 g.2.2 hj.1 (nI p) 11) (cwV 2 hts gL_isPair_X5_pair rfl rfl rfl pdX5_pair ⟨Nat.le_of_ble_eq_true rfl, Nat.le_of_ble_eq_true rfl⟩) (oW_rd hP) hK xN_bl (fun U _ hW => XN_warm hW hX) (ci := 5) rfl rfl rfl hl.1 rfl rfl (Nat.le_of_ble_eq_true rfl) dL_isPair_295 ⟨Nat.zero_le _, Nat.zero_le _⟩ (fun r11_ er11_ => ?_)
                obtain rfl : r11_ = kPullAt (g.2.1 p) ((g.2.1 p) 6) ((g.2.1 p) 7) := er11_.trans ((rp hp _).trans rfl)
                refine lv_i2l hx hb dL_isPair_298 rfl ?_
                refine lv_lload hx hb dL_isPair_299 (lv_at hl 3 rfl) ?_
                refine W.lcmp hx hb dL_isPair_301 ?_
                refine lv_tpi (z := 0) (lc_0 (p64_64 (hj.1 p hp))) ?_
                refine lv_if_ne (tgt := 349) hx hb dL_isPair_302 (by decide) (fun c302 => ?_) (fun c302 => ?_)
                · skip
                  exact absurd c302 (by decide)
                · skip
                  refine lv_aload_n hx hb dL_isPair_305 rfl (lv_at hl 11 rfl) ?_
                  refine lv_iload_n hx hb dL_isPair_306 rfl (lv_at hl 12 rfl) ?_
                  refine lv_bipush (v := 12) hx hb dL_isPair_307 (by decide) ?_
                  refine callRi (As := [.int (nI p), .int 12]) ⟨hx, hb, hml, hown, hts⟩ (mX5_pair l T D z (b2 0) (b3 0) (h 0) a (y 0) 0 0 0 0 b1 g.1 g.2.1 g.2.2 hj.1 (nI p) 12) (cwV 2 hts gL_isPair_X5_pair rfl rfl rfl pdX5_pair ⟨Nat.le_of_ble_eq_true rfl, Nat.le_of_ble_eq_true rfl⟩) (oW_rd hP) hK xN_bl (fun U _ hW => XN_warm hW hX) (ci := 5) rfl rfl rfl hl.1 rfl rfl (Nat.le_of_ble_eq_true rfl) dL_isPair_309 ⟨Nat.zero_le _, Nat.zero_le _⟩ (fun r12_ er12_ => ?_)
                  obtain rfl : r12_ = kSize (kSpring (g.2.1 p) ((g.2.1 p) 6)) := er12_.trans ((rp hp _).trans rfl)
                  refine lv_iload hx hb dL_isPair_312 (lv_at hl 2 rfl) ?_
                  refine callSi (As := [.int (kSpring (g.2.1 p) ((g.2.1 p) 6))]) ⟨hx, hb, hml, hown, hts⟩ (mL_size l T D (kSpring (g.2.1 p) ((g.2.1 p) 6))) (va_cwS 1 hts gL_isPair_L_size rfl rfl rfl (pdL_size).2 ⟨Nat.le_of_ble_eq_true rfl, Nat.le_of_ble_eq_true rfl⟩) wP_nil hK xN_bl (fun U _ hW => XN_warm hW hX) hl.1 rfl rfl (Nat.le_of_ble_eq_true rfl) dL_isPair_314 ⟨Nat.zero_le _, Nat.zero_le _⟩ (fun r13_ er13_ => ?_)
                  obtain rfl : r13_ = kSize (kSpring (g.2.1 p) ((g.2.1 p) 6)) := er13_
                  refine lv_icmp_ne (tgt := 349) hx hb dL_isPair_317 (by decide) (fun c317 => ?_) (fun c317 => ?_)
                  · skip
                    exact absurd c317 (fun z => z (rfl))
                  · skip
                    refine lv_aload_n hx hb dL_isPair_320 rfl (lv_at hl 11 rfl) ?_
                    refine lv_iload_n hx hb dL_isPair_321 rfl (lv_at hl 12 rfl) ?_
                    refine callRi (As := [.int (nI p)]) ⟨hx, hb, hml, hown, hts⟩ (mX5_reason l T D z (b2 0) (b3 0) (h 0) a (y 0) 0 0 0 0 b1 g.1 g.2.1 g.2.2 hj.1 (nI p)) (cwV 1 hts gL_isPair_X5_reason rfl rfl rfl pdX5_reason ⟨Nat.le_of_ble_eq_true rfl, Nat.le_of_ble_eq_true rfl⟩) (oW_rd hP) hK xN_bl (fun U _ hW => XN_warm hW hX) (ci := 5) rfl rfl rfl hl.1 rfl rfl (Nat.le_of_ble_eq_true rfl) dL_isPair_322 ⟨Nat.zero_le _, Nat.zero_le _⟩ (fun r14_ er14_ => ?_)
                    obtain rfl : r14_ = kWhy (g.2.1 p) := er14_.trans (sP_t hp)
                    refine lv_iload hx hb dL_isPair_325 (lv_at hl 0 rfl) ?_
                    refine lv_icmp_ne (tgt := 349) hx hb dL_isPair_327 (by decide) (fun c327 => ?_) (fun c327 => ?_)
                    · skip
                      exact absurd c327 (fun z => z (hw.symm))
                    · skip
                      refine lv_aload_n hx hb dL_isPair_330 rfl (lv_at hl 11 rfl) ?_
                      refine lv_iload_n hx hb dL_isPair_331 rfl (lv_at hl 12 rfl) ?_
                      refine lv_iload hx hb dL_isPair_332 (lv_at hl 8 rfl) ?_
                      refine callRi (As := [.int (nI p), .int ((g.2.1 p) 6)]) ⟨hx, hb, hml, hown, hts⟩ (mX5_force l T D z (b2 0) (b3 0) (h 0) a (y 0) 0 0 0 0 b1 g.1 g.2.1 g.2.2 hj.1 (nI p) ((g.2.1 p) 6)) (cwV 2 hts gL_isPair_X5_force rfl rfl rfl pdX5_force ⟨Nat.le_of_ble_eq_true rfl, Nat.le_of_ble_eq_true rfl⟩) (oW_rd hP) hK xN_bl (fun U _ hW => XN_warm hW hX) (ci := 5) rfl rfl rfl hl.1 rfl rfl (Nat.le_of_ble_eq_true rfl) dL_isPair_334 ⟨Nat.zero_le _, Nat.zero_le _⟩ (fun r15_ er15_ => ?_)
                      obtain rfl : r15_ = tF (g.2.1 p) ((g.2.1 p) 6) := er15_.trans (sP_t hp)
                      refine lv_iload hx hb dL_isPair_337 (lv_at hl 1 rfl) ?_
                      refine callSi (As := [.int (kNet (g.2.1 p))]) ⟨hx, hb, hml, hown, hts⟩ (mL_size l T D (kNet (g.2.1 p))) (va_cwS 1 hts gL_isPair_L_size rfl rfl rfl (pdL_size).2 ⟨Nat.le_of_ble_eq_true rfl, Nat.le_of_ble_eq_true rfl⟩) wP_nil hK xN_bl (fun U _ hW => XN_warm hW hX) hl.1 rfl rfl (Nat.le_of_ble_eq_true rfl) dL_isPair_339 ⟨Nat.zero_le _, Nat.zero_le _⟩ (fun r16_ er16_ => ?_)
                      obtain rfl : r16_ = kSize (kNet (g.2.1 p)) := er16_
                      refine lv_icmp_ne (tgt := 349) hx hb dL_isPair_342 (by decide) (fun c342 => ?_) (fun c342 => ?_)
                      · skip
                        exact absurd c342 (fun z => z (tF_in _ (kOk_d (hj.1 p hp))))
                      · skip
                        refine lv_iconst (v := 1) hx hb dL_isPair_345 (by decide) ?_
                        refine lv_goto (tgt := 350) hx hb dL_isPair_346 (by decide) ?_
                        refine lv_istore (lv' := [(15, .int 1), (14, .int w9), (13, .int (kNet (g.2.1 p))), (12, .int (kSpring (g.2.1 p) ((g.2.1 p) 6))), (10, .long (kP64 (g.2.1 p) ((g.2.1 p) 6))), (9, .int 0), (8, .int ((g.2.1 p) 8)), (6, .long (Int32.toInt64 ((g.2.1 p) 7))), (5, .int (kCap (g.2.1 p) ((g.2.1 p) 6))), (4, .int ((g.2.1 p) 6)), (3, .int ((g.2.1 p) 1)), (2, .int ((g.2.1 p) 0)), (0, .ref z), (1, .int (nI p))]) hx hb dL_isPair_350 hl (by decide) rfl (fun ls hl => ?_)
                        refine lv_iload hx hb dL_isPair_352 (lv_at hl 0 rfl) ?_
                        refine lv_if_eq (tgt := 409) hx hb dL_isPair_354 (by decide) (fun c354 => ?_) (fun c354 => ?_)
                        · skip
                          exact absurd c354 (by decide)
                        · skip
                          refine lv_aload_n hx hb dL_isPair_357 rfl (lv_at hl 12 rfl) ?_
                          refine lv_iload_n hx hb dL_isPair_358 rfl (lv_at hl 13 rfl) ?_
                          refine lv_iconst (v := 1) hx hb dL_isPair_359 (by decide) ?_
                          refine callRl (As := [.int (nI p), .int 1]) ⟨hx, hb, hml, hown, hts⟩ (mX5_book l T D z (b2 0) (b3 0) (h 0) a (y 0) 0 0 0 0 b1 g.1 g.2.1 g.2.2 hj.1 (nI p) 1) (cwV 2 hts gL_isPair_X5_book rfl rfl rfl pdX5_book ⟨Nat.le_of_ble_eq_true rfl, Nat.le_of_ble_eq_true rfl⟩) (oW_rd hP) hK xN_bl (fun U _ hW => XN_warm hW hX) (ci := 5) rfl rfl rfl hl.1 rfl rfl (Nat.le_of_ble_eq_true rfl) dL_isPair_360 ⟨Nat.zero_le _, Nat.zero_le _⟩ (fun r17_ er17_ => ?_)
                          obtain rfl : r17_ = (g.2.2 p) 0 := er17_.trans ((rb hp _).trans rfl)
                          refine lv_aload_n hx hb dL_isPair_363 rfl (lv_at hl 12 rfl) ?_
                          refine lv_iload_n hx hb dL_isPair_364 rfl (lv_at hl 13 rfl) ?_
                          refine lv_iconst (v := 0) hx hb dL_isPair_365 (by decide) ?_
                          refine callRl (As := [.int (nI p), .int 0]) ⟨hx, hb, hml, hown, hts⟩ (mX5_book l T D z (b2 0) (b3 0) (h 0) a (y 0) 0 0 0 0 b1 g.1 g.2.1 g.2.2 hj.1 (nI p) 0) (cwV 2 hts gL_isPair_X5_book rfl rfl rfl pdX5_book ⟨Nat.le_of_ble_eq_true rfl, Nat.le_of_ble_eq_true rfl⟩) (oW_rd hP) hK xN_bl (fun U _ hW => XN_warm hW hX) (ci := 5) rfl rfl rfl hl.1 rfl rfl (Nat.le_of_ble_eq_true rfl) dL_isPair_366 ⟨Nat.zero_le _, Nat.zero_le _⟩ (fun r18_ er18_ => ?_)
                          obtain rfl : r18_ = kStored (g.2.1 p) := er18_.trans ((rb hp _).trans rfl)
                          refine lv_aload_n hx hb dL_isPair_369 rfl (lv_at hl 12 rfl) ?_
                          refine lv_iload_n hx hb dL_isPair_370 rfl (lv_at hl 13 rfl) ?_
                          refine lv_iconst (v := 2) hx hb dL_isPair_371 (by decide) ?_
                          refine callRl (As := [.int (nI p), .int 2]) ⟨hx, hb, hml, hown, hts⟩ (mX5_book l T D z (b2 0) (b3 0) (h 0) a (y 0) 0 0 0 0 b1 g.1 g.2.1 g.2.2 hj.1 (nI p) 2) (cwV 2 hts gL_isPair_X5_book rfl rfl rfl pdX5_book ⟨Nat.le_of_ble_eq_true rfl, Nat.le_of_ble_eq_true rfl⟩) (oW_rd hP) hK xN_bl (fun U _ hW => XN_warm hW hX) (ci := 5) rfl rfl rfl hl.1 rfl rfl (Nat.le_of_ble_eq_true rfl) dL_isPair_372 ⟨Nat.zero_le _, Nat.zero_le _⟩ (fun r19_ er19_ => ?_)
                          obtain rfl : r19_ = (g.2.2 p) 1 := er19_.trans ((rb hp _).trans rfl)
                          refine lv_ladd hx hb dL_isPair_375 ?_
                          refine lv_aload_n hx hb dL_isPair_376 rfl (lv_at hl 12 rfl) ?_
                          refine lv_iload_n hx hb dL_isPair_377 rfl (lv_at hl 13 rfl) ?_
                          refine lv_iconst (v := 3) hx hb dL_isPair_378 (by decide) ?_
                          refine callRl (As := [.int (nI p), .int 3]) ⟨hx, hb, hml, hown, hts⟩ (mX5_book l T D z (b2 0) (b3 0) (h 0) a (y 0) 0 0 0 0 b1 g.1 g.2.1 g.2.2 hj.1 (nI p) 3) (cwV 2 hts gL_isPair_X5_book rfl rfl rfl pdX5_book ⟨Nat.le_of_ble_eq_true rfl, Nat.le_of_ble_eq_true rfl⟩) (oW_rd hP) hK xN_bl (fun U _ hW => XN_warm hW hX) (ci := 5) rfl rfl rfl hl.1 rfl rfl (Nat.le_of_ble_eq_true rfl) dL_isPair_379 ⟨Nat.zero_le _, Nat.zero_le _⟩ (fun r20_ er20_ => ?_)
                          obtain rfl : r20_ = (g.2.2 p) 2 := er20_.trans ((rb hp _).trans rfl)
                          refine lv_ladd hx hb dL_isPair_382 ?_
                          refine lv_aload_n hx hb dL_isPair_383 rfl (lv_at hl 12 rfl) ?_
                          refine lv_iload_n hx hb dL_isPair_384 rfl (lv_at hl 13 rfl) ?_
                          refine lv_iconst (v := 4) hx hb dL_isPair_385 (by decide) ?_
                          refine callRl (As := [.int (nI p), .int 4]) ⟨hx, hb, hml, hown, hts⟩ (mX5_book l T D z (b2 0) (b3 0) (h 0) a (y 0) 0 0 0 0 b1 g.1 g.2.1 g.2.2 hj.1 (nI p) 4) (cwV 2 hts gL_isPair_X5_book rfl rfl rfl pdX5_book ⟨Nat.le_of_ble_eq_true rfl, Nat.le_of_ble_eq_true rfl⟩) (oW_rd hP) hK xN_bl (fun U _ hW => XN_warm hW hX) (ci := 5) rfl rfl rfl hl.1 rfl rfl (Nat.le_of_ble_eq_true rfl) dL_isPair_386 ⟨Nat.zero_le _, Nat.zero_le _⟩ (fun r21_ er21_ => ?_)
                          obtain rfl : r21_ = ((g.2.2 p) 0 - kStored (g.2.1 p) - (g.2.2 p) 1 - (g.2.2 p) 2) := er21_.trans ((rb hp _).trans rfl)
                          refine lv_ladd hx hb dL_isPair_389 ?_
                          refine W.lcmp hx hb dL_isPair_390 ?_
                          refine lv_tpi (z := 0) (lc_0 (bk_id _ _ _ _)) ?_
                          refine lv_if_ne (tgt := 409) hx hb dL_isPair_391 (by decide) (fun c391 => ?_) (fun c391 => ?_)
                          · skip
                            exact absurd c391 (by decide)
                          · skip
                            refine lv_aload_n hx hb dL_isPair_394 rfl (lv_at hl 12 rfl) ?_
                            refine lv_iload_n hx hb dL_isPair_395 rfl (lv_at hl 13 rfl) ?_
                            refine lv_iconst (v := 2) hx hb dL_isPair_396 (by decide) ?_
                            refine callRl (As := [.int (nI p), .int 2]) ⟨hx, hb, hml, hown, hts⟩ (mX5_book l T D z (b2 0) (b3 0) (h 0) a (y 0) 0 0 0 0 b1 g.1 g.2.1 g.2.2 hj.1 (nI p) 2) (cwV 2 hts gL_isPair_X5_book rfl rfl rfl pdX5_book ⟨Nat.le_of_ble_eq_true rfl, Nat.le_of_ble_eq_true rfl⟩) (oW_rd hP) hK xN_bl (fun U _ hW => XN_warm hW hX) (ci := 5) rfl rfl rfl hl.1 rfl rfl (Nat.le_of_ble_eq_true rfl) dL_isPair_397 ⟨Nat.zero_le _, Nat.zero_le _⟩ (fun r22_ er22_ => ?_)
                            obtain rfl : r22_ = (g.2.2 p) 1 := er22_.trans ((rb hp _).trans rfl)
                            refine lv_lconst (v := 0) hx hb dL_isPair_400 (by decide) ?_
                            refine W.lcmp hx hb dL_isPair_401 ?_
                            refine lv_if_lt (tgt := 409) hx hb dL_isPair_402 (by decide) (fun c402 => ?_) (fun c402 => ?_)
                            · skip
                              exact absurd c402 (lc_nn (hj.2.2.2 p hp).1)
                            · skip
                              refine lv_iconst (v := 1) hx hb dL_isPair_405 (by decide) ?_
                              refine lv_goto (tgt := 410) hx hb dL_isPair_406 (by decide) ?_
                              refine lv_istore (lv' := [(15, .int 1), (14, .int w9), (13, .int (kNet (g.2.1 p))), (12, .int (kSpring (g.2.1 p) ((g.2.1 p) 6))), (10, .long (kP64 (g.2.1 p) ((g.2.1 p) 6))), (9, .int 0), (8, .int ((g.2.1 p) 8)), (6, .long (Int32.toInt64 ((g.2.1 p) 7))), (5, .int (kCap (g.2.1 p) ((g.2.1 p) 6))), (4, .int ((g.2.1 p) 6)), (3, .int ((g.2.1 p) 1)), (2, .int ((g.2.1 p) 0)), (0, .ref z), (1, .int (nI p))]) hx hb dL_isPair_410 hl (by decide) rfl (fun ls hl => ?_)
                              refine lv_iload hx hb dL_isPair_412 (lv_at hl 9 rfl) ?_
                              refine lv_bipush (v := 13) hx hb dL_isPair_414 (by decide) ?_
                              refine lv_iadd hx hb dL_isPair_416 ?_
                              refine lv_bipush (v := 41) hx hb dL_isPair_417 (by decide) ?_
                              obtain ⟨o, ho, eo⟩ := oth_of (kOk_d (hj.1 p hp))
                              refine lv_irem hx hb dL_isPair_419 (by decide) ?_
                              refine lv_tpi (z := nI o) (eo) ?_
                              refine lv_istore (lv' := [(16, .int (nI o)), (15, .int 1), (14, .int w9), (13, .int (kNet (g.2.1 p))), (12, .int (kSpring (g.2.1 p) ((g.2.1 p) 6))), (10, .long (kP64 (g.2.1 p) ((g.2.1 p) 6))), (9, .int 0), (8, .int ((g.2.1 p) 8)), (6, .long (Int32.toInt64 ((g.2.1 p) 7))), (5, .int (kCap (g.2.1 p) ((g.2.1 p) 6))), (4, .int ((g.2.1 p) 6)), (3, .int ((g.2.1 p) 1)), (2, .int ((g.2.1 p) 0)), (0, .ref z), (1, .int (nI p))]) hx hb dL_isPair_420 hl (by decide) rfl (fun ls hl => ?_)
                              refine lv_iload_n hx hb dL_isPair_422 rfl (lv_at hl 12 rfl) ?_
                              refine lv_bipush (v := 40) hx hb dL_isPair_423 (by decide) ?_
                              refine lv_iload_n hx hb dL_isPair_425 rfl (lv_at hl 11 rfl) ?_
                              refine lv_iconst (v := 1) hx hb dL_isPair_426 (by decide) ?_
                              refine lv_isub hx hb dL_isPair_427 ?_
                              refine lv_iload hx hb dL_isPair_428 (lv_at hl 0 rfl) ?_
                              refine lv_imul hx hb dL_isPair_430 ?_
                              refine lv_iadd hx hb dL_isPair_431 ?_
                              refine lv_imul hx hb dL_isPair_432 ?_
                              refine lv_tpi (z := kCap (g.2.1 p) (nI o)) (rfl) ?_
                              refine lv_i2l hx hb dL_isPair_433 rfl ?_
                              refine lv_lstore (lv' := [(17, .long (Int32.toInt64 (kCap (g.2.1 p) (nI o)))), (16, .int (nI o)), (15, .int 1), (14, .int w9), (13, .int (kNet (g.2.1 p))), (12, .int (kSpring (g.2.1 p) ((g.2.1 p) 6))), (10, .long (kP64 (g.2.1 p) ((g.2.1 p) 6))), (9, .int 0), (8, .int ((g.2.1 p) 8)), (6, .long (Int32.toInt64 ((g.2.1 p) 7))), (5, .int (kCap (g.2.1 p) ((g.2.1 p) 6))), (4, .int ((g.2.1 p) 6)), (3, .int ((g.2.1 p) 1)), (2, .int ((g.2.1 p) 0)), (0, .ref z), (1, .int (nI p))]) hx hb dL_isPair_434 hl (by decide) rfl (fun ls hl => ?_)
                              refine lv_iload hx hb dL_isPair_436 (lv_at hl 7 rfl) ?_
                              refine lv_if_eq (tgt := 446) hx hb dL_isPair_438 (by decide) (fun c438 => ?_) (fun c438 => ?_)
                              · skip
                                refine lv_iload_n hx hb dL_isPair_446 rfl (lv_at hl 13 rfl) ?_
                                refine lv_iload_n hx hb dL_isPair_447 rfl (lv_at hl 12 rfl) ?_
                                refine lv_iconst (v := 1) hx hb dL_isPair_448 (by decide) ?_
                                refine lv_isub hx hb dL_isPair_449 ?_
                                refine lv_imul hx hb dL_isPair_450 ?_
                                refine lv_i2l hx hb dL_isPair_451 rfl ?_
                                refine lv_lload hx hb dL_isPair_452 (lv_at hl 9 rfl) ?_
                                refine lv_lmul hx hb dL_isPair_454 ?_
                                refine lv_lload hx hb dL_isPair_455 (lv_at hl 9 rfl) ?_
                                refine lv_lmul hx hb dL_isPair_457 ?_
                                refine lv_lload hx hb dL_isPair_458 (lv_at hl 0 rfl) ?_
                                refine lv_lload hx hb dL_isPair_460 (lv_at hl 0 rfl) ?_
                                refine lv_lmul hx hb dL_isPair_462 ?_
                                refine lv_ldiv hx hb dL_isPair_463 (kCap_nn (hj.1 p hp) (dp_nI ho)) ?_
                                refine lv_tpl (z := kP64 (g.2.1 p) (nI o)) (p64_off c63 _) ?_
                                refine lv_lstore (lv' := [(19, .long (kP64 (g.2.1 p) (nI o))), (17, .long (Int32.toInt64 (kCap (g.2.1 p) (nI o)))), (16, .int (nI o)), (15, .int 1), (14, .int w9), (13, .int (kNet (g.2.1 p))), (12, .int (kSpring (g.2.1 p) ((g.2.1 p) 6))), (10, .long (kP64 (g.2.1 p) ((g.2.1 p) 6))), (9, .int 0), (8, .int ((g.2.1 p) 8)), (6, .long (Int32.toInt64 ((g.2.1 p) 7))), (5, .int (kCap (g.2.1 p) ((g.2.1 p) 6))), (4, .int ((g.2.1 p) 6)), (3, .int ((g.2.1 p) 1)), (2, .int ((g.2.1 p) 0)), (0, .ref z), (1, .int (nI p))]) hx hb dL_isPair_464 hl (by decide) rfl (fun ls hl => ?_)
                                refine lv_iload hx hb dL_isPair_466 (lv_at hl 3 rfl) ?_
                                refine lv_if_eq (tgt := 508) hx hb dL_isPair_468 (by decide) (fun c468 => ?_) (fun c468 => ?_)
                                · skip
                                  exact absurd c468 (by decide)
                                · skip
                                  refine lv_aload_n hx hb dL_isPair_471 rfl (lv_at hl 15 rfl) ?_
                                  refine lv_iload_n hx hb dL_isPair_472 rfl (lv_at hl 16 rfl) ?_
                                  refine lv_iload hx hb dL_isPair_473 (lv_at hl 2 rfl) ?_
                                  refine callRi (As := [.int (nI p), .int (nI o)]) ⟨hx, hb, hml, hown, hts⟩ (mX5_force l T D z (b2 0) (b3 0) (h 0) a (y 0) 0 0 0 0 b1 g.1 g.2.1 g.2.2 hj.1 (nI p) (nI o)) (cwV 2 hts gL_isPair_X5_force rfl rfl rfl pdX5_force ⟨Nat.le_of_ble_eq_true rfl, Nat.le_of_ble_eq_true rfl⟩) (oW_rd hP) hK xN_bl (fun U _ hW => XN_warm hW hX) (ci := 5) rfl rfl rfl hl.1 rfl rfl (Nat.le_of_ble_eq_true rfl) dL_isPair_475 ⟨Nat.zero_le _, Nat.zero_le _⟩ (fun r23_ er23_ => ?_)
                                  obtain rfl : r23_ = tF (g.2.1 p) (nI o) := er23_.trans (sP_t hp)
                                  refine lv_lload hx hb dL_isPair_478 (lv_at hl 0 rfl) ?_
                                  refine lv_l2i hx hb dL_isPair_480 rfl ?_
                                  refine lv_tpi (z := kPullAt (g.2.1 p) (nI o) ((g.2.1 p) 7)) (p64_32 _ _) ?_
                                  refine lv_aload_n hx hb dL_isPair_481 rfl (lv_at hl 15 rfl) ?_
                                  refine lv_iload_n hx hb dL_isPair_482 rfl (lv_at hl 16 rfl) ?_
                                  refine lv_iconst (v := 2) hx hb dL_isPair_483 (by decide) ?_
                                  refine callRi (As := [.int (nI p), .int 2]) ⟨hx, hb, hml, hown, hts⟩ (mX5_pair l T D z (b2 0) (b3 0) (h 0) a (y 0) 0 0 0 0 b1 g.1 g.2.1 g.2.2 hj.1 (nI p) 2) (cwV 2 hts gL_isPair_X5_pair rfl rfl rfl pdX5_pair ⟨Nat.le_of_ble_eq_true rfl, Nat.le_of_ble_eq_true rfl⟩) (oW_rd hP) hK xN_bl (fun U _ hW => XN_warm hW hX) (ci := 5) rfl rfl rfl hl.1 rfl rfl (Nat.le_of_ble_eq_true rfl) dL_isPair_484 ⟨Nat.zero_le _, Nat.zero_le _⟩ (fun r24_ er24_ => ?_)
                                  obtain rfl : r24_ = (g.2.1 p) 2 := er24_.trans ((rp hp _).trans rfl)
                                  refine lv_iload hx hb dL_isPair_487 (lv_at hl 2 rfl) ?_
                                  refine lv_aload_n hx hb dL_isPair_489 rfl (lv_at hl 15 rfl) ?_
                                  refine lv_iload_n hx hb dL_isPair_490 rfl (lv_at hl 16 rfl) ?_
                                  refine lv_iconst (v := 3) hx hb dL_isPair_491 (by decide) ?_
                                  refine callRi (As := [.int (nI p), .int 3]) ⟨hx, hb, hml, hown, hts⟩ (mX5_pair l T D z (b2 0) (b3 0) (h 0) a (y 0) 0 0 0 0 b1 g.1 g.2.1 g.2.2 hj.1 (nI p) 3) (cwV 2 hts gL_isPair_X5_pair rfl rfl rfl pdX5_pair ⟨Nat.le_of_ble_eq_true rfl, Nat.le_of_ble_eq_true rfl⟩) (oW_rd hP) hK xN_bl (fun U _ hW => XN_warm hW hX) (ci := 5) rfl rfl rfl hl.1 rfl rfl (Nat.le_of_ble_eq_true rfl) dL_isPair_492 ⟨Nat.zero_le _, Nat.zero_le _⟩ (fun r25_ er25_ => ?_)
                                  obtain rfl : r25_ = (g.2.1 p) 3 := er25_.trans ((rp hp _).trans rfl)
                                  refine lv_isub hx hb dL_isPair_495 ?_
                                  refine lv_imul hx hb dL_isPair_496 ?_
                                  refine lv_tpi (z := kSpring (g.2.1 p) (nI o)) (rfl) ?_
                                  refine lv_isub hx hb dL_isPair_497 ?_
                                  refine callSi (As := [.int ((kPullAt (g.2.1 p) (nI o) ((g.2.1 p) 7)) - (kSpring (g.2.1 p) (nI o)))]) ⟨hx, hb, hml, hown, hts⟩ (mL_size l T D ((kPullAt (g.2.1 p) (nI o) ((g.2.1 p) 7)) - (kSpring (g.2.1 p) (nI o)))) (va_cwS 1 hts gL_isPair_L_size rfl rfl rfl (pdL_size).2 ⟨Nat.le_of_ble_eq_true rfl, Nat.le_of_ble_eq_true rfl⟩) wP_nil hK xN_bl (fun U _ hW => XN_warm hW hX) hl.1 rfl rfl (Nat.le_of_ble_eq_true rfl) dL_isPair_498 ⟨Nat.zero_le _, Nat.zero_le _⟩ (fun r26_ er26_ => ?_)
                                  obtain rfl : r26_ = kSize ((kPullAt (g.2.1 p) (nI o) ((g.2.1 p) 7)) - (kSpring (g.2.1 p) (nI o))) := er26_
                                  refine lv_icmp_ne (tgt := 508) hx hb dL_isPair_501 (by decide) (fun c501 => ?_) (fun c501 => ?_)
                                  · skip
                                    exact absurd c501 (fun z => z (tF_in _ (dp_nI ho)))
                                  · skip
                                    refine lv_iconst (v := 1) hx hb dL_isPair_504 (by decide) ?_
                                    refine lv_goto (tgt := 509) hx hb dL_isPair_505 (by decide) ?_
                                    exact hret _ _ _ dL_isPair_509 rfl
                              · skip
                                exact absurd c438 (by decide)
            · skip
              exact absurd c266 (by decide)
          · skip
            exact absurd c243 (by decide)
      refine lv_iload hx hb dL_isPair_141 (lv_at hl 0 rfl) ?_
      refine callSi (As := [.int (kNet (g.2.1 p))]) ⟨hx, hb, hml, hown, hts⟩ (mL_size l T D (kNet (g.2.1 p))) (va_cwS 1 hts gL_isPair_L_size rfl rfl rfl (pdL_size).2 ⟨Nat.le_of_ble_eq_true rfl, Nat.le_of_ble_eq_true rfl⟩) wP_nil hK xN_bl (fun U _ hW => XN_warm hW hX) hl.1 rfl rfl (Nat.le_of_ble_eq_true rfl) dL_isPair_143 ⟨Nat.zero_le _, Nat.zero_le _⟩ (fun r27_ er27_ => ?_)
      obtain rfl : r27_ = kSize (kNet (g.2.1 p)) := er27_
      have hJ199 : ∀  (ls : Array Slot), (¬ (¬ kSize (kNet (g.2.1 p)) ≤ (g.2.1 p) 4 ∧ ¬ kNet (g.2.1 p) ≤ 0 ∧ ¬ 40 ≤ (g.2.1 p) 6)) → (¬ (¬ kSize (kNet (g.2.1 p)) ≤ (g.2.1 p) 4 ∧ ¬ 0 ≤ kNet (g.2.1 p) ∧ ¬ (g.2.1 p) 6 ≤ 0)) → lv_has ls 21 [(13, .int (kNet (g.2.1 p))), (12, .int (kSpring (g.2.1 p) ((g.2.1 p) 6))), (10, .long (kP64 (g.2.1 p) ((g.2.1 p) 6))), (9, .int 0), (8, .int ((g.2.1 p) 8)), (6, .long (Int32.toInt64 ((g.2.1 p) 7))), (5, .int (kCap (g.2.1 p) ((g.2.1 p) 6))), (4, .int ((g.2.1 p) 6)), (3, .int ((g.2.1 p) 1)), (2, .int ((g.2.1 p) 0)), (0, .ref z), (1, .int (nI p))] → W p_ l e rmL_isPair s m args below meth c H [] 0 0 Q (F0 m 199 ls []) := by
        intro ls h171 h199 hl
        refine lv_iload hx hb dL_isPair_199 (lv_at hl 0 rfl) ?_
        refine lv_if_ne (tgt := 208) hx hb dL_isPair_201 (by decide) (fun c201 => ?_) (fun c201 => ?_)
        · skip
          refine lv_iload hx hb dL_isPair_208 (lv_at hl 0 rfl) ?_
          refine callSi (As := [.int (kNet (g.2.1 p))]) ⟨hx, hb, hml, hown, hts⟩ (mL_size l T D (kNet (g.2.1 p))) (va_cwS 1 hts gL_isPair_L_size rfl rfl rfl (pdL_size).2 ⟨Nat.le_of_ble_eq_true rfl, Nat.le_of_ble_eq_true rfl⟩) wP_nil hK xN_bl (fun U _ hW => XN_warm hW hX) hl.1 rfl rfl (Nat.le_of_ble_eq_true rfl) dL_isPair_210 ⟨Nat.zero_le _, Nat.zero_le _⟩ (fun r28_ er28_ => ?_)
          obtain rfl : r28_ = kSize (kNet (g.2.1 p)) := er28_
          refine lv_aload_n hx hb dL_isPair_213 rfl (lv_at hl 10 rfl) ?_
          refine lv_iload_n hx hb dL_isPair_214 rfl (lv_at hl 11 rfl) ?_
          refine lv_iconst (v := 4) hx hb dL_isPair_215 (by decide) ?_
          refine callRi (As := [.int (nI p), .int 4]) ⟨hx, hb, hml, hown, hts⟩ (mX5_pair l T D z (b2 0) (b3 0) (h 0) a (y 0) 0 0 0 0 b1 g.1 g.2.1 g.2.2 hj.1 (nI p) 4) (cwV 2 hts gL_isPair_X5_pair rfl rfl rfl pdX5_pair ⟨Nat.le_of_ble_eq_true rfl, Nat.le_of_ble_eq_true rfl⟩) (oW_rd hP) hK xN_bl (fun U _ hW => XN_warm hW hX) (ci := 5) rfl rfl rfl hl.1 rfl rfl (Nat.le_of_ble_eq_true rfl) dL_isPair_216 ⟨Nat.zero_le _, Nat.zero_le _⟩ (fun r29_ er29_ => ?_)
          obtain rfl : r29_ = (g.2.1 p) 4 := er29_.trans ((rp hp _).trans rfl)
          refine lv_icmp_gt (tgt := 226) hx hb dL_isPair_219 (by decide) (fun c219 => ?_) (fun c219 => ?_)
          · skip
            refine lv_iconst (v := 4) hx hb dL_isPair_226 (by decide) ?_
            exact hJ227 4 ls (((why_34 h171 h199 c201).trans (if_neg (Int32.not_le.mpr c219))).symm) hl
          · skip
            refine lv_iconst (v := 3) hx hb dL_isPair_222 (by decide) ?_
            refine lv_goto (tgt := 227) hx hb dL_isPair_223 (by decide) ?_
            exact hJ227 3 ls (((why_34 h171 h199 c201).trans (if_pos (Int32.not_lt.mp c219))).symm) hl
        · skip
          refine lv_iconst (v := 2) hx hb dL_isPair_204 (by decide) ?_
          refine lv_goto (tgt := 227) hx hb dL_isPair_205 (by decide) ?_
          exact hJ227 2 ls (why_2 (hj.1 p hp) c201) hl
      refine lv_aload_n hx hb dL_isPair_146 rfl (lv_at hl 10 rfl) ?_
      have hJ171 : ∀  (ls : Array Slot), (¬ (¬ kSize (kNet (g.2.1 p)) ≤ (g.2.1 p) 4 ∧ ¬ kNet (g.2.1 p) ≤ 0 ∧ ¬ 40 ≤ (g.2.1 p) 6)) → lv_has ls 21 [(13, .int (kNet (g.2.1 p))), (12, .int (kSpring (g.2.1 p) ((g.2.1 p) 6))), (10, .long (kP64 (g.2.1 p) ((g.2.1 p) 6))), (9, .int 0), (8, .int ((g.2.1 p) 8)), (6, .long (Int32.toInt64 ((g.2.1 p) 7))), (5, .int (kCap (g.2.1 p) ((g.2.1 p) 6))), (4, .int ((g.2.1 p) 6)), (3, .int ((g.2.1 p) 1)), (2, .int ((g.2.1 p) 0)), (0, .ref z), (1, .int (nI p))] → W p_ l e rmL_isPair s m args below meth c H [] 0 0 Q (F0 m 171 ls []) := by
        intro ls h171 hl
        refine lv_iload hx hb dL_isPair_171 (lv_at hl 0 rfl) ?_
        refine callSi (As := [.int (kNet (g.2.1 p))]) ⟨hx, hb, hml, hown, hts⟩ (mL_size l T D (kNet (g.2.1 p))) (va_cwS 1 hts gL_isPair_L_size rfl rfl rfl (pdL_size).2 ⟨Nat.le_of_ble_eq_true rfl, Nat.le_of_ble_eq_true rfl⟩) wP_nil hK xN_bl (fun U _ hW => XN_warm hW hX) hl.1 rfl rfl (Nat.le_of_ble_eq_true rfl) dL_isPair_173 ⟨Nat.zero_le _, Nat.zero_le _⟩ (fun r30_ er30_ => ?_)
        obtain rfl : r30_ = kSize (kNet (g.2.1 p)) := er30_
        refine lv_aload_n hx hb dL_isPair_176 rfl (lv_at hl 10 rfl) ?_
        refine lv_iload_n hx hb dL_isPair_177 rfl (lv_at hl 11 rfl) ?_
        refine lv_iconst (v := 4) hx hb dL_isPair_178 (by decide) ?_
        refine callRi (As := [.int (nI p), .int 4]) ⟨hx, hb, hml, hown, hts⟩ (mX5_pair l T D z (b2 0) (b3 0) (h 0) a (y 0) 0 0 0 0 b1 g.1 g.2.1 g.2.2 hj.1 (nI p) 4) (cwV 2 hts gL_isPair_X5_pair rfl rfl rfl pdX5_pair ⟨Nat.le_of_ble_eq_true rfl, Nat.le_of_ble_eq_true rfl⟩) (oW_rd hP) hK xN_bl (fun U _ hW => XN_warm hW hX) (ci := 5) rfl rfl rfl hl.1 rfl rfl (Nat.le_of_ble_eq_true rfl) dL_isPair_179 ⟨Nat.zero_le _, Nat.zero_le _⟩ (fun r31_ er31_ => ?_)
        obtain rfl : r31_ = (g.2.1 p) 4 := er31_.trans ((rp hp _).trans rfl)
        refine lv_icmp_le (tgt := 199) hx hb dL_isPair_182 (by decide) (fun c182 => ?_) (fun c182 => ?_)
        · skip
          exact hJ199 ls h171 (fun z => z.1 c182) hl
        · skip
          refine lv_iload hx hb dL_isPair_185 (lv_at hl 0 rfl) ?_
          refine lv_if_ge (tgt := 199) hx hb dL_isPair_187 (by decide) (fun c187 => ?_) (fun c187 => ?_)
          · skip
            exact hJ199 ls h171 (fun z => z.2.1 c187) hl
          · skip
            refine lv_iload hx hb dL_isPair_190 (lv_at hl 7 rfl) ?_
            refine lv_if_le (tgt := 199) hx hb dL_isPair_192 (by decide) (fun c192 => ?_) (fun c192 => ?_)
            · skip
              exact hJ199 ls h171 (fun z => z.2.2 c192) hl
            · skip
              refine lv_iconst (v := 1) hx hb dL_isPair_195 (by decide) ?_
              refine lv_goto (tgt := 227) hx hb dL_isPair_196 (by decide) ?_
              exact hJ227 1 ls (why_1 c182 c187 c192) hl
      refine lv_iload_n hx hb dL_isPair_147 rfl (lv_at hl 11 rfl) ?_
      refine lv_iconst (v := 4) hx hb dL_isPair_148 (by decide) ?_
      refine callRi (As := [.int (nI p), .int 4]) ⟨hx, hb, hml, hown, hts⟩ (mX5_pair l T D z (b2 0) (b3 0) (h 0) a (y 0) 0 0 0 0 b1 g.1 g.2.1 g.2.2 hj.1 (nI p) 4) (cwV 2 hts gL_isPair_X5_pair rfl rfl rfl pdX5_pair ⟨Nat.le_of_ble_eq_true rfl, Nat.le_of_ble_eq_true rfl⟩) (oW_rd hP) hK xN_bl (fun U _ hW => XN_warm hW hX) (ci := 5) rfl rfl rfl hl.1 rfl rfl (Nat.le_of_ble_eq_true rfl) dL_isPair_149 ⟨Nat.zero_le _, Nat.zero_le _⟩ (fun r32_ er32_ => ?_)
      obtain rfl : r32_ = (g.2.1 p) 4 := er32_.trans ((rp hp _).trans rfl)
      refine lv_icmp_le (tgt := 171) hx hb dL_isPair_152 (by decide) (fun c152 => ?_) (fun c152 => ?_)
      · skip
        exact hJ171 ls (fun z => z.1 c152) hl
      · skip
        refine lv_iload hx hb dL_isPair_155 (lv_at hl 0 rfl) ?_
        refine lv_if_le (tgt := 171) hx hb dL_isPair_157 (by decide) (fun c157 => ?_) (fun c157 => ?_)
        · skip
          exact hJ171 ls (fun z => z.2.1 c157) hl
        · skip
          refine lv_iload hx hb dL_isPair_160 (lv_at hl 7 rfl) ?_
          refine lv_bipush (v := 40) hx hb dL_isPair_162 (by decide) ?_
          refine lv_icmp_ge (tgt := 171) hx hb dL_isPair_164 (by decide) (fun c164 => ?_) (fun c164 => ?_)
          · skip
            exact hJ171 ls (fun z => z.2.2 c164) hl
          · skip
            refine lv_iconst (v := 0) hx hb dL_isPair_167 (by decide) ?_
            refine lv_goto (tgt := 227) hx hb dL_isPair_168 (by decide) ?_
            exact hJ227 0 ls (why_0 c152 c157 c164) hl
    · skip
      exact absurd c75 (by decide)
  · skip
    refine lv_iconst (v := 1) hx hb dL_isPair_66 (by decide) ?_
    refine lv_goto (tgt := 71) hx hb dL_isPair_67 (by decide) ?_
    refine lv_istore (lv' := [(9, .int 1), (8, .int ((g.2.1 p) 8)), (6, .long (Int32.toInt64 ((g.2.1 p) 7))), (5, .int (kCap (g.2.1 p) ((g.2.1 p) 6))), (4, .int ((g.2.1 p) 6)), (3, .int ((g.2.1 p) 1)), (2, .int ((g.2.1 p) 0)), (0, .ref z), (1, .int (nI p))]) hx hb dL_isPair_71 hl (by decide) rfl (fun ls hl => ?_)
    refine lv_iload hx hb dL_isPair_73 (lv_at hl 0 rfl) ?_
    refine lv_if_eq (tgt := 93) hx hb dL_isPair_75 (by decide) (fun c75 => ?_) (fun c75 => ?_)
    · skip
      exact absurd c75 (by decide)
    · skip
      refine lv_iload_n hx hb dL_isPair_78 rfl (lv_at hl 6 rfl) ?_
      refine lv_iload_n hx hb dL_isPair_79 rfl (lv_at hl 5 rfl) ?_
      refine lv_iconst (v := 1) hx hb dL_isPair_80 (by decide) ?_
      refine lv_isub hx hb dL_isPair_81 ?_
      refine lv_imul hx hb dL_isPair_82 ?_
      refine lv_iload hx hb dL_isPair_83 (lv_at hl 1 rfl) ?_
      refine lv_imul hx hb dL_isPair_85 ?_
      refine lv_iload hx hb dL_isPair_86 (lv_at hl 1 rfl) ?_
      refine lv_imul hx hb dL_isPair_88 ?_
      refine lv_tpi (z := kPullBy (g.2.1 p) ((g.2.1 p) 8)) (rfl) ?_
      refine lv_i2l hx hb dL_isPair_89 rfl ?_
      refine lv_tpl (z := kP64 (g.2.1 p) ((g.2.1 p) 6)) (p64_on c63 _) ?_
      refine lv_goto (tgt := 113) hx hb dL_isPair_90 (by decide) ?_
      refine lv_lstore (lv' := [(10, .long (kP64 (g.2.1 p) ((g.2.1 p) 6))), (9, .int 1), (8, .int ((g.2.1 p) 8)), (6, .long (Int32.toInt64 ((g.2.1 p) 7))), (5, .int (kCap (g.2.1 p) ((g.2.1 p) 6))), (4, .int ((g.2.1 p) 6)), (3, .int ((g.2.1 p) 1)), (2, .int ((g.2.1 p) 0)), (0, .ref z), (1, .int (nI p))]) hx hb dL_isPair_113 hl (by decide) rfl (fun ls hl => ?_)
      refine lv_aload_n hx hb dL_isPair_115 rfl (lv_at hl 8 rfl) ?_
      refine lv_iload_n hx hb dL_isPair_116 rfl (lv_at hl 9 rfl) ?_
      refine lv_iconst (v := 2) hx hb dL_isPair_117 (by decide) ?_
      refine callRi (As := [.int (nI p), .int 2]) ⟨hx, hb, hml, hown, hts⟩ (mX5_pair l T D z (b2 0) (b3 0) (h 0) a (y 0) 0 0 0 0 b1 g.1 g.2.1 g.2.2 hj.1 (nI p) 2) (cwV 2 hts gL_isPair_X5_pair rfl rfl rfl pdX5_pair ⟨Nat.le_of_ble_eq_true rfl, Nat.le_of_ble_eq_true rfl⟩) (oW_rd hP) hK xN_bl (fun U _ hW => XN_warm hW hX) (ci := 5) rfl rfl rfl hl.1 rfl rfl (Nat.le_of_ble_eq_true rfl) dL_isPair_118 ⟨Nat.zero_le _, Nat.zero_le _⟩ (fun r33_ er33_ => ?_)
      obtain rfl : r33_ = (g.2.1 p) 2 := er33_.trans ((rp hp _).trans rfl)
      refine lv_iload hx hb dL_isPair_121 (lv_at hl 5 rfl) ?_
      refine lv_aload_n hx hb dL_isPair_123 rfl (lv_at hl 8 rfl) ?_
      refine lv_iload_n hx hb dL_isPair_124 rfl (lv_at hl 9 rfl) ?_
      refine lv_iconst (v := 3) hx hb dL_isPair_125 (by decide) ?_
      refine callRi (As := [.int (nI p), .int 3]) ⟨hx, hb, hml, hown, hts⟩ (mX5_pair l T D z (b2 0) (b3 0) (h 0) a (y 0) 0 0 0 0 b1 g.1 g.2.1 g.2.2 hj.1 (nI p) 3) (cwV 2 hts gL_isPair_X5_pair rfl rfl rfl pdX5_pair ⟨Nat.le_of_ble_eq_true rfl, Nat.le_of_ble_eq_true rfl⟩) (oW_rd hP) hK xN_bl (fun U _ hW => XN_warm hW hX) (ci := 5) rfl rfl rfl hl.1 rfl rfl (Nat.le_of_ble_eq_true rfl) dL_isPair_126 ⟨Nat.zero_le _, Nat.zero_le _⟩ (fun r34_ er34_ => ?_)
      obtain rfl : r34_ = (g.2.1 p) 3 := er34_.trans ((rp hp _).trans rfl)
      refine lv_isub hx hb dL_isPair_129 ?_
      refine lv_imul hx hb dL_isPair_130 ?_
      refine lv_tpi (z := kSpring (g.2.1 p) ((g.2.1 p) 6)) (rfl) ?_
      refine lv_istore (lv' := [(12, .int (kSpring (g.2.1 p) ((g.2.1 p) 6))), (10, .long (kP64 (g.2.1 p) ((g.2.1 p) 6))), (9, .int 1), (8, .int ((g.2.1 p) 8)), (6, .long (Int32.toInt64 ((g.2.1 p) 7))), (5, .int (kCap (g.2.1 p) ((g.2.1 p) 6))), (4, .int ((g.2.1 p) 6)), (3, .int ((g.2.1 p) 1)), (2, .int ((g.2.1 p) 0)), (0, .ref z), (1, .int (nI p))]) hx hb dL_isPair_131 hl (by decide) rfl (fun ls hl => ?_)
      refine lv_lload hx hb dL_isPair_133 (lv_at hl 1 rfl) ?_
      refine lv_l2i hx hb dL_isPair_135 rfl ?_
      refine lv_tpi (z := kPullAt (g.2.1 p) ((g.2.1 p) 6) ((g.2.1 p) 7)) (p64_32 _ _) ?_
      refine lv_iload hx hb dL_isPair_136 (lv_at hl 0 rfl) ?_
      refine lv_isub hx hb dL_isPair_138 ?_
      refine lv_tpi (z := kNet (g.2.1 p)) (rfl) ?_
      refine lv_istore (lv' := [(13, .int (kNet (g.2.1 p))), (12, .int (kSpring (g.2.1 p) ((g.2.1 p) 6))), (10, .long (kP64 (g.2.1 p) ((g.2.1 p) 6))), (9, .int 1), (8, .int ((g.2.1 p) 8)), (6, .long (Int32.toInt64 ((g.2.1 p) 7))), (5, .int (kCap (g.2.1 p) ((g.2.1 p) 6))), (4, .int ((g.2.1 p) 6)), (3, .int ((g.2.1 p) 1)), (2, .int ((g.2.1 p) 0)), (0, .ref z), (1, .int (nI p))]) hx hb dL_isPair_139 hl (by decide) rfl (fun ls hl => ?_)
      have hJ227 : ∀ (w9 : Int32) (ls : Array Slot), (w9 = kWhy (g.2.1 p)) → lv_has ls 21 [(13, .int (kNet (g.2.1 p))), (12, .int (kSpring (g.2.1 p) ((g.2.1 p) 6))), (10, .long (kP64 (g.2.1 p) ((g.2.1 p) 6))), (9, .int 1), (8, .int ((g.2.1 p) 8)), (6, .long (Int32.toInt64 ((g.2.1 p) 7))), (5, .int (kCap (g.2.1 p) ((g.2.1 p) 6))), (4, .int ((g.2.1 p) 6)), (3, .int ((g.2.1 p) 1)), (2, .int ((g.2.1 p) 0)), (0, .ref z), (1, .int (nI p))] → W p_ l e rmL_isPair s m args below meth c H [] 0 0 Q (F0 m 227 ls [.int w9]) := by
        intro w9 ls hw hl
        refine lv_istore (lv' := [(14, .int w9), (13, .int (kNet (g.2.1 p))), (12, .int (kSpring (g.2.1 p) ((g.2.1 p) 6))), (10, .long (kP64 (g.2.1 p) ((g.2.1 p) 6))), (9, .int 1), (8, .int ((g.2.1 p) 8)), (6, .long (Int32.toInt64 ((g.2.1 p) 7))), (5, .int (kCap (g.2.1 p) ((g.2.1 p) 6))), (4, .int ((g.2.1 p) 6)), (3, .int ((g.2.1 p) 1)), (2, .int ((g.2.1 p) 0)), (0, .ref z), (1, .int (nI p))]) hx hb dL_isPair_227 hl (by decide) rfl (fun ls hl => ?_)
        refine lv_aload_n hx hb dL_isPair_229 rfl (lv_at hl 11 rfl) ?_
        refine lv_iload_n hx hb dL_isPair_230 rfl (lv_at hl 12 rfl) ?_
        refine lv_bipush (v := 7) hx hb dL_isPair_231 (by decide) ?_
        refine callRi (As := [.int (nI p), .int 7]) ⟨hx, hb, hml, hown, hts⟩ (mX5_pair l T D z (b2 0) (b3 0) (h 0) a (y 0) 0 0 0 0 b1 g.1 g.2.1 g.2.2 hj.1 (nI p) 7) (cwV 2 hts gL_isPair_X5_pair rfl rfl rfl pdX5_pair ⟨Nat.le_of_ble_eq_true rfl, Nat.le_of_ble_eq_true rfl⟩) (oW_rd hP) hK xN_bl (fun U _ hW => XN_warm hW hX) (ci := 5) rfl rfl rfl hl.1 rfl rfl (Nat.le_of_ble_eq_true rfl) dL_isPair_233 ⟨Nat.zero_le _, Nat.zero_le _⟩ (fun r35_ er35_ => ?_)
        obtain rfl : r35_ = kCap (g.2.1 p) ((g.2.1 p) 6) := er35_.trans ((rp hp _).trans rfl)
        refine lv_iload hx hb dL_isPair_236 (lv_at hl 7 rfl) ?_
        refine lv_icmp_ne (tgt := 349) hx hb dL_isPair_238 (by decide) (fun c238 => ?_) (fun c238 => ?_)
        · skip
          exact absurd c238 (fun z => z (rfl))
        · skip
          refine lv_iload hx hb dL_isPair_241 (lv_at hl 4 rfl) ?_
          refine lv_if_eq (tgt := 258) hx hb dL_isPair_243 (by decide) (fun c243 => ?_) (fun c243 => ?_)
          · skip
            exact absurd c243 (by decide)
          · skip
            refine lv_lload hx hb dL_isPair_246 (lv_at hl 6 rfl) ?_
            refine lv_iload hx hb dL_isPair_248 (lv_at hl 7 rfl) ?_
            refine lv_iload hx hb dL_isPair_250 (lv_at hl 5 rfl) ?_
            refine lv_imul hx hb dL_isPair_252 ?_
            refine lv_i2l hx hb dL_isPair_253 rfl ?_
            refine W.lcmp hx hb dL_isPair_254 ?_
            refine lv_tpi (z := 0) (lc_0 (held_l (hj.2.1 p hp) c63)) ?_
            refine lv_if_ne (tgt := 349) hx hb dL_isPair_255 (by decide) (fun c255 => ?_) (fun c255 => ?_)
            · skip
              exact absurd c255 (by decide)
            · skip
              refine lv_aload_n hx hb dL_isPair_258 rfl (lv_at hl 11 rfl) ?_
              refine lv_iload_n hx hb dL_isPair_259 rfl (lv_at hl 12 rfl) ?_
              refine lv_iconst (v := 0) hx hb dL_isPair_260 (by decide) ?_
              refine callRl (As := [.int (nI p), .int 0]) ⟨hx, hb, hml, hown, hts⟩ (mX5_book l T D z (b2 0) (b3 0) (h 0) a (y 0) 0 0 0 0 b1 g.1 g.2.1 g.2.2 hj.1 (nI p) 0) (cwV 2 hts gL_isPair_X5_book rfl rfl rfl pdX5_book ⟨Nat.le_of_ble_eq_true rfl, Nat.le_of_ble_eq_true rfl⟩) (oW_rd hP) hK xN_bl (fun U _ hW => XN_warm hW hX) (ci := 5) rfl rfl rfl hl.1 rfl rfl (Nat.le_of_ble_eq_true rfl) dL_isPair_261 ⟨Nat.zero_le _, Nat.zero_le _⟩ (fun r36_ er36_ => ?_)
              obtain rfl : r36_ = kStored (g.2.1 p) := er36_.trans ((rb hp _).trans rfl)
              refine lv_iload hx hb dL_isPair_264 (lv_at hl 4 rfl) ?_
              refine lv_if_eq (tgt := 278) hx hb dL_isPair_266 (by decide) (fun c266 => ?_) (fun c266 => ?_)
              · skip
                exact absurd c266 (by decide)
              · skip
                refine lv_iload hx hb dL_isPair_269 (lv_at hl 5 rfl) ?_
                refine lv_i2l hx hb dL_isPair_271 rfl ?_
                refine lv_lload hx hb dL_isPair_272 (lv_at hl 6 rfl) ?_
                refine lv_lmul hx hb dL_isPair_274 ?_
                refine lv_goto (tgt := 287) hx hb dL_isPair_275 (by decide) ?_
                refine W.lcmp hx hb dL_isPair_287 ?_
                refine lv_tpi (z := 0) (lc_0 (sto_on c63)) ?_
                refine lv_if_ne (tgt := 349) hx hb dL_isPair_288 (by decide) (fun c288 => ?_) (fun c288 => ?_)
                · skip
                  exact absurd c288 (by decide)
                · skip
                  refine lv_aload_n hx hb dL_isPair_291 rfl (lv_at hl 11 rfl) ?_
                  refine lv_iload_n hx hb dL_isPair_292 rfl (lv_at hl 12 rfl) ?_
                  refine lv_bipush (v := 11) hx hb dL_isPair_293 (by decide) ?_
                  refine callRi (As := [.int (nI p), .int 11]) ⟨hx, hb, hml, hown, hts⟩ (mX5_pair l T D z (b2 0) (b3 0) (h 0) a (y 0) 0 0 0 0 b1 g.1 g.2.1 g.2.2 hj.1 (nI p) 11) (cwV 2 hts gL_isPair_X5_pair rfl rfl rfl pdX5_pair ⟨Nat.le_of_ble_eq_true rfl, Nat.le_of_ble_eq_true rfl⟩) (oW_rd hP) hK xN_bl (fun U _ hW => XN_warm hW hX) (ci := 5) rfl rfl rfl hl.1 rfl rfl (Nat.le_of_ble_eq_true rfl) dL_isPair_295 ⟨Nat.zero_le _, Nat.zero_le _⟩ (fun r37_ er37_ => ?_)
                  obtain rfl : r37_ = kPullAt (g.2.1 p) ((g.2.1 p) 6) ((g.2.1 p) 7) := er37_.trans ((rp hp _).trans rfl)
                  refine lv_i2l hx hb dL_isPair_298 rfl ?_
                  refine lv_lload hx hb dL_isPair_299 (lv_at hl 3 rfl) ?_
                  refine W.lcmp hx hb dL_isPair_301 ?_
                  refine lv_tpi (z := 0) (lc_0 (p64_64 (hj.1 p hp))) ?_
                  refine lv_if_ne (tgt := 349) hx hb dL_isPair_302 (by decide) (fun c302 => ?_) (fun c302 => ?_)
                  · skip
                    exact absurd c302 (by decide)
                  · skip
                    refine lv_aload_n hx hb dL_isPair_305 rfl (lv_at hl 11 rfl) ?_
                    refine lv_iload_n hx hb dL_isPair_306 rfl (lv_at hl 12 rfl) ?_
                    refine lv_bipush (v := 12) hx hb dL_isPair_307 (by decide) ?_
                    refine callRi (As := [.int (nI p), .int 12]) ⟨hx, hb, hml, hown, hts⟩ (mX5_pair l T D z (b2 0) (b3 0) (h 0) a (y 0) 0 0 0 0 b1 g.1 g.2.1 g.2.2 hj.1 (nI p) 12) (cwV 2 hts gL_isPair_X5_pair rfl rfl rfl pdX5_pair ⟨Nat.le_of_ble_eq_true rfl, Nat.le_of_ble_eq_true rfl⟩) (oW_rd hP) hK xN_bl (fun U _ hW => XN_warm hW hX) (ci := 5) rfl rfl rfl hl.1 rfl rfl (Nat.le_of_ble_eq_true rfl) dL_isPair_309 ⟨Nat.zero_le _, Nat.zero_le _⟩ (fun r38_ er38_ => ?_)
                    obtain rfl : r38_ = kSize (kSpring (g.2.1 p) ((g.2.1 p) 6)) := er38_.trans ((rp hp _).trans rfl)
                    refine lv_iload hx hb dL_isPair_312 (lv_at hl 2 rfl) ?_
                    refine callSi (As := [.int (kSpring (g.2.1 p) ((g.2.1 p) 6))]) ⟨hx, hb, hml, hown, hts⟩ (mL_size l T D (kSpring (g.2.1 p) ((g.2.1 p) 6))) (va_cwS 1 hts gL_isPair_L_size rfl rfl rfl (pdL_size).2 ⟨Nat.le_of_ble_eq_true rfl, Nat.le_of_ble_eq_true rfl⟩) wP_nil hK xN_bl (fun U _ hW => XN_warm hW hX) hl.1 rfl rfl (Nat.le_of_ble_eq_true rfl) dL_isPair_314 ⟨Nat.zero_le _, Nat.zero_le _⟩ (fun r39_ er39_ => ?_)
                    obtain rfl : r39_ = kSize (kSpring (g.2.1 p) ((g.2.1 p) 6)) := er39_
                    refine lv_icmp_ne (tgt := 349) hx hb dL_isPair_317 (by decide) (fun c317 => ?_) (fun c317 => ?_)
                    · skip
                      exact absurd c317 (fun z => z (rfl))
                    · skip
                      refine lv_aload_n hx hb dL_isPair_320 rfl (lv_at hl 11 rfl) ?_
                      refine lv_iload_n hx hb dL_isPair_321 rfl (lv_at hl 12 rfl) ?_
                      refine callRi (As := [.int (nI p)]) ⟨hx, hb, hml, hown, hts⟩ (mX5_reason l T D z (b2 0) (b3 0) (h 0) a (y 0) 0 0 0 0 b1 g.1 g.2.1 g.2.2 hj.1 (nI p)) (cwV 1 hts gL_isPair_X5_reason rfl rfl rfl pdX5_reason ⟨Nat.le_of_ble_eq_true rfl, Nat.le_of_ble_eq_true rfl⟩) (oW_rd hP) hK xN_bl (fun U _ hW => XN_warm hW hX) (ci := 5) rfl rfl rfl hl.1 rfl rfl (Nat.le_of_ble_eq_true rfl) dL_isPair_322 ⟨Nat.zero_le _, Nat.zero_le _⟩ (fun r40_ er40_ => ?_)
                      obtain rfl : r40_ = kWhy (g.2.1 p) := er40_.trans (sP_t hp)
                      refine lv_iload hx hb dL_isPair_325 (lv_at hl 0 rfl) ?_
                      refine lv_icmp_ne (tgt := 349) hx hb dL_isPair_327 (by decide) (fun c327 => ?_) (fun c327 => ?_)
                      · skip
                        exact absurd c327 (fun z => z (hw.symm))
                      · skip
                        refine lv_aload_n hx hb dL_isPair_330 rfl (lv_at hl 11 rfl) ?_
                        refine lv_iload_n hx hb dL_isPair_331 rfl (lv_at hl 12 rfl) ?_
                        refine lv_iload hx hb dL_isPair_332 (lv_at hl 8 rfl) ?_
                        refine callRi (As := [.int (nI p), .int ((g.2.1 p) 6)]) ⟨hx, hb, hml, hown, hts⟩ (mX5_force l T D z (b2 0) (b3 0) (h 0) a (y 0) 0 0 0 0 b1 g.1 g.2.1 g.2.2 hj.1 (nI p) ((g.2.1 p) 6)) (cwV 2 hts gL_isPair_X5_force rfl rfl rfl pdX5_force ⟨Nat.le_of_ble_eq_true rfl, Nat.le_of_ble_eq_true rfl⟩) (oW_rd hP) hK xN_bl (fun U _ hW => XN_warm hW hX) (ci := 5) rfl rfl rfl hl.1 rfl rfl (Nat.le_of_ble_eq_true rfl) dL_isPair_334 ⟨Nat.zero_le _, Nat.zero_le _⟩ (fun r41_ er41_ => ?_)
                        obtain rfl : r41_ = tF (g.2.1 p) ((g.2.1 p) 6) := er41_.trans (sP_t hp)
                        refine lv_iload hx hb dL_isPair_337 (lv_at hl 1 rfl) ?_
                        refine callSi (As := [.int (kNet (g.2.1 p))]) ⟨hx, hb, hml, hown, hts⟩ (mL_size l T D (kNet (g.2.1 p))) (va_cwS 1 hts gL_isPair_L_size rfl rfl rfl (pdL_size).2 ⟨Nat.le_of_ble_eq_true rfl, Nat.le_of_ble_eq_true rfl⟩) wP_nil hK xN_bl (fun U _ hW => XN_warm hW hX) hl.1 rfl rfl (Nat.le_of_ble_eq_true rfl) dL_isPair_339 ⟨Nat.zero_le _, Nat.zero_le _⟩ (fun r42_ er42_ => ?_)
                        obtain rfl : r42_ = kSize (kNet (g.2.1 p)) := er42_
                        refine lv_icmp_ne (tgt := 349) hx hb dL_isPair_342 (by decide) (fun c342 => ?_) (fun c342 => ?_)
                        · skip
                          exact absurd c342 (fun z => z (tF_in _ (kOk_d (hj.1 p hp))))
                        · skip
                          refine lv_iconst (v := 1) hx hb dL_isPair_345 (by decide) ?_
                          refine lv_goto (tgt := 350) hx hb dL_isPair_346 (by decide) ?_
                          refine lv_istore (lv' := [(15, .int 1), (14, .int w9), (13, .int (kNet (g.2.1 p))), (12, .int (kSpring (g.2.1 p) ((g.2.1 p) 6))), (10, .long (kP64 (g.2.1 p) ((g.2.1 p) 6))), (9, .int 1), (8, .int ((g.2.1 p) 8)), (6, .long (Int32.toInt64 ((g.2.1 p) 7))), (5, .int (kCap (g.2.1 p) ((g.2.1 p) 6))), (4, .int ((g.2.1 p) 6)), (3, .int ((g.2.1 p) 1)), (2, .int ((g.2.1 p) 0)), (0, .ref z), (1, .int (nI p))]) hx hb dL_isPair_350 hl (by decide) rfl (fun ls hl => ?_)
                          refine lv_iload hx hb dL_isPair_352 (lv_at hl 0 rfl) ?_
                          refine lv_if_eq (tgt := 409) hx hb dL_isPair_354 (by decide) (fun c354 => ?_) (fun c354 => ?_)
                          · skip
                            exact absurd c354 (by decide)
                          · skip
                            refine lv_aload_n hx hb dL_isPair_357 rfl (lv_at hl 12 rfl) ?_
                            refine lv_iload_n hx hb dL_isPair_358 rfl (lv_at hl 13 rfl) ?_
                            refine lv_iconst (v := 1) hx hb dL_isPair_359 (by decide) ?_
                            refine callRl (As := [.int (nI p), .int 1]) ⟨hx, hb, hml, hown, hts⟩ (mX5_book l T D z (b2 0) (b3 0) (h 0) a (y 0) 0 0 0 0 b1 g.1 g.2.1 g.2.2 hj.1 (nI p) 1) (cwV 2 hts gL_isPair_X5_book rfl rfl rfl pdX5_book ⟨Nat.le_of_ble_eq_true rfl, Nat.le_of_ble_eq_true rfl⟩) (oW_rd hP) hK xN_bl (fun U _ hW => XN_warm hW hX) (ci := 5) rfl rfl rfl hl.1 rfl rfl (Nat.le_of_ble_eq_true rfl) dL_isPair_360 ⟨Nat.zero_le _, Nat.zero_le _⟩ (fun r43_ er43_ => ?_)
                            obtain rfl : r43_ = (g.2.2 p) 0 := er43_.trans ((rb hp _).trans rfl)
                            refine lv_aload_n hx hb dL_isPair_363 rfl (lv_at hl 12 rfl) ?_
                            refine lv_iload_n hx hb dL_isPair_364 rfl (lv_at hl 13 rfl) ?_
                            refine lv_iconst (v := 0) hx hb dL_isPair_365 (by decide) ?_
                            refine callRl (As := [.int (nI p), .int 0]) ⟨hx, hb, hml, hown, hts⟩ (mX5_book l T D z (b2 0) (b3 0) (h 0) a (y 0) 0 0 0 0 b1 g.1 g.2.1 g.2.2 hj.1 (nI p) 0) (cwV 2 hts gL_isPair_X5_book rfl rfl rfl pdX5_book ⟨Nat.le_of_ble_eq_true rfl, Nat.le_of_ble_eq_true rfl⟩) (oW_rd hP) hK xN_bl (fun U _ hW => XN_warm hW hX) (ci := 5) rfl rfl rfl hl.1 rfl rfl (Nat.le_of_ble_eq_true rfl) dL_isPair_366 ⟨Nat.zero_le _, Nat.zero_le _⟩ (fun r44_ er44_ => ?_)
                            obtain rfl : r44_ = kStored (g.2.1 p) := er44_.trans ((rb hp _).trans rfl)
                            refine lv_aload_n hx hb dL_isPair_369 rfl (lv_at hl 12 rfl) ?_
                            refine lv_iload_n hx hb dL_isPair_370 rfl (lv_at hl 13 rfl) ?_
                            refine lv_iconst (v := 2) hx hb dL_isPair_371 (by decide) ?_
                            refine callRl (As := [.int (nI p), .int 2]) ⟨hx, hb, hml, hown, hts⟩ (mX5_book l T D z (b2 0) (b3 0) (h 0) a (y 0) 0 0 0 0 b1 g.1 g.2.1 g.2.2 hj.1 (nI p) 2) (cwV 2 hts gL_isPair_X5_book rfl rfl rfl pdX5_book ⟨Nat.le_of_ble_eq_true rfl, Nat.le_of_ble_eq_true rfl⟩) (oW_rd hP) hK xN_bl (fun U _ hW => XN_warm hW hX) (ci := 5) rfl rfl rfl hl.1 rfl rfl (Nat.le_of_ble_eq_true rfl) dL_isPair_372 ⟨Nat.zero_le _, Nat.zero_le _⟩ (fun r45_ er45_ => ?_)
                            obtain rfl : r45_ = (g.2.2 p) 1 := er45_.trans ((rb hp _).trans rfl)
                            refine lv_ladd hx hb dL_isPair_375 ?_
                            refine lv_aload_n hx hb dL_isPair_376 rfl (lv_at hl 12 rfl) ?_
                            refine lv_iload_n hx hb dL_isPair_377 rfl (lv_at hl 13 rfl) ?_
                            refine lv_iconst (v := 3) hx hb dL_isPair_378 (by decide) ?_
                            refine callRl (As := [.int (nI p), .int 3]) ⟨hx, hb, hml, hown, hts⟩ (mX5_book l T D z (b2 0) (b3 0) (h 0) a (y 0) 0 0 0 0 b1 g.1 g.2.1 g.2.2 hj.1 (nI p) 3) (cwV 2 hts gL_isPair_X5_book rfl rfl rfl pdX5_book ⟨Nat.le_of_ble_eq_true rfl, Nat.le_of_ble_eq_true rfl⟩) (oW_rd hP) hK xN_bl (fun U _ hW => XN_warm hW hX) (ci := 5) rfl rfl rfl hl.1 rfl rfl (Nat.le_of_ble_eq_true rfl) dL_isPair_379 ⟨Nat.zero_le _, Nat.zero_le _⟩ (fun r46_ er46_ => ?_)
                            obtain rfl : r46_ = (g.2.2 p) 2 := er46_.trans ((rb hp _).trans rfl)
                            refine lv_ladd hx hb dL_isPair_382 ?_
                            refine lv_aload_n hx hb dL_isPair_383 rfl (lv_at hl 12 rfl) ?_
                            refine lv_iload_n hx hb dL_isPair_384 rfl (lv_at hl 13 rfl) ?_
                            refine lv_iconst (v := 4) hx hb dL_isPair_385 (by decide) ?_
                            refine callRl (As := [.int (nI p), .int 4]) ⟨hx, hb, hml, hown, hts⟩ (mX5_book l T D z (b2 0) (b3 0) (h 0) a (y 0) 0 0 0 0 b1 g.1 g.2.1 g.2.2 hj.1 (nI p) 4) (cwV 2 hts gL_isPair_X5_book rfl rfl rfl pdX5_book ⟨Nat.le_of_ble_eq_true rfl, Nat.le_of_ble_eq_true rfl⟩) (oW_rd hP) hK xN_bl (fun U _ hW => XN_warm hW hX) (ci := 5) rfl rfl rfl hl.1 rfl rfl (Nat.le_of_ble_eq_true rfl) dL_isPair_386 ⟨Nat.zero_le _, Nat.zero_le _⟩ (fun r47_ er47_ => ?_)
                            obtain rfl : r47_ = ((g.2.2 p) 0 - kStored (g.2.1 p) - (g.2.2 p) 1 - (g.2.2 p) 2) := er47_.trans ((rb hp _).trans rfl)
                            refine lv_ladd hx hb dL_isPair_389 ?_
                            refine W.lcmp hx hb dL_isPair_390 ?_
                            refine lv_tpi (z := 0) (lc_0 (bk_id _ _ _ _)) ?_
                            refine lv_if_ne (tgt := 409) hx hb dL_isPair_391 (by decide) (fun c391 => ?_) (fun c391 => ?_)
                            · skip
                              exact absurd c391 (by decide)
                            · skip
                              refine lv_aload_n hx hb dL_isPair_394 rfl (lv_at hl 12 rfl) ?_
                              refine lv_iload_n hx hb dL_isPair_395 rfl (lv_at hl 13 rfl) ?_
                              refine lv_iconst (v := 2) hx hb dL_isPair_396 (by decide) ?_
                              refine callRl (As := [.int (nI p), .int 2]) ⟨hx, hb, hml, hown, hts⟩ (mX5_book l T D z (b2 0) (b3 0) (h 0) a (y 0) 0 0 0 0 b1 g.1 g.2.1 g.2.2 hj.1 (nI p) 2) (cwV 2 hts gL_isPair_X5_book rfl rfl rfl pdX5_book ⟨Nat.le_of_ble_eq_true rfl, Nat.le_of_ble_eq_true rfl⟩) (oW_rd hP) hK xN_bl (fun U _ hW => XN_warm hW hX) (ci := 5) rfl rfl rfl hl.1 rfl rfl (Nat.le_of_ble_eq_true rfl) dL_isPair_397 ⟨Nat.zero_le _, Nat.zero_le _⟩ (fun r48_ er48_ => ?_)
                              obtain rfl : r48_ = (g.2.2 p) 1 := er48_.trans ((rb hp _).trans rfl)
                              refine lv_lconst (v := 0) hx hb dL_isPair_400 (by decide) ?_
                              refine W.lcmp hx hb dL_isPair_401 ?_
                              refine lv_if_lt (tgt := 409) hx hb dL_isPair_402 (by decide) (fun c402 => ?_) (fun c402 => ?_)
                              · skip
                                exact absurd c402 (lc_nn (hj.2.2.2 p hp).1)
                              · skip
                                refine lv_iconst (v := 1) hx hb dL_isPair_405 (by decide) ?_
                                refine lv_goto (tgt := 410) hx hb dL_isPair_406 (by decide) ?_
                                refine lv_istore (lv' := [(15, .int 1), (14, .int w9), (13, .int (kNet (g.2.1 p))), (12, .int (kSpring (g.2.1 p) ((g.2.1 p) 6))), (10, .long (kP64 (g.2.1 p) ((g.2.1 p) 6))), (9, .int 1), (8, .int ((g.2.1 p) 8)), (6, .long (Int32.toInt64 ((g.2.1 p) 7))), (5, .int (kCap (g.2.1 p) ((g.2.1 p) 6))), (4, .int ((g.2.1 p) 6)), (3, .int ((g.2.1 p) 1)), (2, .int ((g.2.1 p) 0)), (0, .ref z), (1, .int (nI p))]) hx hb dL_isPair_410 hl (by decide) rfl (fun ls hl => ?_)
                                refine lv_iload hx hb dL_isPair_412 (lv_at hl 9 rfl) ?_
                                refine lv_bipush (v := 13) hx hb dL_isPair_414 (by decide) ?_
                                refine lv_iadd hx hb dL_isPair_416 ?_
                                refine lv_bipush (v := 41) hx hb dL_isPair_417 (by decide) ?_
                                obtain ⟨o, ho, eo⟩ := oth_of (kOk_d (hj.1 p hp))
                                refine lv_irem hx hb dL_isPair_419 (by decide) ?_
                                refine lv_tpi (z := nI o) (eo) ?_
                                refine lv_istore (lv' := [(16, .int (nI o)), (15, .int 1), (14, .int w9), (13, .int (kNet (g.2.1 p))), (12, .int (kSpring (g.2.1 p) ((g.2.1 p) 6))), (10, .long (kP64 (g.2.1 p) ((g.2.1 p) 6))), (9, .int 1), (8, .int ((g.2.1 p) 8)), (6, .long (Int32.toInt64 ((g.2.1 p) 7))), (5, .int (kCap (g.2.1 p) ((g.2.1 p) 6))), (4, .int ((g.2.1 p) 6)), (3, .int ((g.2.1 p) 1)), (2, .int ((g.2.1 p) 0)), (0, .ref z), (1, .int (nI p))]) hx hb dL_isPair_420 hl (by decide) rfl (fun ls hl => ?_)
                                refine lv_iload_n hx hb dL_isPair_422 rfl (lv_at hl 12 rfl) ?_
                                refine lv_bipush (v := 40) hx hb dL_isPair_423 (by decide) ?_
                                refine lv_iload_n hx hb dL_isPair_425 rfl (lv_at hl 11 rfl) ?_
                                refine lv_iconst (v := 1) hx hb dL_isPair_426 (by decide) ?_
                                refine lv_isub hx hb dL_isPair_427 ?_
                                refine lv_iload hx hb dL_isPair_428 (lv_at hl 0 rfl) ?_
                                refine lv_imul hx hb dL_isPair_430 ?_
                                refine lv_iadd hx hb dL_isPair_431 ?_
                                refine lv_imul hx hb dL_isPair_432 ?_
                                refine lv_tpi (z := kCap (g.2.1 p) (nI o)) (rfl) ?_
                                refine lv_i2l hx hb dL_isPair_433 rfl ?_
                                refine lv_lstore (lv' := [(17, .long (Int32.toInt64 (kCap (g.2.1 p) (nI o)))), (16, .int (nI o)), (15, .int 1), (14, .int w9), (13, .int (kNet (g.2.1 p))), (12, .int (kSpring (g.2.1 p) ((g.2.1 p) 6))), (10, .long (kP64 (g.2.1 p) ((g.2.1 p) 6))), (9, .int 1), (8, .int ((g.2.1 p) 8)), (6, .long (Int32.toInt64 ((g.2.1 p) 7))), (5, .int (kCap (g.2.1 p) ((g.2.1 p) 6))), (4, .int ((g.2.1 p) 6)), (3, .int ((g.2.1 p) 1)), (2, .int ((g.2.1 p) 0)), (0, .ref z), (1, .int (nI p))]) hx hb dL_isPair_434 hl (by decide) rfl (fun ls hl => ?_)
                                refine lv_iload hx hb dL_isPair_436 (lv_at hl 7 rfl) ?_
                                refine lv_if_eq (tgt := 446) hx hb dL_isPair_438 (by decide) (fun c438 => ?_) (fun c438 => ?_)
                                · skip
                                  exact absurd c438 (by decide)
                                · skip
                                  refine lv_lload hx hb dL_isPair_441 (lv_at hl 6 rfl) ?_
                                  refine lv_tpl (z := kP64 (g.2.1 p) (nI o)) (p64_on2 c63 _ _) ?_
                                  refine lv_goto (tgt := 464) hx hb dL_isPair_443 (by decide) ?_
                                  refine lv_lstore (lv' := [(19, .long (kP64 (g.2.1 p) (nI o))), (17, .long (Int32.toInt64 (kCap (g.2.1 p) (nI o)))), (16, .int (nI o)), (15, .int 1), (14, .int w9), (13, .int (kNet (g.2.1 p))), (12, .int (kSpring (g.2.1 p) ((g.2.1 p) 6))), (10, .long (kP64 (g.2.1 p) ((g.2.1 p) 6))), (9, .int 1), (8, .int ((g.2.1 p) 8)), (6, .long (Int32.toInt64 ((g.2.1 p) 7))), (5, .int (kCap (g.2.1 p) ((g.2.1 p) 6))), (4, .int ((g.2.1 p) 6)), (3, .int ((g.2.1 p) 1)), (2, .int ((g.2.1 p) 0)), (0, .ref z), (1, .int (nI p))]) hx hb dL_isPair_464 hl (by decide) rfl (fun ls hl => ?_)
                                  refine lv_iload hx hb dL_isPair_466 (lv_at hl 3 rfl) ?_
                                  refine lv_if_eq (tgt := 508) hx hb dL_isPair_468 (by decide) (fun c468 => ?_) (fun c468 => ?_)
                                  · skip
                                    exact absurd c468 (by decide)
                                  · skip
                                    refine lv_aload_n hx hb dL_isPair_471 rfl (lv_at hl 15 rfl) ?_
                                    refine lv_iload_n hx hb dL_isPair_472 rfl (lv_at hl 16 rfl) ?_
                                    refine lv_iload hx hb dL_isPair_473 (lv_at hl 2 rfl) ?_
                                    refine callRi (As := [.int (nI p), .int (nI o)]) ⟨hx, hb, hml, hown, hts⟩ (mX5_force l T D z (b2 0) (b3 0) (h 0) a (y 0) 0 0 0 0 b1 g.1 g.2.1 g.2.2 hj.1 (nI p) (nI o)) (cwV 2 hts gL_isPair_X5_force rfl rfl rfl pdX5_force ⟨Nat.le_of_ble_eq_true rfl, Nat.le_of_ble_eq_true rfl⟩) (oW_rd hP) hK xN_bl (fun U _ hW => XN_warm hW hX) (ci := 5) rfl rfl rfl hl.1 rfl rfl (Nat.le_of_ble_eq_true rfl) dL_isPair_475 ⟨Nat.zero_le _, Nat.zero_le _⟩ (fun r49_ er49_ => ?_)
                                    obtain rfl : r49_ = tF (g.2.1 p) (nI o) := er49_.trans (sP_t hp)
                                    refine lv_lload hx hb dL_isPair_478 (lv_at hl 0 rfl) ?_
                                    refine lv_l2i hx hb dL_isPair_480 rfl ?_
                                    refine lv_tpi (z := kPullAt (g.2.1 p) (nI o) ((g.2.1 p) 7)) (p64_32 _ _) ?_
                                    refine lv_aload_n hx hb dL_isPair_481 rfl (lv_at hl 15 rfl) ?_
                                    refine lv_iload_n hx hb dL_isPair_482 rfl (lv_at hl 16 rfl) ?_
                                    refine lv_iconst (v := 2) hx hb dL_isPair_483 (by decide) ?_
                                    refine callRi (As := [.int (nI p), .int 2]) ⟨hx, hb, hml, hown, hts⟩ (mX5_pair l T D z (b2 0) (b3 0) (h 0) a (y 0) 0 0 0 0 b1 g.1 g.2.1 g.2.2 hj.1 (nI p) 2) (cwV 2 hts gL_isPair_X5_pair rfl rfl rfl pdX5_pair ⟨Nat.le_of_ble_eq_true rfl, Nat.le_of_ble_eq_true rfl⟩) (oW_rd hP) hK xN_bl (fun U _ hW => XN_warm hW hX) (ci := 5) rfl rfl rfl hl.1 rfl rfl (Nat.le_of_ble_eq_true rfl) dL_isPair_484 ⟨Nat.zero_le _, Nat.zero_le _⟩ (fun r50_ er50_ => ?_)
                                    obtain rfl : r50_ = (g.2.1 p) 2 := er50_.trans ((rp hp _).trans rfl)
                                    refine lv_iload hx hb dL_isPair_487 (lv_at hl 2 rfl) ?_
                                    refine lv_aload_n hx hb dL_isPair_489 rfl (lv_at hl 15 rfl) ?_
                                    refine lv_iload_n hx hb dL_isPair_490 rfl (lv_at hl 16 rfl) ?_
                                    refine lv_iconst (v := 3) hx hb dL_isPair_491 (by decide) ?_
                                    refine callRi (As := [.int (nI p), .int 3]) ⟨hx, hb, hml, hown, hts⟩ (mX5_pair l T D z (b2 0) (b3 0) (h 0) a (y 0) 0 0 0 0 b1 g.1 g.2.1 g.2.2 hj.1 (nI p) 3) (cwV 2 hts gL_isPair_X5_pair rfl rfl rfl pdX5_pair ⟨Nat.le_of_ble_eq_true rfl, Nat.le_of_ble_eq_true rfl⟩) (oW_rd hP) hK xN_bl (fun U _ hW => XN_warm hW hX) (ci := 5) rfl rfl rfl hl.1 rfl rfl (Nat.le_of_ble_eq_true rfl) dL_isPair_492 ⟨Nat.zero_le _, Nat.zero_le _⟩ (fun r51_ er51_ => ?_)
                                    obtain rfl : r51_ = (g.2.1 p) 3 := er51_.trans ((rp hp _).trans rfl)
                                    refine lv_isub hx hb dL_isPair_495 ?_
                                    refine lv_imul hx hb dL_isPair_496 ?_
                                    refine lv_tpi (z := kSpring (g.2.1 p) (nI o)) (rfl) ?_
                                    refine lv_isub hx hb dL_isPair_497 ?_
                                    refine callSi (As := [.int ((kPullAt (g.2.1 p) (nI o) ((g.2.1 p) 7)) - (kSpring (g.2.1 p) (nI o)))]) ⟨hx, hb, hml, hown, hts⟩ (mL_size l T D ((kPullAt (g.2.1 p) (nI o) ((g.2.1 p) 7)) - (kSpring (g.2.1 p) (nI o)))) (va_cwS 1 hts gL_isPair_L_size rfl rfl rfl (pdL_size).2 ⟨Nat.le_of_ble_eq_true rfl, Nat.le_of_ble_eq_true rfl⟩) wP_nil hK xN_bl (fun U _ hW => XN_warm hW hX) hl.1 rfl rfl (Nat.le_of_ble_eq_true rfl) dL_isPair_498 ⟨Nat.zero_le _, Nat.zero_le _⟩ (fun r52_ er52_ => ?_)
                                    obtain rfl : r52_ = kSize ((kPullAt (g.2.1 p) (nI o) ((g.2.1 p) 7)) - (kSpring (g.2.1 p) (nI o))) := er52_
                                    refine lv_icmp_ne (tgt := 508) hx hb dL_isPair_501 (by decide) (fun c501 => ?_) (fun c501 => ?_)
                                    · skip
                                      exact absurd c501 (fun z => z (tF_in _ (dp_nI ho)))
                                    · skip
                                      refine lv_iconst (v := 1) hx hb dL_isPair_504 (by decide) ?_
                                      refine lv_goto (tgt := 509) hx hb dL_isPair_505 (by decide) ?_
                                      exact hret _ _ _ dL_isPair_509 rfl
      refine lv_iload hx hb dL_isPair_141 (lv_at hl 0 rfl) ?_
      refine callSi (As := [.int (kNet (g.2.1 p))]) ⟨hx, hb, hml, hown, hts⟩ (mL_size l T D (kNet (g.2.1 p))) (va_cwS 1 hts gL_isPair_L_size rfl rfl rfl (pdL_size).2 ⟨Nat.le_of_ble_eq_true rfl, Nat.le_of_ble_eq_true rfl⟩) wP_nil hK xN_bl (fun U _ hW => XN_warm hW hX) hl.1 rfl rfl (Nat.le_of_ble_eq_true rfl) dL_isPair_143 ⟨Nat.zero_le _, Nat.zero_le _⟩ (fun r53_ er53_ => ?_)
      obtain rfl : r53_ = kSize (kNet (g.2.1 p)) := er53_
      have hJ199 : ∀  (ls : Array Slot), (¬ (¬ kSize (kNet (g.2.1 p)) ≤ (g.2.1 p) 4 ∧ ¬ kNet (g.2.1 p) ≤ 0 ∧ ¬ 40 ≤ (g.2.1 p) 6)) → (¬ (¬ kSize (kNet (g.2.1 p)) ≤ (g.2.1 p) 4 ∧ ¬ 0 ≤ kNet (g.2.1 p) ∧ ¬ (g.2.1 p) 6 ≤ 0)) → lv_has ls 21 [(13, .int (kNet (g.2.1 p))), (12, .int (kSpring (g.2.1 p) ((g.2.1 p) 6))), (10, .long (kP64 (g.2.1 p) ((g.2.1 p) 6))), (9, .int 1), (8, .int ((g.2.1 p) 8)), (6, .long (Int32.toInt64 ((g.2.1 p) 7))), (5, .int (kCap (g.2.1 p) ((g.2.1 p) 6))), (4, .int ((g.2.1 p) 6)), (3, .int ((g.2.1 p) 1)), (2, .int ((g.2.1 p) 0)), (0, .ref z), (1, .int (nI p))] → W p_ l e rmL_isPair s m args below meth c H [] 0 0 Q (F0 m 199 ls []) := by
        intro ls h171 h199 hl
        refine lv_iload hx hb dL_isPair_199 (lv_at hl 0 rfl) ?_
        refine lv_if_ne (tgt := 208) hx hb dL_isPair_201 (by decide) (fun c201 => ?_) (fun c201 => ?_)
        · skip
          refine lv_iload hx hb dL_isPair_208 (lv_at hl 0 rfl) ?_
          refine callSi (As := [.int (kNet (g.2.1 p))]) ⟨hx, hb, hml, hown, hts⟩ (mL_size l T D (kNet (g.2.1 p))) (va_cwS 1 hts gL_isPair_L_size rfl rfl rfl (pdL_size).2 ⟨Nat.le_of_ble_eq_true rfl, Nat.le_of_ble_eq_true rfl⟩) wP_nil hK xN_bl (fun U _ hW => XN_warm hW hX) hl.1 rfl rfl (Nat.le_of_ble_eq_true rfl) dL_isPair_210 ⟨Nat.zero_le _, Nat.zero_le _⟩ (fun r54_ er54_ => ?_)
          obtain rfl : r54_ = kSize (kNet (g.2.1 p)) := er54_
          refine lv_aload_n hx hb dL_isPair_213 rfl (lv_at hl 10 rfl) ?_
          refine lv_iload_n hx hb dL_isPair_214 rfl (lv_at hl 11 rfl) ?_
          refine lv_iconst (v := 4) hx hb dL_isPair_215 (by decide) ?_
          refine callRi (As := [.int (nI p), .int 4]) ⟨hx, hb, hml, hown, hts⟩ (mX5_pair l T D z (b2 0) (b3 0) (h 0) a (y 0) 0 0 0 0 b1 g.1 g.2.1 g.2.2 hj.1 (nI p) 4) (cwV 2 hts gL_isPair_X5_pair rfl rfl rfl pdX5_pair ⟨Nat.le_of_ble_eq_true rfl, Nat.le_of_ble_eq_true rfl⟩) (oW_rd hP) hK xN_bl (fun U _ hW => XN_warm hW hX) (ci := 5) rfl rfl rfl hl.1 rfl rfl (Nat.le_of_ble_eq_true rfl) dL_isPair_216 ⟨Nat.zero_le _, Nat.zero_le _⟩ (fun r55_ er55_ => ?_)
          obtain rfl : r55_ = (g.2.1 p) 4 := er55_.trans ((rp hp _).trans rfl)
          refine lv_icmp_gt (tgt := 226) hx hb dL_isPair_219 (by decide) (fun c219 => ?_) (fun c219 => ?_)
          · skip
            refine lv_iconst (v := 4) hx hb dL_isPair_226 (by decide) ?_
            exact hJ227 4 ls (((why_34 h171 h199 c201).trans (if_neg (Int32.not_le.mpr c219))).symm) hl
          · skip
            refine lv_iconst (v := 3) hx hb dL_isPair_222 (by decide) ?_
            refine lv_goto (tgt := 227) hx hb dL_isPair_223 (by decide) ?_
            exact hJ227 3 ls (((why_34 h171 h199 c201).trans (if_pos (Int32.not_lt.mp c219))).symm) hl
        · skip
          refine lv_iconst (v := 2) hx hb dL_isPair_204 (by decide) ?_
          refine lv_goto (tgt := 227) hx hb dL_isPair_205 (by decide) ?_
          exact hJ227 2 ls (why_2 (hj.1 p hp) c201) hl
      refine lv_aload_n hx hb dL_isPair_146 rfl (lv_at hl 10 rfl) ?_
      have hJ171 : ∀  (ls : Array Slot), (¬ (¬ kSize (kNet (g.2.1 p)) ≤ (g.2.1 p) 4 ∧ ¬ kNet (g.2.1 p) ≤ 0 ∧ ¬ 40 ≤ (g.2.1 p) 6)) → lv_has ls 21 [(13, .int (kNet (g.2.1 p))), (12, .int (kSpring (g.2.1 p) ((g.2.1 p) 6))), (10, .long (kP64 (g.2.1 p) ((g.2.1 p) 6))), (9, .int 1), (8, .int ((g.2.1 p) 8)), (6, .long (Int32.toInt64 ((g.2.1 p) 7))), (5, .int (kCap (g.2.1 p) ((g.2.1 p) 6))), (4, .int ((g.2.1 p) 6)), (3, .int ((g.2.1 p) 1)), (2, .int ((g.2.1 p) 0)), (0, .ref z), (1, .int (nI p))] → W p_ l e rmL_isPair s m args below meth c H [] 0 0 Q (F0 m 171 ls []) := by
        intro ls h171 hl
        refine lv_iload hx hb dL_isPair_171 (lv_at hl 0 rfl) ?_
        refine callSi (As := [.int (kNet (g.2.1 p))]) ⟨hx, hb, hml, hown, hts⟩ (mL_size l T D (kNet (g.2.1 p))) (va_cwS 1 hts gL_isPair_L_size rfl rfl rfl (pdL_size).2 ⟨Nat.le_of_ble_eq_true rfl, Nat.le_of_ble_eq_true rfl⟩) wP_nil hK xN_bl (fun U _ hW => XN_warm hW hX) hl.1 rfl rfl (Nat.le_of_ble_eq_true rfl) dL_isPair_173 ⟨Nat.zero_le _, Nat.zero_le _⟩ (fun r56_ er56_ => ?_)
        obtain rfl : r56_ = kSize (kNet (g.2.1 p)) := er56_
        refine lv_aload_n hx hb dL_isPair_176 rfl (lv_at hl 10 rfl) ?_
        refine lv_iload_n hx hb dL_isPair_177 rfl (lv_at hl 11 rfl) ?_
        refine lv_iconst (v := 4) hx hb dL_isPair_178 (by decide) ?_
        refine callRi (As := [.int (nI p), .int 4]) ⟨hx, hb, hml, hown, hts⟩ (mX5_pair l T D z (b2 0) (b3 0) (h 0) a (y 0) 0 0 0 0 b1 g.1 g.2.1 g.2.2 hj.1 (nI p) 4) (cwV 2 hts gL_isPair_X5_pair rfl rfl rfl pdX5_pair ⟨Nat.le_of_ble_eq_true rfl, Nat.le_of_ble_eq_true rfl⟩) (oW_rd hP) hK xN_bl (fun U _ hW => XN_warm hW hX) (ci := 5) rfl rfl rfl hl.1 rfl rfl (Nat.le_of_ble_eq_true rfl) dL_isPair_179 ⟨Nat.zero_le _, Nat.zero_le _⟩ (fun r57_ er57_ => ?_)
        obtain rfl : r57_ = (g.2.1 p) 4 := er57_.trans ((rp hp _).trans rfl)
        refine lv_icmp_le (tgt := 199) hx hb dL_isPair_182 (by decide) (fun c182 => ?_) (fun c182 => ?_)
        · skip
          exact hJ199 ls h171 (fun z => z.1 c182) hl
        · skip
          refine lv_iload hx hb dL_isPair_185 (lv_at hl 0 rfl) ?_
          refine lv_if_ge (tgt := 199) hx hb dL_isPair_187 (by decide) (fun c187 => ?_) (fun c187 => ?_)
          · skip
            exact hJ199 ls h171 (fun z => z.2.1 c187) hl
          · skip
            refine lv_iload hx hb dL_isPair_190 (lv_at hl 7 rfl) ?_
            refine lv_if_le (tgt := 199) hx hb dL_isPair_192 (by decide) (fun c192 => ?_) (fun c192 => ?_)
            · skip
              exact hJ199 ls h171 (fun z => z.2.2 c192) hl
            · skip
              refine lv_iconst (v := 1) hx hb dL_isPair_195 (by decide) ?_
              refine lv_goto (tgt := 227) hx hb dL_isPair_196 (by decide) ?_
              exact hJ227 1 ls (why_1 c182 c187 c192) hl
      refine lv_iload_n hx hb dL_isPair_147 rfl (lv_at hl 11 rfl) ?_
      refine lv_iconst (v := 4) hx hb dL_isPair_148 (by decide) ?_
      refine callRi (As := [.int (nI p), .int 4]) ⟨hx, hb, hml, hown, hts⟩ (mX5_pair l T D z (b2 0) (b3 0) (h 0) a (y 0) 0 0 0 0 b1 g.1 g.2.1 g.2.2 hj.1 (nI p) 4) (cwV 2 hts gL_isPair_X5_pair rfl rfl rfl pdX5_pair ⟨Nat.le_of_ble_eq_true rfl, Nat.le_of_ble_eq_true rfl⟩) (oW_rd hP) hK xN_bl (fun U _ hW => XN_warm hW hX) (ci := 5) rfl rfl rfl hl.1 rfl rfl (Nat.le_of_ble_eq_true rfl) dL_isPair_149 ⟨Nat.zero_le _, Nat.zero_le _⟩ (fun r58_ er58_ => ?_)
      obtain rfl : r58_ = (g.2.1 p) 4 := er58_.trans ((rp hp _).trans rfl)
      refine lv_icmp_le (tgt := 171) hx hb dL_isPair_152 (by decide) (fun c152 => ?_) (fun c152 => ?_)
      · skip
        exact hJ171 ls (fun z => z.1 c152) hl
      · skip
        refine lv_iload hx hb dL_isPair_155 (lv_at hl 0 rfl) ?_
        refine lv_if_le (tgt := 171) hx hb dL_isPair_157 (by decide) (fun c157 => ?_) (fun c157 => ?_)
        · skip
          exact hJ171 ls (fun z => z.2.1 c157) hl
        · skip
          refine lv_iload hx hb dL_isPair_160 (lv_at hl 7 rfl) ?_
          refine lv_bipush (v := 40) hx hb dL_isPair_162 (by decide) ?_
          refine lv_icmp_ge (tgt := 171) hx hb dL_isPair_164 (by decide) (fun c164 => ?_) (fun c164 => ?_)
          · skip
            exact hJ171 ls (fun z => z.2.2 c164) hl
          · skip
            refine lv_iconst (v := 0) hx hb dL_isPair_167 (by decide) ?_
            refine lv_goto (tgt := 227) hx hb dL_isPair_168 (by decide) ?_
            exact hJ227 0 ls (why_0 c152 c157 c164) hl

