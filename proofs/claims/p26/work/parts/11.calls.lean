/-! two forms of contract: a reader leaves the heap, a mover has a world -/
def rdP (T : Nat → ClassId) (X : (Nat → Prop) → State → Prop) (D : va_G) (as : List Value) (wc : va_W) : Array Value → State → Prop := fun v U => v = as.toArray ∧ va_P D vwCl wc U.heap ∧ va_K D vwCl (tyL T) U ∧ X (fun _ => False) U
def muP (T : Nat → ClassId) (X : (Nat → Prop) → State → Prop) (D : va_G) (as : List Value) (wc : va_W) (sz : Nat) : Array Value → State → Prop := fun v U => v = as.toArray ∧ U.heap.size = sz ∧ va_P D vwCl wc U.heap ∧ va_K D vwCl (tyL T) U ∧ va_D (fun _ => True) wc ∧ X (va_A wc sz) U
theorem rdP_bl {T : Nat → ClassId} {X : (Nat → Prop) → State → Prop} {D : va_G} {as : List Value} {wc : va_W} (hX : xBl X) : FrameBlind (rdP T X D as wc) := fun a U g mk q => by
  obtain ⟨q0, qP, qK, qX⟩ := q
  exact ⟨q0, qP, va_K.moved (u := U) (U := U.calling g mk a) (Vm.Alike.refl U.vm) qK, hX _ U g mk a qX⟩
theorem muP_bl {T : Nat → ClassId} {X : (Nat → Prop) → State → Prop} {D : va_G} {as : List Value} {wc : va_W} {sz : Nat} (hX : xBl X) : FrameBlind (muP T X D as wc sz) := fun a U g mk q => by
  obtain ⟨q0, q1, qP, qK, qD, qX⟩ := q
  exact ⟨q0, q1, qP, va_K.moved (u := U) (U := U.calling g mk a) (Vm.Alike.refl U.vm) qK, qD, hX _ U g mk a qX⟩
abbrev RdI (l : Launch) (y : MethodName) (ws : List Cond) (rm : Room) (T : Nat → ClassId) (X : (Nat → Prop) → State → Prop) (D : va_G) (as : List Value) (wc : va_W) (post : Int32 → Prop) : Prop := Met l y ws rm (rdP T X D as wc) (vp_Si post) 0 0 (fun _ => False)
abbrev RdL (l : Launch) (y : MethodName) (ws : List Cond) (rm : Room) (T : Nat → ClassId) (X : (Nat → Prop) → State → Prop) (D : va_G) (as : List Value) (wc : va_W) (post : Int64 → Prop) : Prop := Met l y ws rm (rdP T X D as wc) (vp_Sl post) 0 0 (fun _ => False)
def muW (D : va_G) (A : Nat → Prop) {S : Type} (W' : S → va_W) : S → State → Prop := fun u t => va_P D vwCl (W' u) t.heap ∧ va_D A (W' u)
abbrev MuI (l : Launch) (y : MethodName) (ws : List Cond) (rm : Room) (T : Nat → ClassId) (X : (Nat → Prop) → State → Prop) (D : va_G) (as : List Value) (wc : va_W) {S : Type} (post : Int32 → S → Prop) (W' : S → va_W) (mc ms : Nat) : Prop := ∀ sz : Nat, Met l y ws rm (muP T X D as wc sz) (va_Qi post (muW D (va_A wc sz) W') (va_A wc sz)) mc ms (va_A wc sz)
abbrev MuV (l : Launch) (y : MethodName) (ws : List Cond) (rm : Room) (T : Nat → ClassId) (X : (Nat → Prop) → State → Prop) (D : va_G) (as : List Value) (wc : va_W) {S : Type} (post : S → Prop) (W' : S → va_W) (mc ms : Nat) : Prop := ∀ sz : Nat, Met l y ws rm (muP T X D as wc sz) (va_Qv post (muW D (va_A wc sz) W') (va_A wc sz)) mc ms (va_A wc sz)
/-! a method's body, from its entry: what a proof of it is given -/
section BODY
variable {l : Launch} {y : MethodName} {ws ws' : List Cond} {rm : Room} {T : Nat → ClassId} {X : (Nat → Prop) → State → Prop} {D : va_G} {as : List Value} {wc : va_W} {cc : ByteArray} {maxL : Nat}
theorem met_ri {post : Int32 → Prop} (hy : plainName y.cls = true) (hw : ws = Cond.code y cc maxL (some .int) :: ws') (hn : (lg_sl as).length ≤ maxL)
    (body : ∀ (p : Program) (e : Env) (s : State) (m : MethodId) (args : Array Value) (below : List Frame) (meth : Method) (c : Code) (H : Heap) (ls : Array Slot) (Q : State → Prop), p.tables.exec = Jvm.exec → c.code = cc → (∀ w ∈ ws, w.before args s = true) → s.vm.findClass y.cls = some m.cls → c.maxLocals = maxL → X (fun _ => False) s → s.heap = H → va_P D vwCl wc H → va_K D vwCl (tyL T) s → lv_has ls maxL (lv_args 0 as) →
      (∀ (r : Int32) (ls' : Array Slot) (pc : Nat), decode cc pc = .ok (.ireturn, 1) → post r → W p l e rm s m args below meth c H [] 0 0 Q (F0 m pc ls' [.int r])) → W p l e rm s m args below meth c H [] 0 0 Q (F0 m 0 ls [])) : RdI l y ws rm T X D as wc post := by
  refine Met.ofW (cc := cc) (maxL := maxL) (ret := some .int) hy hw ?_
  intro p e s m args below meth c s₁ B hml hv
  obtain ⟨rfl, hP, hK, hX⟩ := hv
  have hlocks := B.notSynchronized
  have hl := lv_entry as (n := maxL) hn
  rw [lg_entry_eq]
  refine body p e s m _ below meth c s.heap _ _ B.exec B.bytes (atoms_spec B.pre) (findClass_of_methodNamed B.named) hml hX rfl hP hK hl ?_
  intro r ls' pc hd hpost
  exact W.iret B.exec B.bytes B.returns (fun t ht hW => ⟨r, rfl, hpost, ht⟩) (fun _ h => absurd h List.not_mem_nil) hd
theorem met_rl {post : Int64 → Prop} (hy : plainName y.cls = true) (hw : ws = Cond.code y cc maxL (some .long) :: ws') (hn : (lg_sl as).length ≤ maxL)
    (body : ∀ (p : Program) (e : Env) (s : State) (m : MethodId) (args : Array Value) (below : List Frame) (meth : Method) (c : Code) (H : Heap) (ls : Array Slot) (Q : State → Prop), p.tables.exec = Jvm.exec → c.code = cc → (∀ w ∈ ws, w.before args s = true) → s.vm.findClass y.cls = some m.cls → c.maxLocals = maxL → X (fun _ => False) s → s.heap = H → va_P D vwCl wc H → va_K D vwCl (tyL T) s → lv_has ls maxL (lv_args 0 as) →
      (∀ (r : Int64) (ls' : Array Slot) (pc : Nat), decode cc pc = .ok (.lreturn, 1) → post r → W p l e rm s m args below meth c H [] 0 0 Q (F0 m pc ls' [.long r])) → W p l e rm s m args below meth c H [] 0 0 Q (F0 m 0 ls [])) : RdL l y ws rm T X D as wc post := by
  refine Met.ofW (cc := cc) (maxL := maxL) (ret := some .long) hy hw ?_
  intro p e s m args below meth c s₁ B hml hv
  obtain ⟨rfl, hP, hK, hX⟩ := hv
  have hlocks := B.notSynchronized
  have hl := lv_entry as (n := maxL) hn
  rw [lg_entry_eq]
  refine body p e s m _ below meth c s.heap _ _ B.exec B.bytes (atoms_spec B.pre) (findClass_of_methodNamed B.named) hml hX rfl hP hK hl ?_
  intro r ls' pc hd hpost
  exact W.lret B.exec B.bytes B.returns (fun t ht hW => ⟨r, rfl, hpost, ht⟩) (fun _ h => absurd h List.not_mem_nil) hd
theorem nar_z {r : Int32} (h : r = 0 ∨ r = 1) : narrow .boolean (.int r) = .int r := by rcases h with rfl | rfl <;> rfl
theorem met_rz {post : Int32 → Prop} (hy : plainName y.cls = true) (hw : ws = Cond.code y cc maxL (some .boolean) :: ws') (hn : (lg_sl as).length ≤ maxL) (hz : ∀ r, post r → r = 0 ∨ r = 1)
    (body : ∀ (p : Program) (e : Env) (s : State) (m : MethodId) (args : Array Value) (below : List Frame) (meth : Method) (c : Code) (H : Heap) (ls : Array Slot) (Q : State → Prop), p.tables.exec = Jvm.exec → c.code = cc → (∀ w ∈ ws, w.before args s = true) → s.vm.findClass y.cls = some m.cls → c.maxLocals = maxL → X (fun _ => False) s → s.heap = H → va_P D vwCl wc H → va_K D vwCl (tyL T) s → lv_has ls maxL (lv_args 0 as) →
      (∀ (r : Int32) (ls' : Array Slot) (pc : Nat), decode cc pc = .ok (.ireturn, 1) → post r → W p l e rm s m args below meth c H [] 0 0 Q (F0 m pc ls' [.int r])) → W p l e rm s m args below meth c H [] 0 0 Q (F0 m 0 ls [])) : RdI l y ws rm T X D as wc post := by
  refine Met.ofW (cc := cc) (maxL := maxL) (ret := some .boolean) hy hw ?_
  intro p e s m args below meth c s₁ B hml hv
  obtain ⟨rfl, hP, hK, hX⟩ := hv
  have hlocks := B.notSynchronized
  have hl := lv_entry as (n := maxL) hn
  rw [lg_entry_eq]
  refine body p e s m _ below meth c s.heap _ _ B.exec B.bytes (atoms_spec B.pre) (findClass_of_methodNamed B.named) hml hX rfl hP hK hl ?_
  intro r ls' pc hd hpost
  exact W.zret B.exec B.bytes B.returns (nar_z (hz r hpost)) (fun t ht hW => ⟨r, rfl, hpost, ht⟩) (fun _ h => absurd h List.not_mem_nil) hd
/-- a char -/
theorem met_rc {post : Int32 → Prop} (hy : plainName y.cls = true) (hw : ws = Cond.code y cc maxL (some .char) :: ws') (hn : (lg_sl as).length ≤ maxL) (hz : ∀ r, post r → narrow .char (.int r) = .int r)
    (body : ∀ (p : Program) (e : Env) (s : State) (m : MethodId) (args : Array Value) (below : List Frame) (meth : Method) (c : Code) (H : Heap) (ls : Array Slot) (Q : State → Prop), p.tables.exec = Jvm.exec → c.code = cc → (∀ w ∈ ws, w.before args s = true) → s.vm.findClass y.cls = some m.cls → c.maxLocals = maxL → X (fun _ => False) s → s.heap = H → va_P D vwCl wc H → va_K D vwCl (tyL T) s → lv_has ls maxL (lv_args 0 as) →
      (∀ (r : Int32) (ls' : Array Slot) (pc : Nat), decode cc pc = .ok (.ireturn, 1) → post r → W p l e rm s m args below meth c H [] 0 0 Q (F0 m pc ls' [.int r])) → W p l e rm s m args below meth c H [] 0 0 Q (F0 m 0 ls [])) : RdI l y ws rm T X D as wc post := by
  refine Met.ofW (cc := cc) (maxL := maxL) (ret := some .char) hy hw ?_
  intro p e s m args below meth c s₁ B hml hv
  obtain ⟨rfl, hP, hK, hX⟩ := hv
  have hlocks := B.notSynchronized
  have hl := lv_entry as (n := maxL) hn
  rw [lg_entry_eq]
  refine body p e s m _ below meth c s.heap _ _ B.exec B.bytes (atoms_spec B.pre) (findClass_of_methodNamed B.named) hml hX rfl hP hK hl ?_
  intro r ls' pc hd hpost
  exact W.zret B.exec B.bytes B.returns (hz r hpost) (fun t ht hW => ⟨r, rfl, hpost, ht⟩) (fun _ h => absurd h List.not_mem_nil) hd
variable {S : Type} {W' : S → va_W} {mc ms : Nat}
theorem met_mi {post : Int32 → S → Prop} (hy : plainName y.cls = true) (hw : ws = Cond.code y cc maxL (some .int) :: ws') (hn : (lg_sl as).length ≤ maxL)
    (body : ∀ (p : Program) (e : Env) (s : State) (m : MethodId) (args : Array Value) (below : List Frame) (meth : Method) (c : Code) (ls : Array Slot) (A : Nat → Prop) (Q : State → Prop), p.tables.exec = Jvm.exec → c.code = cc → (∀ w ∈ ws, w.before args s = true) → s.vm.findClass y.cls = some m.cls → c.maxLocals = maxL → X A s → va_P D vwCl wc s.heap → va_D A wc → va_K D vwCl (tyL T) s → va_S A s.heap s.heap [] → (∀ q, s.heap.size ≤ q → A q) → lv_has ls maxL (lv_args 0 as) →
      (∀ (H : Heap) (locs : List Loc) (r : Int32) (u : S) (ls' : Array Slot) (pc : Nat), decode cc pc = .ok (.ireturn, 1) → va_S A s.heap H locs → va_P D vwCl (W' u) H → va_D A (W' u) → post r u → W p l e rm s m args below meth c H locs mc ms Q (F0 m pc ls' [.int r])) → W p l e rm s m args below meth c s.heap [] 0 0 Q (F0 m 0 ls [])) : MuI l y ws rm T X D as wc post W' mc ms := by
  intro sz
  refine Met.ofW (cc := cc) (maxL := maxL) (ret := some .int) hy hw ?_
  intro p e s m args below meth c s₁ B hml hv
  obtain ⟨rfl, hsz, hP, hK, hD0, hX⟩ := hv
  subst hsz
  have hlocks := B.notSynchronized
  have hl := lv_entry as (n := maxL) hn
  rw [lg_entry_eq]
  refine body p e s m _ below meth c _ (va_A wc s.heap.size) _ B.exec B.bytes (atoms_spec B.pre) (findClass_of_methodNamed B.named) hml hX hP hD0.self hK va_S.rf (fun q h => Or.inr h) hl ?_
  intro H locs r u ls' pc hd hS hP' hD' hpost
  exact W.iret B.exec B.bytes B.returns (fun t ht hW => ⟨⟨r, u, rfl, hpost, by rw [ht]; exact hP', hD'⟩, hS.F ht⟩) hS.2.2 hd
theorem met_mz {post : Int32 → S → Prop} (hy : plainName y.cls = true) (hw : ws = Cond.code y cc maxL (some .boolean) :: ws') (hn : (lg_sl as).length ≤ maxL) (hz : ∀ r u, post r u → r = 0 ∨ r = 1)
    (body : ∀ (p : Program) (e : Env) (s : State) (m : MethodId) (args : Array Value) (below : List Frame) (meth : Method) (c : Code) (ls : Array Slot) (A : Nat → Prop) (Q : State → Prop), p.tables.exec = Jvm.exec → c.code = cc → (∀ w ∈ ws, w.before args s = true) → s.vm.findClass y.cls = some m.cls → c.maxLocals = maxL → X A s → va_P D vwCl wc s.heap → va_D A wc → va_K D vwCl (tyL T) s → va_S A s.heap s.heap [] → (∀ q, s.heap.size ≤ q → A q) → lv_has ls maxL (lv_args 0 as) →
      (∀ (H : Heap) (locs : List Loc) (r : Int32) (u : S) (ls' : Array Slot) (pc : Nat), decode cc pc = .ok (.ireturn, 1) → va_S A s.heap H locs → va_P D vwCl (W' u) H → va_D A (W' u) → post r u → W p l e rm s m args below meth c H locs mc ms Q (F0 m pc ls' [.int r])) → W p l e rm s m args below meth c s.heap [] 0 0 Q (F0 m 0 ls [])) : MuI l y ws rm T X D as wc post W' mc ms := by
  intro sz
  refine Met.ofW (cc := cc) (maxL := maxL) (ret := some .boolean) hy hw ?_
  intro p e s m args below meth c s₁ B hml hv
  obtain ⟨rfl, hsz, hP, hK, hD0, hX⟩ := hv
  subst hsz
  have hlocks := B.notSynchronized
  have hl := lv_entry as (n := maxL) hn
  rw [lg_entry_eq]
  refine body p e s m _ below meth c _ (va_A wc s.heap.size) _ B.exec B.bytes (atoms_spec B.pre) (findClass_of_methodNamed B.named) hml hX hP hD0.self hK va_S.rf (fun q h => Or.inr h) hl ?_
  intro H locs r u ls' pc hd hS hP' hD' hpost
  exact W.zret B.exec B.bytes B.returns (nar_z (hz r u hpost)) (fun t ht hW => ⟨⟨r, u, rfl, hpost, by rw [ht]; exact hP', hD'⟩, hS.F ht⟩) hS.2.2 hd
theorem met_mv {post : S → Prop} (hy : plainName y.cls = true) (hw : ws = Cond.code y cc maxL none :: ws') (hn : (lg_sl as).length ≤ maxL)
    (body : ∀ (p : Program) (e : Env) (s : State) (m : MethodId) (args : Array Value) (below : List Frame) (meth : Method) (c : Code) (ls : Array Slot) (A : Nat → Prop) (Q : State → Prop), p.tables.exec = Jvm.exec → c.code = cc → (∀ w ∈ ws, w.before args s = true) → s.vm.findClass y.cls = some m.cls → c.maxLocals = maxL → X A s → va_P D vwCl wc s.heap → va_D A wc → va_K D vwCl (tyL T) s → va_S A s.heap s.heap [] → (∀ q, s.heap.size ≤ q → A q) → lv_has ls maxL (lv_args 0 as) → meth.name = y.name →
      (∀ (H : Heap) (locs : List Loc) (u : S) (ls' : Array Slot) (pc : Nat), decode cc pc = .ok (.return_, 1) → va_S A s.heap H locs → va_P D vwCl (W' u) H → va_D A (W' u) → post u → W p l e rm s m args below meth c H locs mc ms Q (F0 m pc ls' [])) → W p l e rm s m args below meth c s.heap [] 0 0 Q (F0 m 0 ls [])) : MuV l y ws rm T X D as wc post W' mc ms := by
  intro sz
  refine Met.ofW (cc := cc) (maxL := maxL) (ret := none) hy hw ?_
  intro p e s m args below meth c s₁ B hml hv
  obtain ⟨rfl, hsz, hP, hK, hD0, hX⟩ := hv
  subst hsz
  have hlocks := B.notSynchronized
  have hl := lv_entry as (n := maxL) hn
  rw [lg_entry_eq]
  refine body p e s m _ below meth c _ (va_A wc s.heap.size) _ B.exec B.bytes (atoms_spec B.pre) (findClass_of_methodNamed B.named) hml hX hP hD0.self hK va_S.rf (fun q h => Or.inr h) hl (name_of_methodNamed B.named B.method).1 ?_
  intro H locs u ls' pc hd hS hP' hD' hpost
  exact W.vret B.exec B.bytes B.returns (fun t ht hW => ⟨⟨u, rfl, hpost, by rw [ht]; exact hP', hD'⟩, hS.F ht⟩) hS.2.2 hd
end BODY
/-! calls -/
section CALL
variable {p : Program} {l : Launch} {e : Env} {R : Room} {s : State} {m : MethodId} {args : Array Value} {below : List Frame} {meth : Method} {c : Code} {H : Heap} {locs : List Loc} {cells slots : Nat} {Q : State → Prop}
variable {y : MethodName} {bytes cc : ByteArray} {maxL nL mc ms n index pc : Nat} {ret : Option FieldType} {ws Ts : List Cond} {rm : Room} {own C host : String} {b : Addr} {As rest st : List Value} {ls : Array Slot}
variable {T : Nat → ClassId} {X : (Nat → Prop) → State → Prop} {D : va_G} {wc wr : va_W} {ci : Nat} {cq : vw_C} {fs : List Value}
theorem run_of {g : JFrame} {Qa : State → Outcome → State → Prop} {free : Addr → Prop} (h : va_Run p l e R s m args below meth c H locs cells slots mc ms g rest Qa free) : CallRun p l e R s m args below meth c H locs cells slots mc ms g rest Qa free := by
  intro T hT X
  obtain ⟨v, st₀, t, T', L, h0, X', hL, e1, -, hq, st⟩ := h T hT X
  exact ⟨v, st₀, t, T', L, h0, X', hL, e1, hq, st⟩
theorem callRi {post : Int32 → Prop} (S : CallFix p m c cc nL s args Ts own) (hM : RdI l y ws rm T X D (.ref b :: As) wc post) (cw : CallW R s args own C index y bytes maxL ret ws rm 0 0 n) (hP : va_P D vwCl wc H) (hK : va_K D vwCl (tyL T) s) (hXb : xBl X) (hX : ∀ U : State, U.heap = H → s.WarmedH U.vm → X (fun _ => False) U) (hc : vwCl[ci]? = some cq) (he : wc[0]? = some (b, .inr (ci, fs))) (hC : cq.1 = C) (hl : ls.size = nL) (hn : As.length = n) (hst : st = As.reverse ++ .ref b :: rest) (hroom : (rest.map fun v => v.category).sum ≤ 8) (hdg : decode cc pc = .ok (.invokevirtual index, 3)) (hf : cells ≤ R.cells ∧ slots ≤ R.slots)
    (kk : ∀ r : Int32, post r → W p l e R s m args below meth c H locs cells slots Q (F0 m (pc + 3) ls (.int r :: rest))) : W p l e R s m args below meth c H locs cells slots Q (F0 m pc ls st) := by
  subst hC
  exact vp_callSi (W.runV S hM cw ⟨rdP_bl hXb, va_recv hK hP hc he, fun U hU hW => ⟨rfl, by rw [hU]; exact hP, va_K.moved hW.alike hK, hX U hU hW⟩⟩ rfl hn hl hst (lv_room hroom) hdg hf) kk
theorem callRl {post : Int64 → Prop} (S : CallFix p m c cc nL s args Ts own) (hM : RdL l y ws rm T X D (.ref b :: As) wc post) (cw : CallW R s args own C index y bytes maxL ret ws rm 0 0 n) (hP : va_P D vwCl wc H) (hK : va_K D vwCl (tyL T) s) (hXb : xBl X) (hX : ∀ U : State, U.heap = H → s.WarmedH U.vm → X (fun _ => False) U) (hc : vwCl[ci]? = some cq) (he : wc[0]? = some (b, .inr (ci, fs))) (hC : cq.1 = C) (hl : ls.size = nL) (hn : As.length = n) (hst : st = As.reverse ++ .ref b :: rest) (hroom : (rest.map fun v => v.category).sum ≤ 8) (hdg : decode cc pc = .ok (.invokevirtual index, 3)) (hf : cells ≤ R.cells ∧ slots ≤ R.slots)
    (kk : ∀ r : Int64, post r → W p l e R s m args below meth c H locs cells slots Q (F0 m (pc + 3) ls (.long r :: rest))) : W p l e R s m args below meth c H locs cells slots Q (F0 m pc ls st) := by
  subst hC
  exact vp_callSl (W.runV S hM cw ⟨rdP_bl hXb, va_recv hK hP hc he, fun U hU hW => ⟨rfl, by rw [hU]; exact hP, va_K.moved hW.alike hK, hX U hU hW⟩⟩ rfl hn hl hst (lv_room hroom) hdg hf) kk
/-- a static reader -/
theorem callSi {post : Int32 → Prop} (S : CallFix p m c cc nL s args Ts own) (hM : RdI l y ws rm T X D As wc post) (cw : CallB R s args own index y bytes maxL ret ws rm 0 0 n ∧ (Cond.static y).before args s = true) (hP : va_P D vwCl wc H) (hK : va_K D vwCl (tyL T) s) (hXb : xBl X) (hX : ∀ U : State, U.heap = H → s.WarmedH U.vm → X (fun _ => False) U) (hl : ls.size = nL) (hn : As.length = n) (hst : st = As.reverse ++ rest) (hroom : (rest.map fun v => v.category).sum ≤ 8) (hdg : decode cc pc = .ok (.invokestatic index, 3)) (hf : cells ≤ R.cells ∧ slots ≤ R.slots)
    (kk : ∀ r : Int32, post r → W p l e R s m args below meth c H locs cells slots Q (F0 m (pc + 3) ls (.int r :: rest))) : W p l e R s m args below meth c H locs cells slots Q (F0 m pc ls st) :=
  vp_callSi (W.runS S hM cw ⟨rdP_bl hXb, fun U hU hW => ⟨rfl, by rw [hU]; exact hP, va_K.moved hW.alike hK, hX U hU hW⟩⟩ rfl hn hl hst (lv_room hroom) hdg hf) kk
theorem callSl {post : Int64 → Prop} (S : CallFix p m c cc nL s args Ts own) (hM : RdL l y ws rm T X D As wc post) (cw : CallB R s args own index y bytes maxL ret ws rm 0 0 n ∧ (Cond.static y).before args s = true) (hP : va_P D vwCl wc H) (hK : va_K D vwCl (tyL T) s) (hXb : xBl X) (hX : ∀ U : State, U.heap = H → s.WarmedH U.vm → X (fun _ => False) U) (hl : ls.size = nL) (hn : As.length = n) (hst : st = As.reverse ++ rest) (hroom : (rest.map fun v => v.category).sum ≤ 8) (hdg : decode cc pc = .ok (.invokestatic index, 3)) (hf : cells ≤ R.cells ∧ slots ≤ R.slots)
    (kk : ∀ r : Int64, post r → W p l e R s m args below meth c H locs cells slots Q (F0 m (pc + 3) ls (.long r :: rest))) : W p l e R s m args below meth c H locs cells slots Q (F0 m pc ls st) :=
  vp_callSl (W.runS S hM cw ⟨rdP_bl hXb, fun U hU hW => ⟨rfl, by rw [hU]; exact hP, va_K.moved hW.alike hK, hX U hU hW⟩⟩ rfl hn hl hst (lv_room hroom) hdg hf) kk
/-- a static reader of a nest mate -/
theorem callNi {post : Int32 → Prop} (S : CallFix p m c cc nL s args Ts own) (hM : RdI l y ws rm T X D As wc post) (cw : va_CN R s args own index y host bytes maxL ret ws rm 0 0 n ∧ (Cond.static y).before args s = true ∧ True) (hP : va_P D vwCl wc H) (hK : va_K D vwCl (tyL T) s) (hXb : xBl X) (hX : ∀ U : State, U.heap = H → s.WarmedH U.vm → X (fun _ => False) U) (hl : ls.size = nL) (hn : As.length = n) (hst : st = As.reverse ++ rest) (hroom : (rest.map fun v => v.category).sum ≤ 8) (hdg : decode cc pc = .ok (.invokestatic index, 3)) (hf : cells ≤ R.cells ∧ slots ≤ R.slots)
    (kk : ∀ r : Int32, post r → W p l e R s m args below meth c H locs cells slots Q (F0 m (pc + 3) ls (.int r :: rest))) : W p l e R s m args below meth c H locs cells slots Q (F0 m pc ls st) :=
  vp_callSi (run_of (va_runSN S hM cw ⟨rdP_bl hXb, fun U hU hW => ⟨rfl, by rw [hU]; exact hP, va_K.moved hW.alike hK, hX U hU hW⟩⟩ rfl hn hl hst (lv_room hroom) hdg hf)) kk
variable {A0 : Nat → Prop} {H0 : Heap} {S9 : Type} {W' : S9 → va_W}
/-- a mover: its cells stand first, the rest stays -/
theorem callMi {post : Int32 → S9 → Prop} (S : CallFix p m c cc nL s args Ts own) (hM : MuI l y ws rm T X D (.ref b :: As) wc post W' mc ms) (cw : CallW R s args own C index y bytes maxL ret ws rm mc ms n) (hP : va_P D vwCl (wc ++ wr) H) (hD : va_D A0 (wc ++ wr)) (hK : va_K D vwCl (tyL T) s) (hS : va_S A0 H0 H locs) (hA : ∀ q, H0.size ≤ q → A0 q) (hXb : xBl X) (hX : ∀ U : State, U.heap = H → s.WarmedH U.vm → X (va_A wc H.size) U) (hc : vwCl[ci]? = some cq) (he : wc[0]? = some (b, .inr (ci, fs))) (hC : cq.1 = C) (hl : ls.size = nL) (hn : As.length = n) (hst : st = As.reverse ++ .ref b :: rest) (hroom : (rest.map fun v => v.category).sum ≤ 8) (hdg : decode cc pc = .ok (.invokevirtual index, 3)) (hf : cells + mc ≤ R.cells ∧ slots + ms ≤ R.slots)
    (kk : ∀ (r : Int32) (u : S9) (H1 : Heap) (locs1 : List Loc), post r u → va_P D vwCl (W' u ++ wr) H1 → va_D A0 (W' u ++ wr) → va_S A0 H0 H1 locs1 → (∀ q : Nat, q < H.size → ¬ va_A wc H.size q → H1[q]? = H[q]?) → W p l e R s m args below meth c H1 locs1 (cells + mc) (slots + ms) Q (F0 m (pc + 3) ls (.int r :: rest))) : W p l e R s m args below meth c H locs cells slots Q (F0 m pc ls st) := by
  subst hC
  have hPc := wP_left hP
  have hDc := wD_left hD
  have hF := fr_free hD hS hA
  refine va_calli (va_runV S (hM H.size) cw ⟨muP_bl hXb, va_recv hK hPc hc he, fun U hU hW => ⟨rfl, by rw [hU], by rw [hU]; exact hPc, va_K.moved hW.alike hK, hDc.weaken (fun _ _ _ _ => trivial), hX U hU hW⟩⟩ rfl hn hl hst (lv_room hroom) hdg hf) hS (fun q _ h => hF q h) hF (fun r u t H1 locs1 ht hvm hw hB hz1 hk1 hS1 => ?_)
  obtain ⟨hP1, hD1⟩ := hB
  rw [ht] at hP1
  obtain ⟨j1, j2⟩ := fr_join hP hD hk1 hF hP1 hD1
  exact kk r u H1 locs1 hw j1 j2 hS1 hk1
theorem callMv {post : S9 → Prop} (S : CallFix p m c cc nL s args Ts own) (hM : MuV l y ws rm T X D (.ref b :: As) wc post W' mc ms) (cw : CallW R s args own C index y bytes maxL ret ws rm mc ms n) (hP : va_P D vwCl (wc ++ wr) H) (hD : va_D A0 (wc ++ wr)) (hK : va_K D vwCl (tyL T) s) (hS : va_S A0 H0 H locs) (hA : ∀ q, H0.size ≤ q → A0 q) (hXb : xBl X) (hX : ∀ U : State, U.heap = H → s.WarmedH U.vm → X (va_A wc H.size) U) (hc : vwCl[ci]? = some cq) (he : wc[0]? = some (b, .inr (ci, fs))) (hC : cq.1 = C) (hl : ls.size = nL) (hn : As.length = n) (hst : st = As.reverse ++ .ref b :: rest) (hroom : (rest.map fun v => v.category).sum ≤ 8) (hdg : decode cc pc = .ok (.invokevirtual index, 3)) (hf : cells + mc ≤ R.cells ∧ slots + ms ≤ R.slots)
    (kk : ∀ (u : S9) (H1 : Heap) (locs1 : List Loc), post u → va_P D vwCl (W' u ++ wr) H1 → va_D A0 (W' u ++ wr) → va_S A0 H0 H1 locs1 → (∀ q : Nat, q < H.size → ¬ va_A wc H.size q → H1[q]? = H[q]?) → W p l e R s m args below meth c H1 locs1 (cells + mc) (slots + ms) Q (F0 m (pc + 3) ls rest)) : W p l e R s m args below meth c H locs cells slots Q (F0 m pc ls st) := by
  subst hC
  have hPc := wP_left hP
  have hDc := wD_left hD
  have hF := fr_free hD hS hA
  refine va_callv (va_runV S (hM H.size) cw ⟨muP_bl hXb, va_recv hK hPc hc he, fun U hU hW => ⟨rfl, by rw [hU], by rw [hU]; exact hPc, va_K.moved hW.alike hK, hDc.weaken (fun _ _ _ _ => trivial), hX U hU hW⟩⟩ rfl hn hl hst (lv_room hroom) hdg hf) hS (fun q _ h => hF q h) hF (fun u t H1 locs1 ht hvm hw hB hz1 hk1 hS1 => ?_)
  obtain ⟨hP1, hD1⟩ := hB
  rw [ht] at hP1
  obtain ⟨j1, j2⟩ := fr_join hP hD hk1 hF hP1 hD1
  exact kk u H1 locs1 hw j1 j2 hS1 hk1
/-- a static mover without an answer -/
theorem callSv {post : S9 → Prop} (S : CallFix p m c cc nL s args Ts own) (hM : MuV l y ws rm T X D As wc post W' mc ms) (cw : CallB R s args own index y bytes maxL ret ws rm mc ms n ∧ (Cond.static y).before args s = true) (hP : va_P D vwCl (wc ++ wr) H) (hD : va_D A0 (wc ++ wr)) (hK : va_K D vwCl (tyL T) s) (hS : va_S A0 H0 H locs) (hA : ∀ q, H0.size ≤ q → A0 q) (hXb : xBl X) (hX : ∀ U : State, U.heap = H → s.WarmedH U.vm → X (va_A wc H.size) U) (hl : ls.size = nL) (hn : As.length = n) (hst : st = As.reverse ++ rest) (hroom : (rest.map fun v => v.category).sum ≤ 8) (hdg : decode cc pc = .ok (.invokestatic index, 3)) (hf : cells + mc ≤ R.cells ∧ slots + ms ≤ R.slots)
    (kk : ∀ (u : S9) (H1 : Heap) (locs1 : List Loc), post u → va_P D vwCl (W' u ++ wr) H1 → va_D A0 (W' u ++ wr) → va_S A0 H0 H1 locs1 → W p l e R s m args below meth c H1 locs1 (cells + mc) (slots + ms) Q (F0 m (pc + 3) ls rest)) : W p l e R s m args below meth c H locs cells slots Q (F0 m pc ls st) := by
  have hPc := wP_left hP
  have hDc := wD_left hD
  have hF := fr_free hD hS hA
  refine va_callv (va_runS S (hM H.size) cw ⟨muP_bl hXb, fun U hU hW => ⟨rfl, by rw [hU], by rw [hU]; exact hPc, va_K.moved hW.alike hK, hDc.weaken (fun _ _ _ _ => trivial), hX U hU hW⟩⟩ rfl hn hl hst (lv_room hroom) hdg hf) hS (fun q _ h => hF q h) hF (fun u t H1 locs1 ht hvm hw hB hz1 hk1 hS1 => ?_)
  obtain ⟨hP1, hD1⟩ := hB
  rw [ht] at hP1
  obtain ⟨j1, j2⟩ := fr_join hP hD hk1 hF hP1 hD1
  exact kk u H1 locs1 hw j1 j2 hS1
/-- a constructor -/
theorem callIv {post : S9 → Prop} (S : CallFix p m c cc nL s args Ts own) (hM : MuV l y ws rm T X D (.ref b :: As) wc post W' mc ms) (cw : CallB R s args own index y bytes maxL none ws rm mc ms n ∧ y.name = "<init>" ∧ (Cond.instanceMethod y).before args s = true) (hP : va_P D vwCl (wc ++ wr) H) (hD : va_D A0 (wc ++ wr)) (hK : va_K D vwCl (tyL T) s) (hS : va_S A0 H0 H locs) (hA : ∀ q, H0.size ≤ q → A0 q) (hXb : xBl X) (hX : ∀ U : State, U.heap = H → s.WarmedH U.vm → X (va_A wc H.size) U) (hl : ls.size = nL) (hn : As.length = n) (hst : st = As.reverse ++ .ref b :: rest) (hroom : (rest.map fun v => v.category).sum ≤ 8) (hdg : decode cc pc = .ok (.invokespecial index, 3)) (hf : cells + mc ≤ R.cells ∧ slots + ms ≤ R.slots)
    (kk : ∀ (u : S9) (H1 : Heap) (locs1 : List Loc), post u → va_P D vwCl (W' u ++ wr) H1 → va_D A0 (W' u ++ wr) → va_S A0 H0 H1 locs1 → W p l e R s m args below meth c H1 locs1 (cells + mc) (slots + ms) Q (F0 m (pc + 3) ls rest)) : W p l e R s m args below meth c H locs cells slots Q (F0 m pc ls st) := by
  have hPc := wP_left hP
  have hDc := wD_left hD
  have hF := fr_free hD hS hA
  refine va_callv (va_runI S (hM H.size) cw ⟨muP_bl hXb, fun U hU hW => ⟨rfl, by rw [hU], by rw [hU]; exact hPc, va_K.moved hW.alike hK, hDc.weaken (fun _ _ _ _ => trivial), hX U hU hW⟩⟩ rfl hn hl hst (lv_room hroom) hdg hf) hS (fun q _ h => hF q h) hF (fun u t H1 locs1 ht hvm hw hB hz1 hk1 hS1 => ?_)
  obtain ⟨hP1, hD1⟩ := hB
  rw [ht] at hP1
  obtain ⟨j1, j2⟩ := fr_join hP hD hk1 hF hP1 hD1
  exact kk u H1 locs1 hw j1 j2 hS1
theorem callIN {post : S9 → Prop} (S : CallFix p m c cc nL s args Ts own) (hM : MuV l y ws rm T X D (.ref b :: As) wc post W' mc ms) (cw : va_CN R s args own index y host bytes maxL none ws rm mc ms n ∧ y.name = "<init>" ∧ (Cond.instanceMethod y).before args s = true) (hP : va_P D vwCl (wc ++ wr) H) (hD : va_D A0 (wc ++ wr)) (hK : va_K D vwCl (tyL T) s) (hS : va_S A0 H0 H locs) (hA : ∀ q, H0.size ≤ q → A0 q) (hXb : xBl X) (hX : ∀ U : State, U.heap = H → s.WarmedH U.vm → X (va_A wc H.size) U) (hl : ls.size = nL) (hn : As.length = n) (hst : st = As.reverse ++ .ref b :: rest) (hroom : (rest.map fun v => v.category).sum ≤ 8) (hdg : decode cc pc = .ok (.invokespecial index, 3)) (hf : cells + mc ≤ R.cells ∧ slots + ms ≤ R.slots)
    (kk : ∀ (u : S9) (H1 : Heap) (locs1 : List Loc), post u → va_P D vwCl (W' u ++ wr) H1 → va_D A0 (W' u ++ wr) → va_S A0 H0 H1 locs1 → W p l e R s m args below meth c H1 locs1 (cells + mc) (slots + ms) Q (F0 m (pc + 3) ls rest)) : W p l e R s m args below meth c H locs cells slots Q (F0 m pc ls st) := by
  have hPc := wP_left hP
  have hDc := wD_left hD
  have hF := fr_free hD hS hA
  refine va_callv (va_runIN S (hM H.size) cw ⟨muP_bl hXb, fun U hU hW => ⟨rfl, by rw [hU], by rw [hU]; exact hPc, va_K.moved hW.alike hK, hDc.weaken (fun _ _ _ _ => trivial), hX U hU hW⟩⟩ rfl hn hl hst (lv_room hroom) hdg hf) hS (fun q _ h => hF q h) hF (fun u t H1 locs1 ht hvm hw hB hz1 hk1 hS1 => ?_)
  obtain ⟨hP1, hD1⟩ := hB
  rw [ht] at hP1
  obtain ⟨j1, j2⟩ := fr_join hP hD hk1 hF hP1 hD1
  exact kk u H1 locs1 hw j1 j2 hS1
/-- the value on top, said otherwise -/
theorem lv_tpi {x z : Int32} (h : x = z) (k : W p l e R s m args below meth c H locs cells slots Q (F0 m pc ls (.int z :: rest))) : W p l e R s m args below meth c H locs cells slots Q (F0 m pc ls (.int x :: rest)) := h ▸ k
theorem lv_tpl {x z : Int64} (h : x = z) (k : W p l e R s m args below meth c H locs cells slots Q (F0 m pc ls (.long z :: rest))) : W p l e R s m args below meth c H locs cells slots Q (F0 m pc ls (.long x :: rest)) := h ▸ k
theorem lv_tpv {x z : Value} (h : x = z) (k : W p l e R s m args below meth c H locs cells slots Q (F0 m pc ls (z :: rest))) : W p l e R s m args below meth c H locs cells slots Q (F0 m pc ls (x :: rest)) := h ▸ k
end CALL
