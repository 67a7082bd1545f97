/-! a reader of the library -/
theorem met_rlF {l : Launch} {y : MethodName} {ws ws' : List Cond} {rm : Room} {T : Nat → ClassId} {X : (Nat → Prop) → State → Prop} {D : va_G} {as : List Value} {wc : va_W} {cc : ByteArray} {maxL : Nat} {post : Int64 → Prop} (hy : plainFor y = true) (hw : ws = Cond.code y cc maxL (some .long) :: ws') (hn : (lg_sl as).length ≤ maxL)
    (body : ∀ (p : Program) (e : Env) (s : State) (m : MethodId) (args : Array Value) (below : List Frame) (meth : Method) (c : Code) (H : Heap) (ls : Array Slot) (Q : State → Prop), p.tables.exec = Jvm.exec → c.code = cc → (∀ w ∈ ws, w.before args s = true) → s.vm.findClass y.cls = some m.cls → c.maxLocals = maxL → X (fun _ => False) s → s.heap = H → va_P D vwCl wc H → va_K D vwCl (tyL T) s → lv_has ls maxL (lv_args 0 as) →
      (∀ (r : Int64) (ls' : Array Slot) (pc : Nat), decode cc pc = .ok (.lreturn, 1) → post r → W p l e rm s m args below meth c H [] 0 0 Q (F0 m pc ls' [.long r])) → W p l e rm s m args below meth c H [] 0 0 Q (F0 m 0 ls [])) : RdL l y ws rm T X D as wc post := by
  refine va_MetF (cc := cc) (maxL := maxL) (ret := some .long) hy hw ?_
  intro p e s m args below meth c s₁ B hml hv
  obtain ⟨rfl, hP, hK, hX⟩ := hv
  have hlocks := B.notSynchronized
  have hl := lv_entry as (n := maxL) hn
  rw [lg_entry_eq]
  refine body p e s m _ below meth c s.heap _ _ B.exec B.bytes (atoms_spec B.pre) (findClass_of_methodNamed B.named) hml hX rfl hP hK hl ?_
  intro r ls' pc hd hpost
  exact W.lret B.exec B.bytes B.returns (fun t ht hW => ⟨r, rfl, hpost, ht⟩) (fun _ h => absurd h List.not_mem_nil) hd
