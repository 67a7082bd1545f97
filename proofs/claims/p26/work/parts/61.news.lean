/-! objects and arrays that are made; what a new object of each class holds -/
theorem ra_eq {U : State} {c1 c2 : ClassId} {ty : FieldType} (h1 : va_RA U c1 ty) (h2 : va_RA U c2 ty) : c1 = c2 := by
  cases ty with
  | object C =>
    obtain ⟨_, _, _, _, _, e1⟩ := h1
    obtain ⟨_, _, _, _, _, e2⟩ := h2
    exact Option.some.inj (Eq.trans (Eq.symm e1) e2)
  | _ => exact Option.some.inj (Eq.trans (Eq.symm h1) h2)
section NEWS
variable {p : Program} {l : Launch} {e : Env} {R : Room} {s : State} {m : MethodId} {args : Array Value} {below : List Frame} {meth : Method} {c : Code} {H : Heap} {locs : List Loc} {cells slots : Nat} {Q : State → Prop}
variable {cc : ByteArray} {pc : Nat} {ls : Array Slot} {rest : List Value} {D : va_G} {A : Nat → Prop} {T : Nat → ClassId} {ws : va_W} {H0 : Heap}
theorem k_same {tys : List (ClassId × FieldType)} {cA cT : ClassId} {ty : FieldType} {t0 : Nat} (ht : tys[t0]? = some (cT, ty)) (h1 : va_K D vwCl (tys ++ [(cA, ty)]) s) : cA = cT := by
  have e1 := (h1.2 tys.length (cA, ty) (by rw [List.getElem?_append_right (Nat.le_refl _), Nat.sub_self]; rfl)).2
  have hl := (List.getElem?_eq_some_iff.mp ht).1
  have e2 := (h1.2 t0 (cT, ty) (by rw [List.getElem?_append_left hl]; exact ht)).2
  exact ra_eq e1 e2
/-- an array of numbers: its class is the known one; it stands in front -/
theorem nw_a (hx : p.tables.exec = Jvm.exec) (hb : c.code = cc) {atype : ArrayType} (harr : (Cond.arrayClass (newarray.typeOf atype)).before args s = true) {ty : FieldType} (hty : newarray.typeOf atype = ty) (t0 : Nat) {cT : ClassId} (ht : (tyL T)[t0]? = some (cT, ty)) (hK : va_K D vwCl (tyL T) s) (hP : va_P D vwCl ws H) (hD : va_D A ws) (hS : va_S A H0 H locs) (hA : ∀ q, H0.size ≤ q → A q)
    {n : Int32} {N' : Nat} {a0 : vp_A} (ha : ∀ cA : ClassId, vp_cell cA a0 = arrV cA N' (fun _ => defaultValue ty)) (hn : ¬ n < 0) (hN : n.toNatClampNeg = N') (hbytes : N' * componentBytes ty ≤ 536870912) (hcells : cells + 1 ≤ R.cells) (hslots : slots + N' ≤ R.slots) (hdg : decode cc pc = .ok (.newarray atype, 2))
    (kk : ∀ (q : Nat) (H1 : Heap), va_P D vwCl ([(q, .inl (cT, a0))] ++ ws) H1 → va_D A ([(q, .inl (cT, a0))] ++ ws) → va_S A H0 H1 locs →
      W p l e R s m args below meth c H1 locs (cells + 1) (slots + N') Q (F0 m (pc + 2) ls (.ref q :: rest))) : W p l e R s m args below meth c H locs cells slots Q (F0 m pc ls (.int n :: rest)) := by
  refine va_newa hx hb harr hty hK hP hD hS hA ha hn hN hbytes hcells hslots hdg (fun q cA H1 hK1 hP1 hD1 hS1 => ?_)
  have e1 := k_same ht hK1
  subst e1
  exact kk q H1 (wP_perm List.perm_append_comm hP1) (wD_perm List.perm_append_comm hD1) hS1
/-- an array of references -/
theorem nw_q (hx : p.tables.exec = Jvm.exec) (hb : c.code = cc) {own C : String} {index : Nat} (hown : s.vm.findClass own = some m.cls) (hclink : (Cond.classLink own index C).before args s = true) (hover : va_AO C s) (t0 : Nat) {cT : ClassId} (ht : (tyL T)[t0]? = some (cT, .object C)) (hK : va_K D vwCl (tyL T) s) (hP : va_P D vwCl ws H) (hD : va_D A ws) (hS : va_S A H0 H locs) (hA : ∀ q, H0.size ≤ q → A q)
    {n : Int32} {N' : Nat} (hn : ¬ n < 0) (hN : n.toNatClampNeg = N') (hbytes : N' * 4 ≤ 536870912) (hcells : cells + 1 ≤ R.cells) (hslots : slots + N' ≤ R.slots) (hdg : decode cc pc = .ok (.anewarray index, 3))
    (kk : ∀ (q : Nat) (H1 : Heap), va_P D vwCl ([(q, .inl (cT, N', .inr (.inr (.inr (.inr (fun _ => none))))))] ++ ws) H1 → va_D A ([(q, .inl (cT, N', .inr (.inr (.inr (.inr (fun _ => none))))))] ++ ws) → va_S A H0 H1 locs →
      W p l e R s m args below meth c H1 locs (cells + 1) (slots + N') Q (F0 m (pc + 3) ls (.ref q :: rest))) : W p l e R s m args below meth c H locs cells slots Q (F0 m pc ls (.int n :: rest)) := by
  refine va_newq hx hb hown hclink hover hK hP hD hS hA hn hN hbytes hcells hslots hdg (fun q cA H1 hK1 hP1 hD1 hS1 => ?_)
  have e1 := k_same ht hK1
  subst e1
  exact kk q H1 (wP_perm List.perm_append_comm hP1) (wD_perm List.perm_append_comm hD1) hS1
/-- an object: it stands in front -/
theorem nw_o {Ts : List Cond} {own C : String} {TT : u_T} {N ci index : Nat} (hx : p.tables.exec = Jvm.exec) (hb : c.code = cc) (hts : ∀ w ∈ Ts, w.before args s = true) (hin : ∀ w ∈ u_ws C TT N, w ∈ Ts) (ty : Nat → FieldType) (hty : ∀ k, k < N → parseFieldDescriptor (TT k).2.2.1 = some (ty k)) (hown : s.vm.findClass own = some m.cls) (hcl : (Cond.classLink own index C).before args s = true) (hinst : (Cond.instantiable C N).before args s = true) (hini : (Cond.initialized C).before args s = true)
    (hK : va_K D vwCl (tyL T) s) (hP : va_P D vwCl ws H) (hD : va_D A ws) (hS : va_S A H0 H locs) (hA : ∀ q, H0.size ≤ q → A q) (hc : vwCl[ci]? = some (C, TT, N)) {fs : List Value} (hfs : ∀ j, j < N → defaultValue (ty j) = vp_V fs j) (hcells : cells + 1 ≤ R.cells) (hslots : slots + N ≤ R.slots) (hdg : decode cc pc = .ok (.new index, 3))
    (kk : ∀ (q : Nat) (H1 : Heap), va_P D vwCl ([(q, .inr (ci, fs))] ++ ws) H1 → va_D A ([(q, .inr (ci, fs))] ++ ws) → va_S A H0 H1 locs →
      W p l e R s m args below meth c H1 locs (cells + 1) (slots + N) Q (F0 m (pc + 3) ls (.ref q :: rest))) : W p l e R s m args below meth c H locs cells slots Q (F0 m pc ls rest) :=
  va_new hx hb hts hin ty hty hown hcl hinst hini hK hP hD hS hA hc hfs hcells hslots hdg (fun q H1 hP1 hD1 hS1 => kk q H1 (wP_perm List.perm_append_comm hP1) (wD_perm List.perm_append_comm hD1) hS1)
end NEWS
/-- the numbers of a new pair; a new state -/
def pV0 : Nat → Int32
  | 0 => 1
  | 1 => 2
  | 8 => 10
  | _ => 0
def pG0 : Nat → Int64 := fun _ => 0
def sg0 : SG := (fun _ => 0, fun _ => pV0, fun _ => pG0)
theorem pV0_ok : kOk pV0 := by
  unfold kOk kDp
  decide
theorem sg0_ok : gOk sg0 := fun _ _ => pV0_ok
def ad4 {α : Type} (x0 x1 x2 x3 : α) : Nat → α
  | 0 => x0
  | 1 => x1
  | 2 => x2
  | _ => x3
def ad10 (x0 x1 x2 x3 x4 x5 x6 x7 x8 x9 : Nat) : Nat → Nat
  | 0 => x0
  | 1 => x1
  | 2 => x2
  | 3 => x3
  | 4 => x4
  | 5 => x5
  | 6 => x6
  | 7 => x7
  | 8 => x8
  | _ => x9
def ad6 (x0 x1 x2 x3 x4 x5 : Nat) : Nat → Nat
  | 0 => x0
  | 1 => x1
  | 2 => x2
  | 3 => x3
  | 4 => x4
  | _ => x5
def mv0 : Nat → Int32
  | 3 => -5
  | 4 => -5
  | _ => 0
def z0 : Nat → Int32 := fun _ => 0
def zL : Nat → Int64 := fun _ => 0
theorem lt6c {p : Nat} (hp : p < 6) : p = 0 ∨ p = 1 ∨ p = 2 ∨ p = 3 ∨ p = 4 ∨ p = 5 := by omega
