/-! the law: its world; calls of its own methods -/
section CUTS
variable {D : va_G} {cl : List vw_C} {H : Heap} {A : Nat → Prop} {x1 x2 x3 x4 x5 x6 : va_W} {rest : List va_W}
theorem a_2 : fl (x1 :: x2 :: rest) = (x1 ++ x2) ++ fl rest := by
  show x1 ++ (x2 ++ fl rest) = _
  rw [List.append_assoc]
theorem a_3 : fl (x1 :: x2 :: x3 :: rest) = (x1 ++ (x2 ++ x3)) ++ fl rest := by
  show x1 ++ (x2 ++ (x3 ++ fl rest)) = _
  rw [List.append_assoc, List.append_assoc]
theorem a_4 : fl (x1 :: x2 :: x3 :: x4 :: rest) = (x1 ++ (x2 ++ (x3 ++ x4))) ++ fl rest := by
  show x1 ++ (x2 ++ (x3 ++ (x4 ++ fl rest))) = _
  rw [List.append_assoc, List.append_assoc, List.append_assoc]
theorem a_5 : fl (x1 :: x2 :: x3 :: x4 :: x5 :: rest) = (x1 ++ (x2 ++ (x3 ++ (x4 ++ x5)))) ++ fl rest := by
  show x1 ++ (x2 ++ (x3 ++ (x4 ++ (x5 ++ fl rest)))) = _
  rw [List.append_assoc, List.append_assoc, List.append_assoc, List.append_assoc]
theorem a_6 : fl (x1 :: x2 :: x3 :: x4 :: x5 :: x6 :: rest) = (x1 ++ (x2 ++ (x3 ++ (x4 ++ (x5 ++ x6))))) ++ fl rest := by
  show x1 ++ (x2 ++ (x3 ++ (x4 ++ (x5 ++ (x6 ++ fl rest))))) = _
  rw [List.append_assoc, List.append_assoc, List.append_assoc, List.append_assoc, List.append_assoc]
theorem fP1 : va_P D cl (fl (x1 :: rest)) H ↔ va_P D cl (x1 ++ fl rest) H := Iff.rfl
theorem fD1 : va_D A (fl (x1 :: rest)) ↔ va_D A (x1 ++ fl rest) := Iff.rfl
theorem fP2 : va_P D cl (fl (x1 :: x2 :: rest)) H ↔ va_P D cl ((x1 ++ x2) ++ fl rest) H := by rw [a_2]
theorem fD2 : va_D A (fl (x1 :: x2 :: rest)) ↔ va_D A ((x1 ++ x2) ++ fl rest) := by rw [a_2]
theorem fP3 : va_P D cl (fl (x1 :: x2 :: x3 :: rest)) H ↔ va_P D cl ((x1 ++ (x2 ++ x3)) ++ fl rest) H := by rw [a_3]
theorem fD3 : va_D A (fl (x1 :: x2 :: x3 :: rest)) ↔ va_D A ((x1 ++ (x2 ++ x3)) ++ fl rest) := by rw [a_3]
theorem fP4 : va_P D cl (fl (x1 :: x2 :: x3 :: x4 :: rest)) H ↔ va_P D cl ((x1 ++ (x2 ++ (x3 ++ x4))) ++ fl rest) H := by rw [a_4]
theorem fD4 : va_D A (fl (x1 :: x2 :: x3 :: x4 :: rest)) ↔ va_D A ((x1 ++ (x2 ++ (x3 ++ x4))) ++ fl rest) := by rw [a_4]
theorem fP5 : va_P D cl (fl (x1 :: x2 :: x3 :: x4 :: x5 :: rest)) H ↔ va_P D cl ((x1 ++ (x2 ++ (x3 ++ (x4 ++ x5)))) ++ fl rest) H := by rw [a_5]
theorem fD5 : va_D A (fl (x1 :: x2 :: x3 :: x4 :: x5 :: rest)) ↔ va_D A ((x1 ++ (x2 ++ (x3 ++ (x4 ++ x5)))) ++ fl rest) := by rw [a_5]
theorem fP6 : va_P D cl (fl (x1 :: x2 :: x3 :: x4 :: x5 :: x6 :: rest)) H ↔ va_P D cl ((x1 ++ (x2 ++ (x3 ++ (x4 ++ (x5 ++ x6))))) ++ fl rest) H := by rw [a_6]
theorem fD6 : va_D A (fl (x1 :: x2 :: x3 :: x4 :: x5 :: x6 :: rest)) ↔ va_D A ((x1 ++ (x2 ++ (x3 ++ (x4 ++ (x5 ++ x6))))) ++ fl rest) := by rw [a_6]
end CUTS
section CALLP
variable {p : Program} {l : Launch} {e : Env} {R : Room} {s : State} {m : MethodId} {args : Array Value} {below : List Frame} {meth : Method} {c : Code} {H : Heap} {locs : List Loc} {cells slots : Nat} {Q : State → Prop}
variable {y : MethodName} {bytes cc : ByteArray} {maxL nL mc ms n index pc : Nat} {ret : Option FieldType} {ws Ts : List Cond} {rm : Room} {own C host : String} {b : Addr} {As rest st : List Value} {ls : Array Slot}
variable {T : Nat → ClassId} {X : (Nat → Prop) → State → Prop} {D : va_G} {wc wr : va_W} {ci : Nat} {cq : vw_C} {fs : List Value}
variable {A0 : Nat → Prop} {H0 : Heap} {S9 : Type} {W' : S9 → va_W}
/-- a static mover with an answer -/
theorem callSm {post : Int32 → S9 → Prop} (S : CallFix p m c cc nL s args Ts own) (hM : MuI l y ws rm T X D As wc post W' mc ms) (cw : CallB R s args own index y bytes maxL ret ws rm mc ms n ∧ (Cond.static y).before args s = true) (hP : va_P D vwCl (wc ++ wr) H) (hD : va_D A0 (wc ++ wr)) (hK : va_K D vwCl (tyL T) s) (hS : va_S A0 H0 H locs) (hA : ∀ q, H0.size ≤ q → A0 q) (hXb : xBl X) (hX : ∀ U : State, U.heap = H → s.WarmedH U.vm → X (va_A wc H.size) U) (hl : ls.size = nL) (hn : As.length = n) (hst : st = As.reverse ++ rest) (hroom : (rest.map fun v => v.category).sum ≤ 8) (hdg : decode cc pc = .ok (.invokestatic index, 3)) (hf : cells + mc ≤ R.cells ∧ slots + ms ≤ R.slots)
    (kk : ∀ (r : Int32) (u : S9) (H1 : Heap) (locs1 : List Loc), post r u → va_P D vwCl (W' u ++ wr) H1 → va_D A0 (W' u ++ wr) → va_S A0 H0 H1 locs1 → W p l e R s m args below meth c H1 locs1 (cells + mc) (slots + ms) Q (F0 m (pc + 3) ls (.int r :: rest))) : W p l e R s m args below meth c H locs cells slots Q (F0 m pc ls st) := by
  have hPc := wP_left hP
  have hDc := wD_left hD
  have hF := fr_free hD hS hA
  refine va_calli (va_runS S (hM H.size) cw ⟨muP_bl hXb, fun U hU hW => ⟨rfl, by rw [hU], by rw [hU]; exact hPc, va_K.moved hW.alike hK, hDc.weaken (fun _ _ _ _ => trivial), hX U hU hW⟩⟩ rfl hn hl hst (lv_room hroom) hdg hf) hS (fun q _ h => hF q h) hF (fun r u t H1 locs1 ht hvm hw hB hz1 hk1 hS1 => ?_)
  obtain ⟨hP1, hD1⟩ := hB
  rw [ht] at hP1
  obtain ⟨j1, j2⟩ := fr_join hP hD hk1 hF hP1 hD1
  exact kk r u H1 locs1 hw j1 j2 hS1
end CALLP
abbrev siZ (T : Nat → ClassId) (y : Nat → Nat) : va_W := siW T y z0 z0 z0 z0 z0 0
/-- the object and all its cells -/
abbrev oW (T : Nat → ClassId) (z : Nat) (b1 b2 b3 h : Nat → Nat) (a q : Nat) (y : Nat → Nat) (d : Nat → Nat → Nat) (n : Nat) (σ : Nat → SG) (g gb : SG) (V : Nat → Int32) (G : Nat → Int64) : va_W := fl [obW z b1 b2 b3 h a y 0 0 0 0, sgW T b1 g, hiW T h d n σ, sgW T b2 gb, sgW T b3 sg0, plW T a q V G, siZ T y]
abbrev OSt : Type := ((Nat → Nat → Nat) × Nat × (Nat → SG)) × (SG × SG) × (Nat → Int32) × (Nat → Int64)
abbrev oU (T : Nat → ClassId) (z : Nat) (b1 b2 b3 h : Nat → Nat) (a q : Nat) (y : Nat → Nat) (u : OSt) : va_W := oW T z b1 b2 b3 h a q y u.1.1 u.1.2.1 u.1.2.2 u.2.1.1 u.2.1.2 u.2.2.1 u.2.2.2
section OW
variable {T : Nat → ClassId} {D : va_G} {H : Heap} {A : Nat → Prop} {z a q n : Nat} {b1 b2 b3 h y : Nat → Nat} {d : Nat → Nat → Nat} {σ : Nat → SG} {g gb : SG} {V : Nat → Int32} {G : Nat → Int64}
theorem oW_rd (hP : va_P D vwCl (oW T z b1 b2 b3 h a q y d n σ g gb V G) H) : va_P D vwCl (obW z b1 b2 b3 h a y 0 0 0 0 ++ sgW T b1 g) H := wP_left (fP2.mp hP)
theorem cnt_p {o9 sA sT hA hB hT s2 s3 p0 yA yB : va_W} (h : va_P D vwCl (fl [o9, sA ++ sT, (hA ++ hB) ++ hT, s2, s3, p0, yA ++ yB]) H) : va_P D vwCl (o9 ++ (sA ++ (hA ++ (yA ++ sT)))) H :=
  wP_of h (fun x hx => by
    simp only [fl, List.flatten_cons, List.flatten_nil, List.mem_append] at hx ⊢
    rcases hx with k | k | k | k | k
    · exact Or.inl k
    · exact Or.inr (Or.inl (Or.inl k))
    · exact Or.inr (Or.inr (Or.inl (Or.inl (Or.inl k))))
    · exact Or.inr (Or.inr (Or.inr (Or.inr (Or.inr (Or.inr (Or.inl (Or.inl k)))))))
    · exact Or.inr (Or.inl (Or.inr k)))
theorem oW_cn (hP : va_P D vwCl (oW T z b1 b2 b3 h a q y d n σ g gb V G) H) : va_P D vwCl ([(z, .inr (5, [.ref (b1 0), .ref (b2 0), .ref (b3 0), .int 0, .ref (h 0), .ref a, .ref (y 0), .int 0, .int 0, .int 0])), ((b1 0), .inr (2, [.ref (b1 1), .int (g.1 0), .int (g.1 1), .int (g.1 2)])), ((b1 1), .inl (T 3, 4, .inr (.inr (.inr (.inr ((fun i => some (b1 (2 + 2 * i))))))))), ((h 0), .inr (0, [.ref (h 1), .int (nI n)])), ((y 0), .inr (4, [.ref (y 4), .ref (y 1), .ref (y 2), .ref (y 3), .int (z0 0), .int (z0 1), .int (z0 2), .int (z0 3)])), ((y 4), .inr (3, [.ref (y 5), .int (nI 0)]))] ++ stT T b1 g.2.1 g.2.2) H :=
  cnt_p (sA := stH T b1 g.1) (sT := stT T b1 g.2.1 g.2.2) (hA := [((h 0), .inr (0, [.ref (h 1), .int (nI n)]))]) (hB := [(h 1, .inl (T 4, 4, .inr (.inr (.inr (.inr (fun i => some (d i 0)))))))]) (hT := hiT T d σ) (yA := [((y 0), .inr (4, [.ref (y 4), .ref (y 1), .ref (y 2), .ref (y 3), .int (z0 0), .int (z0 1), .int (z0 2), .int (z0 3)])), ((y 4), .inr (3, [.ref (y 5), .int (nI 0)]))]) (yB := [((y 5), .inl (T 2, 60, .inl z0)), ((y 1), .inl (T 0, 20, .inl z0)), ((y 2), .inl (T 0, 20, .inl z0)), ((y 3), .inl (T 0, 20, .inl z0))]) hP
end OW
/-! what the class' readers tell of a pair -/
theorem rp {P : Nat → Nat → Int32} {p : Nat} (hp : p < 4) (w : Int32) : sP (nI p) (fun p => tP (P p) w) (-1) = tP (P p) w := sP_t hp
theorem rb {P : Nat → Nat → Int32} {E : Nat → Nat → Int64} {p : Nat} (hp : p < 4) (w : Int32) : sP (nI p) (fun p => tB (P p) (E p) w) (-1) = tB (P p) (E p) w := sP_t hp
theorem lc_0 {x y : Int64} (h : x = y) : lg_cmp x y = 0 := (lg_cmp_eq x y).mpr h
theorem lc_nn {x : Int64} (h : 0 ≤ x.toInt) : ¬ lg_cmp x 0 < 0 := fun z => by
  have := (lg_cmp_lt x 0).mp z
  rw [fa_lt64, l_0] at this
  omega
theorem p64_on2 {V : Nat → Int32} (h9 : V 9 = 1) (d e : Int32) : kP64 V d = kP64 V e := (p64_on h9 d).symm.trans (p64_on h9 e)
/-! the law's script, for a method that reads it -/
def xC (b L : Nat) (xs : Nat → Int32) : (Nat → Prop) → State → Prop := fun _ U => va_X b L xs U U.heap ∧ b < U.heap.size
theorem xC_bl {b L : Nat} {xs : Nat → Int32} : xBl (xC b L xs) := fun _ U g mk a h => ⟨va_X.moved (u := U) (U := U.calling g mk a) (Vm.Alike.refl U.vm) h.1, h.2⟩
theorem xC_go {b L : Nat} {xs : Nat → Int32} {A B : Nat → Prop} {s U : State} {H : Heap} {locs : List Loc} (h : va_X b L xs s s.heap) (hbl : b < s.heap.size) (hbA : ¬ A b) (hS : va_S A s.heap H locs) (hU : U.heap = H) (hW : s.WarmedH U.vm) : xC b L xs B U :=
  ⟨by rw [hU]; exact va_X.moved hW.alike (h.kept (hS.2.1 b hbl hbA)), by rw [hU]; exact Nat.lt_of_lt_of_le hbl hS.1⟩
theorem pm_lt {k : Nat} (hk : k ≤ 4) : nI k - 1 < 0 ↔ k = 0 := by
  have e : k = 0 ∨ k = 1 ∨ k = 2 ∨ k = 3 ∨ k = 4 := by omega
  rcases e with rfl | rfl | rfl | rfl | rfl <;> decide
theorem hD_s {P : Nat → Nat → Int32} {w : Int32} {i p : Nat} {x : Int32} (h : 3 - i = p) (hx : x = cPart (P p) w) : hD P w i + x = hD P w (i + 1) := by
  subst h
  rw [hx]
  rfl
theorem cp_2 (V : Nat → Int32) : cPart V 2 = if kWhy V < 2 then 1 else 0 := rfl
theorem cp_6 (V : Nat → Int32) : cPart V 6 = if V 6 = 40 then 1 else 0 := rfl
theorem oI_none {o : Option Nat} (hf : ∀ f, o = some f → f < 4) (h : oI o = -5) : o = none := by
  cases o with
  | none => rfl
  | some f => exact absurd h (nI_nm5 (by have := hf f rfl; omega))
theorem oI_some {o : Option Nat} (h : ¬ oI o = -5) : ∃ f, o = some f := by
  cases o with
  | none => exact absurd rfl h
  | some f => exact ⟨f, rfl⟩
theorem tC_s {t : Nat → Int32} {P : Nat → Nat → Int32} {kn len : Int32} : tC t P kn len 1 = cSum P 1 4 ∧ tC t P kn len 2 = cSum P 2 4 ∧ tC t P kn len 3 = cSum P 3 4 ∧ tC t P kn len 4 = cSum P 4 4 ∧ tC t P kn len 5 = cSum P 5 4 ∧ tC t P kn len 6 = cSum P 6 4 ∧ tC t P kn len 7 = t 1 ∧ tC t P kn len 9 = kn := ⟨rfl, rfl, rfl, rfl, rfl, rfl, rfl, rfl⟩
theorem iinc_m1 {p k : Nat} (h : k = p) : nI p + Int32.ofInt (-1) = nI k - 1 := by
  rw [h, show Int32.ofInt (-1) = (-1 : Int32) by decide]
  exact (Int32.sub_eq_add_neg _ _).symm
section DPF
variable {T : Nat → ClassId} {D : va_G} {H : Heap} {A : Nat → Prop} {z a q n : Nat} {b1 b2 b3 h y : Nat → Nat} {d : Nat → Nat → Nat} {σ : Nat → SG} {g gb : SG} {V : Nat → Int32} {G : Nat → Int64}
theorem dp_P (hP : va_P D vwCl (oW T z b1 b2 b3 h a q y d n σ g gb V G) H) : va_P D vwCl ((obW z b1 b2 b3 h a y 0 0 0 0 ++ (sgW T b1 g ++ plW T a q V G)) ++ fl [hiW T h d n σ, sgW T b2 gb, sgW T b3 sg0, siZ T y]) H :=
  fP3.mp (bP (bs := [obW z b1 b2 b3 h a y 0 0 0 0, sgW T b1 g, hiW T h d n σ, sgW T b2 gb, sgW T b3 sg0, plW T a q V G, siZ T y]) (bs' := [obW z b1 b2 b3 h a y 0 0 0 0, sgW T b1 g, plW T a q V G, hiW T h d n σ, sgW T b2 gb, sgW T b3 sg0, siZ T y]) hP [0, 1, 5, 2, 3, 4, 6] rfl rfl)
theorem dp_D (hD : va_D A (oW T z b1 b2 b3 h a q y d n σ g gb V G)) : va_D A ((obW z b1 b2 b3 h a y 0 0 0 0 ++ (sgW T b1 g ++ plW T a q V G)) ++ fl [hiW T h d n σ, sgW T b2 gb, sgW T b3 sg0, siZ T y]) :=
  fD3.mp (bD (bs := [obW z b1 b2 b3 h a y 0 0 0 0, sgW T b1 g, hiW T h d n σ, sgW T b2 gb, sgW T b3 sg0, plW T a q V G, siZ T y]) (bs' := [obW z b1 b2 b3 h a y 0 0 0 0, sgW T b1 g, plW T a q V G, hiW T h d n σ, sgW T b2 gb, sgW T b3 sg0, siZ T y]) hD [0, 1, 5, 2, 3, 4, 6] rfl rfl)
theorem pd_P (hP : va_P D vwCl ((obW z b1 b2 b3 h a y 0 0 0 0 ++ (sgW T b1 g ++ plW T a q V G)) ++ fl [hiW T h d n σ, sgW T b2 gb, sgW T b3 sg0, siZ T y]) H) : va_P D vwCl (oW T z b1 b2 b3 h a q y d n σ g gb V G) H :=
  bP (bs := [obW z b1 b2 b3 h a y 0 0 0 0, sgW T b1 g, plW T a q V G, hiW T h d n σ, sgW T b2 gb, sgW T b3 sg0, siZ T y]) (bs' := [obW z b1 b2 b3 h a y 0 0 0 0, sgW T b1 g, hiW T h d n σ, sgW T b2 gb, sgW T b3 sg0, plW T a q V G, siZ T y]) (fP3.mpr hP) [0, 1, 3, 4, 5, 2, 6] rfl rfl
theorem pd_D (hD : va_D A ((obW z b1 b2 b3 h a y 0 0 0 0 ++ (sgW T b1 g ++ plW T a q V G)) ++ fl [hiW T h d n σ, sgW T b2 gb, sgW T b3 sg0, siZ T y])) : va_D A (oW T z b1 b2 b3 h a q y d n σ g gb V G) :=
  bD (bs := [obW z b1 b2 b3 h a y 0 0 0 0, sgW T b1 g, plW T a q V G, hiW T h d n σ, sgW T b2 gb, sgW T b3 sg0, siZ T y]) (bs' := [obW z b1 b2 b3 h a y 0 0 0 0, sgW T b1 g, hiW T h d n σ, sgW T b2 gb, sgW T b3 sg0, plW T a q V G, siZ T y]) (fD3.mpr hD) [0, 1, 3, 4, 5, 2, 6] rfl rfl
end DPF
theorem rc_le {n : Nat} (h : n ≤ 4) : rcN n ≤ 4 := by
  unfold rcN
  split <;> omega
theorem qn_le {r : Int32} {n : Nat} {d : Nat → Nat → Nat} {σ : Nat → SG} {g : SG} {x : (Nat → Nat → Nat) × Nat × (Nat → SG)} (h : n ≤ 4) (e : x = if 0 ≤ r then (hiD n d, rcN n, hiS n σ g) else (d, n, σ)) : x.2.1 ≤ 4 := by
  rw [e]
  split
  · exact rc_le h
  · exact h
theorem qn_is {r : Int32} {n : Nat} {d : Nat → Nat → Nat} {σ : Nat → SG} {g : SG} {x : (Nat → Nat → Nat) × Nat × (Nat → SG)} (e : x = if 0 ≤ r then (hiD n d, rcN n, hiS n σ g) else (d, n, σ)) : x.2.1 = if 0 ≤ r then rcN n else n := by
  rw [e]
  split <;> rfl
theorem dr_next {W : Nat → Int32} {x : Int32} {i : Nat} (hx : (x = 0 ∧ ∀ k, 1 ≤ k → k < i → ¬ tD W (nI k) = 40) ∨ (x = 1 ∧ ∃ k, 1 ≤ k ∧ k ≤ 400 ∧ tD W (nI k) = 40)) (c : x = 0) (g : ¬ tD W (nI i) = 40) : ∀ k, 1 ≤ k → k < i + 1 → ¬ tD W (nI k) = 40 := by
  rcases hx with ⟨-, h⟩ | ⟨e, -⟩
  · intro k k1 k2
    by_cases hk : k = i
    · rw [hk]; exact g
    · exact h k k1 (by omega)
  · rw [c] at e
    exact absurd e (by decide)
