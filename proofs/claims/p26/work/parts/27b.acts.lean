/-! the acts by their arguments -/
abbrev isP (x : Int32) : Prop := 0 ≤ x ∧ x ≤ 3
def oSet (x w y : Int32) (g : SG) : Int32 × SG := if isP x ∧ (0 ≤ w ∧ w ≤ 5) then (if kLo w.toNatClampNeg ≤ y ∧ y ≤ kHi w.toNatClampNeg then oLay x.toNatClampNeg w.toNatClampNeg y g else (-2, g)) else (-1, g)
def oTurnOn (x y : Int32) (g : SG) : Int32 × SG := if isP x then (if 0 ≤ y ∧ y ≤ 30 then oOn x.toNatClampNeg y g else (-2, g)) else (-1, g)
def oTurnOff (x : Int32) (g : SG) : Int32 × SG := if isP x then oOff x.toNatClampNeg g else (-1, g)
def oPut (x y : Int32) (g : SG) : Int32 × SG := if isP x then (if 0 ≤ y ∧ y ≤ 40 then oLay x.toNatClampNeg 6 y g else (-2, g)) else (-1, g)
def oCouple (x y : Int32) (g : SG) : Int32 × SG := if isP x ∧ isP y then oCpl x.toNatClampNeg y.toNatClampNeg g else (-1, g)
def oPs (x : Int32) (g : SG) : Int32 × SG := if 1 ≤ x ∧ x ≤ 99 then oPass x.toNatClampNeg g else (-2, g)
theorem isP_nI {p : Nat} (hp : p < 4) : isP (nI p) := rng_in (n := 3) (by omega) (by decide)
theorem oSet_t {p k : Nat} (hp : p < 4) (hk : k ≤ 5) {y : Int32} (g : SG) (h : kLo k ≤ y ∧ y ≤ kHi k) : oSet (nI p) (nI k) y g = oLay p k y g := by
  rw [oSet, if_pos ⟨isP_nI hp, rng_in hk (by decide)⟩, nI_clamp (by omega), nI_clamp (by omega), if_pos h]
theorem oSet_b {p k : Nat} (hp : p < 4) (hk : k ≤ 5) {y : Int32} (g : SG) (h : ¬ (kLo k ≤ y ∧ y ≤ kHi k)) : oSet (nI p) (nI k) y g = (-2, g) := by
  rw [oSet, if_pos ⟨isP_nI hp, rng_in hk (by decide)⟩, nI_clamp (by omega), if_neg h]
theorem oSet_f {x w y : Int32} (g : SG) (h : ¬ (isP x ∧ (0 ≤ w ∧ w ≤ 5))) : oSet x w y g = (-1, g) := if_neg h
theorem oTurnOn_t {p : Nat} (hp : p < 4) {y : Int32} (g : SG) (h : 0 ≤ y ∧ y ≤ 30) : oTurnOn (nI p) y g = oOn p y g := by
  rw [oTurnOn, if_pos (isP_nI hp), if_pos h, nI_clamp (by omega)]
theorem oTurnOn_b {p : Nat} (hp : p < 4) {y : Int32} (g : SG) (h : ¬ (0 ≤ y ∧ y ≤ 30)) : oTurnOn (nI p) y g = (-2, g) := by
  rw [oTurnOn, if_pos (isP_nI hp), if_neg h]
theorem oTurnOn_f {x y : Int32} (g : SG) (h : ¬ isP x) : oTurnOn x y g = (-1, g) := if_neg h
theorem oTurnOff_t {p : Nat} (hp : p < 4) (g : SG) : oTurnOff (nI p) g = oOff p g := by
  rw [oTurnOff, if_pos (isP_nI hp), nI_clamp (by omega)]
theorem oTurnOff_f {x : Int32} (g : SG) (h : ¬ isP x) : oTurnOff x g = (-1, g) := if_neg h
theorem oPut_t {p : Nat} (hp : p < 4) {y : Int32} (g : SG) (h : 0 ≤ y ∧ y ≤ 40) : oPut (nI p) y g = oLay p 6 y g := by
  rw [oPut, if_pos (isP_nI hp), if_pos h, nI_clamp (by omega)]
theorem oPut_b {p : Nat} (hp : p < 4) {y : Int32} (g : SG) (h : ¬ (0 ≤ y ∧ y ≤ 40)) : oPut (nI p) y g = (-2, g) := by
  rw [oPut, if_pos (isP_nI hp), if_neg h]
theorem oPut_f {x y : Int32} (g : SG) (h : ¬ isP x) : oPut x y g = (-1, g) := if_neg h
theorem oCouple_t {p q : Nat} (hp : p < 4) (hq : q < 4) (g : SG) : oCouple (nI p) (nI q) g = oCpl p q g := by
  rw [oCouple, if_pos ⟨isP_nI hp, isP_nI hq⟩, nI_clamp (by omega), nI_clamp (by omega)]
theorem oCouple_f {x y : Int32} (g : SG) (h : ¬ (isP x ∧ isP y)) : oCouple x y g = (-1, g) := if_neg h
theorem oPs_t {n : Nat} (h1 : 1 ≤ n) (hn : n ≤ 99) (g : SG) : oPs (nI n) g = oPass n g := by
  rw [oPs, if_pos ⟨(nI_leI (a := 1) (by decide) (by omega)).mpr h1, (nI_leI (b := 99) (by omega) (by decide)).mpr hn⟩, nI_clamp (by omega)]
theorem oPs_f {x : Int32} (g : SG) (h : ¬ (1 ≤ x ∧ x ≤ 99)) : oPs x g = (-2, g) := if_neg h
