/-! plain words of the two programs' numbers -/
def bI (c : Prop) [Decidable c] : Int32 := if c then 1 else 0
theorem bI_t {c : Prop} [Decidable c] (h : c) : (1 : Int32) = bI c := (if_pos h).symm
theorem bI_f {c : Prop} [Decidable c] (h : ¬ c) : (0 : Int32) = bI c := (if_neg h).symm
theorem bI_0 {c : Prop} [Decidable c] (h : bI c = 0) : ¬ c := fun hc => by rw [← bI_t hc] at h; exact absurd h (by decide)
theorem bI_n0 {c : Prop} [Decidable c] (h : ¬ bI c = 0) : c := Classical.byContradiction fun hc => h (bI_f hc).symm
theorem bI_01 {c : Prop} [Decidable c] {r : Int32} (h : r = bI c) : r = 0 ∨ r = 1 := by
  subst h
  unfold bI
  split
  · exact Or.inr rfl
  · exact Or.inl rfl
theorem bI_iff {c d : Prop} [Decidable c] [Decidable d] (h : c ↔ d) : bI c = bI d := by
  unfold bI
  by_cases hc : c
  · rw [if_pos hc, if_pos (h.mp hc)]
  · rw [if_neg hc, if_neg (fun z => hc (h.mpr z))]
theorem cl_0 : Int32.toNatClampNeg 0 = 0 := by decide
theorem cl_1 : Int32.toNatClampNeg 1 = 1 := by decide
theorem cl_2 : Int32.toNatClampNeg 2 = 2 := by decide
theorem cl_3 : Int32.toNatClampNeg 3 = 3 := by decide
theorem cl_4 : Int32.toNatClampNeg 4 = 4 := by decide
theorem cl_5 : Int32.toNatClampNeg 5 = 5 := by decide
theorem in_lit {i : Int32} {n : Nat} (h : 0 ≤ i.toInt ∧ i.toInt < n) : vp_in i n := vp_in_iff.mpr h
theorem wP_nil {D : va_G} {H : Heap} : va_P D vwCl [] H := fun k q h => by simp at h
theorem wD_nil {A : Nat → Prop} : va_D A [] := ⟨fun i j p q h => by simp at h, fun k q h => by simp at h⟩
/-- the numbers of a pair: 0 area, 1 stuff, 2 strength, 3 rest, 4 friction, 5 leak, 6 depth, 7 charge, 8 voltage, 9 on -/
def kCap (P : Nat → Int32) (d : Int32) : Int32 := P 0 * (40 + (P 1 - 1) * d)
def kStored (P : Nat → Int32) : Int64 := if P 9 = 1 then (P 8).toInt64 * (P 7).toInt64 else (P 7).toInt64 * (P 7).toInt64 / (kCap P (P 6)).toInt64
def kPullBy (P : Nat → Int32) (v : Int32) : Int32 := P 0 * (P 1 - 1) * v * v
def kPullOf (P : Nat → Int32) (d q : Int32) : Int32 := ((P 0 * (P 1 - 1)).toInt64 * q.toInt64 * q.toInt64 / ((kCap P d).toInt64 * (kCap P d).toInt64)).toInt32
def kPullAt (P : Nat → Int32) (d q : Int32) : Int32 := if P 9 = 1 then kPullBy P (P 8) else kPullOf P d q
def kSpring (P : Nat → Int32) (d : Int32) : Int32 := P 2 * (d - P 3)
def kNet (P : Nat → Int32) : Int32 := kPullAt P (P 6) (P 7) - kSpring P (P 6)
def kSize (v : Int32) : Int32 := if v < 0 then -v else v
def kMove (P : Nat → Int32) (d n : Int32) : Int32 := if kSize n ≤ P 4 then 0 else if 0 < n then (if d < 40 then 1 else 0) else if 0 < d then -1 else 0
def kLeak (P : Nat → Int32) (q : Int32) : Int32 := (q.toInt64 * (P 5).toInt64 / 1000).toInt32
def kHalf (v : Int64) : Int64 := if v < 0 then -((1 - v) / 2) else v / 2
def kLo (k : Nat) : Int32 := if k < 2 then 1 else 0
def kHi (k : Nat) : Int32 := if k < 2 then 9 else if k = 2 then 999 else if k = 3 then 40 else if k = 4 then 9999 else 100
/-- the battery's charge, and the book of it -/
def kHoldP (P : Nat → Int32) : Nat → Int32 := if P 9 = 1 then upd P 7 (kCap P (P 6) * P 8) else P
def kHoldE (P : Nat → Int32) (E : Nat → Int64) : Nat → Int64 := if P 9 = 1 then vp_updL E 0 (E 0 + 2 * (P 8).toInt64 * (kCap P (P 6) * P 8 - P 7).toInt64) else E
/-- a leak -/
def kLeakP (P : Nat → Int32) : Nat → Int32 := if P 9 = 1 then P else upd P 7 (P 7 - kLeak P (P 7))
def kLeakE (P : Nat → Int32) (E : Nat → Int64) : Nat → Int64 := if P 9 = 1 then E else vp_updL E 1 (E 1 + (kStored P - kStored (kLeakP P)))
/-- by how much the slab moves, after the leak -/
def kBy (P : Nat → Int32) : Int32 := kMove P (P 6) (kNet P)
def kStepP (P : Nat → Int32) : Nat → Int32 := upd P 6 (P 6 + kBy P)
/-- a tick of a pair -/
def kTickP (P : Nat → Int32) : Nat → Int32 := kHoldP (kStepP (kLeakP P))
def kTickE (P : Nat → Int32) (E : Nat → Int64) : Nat → Int64 := kHoldE (kStepP (kLeakP P)) (kLeakE P E)
def kMoved (P : Nat → Int32) : Int32 := kSize (kBy (kLeakP P))
/-- the one row of the numbers of all pairs -/
def mS (t : Nat → Int32) (P : Nat → Nat → Int32) : Nat → Int32 := fun i => if i < 3 then t i else P ((i - 3) / 10) ((i - 3) % 10)
def mE (E : Nat → Nat → Int64) : Nat → Int64 := fun i => E (i / 3) (i % 3)
theorem mS_at (t : Nat → Int32) (P : Nat → Nat → Int32) {p k : Nat} (hk : k < 10) : mS t P (3 + 10 * p + k) = P p k := by
  unfold mS
  rw [if_neg (by omega), show (3 + 10 * p + k - 3) / 10 = p by omega, show (3 + 10 * p + k - 3) % 10 = k by omega]
theorem mS_t (t : Nat → Int32) (P : Nat → Nat → Int32) {k : Nat} (hk : k < 3) : mS t P k = t k := if_pos hk
theorem mE_at (E : Nat → Nat → Int64) {p k : Nat} (hk : k < 3) : mE E (3 * p + k) = E p k := by
  unfold mE
  rw [show (3 * p + k) / 3 = p by omega, show (3 * p + k) % 3 = k by omega]
theorem mS_up (t : Nat → Int32) (P : Nat → Nat → Int32) {p k : Nat} (hk : k < 10) (x : Int32) : upd (mS t P) (3 + 10 * p + k) x = mS t (va_up P p (upd (P p) k x)) := by
  funext i
  unfold upd mS va_up
  by_cases hi : i < 3
  · rw [if_neg (by omega), if_pos hi, if_pos hi]
  · rw [if_neg hi, if_neg hi]
    by_cases hp : (i - 3) / 10 = p
    · rw [if_pos hp]
      by_cases hk2 : (i - 3) % 10 = k
      · rw [if_pos hk2, if_pos (by omega)]
      · rw [if_neg hk2, if_neg (by omega), hp]
    · rw [if_neg hp, if_neg (by omega)]
theorem mS_upt (t : Nat → Int32) (P : Nat → Nat → Int32) {k : Nat} (hk : k < 3) (x : Int32) : upd (mS t P) k x = mS (upd t k x) P := by
  funext i
  unfold upd mS
  by_cases hi : i < 3
  · rw [if_pos hi, if_pos hi]
  · rw [if_neg hi, if_neg hi, if_neg (by omega)]
theorem mE_up (E : Nat → Nat → Int64) {p k : Nat} (hk : k < 3) (x : Int64) : vp_updL (mE E) (3 * p + k) x = mE (va_up E p (vp_updL (E p) k x)) := by
  funext i
  unfold vp_updL mE va_up
  by_cases hp : i / 3 = p
  · rw [if_pos hp]
    by_cases hk2 : i % 3 = k
    · rw [if_pos hk2, if_pos (by omega)]
    · rw [if_neg hk2, if_neg (by omega), hp]
  · rw [if_neg hp, if_neg (by omega)]
theorem upd_0 {f : Nat → Int32} {k : Nat} {x : Int32} : upd f k x k = x := if_pos rfl
theorem upd_n {f : Nat → Int32} {k j : Nat} {x : Int32} (h : j ≠ k) : upd f k x j = f j := if_neg h
theorem up_0 {α : Type} {f : Nat → α} {k : Nat} {x : α} : va_up f k x k = x := if_pos rfl
theorem up_n {α : Type} {f : Nat → α} {k j : Nat} {x : α} (h : j ≠ k) : va_up f k x j = f j := if_neg h
theorem up_up {α : Type} (f : Nat → α) (k : Nat) (x y : α) : va_up (va_up f k x) k y = va_up f k y := by
  funext j
  unfold va_up
  by_cases h : j = k
  · rw [if_pos h, if_pos h]
  · rw [if_neg h, if_neg h, if_neg h]
theorem up_id {α : Type} (f : Nat → α) (k : Nat) : va_up f k (f k) = f := by
  funext j
  unfold va_up
  by_cases h : j = k
  · rw [if_pos h, h]
  · rw [if_neg h]
