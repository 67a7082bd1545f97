/-! what is told, for any arguments -/
theorem rng_of {x : Int32} {n : Nat} (hn : n < 2 ^ 31) (h : 0 ≤ x ∧ x ≤ nI n) : ∃ p, p ≤ n ∧ x = nI p := by
  obtain ⟨j, hj, rfl⟩ := nI_of (Int32.not_lt.mpr h.1)
  exact ⟨j, (nI_leI hj hn).mp h.2, rfl⟩
theorem pair_of {x : Int32} (h : 0 ≤ x ∧ x ≤ 3) : ∃ p, p < 4 ∧ x = nI p := by
  obtain ⟨p, hp, e⟩ := rng_of (n := 3) (by decide) h
  exact ⟨p, by omega, e⟩
theorem rng_in {p n : Nat} (hp : p ≤ n) (hn : n < 2 ^ 31) : (0 : Int32) ≤ nI p ∧ nI p ≤ nI n := ⟨nI_pos' (by omega), (nI_leI (by omega) hn).mpr hp⟩
def sP {α : Type} (x : Int32) (f : Nat → α) (d : α) : α := if 0 ≤ x ∧ x ≤ 3 then f x.toNatClampNeg else d
theorem sP_t {α : Type} {p : Nat} {f : Nat → α} {d : α} (hp : p < 4) : sP (nI p) f d = f p := by
  unfold sP
  rw [if_pos (show (0 : Int32) ≤ nI p ∧ nI p ≤ 3 from rng_in (n := 3) (by omega) (by decide)), nI_clamp (by omega)]
theorem sP_f {α : Type} {x : Int32} {f : Nat → α} {d : α} (h : ¬ (0 ≤ x ∧ x ≤ 3)) : sP x f d = d := if_neg h
def tP (V : Nat → Int32) (w : Int32) : Int32 := if w = 7 then kCap V (V 6) else if w = 8 then V 7 else if w = 9 then V 8 else if w = 10 then V 9 else if w = 11 then kPullAt V (V 6) (V 7) else if w = 12 then kSize (kSpring V (V 6)) else if 0 ≤ w ∧ w ≤ 6 then V w.toNatClampNeg else -2
def tB (V : Nat → Int32) (G : Nat → Int64) (w : Int32) : Int64 := if w = 0 then kStored V else if w = 1 then G 0 else if w = 2 then G 1 else if w = 3 then G 2 else if w = 4 then G 0 - kStored V - G 1 - G 2 else -2
def tF (V : Nat → Int32) (d : Int32) : Int32 := if 0 ≤ d ∧ d ≤ 40 then kSize (kPullAt V d (V 7) - kSpring V d) else -2
/-- the first number that fits, of n from i on -/
def kFirst (f : Nat → Bool) : Nat → Nat → Int32
  | 0, _ => -5
  | n + 1, i => if f i = true then nI i else kFirst f n (i + 1)
def kIn (V : Nat → Int32) (d v : Int32) : Prop := kMove V d (kPullBy V v - kSpring V d) = 1
def kLv (V : Nat → Int32) : Int32 := kFirst (fun v => decide (kMove V (V 6) (kPullBy V (nI v) - kSpring V (V 6)) = 1)) 31 0
def kDr (V : Nat → Int32) (v : Int32) (d : Nat) : Prop := ∀ j, j < 40 → d ≤ j → kMove V (nI j) (kPullBy V v - kSpring V (nI j)) = 1
noncomputable def kDb (V : Nat → Int32) (v : Int32) (d : Nat) : Bool := @decide (kDr V v d) (Classical.propDecidable _)
noncomputable def kDv (V : Nat → Int32) : Int32 := kFirst (fun v => kDb V (nI v) (V 6).toNatClampNeg) 31 0
def cPart (V : Nat → Int32) (w : Int32) : Int32 := if w = 1 then V 9 else if w = 2 then (if kWhy V < 2 then 1 else 0) else if w = 3 then V 7 else if w = 4 then kCap V (V 6) else if w = 5 then V 6 else if V 6 = 40 then 1 else 0
def cSum (P : Nat → Nat → Int32) (w : Int32) : Nat → Int32
  | 0 => 0
  | n + 1 => cSum P w n + cPart (P n) w
def tC (t : Nat → Int32) (P : Nat → Nat → Int32) (kn len w : Int32) : Int32 := if w = 0 then t 0 else if 1 ≤ w ∧ w ≤ 6 then cSum P w 4 else if w = 7 then t 1 else if w = 8 then t 2 else if w = 9 then kn else if w = 10 then len else -2
/-- the pair that is pulled most -/
def kPl (V : Nat → Int32) : Int32 := kPullAt V (V 6) (V 7)
def sStep (P : Nat → Nat → Int32) (p : Nat) (o : Option Nat) : Option Nat := match o with
  | none => if 0 < kPl (P p) then some p else none
  | some f => if 0 < kPl (P p) ∧ kPl (P f) ≤ kPl (P p) then some p else some f
def sMax (P : Nat → Nat → Int32) : Nat → Option Nat → Option Nat
  | 0, o => o
  | p + 1, o => sMax P p (sStep P p o)
def oI (o : Option Nat) : Int32 := match o with
  | none => -5
  | some f => nI f
/-- a number by its cases -/
theorem sw_of (w : Int32) (lo hi : Int) : (w.toInt < lo ∨ hi < w.toInt) ∨ (lo ≤ w.toInt ∧ w.toInt ≤ hi) := by omega
theorem w_is {w c : Int32} (h : w.toInt = c.toInt) : w = c := Int32.toInt_inj.1 h
theorem sw_7_12 (w : Int32) : (w.toInt < 7 ∨ 12 < w.toInt) ∨ w = 7 ∨ w = 8 ∨ w = 9 ∨ w = 10 ∨ w = 11 ∨ w = 12 := by
  by_cases h : w.toInt < 7 ∨ 12 < w.toInt
  · exact Or.inl h
  · have h7 : (7 : Int32).toInt = 7 := by decide
    have h8 : (8 : Int32).toInt = 8 := by decide
    have h9 : (9 : Int32).toInt = 9 := by decide
    have h10 : (10 : Int32).toInt = 10 := by decide
    have h11 : (11 : Int32).toInt = 11 := by decide
    have h12 : (12 : Int32).toInt = 12 := by decide
    simp only [fa_eq]
    omega
theorem sw_0_4 (w : Int32) : (w.toInt < 0 ∨ 4 < w.toInt) ∨ w = 0 ∨ w = 1 ∨ w = 2 ∨ w = 3 ∨ w = 4 := by
  by_cases h : w.toInt < 0 ∨ 4 < w.toInt
  · exact Or.inl h
  · have h0 : (0 : Int32).toInt = 0 := by decide
    have h1 : (1 : Int32).toInt = 1 := by decide
    have h2 : (2 : Int32).toInt = 2 := by decide
    have h3 : (3 : Int32).toInt = 3 := by decide
    have h4 : (4 : Int32).toInt = 4 := by decide
    simp only [fa_eq]
    omega
theorem sw_0_10 (w : Int32) : (w.toInt < 0 ∨ 10 < w.toInt) ∨ w = 0 ∨ w = 1 ∨ w = 2 ∨ w = 3 ∨ w = 4 ∨ w = 5 ∨ w = 6 ∨ w = 7 ∨ w = 8 ∨ w = 9 ∨ w = 10 := by
  by_cases h : w.toInt < 0 ∨ 10 < w.toInt
  · exact Or.inl h
  · have h0 : (0 : Int32).toInt = 0 := by decide
    have h1 : (1 : Int32).toInt = 1 := by decide
    have h2 : (2 : Int32).toInt = 2 := by decide
    have h3 : (3 : Int32).toInt = 3 := by decide
    have h4 : (4 : Int32).toInt = 4 := by decide
    have h5 : (5 : Int32).toInt = 5 := by decide
    have h6 : (6 : Int32).toInt = 6 := by decide
    have h7 : (7 : Int32).toInt = 7 := by decide
    have h8 : (8 : Int32).toInt = 8 := by decide
    have h9 : (9 : Int32).toInt = 9 := by decide
    have h10 : (10 : Int32).toInt = 10 := by decide
    simp only [fa_eq]
    omega
theorem w_not {w : Int32} {lo hi : Int} (h : w.toInt < lo ∨ hi < w.toInt) (c : Int32) (hc : lo ≤ c.toInt ∧ c.toInt ≤ hi) : ¬ w = c := by
  intro e
  rw [e] at h
  omega
theorem kFirst_t {f : Nat → Bool} {n i : Nat} (h : f i = true) : kFirst f (n + 1) i = nI i := if_pos h
theorem kFirst_f {f : Nat → Bool} {n i : Nat} (h : ¬ f i = true) : kFirst f (n + 1) i = kFirst f n (i + 1) := if_neg h
theorem tP_def {V : Nat → Int32} {w : Int32} (h : w.toInt < 7 ∨ 12 < w.toInt) : tP V w = if 0 ≤ w ∧ w ≤ 6 then V w.toNatClampNeg else -2 := by
  unfold tP
  rw [if_neg (w_not h 7 (by decide)), if_neg (w_not h 8 (by decide)), if_neg (w_not h 9 (by decide)), if_neg (w_not h 10 (by decide)), if_neg (w_not h 11 (by decide)), if_neg (w_not h 12 (by decide))]
theorem tB_def {V : Nat → Int32} {G : Nat → Int64} {w : Int32} (h : w.toInt < 0 ∨ 4 < w.toInt) : tB V G w = -2 := by
  unfold tB
  rw [if_neg (w_not h 0 (by decide)), if_neg (w_not h 1 (by decide)), if_neg (w_not h 2 (by decide)), if_neg (w_not h 3 (by decide)), if_neg (w_not h 4 (by decide))]
theorem tC_def {t : Nat → Int32} {P : Nat → Nat → Int32} {kn len w : Int32} (h : w.toInt < 0 ∨ 10 < w.toInt) : tC t P kn len w = -2 := by
  unfold tC
  have h16 : ¬ (1 ≤ w ∧ w ≤ 6) := by
    rw [fa_le, fa_le]
    have h1 : (1 : Int32).toInt = 1 := by decide
    have h6 : (6 : Int32).toInt = 6 := by decide
    omega
  rw [if_neg (w_not h 0 (by decide)), if_neg h16, if_neg (w_not h 7 (by decide)), if_neg (w_not h 8 (by decide)), if_neg (w_not h 9 (by decide)), if_neg (w_not h 10 (by decide))]
theorem dp_of {d : Int32} (h : 0 ≤ d ∧ d ≤ 40) : kDp d := by
  obtain ⟨h1, h2⟩ := h
  rw [fa_le] at h1 h2
  rw [i_0] at h1
  rw [i_40] at h2
  exact ⟨h1, h2⟩
theorem bk_ix (p k : Nat) : nI 3 * nI p + nI (k + 1) - 1 = nI (3 * p + k) := by
  rw [pk_mul, nI_add, show 3 * p + (k + 1) = (3 * p + k) + 1 by omega]
  exact nI_pred _
theorem dB_t {c : Prop} {_ : Decidable c} (h : c) : (1 : Int32) = if (decide c) = true then 1 else 0 := by
  rw [if_pos (decide_eq_true h)]
theorem dB_f {c : Prop} {_ : Decidable c} (h : ¬ c) : (0 : Int32) = if (decide c) = true then 1 else 0 := by
  rw [if_neg (fun z => h (of_decide_eq_true z))]
theorem dp_nat {d : Int32} (h : kDp d) : ∃ n : Nat, n ≤ 40 ∧ d = nI n := by
  have h1 : ¬ d < 0 := by rw [fa_lt, i_0]; have := h.1; omega
  obtain ⟨j, hj, rfl⟩ := nI_of h1
  refine ⟨j, ?_, rfl⟩
  have := h.2
  rw [nI_toInt hj] at this
  omega
theorem b1_0 {b : Bool} (h : (if b = true then (1 : Int32) else 0) = 0) : ¬ b = true := fun z => by
  rw [if_pos z] at h
  exact absurd h (by decide)
theorem b1_n0 {b : Bool} (h : ¬ (if b = true then (1 : Int32) else 0) = 0) : b = true := Classical.byContradiction fun z => h (if_neg z)
theorem nI_nm5 {f : Nat} (h : f < 2 ^ 31) : ¬ nI f = -5 := fun z => by
  have := congrArg Int32.toInt z
  rw [nI_toInt h, show (-5 : Int32).toInt = -5 by decide] at this
  omega
theorem sStep_no {P : Nat → Nat → Int32} {p : Nat} {o : Option Nat} (h : ¬ 0 < kPl (P p)) : sStep P p o = o := by
  cases o with
  | none => exact if_neg h
  | some f => exact if_neg (fun z => h z.1)
theorem sStep_none {P : Nat → Nat → Int32} {p : Nat} (h : 0 < kPl (P p)) : sStep P p none = some p := if_pos h
theorem sStep_less {P : Nat → Nat → Int32} {p f : Nat} (h : ¬ kPl (P f) ≤ kPl (P p)) : sStep P p (some f) = some f := if_neg (fun z => h z.2)
theorem sStep_more {P : Nat → Nat → Int32} {p f : Nat} (h : 0 < kPl (P p)) (h2 : kPl (P f) ≤ kPl (P p)) : sStep P p (some f) = some p := if_pos ⟨h, h2⟩
