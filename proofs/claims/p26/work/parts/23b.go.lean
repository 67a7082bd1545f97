/-! where a slab comes by its depth and charge alone -/
def kGq (V : Nat → Int32) (q : Int32) : Int32 := if V 9 = 1 then q else q - kLeak V q
def kGby (V : Nat → Int32) (d q : Int32) : Int32 := kMove V d (kPullAt V d (kGq V q) - kSpring V d)
def gIt (V : Nat → Int32) : Nat → Int32 × Int32
  | 0 => (V 6, V 7)
  | n + 1 => ((gIt V n).1 + kGby V (gIt V n).1 (gIt V n).2, kGq V (gIt V n).2)
def gBy (V : Nat → Int32) (n : Nat) : Int32 := kGby V (gIt V n).1 (gIt V n).2
theorem gIt_d {V : Nat → Int32} (h : kOk V) : ∀ n, kDp (gIt V n).1
  | 0 => kOk_d h
  | n + 1 => moveD (gIt_d h n)
def kRs (V : Nat → Int32) : Int32 := kFirst (fun n => decide (gBy V n = 0)) 401 0
def tD (V : Nat → Int32) (w : Int32) : Int32 := if 1 ≤ w ∧ w ≤ 400 then (gIt V w.toNatClampNeg).1 else -2
