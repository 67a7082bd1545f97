/-! what the acts do to the numbers: t the tick (0), couplings (1), steps (2); P the pairs; E their books (0 gave, 1 leaked, 2 sparks) -/
abbrev SG : Type := (Nat → Int32) × (Nat → Nat → Int32) × (Nat → Nat → Int64)
def oLay (p k : Nat) (x : Int32) (g : SG) : Int32 × SG := if g.2.1 p k = x then (-5, g) else (g.2.1 p k, (g.1, va_up g.2.1 p (kHoldP (upd (g.2.1 p) k x)), va_up g.2.2 p (kHoldE (upd (g.2.1 p) k x) (g.2.2 p))))
def kOnP (V : Nat → Int32) (v : Int32) : Nat → Int32 := upd (upd V 9 1) 8 v
def oOn (p : Nat) (v : Int32) (g : SG) : Int32 × SG := if g.2.1 p 9 = 1 ∧ g.2.1 p 8 = v then (-5, g) else (kHoldP (kOnP (g.2.1 p) v) 7, (g.1, va_up g.2.1 p (kHoldP (kOnP (g.2.1 p) v)), va_up g.2.2 p (kHoldE (kOnP (g.2.1 p) v) (g.2.2 p))))
def oOff (p : Nat) (g : SG) : Int32 × SG := if ¬ g.2.1 p 9 = 1 then (-5, g) else (g.2.1 p 7, (g.1, va_up g.2.1 p (upd (g.2.1 p) 9 0), g.2.2))
/-- a tick of all pairs -/
def kMv (P : Nat → Nat → Int32) : Int32 := kMoved (P 0) + kMoved (P 1) + kMoved (P 2) + kMoved (P 3)
def kAll (P : Nat → Nat → Int32) : Nat → Nat → Int32 := va_up (va_up (va_up (va_up P 0 (kTickP (P 0))) 1 (kTickP (P 1))) 2 (kTickP (P 2))) 3 (kTickP (P 3))
def kAllE (P : Nat → Nat → Int32) (E : Nat → Nat → Int64) : Nat → Nat → Int64 := va_up (va_up (va_up (va_up E 0 (kTickE (P 0) (E 0))) 1 (kTickE (P 1) (E 1))) 2 (kTickE (P 2) (E 2))) 3 (kTickE (P 3) (E 3))
def oTick (g : SG) : SG := (upd g.1 2 (g.1 2 + kMv g.2.1), kAll g.2.1, kAllE g.2.1 g.2.2)
def oTicks : Nat → SG → SG
  | 0, g => g
  | n + 1, g => oTick (oTicks n g)
def kLast : Nat → SG → Int32
  | 0, _ => 0
  | n + 1, g => kMv (oTicks n g).2.1
def oPass (n : Nat) (g : SG) : Int32 × SG := if 99999 < g.1 0 + nI n then (-3, g) else (kLast n g, (upd (oTicks n g).1 0 ((oTicks n g).1 0 + nI n), (oTicks n g).2))
/-- sharing charges -/
def kMine (V U : Nat → Int32) : Int32 := ((V 7 + U 7).toInt64 * (kCap V (V 6)).toInt64 / (kCap V (V 6) + kCap U (U 6)).toInt64).toInt32
def kRest (V U : Nat → Int32) : Int32 := (V 7 + U 7).toInt64.toInt32 - kMine V U
def kLoss (V U : Nat → Int32) : Int64 := kStored V + kStored U - kStored (upd V 7 (kMine V U)) - kStored (upd U 7 (kRest V U))
def oCpl (p q : Nat) (g : SG) : Int32 × SG := if p = q then (-2, g) else if g.2.1 p 9 = 1 ∨ g.2.1 q 9 = 1 then (-4, g) else if 200000 < kMine (g.2.1 p) (g.2.1 q) ∨ 200000 < kRest (g.2.1 p) (g.2.1 q) then (-3, g) else if kMine (g.2.1 p) (g.2.1 q) = g.2.1 p 7 then (-5, g)
  else (kMine (g.2.1 p) (g.2.1 q), (upd g.1 1 (g.1 1 + 1), va_up (va_up g.2.1 p (upd (g.2.1 p) 7 (kMine (g.2.1 p) (g.2.1 q)))) q (upd (g.2.1 q) 7 (kRest (g.2.1 p) (g.2.1 q))), va_up (va_up g.2.2 p (vp_updL (g.2.2 p) 2 (g.2.2 p 2 + kHalf (kLoss (g.2.1 p) (g.2.1 q))))) q (vp_updL (g.2.2 q) 2 (g.2.2 q 2 + (kLoss (g.2.1 p) (g.2.1 q) - kHalf (kLoss (g.2.1 p) (g.2.1 q)))))))
theorem upd_upd (f : Nat → Int32) (k : Nat) (x y : Int32) : upd (upd f k x) k y = upd f k y := by
  funext j
  unfold upd
  by_cases h : j = k
  · rw [if_pos h, if_pos h]
  · rw [if_neg h, if_neg h, if_neg h]
theorem kOk_all {P : Nat → Nat → Int32} (h : ∀ p, p < 4 → kOk (P p)) : ∀ p, p < 4 → kOk (kAll P p) :=
  kOk_up (kOk_up (kOk_up (kOk_up h (kOk_tick (h 0 (by decide)))) (kOk_tick (h 1 (by decide)))) (kOk_tick (h 2 (by decide)))) (kOk_tick (h 3 (by decide)))
theorem kOk_ticks {g : SG} (h : ∀ p, p < 4 → kOk (g.2.1 p)) : ∀ n, ∀ p, p < 4 → kOk ((oTicks n g).2.1 p)
  | 0 => h
  | n + 1 => kOk_all (kOk_ticks h n)
