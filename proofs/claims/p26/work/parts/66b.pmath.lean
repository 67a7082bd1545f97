/-! an act: what it answers, and the state behind it -/
def aOk (c : Nat) (o : Int32 × SG) : Prop := -6 ≤ o.1.toInt ∧ jOk c o.2
theorem aOk_n {c : Nat} {o : Int32 × SG} (h : aOk c o) : ¬ o.1 = -1000 := by
  intro e
  have := h.1
  rw [e] at this
  exact absurd this (by decide)
theorem aOk_no {c : Nat} {g : SG} (h : jOk c g) {r : Int32} (hr : -6 ≤ r.toInt) : aOk c (r, g) := ⟨hr, h⟩
theorem kOk_nn {V : Nat → Int32} (h : kOk V) {k : Nat} (hk : k ≤ 6) : 0 ≤ (V k).toInt := by
  obtain ⟨h0, h1, h2, h3, h4, h5, h6, h7, h8, h9⟩ := h
  have e : k = 0 ∨ k = 1 ∨ k = 2 ∨ k = 3 ∨ k = 4 ∨ k = 5 ∨ k = 6 := by omega
  rcases e with rfl | rfl | rfl | rfl | rfl | rfl | rfl
  · omega
  · omega
  · omega
  · omega
  · omega
  · omega
  · exact h6.1
theorem lay_r {g : SG} {p k : Nat} {x : Int32} (h : 0 ≤ (g.2.1 p k).toInt) : -6 ≤ (oLay p k x g).1.toInt := by
  unfold oLay
  split
  · show -6 ≤ (-5 : Int32).toInt
    decide
  · show -6 ≤ (g.2.1 p k).toInt
    omega
theorem aOk_set {c : Nat} {g : SG} (h : jOk c g) (x w y : Int32) : aOk c (oSet x w y g) := by
  by_cases c1 : isP x ∧ (0 ≤ w ∧ w ≤ 5)
  · obtain ⟨p, hp, rfl⟩ := pair_of c1.1
    obtain ⟨k, hk, rfl⟩ := rng_of (n := 5) (by decide) c1.2
    by_cases c2 : kLo k ≤ y ∧ y ≤ kHi k
    · rw [oSet_t hp hk g c2]
      exact ⟨lay_r (kOk_nn (h.1 p hp) (by omega)), jOk_lay h (kOk_set (h.1 p hp) hk c2)⟩
    · rw [oSet_b hp hk g c2]
      exact aOk_no h (by decide)
  · rw [oSet_f g c1]
    exact aOk_no h (by decide)
theorem v30 {y : Int32} (h : 0 ≤ y ∧ y ≤ 30) : 0 ≤ y.toInt ∧ y.toInt ≤ 30 := by
  rw [fa_le, fa_le, i_0, show (30 : Int32).toInt = 30 by decide] at h
  exact h
theorem on_r {g : SG} {p : Nat} {v : Int32} (h : kOk (g.2.1 p)) (hv : 0 ≤ v.toInt ∧ v.toInt ≤ 30) : -6 ≤ (oOn p v g).1.toInt := by
  unfold oOn
  split
  · show -6 ≤ (-5 : Int32).toInt
    decide
  · show -6 ≤ (kHoldP (kOnP (g.2.1 p) v) 7).toInt
    have := kOk_7 (kOk_hold (kOk_u8 (kOk_u9 h (Or.inr rfl)) hv))
    show -6 ≤ (kHoldP (upd (upd (g.2.1 p) 9 1) 8 v) 7).toInt
    omega
theorem aOk_turnOn {c : Nat} {g : SG} (h : jOk c g) (x y : Int32) : aOk c (oTurnOn x y g) := by
  by_cases c1 : isP x
  · obtain ⟨p, hp, rfl⟩ := pair_of c1
    by_cases c2 : 0 ≤ y ∧ y ≤ 30
    · rw [oTurnOn_t hp g c2]
      exact ⟨on_r (h.1 p hp) (v30 c2), jOk_on h hp (v30 c2)⟩
    · rw [oTurnOn_b hp g c2]
      exact aOk_no h (by decide)
  · rw [oTurnOn_f g c1]
    exact aOk_no h (by decide)
theorem aOk_turnOff {c : Nat} {g : SG} (h : jOk c g) (x : Int32) : aOk c (oTurnOff x g) := by
  by_cases c1 : isP x
  · obtain ⟨p, hp, rfl⟩ := pair_of c1
    rw [oTurnOff_t hp g]
    refine ⟨?_, jOk_off h hp⟩
    unfold oOff
    split
    · show -6 ≤ (-5 : Int32).toInt
      decide
    · show -6 ≤ (g.2.1 p 7).toInt
      have := kOk_7 (h.1 p hp)
      omega
  · rw [oTurnOff_f g c1]
    exact aOk_no h (by decide)
theorem aOk_put {c : Nat} {g : SG} (h : jOk c g) (x y : Int32) : aOk c (oPut x y g) := by
  by_cases c1 : isP x
  · obtain ⟨p, hp, rfl⟩ := pair_of c1
    by_cases c2 : 0 ≤ y ∧ y ≤ 40
    · rw [oPut_t hp g c2]
      exact ⟨lay_r (kOk_nn (h.1 p hp) (by omega)), jOk_lay h (kOk_u6 (h.1 p hp) (dp_of c2))⟩
    · rw [oPut_b hp g c2]
      exact aOk_no h (by decide)
  · rw [oPut_f g c1]
    exact aOk_no h (by decide)
theorem aOk_couple {c : Nat} {g : SG} (h : jOk c g) {p q : Nat} (hp : p < 4) (hq : q < 4) : aOk c (oCouple (nI p) (nI q) g) := by
  rw [oCouple_t hp hq g]
  refine ⟨?_, jOk_cpl h hp hq⟩
  unfold oCpl
  split
  · show -6 ≤ (-2 : Int32).toInt
    decide
  split
  · show -6 ≤ (-4 : Int32).toInt
    decide
  split
  · show -6 ≤ (-3 : Int32).toInt
    decide
  split
  · show -6 ≤ (-5 : Int32).toInt
    decide
  show -6 ≤ (kMine (g.2.1 p) (g.2.1 q)).toInt
  have := (kMine_int (h.1 p hp) (h.1 q hq)).2.1
  omega
theorem pass_0 {c : Nat} {g : SG} (h : jOk c g) {n : Nat} (h1 : 1 ≤ n) (hn : n ≤ 99) (hc : c + n ≤ 99999) : 0 ≤ (oPs (nI n) g).1 := by
  rw [oPs_t h1 hn g, pass_is h hc, fa_le, i_0]
  exact last_bd g n
theorem aOk_pass {c : Nat} {g : SG} (h : jOk c g) {n : Nat} (h1 : 1 ≤ n) (hn : n ≤ 99) (hc : c + n ≤ 99999) : aOk (c + n) (oPs (nI n) g) := by
  have h0 := pass_0 h h1 hn hc
  rw [fa_le, i_0] at h0
  refine ⟨by omega, ?_⟩
  rw [oPs_t h1 hn g]
  exact jOk_pass h hc
/-! one pair, as the law looks at it -/
def kP64 (V : Nat → Int32) (d : Int32) : Int64 := if V 9 = 1 then (kPullBy V (V 8)).toInt64 else (V 0 * (V 1 - 1)).toInt64 * (V 7).toInt64 * (V 7).toInt64 / ((kCap V d).toInt64 * (kCap V d).toInt64)
theorem p64_32 (V : Nat → Int32) (d : Int32) : (kP64 V d).toInt32 = kPullAt V d (V 7) := by
  unfold kP64 kPullAt
  by_cases h : V 9 = 1
  · rw [if_pos h, if_pos h, i_l_i]
  · rw [if_neg h, if_neg h]
    rfl
theorem l_i_l {x : Int64} (h : 0 ≤ x.toInt ∧ x.toInt < 2147483648) : x.toInt32.toInt64 = x := by
  rw [fa_eq64, Int32.toInt_toInt64, Int64.toInt_toInt32, fb_bmod (by omega) (by omega)]
theorem p64_64 {V : Nat → Int32} (h : kOk V) : (kPullAt V (V 6) (V 7)).toInt64 = kP64 V (V 6) := by
  rw [← p64_32]
  by_cases h9 : V 9 = 1
  · unfold kP64
    rw [if_pos h9, i_l_i]
  · refine l_i_l ?_
    unfold kP64
    rw [if_neg h9]
    obtain ⟨-, c1, c2⟩ := kCap_int h (kOk_d h)
    have hq := kOk_7 h
    have h0 := h.1
    have h1 := h.2.1
    have e1 : (V 1 - 1).toInt = (V 1).toInt - 1 := by
      rw [fb_subI (by rw [i_1]; omega) (by rw [i_1]; omega), i_1]
    have b1 := mul_bd (a := (V 0).toInt) (b := (V 1).toInt - 1) (A := 9) (B := 8) (by omega) (by omega) (by omega) (by omega)
    have e2 : (V 0 * (V 1 - 1)).toInt = (V 0).toInt * ((V 1).toInt - 1) := by
      rw [fb_mulI (by rw [e1]; omega) (by rw [e1]; omega), e1]
    have f0 : (V 0 * (V 1 - 1)).toInt64.toInt = (V 0).toInt * ((V 1).toInt - 1) := by rw [Int32.toInt_toInt64, e2]
    have f7 : (V 7).toInt64.toInt = (V 7).toInt := Int32.toInt_toInt64 _
    have fc : (kCap V (V 6)).toInt64.toInt = (kCap V (V 6)).toInt := Int32.toInt_toInt64 _
    have b2 := mul_bd (a := (V 0).toInt * ((V 1).toInt - 1)) (b := (V 7).toInt) (A := 72) (B := 200000) b1.1 (by omega) hq.1 hq.2
    have f2 : ((V 0 * (V 1 - 1)).toInt64 * (V 7).toInt64).toInt = (V 0).toInt * ((V 1).toInt - 1) * (V 7).toInt := by
      rw [fb_mulL (by rw [f0, f7]; omega) (by rw [f0, f7]; omega), f0, f7]
    have b3 := mul_bd (a := (V 0).toInt * ((V 1).toInt - 1) * (V 7).toInt) (b := (V 7).toInt) (A := 14400000) (B := 200000) b2.1 (by omega) hq.1 hq.2
    have f3 : ((V 0 * (V 1 - 1)).toInt64 * (V 7).toInt64 * (V 7).toInt64).toInt = (V 0).toInt * ((V 1).toInt - 1) * (V 7).toInt * (V 7).toInt := by
      rw [fb_mulL (by rw [f2, f7]; omega) (by rw [f2, f7]; omega), f2, f7]
    have b4 := mul_bd (a := (kCap V (V 6)).toInt) (b := (kCap V (V 6)).toInt) (A := 3240) (B := 3240) (by omega) c2 (by omega) c2
    have b5 : (1600 : Int) ≤ (kCap V (V 6)).toInt * (kCap V (V 6)).toInt := by
      have k1 : (40 : Int) * (kCap V (V 6)).toInt ≤ (kCap V (V 6)).toInt * (kCap V (V 6)).toInt := Int.mul_le_mul_of_nonneg_right c1 (by omega)
      omega
    have f4 : ((kCap V (V 6)).toInt64 * (kCap V (V 6)).toInt64).toInt = (kCap V (V 6)).toInt * (kCap V (V 6)).toInt := by
      rw [fb_mulL (by rw [fc]; omega) (by rw [fc]; omega), fc]
    rw [divL (by rw [f3]; exact b3.1) (by rw [f4]; omega), f3, f4]
    refine ⟨Int.ediv_nonneg b3.1 (by omega), ?_⟩
    refine Int.ediv_lt_of_lt_mul (by omega) ?_
    have : (2147483648 : Int) * 1600 ≤ 2147483648 * ((kCap V (V 6)).toInt * (kCap V (V 6)).toInt) := Int.mul_le_mul_of_nonneg_left b5 (by decide)
    omega
theorem bk_id (a s b c : Int64) : a = s + b + c + (a - s - b - c) := by grind
theorem oth_of {d : Int32} (h : kDp d) : ∃ j, j ≤ 40 ∧ (d + 13) - (d + 13) / 41 * 41 = nI j := by
  obtain ⟨n, hn, rfl⟩ := dp_nat h
  refine ⟨(n + 13) % 41, by omega, ?_⟩
  show (nI n + nI 13) - (nI n + nI 13) / nI 41 * nI 41 = _
  rw [nI_add]
  exact pk_rem (by omega) (by decide) (by decide)
theorem tF_in (V : Nat → Int32) {d : Int32} (h : kDp d) : tF V d = kSize (kPullAt V d (V 7) - kSpring V d) := by
  obtain ⟨n, hn, rfl⟩ := dp_nat h
  exact if_pos (rng_in hn (by decide))
theorem dp_nI {j : Nat} (h : j ≤ 40) : kDp (nI j) := by
  unfold kDp
  rw [nI_toInt (by omega)]
  omega
theorem mv_1 {V : Nat → Int32} {d n : Int32} (a : ¬ kSize n ≤ V 4) (b : 0 < n) (c : d < 40) : kMove V d n = 1 := by rw [kMove, if_neg a, if_pos b, if_pos c]
theorem why_0 {V : Nat → Int32} (a : ¬ kSize (kNet V) ≤ V 4) (b : ¬ kNet V ≤ 0) (c : ¬ 40 ≤ V 6) : (0 : Int32) = kWhy V := by
  rw [kWhy, mv_1 a (Int32.not_le.mp b) (Int32.not_le.mp c), if_pos (by decide)]
theorem why_1 {V : Nat → Int32} (a : ¬ kSize (kNet V) ≤ V 4) (b : ¬ 0 ≤ kNet V) (c : ¬ V 6 ≤ 0) : (1 : Int32) = kWhy V := by
  have b2 := Int32.not_le.mp b
  have b3 : ¬ 0 < kNet V := by
    rw [fa_lt, i_0] at b2 ⊢
    omega
  rw [kWhy, kMove, if_neg a, if_neg b3, if_pos (Int32.not_le.mp c), if_neg (by decide), if_pos (by decide)]
theorem mv_not {V : Nat → Int32} (h1 : ¬ (¬ kSize (kNet V) ≤ V 4 ∧ ¬ kNet V ≤ 0 ∧ ¬ 40 ≤ V 6)) (h2 : ¬ (¬ kSize (kNet V) ≤ V 4 ∧ ¬ 0 ≤ kNet V ∧ ¬ V 6 ≤ 0)) (hz : ¬ kNet V = 0) : kMove V (V 6) (kNet V) = 0 := by
  rw [kMove]
  by_cases a : kSize (kNet V) ≤ V 4
  · exact if_pos a
  rw [if_neg a]
  by_cases b : 0 < kNet V
  · rw [if_pos b]
    exact if_neg (fun z => h1 ⟨a, Int32.not_le.mpr b, Int32.not_le.mpr z⟩)
  · rw [if_neg b]
    refine if_neg (fun z => h2 ⟨a, ?_, Int32.not_le.mpr z⟩)
    intro k
    refine hz ?_
    rw [fa_eq, i_0]
    rw [fa_lt, i_0] at b
    rw [fa_le, i_0] at k
    omega
theorem why_2 {V : Nat → Int32} (h : kOk V) (hz : kNet V = 0) : (2 : Int32) = kWhy V := by
  have h4 := (kOk_4 h).1
  have e : kMove V (V 6) (kNet V) = 0 := by
    rw [kMove]
    refine if_pos ?_
    rw [hz, fa_le]
    show (0 : Int32).toInt ≤ _
    rw [i_0]
    exact h4
  rw [kWhy, e, if_neg (by decide), if_neg (by decide), if_pos hz]
theorem why_34 {V : Nat → Int32} (h1 : ¬ (¬ kSize (kNet V) ≤ V 4 ∧ ¬ kNet V ≤ 0 ∧ ¬ 40 ≤ V 6)) (h2 : ¬ (¬ kSize (kNet V) ≤ V 4 ∧ ¬ 0 ≤ kNet V ∧ ¬ V 6 ≤ 0)) (hz : ¬ kNet V = 0) : kWhy V = if kSize (kNet V) ≤ V 4 then 3 else 4 := by
  rw [kWhy, mv_not h1 h2 hz, if_neg (by decide), if_neg (by decide), if_neg hz]
theorem held_l {V : Nat → Int32} (h : kHeld V) (h9 : V 9 = 1) : (V 7).toInt64 = (kCap V (V 6) * V 8).toInt64 := by rw [← h h9]
theorem sto_on {V : Nat → Int32} (h9 : V 9 = 1) : kStored V = (V 8).toInt64 * (V 7).toInt64 := if_pos h9
theorem sto_off {V : Nat → Int32} (h9 : ¬ V 9 = 1) : kStored V = (V 7).toInt64 * (V 7).toInt64 / (kCap V (V 6)).toInt64 := if_neg h9
theorem p64_on {V : Nat → Int32} (h9 : V 9 = 1) (d : Int32) : (kPullBy V (V 8)).toInt64 = kP64 V d := (if_pos h9).symm
theorem p64_off {V : Nat → Int32} (h9 : ¬ V 9 = 1) (d : Int32) : (V 0 * (V 1 - 1)).toInt64 * (V 7).toInt64 * (V 7).toInt64 / ((kCap V d).toInt64 * (kCap V d).toInt64) = kP64 V d := (if_neg h9).symm
/-! all pairs together, from the last on -/
def hD (P : Nat → Nat → Int32) (w : Int32) : Nat → Int32
  | 0 => 0
  | k + 1 => hD P w k + cPart (P (3 - k)) w
theorem hD_4 (P : Nat → Nat → Int32) (w : Int32) : hD P w 4 = cSum P w 4 := by
  show 0 + cPart (P 3) w + cPart (P 2) w + cPart (P 1) w + cPart (P 0) w = 0 + cPart (P 0) w + cPart (P 1) w + cPart (P 2) w + cPart (P 3) w
  grind
/-! the first that fits -/
theorem kFirst_spec (f : Nat → Bool) : ∀ n i, (kFirst f n i = -5 ∧ ∀ j, i ≤ j → j < i + n → ¬ f j = true) ∨ ∃ j, i ≤ j ∧ j < i + n ∧ kFirst f n i = nI j ∧ f j = true ∧ ∀ k, i ≤ k → k < j → ¬ f k = true
  | 0, i => Or.inl ⟨rfl, fun j h1 h2 => absurd h2 (by omega)⟩
  | n + 1, i => by
    by_cases h : f i = true
    · exact Or.inr ⟨i, Nat.le_refl _, by omega, kFirst_t h, h, fun k h1 h2 => absurd h2 (by omega)⟩
    · rw [kFirst_f h]
      have cs : ∀ j, i ≤ j → j = i ∨ i + 1 ≤ j := fun j hj => by omega
      rcases kFirst_spec f n (i + 1) with ⟨e, k⟩ | ⟨j, j1, j2, e, j3, k⟩
      · refine Or.inl ⟨e, fun j h1 h2 => ?_⟩
        rcases cs j h1 with rfl | h3
        · exact h
        · exact k j h3 (by omega)
      · refine Or.inr ⟨j, by omega, by omega, e, j3, fun k2 h1 h2 => ?_⟩
        rcases cs k2 h1 with rfl | h3
        · exact h
        · exact k k2 h3 h2
/-- an int of 0 or 1 that tells whether c -/
def bz (r : Int32) (c : Prop) : Prop := (r = 0 ∧ ¬ c) ∨ (r = 1 ∧ c)
theorem bz_01 {r : Int32} {c : Prop} (h : bz r c) : r = 0 ∨ r = 1 := h.elim (fun z => Or.inl z.1) (fun z => Or.inr z.1)
theorem bz_0 {r : Int32} {c : Prop} (h : bz r c) (k : r = 0) : ¬ c := by
  rcases h with h | h
  · exact h.2
  · rw [h.1] at k; exact absurd k (by decide)
theorem bz_n0 {r : Int32} {c : Prop} (h : bz r c) (k : ¬ r = 0) : c := by
  rcases h with h | h
  · exact absurd h.1 k
  · exact h.2
/-! a pair whose battery was turned on -/
def mvIn (V : Nat → Int32) (v : Int32) (d : Int32) : Prop := kMove V d (kPullBy V v - kSpring V d) = 1
def onL (V W : Nat → Int32) (v : Int32) : Prop := W 9 = 1 ∧ W 8 = v ∧ ∀ k, k < 7 → W k = V k
theorem hold_n (W : Nat → Int32) {k : Nat} (h : k ≠ 7) : kHoldP W k = W k := by
  unfold kHoldP
  split
  · exact upd_n h
  · rfl
theorem on_L (g : SG) (p : Nat) (v : Int32) : onL (g.2.1 p) ((oOn p v g).2.2.1 p) v := by
  unfold oOn
  split
  · rename_i h
    exact ⟨h.1, h.2, fun _ _ => rfl⟩
  · show onL (g.2.1 p) (va_up g.2.1 p (kHoldP (kOnP (g.2.1 p) v)) p) v
    rw [up_0]
    refine ⟨?_, ?_, fun k hk => ?_⟩
    · rw [hold_n _ (by decide), kOnP, upd_n (by decide), upd_0]
    · rw [hold_n _ (by decide), kOnP, upd_0]
    · rw [hold_n _ (by omega), kOnP, upd_n (by omega), upd_n (by omega)]
section ONL
variable {V W : Nat → Int32} {v : Int32}
theorem onL_pull (h : onL V W v) (d q : Int32) : kPullAt W d q = kPullBy V v := by
  rw [kPullAt, if_pos h.1, kPullBy, kPullBy, h.2.1, h.2.2 0 (by decide), h.2.2 1 (by decide)]
theorem onL_spring (h : onL V W v) (d : Int32) : kSpring W d = kSpring V d := by
  rw [kSpring, kSpring, h.2.2 2 (by decide), h.2.2 3 (by decide)]
theorem onL_move (h : onL V W v) (d n : Int32) : kMove W d n = kMove V d n := by
  rw [kMove, kMove, h.2.2 4 (by decide)]
theorem onL_net (h : onL V W v) : kNet W = kPullBy V v - kSpring V (V 6) := by
  rw [kNet, onL_pull h, onL_spring h, h.2.2 6 (by decide)]
theorem kWhy_0 (V : Nat → Int32) : kWhy V = 0 ↔ kMove V (V 6) (kNet V) = 1 := by
  rcases kMove_3 V (V 6) (kNet V) with q | q | q
  · rw [kWhy_no q, q]
    refine ⟨fun z => ?_, fun z => absurd z (by decide)⟩
    split at z
    · exact absurd z (by decide)
    · split at z
      · exact absurd z (by decide)
      · exact absurd z (by decide)
  · rw [kWhy, q.1]
    exact ⟨fun _ => rfl, fun _ => rfl⟩
  · rw [kWhy, q.1, if_neg (by decide), if_pos (by decide)]
    exact ⟨fun z => absurd z (by decide), fun z => absurd z (by decide)⟩
theorem onL_why (h : onL V W v) : kWhy W = 0 ↔ mvIn V v (V 6) := by
  rw [kWhy_0, onL_net h, onL_move h, h.2.2 6 (by decide)]
  rfl
theorem onL_step (h : onL V W v) (k : Nat) : (gIt W (k + 1)).1 = (gIt W k).1 + kMove V (gIt W k).1 (kPullBy V v - kSpring V (gIt W k).1) := by
  show (gIt W k).1 + kGby W (gIt W k).1 (gIt W k).2 = _
  rw [kGby, onL_pull h, onL_spring h, onL_move h]
theorem draw_in (h : onL V W v) {d0 : Nat} (hd : V 6 = nI d0) (hk : kDr V v d0) : ∀ k, d0 + k ≤ 40 → (gIt W k).1 = nI (d0 + k)
  | 0, _ => by
    show W 6 = _
    rw [h.2.2 6 (by decide), hd]
    rfl
  | k + 1, hk2 => by
    rw [onL_step h, draw_in h hd hk k (by omega), hk (d0 + k) (by omega) (by omega)]
    exact nI_1 _
theorem draw_out (h : onL V W v) (hW : kOk W) {d0 : Nat} (hd : V 6 = nI d0) (h40 : d0 < 40) (hn : ¬ kDr V v d0) : ∀ k, ¬ (gIt W k).1 = 40 := by
  have ⟨j, hj1, hj2, hj3⟩ : ∃ j, j < 40 ∧ d0 ≤ j ∧ ¬ mvIn V v (nI j) := Classical.byContradiction fun z => hn (fun j h1 h2 => Classical.byContradiction fun w => z ⟨j, h1, h2, w⟩)
  have key : ∀ k, ((gIt W k).1).toInt ≤ j := by
    intro k
    induction k with
    | zero =>
      show (W 6).toInt ≤ j
      rw [h.2.2 6 (by decide), hd, nI_toInt (by omega)]
      omega
    | succ k ih =>
      have hdp := gIt_d hW k
      rw [onL_step h]
      obtain ⟨x, ex⟩ : ∃ x, x = (gIt W k).1 := ⟨_, rfl⟩
      rw [← ex] at ih hdp ⊢
      have x0 := hdp.1
      have x4 := hdp.2
      rcases kMove_3 V x (kPullBy V v - kSpring V x) with q | q | q
      · rw [q, Int32.add_zero]
        exact ih
      · have hne : ¬ x.toInt = j := fun z => hj3 (by
          have ej : x = nI j := by
            rw [fa_eq, nI_toInt (by omega)]
            exact z
          rw [← ej]
          exact q.1)
        rw [q.1, fb_addI (by rw [i_1]; omega) (by rw [i_1]; omega), i_1]
        omega
      · rw [q.1, fb_addI (by rw [i_m1]; omega) (by rw [i_m1]; omega), i_m1]
        omega
  intro k e
  have := key k
  rw [e, i_40] at this
  omega
theorem tD_nI (W : Nat → Int32) {k : Nat} (h1 : 1 ≤ k) (h2 : k ≤ 400) : tD W (nI k) = (gIt W k).1 := by
  rw [tD, if_pos ⟨(nI_leI (a := 1) (by decide) (by omega)).mpr h1, (nI_leI (b := 400) (by omega) (by decide)).mpr h2⟩, nI_clamp (by omega)]
theorem dr_hit (h : onL V W v) {d0 : Nat} (hd : V 6 = nI d0) (h40 : d0 < 40) (hk : kDr V v d0) : ∃ k, 1 ≤ k ∧ k < 45 ∧ tD W (nI k) = 40 := by
  refine ⟨40 - d0, by omega, by omega, ?_⟩
  rw [tD_nI W (by omega) (by omega), draw_in h hd hk _ (by omega), show d0 + (40 - d0) = 40 by omega]
  rfl
theorem hit_dr (h : onL V W v) (hW : kOk W) {d0 : Nat} (hd : V 6 = nI d0) (h40 : d0 < 40) (hh : ∃ k, 1 ≤ k ∧ k ≤ 400 ∧ tD W (nI k) = 40) : kDr V v d0 := by
  obtain ⟨k, k1, k2, e⟩ := hh
  rw [tD_nI W k1 k2] at e
  exact Classical.byContradiction fun z => draw_out h hW hd h40 z k e
end ONL
/-! what is told of the ticks to come -/
theorem gBy_it (V : Nat → Int32) (r : Nat) : gBy (tIt V r) 0 = gBy V r := by
  rw [← tIt_by, ← tIt_by]
  rfl
theorem rs_0 {V : Nat → Int32} (h : gBy V 0 = 0) : kRs V = 0 := kFirst_t (f := fun n => decide (gBy V n = 0)) (decide_eq_true h)
theorem rs_spec (V : Nat → Int32) : kRs V = -5 ∧ ¬ gBy V 0 = 0 ∨ ∃ r, r ≤ 400 ∧ kRs V = nI r ∧ gBy V r = 0 ∧ (0 < r → ¬ gBy V 0 = 0) := by
  rcases kFirst_spec (fun n => decide (gBy V n = 0)) 401 0 with ⟨e, k⟩ | ⟨j, -, j2, e, j3, k⟩
  · exact Or.inl ⟨e, fun z => k 0 (Nat.le_refl _) (by decide) (decide_eq_true z)⟩
  · exact Or.inr ⟨j, by omega, e, of_decide_eq_true j3, fun h z => k 0 (Nat.le_refl _) h (decide_eq_true z)⟩
theorem td_1 (V : Nat → Int32) : tD V 1 = V 6 + gBy V 0 := by
  show tD V (nI 1) = _
  rw [tD_nI V (by decide) (by decide)]
  rfl
theorem add_same (a b : Int32) : a + b = a ↔ b = 0 := by
  refine ⟨fun h => ?_, fun h => by rw [h, Int32.add_zero]⟩
  grind
theorem td_1i (V : Nat → Int32) : tD V 1 = V 6 ↔ gBy V 0 = 0 := by rw [td_1, add_same]
theorem td_p (V : Nat → Int32) (h : kOk V) : 0 ≤ tD V 1 := by
  show 0 ≤ tD V (nI 1)
  rw [tD_nI V (by decide) (by decide), fa_le, i_0]
  exact (gIt_d h 1).1
theorem td_it (V : Nat → Int32) {k : Nat} (h1 : 1 ≤ k) (h2 : k ≤ 400) : tIt V k 6 = tD V (nI k) := by
  rw [tD_nI V h1 h2]
  exact (tIt_g V k).1
theorem lv_spec (V : Nat → Int32) : (kLv V = -5 ∧ ∀ j, j ≤ 30 → ¬ mvIn V (nI j) (V 6)) ∨ ∃ j, j ≤ 30 ∧ kLv V = nI j ∧ mvIn V (nI j) (V 6) ∧ ∀ k, k < j → ¬ mvIn V (nI k) (V 6) := by
  rcases kFirst_spec (fun v => decide (kMove V (V 6) (kPullBy V (nI v) - kSpring V (V 6)) = 1)) 31 0 with ⟨e, k⟩ | ⟨j, -, j2, e, j3, k⟩
  · exact Or.inl ⟨e, fun j hj z => k j (Nat.zero_le _) (by omega) (decide_eq_true z)⟩
  · exact Or.inr ⟨j, by omega, e, (show kMove V (V 6) (kPullBy V (nI j) - kSpring V (V 6)) = 1 from of_decide_eq_true j3), fun i hi z => k i (Nat.zero_le _) hi (decide_eq_true (show kMove V (V 6) (kPullBy V (nI i) - kSpring V (V 6)) = 1 from z))⟩
theorem kDb_iff {V : Nat → Int32} {v : Int32} {d : Nat} : kDb V v d = true ↔ kDr V v d := by
  unfold kDb
  exact @decide_eq_true_iff _ (Classical.propDecidable _)
theorem dv_spec (V : Nat → Int32) {d0 : Nat} (hd : V 6 = nI d0) (h40 : d0 ≤ 40) : (kDv V = -5 ∧ ∀ j, j ≤ 30 → ¬ kDr V (nI j) d0) ∨ ∃ j, j ≤ 30 ∧ kDv V = nI j ∧ kDr V (nI j) d0 ∧ ∀ k, k < j → ¬ kDr V (nI k) d0 := by
  have e0 : (V 6).toNatClampNeg = d0 := by rw [hd, nI_clamp (by omega)]
  rcases kFirst_spec (fun v => kDb V (nI v) (V 6).toNatClampNeg) 31 0 with ⟨e, k⟩ | ⟨j, -, j2, e, j3, k⟩
  · exact Or.inl ⟨e, fun j hj z => k j (Nat.zero_le _) (by omega) (kDb_iff.mpr (by rw [e0]; exact z))⟩
  · exact Or.inr ⟨j, by omega, e, by rw [← e0]; exact kDb_iff.mp j3, fun i hi z => k i (Nat.zero_le _) hi (kDb_iff.mpr (by rw [e0]; exact z))⟩
theorem mv_40 {V : Nat → Int32} (h : kOk V) (h6 : V 6 = 40) (v : Int32) : ¬ mvIn V v (V 6) := fun z => by
  have := ((kIn_iff h).mp z).1
  rw [h6] at this
  exact absurd this (by decide)
theorem dv_40 {V : Nat → Int32} (h6 : V 6 = 40) : kDv V = 0 := by
  refine kFirst_t (f := fun v => kDb V (nI v) (V 6).toNatClampNeg) (kDb_iff.mpr ?_)
  rw [h6]
  intro j h1 h2
  have : (40 : Int32).toNatClampNeg = 40 := by decide
  omega
/-! the history behind an act that is recorded, and behind its undo -/
theorem hi_top (n : Nat) (σ : Nat → SG) (g : SG) : hiS n σ g (rcN n - 1) = g := by
  unfold hiS rcN
  rw [Nat.add_sub_cancel]
  exact up_0
theorem rc_pos (n : Nat) : 0 < rcN n := by unfold rcN; omega
/-! acts, as the law makes them -/
theorem tn_is {g : SG} {p v : Nat} (hp : p < 4) (hv : v ≤ 30) : oTurnOn (nI p) (nI v) g = oOn p (nI v) g := oTurnOn_t hp g (rng_in hv (by decide))
theorem v_nI {v : Nat} (hv : v ≤ 30) : 0 ≤ (nI v).toInt ∧ (nI v).toInt ≤ 30 := by
  rw [nI_toInt (by omega)]
  omega
theorem on_pos {g : SG} {p : Nat} {v : Int32} (h : kOk (g.2.1 p)) (hv : 0 ≤ v.toInt ∧ v.toInt ≤ 30) : 0 ≤ (kHoldP (kOnP (g.2.1 p) v) 7).toInt := (kOk_7 (kOk_hold (kOk_u8 (kOk_u9 h (Or.inr rfl)) hv))).1
theorem tn_no {g : SG} {p v : Nat} (hg : gOk g) (hp : p < 4) (hv : v ≤ 30) (h : (oTurnOn (nI p) (nI v) g).1 = -5) : (oTurnOn (nI p) (nI v) g).2 = g := by
  rw [tn_is hp hv] at h ⊢
  unfold oOn at h ⊢
  split
  · rfl
  · rename_i c
    rw [if_neg c] at h
    have h2 : kHoldP (kOnP (g.2.1 p) (nI v)) 7 = -5 := h
    have := on_pos (v := nI v) (hg p hp) (v_nI hv)
    rw [h2] at this
    exact absurd this (by decide)
theorem tn_yes {g : SG} {p v : Nat} (hg : gOk g) (hp : p < 4) (hv : v ≤ 30) (h : ¬ (oTurnOn (nI p) (nI v) g).1 = -5) : 0 ≤ (oTurnOn (nI p) (nI v) g).1 := by
  rw [tn_is hp hv] at h ⊢
  unfold oOn at h ⊢
  split
  · rename_i c
    rw [if_pos c] at h
    exact absurd rfl h
  · show 0 ≤ kHoldP (kOnP (g.2.1 p) (nI v)) 7
    rw [fa_le, i_0]
    exact on_pos (v := nI v) (hg p hp) (v_nI hv)
theorem tn_L {g : SG} {p v : Nat} (hp : p < 4) (hv : v ≤ 30) : onL (g.2.1 p) ((oTurnOn (nI p) (nI v) g).2.2.1 p) (nI v) := by
  rw [tn_is hp hv]
  exact on_L g p (nI v)
theorem ps_at {c : Nat} {g : SG} (h : jOk c g) {n p : Nat} (h1 : 1 ≤ n) (hn : n ≤ 99) (hc : c + n ≤ 99999) (hp : p < 4) : (oPs (nI n) g).2.2.1 p = tIt (g.2.1 p) n := by
  rw [oPs_t h1 hn g, pass_is h hc]
  exact ticks_at g hp n
/-! two pairs that are coupled -/
section CPL
variable {g : SG} {p q : Nat}
theorem cp_is (hp : p < 4) (hq : q < 4) : oCouple (nI p) (nI q) g = oCpl p q g := oCouple_t hp hq g
theorem cp_eq (hp : p < 4) (hq : q < 4) (h : p = q) : (oCouple (nI p) (nI q) g).1 = -2 := by
  rw [cp_is hp hq, oCpl, if_pos h]
theorem cp_on (hg : gOk g) (hp : p < 4) (hq : q < 4) (h : ¬ p = q) (ho : ¬ (g.2.1 p 9 = 0 ∧ g.2.1 q 9 = 0)) : (oCouple (nI p) (nI q) g).1 = -4 := by
  have e1 := kOk_9 (hg p hp)
  have e2 := kOk_9 (hg q hq)
  have k : g.2.1 p 9 = 1 ∨ g.2.1 q 9 = 1 := by
    rcases e1 with e1 | e1
    · rcases e2 with e2 | e2
      · exact absurd ⟨e1, e2⟩ ho
      · exact Or.inr e2
    · exact Or.inl e1
  rw [cp_is hp hq, oCpl, if_neg h, if_pos k]
theorem off2 (ho : g.2.1 p 9 = 0 ∧ g.2.1 q 9 = 0) : ¬ (g.2.1 p 9 = 1 ∨ g.2.1 q 9 = 1) := by
  rw [ho.1, ho.2]
  decide
theorem cp_3 (hg : gOk g) (hp : p < 4) (hq : q < 4) (h : ¬ p = q) (ho : g.2.1 p 9 = 0 ∧ g.2.1 q 9 = 0) (hn : ¬ 0 ≤ (oCouple (nI p) (nI q) g).1) (h5 : ¬ (oCouple (nI p) (nI q) g).1 = -5) : (oCouple (nI p) (nI q) g).1 = -3 := by
  rw [cp_is hp hq, oCpl, if_neg h, if_neg (off2 ho)] at hn h5 ⊢
  by_cases c1 : 200000 < kMine (g.2.1 p) (g.2.1 q) ∨ 200000 < kRest (g.2.1 p) (g.2.1 q)
  · rw [if_pos c1]
  · rw [if_neg c1] at hn h5 ⊢
    by_cases c2 : kMine (g.2.1 p) (g.2.1 q) = g.2.1 p 7
    · rw [if_pos c2] at h5
      exact absurd rfl h5
    · rw [if_neg c2] at hn
      have k : ¬ 0 ≤ kMine (g.2.1 p) (g.2.1 q) := hn
      rw [fa_le, i_0] at k
      exact absurd (kMine_int (hg p hp) (hg q hq)).2.1 k
theorem cp_neg (hg : gOk g) (hp : p < 4) (hq : q < 4) (hn : ¬ 0 ≤ (oCouple (nI p) (nI q) g).1) : (oCouple (nI p) (nI q) g).2 = g := by
  rw [cp_is hp hq, oCpl] at hn ⊢
  split
  · rfl
  rename_i c0
  rw [if_neg c0] at hn
  split
  · rfl
  rename_i c1
  rw [if_neg c1] at hn
  split
  · rfl
  rename_i c2
  rw [if_neg c2] at hn
  split
  · rfl
  rename_i c3
  rw [if_neg c3] at hn
  have k : ¬ 0 ≤ kMine (g.2.1 p) (g.2.1 q) := hn
  rw [fa_le, i_0] at k
  exact absurd (kMine_int (hg p hp) (hg q hq)).2.1 k
theorem cp_pos (hg : gOk g) (hp : p < 4) (hq : q < 4) (hn : 0 ≤ (oCouple (nI p) (nI q) g).1) : ¬ p = q ∧ (g.2.1 p 9 = 0 ∧ g.2.1 q 9 = 0) ∧ ¬ kMine (g.2.1 p) (g.2.1 q) = g.2.1 p 7 ∧ oCouple (nI p) (nI q) g = (kMine (g.2.1 p) (g.2.1 q), (upd g.1 1 (g.1 1 + 1), va_up (va_up g.2.1 p (upd (g.2.1 p) 7 (kMine (g.2.1 p) (g.2.1 q)))) q (upd (g.2.1 q) 7 (kRest (g.2.1 p) (g.2.1 q))), va_up (va_up g.2.2 p (vp_updL (g.2.2 p) 2 (g.2.2 p 2 + kHalf (kLoss (g.2.1 p) (g.2.1 q))))) q (vp_updL (g.2.2 q) 2 (g.2.2 q 2 + (kLoss (g.2.1 p) (g.2.1 q) - kHalf (kLoss (g.2.1 p) (g.2.1 q))))))) := by
  rw [cp_is hp hq] at hn ⊢
  unfold oCpl at hn ⊢
  by_cases c0 : p = q
  · rw [if_pos c0] at hn
    exact absurd hn (by show ¬ (0 : Int32) ≤ -2; decide)
  rw [if_neg c0] at hn ⊢
  by_cases c1 : g.2.1 p 9 = 1 ∨ g.2.1 q 9 = 1
  · rw [if_pos c1] at hn
    exact absurd hn (by show ¬ (0 : Int32) ≤ -4; decide)
  rw [if_neg c1] at hn ⊢
  by_cases c2 : 200000 < kMine (g.2.1 p) (g.2.1 q) ∨ 200000 < kRest (g.2.1 p) (g.2.1 q)
  · rw [if_pos c2] at hn
    exact absurd hn (by show ¬ (0 : Int32) ≤ -3; decide)
  rw [if_neg c2] at hn ⊢
  by_cases c3 : kMine (g.2.1 p) (g.2.1 q) = g.2.1 p 7
  · rw [if_pos c3] at hn
    exact absurd hn (by show ¬ (0 : Int32) ≤ -5; decide)
  rw [if_neg c3]
  exact ⟨c0, ⟨(kOk_9 (hg p hp)).resolve_right (fun z => c1 (Or.inl z)), (kOk_9 (hg q hq)).resolve_right (fun z => c1 (Or.inr z))⟩, c3, rfl⟩
theorem due_is {V U : Nat → Int32} (hV : kOk V) (hU : kOk U) : (kMine V U).toInt64 = ((V 7).toInt64 + (U 7).toInt64) * (kCap V (V 6)).toInt64 / (kCap V (V 6) + kCap U (U 6)).toInt64 := by
  obtain ⟨e, e0, e1⟩ := kMine_int hV hU
  obtain ⟨-, a1, a2⟩ := kCap_int hV (kOk_d hV)
  obtain ⟨-, b1, b2⟩ := kCap_int hU (kOk_d hU)
  have h1 := kOk_7 hV
  have h2 := kOk_7 hU
  have b := mul_bd (a := (V 7).toInt + (U 7).toInt) (b := (kCap V (V 6)).toInt) (A := 400000) (B := 3240) (by omega) (by omega) (by omega) a2
  have f1 : ((V 7).toInt64 + (U 7).toInt64).toInt = (V 7).toInt + (U 7).toInt := by
    rw [fb_addL (by rw [Int32.toInt_toInt64, Int32.toInt_toInt64]; omega) (by rw [Int32.toInt_toInt64, Int32.toInt_toInt64]; omega), Int32.toInt_toInt64, Int32.toInt_toInt64]
  have f2 : (((V 7).toInt64 + (U 7).toInt64) * (kCap V (V 6)).toInt64).toInt = ((V 7).toInt + (U 7).toInt) * (kCap V (V 6)).toInt := by
    rw [fb_mulL (by rw [f1, Int32.toInt_toInt64]; omega) (by rw [f1, Int32.toInt_toInt64]; omega), f1, Int32.toInt_toInt64]
  rw [fa_eq64, Int32.toInt_toInt64, e, divL (by rw [f2]; exact b.1) (by rw [Int32.toInt_toInt64, capsum hV hU]; omega), f2, Int32.toInt_toInt64, capsum hV hU]
theorem rest_is (V U : Nat → Int32) : kRest V U = V 7 + U 7 - kMine V U := by rw [kRest, i_l_i]
theorem loss_id (a b c d e f k m : Int64) (h : e = c + d - a - b) : (k + f + (m + (e - f)) - (k + m) : Int64) = c + d - a - b := by
  subst h
  grind
end CPL
theorem k14 {k : Nat} (h : k < 14) : k = 0 ∨ k = 1 ∨ k = 2 ∨ k = 3 ∨ k = 4 ∨ k = 5 ∨ k = 6 ∨ k = 7 ∨ k = 8 ∨ k = 9 ∨ 10 ≤ k := by omega
theorem rs_iff {V : Nat → Int32} : kRs V = 0 ↔ gBy V 0 = 0 := by
  refine ⟨fun h => ?_, rs_0⟩
  rcases rs_spec V with ⟨e, -⟩ | ⟨r, hr, e, hb, -⟩
  · rw [e] at h
    exact absurd h (by decide)
  · rw [e] at h
    have : r = 0 := by
      by_cases c : r = 0
      · exact c
      · exact absurd h (nI_ne0 (by omega) (by omega))
    rw [← this]
    exact hb
theorem rs_rng {V : Nat → Int32} (h1 : ¬ kRs V ≤ 0) (h2 : ¬ 99 < kRs V) : ∃ r, 1 ≤ r ∧ r ≤ 99 ∧ kRs V = nI r ∧ gBy V r = 0 := by
  rcases rs_spec V with ⟨e, -⟩ | ⟨r, hr, e, hb, -⟩
  · rw [e] at h1
    exact absurd (by decide) h1
  · rw [e] at h1 h2
    refine ⟨r, ?_, ?_, e, hb⟩
    · by_cases c : r = 0
      · subst c
        exact absurd (by decide) h1
      · omega
    · exact (nI_leI (b := 99) (by omega) (by decide)).mp (Int32.not_lt.mp h2)
theorem lv_40 {V : Nat → Int32} (h : kOk V) (h6 : V 6 = 40) : kLv V = -5 := by
  rcases lv_spec V with ⟨e, -⟩ | ⟨j, -, -, hi, -⟩
  · exact e
  · exact absurd hi (mv_40 h h6 _)
theorem un_is {n : Nat} {σ : Nat → SG} {g g1 : SG} {r : Int32} {u : Nat × SG} (h : (rcN n = 0 ∧ r = -5 ∧ u = (rcN n, g1)) ∨ (0 < rcN n ∧ r = nI (rcN n - 1) ∧ u = (rcN n - 1, hiS n σ g (rcN n - 1)))) : r = nI (rcN n - 1) ∧ u = (rcN n - 1, g) := by
  rcases h with ⟨e, -⟩ | ⟨-, e1, e2⟩
  · have := rc_pos n
    omega
  · rw [hi_top] at e2
    exact ⟨e1, e2⟩
theorem dr_34 {V W : Nat → Int32} {v : Int32} (h : onL V W v) (hW : kOk W) {d0 : Nat} (hd : V 6 = nI d0) (h40 : d0 < 40) {x : Int32} {i : Nat} (hi : 45 ≤ i) (hx : (x = 0 ∧ ∀ k, 1 ≤ k → k < i → ¬ tD W (nI k) = 40) ∨ (x = 1 ∧ ∃ k, 1 ≤ k ∧ k ≤ 400 ∧ tD W (nI k) = 40)) : bz x (kDr V v d0) := by
  rcases hx with ⟨e, k⟩ | ⟨e, k⟩
  · refine Or.inl ⟨e, fun z => ?_⟩
    obtain ⟨j, j1, j2, j3⟩ := dr_hit h hd h40 z
    exact k j j1 (by omega) j3
  · exact Or.inr ⟨e, hit_dr h hW hd h40 k⟩
theorem dr_39 {V W : Nat → Int32} {v : Int32} (h : onL V W v) (hW : kOk W) {d0 : Nat} (hd : V 6 = nI d0) (h40 : d0 < 40) {x : Int32} {i : Nat} (hx : (x = 0 ∧ ∀ k, 1 ≤ k → k < i → ¬ tD W (nI k) = 40) ∨ (x = 1 ∧ ∃ k, 1 ≤ k ∧ k ≤ 400 ∧ tD W (nI k) = 40)) (c : ¬ x = 0) : bz x (kDr V v d0) := by
  rcases hx with ⟨e, k⟩ | ⟨e, k⟩
  · exact absurd e c
  · exact Or.inr ⟨e, hit_dr h hW hd h40 k⟩
