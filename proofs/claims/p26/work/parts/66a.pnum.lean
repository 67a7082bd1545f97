/-! the property's own numbers: the law's helpers; what holds of every state that it reaches -/
def lowI (v n : Int32) : Int32 := (v &&& 2147483647) - (v &&& 2147483647) / n * n
theorem lowI_of (v : Int32) {N : Nat} (h0 : 0 < N) (hN : N < 2 ^ 31) : ∃ j, j < N ∧ lowI v (nI N) = nI j := by
  obtain ⟨k, hk, ek⟩ := pk_andE v (m := 2147483647) 31 (by decide)
  refine ⟨k % N, Nat.mod_lt _ h0, ?_⟩
  unfold lowI
  rw [ek]
  exact pk_rem hk h0 hN
theorem and3_of (v : Int32) : ∃ j, j < 4 ∧ v &&& 3 = nI j := pk_andE v (m := 3) 2 (by decide)
/-- while its battery is on, the charge of a pair is c * v -/
def kHeld (V : Nat → Int32) : Prop := V 9 = 1 → V 7 = kCap V (V 6) * V 8
theorem held_hold (W : Nat → Int32) : kHeld (kHoldP W) := by
  unfold kHeld kHoldP
  by_cases h : W 9 = 1
  · rw [if_pos h]
    intro _
    rfl
  · rw [if_neg h]
    exact fun z => absurd z h
theorem holdE_1 (W : Nat → Int32) (G : Nat → Int64) : kHoldE W G 1 = G 1 := by
  unfold kHoldE
  split
  · exact pk_uLn (by decide)
  · rfl
def jOk (c : Nat) (g : SG) : Prop := gOk g ∧ (∀ p, p < 4 → kHeld (g.2.1 p)) ∧ (0 ≤ (g.1 0).toInt ∧ (g.1 0).toInt ≤ c) ∧ ∀ p, p < 4 → 0 ≤ (g.2.2 p 1).toInt ∧ (g.2.2 p 1).toInt ≤ 1000000000 * (g.1 0).toInt
theorem jOk_le {c d : Nat} {g : SG} (h : jOk c g) (hd : c ≤ d) : jOk d g := ⟨h.1, h.2.1, ⟨h.2.2.1.1, by have := h.2.2.1.2; omega⟩, h.2.2.2⟩
theorem held_up {P : Nat → Nat → Int32} (h : ∀ p, p < 4 → kHeld (P p)) {q : Nat} {V : Nat → Int32} (hV : kHeld V) : ∀ p, p < 4 → kHeld (va_up P q V p) := by
  intro p hp
  unfold va_up
  split
  · exact hV
  · exact h p hp
theorem lk_up {E : Nat → Nat → Int64} {B : Int} (h : ∀ p, p < 4 → 0 ≤ (E p 1).toInt ∧ (E p 1).toInt ≤ B) {q : Nat} {G : Nat → Int64} (hG : q < 4 → G 1 = E q 1) : ∀ p, p < 4 → 0 ≤ (va_up E q G p 1).toInt ∧ (va_up E q G p 1).toInt ≤ B := by
  intro p hp
  unfold va_up
  split
  · rename_i e
    subst e
    rw [hG hp]
    exact h p hp
  · exact h p hp
theorem jOk_lay {c : Nat} {g : SG} (h : jOk c g) {p k : Nat} {x : Int32} (hu : kOk (upd (g.2.1 p) k x)) : jOk c (oLay p k x g).2 := by
  obtain ⟨h1, h2, h3, h4⟩ := h
  refine ⟨gOk_lay h1 hu, ?_⟩
  unfold oLay
  split
  · exact ⟨h2, h3, h4⟩
  · exact ⟨held_up h2 (held_hold _), h3, lk_up h4 (fun _ => holdE_1 _ _)⟩
theorem jOk_on {c : Nat} {g : SG} (h : jOk c g) {p : Nat} (hp : p < 4) {v : Int32} (hv : 0 ≤ v.toInt ∧ v.toInt ≤ 30) : jOk c (oOn p v g).2 := by
  obtain ⟨h1, h2, h3, h4⟩ := h
  refine ⟨gOk_on h1 hp hv, ?_⟩
  unfold oOn
  split
  · exact ⟨h2, h3, h4⟩
  · exact ⟨held_up h2 (held_hold _), h3, lk_up h4 (fun _ => holdE_1 _ _)⟩
theorem held_off {V : Nat → Int32} (h : ¬ V 9 = 1) : kHeld V := fun z => absurd z h
theorem jOk_off {c : Nat} {g : SG} (h : jOk c g) {p : Nat} (hp : p < 4) : jOk c (oOff p g).2 := by
  obtain ⟨h1, h2, h3, h4⟩ := h
  refine ⟨gOk_off h1 hp, ?_⟩
  unfold oOff
  split
  · exact ⟨h2, h3, h4⟩
  · exact ⟨held_up h2 (held_off (by rw [upd_0]; decide)), h3, h4⟩
theorem jOk_cpl {c : Nat} {g : SG} (h : jOk c g) {p q : Nat} (hp : p < 4) (hq : q < 4) : jOk c (oCpl p q g).2 := by
  obtain ⟨h1, h2, h3, h4⟩ := h
  refine ⟨gOk_cpl h1 hp hq, ?_⟩
  unfold oCpl
  split
  · exact ⟨h2, h3, h4⟩
  rename_i hn
  split
  · exact ⟨h2, h3, h4⟩
  rename_i ho
  split
  · exact ⟨h2, h3, h4⟩
  split
  · exact ⟨h2, h3, h4⟩
  refine ⟨held_up (held_up h2 (held_off (fun z => ho (Or.inl ?_)))) (held_off (fun z => ho (Or.inr ?_))), ?_, ?_⟩
  · rw [← z, upd_n (by decide)]
  · rw [← z, upd_n (by decide)]
  · show 0 ≤ (upd g.1 1 (g.1 1 + 1) 0).toInt ∧ (upd g.1 1 (g.1 1 + 1) 0).toInt ≤ c
    rw [upd_n (by decide)]
    exact h3
  · show ∀ p9, p9 < 4 → 0 ≤ (va_up (va_up g.2.2 p _) q _ p9 1).toInt ∧ (va_up (va_up g.2.2 p _) q _ p9 1).toInt ≤ 1000000000 * (upd g.1 1 (g.1 1 + 1) 0).toInt
    rw [upd_n (by decide)]
    refine lk_up (lk_up h4 (fun _ => pk_uLn (by decide))) (fun _ => ?_)
    rw [pk_uLn (by decide), up_n (fun z => hn z.symm)]
/-! a tick: the leaked energy -/
theorem sq_of {V : Nat → Int32} (h : kOk V) {q : Int32} (hq : 0 ≤ q.toInt ∧ q.toInt ≤ 200000) : (q.toInt64 * q.toInt64 / (kCap V (V 6)).toInt64).toInt = q.toInt * q.toInt / (kCap V (V 6)).toInt := by
  obtain ⟨-, c1, c2⟩ := kCap_int h (kOk_d h)
  have b := mul_bd hq.1 hq.2 hq.1 hq.2
  have e1 : (q.toInt64 * q.toInt64).toInt = q.toInt * q.toInt := by
    rw [fb_mulL (by rw [Int32.toInt_toInt64]; omega) (by rw [Int32.toInt_toInt64]; omega), Int32.toInt_toInt64]
  rw [divL (by rw [e1]; omega) (by rw [Int32.toInt_toInt64]; omega), e1, Int32.toInt_toInt64]
theorem leak_bd {V : Nat → Int32} (h : kOk V) (h9 : ¬ V 9 = 1) : 0 ≤ (kStored V - kStored (kLeakP V)).toInt ∧ (kStored V - kStored (kLeakP V)).toInt ≤ 1000000000 := by
  have hq := kOk_7 h
  have hr := leakQ h hq
  have hl := kLeak_int (kOk_5 h) hq
  obtain ⟨-, c1, c2⟩ := kCap_int h (kOk_d h)
  have e1 : kStored V = (V 7).toInt64 * (V 7).toInt64 / (kCap V (V 6)).toInt64 := by rw [kStored, if_neg h9]
  have e2 : kStored (kLeakP V) = (V 7 - kLeak V (V 7)).toInt64 * (V 7 - kLeak V (V 7)).toInt64 / (kCap V (V 6)).toInt64 := by
    rw [kLeakP, if_neg h9, kStored, if_neg (by rw [upd_n (by decide)]; exact h9), upd_0]
    rfl
  have er : (V 7 - kLeak V (V 7)).toInt = (V 7).toInt - (kLeak V (V 7)).toInt := fb_subI (by omega) (by omega)
  have b1 := mul_bd hq.1 hq.2 hq.1 hq.2
  have b2 : (V 7 - kLeak V (V 7)).toInt * (V 7 - kLeak V (V 7)).toInt ≤ (V 7).toInt * (V 7).toInt := Int.mul_le_mul (by omega) (by omega) (by omega) (by omega)
  have d1 : (V 7).toInt * (V 7).toInt / (kCap V (V 6)).toInt ≤ 1000000000 := by
    have k1 : (V 7).toInt * (V 7).toInt / (kCap V (V 6)).toInt ≤ 40000000000 / (kCap V (V 6)).toInt := Int.ediv_le_ediv (by omega) (by omega)
    have k2 : 40000000000 / (kCap V (V 6)).toInt ≤ 1000000000 := by
      refine Int.ediv_le_of_le_mul (by omega) ?_
      have : (1000000000 : Int) * 40 ≤ 1000000000 * (kCap V (V 6)).toInt := Int.mul_le_mul_of_nonneg_left c1 (by decide)
      omega
    omega
  have d2 := Int.ediv_le_ediv (show 0 < (kCap V (V 6)).toInt by omega) b2
  have d3 : 0 ≤ (V 7 - kLeak V (V 7)).toInt * (V 7 - kLeak V (V 7)).toInt / (kCap V (V 6)).toInt := Int.ediv_nonneg (Int.mul_nonneg hr.1 hr.1) (by omega)
  have f1 : (kStored V).toInt = (V 7).toInt * (V 7).toInt / (kCap V (V 6)).toInt := by rw [e1, sq_of h hq]
  have f2 : (kStored (kLeakP V)).toInt = (V 7 - kLeak V (V 7)).toInt * (V 7 - kLeak V (V 7)).toInt / (kCap V (V 6)).toInt := by rw [e2, sq_of h hr]
  rw [fb_subL (by omega) (by omega)]
  omega
theorem tickE_bd {V : Nat → Int32} (h : kOk V) (G : Nat → Int64) {B : Int} (hB : B ≤ 1000000000000000) (hG : 0 ≤ (G 1).toInt ∧ (G 1).toInt ≤ B) : 0 ≤ (kTickE V G 1).toInt ∧ (kTickE V G 1).toInt ≤ B + 1000000000 := by
  rw [kTickE, holdE_1]
  unfold kLeakE
  by_cases h9 : V 9 = 1
  · rw [if_pos h9]; omega
  · rw [if_neg h9, pk_uLs]
    have := leak_bd h h9
    rw [fb_addL (by omega) (by omega)]
    omega
theorem kAll_at (P : Nat → Nat → Int32) {p : Nat} (hp : p < 4) : kAll P p = kTickP (P p) := by rcases lt4c hp with rfl | rfl | rfl | rfl <;> rfl
theorem kAllE_at (P : Nat → Nat → Int32) (E : Nat → Nat → Int64) {p : Nat} (hp : p < 4) : kAllE P E p = kTickE (P p) (E p) := by rcases lt4c hp with rfl | rfl | rfl | rfl <;> rfl
theorem ticks_at (g : SG) {p : Nat} (hp : p < 4) : ∀ n, (oTicks n g).2.1 p = tIt (g.2.1 p) n
  | 0 => rfl
  | n + 1 => by
    show kAll (oTicks n g).2.1 p = kTickP (tIt (g.2.1 p) n)
    rw [kAll_at _ hp, ticks_at g hp n]
theorem ticks_E {g : SG} (h : gOk g) {B : Int} (hg : ∀ p, p < 4 → 0 ≤ (g.2.2 p 1).toInt ∧ (g.2.2 p 1).toInt ≤ B) : ∀ n : Nat, B + 1000000000 * n ≤ 1000000000000000 → ∀ p, p < 4 → 0 ≤ ((oTicks n g).2.2 p 1).toInt ∧ ((oTicks n g).2.2 p 1).toInt ≤ B + 1000000000 * n
  | 0, _, p, hp => by
    have := hg p hp
    show 0 ≤ (g.2.2 p 1).toInt ∧ (g.2.2 p 1).toInt ≤ _
    omega
  | n + 1, hB, p, hp => by
    have i1 := ticks_E h hg n (by omega) p hp
    show 0 ≤ (kAllE (oTicks n g).2.1 (oTicks n g).2.2 p 1).toInt ∧ _ ≤ _
    rw [kAllE_at _ _ hp]
    have := tickE_bd (kOk_ticks h n p hp) ((oTicks n g).2.2 p) (B := B + 1000000000 * n) (by omega) i1
    show _ ∧ (kAllE (oTicks n g).2.1 (oTicks n g).2.2 p 1).toInt ≤ _
    rw [kAllE_at _ _ hp]
    omega
theorem ticks_held {g : SG} (h : ∀ p, p < 4 → kHeld (g.2.1 p)) : ∀ n p, p < 4 → kHeld ((oTicks n g).2.1 p)
  | 0, p, hp => h p hp
  | n + 1, p, hp => by
    show kHeld (kAll (oTicks n g).2.1 p)
    rw [kAll_at _ hp]
    exact held_hold _
theorem pass_no {c : Nat} {g : SG} (h : jOk c g) {n : Nat} (hn : c + n ≤ 99999) : ¬ 99999 < g.1 0 + nI n := by
  have h3 := h.2.2.1
  have en : (nI n).toInt = n := nI_toInt (by omega)
  rw [fa_lt, fb_addI (by omega) (by omega), en, show (99999 : Int32).toInt = 99999 by decide]
  omega
theorem pass_is {c : Nat} {g : SG} (h : jOk c g) {n : Nat} (hn : c + n ≤ 99999) : oPass n g = (kLast n g, (upd (oTicks n g).1 0 ((oTicks n g).1 0 + nI n), (oTicks n g).2)) := if_neg (pass_no h hn)
theorem jOk_pass {c : Nat} {g : SG} (h : jOk c g) {n : Nat} (hn : c + n ≤ 99999) : jOk (c + n) (oPass n g).2 := by
  have h0 := gOk_pass h.1 (n := n)
  refine ⟨h0, ?_⟩
  rw [pass_is h hn]
  obtain ⟨h1, h2, h3, h4⟩ := h
  have en : (nI n).toInt = n := nI_toInt (by omega)
  have e0 : (upd (oTicks n g).1 0 ((oTicks n g).1 0 + nI n) 0).toInt = (g.1 0).toInt + n := by
    rw [upd_0, ticks_0, fb_addI (by omega) (by omega), en]
  refine ⟨ticks_held h2 n, ?_, ?_⟩
  · show 0 ≤ (upd (oTicks n g).1 0 ((oTicks n g).1 0 + nI n) 0).toInt ∧ (upd (oTicks n g).1 0 ((oTicks n g).1 0 + nI n) 0).toInt ≤ _
    rw [e0]
    omega
  · show ∀ p, p < 4 → 0 ≤ ((oTicks n g).2.2 p 1).toInt ∧ ((oTicks n g).2.2 p 1).toInt ≤ 1000000000 * (upd (oTicks n g).1 0 ((oTicks n g).1 0 + nI n) 0).toInt
    rw [e0]
    intro p hp
    have := ticks_E h1 h4 n (by omega) p hp
    omega
theorem moved_bd (V : Nat → Int32) : 0 ≤ (kMoved V).toInt ∧ (kMoved V).toInt ≤ 1 := by
  by_cases h : kBy (kLeakP V) = 0
  · rw [moved_0 h]; decide
  · rw [moved_1 h]; decide
theorem last_bd (g : SG) : ∀ n, 0 ≤ (kLast n g).toInt
  | 0 => by
    show 0 ≤ (0 : Int32).toInt
    decide
  | n + 1 => by
    show 0 ≤ (kMoved _ + kMoved _ + kMoved _ + kMoved _ : Int32).toInt
    have a0 := moved_bd ((oTicks n g).2.1 0)
    have a1 := moved_bd ((oTicks n g).2.1 1)
    have a2 := moved_bd ((oTicks n g).2.1 2)
    have a3 := moved_bd ((oTicks n g).2.1 3)
    have e1 := fb_addI (x := kMoved ((oTicks n g).2.1 0)) (y := kMoved ((oTicks n g).2.1 1)) (by omega) (by omega)
    have e2 := fb_addI (x := kMoved ((oTicks n g).2.1 0) + kMoved ((oTicks n g).2.1 1)) (y := kMoved ((oTicks n g).2.1 2)) (by omega) (by omega)
    have e3 := fb_addI (x := kMoved ((oTicks n g).2.1 0) + kMoved ((oTicks n g).2.1 1) + kMoved ((oTicks n g).2.1 2)) (y := kMoved ((oTicks n g).2.1 3)) (by omega) (by omega)
    omega
