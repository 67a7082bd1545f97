/-! a pair by itself, tick after tick: the whole of it, and its depth and charge alone -/
def tIt (V : Nat → Int32) : Nat → Nat → Int32
  | 0 => V
  | n + 1 => kTickP (tIt V n)
theorem tIt_ok {V : Nat → Int32} (h : kOk V) : ∀ n, kOk (tIt V n)
  | 0 => h
  | n + 1 => kOk_tick (tIt_ok h n)
/-- all but depth and charge alike -/
def aLike (V W : Nat → Int32) : Prop := ∀ k, k ≠ 6 → k ≠ 7 → W k = V k
theorem aL_cap {V W : Nat → Int32} (h : aLike V W) (d : Int32) : kCap W d = kCap V d := by
  rw [kCap, kCap, h 0 (by decide) (by decide), h 1 (by decide) (by decide)]
theorem aL_pull {V W : Nat → Int32} (h : aLike V W) (d q : Int32) : kPullAt W d q = kPullAt V d q := by
  rw [kPullAt, kPullAt, kPullBy, kPullBy, kPullOf, kPullOf, aL_cap h, h 9 (by decide) (by decide), h 8 (by decide) (by decide), h 0 (by decide) (by decide), h 1 (by decide) (by decide)]
theorem aL_spring {V W : Nat → Int32} (h : aLike V W) (d : Int32) : kSpring W d = kSpring V d := by
  rw [kSpring, kSpring, h 2 (by decide) (by decide), h 3 (by decide) (by decide)]
theorem aL_move {V W : Nat → Int32} (h : aLike V W) (d n : Int32) : kMove W d n = kMove V d n := by
  rw [kMove, kMove, h 4 (by decide) (by decide)]
theorem aL_leak {V W : Nat → Int32} (h : aLike V W) (q : Int32) : kLeak W q = kLeak V q := by
  rw [kLeak, kLeak, h 5 (by decide) (by decide)]
theorem aL_6 {V W : Nat → Int32} (h : aLike V W) (x : Int32) : aLike V (upd W 6 x) := fun k h6 h7 => by rw [upd_n h6]; exact h k h6 h7
theorem aL_7 {V W : Nat → Int32} (h : aLike V W) (x : Int32) : aLike V (upd W 7 x) := fun k h6 h7 => by rw [upd_n h7]; exact h k h6 h7
theorem aL_lk {V W : Nat → Int32} (h : aLike V W) : aLike V (kLeakP W) := by
  unfold kLeakP
  split
  · exact h
  · exact aL_7 h _
theorem aL_st {V W : Nat → Int32} (h : aLike V W) : aLike V (kStepP W) := aL_6 h _
theorem aL_hd {V W : Nat → Int32} (h : aLike V W) : aLike V (kHoldP W) := by
  unfold kHoldP
  split
  · exact aL_7 h _
  · exact h
theorem aL_tk {V W : Nat → Int32} (h : aLike V W) : aLike V (kTickP W) := aL_hd (aL_st (aL_lk h))
theorem tIt_like (V : Nat → Int32) : ∀ n, aLike V (tIt V n)
  | 0 => fun _ _ _ => rfl
  | n + 1 => aL_tk (tIt_like V n)
theorem on_pull {V : Nat → Int32} (h : V 9 = 1) (d q1 q2 : Int32) : kPullAt V d q1 = kPullAt V d q2 := by
  rw [kPullAt, if_pos h, kPullAt, if_pos h]
theorem lk_6 (W : Nat → Int32) : kLeakP W 6 = W 6 := by
  unfold kLeakP
  split
  · rfl
  · exact upd_n (by decide)
theorem hd_6 (W : Nat → Int32) : kHoldP W 6 = W 6 := by
  unfold kHoldP
  split
  · exact upd_n (by decide)
  · rfl
/-- by how much it moves: the same, said of depth and charge -/
theorem by_like {V W : Nat → Int32} (h : aLike V W) {q : Int32} (hq : ¬ V 9 = 1 → W 7 = q) : kBy (kLeakP W) = kGby V (W 6) q := by
  have h9 : W 9 = V 9 := h 9 (by decide) (by decide)
  rw [kBy, kNet, kGby, lk_6, aL_move (aL_lk h), aL_pull (aL_lk h), aL_spring (aL_lk h)]
  by_cases c : V 9 = 1
  · rw [on_pull c (W 6) (kLeakP W 7) (kGq V q)]
  · have e : kLeakP W 7 = kGq V q := by
      rw [kLeakP, if_neg (by rw [h9]; exact c), upd_0, kGq, if_neg c, hq c, aL_leak h]
    rw [e]
theorem tIt_g (V : Nat → Int32) : ∀ n, tIt V n 6 = (gIt V n).1 ∧ (¬ V 9 = 1 → tIt V n 7 = (gIt V n).2)
  | 0 => ⟨rfl, fun _ => rfl⟩
  | n + 1 => by
    obtain ⟨i1, i2⟩ := tIt_g V n
    have hl := tIt_like V n
    have hb := by_like hl i2
    refine ⟨?_, fun c => ?_⟩
    · show kHoldP (kStepP (kLeakP (tIt V n))) 6 = (gIt V n).1 + kGby V (gIt V n).1 (gIt V n).2
      rw [hd_6, kStepP, upd_0, hb, lk_6, i1]
    · show kHoldP (kStepP (kLeakP (tIt V n))) 7 = kGq V (gIt V n).2
      have h9 : kStepP (kLeakP (tIt V n)) 9 = V 9 := aL_st (aL_lk hl) 9 (by decide) (by decide)
      rw [kHoldP, if_neg (by rw [h9]; exact c), kStepP, upd_n (by decide), kLeakP, if_neg (by rw [hl 9 (by decide) (by decide)]; exact c), upd_0, kGq, if_neg c, i2 c, aL_leak hl]
theorem tIt_by (V : Nat → Int32) (n : Nat) : kBy (kLeakP (tIt V n)) = gBy V n := by
  rw [by_like (tIt_like V n) (tIt_g V n).2, (tIt_g V n).1, gBy]
/-- which pair is pulled most: the last of those from p on that is no less than any, by the second program's way; the first of those below i, by the first one's -/
def isBest (A : Nat → Int) (p : Nat) : Option Nat → Prop
  | none => ∀ j, p ≤ j → j < 4 → A j ≤ 0
  | some k => p ≤ k ∧ k < 4 ∧ 0 < A k ∧ (∀ j, p ≤ j → j < 4 → A j ≤ A k) ∧ ∀ j, p ≤ j → j < k → A j < A k
theorem sStep_best {P : Nat → Nat → Int32} {A : Nat → Int} (hA : ∀ j, A j = (kPl (P j)).toInt) {p : Nat} (hp : p < 4) {o : Option Nat} (h : isBest A (p + 1) o) : isBest A p (sStep P p o) := by
  have e0 := i_0
  have cs : ∀ j, p ≤ j → j = p ∨ p + 1 ≤ j := fun j hj => by omega
  by_cases c : 0 < kPl (P p)
  · have cA : 0 < A p := by rw [fa_lt, e0] at c; rw [hA]; exact c
    cases o with
    | none =>
      rw [sStep_none c]
      refine ⟨Nat.le_refl _, hp, cA, fun j h1 h2 => ?_, fun j h1 h2 => absurd h1 (by omega)⟩
      rcases cs j h1 with rfl | h3
      · exact Int.le_refl _
      · have := h j h3 h2
        omega
    | some k =>
      obtain ⟨k1, k2, k3, k4, k5⟩ := h
      by_cases c2 : kPl (P k) ≤ kPl (P p)
      · rw [sStep_more c c2]
        have cB : A k ≤ A p := by rw [fa_le] at c2; rw [hA, hA]; exact c2
        refine ⟨Nat.le_refl _, hp, cA, fun j h1 h2 => ?_, fun j h1 h2 => absurd h1 (by omega)⟩
        rcases cs j h1 with rfl | h3
        · exact Int.le_refl _
        · have := k4 j h3 h2
          omega
      · rw [sStep_less c2]
        have cB : A p < A k := by rw [Int32.not_le, fa_lt] at c2; rw [hA, hA]; exact c2
        refine ⟨by omega, k2, k3, fun j h1 h2 => ?_, fun j h1 h2 => ?_⟩
        · rcases cs j h1 with rfl | h3
          · omega
          · exact k4 j h3 h2
        · rcases cs j h1 with rfl | h3
          · exact cB
          · exact k5 j h3 h2
  · have cA : A p ≤ 0 := by rw [fa_lt, e0] at c; rw [hA]; omega
    rw [sStep_no c]
    cases o with
    | none =>
      intro j h1 h2
      rcases cs j h1 with rfl | h3
      · exact cA
      · exact h j h3 h2
    | some k =>
      obtain ⟨k1, k2, k3, k4, k5⟩ := h
      refine ⟨by omega, k2, k3, fun j h1 h2 => ?_, fun j h1 h2 => ?_⟩
      · rcases cs j h1 with rfl | h3
        · omega
        · exact k4 j h3 h2
      · rcases cs j h1 with rfl | h3
        · omega
        · exact k5 j h3 h2
theorem sMax_best {P : Nat → Nat → Int32} {A : Nat → Int} (hA : ∀ j, A j = (kPl (P j)).toInt) : ∀ (n : Nat) (o : Option Nat), n ≤ 4 → isBest A n o → isBest A 0 (sMax P n o)
  | 0, _, _, h => h
  | n + 1, o, hn, h => sMax_best hA n _ (by omega) (sStep_best hA (by omega) h)
def isFst (A : Nat → Int) (P : Nat → Nat → Int32) (i : Nat) (x : Int32 × Int32) : Prop := (x = (0, -5) ∧ ∀ j, j < i → A j ≤ 0) ∨ ∃ k, x = (kPl (P k), nI k) ∧ k < i ∧ 0 < A k ∧ (∀ j, j < i → A j ≤ A k) ∧ ∀ j, j < k → A j < A k
theorem sUp_fst {P : Nat → Nat → Int32} {A : Nat → Int} (hA : ∀ j, A j = (kPl (P j)).toInt) : ∀ i, isFst A P i (sUp P i)
  | 0 => Or.inl ⟨rfl, fun j hj => absurd hj (by omega)⟩
  | i + 1 => by
    have e0 := i_0
    have ih := sUp_fst hA i
    have cs : ∀ j, j < i + 1 → j = i ∨ j < i := fun j hj => by omega
    rw [sUp]
    by_cases c : (sUp P i).1 < kPl (P i)
    · rw [if_pos c]
      rcases ih with ⟨e, h⟩ | ⟨k, e, k1, k2, k3, k4⟩
      · rw [e, fa_lt, e0] at c
        have cA : 0 < A i := by rw [hA]; exact c
        refine Or.inr ⟨i, rfl, by omega, cA, fun j hj => ?_, fun j hj => ?_⟩
        · rcases cs j hj with rfl | hj
          · exact Int.le_refl _
          · have := h j hj
            omega
        · have := h j hj
          omega
      · rw [e, fa_lt] at c
        have cA : A k < A i := by rw [hA, hA]; exact c
        refine Or.inr ⟨i, rfl, by omega, by omega, fun j hj => ?_, fun j hj => ?_⟩
        · rcases cs j hj with rfl | hj
          · exact Int.le_refl _
          · have := k3 j hj
            omega
        · have := k3 j hj
          omega
    · rw [if_neg c]
      rcases ih with ⟨e, h⟩ | ⟨k, e, k1, k2, k3, k4⟩
      · rw [e, fa_lt, e0] at c
        refine Or.inl ⟨e, fun j hj => ?_⟩
        rcases cs j hj with rfl | hj
        · rw [hA]; omega
        · exact h j hj
      · rw [e, fa_lt] at c
        refine Or.inr ⟨k, e, by omega, k2, fun j hj => ?_, k4⟩
        rcases cs j hj with rfl | hj
        · have c8 : ¬ (kPl (P k)).toInt < (kPl (P j)).toInt := c
          rw [hA, hA]; omega
        · exact k3 j hj
theorem sUp_max (P : Nat → Nat → Int32) : (sUp P 4).2 = oI (sMax P 4 none) := by
  have hA : ∀ j, (fun j => (kPl (P j)).toInt) j = (kPl (P j)).toInt := fun _ => rfl
  have h1 := sUp_fst hA 4
  have h2 := sMax_best hA 4 none (by decide) (fun j h1 h2 => absurd h1 (by omega))
  generalize (fun j => (kPl (P j)).toInt) = A at h1 h2
  cases ho : sMax P 4 none with
  | none =>
    rw [ho] at h2
    rcases h1 with ⟨e, -⟩ | ⟨k, -, k1, k2, -, -⟩
    · rw [e]; rfl
    · have := h2 k (Nat.zero_le _) k1
      omega
  | some f =>
    rw [ho] at h2
    obtain ⟨-, f1, f2, f3, f4⟩ := h2
    rcases h1 with ⟨-, h⟩ | ⟨k, e, k1, k2, k3, k4⟩
    · have := h f f1
      omega
    · rw [e]
      show nI k = nI f
      congr 1
      by_cases c : k < f
      · have a1 := f4 k (Nat.zero_le _) c
        have a2 := k3 f f1
        omega
      · by_cases c2 : f < k
        · have a1 := k4 f c2
          have a2 := f3 k (Nat.zero_le _) k1
          omega
        · omega
