/-! what both programs keep from call to call -/
def gT (g : SG) : Prop := 0 ≤ (g.1 0).toInt ∧ (g.1 0).toInt ≤ 99999
def gW (g : SG) : Prop := gOk g ∧ gT g
theorem gT_lay {g : SG} (h : gT g) (p k : Nat) (x : Int32) : gT (oLay p k x g).2 := by
  unfold oLay
  split
  · exact h
  · exact h
theorem gT_on {g : SG} (h : gT g) (p : Nat) (x : Int32) : gT (oOn p x g).2 := by
  unfold oOn
  split
  · exact h
  · exact h
theorem gT_off {g : SG} (h : gT g) (p : Nat) : gT (oOff p g).2 := by
  unfold oOff
  split
  · exact h
  · exact h
theorem gT_cpl {g : SG} (h : gT g) (p q : Nat) : gT (oCpl p q g).2 := by
  unfold oCpl
  split
  · exact h
  split
  · exact h
  split
  · exact h
  split
  · exact h
  · exact h
theorem ticks_0 (g : SG) : ∀ n, (oTicks n g).1 0 = g.1 0
  | 0 => rfl
  | n + 1 => ticks_0 g n
theorem gT_pass {g : SG} (h : gT g) {n : Nat} (hn : n ≤ 99) : gT (oPass n g).2 := by
  unfold oPass
  split
  · exact h
  · rename_i c9
    unfold gT at h ⊢
    show 0 ≤ ((oTicks n g).1 0 + nI n).toInt ∧ ((oTicks n g).1 0 + nI n).toInt ≤ 99999
    rw [ticks_0]
    have hi := nI_toInt (n := n) (by omega)
    have ha : (g.1 0 + nI n).toInt = (g.1 0).toInt + (nI n).toInt := fb_addI (by omega) (by omega)
    rw [Int32.not_lt, fa_le, ha, show (99999 : Int32).toInt = 99999 by decide] at c9
    rw [ha]
    omega
/-- the acts keep the bounds -/
theorem gW_set {g : SG} (h : gW g) (x w y : Int32) : gW (oSet x w y g).2 := by
  by_cases h1 : isP x ∧ (0 ≤ w ∧ w ≤ 5)
  · obtain ⟨p, hp, rfl⟩ := pair_of h1.1
    obtain ⟨k, hk, rfl⟩ := rng_of (n := 5) (by decide) h1.2
    by_cases hy : kLo k ≤ y ∧ y ≤ kHi k
    · rw [oSet_t hp hk g hy]
      exact ⟨gOk_lay h.1 (kOk_set (h.1 p hp) hk hy), gT_lay h.2 _ _ _⟩
    · rw [oSet_b hp hk g hy]
      exact h
  · rw [oSet_f g h1]
    exact h
theorem gW_turnOn {g : SG} (h : gW g) (x y : Int32) : gW (oTurnOn x y g).2 := by
  by_cases h1 : isP x
  · obtain ⟨p, hp, rfl⟩ := pair_of h1
    by_cases hy : 0 ≤ y ∧ y ≤ 30
    · rw [oTurnOn_t hp g hy]
      have e30 : (30 : Int32).toInt = 30 := by decide
      exact ⟨gOk_on h.1 hp (by rw [fa_le, fa_le, i_0, e30] at hy; exact hy), gT_on h.2 _ _⟩
    · rw [oTurnOn_b hp g hy]
      exact h
  · rw [oTurnOn_f g h1]
    exact h
theorem gW_turnOff {g : SG} (h : gW g) (x : Int32) : gW (oTurnOff x g).2 := by
  by_cases h1 : isP x
  · obtain ⟨p, hp, rfl⟩ := pair_of h1
    rw [oTurnOff_t hp g]
    exact ⟨gOk_off h.1 hp, gT_off h.2 _⟩
  · rw [oTurnOff_f g h1]
    exact h
theorem gW_put {g : SG} (h : gW g) (x y : Int32) : gW (oPut x y g).2 := by
  by_cases h1 : isP x
  · obtain ⟨p, hp, rfl⟩ := pair_of h1
    by_cases hy : 0 ≤ y ∧ y ≤ 40
    · rw [oPut_t hp g hy]
      exact ⟨gOk_lay h.1 (kOk_u6 (h.1 p hp) (dp_of hy)), gT_lay h.2 _ _ _⟩
    · rw [oPut_b hp g hy]
      exact h
  · rw [oPut_f g h1]
    exact h
theorem gW_couple {g : SG} (h : gW g) (x y : Int32) : gW (oCouple x y g).2 := by
  by_cases h1 : isP x ∧ isP y
  · obtain ⟨p, hp, rfl⟩ := pair_of h1.1
    obtain ⟨q, hq, rfl⟩ := pair_of h1.2
    rw [oCouple_t hp hq g]
    exact ⟨gOk_cpl h.1 hp hq, gT_cpl h.2 _ _⟩
  · rw [oCouple_f g h1]
    exact h
theorem gW_pass {g : SG} (h : gW g) (x : Int32) : gW (oPs x g).2 := by
  by_cases h1 : 1 ≤ x ∧ x ≤ 99
  · obtain ⟨n, hn, rfl⟩ := rng_of (n := 99) (by decide) ⟨Int32.le_trans (by decide) h1.1, h1.2⟩
    have hn1 : 1 ≤ n := (nI_leI (a := 1) (by decide) (by omega)).mp h1.1
    rw [oPs_t hn1 hn g]
    exact ⟨gOk_pass h.1, gT_pass h.2 hn⟩
  · rw [oPs_f g h1]
    exact h
theorem rcN_le {n : Nat} (h : n ≤ 4) : rcN n ≤ 4 := by
  unfold rcN
  split <;> omega
theorem hiS_ok {n : Nat} {σ : Nat → SG} {g : SG} (h : ∀ i, i < n → gW (σ i)) (hg : gW g) (hn : n ≤ 4) : ∀ i, i < rcN n → gW (hiS n σ g i) := by
  intro i hi
  unfold rcN at hi
  unfold hiS
  by_cases c9 : n = 4
  · subst c9
    simp only [if_true] at hi ⊢
    by_cases c8 : i = 3
    · subst c8
      rw [up_0]
      exact hg
    · rw [up_n c8]
      have : rot σ i = σ (i + 1) := if_pos (by omega)
      rw [this]
      exact h _ (by omega)
  · simp only [if_neg c9] at hi ⊢
    by_cases c8 : i = n
    · subst c8
      rw [up_0]
      exact hg
    · rw [up_n c8]
      exact h _ (by omega)
section LINV
variable {k0 k1 k2 k3 : Int32} {n : Nat} {σ : Nat → SG} {g gs gb : SG} {tx : Nat → Int32} {len : Nat} {v ik : Nat → Int32} {ek : Nat → Int64} {ib : Nat → Int32} {eb : Nat → Int64} {d : Nat → Nat → Nat}
theorem gT_0 {x : SG} (h : gT x) : (0 : Int32) ≤ x.1 0 := by
  rw [fa_le, i_0]
  exact h.1
end LINV
theorem sg0_w : gW sg0 := ⟨sg0_ok, by unfold gT; decide⟩
