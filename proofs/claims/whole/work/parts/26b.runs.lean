/-! the things of a text one after another -/
def tAt (c : Nat → Int32) : Nat → Nat
  | 0 => 0
  | m + 1 => tJ c (tAt c m) + 1
abbrev pSep (c : Nat → Int32) (len k : Nat) : Prop := tOk c (tAt c k) ∧ tJ c (tAt c k) < len ∧ c (tJ c (tAt c k)) = 59
def pGo (c : Nat → Int32) (len m : Nat) : Prop := ∀ k, k < m → pSep c len k
def pEnd (c : Nat → Int32) (len m : Nat) : Prop := pGo c len m ∧ tOk c (tAt c m) ∧ tJ c (tAt c m) = len
def pBad (c : Nat → Int32) (len m : Nat) : Prop := pGo c len m ∧ (¬ tOk c (tAt c m) ∨ (tJ c (tAt c m) < len ∧ ¬ c (tJ c (tAt c m)) = 59))
theorem pGo_s {c : Nat → Int32} {len m : Nat} (h : pGo c len m) (g : pSep c len m) : pGo c len (m + 1) := fun k hk => by
  rcases Nat.lt_or_ge k m with q | q
  · exact h k q
  · rw [show k = m by omega]; exact g
section TJ
variable {tx : Nat → Int32} {len : Nat}
theorem nJ_b {i hi lo : Nat} (h : nOk (tch tx len) i lo) (hlo : lo ≤ 9) : i < nJ (tch tx len) i hi ∧ nJ (tch tx len) i hi ≤ len := by
  have h1 := tch_pos (dg_lo hlo h).1
  unfold nJ
  split
  · rename_i g
    have := tch_pos g.2.1.1
    omega
  · omega
theorem tJ_b {i : Nat} (hi : i ≤ len) : i ≤ tJ (tch tx len) i ∧ tJ (tch tx len) i ≤ len ∧ (tOk (tch tx len) i → i < tJ (tch tx len) i) := by
  have hlt : ∀ {k : Int32}, 0 < k → tch tx len i = k → i < len := fun h e => tch_pos1 (c := _) h (by rw [e]; exact Int32.le_refl _)
  rcases kind5 (tch tx len i) with hK | hK | hK | hK | hK | hK
  · have h0 := hlt (by decide) hK
    by_cases y1 : pd4 (tch tx len (i + 1))
    · have h1 := tch_pos y1.1
      by_cases y2 : tch tx len (i + 2) = 61
      · have h2 := tch_pos1 (c := 61) (by decide) (by rw [y2]; exact Int32.le_refl _)
        by_cases y3 : nOk (tch tx len) (i + 3) 0
        · rw [(th_b1 (Or.inl hK) y1 y2 y3).2.2.2]
          have := nJ_b (hi := tHi (tch tx len i)) y3 (by decide)
          omega
        · have z := th_b02 (Or.inl hK) y1 y2 y3
          rw [z.2]
          exact ⟨by omega, by omega, fun q => absurd q z.1⟩
      · have z := th_b01 (Or.inl hK) y1 y2
        rw [z.2]
        exact ⟨by omega, by omega, fun q => absurd q z.1⟩
    · have z := th_b0 (Or.inl hK) y1
      rw [z.2]
      exact ⟨by omega, by omega, fun q => absurd q z.1⟩
  · have h0 := hlt (by decide) hK
    by_cases y1 : pd4 (tch tx len (i + 1))
    · have h1 := tch_pos y1.1
      rw [(th_o1 hK y1).2.2.2]
      omega
    · rw [(th_o0 hK y1).2]
      omega
  · have h0 := hlt (by decide) hK
    by_cases y1 : pd4 (tch tx len (i + 1))
    · have h1 := tch_pos y1.1
      by_cases y2 : tch tx len (i + 2) = 61
      · have h2 := tch_pos1 (c := 61) (by decide) (by rw [y2]; exact Int32.le_refl _)
        by_cases y3 : nOk (tch tx len) (i + 3) 0
        · rw [(th_b1 (Or.inr hK) y1 y2 y3).2.2.2]
          have := nJ_b (hi := tHi (tch tx len i)) y3 (by decide)
          omega
        · have z := th_b02 (Or.inr hK) y1 y2 y3
          rw [z.2]
          exact ⟨by omega, by omega, fun q => absurd q z.1⟩
      · have z := th_b01 (Or.inr hK) y1 y2
        rw [z.2]
        exact ⟨by omega, by omega, fun q => absurd q z.1⟩
    · have z := th_b0 (Or.inr hK) y1
      rw [z.2]
      exact ⟨by omega, by omega, fun q => absurd q z.1⟩
  · have h0 := hlt (by decide) hK
    by_cases y1 : pd4 (tch tx len (i + 1))
    · have h1 := tch_pos y1.1
      by_cases y2 : pd4 (tch tx len (i + 2))
      · have h2 := tch_pos y2.1
        rw [(th_c1 hK y1 y2).2.2.2]
        omega
      · rw [(th_c01 hK y1 y2).2]
        omega
    · rw [(th_c0 hK y1).2]
      omega
  · have h0 := hlt (by decide) hK
    by_cases y1 : nOk (tch tx len) (i + 1) 1
    · rw [(th_n1 hK y1).2.2.2]
      have := nJ_b (hi := 99) y1 (by decide)
      omega
    · rw [(th_n0 hK y1).2]
      omega
  · have z := th_x hK.1 hK.2.1 hK.2.2.1 hK.2.2.2.1 hK.2.2.2.2
    rw [z.2]
    exact ⟨by omega, by omega, fun q => absurd q z.1⟩
theorem tAt_b : ∀ {m : Nat}, pGo (tch tx len) len m → m ≤ tAt (tch tx len) m ∧ tAt (tch tx len) m ≤ len
  | 0, _ => ⟨Nat.le_refl _, Nat.zero_le _⟩
  | m + 1, h => by
    have h1 := tAt_b (m := m) (fun k hk => h k (by omega))
    have h2 := h m (by omega)
    have h3 := tJ_b (i := tAt (tch tx len) m) (tx := tx) h1.2
    show m + 1 ≤ tJ (tch tx len) (tAt (tch tx len) m) + 1 ∧ tJ (tch tx len) (tAt (tch tx len) m) + 1 ≤ len
    have h4 := h2.2.1
    omega
end TJ
/-- only one end is reached -/
theorem p_one {c : Nat → Int32} {len m m' : Nat} (h : pGo c len m) (h' : ¬ pSep c len m) (g : pGo c len m') (g' : ¬ pSep c len m') : m = m' := by
  rcases Nat.lt_trichotomy m m' with q | q | q
  · exact absurd (g m q) h'
  · exact q
  · exact absurd (h m' q) g'
theorem pEnd_n {c : Nat → Int32} {len m : Nat} (h : pEnd c len m) : ¬ pSep c len m := fun z => by
  have := z.2.1
  have := h.2.2
  omega
theorem pBad_n {c : Nat → Int32} {len m : Nat} (h : pBad c len m) : ¬ pSep c len m := fun z => by
  rcases h.2 with q | q
  · exact q z.1
  · exact q.2 z.2.2
/-- what a thing does -/
def oThing (K : Int32) (a w : Nat) (g : SG) : Int32 × SG := if K = 98 then oOn a (nI w) g else if K = 111 then oOff a g else if K = 100 then oLay a 6 (nI w) g else if K = 99 then oCpl a w g else oPass a g
def tBd (K : Int32) (a w : Nat) : Prop := (K = 98 ∧ a < 4 ∧ w ≤ 30) ∨ (K = 111 ∧ a < 4) ∨ (K = 100 ∧ a < 4 ∧ w ≤ 40) ∨ (K = 99 ∧ a < 4 ∧ w < 4) ∨ (K = 46 ∧ 1 ≤ a ∧ a ≤ 99)
theorem pd_bd {x : Int32} (h : pd4 x) : dg x < 4 := by
  obtain ⟨j, hj, rfl⟩ := nI_of (Int32.not_lt.mpr (Int32.le_trans (show (0 : Int32) ≤ 48 by decide) h.1))
  have h2 := (nI_leI (b := 51) hj (by decide)).mp h.2
  unfold dg
  rw [nI_clamp hj]
  omega
theorem nW_b {c : Nat → Int32} {i lo hi : Nat} (h : nOk c i lo) (hlo : lo ≤ 9) (hh : 9 ≤ hi) : lo ≤ nW c i hi ∧ nW c i hi ≤ hi := by
  have h1 := dg_of (dg_lo hlo h)
  have h2 : lo ≤ dg (c i) := by
    have := h.1
    rw [h1.2] at this
    have := (nI_leI (by omega) (by omega)).mp this
    omega
  unfold nW
  split
  · rename_i g
    omega
  · omega
theorem tBd_of {c : Nat → Int32} {i : Nat} (h : tOk c i) : tBd (c i) (tA c i) (tW c i) := by
  rcases h with ⟨h, g⟩ | ⟨h, g⟩ | ⟨h, g, g2⟩ | ⟨h, g, g2, g3⟩
  · have := nW_b (hi := 99) g (by decide) (by decide)
    rw [(th_n1 h g).2.1]
    exact Or.inr (Or.inr (Or.inr (Or.inr ⟨h, this⟩)))
  · rw [(th_o1 h g).2.1]
    exact Or.inr (Or.inl ⟨h, pd_bd g⟩)
  · rw [(th_c1 h g g2).2.1, (th_c1 h g g2).2.2.1]
    exact Or.inr (Or.inr (Or.inr (Or.inl ⟨h, pd_bd g, pd_bd g2⟩)))
  · rw [(th_b1 h g g2 g3).2.1, (th_b1 h g g2 g3).2.2.1]
    rcases h with h | h
    · have := nW_b (hi := 30) g3 (by decide) (by decide)
      rw [h, show tHi 98 = 30 from if_pos rfl]
      exact Or.inl ⟨rfl, pd_bd g, this.2⟩
    · have := nW_b (hi := 40) g3 (by decide) (by decide)
      rw [h, show tHi 100 = 40 from if_neg (by decide)]
      exact Or.inr (Or.inr (Or.inl ⟨rfl, pd_bd g, this.2⟩))
theorem nI_int {n : Nat} (h : n < 2 ^ 31) : (nI n).toInt = n := by
  have := nI_clamp h
  have h2 : (0 : Int32) ≤ nI n := nI_pos' (by omega)
  rw [fa_le, i_0] at h2
  have h3 : (nI n).toNatClampNeg = (nI n).toInt.toNat := rfl
  omega
abbrev gOk (g : SG) : Prop := ∀ p, p < 4 → kOk (g.2.1 p)
theorem gOk_on {g : SG} (h : gOk g) {p : Nat} (hp : p < 4) {v : Int32} (hv : 0 ≤ v.toInt ∧ v.toInt ≤ 30) : gOk (oOn p v g).2 := by
  unfold oOn
  split
  · exact h
  · exact kOk_up h (kOk_hold (kOk_u8 (kOk_u9 (h p hp) (Or.inr rfl)) hv))
theorem gOk_off {g : SG} (h : gOk g) {p : Nat} (hp : p < 4) : gOk (oOff p g).2 := by
  unfold oOff
  split
  · exact h
  · exact kOk_up h (kOk_u9 (h p hp) (Or.inl rfl))
theorem gOk_lay {g : SG} (h : gOk g) {p : Nat} {k : Nat} {v : Int32} (hu : kOk (upd (g.2.1 p) k v)) : gOk (oLay p k v g).2 := by
  unfold oLay
  split
  · exact h
  · exact kOk_up h (kOk_hold hu)
theorem gOk_cpl {g : SG} (h : gOk g) {p q : Nat} (hp : p < 4) (hq : q < 4) : gOk (oCpl p q g).2 := by
  unfold oCpl
  split
  · exact h
  split
  · exact h
  split
  · exact h
  rename_i hb
  split
  · exact h
  exact kOk_up (kOk_up h (kOk_u7 (h p hp) (kMine_bd (h p hp) (h q hq) hb))) (kOk_u7 (h q hq) (kRest_bd (h p hp) (h q hq) hb))
theorem gOk_pass {g : SG} (h : gOk g) {n : Nat} : gOk (oPass n g).2 := by
  unfold oPass
  split
  · exact h
  · exact kOk_ticks h n
theorem gOk_thing {g : SG} (h : gOk g) {K : Int32} {a w : Nat} (hb : tBd K a w) : gOk (oThing K a w g).2 := by
  rcases hb with ⟨rfl, ha, hw⟩ | ⟨rfl, ha⟩ | ⟨rfl, ha, hw⟩ | ⟨rfl, ha, hw⟩ | ⟨rfl, ha⟩
  · exact gOk_on h ha (by rw [nI_int (by omega)]; omega)
  · exact gOk_off h ha
  · exact gOk_lay h (kOk_u6 (h a ha) (by unfold kDp; rw [nI_int (by omega)]; omega))
  · exact gOk_cpl h ha hw
  · exact gOk_pass h
/-- the numbers after m things of the text; what each answers -/
def sK (c : Nat → Int32) (g : SG) : Nat → SG
  | 0 => g
  | m + 1 => (oThing (c (tAt c m)) (tA c (tAt c m)) (tW c (tAt c m)) (sK c g m)).2
def rK (c : Nat → Int32) (g : SG) (m : Nat) : Int32 := (oThing (c (tAt c m)) (tA c (tAt c m)) (tW c (tAt c m)) (sK c g m)).1
abbrev isE (x : Int32) : Prop := x < 0 ∧ ¬ x = -5
theorem gOk_sK {c : Nat → Int32} {len : Nat} {g : SG} (h : gOk g) : ∀ {m : Nat}, pGo c len m → gOk (sK c g m)
  | 0, _ => h
  | m + 1, hm => gOk_thing (gOk_sK h (fun k hk => hm k (by omega))) (tBd_of (hm m (by omega)).1)
