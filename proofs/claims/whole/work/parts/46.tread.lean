/-! how far the things reach -/
section TREAD
variable {tx : Nat → Int32} {len : Nat}
theorem nJ_1 {c : Nat → Int32} {i hi : Nat} : i + 1 ≤ nJ c i hi := by
  unfold nJ
  split <;> omega
theorem tJ_2 {c : Nat → Int32} {i : Nat} (h : tOk c i) : i + 2 ≤ tJ c i := by
  rcases h with ⟨h, g⟩ | ⟨h, g⟩ | ⟨h, g, g2⟩ | ⟨h, g, g2, g3⟩
  · rw [(th_n1 h g).2.2.2]
    have := nJ_1 (c := c) (i := i + 1) (hi := 99)
    omega
  · rw [(th_o1 h g).2.2.2]
    omega
  · rw [(th_c1 h g g2).2.2.2]
    omega
  · rw [(th_b1 h g g2 g3).2.2.2]
    have := nJ_1 (c := c) (i := i + 3) (hi := tHi (c i))
    omega
theorem tAt_3 {c : Nat → Int32} : ∀ {m : Nat}, pGo c len m → 3 * m ≤ tAt c m
  | 0, _ => Nat.zero_le _
  | m + 1, h => by
    have h1 := tAt_3 (m := m) (fun k hk => h k (by omega))
    have h2 := tJ_2 (h m (by omega)).1
    show 3 * (m + 1) ≤ tJ c (tAt c m) + 1
    omega
theorem th_end {i : Nat} (h : ¬ i < len) : ¬ tOk (tch tx len) i ∧ tJ (tch tx len) i = i := by
  have e := tch_out (tx := tx) h
  exact th_x (by rw [e]; decide) (by rw [e]; decide) (by rw [e]; decide) (by rw [e]; decide) (by rw [e]; decide)
theorem pBad_20 (hlen : len ≤ 60) (h : pGo (tch tx len) len 20) : pBad (tch tx len) len 20 ∧ tJ (tch tx len) (tAt (tch tx len) 20) = tAt (tch tx len) 20 := by
  have h1 := tAt_3 h
  have h2 := (tAt_b h).2
  have h3 := th_end (tx := tx) (len := len) (i := tAt (tch tx len) 20) (by omega)
  exact ⟨⟨h, Or.inl h3.1⟩, h3.2⟩
theorem pEnd_20 (hlen : len ≤ 60) {m : Nat} (h : pEnd (tch tx len) len m) : m < 20 := by
  have h1 := tAt_3 h.1
  have h2 := tJ_2 h.2.1
  have h3 := h.2.2
  omega
end TREAD
/-- the things as the trial holds them -/
def thHold (c : Nat → Int32) (m : Nat) (K A W : Nat → Int32) : Prop := ∀ k, k < m → K k = c (tAt c k) ∧ A k = nI (cA c (tAt c k)) ∧ W k = nI (cW c (tAt c k))
theorem thHold_s {c : Nat → Int32} {m : Nat} {K A W : Nat → Int32} (h : thHold c m K A W) : thHold c (m + 1) (upd K m (c (tAt c m))) (upd A m (nI (cA c (tAt c m)))) (upd W m (nI (cW c (tAt c m)))) := fun k hk => by
  rcases Nat.lt_or_ge k m with q | q
  · rw [upd_n (by omega), upd_n (by omega), upd_n (by omega)]
    exact h k q
  · rw [show k = m by omega, upd_0, upd_0, upd_0]
    exact ⟨rfl, rfl, rfl⟩
