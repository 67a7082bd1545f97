/-! the things of a text one after another -/
section TJ
variable {tx : Nat → Int32} {len : Nat}
end TJ
abbrev gOk (g : SG) : Prop := ∀ p, p < 4 → kOk (g.2.1 p)
theorem gOk_on {g : SG} (h : gOk g) {p : Nat} (hp : p < 4) {v : Int32} (hv : 0 ≤ v.toInt ∧ v.toInt ≤ 30) : gOk (oOn p v g).2 := by
  unfold oOn
  split
  · exact h
  · exact kOk_up h (kOk_hold (kOk_u8 (kOk_u9 (h p hp) (Or.inr rfl)) hv))
theorem gOk_off {g : SG} (h : gOk g) {p : Nat} (hp : p < 4) : gOk (oOff p g).2 := by
  unfold oOff
  split
  · exact h
  · exact kOk_up h (kOk_u9 (h p hp) (Or.inl rfl))
theorem gOk_lay {g : SG} (h : gOk g) {p : Nat} {k : Nat} {v : Int32} (hu : kOk (upd (g.2.1 p) k v)) : gOk (oLay p k v g).2 := by
  unfold oLay
  split
  · exact h
  · exact kOk_up h (kOk_hold hu)
theorem gOk_cpl {g : SG} (h : gOk g) {p q : Nat} (hp : p < 4) (hq : q < 4) : gOk (oCpl p q g).2 := by
  unfold oCpl
  split
  · exact h
  split
  · exact h
  split
  · exact h
  rename_i hb
  split
  · exact h
  exact kOk_up (kOk_up h (kOk_u7 (h p hp) (kMine_bd (h p hp) (h q hq) hb))) (kOk_u7 (h q hq) (kRest_bd (h p hp) (h q hq) hb))
theorem gOk_pass {g : SG} (h : gOk g) {n : Nat} : gOk (oPass n g).2 := by
  unfold oPass
  split
  · exact h
  · exact kOk_ticks h n
