/-! the history: a state in front, a turn of the row -/
abbrev stF (b : Nat → Nat) (g : SG) : List Value := [.ref (b 1), .int (g.1 0), .int (g.1 1), .int (g.1 2)]
abbrev stR (T : Nat → ClassId) (b : Nat → Nat) (g : SG) : va_W := [(b 1, .inl (T 3, 4, .inr (.inr (.inr (.inr (fun i => some (b (2 + 2 * i))))))))] ++ stT T b g.2.1 g.2.2
def hiS (n : Nat) (σ : Nat → SG) (g : SG) : Nat → SG := va_up (if n = 4 then rot σ else σ) (if n = 4 then 3 else n) g
def hiD (n : Nat) (d : Nat → Nat → Nat) : Nat → Nat → Nat := if n = 4 then rot d else d
abbrev hiQ (d : Nat → Nat → Nat) (σ : Nat → SG) : va_W := [(d 0 0, .inr (2, stF (d 0) (σ 0))), (d 1 0, .inr (2, stF (d 1) (σ 1))), (d 2 0, .inr (2, stF (d 2) (σ 2))), (d 3 0, .inr (2, stF (d 3) (σ 3)))]
section HIST2
variable {T : Nat → ClassId} {d : Nat → Nat → Nat} {σ : Nat → SG} {b : Nat → Nat} {g : SG} {hh : va_W}
theorem hr_perm : (hiT T d σ).Perm (hiT T (rot d) (rot σ)) := fl_perm [sgW T (d 0) (σ 0), sgW T (d 1) (σ 1), sgW T (d 2) (σ 2), sgW T (d 3) (σ 3)] [1, 2, 3, 0] rfl rfl
theorem hs_perm (R : va_W) : (hh ++ (hiT T d σ ++ R)).Perm ((hh ++ hiQ d σ) ++ (fl [stR T (d 0) (σ 0), stR T (d 1) (σ 1), stR T (d 2) (σ 2), stR T (d 3) (σ 3)] ++ R)) :=
  ho_perm R (stF (d 0) (σ 0)) (stF (d 1) (σ 1)) (stF (d 2) (σ 2)) (stF (d 3) (σ 3)) (stR T (d 0) (σ 0)) (stR T (d 1) (σ 1)) (stR T (d 2) (σ 2)) (stR T (d 3) (σ 3)) hh
theorem hrot_perm (R : va_W) : ((hh ++ hiQ d σ) ++ (fl [stR T (d 0) (σ 0), stR T (d 1) (σ 1), stR T (d 2) (σ 2), stR T (d 3) (σ 3)] ++ R)).Perm (hh ++ (hiT T (rot d) (rot σ) ++ R)) :=
  (hs_perm R).symm.trans (List.Perm.append_left hh (List.Perm.append_right R hr_perm))
theorem hp_foc {p : Nat} (hp : p < 4) : (hh ++ (hiT T d σ ++ sgW T b g)).Perm (((stH T (d p) (σ p).1 ++ stH T b g.1) ++ (stT T (d p) (σ p).2.1 (σ p).2.2 ++ stT T b g.2.1 g.2.2)) ++ (hh ++ hiO T d σ p)) := by
  have z := sg2_perm (T := T) (d p) b (σ p) g hh (hiO T d σ p) []
  rw [List.append_nil, List.append_nil] at z
  exact (List.Perm.append_left hh (List.Perm.append_right _ (hiT_perm hp))).trans z
theorem hq_foc {p : Nat} (hp : p < 4) : (hh ++ (hiT T d σ ++ sgW T b g)).Perm (((stH T b g.1 ++ stH T (d p) (σ p).1) ++ (stT T b g.2.1 g.2.2 ++ stT T (d p) (σ p).2.1 (σ p).2.2)) ++ (hh ++ hiO T d σ p)) := by
  have z := sg2_perm (T := T) b (d p) g (σ p) hh [] (hiO T d σ p)
  rw [List.append_nil, List.nil_append] at z
  refine List.Perm.trans ?_ z
  refine List.Perm.append_left hh ?_
  exact (List.Perm.append_right _ (hiT_perm hp)).trans (List.perm_append_comm)
theorem hp_unf {p : Nat} (hp : p < 4) : (((stH T (d p) g.1 ++ stH T b g.1) ++ (stT T (d p) g.2.1 g.2.2 ++ stT T b g.2.1 g.2.2)) ++ (hh ++ hiO T d σ p)).Perm (hh ++ (hiT T d (va_up σ p g) ++ sgW T b g)) := by
  have z := (hp_foc (T := T) (d := d) (σ := va_up σ p g) (b := b) (g := g) (hh := hh) hp).symm
  rw [hiO_up hp, up_0] at z
  exact z
end HIST2
