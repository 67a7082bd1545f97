/-! what both programs keep from call to call -/
def gT (g : SG) : Prop := 0 ≤ (g.1 0).toInt ∧ (g.1 0).toInt ≤ 99999
def gW (g : SG) : Prop := gOk g ∧ gT g
theorem gT_lay {g : SG} (h : gT g) (p k : Nat) (x : Int32) : gT (oLay p k x g).2 := by
  unfold oLay
  split
  · exact h
  · exact h
theorem gT_on {g : SG} (h : gT g) (p : Nat) (x : Int32) : gT (oOn p x g).2 := by
  unfold oOn
  split
  · exact h
  · exact h
theorem gT_off {g : SG} (h : gT g) (p : Nat) : gT (oOff p g).2 := by
  unfold oOff
  split
  · exact h
  · exact h
theorem gT_cpl {g : SG} (h : gT g) (p q : Nat) : gT (oCpl p q g).2 := by
  unfold oCpl
  split
  · exact h
  split
  · exact h
  split
  · exact h
  split
  · exact h
  · exact h
theorem ticks_0 (g : SG) : ∀ n, (oTicks n g).1 0 = g.1 0
  | 0 => rfl
  | n + 1 => ticks_0 g n
theorem gT_pass {g : SG} (h : gT g) {n : Nat} (hn : n ≤ 99) : gT (oPass n g).2 := by
  unfold oPass
  split
  · exact h
  · rename_i c9
    unfold gT at h ⊢
    show 0 ≤ ((oTicks n g).1 0 + nI n).toInt ∧ ((oTicks n g).1 0 + nI n).toInt ≤ 99999
    rw [ticks_0]
    have hi := nI_int (n := n) (by omega)
    have ha : (g.1 0 + nI n).toInt = (g.1 0).toInt + (nI n).toInt := fb_addI (by omega) (by omega)
    rw [Int32.not_lt, fa_le, ha, show (99999 : Int32).toInt = 99999 by decide] at c9
    rw [ha]
    omega
theorem gT_thing {g : SG} (h : gT g) {K : Int32} {a w : Nat} (hb : tBd K a w) : gT (oThing K a w g).2 := by
  rcases hb with ⟨rfl, ha, hw⟩ | ⟨rfl, ha⟩ | ⟨rfl, ha, hw⟩ | ⟨rfl, ha, hw⟩ | ⟨rfl, ha⟩
  · exact gT_on h _ _
  · exact gT_off h _
  · exact gT_lay h _ _ _
  · exact gT_cpl h _ _
  · exact gT_pass h ha.2
theorem gT_sK {c : Nat → Int32} {len : Nat} {g : SG} (h : gT g) : ∀ {m : Nat}, pGo c len m → gT (sK c g m)
  | 0, _ => h
  | m + 1, hm => gT_thing (gT_sK h (fun k hk => hm k (by omega))) (tBd_of (hm m (by omega)).1)
theorem gW_thing {g : SG} (h : gW g) {K : Int32} {a w : Nat} (hb : tBd K a w) : gW (oThing K a w g).2 := ⟨gOk_thing h.1 hb, gT_thing h.2 hb⟩
theorem gW_end {c : Nat → Int32} {len : Nat} {g : SG} (h : gW g) {m : Nat} (he : pEnd c len m) : gW (sK c g (m + 1)) :=
  gW_thing ⟨gOk_sK h.1 he.1, gT_sK h.2 he.1⟩ (tBd_of he.2.1)
/-- the acts keep the bounds -/
theorem gW_set {g : SG} (h : gW g) (x w y : Int32) : gW (oSet x w y g).2 := by
  by_cases h1 : isP x ∧ (0 ≤ w ∧ w ≤ 5)
  · obtain ⟨p, hp, rfl⟩ := pair_of h1.1
    obtain ⟨k, hk, rfl⟩ := rng_of (n := 5) (by decide) h1.2
    by_cases hy : kLo k ≤ y ∧ y ≤ kHi k
    · rw [oSet_t hp hk g hy]
      exact ⟨gOk_lay h.1 (kOk_set (h.1 p hp) hk hy), gT_lay h.2 _ _ _⟩
    · rw [oSet_b hp hk g hy]
      exact h
  · rw [oSet_f g h1]
    exact h
theorem gW_turnOn {g : SG} (h : gW g) (x y : Int32) : gW (oTurnOn x y g).2 := by
  by_cases h1 : isP x
  · obtain ⟨p, hp, rfl⟩ := pair_of h1
    by_cases hy : 0 ≤ y ∧ y ≤ 30
    · rw [oTurnOn_t hp g hy]
      have e30 : (30 : Int32).toInt = 30 := by decide
      exact ⟨gOk_on h.1 hp (by rw [fa_le, fa_le, i_0, e30] at hy; exact hy), gT_on h.2 _ _⟩
    · rw [oTurnOn_b hp g hy]
      exact h
  · rw [oTurnOn_f g h1]
    exact h
theorem gW_turnOff {g : SG} (h : gW g) (x : Int32) : gW (oTurnOff x g).2 := by
  by_cases h1 : isP x
  · obtain ⟨p, hp, rfl⟩ := pair_of h1
    rw [oTurnOff_t hp g]
    exact ⟨gOk_off h.1 hp, gT_off h.2 _⟩
  · rw [oTurnOff_f g h1]
    exact h
theorem gW_put {g : SG} (h : gW g) (x y : Int32) : gW (oPut x y g).2 := by
  by_cases h1 : isP x
  · obtain ⟨p, hp, rfl⟩ := pair_of h1
    by_cases hy : 0 ≤ y ∧ y ≤ 40
    · rw [oPut_t hp g hy]
      exact ⟨gOk_lay h.1 (kOk_u6 (h.1 p hp) (dp_of hy)), gT_lay h.2 _ _ _⟩
    · rw [oPut_b hp g hy]
      exact h
  · rw [oPut_f g h1]
    exact h
theorem gW_couple {g : SG} (h : gW g) (x y : Int32) : gW (oCouple x y g).2 := by
  by_cases h1 : isP x ∧ isP y
  · obtain ⟨p, hp, rfl⟩ := pair_of h1.1
    obtain ⟨q, hq, rfl⟩ := pair_of h1.2
    rw [oCouple_t hp hq g]
    exact ⟨gOk_cpl h.1 hp hq, gT_cpl h.2 _ _⟩
  · rw [oCouple_f g h1]
    exact h
theorem gW_pass {g : SG} (h : gW g) (x : Int32) : gW (oPs x g).2 := by
  by_cases h1 : 1 ≤ x ∧ x ≤ 99
  · obtain ⟨n, hn, rfl⟩ := rng_of (n := 99) (by decide) ⟨Int32.le_trans (by decide) h1.1, h1.2⟩
    have hn1 : 1 ≤ n := (nI_leI (a := 1) (by decide) (by omega)).mp h1.1
    rw [oPs_t hn1 hn g]
    exact ⟨gOk_pass h.1, gT_pass h.2 hn⟩
  · rw [oPs_f g h1]
    exact h
/-- the second program's rows of the states hold what the first one's states hold -/
def lHist (n : Nat) (σ : Nat → SG) (ib : Nat → Int32) (eb : Nat → Int64) : Prop := ∀ i, i < n → (∀ j, j < 43 → ib (43 * i + j) = mS (σ i).1 (σ i).2.1 j) ∧ ∀ j, j < 12 → eb (12 * i + j) = mE (σ i).2.2 j
theorem rcN_le {n : Nat} (h : n ≤ 4) : rcN n ≤ 4 := by
  unfold rcN
  split <;> omega
/-- a state is recorded: the rows, said of the place k where it comes, behind k that stay or have moved -/
theorem hist_in {k : Nat} {σ : Nat → SG} {g : SG} {f : Nat → Int32} {fe : Nat → Int64} (h : lHist k σ f fe) : lHist (k + 1) (va_up σ k g) (cpA f (mS g.1 g.2.1) (43 * k) 43) (cpA fe (mE g.2.2) (12 * k) 12) := by
  intro i hi
  by_cases c9 : i = k
  · subst c9
    rw [up_0]
    refine ⟨fun j hj => ?_, fun j hj => ?_⟩
    · rw [cpA_in (by omega) (by omega), Nat.add_sub_cancel_left]
    · rw [cpA_in (by omega) (by omega), Nat.add_sub_cancel_left]
  · rw [up_n c9]
    have hk : i < k := by omega
    obtain ⟨h1, h2⟩ := h i hk
    refine ⟨fun j hj => ?_, fun j hj => ?_⟩
    · rw [cpA_out (Or.inl (by omega))]
      exact h1 j hj
    · rw [cpA_out (Or.inl (by omega))]
      exact h2 j hj
theorem hist_rot {σ : Nat → SG} {f : Nat → Int32} {fe : Nat → Int64} (h : lHist 4 σ f fe) : lHist 3 (rot σ) (cpA f (fun j => f (43 + j)) 0 129) (cpA fe (fun j => fe (12 + j)) 0 36) := by
  intro i hi
  obtain ⟨h1, h2⟩ := h (i + 1) (by omega)
  have er : rot σ i = σ (i + 1) := if_pos hi
  rw [er]
  refine ⟨fun j hj => ?_, fun j hj => ?_⟩
  · rw [cpA_al (by omega), ← h1 j hj]
    congr 1
    omega
  · rw [cpA_al (by omega), ← h2 j hj]
    congr 1
    omega
theorem hist_push {n : Nat} (hn : n ≤ 4) {σ : Nat → SG} {g : SG} {f : Nat → Int32} {fe : Nat → Int64} (h : lHist n σ f fe) : lHist (rcN n) (hiS n σ g) (rcI n f (mS g.1 g.2.1)) (rcE n fe (mE g.2.2)) := by
  unfold rcN hiS rcI rcE
  by_cases c9 : n = 4
  · subst c9
    simp only [if_true]
    exact hist_in (hist_rot h)
  · simp only [if_neg c9]
    exact hist_in h
theorem hiS_ok {n : Nat} {σ : Nat → SG} {g : SG} (h : ∀ i, i < n → gW (σ i)) (hg : gW g) (hn : n ≤ 4) : ∀ i, i < rcN n → gW (hiS n σ g i) := by
  intro i hi
  unfold rcN at hi
  unfold hiS
  by_cases c9 : n = 4
  · subst c9
    simp only [if_true] at hi ⊢
    by_cases c8 : i = 3
    · subst c8
      rw [up_0]
      exact hg
    · rw [up_n c8]
      have : rot σ i = σ (i + 1) := if_pos (by omega)
      rw [this]
      exact h _ (by omega)
  · simp only [if_neg c9] at hi ⊢
    by_cases c8 : i = n
    · subst c8
      rw [up_0]
      exact hg
    · rw [up_n c8]
      exact h _ (by omega)
/-- all that holds of both -/
def lInv (k0 k1 k2 k3 : Int32) (n : Nat) (σ : Nat → SG) (g gs : SG) (tx : Nat → Int32) (len : Nat) (v ik : Nat → Int32) (ek : Nat → Int64) (ib : Nat → Int32) (eb : Nat → Int64) : Prop :=
  (n ≤ 4 ∧ v 1 = nI n ∧ (∀ i, i < n → gW (σ i)) ∧ lHist n σ ib eb) ∧ (gW g ∧ gW gs) ∧ (k0 = v 0 ∧ (¬ k0 = 0 → ik = mS gs.1 gs.2.1 ∧ ek = mE gs.2.2)) ∧ ((k1 = 0 ∧ v 3 = -5 ∧ v 4 = -5) ∨ (k1 = 1 ∧ v 3 = k2 ∧ v 4 = k3)) ∧ (len ≤ 60 ∧ v 2 = nI len ∧ ∀ j, isCh (tx j))
section LINV
variable {k0 k1 k2 k3 : Int32} {n : Nat} {σ : Nat → SG} {g gs gb : SG} {tx : Nat → Int32} {len : Nat} {v ik : Nat → Int32} {ek : Nat → Int64} {ib : Nat → Int32} {eb : Nat → Int64} {d : Nat → Nat → Nat}
theorem li_n (h : lInv k0 k1 k2 k3 n σ g gs tx len v ik ek ib eb) : n ≤ 4 := h.1.1
theorem li_v1 (h : lInv k0 k1 k2 k3 n σ g gs tx len v ik ek ib eb) : v 1 = nI n := h.1.2.1
theorem li_g (h : lInv k0 k1 k2 k3 n σ g gs tx len v ik ek ib eb) : gW g := h.2.1.1
theorem li_gs (h : lInv k0 k1 k2 k3 n σ g gs tx len v ik ek ib eb) : gW gs := h.2.1.2
theorem li_len (h : lInv k0 k1 k2 k3 n σ g gs tx len v ik ek ib eb) : len ≤ 60 := h.2.2.2.2.1
theorem li_v2 (h : lInv k0 k1 k2 k3 n σ g gs tx len v ik ek ib eb) : v 2 = nI len := h.2.2.2.2.2.1
theorem li_ch (h : lInv k0 k1 k2 k3 n σ g gs tx len v ik ek ib eb) : ∀ j, isCh (tx j) := h.2.2.2.2.2.2
theorem gT_0 {x : SG} (h : gT x) : (0 : Int32) ≤ x.1 0 := by
  rw [fa_le, i_0]
  exact h.1
/-- an act -/
theorem act_go (h : lInv k0 k1 k2 k3 n σ g gs tx len v ik ek ib eb) {o : Int32 × SG} (ho : gW o.2) {u : MW} (hm : mAct n v g ik ek ib eb tx o u) {q : (Nat → Nat → Nat) × Nat × (Nat → SG)} (hq : q = if 0 ≤ o.1 then (hiD n d, rcN n, hiS n σ g) else (d, n, σ)) :
    ∃ v' ia ea ib' eb', u = (v', mS o.2.1 o.2.2.1, mE o.2.2.2, ia, ea, ik, ek, ib', eb', tx) ∧ lInv k0 k1 k2 k3 q.2.1 q.2.2 o.2 gs tx len v' ik ek ib' eb' := by
  obtain ⟨ia, ea, hu⟩ := hm
  obtain ⟨⟨n1, n2, n3, n4⟩, ⟨g1, g2⟩, ⟨s1, s2⟩, st9, l1, l2, l3⟩ := h
  by_cases c9 : 0 ≤ o.1
  · rw [if_pos c9] at hu hq
    subst hq
    refine ⟨_, ia, ea, _, _, hu, ⟨rcN_le n1, upd_0, hiS_ok n3 g1 n1, hist_push n1 n4⟩, ⟨ho, g2⟩, ⟨?_, s2⟩, ?_, l1, ?_, l3⟩
    · rw [upd_n (by decide)]; exact s1
    · rw [upd_n (by decide), upd_n (by decide)]; exact st9
    · rw [upd_n (by decide)]; exact l2
  · rw [if_neg c9] at hu hq
    subst hq
    exact ⟨_, ia, ea, _, _, hu, ⟨n1, n2, n3, n4⟩, ⟨ho, g2⟩, ⟨s1, s2⟩, st9, l1, l2, l3⟩
/-- a text is typed on, or emptied -/
theorem li_type (h : lInv k0 k1 k2 k3 n σ g gs tx len v ik ek ib eb) {x : Int32} (hx : isCh x) (hl : len < 60) : lInv k0 k1 k2 k3 n σ g gs (upd tx len x) (len + 1) (upd v 2 (nI (len + 1))) ik ek ib eb := by
  obtain ⟨⟨n1, n2, n3, n4⟩, ⟨g1, g2⟩, ⟨s1, s2⟩, st9, l1, l2, l3⟩ := h
  refine ⟨⟨n1, by rw [upd_n (by decide)]; exact n2, n3, n4⟩, ⟨g1, g2⟩, ⟨by rw [upd_n (by decide)]; exact s1, s2⟩, by rw [upd_n (by decide), upd_n (by decide)]; exact st9, by omega, upd_0, fun j => ?_⟩
  by_cases c9 : j = len
  · rw [c9, upd_0]; exact hx
  · rw [upd_n c9]; exact l3 j
theorem li_clear (h : lInv k0 k1 k2 k3 n σ g gs tx len v ik ek ib eb) : lInv k0 k1 k2 k3 n σ g gs tx 0 (upd v 2 0) ik ek ib eb := by
  obtain ⟨⟨n1, n2, n3, n4⟩, ⟨g1, g2⟩, ⟨s1, s2⟩, st9, l1, l2, l3⟩ := h
  exact ⟨⟨n1, by rw [upd_n (by decide)]; exact n2, n3, n4⟩, ⟨g1, g2⟩, ⟨by rw [upd_n (by decide)]; exact s1, s2⟩, by rw [upd_n (by decide), upd_n (by decide)]; exact st9, by omega, upd_0, l3⟩
/-- the snapshot is taken -/
theorem li_keep (h : lInv k0 k1 k2 k3 n σ g gs tx len v ik ek ib eb) : lInv 1 k1 k2 k3 n σ g g tx len (upd v 0 1) (mS g.1 g.2.1) (mE g.2.2) ib eb := by
  obtain ⟨⟨n1, n2, n3, n4⟩, ⟨g1, g2⟩, ⟨s1, s2⟩, st9, l1, l2, l3⟩ := h
  exact ⟨⟨n1, by rw [upd_n (by decide)]; exact n2, n3, n4⟩, ⟨g1, g1⟩, ⟨upd_0.symm, fun _ => ⟨rfl, rfl⟩⟩, by rw [upd_n (by decide), upd_n (by decide)]; exact st9, l1, by rw [upd_n (by decide)]; exact l2, l3⟩
/-- the latest state comes back -/
theorem li_undo (h : lInv k0 k1 k2 k3 n σ g gs tx len v ik ek ib eb) (hn : 0 < n) : lInv k0 k1 k2 k3 (n - 1) σ (σ (n - 1)) gs tx len (upd v 1 (nI (n - 1))) ik ek ib eb := by
  obtain ⟨⟨n1, n2, n3, n4⟩, ⟨g1, g2⟩, ⟨s1, s2⟩, st9, l1, l2, l3⟩ := h
  exact ⟨⟨by omega, upd_0, fun i hi => n3 i (by omega), fun i hi => n4 i (by omega)⟩, ⟨n3 _ (by omega), g2⟩, ⟨by rw [upd_n (by decide)]; exact s1, s2⟩, by rw [upd_n (by decide), upd_n (by decide)]; exact st9, l1, by rw [upd_n (by decide)]; exact l2, l3⟩
/-- the snapshot comes back -/
theorem li_rest (h : lInv k0 k1 k2 k3 n σ g gs tx len v ik ek ib eb) : lInv k0 k1 k2 k3 (rcN n) (hiS n σ g) gs gs tx len (upd v 1 (nI (rcN n))) ik ek (rcI n ib (mS g.1 g.2.1)) (rcE n eb (mE g.2.2)) := by
  obtain ⟨⟨n1, n2, n3, n4⟩, ⟨g1, g2⟩, ⟨s1, s2⟩, st9, l1, l2, l3⟩ := h
  exact ⟨⟨rcN_le n1, upd_0, hiS_ok n3 g1 n1, hist_push n1 n4⟩, ⟨g2, g2⟩, ⟨by rw [upd_n (by decide)]; exact s1, s2⟩, by rw [upd_n (by decide), upd_n (by decide)]; exact st9, l1, by rw [upd_n (by decide)]; exact l2, l3⟩
/-- what the second program keeps beside it may change -/
theorem li_v (h : lInv k0 k1 k2 k3 n σ g gs tx len v ik ek ib eb) {v' : Nat → Int32} (hv : ∀ k, k < 5 → v' k = v k) : lInv k0 k1 k2 k3 n σ g gs tx len v' ik ek ib eb := by
  obtain ⟨⟨n1, n2, n3, n4⟩, ⟨g1, g2⟩, ⟨s1, s2⟩, st9, l1, l2, l3⟩ := h
  refine ⟨⟨n1, by rw [hv 1 (by decide)]; exact n2, n3, n4⟩, ⟨g1, g2⟩, ⟨by rw [hv 0 (by decide)]; exact s1, s2⟩, ?_, l1, by rw [hv 2 (by decide)]; exact l2, l3⟩
  rw [hv 3 (by decide), hv 4 (by decide)]
  exact st9
/-- the stop is told alike -/
theorem li_stop (h : lInv k0 k1 k2 k3 n σ g gs tx len v ik ek ib eb) (w : Int32) : (if w < 0 ∨ 1 < w then (-2 : Int32) else if k1 = 0 then -5 else if w = 0 then k2 else k3) = if w = 0 then v 3 else if w = 1 then v 4 else -2 := by
  obtain ⟨-, -, -, st9, -⟩ := h
  have out : ¬ w = 0 → ¬ w = 1 → (w < 0 ∨ 1 < w) := fun c0 c1 => by
    rw [fa_eq, i_0] at c0
    rw [fa_eq, i_1] at c1
    rw [fa_lt, fa_lt, i_0, i_1]
    omega
  have n0 : ¬ ((0 : Int32) < 0 ∨ (1 : Int32) < 0) := by decide
  have n1 : ¬ ((1 : Int32) < 0 ∨ (1 : Int32) < 1) := by decide
  have n2 : ¬ (1 : Int32) = 0 := by decide
  by_cases c0 : w = 0
  · subst c0
    rw [if_neg n0, if_pos rfl, if_pos rfl]
    rcases st9 with ⟨a, b, -⟩ | ⟨a, b, -⟩
    · rw [if_pos a, b]
    · rw [if_neg (by rw [a]; exact n2), b]
  · by_cases c1 : w = 1
    · subst c1
      rcases st9 with ⟨a, -, b⟩ | ⟨a, -, b⟩
      · rw [if_neg n1, if_pos a, if_neg n2, if_pos rfl, b]
      · rw [if_neg n1, if_neg (by rw [a]; exact n2), if_neg n2, if_neg n2, if_pos rfl, b]
    · rw [if_pos (out c0 c1), if_neg c0, if_neg c1]
/-- a trial is performed alike -/
theorem perf_go (h : lInv k0 k1 k2 k3 n σ g gs tx len v ik ek ib eb) {r r2 : Int32} {g' gb' : SG} {q : (Nat → Nat → Nat) × Nat × (Nat → SG)} {kk : Int32 × Int32 × Int32} {u : MW}
    (h1 : (∃ m, pBad (tch tx len) len m ∧ r = -100 - nI (tJ (tch tx len) (tAt (tch tx len) m)) ∧ g' = g ∧ q = (d, n, σ) ∧ gb' = gb ∧ kk = (k1, k2, k3)) ∨ (∃ m0 m, pEnd (tch tx len) len m0 ∧ m ≤ m0 ∧ (∀ j, j < m → ¬ isE (rK (tch tx len) g j)) ∧ isE (rK (tch tx len) g m) ∧ r = -4 ∧ g' = g ∧ q = (d, n, σ) ∧ gb' = g ∧ kk = (1, nI m, rK (tch tx len) g m)) ∨ (∃ m0, pEnd (tch tx len) len m0 ∧ (∀ j, j ≤ m0 → ¬ isE (rK (tch tx len) g j)) ∧ r = nI (m0 + 1) ∧ g' = sK (tch tx len) g (m0 + 1) ∧ q = (hiD n d, rcN n, hiS n σ g) ∧ gb' = g ∧ kk = (k1, k2, k3)))
    (h2 : pfP n len v g ik ek ib eb tx r2 u) :
    r = r2 ∧ ∃ v' ia ea ib' eb', u = (v', mS g'.1 g'.2.1, mE g'.2.2, ia, ea, ik, ek, ib', eb', tx) ∧ lInv k0 kk.1 kk.2.1 kk.2.2 q.2.1 q.2.2 g' gs tx len v' ik ek ib' eb' := by
  obtain ⟨v', ia, ea, hv, h2⟩ := h2
  have hB : lInv k0 k1 k2 k3 n σ g gs tx len v' ik ek ib eb := li_v h (fun k hk => hv k (Or.inl hk))
  have no : ∀ {m m' : Nat}, pBad (tch tx len) len m → pEnd (tch tx len) len m' → False := by
    intro m m' a b
    have e := p_one a.1 (pBad_n a) b.1 (pEnd_n b)
    subst e
    rcases a.2 with z | z
    · exact z b.2.1
    · have := b.2.2
      omega
  rcases h1 with ⟨m, a1, a2, rfl, rfl, rfl, rfl⟩ | ⟨m0, m, a1, a2, a3, a4, a5, rfl, rfl, rfl, rfl⟩ | ⟨m0, a1, a2, a3, rfl, rfl, rfl, rfl⟩
  · rcases h2 with ⟨m', b1, b2, b3⟩ | ⟨m0', m', b1, -⟩ | ⟨m0', b1, -⟩
    · have e := p_one a1.1 (pBad_n a1) b1.1 (pBad_n b1)
      subst e
      exact ⟨a2.trans b2.symm, v', ia, ea, ib, eb, b3, hB⟩
    · exact absurd (no a1 b1) id
    · exact absurd (no a1 b1) id
  · rcases h2 with ⟨m', b1, -⟩ | ⟨m0', m', b1, b2, b3, b4, b5, b6⟩ | ⟨m0', b1, b2, -⟩
    · exact absurd (no b1 a1) id
    · have e : m = m' := by
        rcases Nat.lt_trichotomy m m' with z | z | z
        · exact absurd a4 (b3 m z)
        · exact z
        · exact absurd b4 (a3 m' z)
      subst e
      refine ⟨a5.trans b5.symm, _, ia, ea, ib, eb, b6, ?_⟩
      obtain ⟨⟨n1, n2, n3, n4⟩, ⟨g1, g2⟩, ⟨s1, s2⟩, st9, l1, l2, l3⟩ := hB
      refine ⟨⟨n1, ?_, n3, n4⟩, ⟨g1, g2⟩, ⟨?_, s2⟩, Or.inr ⟨rfl, ?_, upd_0⟩, l1, ?_, l3⟩
      · rw [upd_n (by decide), upd_n (by decide)]; exact n2
      · rw [upd_n (by decide), upd_n (by decide)]; exact s1
      · rw [upd_n (by decide), upd_0]
      · rw [upd_n (by decide), upd_n (by decide)]; exact l2
    · have e := p_one a1.1 (pEnd_n a1) b1.1 (pEnd_n b1)
      subst e
      exact absurd a4 (b2 m a2)
  · rcases h2 with ⟨m', b1, -⟩ | ⟨m0', m', b1, b2, b3, b4, -⟩ | ⟨m0', b1, b2, b3, b4⟩
    · exact absurd (no b1 a1) id
    · have e := p_one a1.1 (pEnd_n a1) b1.1 (pEnd_n b1)
      subst e
      exact absurd b4 (a2 m' b2)
    · have e := p_one a1.1 (pEnd_n a1) b1.1 (pEnd_n b1)
      subst e
      refine ⟨a3.trans b3.symm, _, ia, ea, _, _, b4, ?_⟩
      obtain ⟨⟨n1, n2, n3, n4⟩, ⟨g1, g2⟩, ⟨s1, s2⟩, st9, l1, l2, l3⟩ := hB
      refine ⟨⟨rcN_le n1, upd_0, hiS_ok n3 g1 n1, hist_push n1 n4⟩, ⟨gW_end g1 a1, g2⟩, ⟨?_, s2⟩, ?_, l1, ?_, l3⟩
      · rw [upd_n (by decide)]; exact s1
      · rw [upd_n (by decide), upd_n (by decide)]; exact st9
      · rw [upd_n (by decide)]; exact l2
end LINV
theorem sg0_w : gW sg0 := ⟨sg0_ok, by unfold gT; decide⟩
theorem li_0 : lInv 0 0 0 0 0 (fun _ => sg0) sg0 sg0 z0 0 mv0 z0 zL z0 zL :=
  ⟨⟨by decide, rfl, fun i hi => absurd hi (by omega), fun i hi => absurd hi (by omega)⟩, ⟨sg0_w, sg0_w⟩, ⟨rfl, fun z => absurd rfl z⟩, Or.inl ⟨rfl, rfl, rfl⟩, by decide, rfl, fun j => ch_0⟩
