/-! worlds as lists of blocks; readers and movers: two forms of contract; calls of them -/
def fl (bs : List va_W) : va_W := bs.flatten
theorem fl_cons (b : va_W) (bs : List va_W) : fl (b :: bs) = b ++ fl bs := rfl
theorem fl_two (b c : va_W) (bs : List va_W) : fl (b :: c :: bs) = (b ++ c) ++ fl bs := by
  show b ++ (c ++ fl bs) = _
  exact (List.append_assoc b c (fl bs)).symm
theorem fl_app (as bs : List va_W) : fl (as ++ bs) = fl as ++ fl bs := by
  show (as ++ bs).flatten = _
  exact List.flatten_append
theorem wP_mem {D : va_G} {cl : List vw_C} {ws : va_W} {H : Heap} : va_P D cl ws H ↔ ∀ q ∈ ws, va_at D cl q H := by
  refine ⟨fun h q hq => ?_, fun h k q hk => h q (List.mem_of_getElem? hk)⟩
  obtain ⟨k, hk⟩ := List.getElem?_of_mem hq
  exact h k q hk
theorem wP_of {D : va_G} {cl : List vw_C} {ws ws' : va_W} {H : Heap} (h : va_P D cl ws H) (hs : ∀ q ∈ ws', q ∈ ws) : va_P D cl ws' H :=
  wP_mem.mpr fun q hq => wP_mem.mp h q (hs q hq)
theorem wD_iff {A : Nat → Prop} {ws : va_W} : va_D A ws ↔ (ws.map Prod.fst).Nodup ∧ ∀ q ∈ ws, A q.1 := by
  have h2 : (∀ (k : Nat) (q : Nat × va_E), ws[k]? = some q → A q.1) ↔ ∀ q ∈ ws, A q.1 :=
    ⟨fun h q hq => by obtain ⟨k, hk⟩ := List.getElem?_of_mem hq; exact h k q hk, fun h k q hk => h q (List.mem_of_getElem? hk)⟩
  have h1 : (∀ (i j : Nat) (p q : Nat × va_E), ws[i]? = some p → ws[j]? = some q → p.1 = q.1 → i = j) ↔ (ws.map Prod.fst).Nodup := by
    induction ws with
    | nil => exact ⟨fun _ => List.nodup_nil, fun _ i j p q h => by simp at h⟩
    | cons w ws ih =>
      rw [List.map_cons, List.nodup_cons, ← ih ⟨fun h q hq => by obtain ⟨k, hk⟩ := List.getElem?_of_mem hq; exact h k q hk, fun h k q hk => h q (List.mem_of_getElem? hk)⟩]
      refine ⟨fun h => ⟨fun hm => ?_, fun i j p q hi hj e => ?_⟩, fun ⟨hn, h⟩ i j p q hi hj e => ?_⟩
      · obtain ⟨x, hx, hxe⟩ := List.mem_map.mp hm
        obtain ⟨k, hk⟩ := List.getElem?_of_mem hx
        have := h 0 (k + 1) w x rfl (by simpa using hk) hxe.symm
        omega
      · have := h (i + 1) (j + 1) p q (by simpa using hi) (by simpa using hj) e
        omega
      · cases i with
        | zero =>
          cases j with
          | zero => rfl
          | succ j =>
            simp at hi hj
            subst hi
            exact absurd (List.mem_map.mpr ⟨q, List.mem_of_getElem? hj, e.symm⟩) hn
        | succ i =>
          cases j with
          | zero =>
            simp at hi hj
            subst hj
            exact absurd (List.mem_map.mpr ⟨p, List.mem_of_getElem? hi, e⟩) hn
          | succ j =>
            simp at hi hj
            rw [h i j p q hi hj e]
  unfold va_D
  rw [h1, h2]
theorem wP_perm {D : va_G} {cl : List vw_C} {ws ws' : va_W} {H : Heap} (hp : ws.Perm ws') (h : va_P D cl ws H) : va_P D cl ws' H :=
  wP_of h fun q hq => hp.mem_iff.mpr hq
theorem wD_perm {A : Nat → Prop} {ws ws' : va_W} (hp : ws.Perm ws') (h : va_D A ws) : va_D A ws' := by
  rw [wD_iff] at h ⊢
  exact ⟨(hp.map Prod.fst).nodup_iff.mp h.1, fun q hq => h.2 q (hp.mem_iff.mpr hq)⟩
theorem wD_addr {A : Nat → Prop} {ws ws' : va_W} (e : ws.map Prod.fst = ws'.map Prod.fst) (h : va_D A ws) : va_D A ws' := by
  rw [wD_iff] at h ⊢
  refine ⟨by rw [← e]; exact h.1, fun q hq => ?_⟩
  have hm : q.1 ∈ ws.map Prod.fst := by rw [e]; exact List.mem_map.mpr ⟨q, hq, rfl⟩
  obtain ⟨x, hx, hxe⟩ := List.mem_map.mp hm
  rw [← hxe]
  exact h.2 x hx
theorem wA_addr {ws ws' : va_W} {sz : Nat} (e : ws.map Prod.fst = ws'.map Prod.fst) : va_A ws sz = va_A ws' sz := by
  have key : ∀ {ws ws' : va_W}, ws.map Prod.fst = ws'.map Prod.fst → ∀ q, va_A ws sz q → va_A ws' sz q := by
    intro ws ws' e q h
    rcases h with ⟨k, x, h⟩ | h
    · have hm : q ∈ ws'.map Prod.fst := by rw [← e]; exact List.mem_map.mpr ⟨(q, x), List.mem_of_getElem? h, rfl⟩
      obtain ⟨y, hy, hye⟩ := List.mem_map.mp hm
      obtain ⟨j, hj⟩ := List.getElem?_of_mem hy
      exact Or.inl ⟨j, y.2, by rw [hj, ← hye]⟩
    · exact Or.inr h
  exact funext fun q => propext ⟨key e q, key e.symm q⟩
theorem wD_left {A : Nat → Prop} {w1 w2 : va_W} (h : va_D A (w1 ++ w2)) : va_D A w1 := by
  rw [wD_iff] at h ⊢
  rw [List.map_append, List.nodup_append] at h
  exact ⟨h.1.1, fun q hq => h.2 q (List.mem_append_left _ hq)⟩
theorem wD_right {A : Nat → Prop} {w1 w2 : va_W} (h : va_D A (w1 ++ w2)) : va_D A w2 := by
  rw [wD_iff] at h ⊢
  rw [List.map_append, List.nodup_append] at h
  exact ⟨h.1.2.1, fun q hq => h.2 q (List.mem_append_right _ hq)⟩
theorem wP_left {D : va_G} {cl : List vw_C} {w1 w2 : va_W} {H : Heap} (h : va_P D cl (w1 ++ w2) H) : va_P D cl w1 H := wP_of h fun _ hq => List.mem_append_left _ hq
theorem wP_right {D : va_G} {cl : List vw_C} {w1 w2 : va_W} {H : Heap} (h : va_P D cl (w1 ++ w2) H) : va_P D cl w2 H := wP_of h fun _ hq => List.mem_append_right _ hq
theorem wA_mem {ws : va_W} {sz q : Nat} : va_A ws sz q ↔ q ∈ ws.map Prod.fst ∨ sz ≤ q := by
  refine or_congr ⟨fun ⟨k, e, h⟩ => List.mem_map.mpr ⟨(q, e), List.mem_of_getElem? h, rfl⟩, fun h => ?_⟩ Iff.rfl
  obtain ⟨y, hy, hye⟩ := List.mem_map.mp h
  obtain ⟨j, hj⟩ := List.getElem?_of_mem hy
  exact ⟨j, y.2, by rw [hj, ← hye]⟩
theorem fr_free {A0 : Nat → Prop} {wc wr : va_W} {H0 H : Heap} {locs : List Loc} (hD : va_D A0 (wc ++ wr)) (hS : va_S A0 H0 H locs) (hA : ∀ q, H0.size ≤ q → A0 q) : ∀ q, va_A wc H.size q → A0 q := by
  intro q h
  rcases wA_mem.mp h with h | h
  · obtain ⟨x, hx, hxe⟩ := List.mem_map.mp h
    rw [← hxe]
    exact (wD_iff.mp hD).2 x (List.mem_append_left _ hx)
  · exact hA q (Nat.le_trans hS.1 h)
theorem fr_join {A0 : Nat → Prop} {D : va_G} {cl : List vw_C} {wc wr w1 : va_W} {H H1 : Heap} (hP : va_P D cl (wc ++ wr) H) (hD : va_D A0 (wc ++ wr))
    (hk : ∀ q : Nat, q < H.size → ¬ va_A wc H.size q → H1[q]? = H[q]?) (hF : ∀ q, va_A wc H.size q → A0 q) (hP1 : va_P D cl w1 H1) (hD1 : va_D (va_A wc H.size) w1) : va_P D cl (w1 ++ wr) H1 ∧ va_D A0 (w1 ++ wr) := by
  have hN := (wD_iff.mp hD).1
  rw [List.map_append, List.nodup_append] at hN
  have apart : ∀ q ∈ wr, q.1 < H.size ∧ ¬ va_A wc H.size q.1 := by
    intro q hq
    have hl := (wP_mem.mp hP q (List.mem_append_right _ hq)).lt
    refine ⟨hl, fun h => ?_⟩
    rcases wA_mem.mp h with h | h
    · exact hN.2.2 q.1 h q.1 (List.mem_map.mpr ⟨q, hq, rfl⟩) rfl
    · omega
  have hPr : va_P D cl wr H1 := wP_mem.mpr fun q hq => (wP_mem.mp hP q (List.mem_append_right _ hq)).kept (hk q.1 (apart q hq).1 (apart q hq).2)
  refine ⟨va_P.app hP1 hPr, va_D.app (hD1.weaken (fun _ q _ h => hF q.1 h)) (wD_right hD) (fun i j x y hx hy hxy => ?_)⟩
  exact (apart y (List.mem_of_getElem? hy)).2 (by rw [← hxy]; exact hD1.2 i x hx)
theorem range_get {α : Type} : ∀ l : List α, (List.range l.length).filterMap (fun i => l[i]?) = l
  | [] => rfl
  | x :: l => by
    rw [List.length_cons, List.range_succ_eq_map, List.filterMap_cons, List.filterMap_map]
    exact congrArg (fun z => x :: z) (range_get l)
/-- blocks in another order, by places -/
theorem fl_perm (bs : List va_W) (is : List Nat) {bs' : List va_W} (h : is.isPerm (List.range bs.length) = true) (e : is.filterMap (fun i => bs[i]?) = bs') : (fl bs).Perm (fl bs') := by
  have h1 : is.Perm (List.range bs.length) := List.isPerm_iff.mp h
  have h2 : (is.filterMap (fun i => bs[i]?)).Perm ((List.range bs.length).filterMap (fun i => bs[i]?)) := h1.filterMap _
  rw [range_get, e] at h2
  have key : ∀ {l l' : List va_W}, l.Perm l' → (fl l).Perm (fl l') := by
    intro l l' hp
    induction hp with
    | nil => exact List.Perm.refl _
    | cons x _ ih => exact List.Perm.append_left x ih
    | swap x y l =>
      rw [fl_two, fl_two]
      exact List.Perm.append_right _ List.perm_append_comm
    | trans _ _ i1 i2 => exact i1.trans i2
  exact (key h2).symm
theorem bP {D : va_G} {cl : List vw_C} {bs bs' : List va_W} {H : Heap} (h : va_P D cl (fl bs) H) (is : List Nat) (hi : is.isPerm (List.range bs.length) = true) (e : is.filterMap (fun i => bs[i]?) = bs') : va_P D cl (fl bs') H := wP_perm (fl_perm bs is hi e) h
theorem bD {A : Nat → Prop} {bs bs' : List va_W} (h : va_D A (fl bs)) (is : List Nat) (hi : is.isPerm (List.range bs.length) = true) (e : is.filterMap (fun i => bs[i]?) = bs') : va_D A (fl bs') := wD_perm (fl_perm bs is hi e) h
/-- arrays that agree within their length are one cell -/
theorem cell_i {cA : ClassId} {n : Nat} {f g : Nat → Int32} (h : ∀ j, j < n → f j = g j) : vp_cell cA (n, .inl f) = vp_cell cA (n, .inl g) := by
  rw [vp_cell_i, vp_cell_i]
  unfold arrV
  congr 2
  funext j
  exact congrArg Value.int (h j.val j.isLt)
theorem cell_l {cA : ClassId} {n : Nat} {f g : Nat → Int64} (h : ∀ j, j < n → f j = g j) : vp_cell cA (n, .inr (.inl f)) = vp_cell cA (n, .inr (.inl g)) := by
  rw [vp_cell_l, vp_cell_l]
  unfold arrV
  congr 2
  funext j
  exact congrArg Value.long (h j.val j.isLt)
theorem cell_q {cA : ClassId} {n : Nat} {f g : Nat → Option Nat} (h : ∀ j, j < n → f j = g j) : vp_cell cA (n, .inr (.inr (.inr (.inr f)))) = vp_cell cA (n, .inr (.inr (.inr (.inr g)))) := by
  rw [vp_cell_q, vp_cell_q]
  unfold arrV
  congr 2
  funext j
  exact congrArg va_rf (h j.val j.isLt)
theorem at_i {D : va_G} {cl : List vw_C} {a n : Nat} {cA : ClassId} {f g : Nat → Int32} {H : Heap} (h : ∀ j, j < n → f j = g j) (k : va_at D cl (a, .inl (cA, n, .inl f)) H) : va_at D cl (a, .inl (cA, n, .inl g)) H := by
  show H[a]? = some _
  rw [← cell_i h]
  exact k
theorem at_l {D : va_G} {cl : List vw_C} {a n : Nat} {cA : ClassId} {f g : Nat → Int64} {H : Heap} (h : ∀ j, j < n → f j = g j) (k : va_at D cl (a, .inl (cA, n, .inr (.inl f))) H) : va_at D cl (a, .inl (cA, n, .inr (.inl g))) H := by
  show H[a]? = some _
  rw [← cell_l h]
  exact k
/-- one place of a world, said otherwise -/
theorem wP_re {D : va_G} {cl : List vw_C} {ws : va_W} {H : Heap} (h : va_P D cl ws H) (k : Nat) {a : Nat} {x y : va_E} (hk : ws[k]? = some (a, x)) (he : va_at D cl (a, x) H → va_at D cl (a, y) H) : va_P D cl (ws.set k (a, y)) H := by
  have hl := (List.getElem?_eq_some_iff.mp hk).1
  intro j q hj
  by_cases hjk : j = k
  · subst hjk
    rw [List.getElem?_set_self hl] at hj
    cases hj
    exact he (h j _ hk)
  · rw [List.getElem?_set_ne (Ne.symm hjk)] at hj
    exact h j q hj
/-! the kinds of arrays; what nest mates and reference arrays need -/
def tyL (T : Nat → ClassId) : List (ClassId × FieldType) := [(T 0, .int), (T 1, .int), (T 2, .char), (T 3, .object RX1), (T 4, .object RX2)]
def nsM : List Cond := [.methodLinkNest RX2 17 yX1_init RX5, .methodLinkNest RX5 31 yX1_init RX5, .methodLinkNest RX5 38 yX4_init RX5, .methodLinkNest RX4 11 yX3_init RX5, .methodLinkNest RX2 32 yX5_isPair RX5, .methodLinkNest RX2 60 yX5_isDepth RX5]
def XN (U : State) : Prop := (∀ w ∈ nsM, va_Nw w U) ∧ va_AO RX1 U ∧ va_AO RX2 U
theorem XN_warm {s U : State} (hW : s.WarmedH U.vm) (h : XN s) : XN U := by
  refine ⟨fun w hw => ?_, h.2.1.moved hW.alike, h.2.2.moved hW.alike⟩
  have k := h.1 w hw
  simp only [nsM, List.mem_cons, List.not_mem_nil, or_false] at hw
  rcases hw with rfl | rfl | rfl | rfl | rfl | rfl <;> exact va_Nw.warmM hW k
theorem XN_same {u U : State} (e : u.vm = U.vm) (h : XN u) : XN U := by
  refine ⟨fun w hw => ?_, h.2.1.moved (by rw [e]; exact Vm.Alike.refl _), h.2.2.moved (by rw [e]; exact Vm.Alike.refl _)⟩
  have k := h.1 w hw
  simp only [nsM, List.mem_cons, List.not_mem_nil, or_false] at hw
  rcases hw with rfl | rfl | rfl | rfl | rfl | rfl <;> exact va_Nw.same rfl e k
def xN : (Nat → Prop) → State → Prop := fun _ U => XN U
def xBl (X : (Nat → Prop) → State → Prop) : Prop := ∀ (A : Nat → Prop) (U : State) (g : JFrame) (mk : MethodId) (a : Array Value), X A U → X A (U.calling g mk a)
theorem xN_bl : xBl xN := fun _ U g mk a h => XN_same (u := U) (U := U.calling g mk a) rfl h
