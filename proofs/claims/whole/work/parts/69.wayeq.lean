/-! the piles of the class are the ways of the model -/
def pt (c p q : Nat) : Prop := (p % 2 = c % 2 ∧ q = p + 1) ∨ (¬ p % 2 = c % 2 ∧ 1 ≤ p ∧ q = p - 1)
theorem inW_iff {y : Nat → Nat} {j k : Nat} : inW y j k = true ↔ ((y j < y k ∧ y k < y (j + 1)) ∨ (y (j + 1) < y k ∧ y k < y j)) := by
  unfold inW hiW loW
  rw [Bool.and_eq_true, decide_eq_true_eq, decide_eq_true_eq]
  split <;> omega
def NCo (n : Nat) (y : Nat → Nat) (c o p : Nat) : Prop := ∀ p' q', p' < n → q' < n → pt c p' q' → y o < y p' → y p' < y p → y q' < y p
def CFr (n : Nat) (y : Nat → Nat) : Prop := ∀ j k, j + 2 ≤ k → k % 2 = j % 2 → k + 1 < n → (inW y j k = true ↔ inW y j (k + 1) = true)
def SCo (n : Nat) (y : Nat → Nat) : Prop := ∀ c, c + 1 < n → (y (c + 1) < y c → NCo n y c (c + 1) c) ∧ (y c < y (c + 1) → NCo n y c c (c + 1))
section CFS
variable {n : Nat} {y : Nat → Nat}
theorem SC_of (inj : ∀ p q, p < n → q < n → y p = y q → p = q) (H : CFr n y) : SCo n y := by
  have ne : ∀ p q, p < n → q < n → p ≠ q → y p ≠ y q := fun p q h1 h2 h3 h4 => h3 (inj p q h1 h2 h4)
  intro c hc
  refine ⟨fun h1 => ?_, fun h1 => ?_⟩
  · intro p' q' hp hq hpt h2 h3
    refine Decidable.byContradiction (fun h4 => ?_)
    rcases hpt with ⟨e1, rfl⟩ | ⟨e1, e2, rfl⟩
    · rcases Nat.lt_trichotomy c p' with z | z | z
      · have q := H c p' (by omega) e1 (by omega)
        rw [inW_iff, inW_iff] at q
        omega
      · subst z; omega
      · have q := H p' c (by omega) e1.symm (by omega)
        rw [inW_iff, inW_iff] at q
        have := ne c (p' + 1) (by omega) hq (by omega)
        omega
    · obtain ⟨u, rfl⟩ : ∃ u, p' = u + 1 := ⟨p' - 1, by omega⟩
      rw [Nat.add_sub_cancel] at hq h4
      rcases Nat.lt_trichotomy c u with z | z | z
      · have q := H c u (by omega) (by omega) (by omega)
        rw [inW_iff, inW_iff] at q
        omega
      · subst z; omega
      · have q := H u c (by omega) (by omega) (by omega)
        rw [inW_iff, inW_iff] at q
        have := ne c u (by omega) hq (by omega)
        omega
  · intro p' q' hp hq hpt h2 h3
    refine Decidable.byContradiction (fun h4 => ?_)
    rcases hpt with ⟨e1, rfl⟩ | ⟨e1, e2, rfl⟩
    · rcases Nat.lt_trichotomy c p' with z | z | z
      · have q := H c p' (by omega) e1 (by omega)
        rw [inW_iff, inW_iff] at q
        omega
      · subst z; omega
      · have q := H p' c (by omega) e1.symm (by omega)
        rw [inW_iff, inW_iff] at q
        have := ne (c + 1) (p' + 1) (by omega) hq (by omega)
        omega
    · obtain ⟨u, rfl⟩ : ∃ u, p' = u + 1 := ⟨p' - 1, by omega⟩
      rw [Nat.add_sub_cancel] at hq h4
      rcases Nat.lt_trichotomy c u with z | z | z
      · have q := H c u (by omega) (by omega) (by omega)
        rw [inW_iff, inW_iff] at q
        omega
      · subst z; omega
      · have q := H u c (by omega) (by omega) (by omega)
        rw [inW_iff, inW_iff] at q
        have := ne (c + 1) u (by omega) hq (by omega)
        omega
theorem CF_of (inj : ∀ p q, p < n → q < n → y p = y q → p = q) (H : SCo n y) : CFr n y := by
  have ne : ∀ p q, p < n → q < n → p ≠ q → y p ≠ y q := fun p q h1 h2 h3 h4 => h3 (inj p q h1 h2 h4)
  intro j k h1 h2 h3
  rw [inW_iff, inW_iff]
  have n1 := ne j k (by omega) (by omega) (by omega)
  have n2 := ne j (k + 1) (by omega) (by omega) (by omega)
  have n3 := ne (j + 1) k (by omega) (by omega) (by omega)
  have n4 := ne (j + 1) (k + 1) (by omega) (by omega) (by omega)
  have n5 := ne j (j + 1) (by omega) (by omega) (by omega)
  have n6 := ne k (k + 1) (by omega) (by omega) (by omega)
  obtain ⟨a1, a2⟩ := H j (by omega)
  obtain ⟨b1, b2⟩ := H k (by omega)
  by_cases x : y j < y (j + 1)
  · have A := a2 x
    have A1 := A k (k + 1) (by omega) (by omega) (.inl ⟨h2, rfl⟩)
    have A2 := A (k + 1) k (by omega) (by omega) (.inr ⟨by omega, by omega, by omega⟩)
    by_cases z : y k < y (k + 1)
    · have B := b2 z
      have B1 := B j (j + 1) (by omega) (by omega) (.inl ⟨h2.symm, rfl⟩)
      have B2 := B (j + 1) j (by omega) (by omega) (.inr ⟨by omega, by omega, by omega⟩)
      omega
    · have B := b1 (by omega)
      have B1 := B j (j + 1) (by omega) (by omega) (.inl ⟨h2.symm, rfl⟩)
      have B2 := B (j + 1) j (by omega) (by omega) (.inr ⟨by omega, by omega, by omega⟩)
      omega
  · have A := a1 (by omega)
    have A1 := A k (k + 1) (by omega) (by omega) (.inl ⟨h2, rfl⟩)
    have A2 := A (k + 1) k (by omega) (by omega) (.inr ⟨by omega, by omega, by omega⟩)
    by_cases z : y k < y (k + 1)
    · have B := b2 z
      have B1 := B j (j + 1) (by omega) (by omega) (.inl ⟨h2.symm, rfl⟩)
      have B2 := B (j + 1) j (by omega) (by omega) (.inr ⟨by omega, by omega, by omega⟩)
      omega
    · have B := b1 (by omega)
      have B1 := B j (j + 1) (by omega) (by omega) (.inl ⟨h2.symm, rfl⟩)
      have B2 := B (j + 1) j (by omega) (by omega) (.inr ⟨by omega, by omega, by omega⟩)
      omega
end CFS
theorem wyP_iff {n : Nat} {s y : Nat → Nat} (hn : 2 ≤ n) : wyP n s y = true ↔ (∀ j, j + 1 < n → sgW s y j = true) ∧ CFr n y := by
  unfold wyP
  rw [Bool.and_eq_true, allN_iff, allN_iff]
  refine and_congr ?_ ?_
  · constructor
    · intro h j hj; exact h j (by omega) (by omega)
    · intro h j _ hj; exact h j (by omega)
  · constructor
    · intro h j k h1 h2 h3
      have q := (al2_iff n (j + 2)).mp (h j (by omega) (by omega)) ((k - j - 2) / 2) (by omega) (by omega)
      rw [show j + 2 + 2 * ((k - j - 2) / 2) = k by omega] at q
      have q2 : inW y j k = inW y j (k + 1) := by simpa using q
      rw [q2]
    · intro h j _ hj
      refine (al2_iff n (j + 2)).mpr (fun i h1 h2 => ?_)
      have q := h j (j + 2 + 2 * i) (by omega) (by omega) h2
      have q2 : inW y j (j + 2 + 2 * i) = inW y j (j + 2 + 2 * i + 1) := Bool.eq_iff_iff.mpr q
      rw [q2]
      simp
/-! a step of the pile, as the whole order tells it -/
section STP
variable {n : Nat} {s : Nat → Nat} {l : List Nat}
theorem tk_get {i x : Nat} (hx : x < i) (hi : i ≤ l.length) : (l.take i).getD x 0 = l.getD x 0 := by
  rw [gtD (by rw [List.length_take]; omega), gtD (by omega), List.getElem_take]
theorem tk_mem (hl : l.Perm (List.range n)) {i p : Nat} (hi : i ≤ n) (hp : p < n) : p ∈ l.take i ↔ l.idxOf p < i := by
  have nd : l.Nodup := (hl.nodup_iff).mpr List.nodup_range
  have ln : l.length = n := by rw [hl.length_eq, List.length_range]
  have pm : p ∈ l := hl.mem_iff.mpr (List.mem_range.mpr hp)
  constructor
  · intro h
    obtain ⟨j, hj, e⟩ := List.getElem_of_mem h
    rw [List.length_take] at hj
    rw [List.getElem_take] at e
    rw [← e, List.Nodup.idxOf_getElem nd]
    omega
  · intro h
    have e2 : (l.take i).getD (l.idxOf p) 0 = p := by rw [tk_get h (by omega)]; exact get_idx pm
    have m := getD_mem (l := l.take i) (i := l.idxOf p) (by rw [List.length_take]; omega)
    rw [e2] at m
    exact m
theorem tk_idx (hl : l.Perm (List.range n)) {i p : Nat} (hi : i ≤ n) (hp : p < n) (h : l.idxOf p < i) : (l.take i).idxOf p = l.idxOf p := by
  have nd : l.Nodup := (hl.nodup_iff).mpr List.nodup_range
  have ln : l.length = n := by rw [hl.length_eq, List.length_range]
  have m1 := (tk_mem hl hi hp).mpr h
  have pm : p ∈ l := hl.mem_iff.mpr (List.mem_range.mpr hp)
  have e1 := get_idx m1
  have l1 := List.idxOf_lt_length_of_mem m1
  rw [List.length_take] at l1
  rw [tk_get (by omega) (by omega)] at e1
  have e2 := idx_get nd (show (l.take i).idxOf p < l.length by omega)
  rw [e1] at e2
  exact e2.symm
theorem lnl_iff (hl : l.Perm (List.range n)) {c p i : Nat} (hi : i ≤ n) (hp : p < n) : lnl n (l.take i) c p = true ↔ ∃ q, q < n ∧ pt c p q ∧ ¬ l.idxOf q < i := by
  unfold lnl pt
  by_cases e : p % 2 = c % 2
  · rw [if_pos e, Bool.and_eq_true, decide_eq_true_eq, Bool.not_eq_true', decide_eq_false_iff_not]
    constructor
    · rintro ⟨h1, h2⟩
      exact ⟨p + 1, h1, .inl ⟨e, rfl⟩, fun z => h2 ((tk_mem hl hi h1).mpr z)⟩
    · rintro ⟨q, h1, h2, h3⟩
      have : q = p + 1 := by omega
      subst this
      exact ⟨h1, fun z => h3 ((tk_mem hl hi h1).mp z)⟩
  · rw [if_neg e, Bool.and_eq_true, decide_eq_true_eq, Bool.not_eq_true', decide_eq_false_iff_not]
    constructor
    · rintro ⟨h1, h2⟩
      exact ⟨p - 1, by omega, .inr ⟨e, h1, rfl⟩, fun z => h2 ((tk_mem hl hi (by omega)).mpr z)⟩
    · rintro ⟨q, h1, h2, h3⟩
      have : q = p - 1 := by omega
      subst this
      exact ⟨by omega, fun z => h3 ((tk_mem hl hi h1).mp z)⟩
theorem crX_iff (hl : l.Perm (List.range n)) {c o p : Nat} (hp : p < n) (ho : o < n) : crX n (l.take (l.idxOf p)) c (l.idxOf o) = false ↔ NCo n (fun p => l.idxOf p) c o p := by
  have nd : l.Nodup := (hl.nodup_iff).mpr List.nodup_range
  have ln : l.length = n := by rw [hl.length_eq, List.length_range]
  have pl : l.idxOf p < n := by rw [← ln]; exact List.idxOf_lt_length_of_mem (hl.mem_iff.mpr (List.mem_range.mpr hp))
  have tl : (l.take (l.idxOf p)).length = l.idxOf p := by rw [List.length_take]; omega
  unfold crX
  rw [← Bool.not_eq_true, anyN_iff, tl]
  constructor
  · intro h p' q' h1 h2 h3 h4 h5
    dsimp only at h4 h5 ⊢
    refine Decidable.byContradiction (fun z => h ⟨l.idxOf p', by omega, by omega, ?_⟩)
    have m1 : p' ∈ l := hl.mem_iff.mpr (List.mem_range.mpr h1)
    rw [tk_get h5 (by omega), get_idx m1]
    exact (lnl_iff hl (by omega) h1).mpr ⟨q', h2, h3, z⟩
  · rintro h ⟨x, h1, h2, h3⟩
    have hx : x < l.idxOf p := by omega
    rw [tk_get hx (by omega)] at h3
    have g1 : l.getD x 0 < n := List.mem_range.mp (hl.mem_iff.mp (getD_mem (by omega)))
    obtain ⟨q, q1, q2, q3⟩ := (lnl_iff hl (by omega) g1).mp h3
    have e := idx_get nd (show x < l.length by omega)
    exact q3 (h (l.getD x 0) q g1 q1 q2 (by dsimp only; omega) (by dsimp only; omega))
theorem ftX_iff (hl : l.Perm (List.range n)) {c o p : Nat} (hp : p < n) (ho : o < n) : ftX n s (l.take (l.idxOf p)) c p o = true ↔ (s c = 0 ∨ ((decide (o < p) == decide (l.idxOf o < l.idxOf p)) = upG s c)) ∧ (l.idxOf o < l.idxOf p → NCo n (fun p => l.idxOf p) c o p) := by
  have ln : l.length = n := by rw [hl.length_eq, List.length_range]
  have pl : l.idxOf p < n := by rw [← ln]; exact List.idxOf_lt_length_of_mem (hl.mem_iff.mpr (List.mem_range.mpr hp))
  have m := tk_mem hl (i := l.idxOf p) (by omega) ho
  have md : decide (o ∈ l.take (l.idxOf p)) = decide (l.idxOf o < l.idxOf p) := by
    by_cases c : l.idxOf o < l.idxOf p
    · rw [decide_eq_true c, decide_eq_true (m.mpr c)]
    · rw [decide_eq_false c, decide_eq_false (fun z => c (m.mp z))]
  unfold ftX
  rw [md, Bool.and_eq_true, Bool.or_eq_true, decide_eq_true_eq, beq_iff_eq]
  refine and_congr Iff.rfl ?_
  by_cases c : l.idxOf o < l.idxOf p
  · rw [decide_eq_true c, Bool.not_true, Bool.false_or, tk_idx hl (by omega) ho c, Bool.not_eq_true', crX_iff hl hp ho]
    exact ⟨fun h _ => h, fun h => h c⟩
  · rw [decide_eq_false c, Bool.not_false, Bool.true_or]
    exact ⟨fun _ z => absurd z c, fun _ => rfl⟩
theorem steps_iff (hn : 2 ≤ n) (hl : l.Perm (List.range n)) : (∀ p, p < n → okX n s (l.take (l.idxOf p)) p = true) ↔ wyP n s (fun p => l.idxOf p) = true := by
  have nd : l.Nodup := (hl.nodup_iff).mpr List.nodup_range
  have inj : ∀ p q, p < n → q < n → l.idxOf p = l.idxOf q → p = q := fun p q h1 h2 h3 => by
    have e1 := get_idx (hl.mem_iff.mpr (List.mem_range.mpr h1))
    have e2 := get_idx (hl.mem_iff.mpr (List.mem_range.mpr h2))
    rw [h3] at e1
    rw [e1] at e2
    exact e2
  have okI : ∀ p, p < n → (okX n s (l.take (l.idxOf p)) p = true ↔ (p = 0 ∨ ftX n s (l.take (l.idxOf p)) (p - 1) p (p - 1) = true) ∧ (p = n - 1 ∨ ftX n s (l.take (l.idxOf p)) p p (p + 1) = true)) := fun p hp => by
    unfold okX
    rw [Bool.and_eq_true, Bool.or_eq_true, Bool.or_eq_true, decide_eq_true_eq, decide_eq_true_eq]
  have sgI : ∀ j, j + 1 < n → (sgW s (fun p => l.idxOf p) j = true ↔ (s j = 0 ∨ decide (l.idxOf j < l.idxOf (j + 1)) = upG s j)) := fun j hj => by
    unfold sgW
    rw [Bool.or_eq_true, decide_eq_true_eq, beq_iff_eq]
  have s1 : ∀ j, j + 1 < n → (decide (j + 1 < j) == decide (l.idxOf (j + 1) < l.idxOf j)) = decide (l.idxOf j < l.idxOf (j + 1)) := fun j hj => by
    have := fun z => inj j (j + 1) (by omega) hj z
    rw [decide_eq_false (show ¬ j + 1 < j by omega)]
    by_cases c : l.idxOf j < l.idxOf (j + 1)
    · rw [decide_eq_true c, decide_eq_false (by omega)]; rfl
    · rw [decide_eq_false c, decide_eq_true (by omega)]; rfl
  have s2 : ∀ j, (decide (j < j + 1) == decide (l.idxOf j < l.idxOf (j + 1))) = decide (l.idxOf j < l.idxOf (j + 1)) := fun j => by
    rw [decide_eq_true (show j < j + 1 by omega)]
    simp
  rw [wyP_iff hn]
  constructor
  · intro h
    have hB : ∀ j, j + 1 < n → ftX n s (l.take (l.idxOf j)) j j (j + 1) = true := fun j hj => (((okI j (by omega)).mp (h j (by omega))).2).resolve_left (by omega)
    have hA : ∀ j, j + 1 < n → ftX n s (l.take (l.idxOf (j + 1))) j (j + 1) j = true := fun j hj => by
      have q := (((okI (j + 1) hj).mp (h (j + 1) hj)).1).resolve_left (by omega)
      rw [Nat.add_sub_cancel] at q
      exact q
    refine ⟨fun j hj => ?_, CF_of inj ?_⟩
    · rw [sgI j hj]
      have q := ((ftX_iff hl (by omega) hj).mp (hB j hj)).1
      rw [s1 j hj] at q
      exact q
    · intro c hc
      exact ⟨((ftX_iff hl (by omega) hc).mp (hB c hc)).2, ((ftX_iff hl hc (by omega)).mp (hA c hc)).2⟩
  · rintro ⟨h1, h2⟩ p hp
    have h3 := SC_of inj h2
    rw [okI p hp]
    refine ⟨?_, ?_⟩
    · by_cases c : p = 0
      · exact .inl c
      · obtain ⟨j, rfl⟩ : ∃ j, p = j + 1 := ⟨p - 1, by omega⟩
        refine .inr ?_
        rw [Nat.add_sub_cancel, ftX_iff hl hp (by omega), s2]
        exact ⟨(sgI j hp).mp (h1 j hp), (h3 j hp).2⟩
    · by_cases c : p = n - 1
      · exact .inl c
      · refine .inr ?_
        rw [ftX_iff hl hp (by omega), s1 p (by omega)]
        exact ⟨(sgI p (by omega)).mp (h1 p (by omega)), (h3 p (by omega)).1⟩
end STP
/-! the list of piles -/
def okS (n : Nat) (s : Nat → Nat) (l : List Nat) (i : Nat) : Bool := okX n s (l.take i) (l.getD i 0)
theorem exP_app {n : Nat} : ∀ (k : Nat) (pre l : List Nat), l ∈ exP n k pre → ∃ z, l = pre ++ z ∧ z.length = k
  | 0, pre, l, h => by
    rw [exP, List.mem_singleton] at h
    exact ⟨[], by rw [h, List.append_nil], rfl⟩
  | k + 1, pre, l, h => by
    rw [exP, List.mem_flatMap] at h
    obtain ⟨v, _, h2⟩ := h
    obtain ⟨z, rfl, hz⟩ := exP_app k _ _ h2
    exact ⟨v :: z, by simp, by simp [hz]⟩
theorem exP_perm {n : Nat} : ∀ (k : Nat) (pre l : List Nat), (rst n pre).length = k → (pre ++ rst n pre).Perm (List.range n) → l ∈ exP n k pre → l.Perm (List.range n)
  | 0, pre, l, hk, hp, h => by
    rw [exP, List.mem_singleton] at h
    subst h
    have : rst n l = [] := List.length_eq_zero_iff.mp hk
    rw [this, List.append_nil] at hp
    exact hp
  | k + 1, pre, l, hk, hp, h => by
    rw [exP, List.mem_flatMap] at h
    obtain ⟨v, h1, h2⟩ := h
    obtain ⟨a, b, e⟩ := List.append_of_mem h1
    have r := rst_push e
    refine exP_perm k _ _ ?_ ?_ h2
    · rw [r]; rw [e] at hk; simp at hk ⊢; omega
    · rw [r]
      rw [e] at hp
      refine List.Perm.trans ?_ hp
      rw [List.append_assoc]
      exact List.Perm.append_left pre (show (v :: (a ++ b)).Perm (a ++ v :: b) from List.perm_middle.symm)
theorem rgF_flat {α : Type} {f : Nat → List α} : ∀ m u, rgF f m u = (List.range' u m).flatMap f
  | 0, u => rfl
  | m + 1, u => by rw [rgF, rgF_flat m (u + 1), List.range'_succ, List.flatMap_cons]
theorem flat_filter {α : Type} {p : Nat → Bool} {g : Nat → List α} : ∀ l : List Nat, (l.filter p).flatMap g = l.flatMap (fun v => if p v = true then g v else [])
  | [] => rfl
  | x :: l => by
    rw [List.filter_cons]
    by_cases c : p x = true
    · rw [if_pos c, List.flatMap_cons, List.flatMap_cons, if_pos c, flat_filter l]
    · rw [if_neg c, List.flatMap_cons, if_neg c, flat_filter l, List.nil_append]
theorem lvX_flat {n k : Nat} {s : Nat → Nat} {pre : List Nat} : lvX n s (k + 1) pre = (rst n pre).flatMap (fun v => if okX n s pre v = true then lvX n s k (pre ++ [v]) else []) := by
  unfold rst
  rw [lvX, rgF_flat, flat_filter, List.range_eq_range']
  congr 1
  funext v
  by_cases c : v ∈ pre <;> simp [c]
theorem filter_flat {p : List Nat → Bool} {f : Nat → List (List Nat)} : ∀ l : List Nat, (l.flatMap f).filter p = l.flatMap (fun v => (f v).filter p)
  | [] => rfl
  | x :: l => by rw [List.flatMap_cons, List.flatMap_cons, List.filter_append, filter_flat l]
theorem lvX_eq {n : Nat} {s : Nat → Nat} : ∀ (k : Nat) (pre : List Nat), lvX n s k pre = (exP n k pre).filter (fun l => allN (okS n s l) k pre.length)
  | 0, pre => by rw [lvX, exP]; rfl
  | k + 1, pre => by
    rw [lvX_flat, exP, filter_flat]
    congr 1
    funext v
    have ef : (exP n k (pre ++ [v])).filter (fun l => allN (okS n s l) (k + 1) pre.length) = (exP n k (pre ++ [v])).filter (fun l => okX n s pre v && allN (okS n s l) k (pre ++ [v]).length) := by
      refine List.filter_congr (fun l hl => ?_)
      obtain ⟨z, rfl, hz⟩ := exP_app k _ _ hl
      have e1 : okS n s (pre ++ [v] ++ z) pre.length = okX n s pre v := by
        unfold okS
        rw [List.append_assoc, List.take_left, gD_app, if_neg (by omega), Nat.sub_self]
        rfl
      rw [allN, e1, List.length_append, List.length_singleton]
    rw [ef]
    by_cases c : okX n s pre v = true
    · rw [if_pos c, lvX_eq k (pre ++ [v]), c]
      simp only [Bool.true_and]
    · rw [if_neg c, Bool.eq_false_iff.mpr c]
      simp only [Bool.false_and]
      simp
theorem rst_nil (n : Nat) : rst n [] = List.range n := by
  unfold rst
  rw [List.filter_eq_self]
  intro x _
  simp
theorem wy_lv {n t : Nat} (hn : 2 ≤ n) : wyL n n t [] = lvX n (dg3 t) n [] := by
  rw [lvX_eq]
  unfold wyL
  refine List.filter_congr (fun l hl => ?_)
  have hp := exP_perm n [] l (by rw [rst_nil, List.length_range]) (by rw [rst_nil, List.nil_append]) hl
  have nd : l.Nodup := (hp.nodup_iff).mpr List.nodup_range
  have ln : l.length = n := by rw [hp.length_eq, List.length_range]
  refine Bool.eq_iff_iff.mpr ?_
  unfold wyB
  rw [← steps_iff hn hp, allN_iff]
  constructor
  · intro h i _ hi
    rw [List.length_nil, Nat.zero_add] at hi
    have q := h (l.getD i 0) (List.mem_range.mp (hp.mem_iff.mp (getD_mem (by omega))))
    rw [idx_get nd (by omega)] at q
    exact q
  · intro h p hp9
    have m1 : p ∈ l := hp.mem_iff.mpr (List.mem_range.mpr hp9)
    have q := h (l.idxOf p) (Nat.zero_le _) (by rw [List.length_nil]; have := List.idxOf_lt_length_of_mem m1; omega)
    unfold okS at q
    rw [get_idx m1] at q
    exact q
