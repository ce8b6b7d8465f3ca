/-! a fold of the class and of the model -/
theorem i2g {x y : Int32} (hx : -10000000 ≤ x.toInt ∧ x.toInt ≤ 10000000) (hy : -10000000 ≤ y.toInt ∧ y.toInt ≤ 10000000) : (2 * x - 1 - y).toInt = 2 * x.toInt - 1 - y.toInt := by
  have e2 : (2 : Int32).toInt = 2 := rfl
  have e1 : (1 : Int32).toInt = 1 := rfl
  have m : (2 * x).toInt = 2 * x.toInt := by
    rw [Int32.toInt_mul, e2]
    exact Int.bmod_eq_of_le (by omega) (by omega)
  have s1 : (2 * x - 1).toInt = 2 * x.toInt - 1 := by
    rw [Int32.toInt_sub, m, e1]
    exact Int.bmod_eq_of_le (by omega) (by omega)
  rw [Int32.toInt_sub, s1]
  exact Int.bmod_eq_of_le (by omega) (by omega)
theorem mnF_le {f : Nat → Int32} {u : Nat} : ∀ m, u < m → (mnF f m).toInt ≤ (f u).toInt
  | 0, h => absurd h (Nat.not_lt_zero _)
  | 1, h => by have : u = 0 := by omega
               subst this
               rw [mnF_1]; exact Int.le_refl _
  | m + 2, h => by
    have e : mnF f (m + 2) = if mnF f (m + 1) ≤ f (m + 1) then mnF f (m + 1) else f (m + 1) := rfl
    rw [e]
    by_cases c : u = m + 1
    · subst c
      split
      · rename_i k; exact Int32.le_iff_toInt_le.mp k
      · exact Int.le_refl _
    · have ih := mnF_le (f := f) (u := u) (m + 1) (by omega)
      split
      · exact ih
      · rename_i k
        have k2 : ¬ (mnF f (m + 1)).toInt ≤ (f (m + 1)).toInt := fun z => k (Int32.le_iff_toInt_le.mpr z)
        omega
theorem mxF_ge {f : Nat → Int32} {u : Nat} : ∀ m, u < m → (f u).toInt ≤ (mxF f m).toInt
  | 0, h => absurd h (Nat.not_lt_zero _)
  | 1, h => by have : u = 0 := by omega
               subst this
               rw [mxF_1]; exact Int.le_refl _
  | m + 2, h => by
    have e : mxF f (m + 2) = if f (m + 1) ≤ mxF f (m + 1) then mxF f (m + 1) else f (m + 1) := rfl
    rw [e]
    by_cases c : u = m + 1
    · subst c
      split
      · rename_i k; exact Int32.le_iff_toInt_le.mp k
      · exact Int.le_refl _
    · have ih := mxF_ge (f := f) (u := u) (m + 1) (by omega)
      split
      · exact ih
      · rename_i k
        have k2 : ¬ (f (m + 1)).toInt ≤ (mxF f (m + 1)).toInt := fun z => k (Int32.le_iff_toInt_le.mpr z)
        omega
theorem mnF_at {f : Nat → Int32} : ∀ m, 1 ≤ m → ∃ v, v < m ∧ mnF f m = f v
  | 0, h => absurd h (by omega)
  | 1, _ => ⟨0, by omega, mnF_1 f⟩
  | m + 2, _ => by
    have e : mnF f (m + 2) = if mnF f (m + 1) ≤ f (m + 1) then mnF f (m + 1) else f (m + 1) := rfl
    rw [e]
    split
    · obtain ⟨v, h1, h2⟩ := mnF_at (f := f) (m + 1) (by omega)
      exact ⟨v, by omega, h2⟩
    · exact ⟨m + 1, by omega, rfl⟩
theorem mxF_at {f : Nat → Int32} : ∀ m, 1 ≤ m → ∃ v, v < m ∧ mxF f m = f v
  | 0, h => absurd h (by omega)
  | 1, _ => ⟨0, by omega, mxF_1 f⟩
  | m + 2, _ => by
    have e : mxF f (m + 2) = if f (m + 1) ≤ mxF f (m + 1) then mxF f (m + 1) else f (m + 1) := rfl
    rw [e]
    split
    · obtain ⟨v, h1, h2⟩ := mxF_at (f := f) (m + 1) (by omega)
      exact ⟨v, by omega, h2⟩
    · exact ⟨m + 1, by omega, rfl⟩
theorem nbr {f : Nat → Int32} {n : Nat} (h : ∀ u, u < n → (f u).toInt - (f (u + 1)).toInt ≤ 1 ∧ (f (u + 1)).toInt - (f u).toInt ≤ 1) (v : Nat) : ∀ w, v + w ≤ n → (f v).toInt - (f (v + w)).toInt ≤ w ∧ (f (v + w)).toInt - (f v).toInt ≤ w
  | 0, _ => by rw [Nat.add_zero]; omega
  | w + 1, hw => by
    have ih := nbr h v w (by omega)
    have s := h (v + w) (by omega)
    rw [show v + (w + 1) = v + w + 1 by omega]
    omega
theorem nbr2 {f : Nat → Int32} {n : Nat} (h : ∀ u, u < n → (f u).toInt - (f (u + 1)).toInt ≤ 1 ∧ (f (u + 1)).toInt - (f u).toInt ≤ 1) {u v : Nat} (hu9 : u ≤ n) (hv : v ≤ n) : (f u).toInt - (f v).toInt ≤ n := by
  by_cases c : u ≤ v
  · obtain ⟨w, rfl⟩ : ∃ w, v = u + w := ⟨v - u, by omega⟩
    have := nbr h u w hv
    omega
  · obtain ⟨w, rfl⟩ : ∃ w, u = v + w := ⟨u - v, by omega⟩
    have := nbr h v w hu9
    omega
theorem cnt_z {f : Nat → Int32} {x : Int32} : ∀ m, (∀ u, u < m → ¬ f u = x) → cnt f x m = 0
  | 0, _ => rfl
  | m + 1, h => by rw [cnt, cnt_z m (fun u hu9 => h u (by omega)), if_neg (h m (by omega))]
theorem cnt_ag {f g : Nat → Int32} {x : Int32} : ∀ m, (∀ u, u < m → f u = g u) → cnt f x m = cnt g x m
  | 0, _ => rfl
  | m + 1, h => by rw [cnt, cnt, cnt_ag m (fun u hu9 => h u (by omega)), h m (by omega)]
theorem cnb_ag {f g : Nat → Bool} : ∀ m, (∀ u, u < m → f u = g u) → cnb f m = cnb g m
  | 0, _ => rfl
  | m + 1, h => by rw [cnb, cnb, cnb_ag m (fun u hu9 => h u (by omega)), h m (by omega)]
theorem anB_ag {f g : Nat → Bool} : ∀ m, (∀ u, u < m → f u = g u) → anB f m = anB g m
  | 0, _ => rfl
  | m + 1, h => by rw [anB, anB, anB_ag m (fun u hu9 => h u (by omega)), h m (by omega)]
theorem anB_iff {f : Nat → Bool} : ∀ m, anB f m = true ↔ ∃ u, u < m ∧ f u = true
  | 0 => by
    constructor
    · intro h; cases h
    · rintro ⟨u, h, _⟩; omega
  | m + 1 => by
    rw [anB, Bool.or_eq_true, anB_iff m]
    constructor
    · rintro (⟨u, h1, h2⟩ | h)
      · exact ⟨u, by omega, h2⟩
      · exact ⟨m, by omega, h⟩
    · rintro ⟨u, h1, h2⟩
      by_cases c : u = m
      · subst c; exact .inr h2
      · exact .inl ⟨u, by omega, h2⟩
theorem tlF_le {f : Nat → Int32} {t : Int32} (ht : 0 ≤ t) : ∀ m, tlF f m ≤ t ↔ ∀ u, u < m → f u ≤ t
  | 0 => ⟨fun _ u h => absurd h (Nat.not_lt_zero _), fun _ => ht⟩
  | m + 1 => by
    rw [tlF]
    have ih := tlF_le (f := f) ht m
    by_cases c : tlF f m < f m
    · rw [if_pos c]
      constructor
      · intro h u hu9
        by_cases e : u = m
        · subst e; exact h
        · exact ih.mp (Int32.le_trans (Int32.le_of_lt c) h) u (by omega)
      · intro h; exact h m (by omega)
    · rw [if_neg c]
      constructor
      · intro h u hu9
        by_cases e : u = m
        · subst e; exact Int32.le_trans (Int32.not_lt.mp c) h
        · exact ih.mp h u (by omega)
      · intro h; exact ih.mpr (fun u hu9 => h u (by omega))
theorem anB_lw {f : Nat → Int32} {x : Int32} : ∀ m, anB (fun u => !decide (x ≤ f u)) m = lwF f x m
  | 0 => rfl
  | m + 1 => by
    rw [anB, lwF, anB_lw m]
    refine congrArg (lwF f x m || ·) ?_
    by_cases c : f m < x
    · rw [decide_eq_true c, decide_eq_false (Int32.not_le.mpr c)]; rfl
    · rw [decide_eq_false c, decide_eq_true (Int32.not_lt.mp c)]; rfl
theorem anB_hw {f : Nat → Int32} {x : Int32} : ∀ m, anB (fun u => !decide (f u < x)) m = hwF f x m
  | 0 => rfl
  | m + 1 => by rw [anB, hwF, anB_hw m]
/-- the strip lies between lo and hi, x is a line of it -/
def foldable (n : Nat) (f : Nat → Int32) (x : Int32) : Prop := (∀ u, u < n → (f u).toInt - (f (u + 1)).toInt ≤ 1 ∧ (f (u + 1)).toInt - (f u).toInt ≤ 1) ∧ (∀ u, u ≤ n → -5000000 ≤ (f u).toInt ∧ (f u).toInt ≤ 5000000) ∧ (∃ v, v ≤ n ∧ (f v).toInt < x.toInt) ∧ ∃ v, v ≤ n ∧ x.toInt ≤ (f v).toInt
section FO
variable {n : Nat} {f : Nat → Int32} {x : Int32}
theorem fo_x (hn : n < 40) (F : foldable n f x) {u : Nat} (hu9 : u ≤ n) : x.toInt - (f u).toInt ≤ 40 ∧ (f u).toInt - x.toInt ≤ 40 := by
  obtain ⟨v, v1, v2⟩ := F.2.2.1
  obtain ⟨w, w1, w2⟩ := F.2.2.2
  have a := nbr2 F.1 hu9 v1
  have b := nbr2 F.1 w1 hu9
  omega
theorem fo_b (hn : n < 40) (F : foldable n f x) : -5000040 ≤ x.toInt ∧ x.toInt ≤ 5000040 := by
  have a := fo_x hn F (Nat.zero_le n)
  have b := F.2.1 0 (Nat.zero_le n)
  omega
theorem fo_m (hn : n < 40) (F : foldable n f x) {u : Nat} (hu9 : u ≤ n) : (2 * x - 1 - f u).toInt = 2 * x.toInt - 1 - (f u).toInt := by
  have a := fo_b hn F
  have b := F.2.1 u hu9
  exact i2g (by omega) (by omega)
theorem fo_mm (y : Int32) : 2 * x - 1 - (2 * x - 1 - y) = y := by
  rw [Int32.sub_eq_add_neg (2 * x - 1), Int32.neg_sub, Int32.add_comm, Int32.sub_add_cancel]
theorem mv_flip (y : Int32) {right : Bool} (hx : -10000000 ≤ x.toInt ∧ x.toInt ≤ 10000000) (hy : -10000000 ≤ y.toInt ∧ y.toInt ≤ 10000000) : mvs (2 * x - 1 - y) x right = !mvs y x right := by
  have e := i2g hx hy
  unfold mvs
  by_cases c : y < x
  · have c9 := Int32.lt_iff_toInt_lt.mp c
    have d : ¬ (2 * x - 1 - y) < x := fun z => by
      have := Int32.lt_iff_toInt_lt.mp z
      omega
    rw [decide_eq_true c, decide_eq_false d]
    cases right <;> rfl
  · have c9 : ¬ y.toInt < x.toInt := fun z => c (Int32.lt_iff_toInt_lt.mpr z)
    have d : (2 * x - 1 - y) < x := Int32.lt_iff_toInt_lt.mpr (by omega)
    rw [decide_eq_false c, decide_eq_true d]
    cases right <;> rfl
/-- heights are what they seem -/
theorem hg_cnt (hn : n < 40) (nb : ∀ u, u < n → (f u).toInt - (f (u + 1)).toInt ≤ 1 ∧ (f (u + 1)).toInt - (f u).toInt ≤ 1) (bd : ∀ u, u ≤ n → -5000000 ≤ (f u).toInt ∧ (f u).toInt ≤ 5000000) {y : Int32} (hy : -20000000 ≤ y.toInt ∧ y.toInt ≤ 20000000) : hgS f (n + 1) (n + 1) y = nI (cnt f y (n + 1)) := by
  obtain ⟨v, v1, v2⟩ := mnF_at (f := f) (n + 1) (by omega)
  have lb := bd v (by omega)
  rw [← v2] at lb
  have e : (y - mnF f (n + 1)).toInt = y.toInt - (mnF f (n + 1)).toInt := by
    rw [Int32.toInt_sub]
    exact Int.bmod_eq_of_le (by omega) (by omega)
  have e0 : (0 : Int32).toInt = 0 := rfl
  unfold hgS
  split
  · rename_i c
    have c9 := Int32.lt_iff_toInt_lt.mp c
    rw [e, e0] at c9
    rw [cnt_z (n + 1) (fun u hu9 z => by
      have := mnF_le (f := f) (n + 1) hu9
      rw [z] at this
      omega)]
    rfl
  · split
    · rename_i c
      have c9 := Int32.le_iff_toInt_le.mp c
      rw [e, nI_toInt (by omega)] at c9
      rw [cnt_z (n + 1) (fun u hu9 z => by
        have := nbr2 nb (show u ≤ n by omega) (show v ≤ n by omega)
        rw [z, ← v2] at this
        omega)]
      rfl
    · rfl
/-- cells that come together -/
theorem ds_cnt (hn : n < 40) (F : foldable n f x) {right : Bool} {u : Nat} (hu9 : u ≤ n) : cnt (fun v => if mvs (f v) x right = true then 2 * x - 1 - f v else f v) (if mvs (f u) x right = true then 2 * x - 1 - f u else f u) (n + 1) = cnt f (f u) (n + 1) + cnt f (2 * x - 1 - f u) (n + 1) := by
  have xb := fo_b hn F
  have bb : ∀ v, v ≤ n → -10000000 ≤ (f v).toInt ∧ (f v).toInt ≤ 10000000 := fun v hv => by have := F.2.1 v hv; omega
  have mb : -10000000 ≤ (2 * x - 1 - f u).toInt ∧ (2 * x - 1 - f u).toInt ≤ 10000000 := by
    have := fo_x hn F hu9
    rw [fo_m hn F hu9]
    omega
  have fl := fun v (hv : v ≤ n) => mv_flip (x := x) (f v) (right := right) (by omega) (bb v hv)
  -- y stays, its mirror moves
  have key : ∀ y z : Int32, mvs y x right = false → z = 2 * x - 1 - y → mvs z x right = true → ∀ m, m ≤ n + 1 → cnt (fun v => if mvs (f v) x right = true then 2 * x - 1 - f v else f v) y m = cnt f y m + cnt f z m := by
    intro y z hy hz hz2 m
    induction m with
    | zero => intro _; rfl
    | succ m ih =>
      intro hm
      rw [cnt, cnt, cnt, ih (by omega)]
      by_cases c : mvs (f m) x right = true
      · have n1 : ¬ f m = y := fun q => by rw [q, hy] at c; cases c
        have i1 : (if mvs (f m) x right = true then 2 * x - 1 - f m else f m) = y ↔ f m = z := by
          rw [if_pos c]
          constructor
          · intro q
            rw [hz, ← q, fo_mm]
          · intro q
            rw [q, hz, fo_mm]
        rw [if_neg n1]
        by_cases d : f m = z
        · rw [if_pos d, if_pos (i1.mpr d)]; omega
        · rw [if_neg d, if_neg (fun q => d (i1.mp q))]; omega
      · have n1 : ¬ f m = z := fun q => by rw [q] at c; exact c hz2
        rw [if_neg n1, if_neg c]
        omega
  by_cases c : mvs (f u) x right = true
  · rw [if_pos c, key (2 * x - 1 - f u) (f u) (by rw [fl u hu9, c]; rfl) (by rw [fo_mm]) c (n + 1) (Nat.le_refl _), Nat.add_comm]
  · rw [if_neg c, key (f u) (2 * x - 1 - f u) (Bool.eq_false_iff.mpr c) rfl (by rw [fl u hu9, Bool.eq_false_iff.mpr c]; rfl) (n + 1) (Nat.le_refl _)]
end FO
