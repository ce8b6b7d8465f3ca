/-! all orders of panels -/
def rst (n : Nat) (pre : List Nat) : List Nat := (List.range n).filter (fun p => !decide (p ∈ pre))
def exP (n : Nat) : Nat → List Nat → List (List Nat)
  | 0, pre => [pre]
  | k + 1, pre => (rst n pre).flatMap (fun v => exP n k (pre ++ [v]))
theorem rst_lt (n : Nat) (pre : List Nat) : (rst n pre).Pairwise (· < ·) := List.Pairwise.filter _ List.pairwise_lt_range
theorem rst_mem {n : Nat} {pre : List Nat} {p : Nat} : p ∈ rst n pre ↔ p < n ∧ p ∉ pre := by
  unfold rst
  rw [List.mem_filter, List.mem_range]
  simp
theorem rst_push {n v : Nat} {pre a b : List Nat} (h : rst n pre = a ++ v :: b) : rst n (pre ++ [v]) = a ++ b := by
  have e : rst n (pre ++ [v]) = (rst n pre).filter (fun p => !decide (p = v)) := by
    unfold rst
    rw [List.filter_filter]
    congr 1
    funext p
    by_cases c : p = v
    · subst c; simp
    · by_cases d : p ∈ pre <;> simp [c, d]
  have s := rst_lt n pre
  rw [h] at s e
  rw [e]
  rw [List.pairwise_append] at s
  obtain ⟨s1, s2, s3⟩ := s
  rw [List.pairwise_cons] at s2
  rw [List.filter_append, List.filter_cons]
  simp only [decide_true, Bool.not_true, Bool.false_eq_true, if_false]
  rw [List.filter_eq_self.mpr, List.filter_eq_self.mpr]
  · intro x hx
    have := s2.1 x hx
    simp; omega
  · intro x hx
    have := s3 x hx v (by simp)
    simp; omega
theorem gD_app {l1 l2 : List Nat} {i : Nat} : (l1 ++ l2).getD i 0 = if i < l1.length then l1.getD i 0 else l2.getD (i - l1.length) 0 := by
  by_cases c : i < l1.length
  · rw [if_pos c, getD_appL c]
  · rw [if_neg c]
    obtain ⟨j, rfl⟩ : ∃ j, i = l1.length + j := ⟨i - l1.length, by omega⟩
    rw [getD_appR, Nat.add_sub_cancel_left]
theorem gD_rev {l : List Nat} {i : Nat} (h : i < l.length) : l.reverse.getD i 0 = l.getD (l.length - 1 - i) 0 := by
  rw [gtD (by simp; exact h), gtD (by omega), List.getElem_reverse]
theorem gD_lt {l : List Nat} (h : l.Pairwise (· < ·)) {i j : Nat} (hij : i < j) (hj : j < l.length) : l.getD i 0 < l.getD j 0 := by
  rw [gtD (by omega), gtD hj]
  exact List.pairwise_iff_getElem.mp h i j (by omega) hj hij
theorem gD_0 {x : Nat} {l : List Nat} : (x :: l).getD 0 0 = x := rfl
theorem gD_s {x i : Nat} {l : List Nat} : (x :: l).getD (i + 1) 0 = l.getD i 0 := by simp [List.getD]
/-- what the order before the next one says, place by place -/
theorem nx_V {pre X : List Nat} {v : Nat} : (pre ++ v :: X.reverse).getD pre.length 0 = v ∧ (∀ j, j < pre.length → (pre ++ v :: X.reverse).getD j 0 = pre.getD j 0) ∧ ∀ x, x < X.length → (pre ++ v :: X.reverse).getD (pre.length + 1 + X.length - 1 - x) 0 = X.getD x 0 := by
  refine ⟨?_, fun j hj => ?_, fun x hx => ?_⟩
  · rw [gD_app, if_neg (by omega), Nat.sub_self]; rfl
  · rw [gD_app, if_pos hj]
  · rw [gD_app, if_neg (by omega), show pre.length + 1 + X.length - 1 - x - pre.length = (X.length - 1 - x) + 1 by omega, gD_s, gD_rev (by omega)]
    exact congrArg (fun z => X.getD z 0) (by omega)
theorem m_nextL {G : mG} {h : mH} {Q n v w : Nat} {N : Int32} {m : Nat → Int32} {wd : Int64} {o : Nat → Int32} {pre a b : List Nat} (d : Nat) (hn : n ≤ 8) (hS : (a ++ v :: w :: b).Pairwise (· < ·)) (hl : (pre ++ v :: (a ++ w :: b)).length = n) (hlt : ∀ x, x ∈ pre ++ v :: (a ++ w :: b) → x < n) (hQ : h Q = oMod Q N m wd) (hO : h (Q + 11) = aI 8 o) (ho : oL o (pre ++ v :: (a ++ w :: b).reverse)) : EV G m_X11_nextOrder d 0 0 [.ref Q, .int (nI n)] h (fun r h' => r = some (.int (bI true)) ∧ ∃ o', h' = hu h (Q + 11) (aI 8 o') ∧ oL o' (pre ++ w :: (a ++ v :: b))) := by
  generalize hX : a ++ w :: b = X at ho hl hlt
  have lX : X.length = a.length + 1 + b.length := by rw [← hX]; simp; omega
  have hl2 : pre.length + 1 + X.length = n := by rw [← hl]; simp; omega
  obtain ⟨v1, v2, v3⟩ := nx_V (pre := pre) (X := X) (v := v)
  have xS : ∀ x, x < X.length → X.getD x 0 = (a ++ v :: w :: b).getD (if x < a.length then x else x + 1) 0 := by
    intro x hx
    rw [← hX, gD_app, gD_app]
    by_cases c : x < a.length
    · rw [if_pos c, if_pos c, if_pos c]
    · rw [if_neg c, if_neg c, if_neg (by omega), show x + 1 - a.length = (x - a.length) + 1 by omega, gD_s]
  have sv : (a ++ v :: w :: b).getD a.length 0 = v := by rw [gD_app, if_neg (by omega), Nat.sub_self]; rfl
  have sl : (a ++ v :: w :: b).length = X.length + 1 := by rw [lX]; simp; omega
  have xlt : ∀ x, x < a.length → X.getD x 0 < v := fun x hx => by
    rw [xS x (by omega), if_pos hx]
    have := gD_lt hS hx (by omega)
    rw [sv] at this
    exact this
  have xgt : ∀ x, a.length ≤ x → x < X.length → v < X.getD x 0 := fun x hx h2 => by
    rw [xS x h2, if_neg (by omega)]
    have := gD_lt hS (show a.length < x + 1 by omega) (by omega)
    rw [sv] at this
    exact this
  have xmo : ∀ x, x + 1 < X.length → X.getD x 0 < X.getD (x + 1) 0 := fun x hx => by
    rw [xS x (by omega), xS (x + 1) hx]
    refine gD_lt hS ?_ ?_
    · split <;> split <;> omega
    · split <;> omega
  have ln : (pre ++ v :: X.reverse).length = n := by simp; omega
  refine ev_mono (m_next_t (n := n) (V := fun j => (pre ++ v :: X.reverse).getD j 0) (P := pre.length) (r := X.length) (c := a.length) d hn hQ hO (fun j hj => ho j (by omega)) ?_ hl2 (by omega) ?_ ?_ ?_ ?_) ?_
  · intro j hj
    have : (pre ++ v :: X.reverse).getD j 0 ∈ pre ++ v :: X.reverse := getD_mem (by omega)
    have := hlt ((pre ++ v :: X.reverse).getD j 0) (by simpa using this)
    show (pre ++ v :: X.reverse).getD j 0 < 8
    omega
  · intro k h1 h2
    show (pre ++ v :: X.reverse).getD (k + 1) 0 < (pre ++ v :: X.reverse).getD k 0
    have q1 := v3 (n - 1 - k) (by omega)
    have q2 := v3 (n - 1 - (k + 1)) (by omega)
    rw [show pre.length + 1 + X.length - 1 - (n - 1 - k) = k by omega] at q1
    rw [show pre.length + 1 + X.length - 1 - (n - 1 - (k + 1)) = k + 1 by omega] at q2
    rw [q1, q2, show n - 1 - k = n - 1 - (k + 1) + 1 by omega]
    exact xmo _ (by omega)
  · show (pre ++ v :: X.reverse).getD pre.length 0 < (pre ++ v :: X.reverse).getD (pre.length + 1) 0
    have q1 := v3 (X.length - 1) (by omega)
    rw [show pre.length + 1 + X.length - 1 - (X.length - 1) = pre.length + 1 by omega] at q1
    rw [v1, q1]
    exact xgt _ (by omega) (by omega)
  · intro x hx
    show (pre ++ v :: X.reverse).getD (n - 1 - x) 0 < (pre ++ v :: X.reverse).getD pre.length 0
    have q1 := v3 x (by omega)
    rw [show pre.length + 1 + X.length - 1 - x = n - 1 - x by omega] at q1
    rw [v1, q1]
    exact xlt x hx
  · show (pre ++ v :: X.reverse).getD pre.length 0 < (pre ++ v :: X.reverse).getD (n - 1 - a.length) 0
    have q1 := v3 a.length (by omega)
    rw [show pre.length + 1 + X.length - 1 - a.length = n - 1 - a.length by omega] at q1
    rw [v1, q1]
    exact xgt _ (by omega) (by omega)
  · rintro r h' ⟨rfl, o', rfl, h1, h2, h3⟩
    refine ⟨rfl, o', rfl, ?_⟩
    intro j hj
    have lj : j < pre.length + 1 + X.length := by
      have : (pre ++ w :: (a ++ v :: b)).length = pre.length + 1 + X.length := by rw [lX]; simp; omega
      omega
    by_cases c1 : j < pre.length
    · rw [gD_app, if_pos c1, h1 j c1, v2 j c1]
    · by_cases c2 : j = pre.length
      · subst c2
        have q1 := v3 a.length (by omega)
        rw [show pre.length + 1 + X.length - 1 - a.length = n - 1 - a.length by omega] at q1
        rw [h2, q1, gD_app, if_neg (by omega), Nat.sub_self, gD_0, ← hX, gD_app, if_neg (by omega), Nat.sub_self, gD_0]
      · obtain ⟨x, rfl⟩ : ∃ x, j = pre.length + 1 + x := ⟨j - (pre.length + 1), by omega⟩
        have q1 := v3 x (by omega)
        rw [show pre.length + 1 + X.length - 1 - x = n - 1 - x by omega] at q1
        have e5 : (pre ++ w :: (a ++ v :: b)).getD (pre.length + 1 + x) 0 = (a ++ v :: b).getD x 0 := by
          rw [gD_app, if_neg (by omega), show pre.length + 1 + x - pre.length = x + 1 by omega, gD_s]
        rw [h3 x (by omega), q1, v1, e5, gD_app]
        refine congrArg nI ?_
        by_cases c3 : x = a.length
        · rw [if_pos c3, if_neg (by omega), c3, Nat.sub_self, gD_0]
        · rw [if_neg c3, ← hX, gD_app]
          by_cases c4 : x < a.length
          · rw [if_pos c4, if_pos c4]
          · rw [if_neg c4, if_neg c4]
            obtain ⟨y, hy⟩ : ∃ y, x - a.length = y + 1 := ⟨x - a.length - 1, by omega⟩
            rw [hy, gD_s, gD_s]
