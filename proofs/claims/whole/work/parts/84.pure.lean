/-! what the model's arrays hold, index by index -/
theorem flA_o {a : Nat → Int32} {j : Nat} : ∀ m, (∀ u, u < m → j ≠ 10 + u ∧ j ≠ 50 + u ∧ j ≠ 90 + u) → flA a m j = a j
  | 0, _ => rfl
  | m + 1, h => by
    obtain ⟨h1, h2, h3⟩ := h m (by omega)
    rw [flA, upd_nn h3, upd_nn h2, upd_nn h1, flA_o m (fun u hu9 => h u (by omega))]
theorem flA_c {a : Nat → Int32} {u : Nat} : ∀ m, m ≤ 40 → u < m → flA a m (10 + u) = nI u ∧ flA a m (50 + u) = 0 ∧ flA a m (90 + u) = 1
  | 0, _, h => absurd h (Nat.not_lt_zero _)
  | m + 1, hm, h => by
    by_cases c : u = m
    · subst c
      refine ⟨?_, ?_, ?_⟩
      · rw [flA, upd_nn (by omega), upd_nn (by omega), upd_ss]
      · rw [flA, upd_nn (by omega), upd_ss]
      · rw [flA, upd_ss]
    · obtain ⟨e1, e2, e3⟩ := flA_c (a := a) (u := u) m (by omega) (by omega)
      refine ⟨?_, ?_, ?_⟩
      · rw [flA, upd_nn (by omega), upd_nn (by omega), upd_nn (by omega)]; exact e1
      · rw [flA, upd_nn (by omega), upd_nn (by omega), upd_nn (by omega)]; exact e2
      · rw [flA, upd_nn (by omega), upd_nn (by omega), upd_nn (by omega)]; exact e3
theorem tkA_o {a : Nat → Int32} {j : Nat} : ∀ m, (∀ q, q < m → j ≠ 130 + 6 * (q + 1) + 1) → tkA a m j = a j
  | 0, _ => rfl
  | m + 1, h => by
    have ih := tkA_o (a := a) (j := j) m (fun q hq => h q (by omega))
    rw [tkA]
    split
    · exact ih
    · rw [upd_nn (h m (by omega))]; exact ih
def stF (a : Nat → Int32) (q : Nat) (r : Int32) : Int32 := if a (10 + q) = a (10 + (q + 1)) then crF (a 5) r else esF (a 6) r
theorem tkA_r {a : Nat → Int32} {q : Nat} : ∀ m, m < 40 → q < m → tkA a m (130 + 6 * (q + 1) + 1) = if a (130 + 6 * (q + 1)) = 0 then a (130 + 6 * (q + 1) + 1) else stF a q (a (130 + 6 * (q + 1) + 1))
  | 0, _, h => absurd h (Nat.not_lt_zero _)
  | m + 1, hm, h => by
    have o := fun j (hj : ∀ q, q < m → j ≠ 130 + 6 * (q + 1) + 1) => tkA_o (a := a) (j := j) m hj
    by_cases c : q = m
    · subst c
      rw [tkA, o (130 + 6 * (q + 1)) (fun p hp => by omega)]
      split
      · exact o _ (fun p hp => by omega)
      · rw [upd_ss, o (10 + q) (fun p hp => by omega), o (10 + (q + 1)) (fun p hp => by omega), o 5 (fun p hp => by omega), o 6 (fun p hp => by omega), o (130 + 6 * (q + 1) + 1) (fun p hp => by omega)]
        rfl
    · have ih := tkA_r (a := a) (q := q) m (by omega) (by omega)
      rw [tkA]
      split
      · exact ih
      · rw [upd_nn (by omega)]; exact ih
theorem itA_o {a : Nat → Int32} {n j : Nat} (hj : ∀ q, q < n → j ≠ 130 + 6 * (q + 1) + 1) : ∀ t, itA (fun a => tkA a n) t a j = a j
  | 0 => rfl
  | t + 1 => by
    rw [itA]
    show tkA (itA (fun a => tkA a n) t a) n j = a j
    rw [tkA_o n hj, itA_o hj t]
theorem itA_r {a : Nat → Int32} {n q : Nat} (hn : n < 40) (hq : q < n) : ∀ t, itA (fun a => tkA a n) t a (130 + 6 * (q + 1) + 1) = if a (130 + 6 * (q + 1)) = 0 then a (130 + 6 * (q + 1) + 1) else itr (stF a q) t (a (130 + 6 * (q + 1) + 1))
  | 0 => by
    show a _ = _
    split <;> rfl
  | t + 1 => by
    have o := fun j (hj : ∀ q, q < n → j ≠ 130 + 6 * (q + 1) + 1) => itA_o (a := a) hj t
    have e : stF (itA (fun a => tkA a n) t a) q = stF a q := by
      funext r
      unfold stF
      rw [o (10 + q) (fun p hp => by omega), o (10 + (q + 1)) (fun p hp => by omega), o 5 (fun p hp => by omega), o 6 (fun p hp => by omega)]
    rw [itA]
    show tkA (itA (fun a => tkA a n) t a) n (130 + 6 * (q + 1) + 1) = _
    rw [tkA_r n hn hq, o (130 + 6 * (q + 1)) (fun p hp => by omega), e, itA_r hn hq t]
    by_cases c : a (130 + 6 * (q + 1)) = 0
    · rw [if_pos c, if_pos c, if_pos c]
    · rw [if_neg c, if_neg c, if_neg c]
      rfl
/-- behind an act of t ticks -/
theorem paA_o {a : Nat → Int32} {n t j : Nat} (h0 : j ≠ 0) (h1 : j ≠ 1) (hj : ∀ q, q < n → j ≠ 130 + 6 * (q + 1) + 1) : paA n t a j = a j := by
  unfold paA
  rw [upd_nn h1, upd_nn h0, itA_o hj]
theorem paA_0 {a : Nat → Int32} {n t : Nat} : paA n t a 0 = a 0 + nI t := by
  unfold paA
  rw [upd_nn (by omega), upd_ss, itA_o (fun q _ => by omega)]
theorem paA_1 {a : Nat → Int32} {n t : Nat} : paA n t a 1 = a 1 + 1 := by
  unfold paA
  rw [upd_ss, upd_nn (by omega), itA_o (fun q _ => by omega)]
theorem paA_r {a : Nat → Int32} {n t q : Nat} (hn : n < 40) (hq : q < n) : paA n t a (130 + 6 * (q + 1) + 1) = if a (130 + 6 * (q + 1)) = 0 then a (130 + 6 * (q + 1) + 1) else itr (stF a q) t (a (130 + 6 * (q + 1) + 1)) := by
  unfold paA
  rw [upd_nn (by omega), upd_nn (by omega), itA_r hn hq]
/-- a fold's creases -/
theorem fcS_o {c : Nat → Int32} {w : Int32} {p j : Nat} (h : ∀ i, i < 6 → j ≠ 130 + 6 * p + i) : fcS c w p j = c j := by
  have h0 := h 0 (by omega)
  have h1 := h 1 (by omega)
  have h2 := h 2 (by omega)
  have h3 := h 3 (by omega)
  have h4 := h 4 (by omega)
  have h5 := h 5 (by omega)
  unfold fcS
  (repeat' split) <;> simp (disch := omega) only [upd_nn]
theorem fcA_o {a : Nat → Int32} {x w : Int32} {j : Nat} : ∀ m, (∀ q, q < m → ∀ i, i < 6 → j ≠ 130 + 6 * (q + 1) + i) → fcA a x w m j = a j
  | 0, _ => rfl
  | m + 1, h => by
    rw [fcA]
    have ih := fcA_o (a := a) (x := x) (w := w) (j := j) m (fun q hq => h q (by omega))
    split
    · rw [fcS_o (h m (by omega))]; exact ih
    · exact ih
theorem fcS_0 {c : Nat → Int32} {w : Int32} {p : Nat} : fcS c w p (130 + 6 * p) = if c (90 + p) = 1 then 1 else 2 := by
  unfold fcS
  (repeat' split) <;> simp (disch := omega) only [upd_nn, upd_ss] <;> simp_all
theorem fcS_1 {c : Nat → Int32} {w : Int32} {p : Nat} : fcS c w p (130 + 6 * p + 1) = if 300 ≤ c (130 + 6 * p + 1) then c (130 + 6 * p + 1) else 300 := by
  have e : ∀ v, upd c (130 + 6 * p) v (130 + 6 * p + 1) = c (130 + 6 * p + 1) := fun v => upd_nn (by omega)
  unfold fcS
  simp only [e]
  by_cases c9 : 300 ≤ c (130 + 6 * p + 1)
  · simp only [if_pos c9]
    simp (disch := omega) only [upd_nn, upd_ss]
    by_cases c8 : c (130 + 6 * p + 2) + w < c 7
    · simp only [if_pos c8]
      simp (disch := omega) only [upd_nn, upd_ss]
    · simp only [if_neg c8]
      simp (disch := omega) only [upd_nn, upd_ss]
  · simp only [if_neg c9]
    simp (disch := omega) only [upd_nn, upd_ss]
    by_cases c8 : c (130 + 6 * p + 2) + w < c 7
    · simp only [if_pos c8]
      simp (disch := omega) only [upd_nn, upd_ss]
    · simp only [if_neg c8]
      simp (disch := omega) only [upd_nn, upd_ss]
theorem fcS_2 {c : Nat → Int32} {w : Int32} {p : Nat} : fcS c w p (130 + 6 * p + 2) = c (130 + 6 * p + 2) + w := by
  have e : ∀ v, upd c (130 + 6 * p) v (130 + 6 * p + 1) = c (130 + 6 * p + 1) := fun v => upd_nn (by omega)
  unfold fcS
  simp only [e]
  by_cases c9 : 300 ≤ c (130 + 6 * p + 1)
  · simp only [if_pos c9]
    simp (disch := omega) only [upd_nn, upd_ss]
    by_cases c8 : c (130 + 6 * p + 2) + w < c 7
    · simp only [if_pos c8]
      simp (disch := omega) only [upd_nn, upd_ss]
    · simp only [if_neg c8]
      simp (disch := omega) only [upd_nn, upd_ss]
  · simp only [if_neg c9]
    simp (disch := omega) only [upd_nn, upd_ss]
    by_cases c8 : c (130 + 6 * p + 2) + w < c 7
    · simp only [if_pos c8]
      simp (disch := omega) only [upd_nn, upd_ss]
    · simp only [if_neg c8]
      simp (disch := omega) only [upd_nn, upd_ss]
theorem fcS_3 {c : Nat → Int32} {w : Int32} {p : Nat} : fcS c w p (130 + 6 * p + 3) = c 0 := by
  have e : ∀ v, upd c (130 + 6 * p) v (130 + 6 * p + 1) = c (130 + 6 * p + 1) := fun v => upd_nn (by omega)
  unfold fcS
  simp only [e]
  by_cases c9 : 300 ≤ c (130 + 6 * p + 1)
  · simp only [if_pos c9]
    simp (disch := omega) only [upd_nn, upd_ss]
    by_cases c8 : c (130 + 6 * p + 2) + w < c 7
    · simp only [if_pos c8]
      simp (disch := omega) only [upd_nn, upd_ss]
    · simp only [if_neg c8]
      simp (disch := omega) only [upd_nn, upd_ss]
  · simp only [if_neg c9]
    simp (disch := omega) only [upd_nn, upd_ss]
    by_cases c8 : c (130 + 6 * p + 2) + w < c 7
    · simp only [if_pos c8]
      simp (disch := omega) only [upd_nn, upd_ss]
    · simp only [if_neg c8]
      simp (disch := omega) only [upd_nn, upd_ss]
theorem fcS_4 {c : Nat → Int32} {w : Int32} {p : Nat} : fcS c w p (130 + 6 * p + 4) = c 1 := by
  have e : ∀ v, upd c (130 + 6 * p) v (130 + 6 * p + 1) = c (130 + 6 * p + 1) := fun v => upd_nn (by omega)
  unfold fcS
  simp only [e]
  by_cases c9 : 300 ≤ c (130 + 6 * p + 1)
  · simp only [if_pos c9]
    simp (disch := omega) only [upd_nn, upd_ss]
    by_cases c8 : c (130 + 6 * p + 2) + w < c 7
    · simp only [if_pos c8]
      simp (disch := omega) only [upd_nn, upd_ss]
    · simp only [if_neg c8]
      simp (disch := omega) only [upd_nn, upd_ss]
  · simp only [if_neg c9]
    simp (disch := omega) only [upd_nn, upd_ss]
    by_cases c8 : c (130 + 6 * p + 2) + w < c 7
    · simp only [if_pos c8]
      simp (disch := omega) only [upd_nn, upd_ss]
    · simp only [if_neg c8]
      simp (disch := omega) only [upd_nn, upd_ss]
theorem fcS_5 {c : Nat → Int32} {w : Int32} {p : Nat} : fcS c w p (130 + 6 * p + 5) = if c (130 + 6 * p + 2) + w < c 7 then c (130 + 6 * p + 5) else 1 := by
  have e : ∀ v, upd c (130 + 6 * p) v (130 + 6 * p + 1) = c (130 + 6 * p + 1) := fun v => upd_nn (by omega)
  unfold fcS
  simp only [e]
  by_cases c9 : 300 ≤ c (130 + 6 * p + 1)
  · simp only [if_pos c9]
    simp (disch := omega) only [upd_nn, upd_ss]
    by_cases c8 : c (130 + 6 * p + 2) + w < c 7
    · simp only [if_pos c8]
      simp (disch := omega) only [upd_nn, upd_ss]
    · simp only [if_neg c8]
      simp (disch := omega) only [upd_nn, upd_ss]
  · simp only [if_neg c9]
    simp (disch := omega) only [upd_nn, upd_ss]
    by_cases c8 : c (130 + 6 * p + 2) + w < c 7
    · simp only [if_pos c8]
      simp (disch := omega) only [upd_nn, upd_ss]
    · simp only [if_neg c8]
      simp (disch := omega) only [upd_nn, upd_ss]
def crA (a : Nat → Int32) (x : Int32) (q : Nat) : Bool := crs (fun v => a (10 + v)) q x
theorem fcA_y {a : Nat → Int32} {x w : Int32} {q : Nat} (hc : crA a x q = true) : ∀ m, m < 40 → q < m → ∀ i, i < 6 → fcA a x w m (130 + 6 * (q + 1) + i) = fcS a w (q + 1) (130 + 6 * (q + 1) + i)
  | 0, _, h => absurd h (Nat.not_lt_zero _)
  | m + 1, hm, h => by
    intro i hi
    by_cases c : q = m
    · subst c
      have o := fun j (hj : ∀ p, p < q → ∀ i, i < 6 → j ≠ 130 + 6 * (p + 1) + i) => fcA_o (a := a) (x := x) (w := w) (j := j) q hj
      unfold crA at hc
      rw [fcA, if_pos hc]
      have k0 := o 0 (fun p _ i _ => by omega)
      have k1 := o 1 (fun p _ i _ => by omega)
      have k7 := o 7 (fun p _ i _ => by omega)
      have k9 := o (90 + (q + 1)) (fun p _ i _ => by omega)
      have kk : ∀ i, i < 6 → fcA a x w q (130 + 6 * (q + 1) + i) = a (130 + 6 * (q + 1) + i) := fun i hi => o _ (fun p hp i _ => by omega)
      rcases (show i = 0 ∨ i = 1 ∨ i = 2 ∨ i = 3 ∨ i = 4 ∨ i = 5 by omega) with rfl | rfl | rfl | rfl | rfl | rfl
      · show fcS (fcA a x w q) w (q + 1) (130 + 6 * (q + 1)) = fcS a w (q + 1) (130 + 6 * (q + 1))
        rw [fcS_0, fcS_0, k9]
      · rw [fcS_1, fcS_1, kk 1 (by omega)]
      · rw [fcS_2, fcS_2, kk 2 (by omega)]
      · rw [fcS_3, fcS_3, k0]
      · rw [fcS_4, fcS_4, k1]
      · rw [fcS_5, fcS_5, kk 2 (by omega), kk 5 (by omega), k7]
    · have ih := fcA_y (a := a) (x := x) (w := w) hc m (by omega) (by omega) i hi
      rw [fcA]
      split
      · rw [fcS_o (fun i9 _ => by omega)]; exact ih
      · exact ih
theorem fcA_n {a : Nat → Int32} {x w : Int32} {q : Nat} (hc : crA a x q = false) : ∀ m, m < 40 → ∀ i, i < 6 → fcA a x w m (130 + 6 * (q + 1) + i) = a (130 + 6 * (q + 1) + i)
  | 0, _ => fun _ _ => rfl
  | m + 1, hm => by
    intro i hi
    have ih := fcA_n (a := a) (x := x) (w := w) hc m (by omega) i hi
    rw [fcA]
    by_cases c : q = m
    · subst c
      unfold crA at hc
      rw [if_neg (by rw [hc]; decide)]
      exact ih
    · split
      · rw [fcS_o (fun i9 _ => by omega)]; exact ih
      · exact ih
/-- a fold's cells -/
theorem lyA_g {n : Nat} {c : Nat → Int32} {x : Int32} {right : Bool} {l : Nat → Int32} {u : Nat} : ∀ m, u < m → lyA n c x right l m u = lyF n c x right u
  | 0, h => absurd h (Nat.not_lt_zero _)
  | m + 1, h => by
    rw [lyA]
    by_cases e : u = m
    · subst e; rw [upd_ss]
    · rw [upd_nn e]; exact lyA_g m (by omega)
theorem mvA_o {c l : Nat → Int32} {x : Int32} {right : Bool} {j : Nat} : ∀ m, (∀ u, u < m → j ≠ 10 + u ∧ j ≠ 50 + u ∧ j ≠ 90 + u) → mvA c l x right m j = c j
  | 0, _ => rfl
  | m + 1, h => by
    obtain ⟨h1, h2, h3⟩ := h m (by omega)
    have ih := mvA_o (c := c) (l := l) (x := x) (right := right) (j := j) m (fun u hu9 => h u (by omega))
    unfold mvA
    dsimp only
    split
    · rw [upd_nn h3, upd_nn h1, upd_nn h2]; exact ih
    · rw [upd_nn h2]; exact ih
theorem mvA_c {c l : Nat → Int32} {x : Int32} {right : Bool} {u : Nat} : ∀ m, m ≤ 40 → u < m → mvA c l x right m (10 + u) = (if mvs (c (10 + u)) x right = true then 2 * x - 1 - c (10 + u) else c (10 + u)) ∧ mvA c l x right m (50 + u) = l u ∧ mvA c l x right m (90 + u) = (if mvs (c (10 + u)) x right = true then 1 - c (90 + u) else c (90 + u))
  | 0, _, h => absurd h (Nat.not_lt_zero _)
  | m + 1, hm, h => by
    unfold mvA
    dsimp only
    by_cases e : u = m
    · subst e
      have o := fun j (hj : ∀ v, v < u → j ≠ 10 + v ∧ j ≠ 50 + v ∧ j ≠ 90 + v) => mvA_o (c := c) (l := l) (x := x) (right := right) (j := j) u hj
      have p1 : upd (mvA c l x right u) (50 + u) (l u) (10 + u) = c (10 + u) := by rw [upd_nn (by omega)]; exact o _ (fun v _ => by omega)
      have p2 : upd (mvA c l x right u) (50 + u) (l u) (90 + u) = c (90 + u) := by rw [upd_nn (by omega)]; exact o _ (fun v _ => by omega)
      rw [p1]
      by_cases k : mvs (c (10 + u)) x right = true
      · simp only [if_pos k]
        refine ⟨?_, ?_, ?_⟩
        · rw [upd_nn (by omega), upd_ss]
        · rw [upd_nn (by omega), upd_nn (by omega), upd_ss]
        · rw [upd_ss, upd_nn (by omega), p2]
      · simp only [if_neg k]
        exact ⟨p1, upd_ss, p2⟩
    · obtain ⟨i1, i2, i3⟩ := mvA_c (c := c) (l := l) (x := x) (right := right) (u := u) m (by omega) (by omega)
      split
      · refine ⟨?_, ?_, ?_⟩
        · rw [upd_nn (by omega), upd_nn (by omega), upd_nn (by omega)]; exact i1
        · rw [upd_nn (by omega), upd_nn (by omega), upd_nn (by omega)]; exact i2
        · rw [upd_nn (by omega), upd_nn (by omega), upd_nn (by omega)]; exact i3
      · refine ⟨?_, ?_, ?_⟩
        · rw [upd_nn (by omega)]; exact i1
        · rw [upd_nn (by omega)]; exact i2
        · rw [upd_nn (by omega)]; exact i3
