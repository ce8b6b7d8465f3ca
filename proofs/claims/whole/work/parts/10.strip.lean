/-! Strip -/
/-- how many of the first n places of f are x -/
def cnt (f : Nat → Int32) (x : Int32) : Nat → Nat
  | 0 => 0
  | n + 1 => cnt f x n + (if f n = x then 1 else 0)
theorem cnt_le (f : Nat → Int32) (x : Int32) : ∀ n, cnt f x n ≤ n
  | 0 => Nat.le_refl 0
  | n + 1 => by
    have := cnt_le f x n
    unfold cnt
    split <;> omega
/-- the least, the greatest of the first n -/
def mnF (f : Nat → Int32) : Nat → Int32
  | 0 => f 0
  | n + 1 => if mnF f n ≤ f n then mnF f n else f n
def mxF (f : Nat → Int32) : Nat → Int32
  | 0 => f 0
  | n + 1 => if f n ≤ mxF f n then mxF f n else f n
theorem mnF_1 (f : Nat → Int32) : mnF f 1 = f 0 := by simp [mnF]
theorem mxF_1 (f : Nat → Int32) : mxF f 1 = f 0 := by simp [mxF]
/-- the first place below n at which p holds, else n -/
def fsT (p : Nat → Bool) : Nat → Nat → Nat
  | 0, u => u
  | r + 1, u => if p u then u else fsT p r (u + 1)
theorem cpN_0 {α : Type} (f g : Nat → α) : cpN f g 0 = g := by funext j; simp [cpN]
theorem cpN_s (f g : Nat → Int32) (u : Nat) : upd (cpN f g u) u (f u) = cpN f g (u + 1) := by
  funext j
  by_cases e : j = u
  · subst e; simp [upd, cpN]
  · by_cases h : j < u
    · simp [upd, cpN, e, h, Nat.lt_succ_of_lt h]
    · simp [upd, cpN, e, h, show ¬ j < u + 1 by omega]
theorem cpN_sB (f g : Nat → Bool) (u : Nat) : updB (cpN f g u) u (f u) = cpN f g (u + 1) := by
  funext j
  by_cases e : j = u
  · subst e; simp [updB, cpN]
  · by_cases h : j < u
    · simp [updB, cpN, e, h, Nat.lt_succ_of_lt h]
    · simp [updB, cpN, e, h, show ¬ j < u + 1 by omega]
theorem cpN_at {α : Type} {f g : Nat → α} {k j : Nat} (h : j < k) : cpN f g k j = f j := by simp [cpN, h]
theorem cpN_ge {α : Type} {f g : Nat → α} {k j : Nat} (h : k ≤ j) : cpN f g k j = g j := by simp [cpN, Nat.not_lt.mpr h]
/-- the object of a strip at the id S: place S + 1, layer S + 2, up S + 3, heights S + 4 -/
def oStrip (S : Nat) (size tallied : Int32) : mE := oB 7 [.ref (S + 1), .ref (S + 2), .ref (S + 3), .int size, .ref (S + 4), .int tallied]
theorem k_countIn {G : mG} {h : mH} {S N k : Nat} {tl x : Int32} {f : Nat → Int32} (d : Nat) (hS : h S = oStrip S (nI k) tl) (hP : h (S + 1) = aI N f) (hk : k ≤ N) (hN : N < 2 ^ 31) : EV G m_X7_countIn d 0 0 [.ref S, .int x] h (RE (some (.int (nI (cnt f x k)))) h) := by
  refine ev_2_2 rfl rfl (by decide +kernel) (by decide +kernel) ?_
  refine z_iconst (n := 1) (q := 0) (v := 0) (by decide +kernel) ?_
  refine z_ist2 (n := 2) (by decide +kernel) rfl ?_
  refine z_iconst (n := 3) (q := 0) (v := 0) (by decide +kernel) ?_
  refine z_ist3 (n := 4) (by decide +kernel) rfl ?_
  refine loopZ (k := k) (fun u => Z G m_X7_countIn d 0 0 0 0 4 [some (.ref S), some (.int x), some (.int (nI (cnt f x u))), some (.int (nI u))] [] h (RE (some (.int (nI (cnt f x k)))) h)) ?_ ?_ 0 (Nat.zero_le k)
  · refine z_ild3 (n := 5) (by decide +kernel) ?_
    refine z_ald0 (n := 6) (by decide +kernel) ?_
    refine z_getf (n := 9) (idx := 38) (by decide +kernel) fl_X7_38 (by assumption) (by rfl) ?_
    refine z_icmp_ge_t (n := 12) (off := 22) (tgt := 31) (by decide +kernel) (nI_le (Nat.le_refl k) (by omega)) ?_
    refine z_ild2 (n := 32) (by decide +kernel) ?_
    refine z_iret (by decide +kernel) rfl (Nat.le_refl _) ?_
    exact ⟨rfl, rfl⟩
  · intro u ul ih
    refine z_ild3 (n := 5) (by decide +kernel) ?_
    refine z_ald0 (n := 6) (by decide +kernel) ?_
    refine z_getf (n := 9) (idx := 38) (by decide +kernel) fl_X7_38 (by assumption) (by rfl) ?_
    refine z_icmp_ge_f (n := 12) (off := 22) (tgt := 31) (by decide +kernel) (nI_ge ul (by omega)) ?_
    refine z_ald0 (n := 13) (by decide +kernel) ?_
    refine z_getf (n := 16) (idx := 9) (by decide +kernel) fl_X7_9 (by assumption) (by rfl) ?_
    refine z_ild3 (n := 17) (by decide +kernel) ?_
    refine z_iald (n := 18) (by decide +kernel) (by assumption) (by first | assumption | exact ix_nI (by omega) (by omega)) ?_
    refine z_ild1 (n := 19) (by decide +kernel) ?_
    refine z_icmp_ne (n := 22) (off := 6) (tgt := 25) (by decide +kernel) (fun c19 => ?_) (fun c19 => ?_)
    · refine z_inc3 (n := 28) (q := 1) (by decide +kernel) rfl (nI_1 _) ?_
      refine z_goto (n := 31) (off := -24) (tgt := 4) (by decide +kernel) ?_
      simpa [cnt, c19] using ih
    · refine z_inc2 (n := 25) (q := 1) (by decide +kernel) rfl (nI_1 _) ?_
      refine z_inc3 (n := 28) (q := 1) (by decide +kernel) rfl (nI_1 _) ?_
      refine z_goto (n := 31) (off := -24) (tgt := 4) (by decide +kernel) ?_
      simpa [cnt, c19] using ih
theorem k_cellAt {G : mG} {h : mH} {S N k : Nat} {tl x y : Int32} {f g : Nat → Int32} (d : Nat) (hS : h S = oStrip S (nI k) tl) (hP : h (S + 1) = aI N f) (hL : h (S + 2) = aI N g) (hk : k ≤ N) (hN : N < 2 ^ 31) : EV G m_X7_cellAt d 0 0 [.ref S, .int x, .int y] h (RE (some (.int (if fsT (fun u => decide (f u = x) && decide (g u = y)) k 0 < k then nI (fsT (fun u => decide (f u = x) && decide (g u = y)) k 0) else -1))) h) := by
  refine ev_3_1 rfl rfl rfl (by decide +kernel) (by decide +kernel) ?_
  refine z_iconst (n := 1) (q := 0) (v := 0) (by decide +kernel) ?_
  refine z_ist3 (n := 2) (by decide +kernel) rfl ?_
  have key : ∀ u, u ≤ k → Z G m_X7_cellAt d 0 0 0 0 2 [some (.ref S), some (.int x), some (.int y), some (.int (nI u))] [] h (RE (some (.int (if fsT (fun u => decide (f u = x) && decide (g u = y)) (k - u) u < k then nI (fsT (fun u => decide (f u = x) && decide (g u = y)) (k - u) u) else -1))) h) := by
    refine loopZ (k := k) (fun u => Z G m_X7_cellAt d 0 0 0 0 2 [some (.ref S), some (.int x), some (.int y), some (.int (nI u))] [] h (RE (some (.int (if fsT (fun u => decide (f u = x) && decide (g u = y)) (k - u) u < k then nI (fsT (fun u => decide (f u = x) && decide (g u = y)) (k - u) u) else -1))) h)) ?_ ?_
    · refine z_ild3 (n := 3) (by decide +kernel) ?_
      refine z_ald0 (n := 4) (by decide +kernel) ?_
      refine z_getf (n := 7) (idx := 38) (by decide +kernel) fl_X7_38 (by assumption) (by rfl) ?_
      refine z_icmp_ge_t (n := 10) (off := 31) (tgt := 38) (by decide +kernel) (nI_le (Nat.le_refl k) (by omega)) ?_
      refine z_iconst (n := 39) (q := -1) (v := -1) (by decide +kernel) ?_
      refine z_iret (by decide +kernel) rfl (Nat.le_refl _) ?_
      exact ⟨by simp [fsT], rfl⟩
    · intro u ul ih
      have e : k - u = (k - (u + 1)) + 1 := by omega
      rw [e]
      refine z_ild3 (n := 3) (by decide +kernel) ?_
      refine z_ald0 (n := 4) (by decide +kernel) ?_
      refine z_getf (n := 7) (idx := 38) (by decide +kernel) fl_X7_38 (by assumption) (by rfl) ?_
      refine z_icmp_ge_f (n := 10) (off := 31) (tgt := 38) (by decide +kernel) (nI_ge ul (by omega)) ?_
      refine z_ald0 (n := 11) (by decide +kernel) ?_
      refine z_getf (n := 14) (idx := 9) (by decide +kernel) fl_X7_9 (by assumption) (by rfl) ?_
      refine z_ild3 (n := 15) (by decide +kernel) ?_
      refine z_iald (n := 16) (by decide +kernel) (by assumption) (by first | assumption | exact ix_nI (by omega) (by omega)) ?_
      refine z_ild1 (n := 17) (by decide +kernel) ?_
      refine z_icmp_ne (n := 20) (off := 15) (tgt := 32) (by decide +kernel) (fun c17 => ?_) (fun c17 => ?_)
      · refine z_inc3 (n := 35) (q := 1) (by decide +kernel) rfl (nI_1 _) ?_
        refine z_goto (n := 38) (off := -33) (tgt := 2) (by decide +kernel) ?_
        simpa [fsT, c17] using ih
      · refine z_ald0 (n := 21) (by decide +kernel) ?_
        refine z_getf (n := 24) (idx := 15) (by decide +kernel) fl_X7_15 (by assumption) (by rfl) ?_
        refine z_ild3 (n := 25) (by decide +kernel) ?_
        refine z_iald (n := 26) (by decide +kernel) (by assumption) (by first | assumption | exact ix_nI (by omega) (by omega)) ?_
        refine z_ild2 (n := 27) (by decide +kernel) ?_
        refine z_icmp_ne (n := 30) (off := 5) (tgt := 32) (by decide +kernel) (fun c27 => ?_) (fun c27 => ?_)
        · refine z_inc3 (n := 35) (q := 1) (by decide +kernel) rfl (nI_1 _) ?_
          refine z_goto (n := 38) (off := -33) (tgt := 2) (by decide +kernel) ?_
          simpa [fsT, c17, c27] using ih
        · refine z_ild3 (n := 31) (by decide +kernel) ?_
          refine z_iret (by decide +kernel) rfl (Nat.le_refl _) ?_
          exact ⟨by simp [fsT, c17, c27, ul], rfl⟩
  exact key 0 (Nat.zero_le k)
theorem k_isFolded {G : mG} {h : mH} {S N p : Nat} {sz tl : Int32} {f : Nat → Int32} (d : Nat) (hS : h S = oStrip S sz tl) (hP : h (S + 1) = aI N f) (hp : p + 1 < N) (hN : N < 2 ^ 31) : EV G m_X7_isFolded d 0 0 [.ref S, .int (nI (p + 1))] h (RE (some (.int (bI (decide (f p = f (p + 1)))))) h) := by
  refine ev_2_0 rfl rfl (by decide +kernel) (by decide +kernel) ?_
  refine z_ald0 (n := 1) (by decide +kernel) ?_
  refine z_getf (n := 4) (idx := 9) (by decide +kernel) fl_X7_9 (by assumption) (by rfl) ?_
  refine z_ild1 (n := 5) (by decide +kernel) ?_
  refine z_iconst (n := 6) (q := 1) (v := 1) (by decide +kernel) ?_
  refine z_isub (n := 7) (by decide +kernel) ?_
  refine z_top (nI_pred p) ?_
  refine z_iald (n := 8) (by decide +kernel) (by assumption) (by first | assumption | exact ix_nI (by omega) (by omega)) ?_
  refine z_ald0 (n := 9) (by decide +kernel) ?_
  refine z_getf (n := 12) (idx := 9) (by decide +kernel) fl_X7_9 (by assumption) (by rfl) ?_
  refine z_ild1 (n := 13) (by decide +kernel) ?_
  refine z_iald (n := 14) (by decide +kernel) (by assumption) (by first | assumption | exact ix_nI (by omega) (by omega)) ?_
  refine z_icmp_ne (n := 17) (off := 7) (tgt := 21) (by decide +kernel) (fun c14 => ?_) (fun c14 => ?_)
  · refine z_iconst (n := 22) (q := 0) (v := 0) (by decide +kernel) ?_
    first | refine z_zr1 (by decide +kernel) rfl (Nat.le_refl _) ?_ | refine z_zr0 (by decide +kernel) rfl (Nat.le_refl _) ?_ | refine z_zrb (by decide +kernel) rfl (Nat.le_refl _) ?_
    exact ⟨by simp [c14], rfl⟩
  · refine z_iconst (n := 18) (q := 1) (v := 1) (by decide +kernel) ?_
    refine z_goto (n := 21) (off := 4) (tgt := 22) (by decide +kernel) ?_
    first | refine z_zr1 (by decide +kernel) rfl (Nat.le_refl _) ?_ | refine z_zr0 (by decide +kernel) rfl (Nat.le_refl _) ?_ | refine z_zrb (by decide +kernel) rfl (Nat.le_refl _) ?_
    exact ⟨by simp [c14], rfl⟩
theorem k_lowestPlace {G : mG} {h : mH} {S N k : Nat} {tl : Int32} {f : Nat → Int32} (d : Nat) (hS : h S = oStrip S (nI k) tl) (hP : h (S + 1) = aI N f) (h1 : 1 ≤ k) (hk : k ≤ N) (hN : N < 2 ^ 31) : EV G m_X7_lowestPlace d 0 0 [.ref S] h (RE (some (.int (mnF f k))) h) := by
  refine ev_1_2 rfl (by decide +kernel) (by decide +kernel) ?_
  refine z_ald0 (n := 1) (by decide +kernel) ?_
  refine z_getf (n := 4) (idx := 9) (by decide +kernel) fl_X7_9 (by assumption) (by rfl) ?_
  refine z_iconst (n := 5) (q := 0) (v := 0) (by decide +kernel) ?_
  refine z_iald (n := 6) (by decide +kernel) (by assumption) (by exact ix_of (j := 0) rfl (by omega) (by omega)) ?_
  refine z_ist1 (n := 7) (by decide +kernel) rfl ?_
  refine z_iconst (n := 8) (q := 1) (v := 1) (by decide +kernel) ?_
  refine z_ist2 (n := 9) (by decide +kernel) rfl ?_
  have key := loopZ (k := k) (fun u => Z G m_X7_lowestPlace d 0 0 0 0 9 [some (.ref S), some (.int (mnF f u)), some (.int (nI u))] [] h (RE (some (.int (mnF f k))) h)) ?_ ?_ 1 h1
  · rw [mnF_1] at key
    exact key
  · refine z_ild2 (n := 10) (by decide +kernel) ?_
    refine z_ald0 (n := 11) (by decide +kernel) ?_
    refine z_getf (n := 14) (idx := 38) (by decide +kernel) fl_X7_38 (by assumption) (by rfl) ?_
    refine z_icmp_ge_t (n := 17) (off := 26) (tgt := 40) (by decide +kernel) (nI_le (Nat.le_refl k) (by omega)) ?_
    refine z_ild1 (n := 41) (by decide +kernel) ?_
    refine z_iret (by decide +kernel) rfl (Nat.le_refl _) ?_
    exact ⟨rfl, rfl⟩
  · intro u ul ih
    refine z_ild2 (n := 10) (by decide +kernel) ?_
    refine z_ald0 (n := 11) (by decide +kernel) ?_
    refine z_getf (n := 14) (idx := 38) (by decide +kernel) fl_X7_38 (by assumption) (by rfl) ?_
    refine z_icmp_ge_f (n := 17) (off := 26) (tgt := 40) (by decide +kernel) (nI_ge ul (by omega)) ?_
    refine z_ald0 (n := 18) (by decide +kernel) ?_
    refine z_getf (n := 21) (idx := 9) (by decide +kernel) fl_X7_9 (by assumption) (by rfl) ?_
    refine z_ild2 (n := 22) (by decide +kernel) ?_
    refine z_iald (n := 23) (by decide +kernel) (by assumption) (by first | assumption | exact ix_nI (by omega) (by omega)) ?_
    refine z_ild1 (n := 24) (by decide +kernel) ?_
    refine z_icmp_ge (n := 27) (off := 10) (tgt := 34) (by decide +kernel) (fun c24 => ?_) (fun c24 => ?_)
    · refine z_inc2 (n := 37) (q := 1) (by decide +kernel) rfl (nI_1 _) ?_
      refine z_goto (n := 40) (off := -28) (tgt := 9) (by decide +kernel) ?_
      simpa only [mnF, c24, if_true, if_false] using ih
    · refine z_ald0 (n := 28) (by decide +kernel) ?_
      refine z_getf (n := 31) (idx := 9) (by decide +kernel) fl_X7_9 (by assumption) (by rfl) ?_
      refine z_ild2 (n := 32) (by decide +kernel) ?_
      refine z_iald (n := 33) (by decide +kernel) (by assumption) (by first | assumption | exact ix_nI (by omega) (by omega)) ?_
      refine z_ist1 (n := 34) (by decide +kernel) rfl ?_
      refine z_inc2 (n := 37) (q := 1) (by decide +kernel) rfl (nI_1 _) ?_
      refine z_goto (n := 40) (off := -28) (tgt := 9) (by decide +kernel) ?_
      simpa only [mnF, c24, if_true, if_false] using ih
theorem k_highestPlace {G : mG} {h : mH} {S N k : Nat} {tl : Int32} {f : Nat → Int32} (d : Nat) (hS : h S = oStrip S (nI k) tl) (hP : h (S + 1) = aI N f) (h1 : 1 ≤ k) (hk : k ≤ N) (hN : N < 2 ^ 31) : EV G m_X7_highestPlace d 0 0 [.ref S] h (RE (some (.int (mxF f k))) h) := by
  refine ev_1_2 rfl (by decide +kernel) (by decide +kernel) ?_
  refine z_ald0 (n := 1) (by decide +kernel) ?_
  refine z_getf (n := 4) (idx := 9) (by decide +kernel) fl_X7_9 (by assumption) (by rfl) ?_
  refine z_iconst (n := 5) (q := 0) (v := 0) (by decide +kernel) ?_
  refine z_iald (n := 6) (by decide +kernel) (by assumption) (by exact ix_of (j := 0) rfl (by omega) (by omega)) ?_
  refine z_ist1 (n := 7) (by decide +kernel) rfl ?_
  refine z_iconst (n := 8) (q := 1) (v := 1) (by decide +kernel) ?_
  refine z_ist2 (n := 9) (by decide +kernel) rfl ?_
  have key := loopZ (k := k) (fun u => Z G m_X7_highestPlace d 0 0 0 0 9 [some (.ref S), some (.int (mxF f u)), some (.int (nI u))] [] h (RE (some (.int (mxF f k))) h)) ?_ ?_ 1 h1
  · rw [mxF_1] at key
    exact key
  · refine z_ild2 (n := 10) (by decide +kernel) ?_
    refine z_ald0 (n := 11) (by decide +kernel) ?_
    refine z_getf (n := 14) (idx := 38) (by decide +kernel) fl_X7_38 (by assumption) (by rfl) ?_
    refine z_icmp_ge_t (n := 17) (off := 26) (tgt := 40) (by decide +kernel) (nI_le (Nat.le_refl k) (by omega)) ?_
    refine z_ild1 (n := 41) (by decide +kernel) ?_
    refine z_iret (by decide +kernel) rfl (Nat.le_refl _) ?_
    exact ⟨rfl, rfl⟩
  · intro u ul ih
    refine z_ild2 (n := 10) (by decide +kernel) ?_
    refine z_ald0 (n := 11) (by decide +kernel) ?_
    refine z_getf (n := 14) (idx := 38) (by decide +kernel) fl_X7_38 (by assumption) (by rfl) ?_
    refine z_icmp_ge_f (n := 17) (off := 26) (tgt := 40) (by decide +kernel) (nI_ge ul (by omega)) ?_
    refine z_ald0 (n := 18) (by decide +kernel) ?_
    refine z_getf (n := 21) (idx := 9) (by decide +kernel) fl_X7_9 (by assumption) (by rfl) ?_
    refine z_ild2 (n := 22) (by decide +kernel) ?_
    refine z_iald (n := 23) (by decide +kernel) (by assumption) (by first | assumption | exact ix_nI (by omega) (by omega)) ?_
    refine z_ild1 (n := 24) (by decide +kernel) ?_
    refine z_icmp_le (n := 27) (off := 10) (tgt := 34) (by decide +kernel) (fun c24 => ?_) (fun c24 => ?_)
    · refine z_inc2 (n := 37) (q := 1) (by decide +kernel) rfl (nI_1 _) ?_
      refine z_goto (n := 40) (off := -28) (tgt := 9) (by decide +kernel) ?_
      simpa only [mxF, c24, if_true, if_false] using ih
    · refine z_ald0 (n := 28) (by decide +kernel) ?_
      refine z_getf (n := 31) (idx := 9) (by decide +kernel) fl_X7_9 (by assumption) (by rfl) ?_
      refine z_ild2 (n := 32) (by decide +kernel) ?_
      refine z_iald (n := 33) (by decide +kernel) (by assumption) (by first | assumption | exact ix_nI (by omega) (by omega)) ?_
      refine z_ist1 (n := 34) (by decide +kernel) rfl ?_
      refine z_inc2 (n := 37) (q := 1) (by decide +kernel) rfl (nI_1 _) ?_
      refine z_goto (n := 40) (off := -28) (tgt := 9) (by decide +kernel) ?_
      simpa only [mxF, c24, if_true, if_false] using ih
theorem k_hasBothSides {G : mG} {h : mH} {S N k : Nat} {tl x : Int32} {f : Nat → Int32} (d : Nat) (hd : 1 ≤ d) (hS : h S = oStrip S (nI k) tl) (hP : h (S + 1) = aI N f) (h1 : 1 ≤ k) (hk : k ≤ N) (hN : N < 2 ^ 31) : EV G m_X7_hasBothSides d 0 0 [.ref S, .int x] h (RE (some (.int (bI (!decide (x ≤ mnF f k) && !decide (mxF f k < x))))) h) := by
  refine ev_2_0 rfl rfl (by decide +kernel) (by decide +kernel) ?_
  refine z_ild1 (n := 1) (by decide +kernel) ?_
  refine z_ald0 (n := 2) (by decide +kernel) ?_
  refine z_v0 (n := 5) (idx := 48) (by decide +kernel) ml_X7_48 (by assumption) rfl (Nat.le_of_ble_eq_true rfl) (by omega) ⟨Nat.le_refl _, Nat.le_refl _⟩ (k_lowestPlace 0 hS hP h1 hk hN) ?_
  refine z_icmp_le (n := 8) (off := 15) (tgt := 20) (by decide +kernel) (fun c5 => ?_) (fun c5 => ?_)
  · refine z_iconst (n := 21) (q := 0) (v := 0) (by decide +kernel) ?_
    first | refine z_zr1 (by decide +kernel) rfl (Nat.le_refl _) ?_ | refine z_zr0 (by decide +kernel) rfl (Nat.le_refl _) ?_ | refine z_zrb (by decide +kernel) rfl (Nat.le_refl _) ?_
    exact ⟨by simp only [c5, decide_true, decide_false, Bool.not_true, Bool.not_false, Bool.and_true, Bool.true_and, Bool.false_and], rfl⟩
  · refine z_ild1 (n := 9) (by decide +kernel) ?_
    refine z_ald0 (n := 10) (by decide +kernel) ?_
    refine z_v0 (n := 13) (idx := 52) (by decide +kernel) ml_X7_52 (by assumption) rfl (Nat.le_of_ble_eq_true rfl) (by omega) ⟨Nat.le_refl _, Nat.le_refl _⟩ (k_highestPlace 0 hS hP h1 hk hN) ?_
    refine z_icmp_gt (n := 16) (off := 7) (tgt := 20) (by decide +kernel) (fun c13 => ?_) (fun c13 => ?_)
    · refine z_iconst (n := 21) (q := 0) (v := 0) (by decide +kernel) ?_
      first | refine z_zr1 (by decide +kernel) rfl (Nat.le_refl _) ?_ | refine z_zr0 (by decide +kernel) rfl (Nat.le_refl _) ?_ | refine z_zrb (by decide +kernel) rfl (Nat.le_refl _) ?_
      exact ⟨by simp only [c5, c13, decide_true, decide_false, Bool.not_true, Bool.not_false, Bool.and_true, Bool.true_and, Bool.false_and], rfl⟩
    · refine z_iconst (n := 17) (q := 1) (v := 1) (by decide +kernel) ?_
      refine z_goto (n := 20) (off := 4) (tgt := 21) (by decide +kernel) ?_
      first | refine z_zr1 (by decide +kernel) rfl (Nat.le_refl _) ?_ | refine z_zr0 (by decide +kernel) rfl (Nat.le_refl _) ?_ | refine z_zrb (by decide +kernel) rfl (Nat.le_refl _) ?_
      exact ⟨by simp only [c5, c13, decide_true, decide_false, Bool.not_true, Bool.not_false, Bool.and_true, Bool.true_and, Bool.false_and], rfl⟩
/-- the point between p and p + 1 lies along the line -/
def crs (f : Nat → Int32) (p : Nat) (x : Int32) : Bool := decide (f p = x - 1) && decide (f (p + 1) = x) || decide (f p = x) && decide (f (p + 1) = x - 1)
theorem k_crosses {G : mG} {h : mH} {S N p : Nat} {sz tl x : Int32} {f : Nat → Int32} (d : Nat) (hS : h S = oStrip S sz tl) (hP : h (S + 1) = aI N f) (hp : p + 1 < N) (hN : N < 2 ^ 31) : EV G m_X7_crosses d 0 0 [.ref S, .int (nI (p + 1)), .int x] h (RE (some (.int (bI (crs f p x)))) h) := by
  refine ev_3_2 rfl rfl rfl (by decide +kernel) (by decide +kernel) ?_
  refine z_ald0 (n := 1) (by decide +kernel) ?_
  refine z_getf (n := 4) (idx := 9) (by decide +kernel) fl_X7_9 (by assumption) (by rfl) ?_
  refine z_ild1 (n := 5) (by decide +kernel) ?_
  refine z_iconst (n := 6) (q := 1) (v := 1) (by decide +kernel) ?_
  refine z_isub (n := 7) (by decide +kernel) ?_
  refine z_top (nI_pred p) ?_
  refine z_iald (n := 8) (by decide +kernel) (by assumption) (by first | assumption | exact ix_nI (by omega) (by omega)) ?_
  refine z_ist3 (n := 9) (by decide +kernel) rfl ?_
  refine z_ald0 (n := 10) (by decide +kernel) ?_
  refine z_getf (n := 13) (idx := 9) (by decide +kernel) fl_X7_9 (by assumption) (by rfl) ?_
  refine z_ild1 (n := 14) (by decide +kernel) ?_
  refine z_iald (n := 15) (by decide +kernel) (by assumption) (by first | assumption | exact ix_nI (by omega) (by omega)) ?_
  refine z_ist4 (n := 17) (by decide +kernel) rfl ?_
  refine z_ild3 (n := 18) (by decide +kernel) ?_
  refine z_ild2 (n := 19) (by decide +kernel) ?_
  refine z_iconst (n := 20) (q := 1) (v := 1) (by decide +kernel) ?_
  refine z_isub (n := 21) (by decide +kernel) ?_
  refine z_icmp_ne (n := 24) (off := 9) (tgt := 30) (by decide +kernel) (fun c21 => ?_) (fun c21 => ?_)
  · refine z_ild3 (n := 31) (by decide +kernel) ?_
    refine z_ild2 (n := 32) (by decide +kernel) ?_
    refine z_icmp_ne (n := 35) (off := 15) (tgt := 47) (by decide +kernel) (fun c32 => ?_) (fun c32 => ?_)
    · refine z_iconst (n := 48) (q := 0) (v := 0) (by decide +kernel) ?_
      first | refine z_zr1 (by decide +kernel) rfl (Nat.le_refl _) ?_ | refine z_zr0 (by decide +kernel) rfl (Nat.le_refl _) ?_ | refine z_zrb (by decide +kernel) rfl (Nat.le_refl _) ?_
      exact ⟨by simp only [crs, eq_false c21, eq_false c32, decide_true, decide_false, Bool.and_true, Bool.and_false, Bool.true_and, Bool.false_and, Bool.or_true, Bool.or_false, Bool.true_or, Bool.false_or], rfl⟩
    · refine z_ild4 (n := 37) (by decide +kernel) ?_
      refine z_ild2 (n := 38) (by decide +kernel) ?_
      refine z_iconst (n := 39) (q := 1) (v := 1) (by decide +kernel) ?_
      refine z_isub (n := 40) (by decide +kernel) ?_
      refine z_icmp_ne (n := 43) (off := 7) (tgt := 47) (by decide +kernel) (fun c40 => ?_) (fun c40 => ?_)
      · refine z_iconst (n := 48) (q := 0) (v := 0) (by decide +kernel) ?_
        first | refine z_zr1 (by decide +kernel) rfl (Nat.le_refl _) ?_ | refine z_zr0 (by decide +kernel) rfl (Nat.le_refl _) ?_ | refine z_zrb (by decide +kernel) rfl (Nat.le_refl _) ?_
        exact ⟨by simp only [crs, eq_false c21, eq_true c32, eq_false c40, decide_true, decide_false, Bool.and_true, Bool.and_false, Bool.true_and, Bool.false_and, Bool.or_true, Bool.or_false, Bool.true_or, Bool.false_or], rfl⟩
      · refine z_iconst (n := 44) (q := 1) (v := 1) (by decide +kernel) ?_
        refine z_goto (n := 47) (off := 4) (tgt := 48) (by decide +kernel) ?_
        first | refine z_zr1 (by decide +kernel) rfl (Nat.le_refl _) ?_ | refine z_zr0 (by decide +kernel) rfl (Nat.le_refl _) ?_ | refine z_zrb (by decide +kernel) rfl (Nat.le_refl _) ?_
        exact ⟨by simp only [crs, eq_false c21, eq_true c32, eq_true c40, decide_true, decide_false, Bool.and_true, Bool.and_false, Bool.true_and, Bool.false_and, Bool.or_true, Bool.or_false, Bool.true_or, Bool.false_or], rfl⟩
  · refine z_ild4 (n := 26) (by decide +kernel) ?_
    refine z_ild2 (n := 27) (by decide +kernel) ?_
    refine z_icmp_eq (n := 30) (off := 16) (tgt := 43) (by decide +kernel) (fun c27 => ?_) (fun c27 => ?_)
    · refine z_iconst (n := 44) (q := 1) (v := 1) (by decide +kernel) ?_
      refine z_goto (n := 47) (off := 4) (tgt := 48) (by decide +kernel) ?_
      first | refine z_zr1 (by decide +kernel) rfl (Nat.le_refl _) ?_ | refine z_zr0 (by decide +kernel) rfl (Nat.le_refl _) ?_ | refine z_zrb (by decide +kernel) rfl (Nat.le_refl _) ?_
      exact ⟨by simp only [crs, eq_true c21, eq_true c27, decide_true, decide_false, Bool.and_true, Bool.and_false, Bool.true_and, Bool.false_and, Bool.or_true, Bool.or_false, Bool.true_or, Bool.false_or], rfl⟩
    · refine z_ild3 (n := 31) (by decide +kernel) ?_
      refine z_ild2 (n := 32) (by decide +kernel) ?_
      refine z_icmp_ne (n := 35) (off := 15) (tgt := 47) (by decide +kernel) (fun c32 => ?_) (fun c32 => ?_)
      · refine z_iconst (n := 48) (q := 0) (v := 0) (by decide +kernel) ?_
        first | refine z_zr1 (by decide +kernel) rfl (Nat.le_refl _) ?_ | refine z_zr0 (by decide +kernel) rfl (Nat.le_refl _) ?_ | refine z_zrb (by decide +kernel) rfl (Nat.le_refl _) ?_
        exact ⟨by simp only [crs, eq_true c21, eq_false c27, eq_false c32, decide_true, decide_false, Bool.and_true, Bool.and_false, Bool.true_and, Bool.false_and, Bool.or_true, Bool.or_false, Bool.true_or, Bool.false_or], rfl⟩
      · refine z_ild4 (n := 37) (by decide +kernel) ?_
        refine z_ild2 (n := 38) (by decide +kernel) ?_
        refine z_iconst (n := 39) (q := 1) (v := 1) (by decide +kernel) ?_
        refine z_isub (n := 40) (by decide +kernel) ?_
        refine z_icmp_ne (n := 43) (off := 7) (tgt := 47) (by decide +kernel) (fun c40 => ?_) (fun c40 => ?_)
        · refine z_iconst (n := 48) (q := 0) (v := 0) (by decide +kernel) ?_
          first | refine z_zr1 (by decide +kernel) rfl (Nat.le_refl _) ?_ | refine z_zr0 (by decide +kernel) rfl (Nat.le_refl _) ?_ | refine z_zrb (by decide +kernel) rfl (Nat.le_refl _) ?_
          exact ⟨by simp only [crs, eq_true c21, eq_false c27, eq_true c32, eq_false c40, decide_true, decide_false, Bool.and_true, Bool.and_false, Bool.true_and, Bool.false_and, Bool.or_true, Bool.or_false, Bool.true_or, Bool.false_or], rfl⟩
        · refine z_iconst (n := 44) (q := 1) (v := 1) (by decide +kernel) ?_
          refine z_goto (n := 47) (off := 4) (tgt := 48) (by decide +kernel) ?_
          first | refine z_zr1 (by decide +kernel) rfl (Nat.le_refl _) ?_ | refine z_zr0 (by decide +kernel) rfl (Nat.le_refl _) ?_ | refine z_zrb (by decide +kernel) rfl (Nat.le_refl _) ?_
          exact ⟨by simp only [crs, eq_true c21, eq_false c27, eq_true c32, eq_true c40, decide_true, decide_false, Bool.and_true, Bool.and_false, Bool.true_and, Bool.false_and, Bool.or_true, Bool.or_false, Bool.true_or, Bool.false_or], rfl⟩
/-- what heightOf answers -/
def hgt (ht : Nat → Int32) (N : Nat) (tl x : Int32) : Int32 := if x - tl < 0 then 0 else if nI N ≤ x - tl then 0 else ht (x - tl).toNatClampNeg
theorem k_heightOf {G : mG} {h : mH} {S N : Nat} {sz tl x : Int32} {ht : Nat → Int32} (d : Nat) (hS : h S = oStrip S sz tl) (hT : h (S + 4) = aI N ht) (hN : N < 2 ^ 31) : EV G m_X7_heightOf d 0 0 [.ref S, .int x] h (RE (some (.int (hgt ht N tl x))) h) := by
  refine ev_2_1 rfl rfl (by decide +kernel) (by decide +kernel) ?_
  refine z_ild1 (n := 1) (by decide +kernel) ?_
  refine z_ald0 (n := 2) (by decide +kernel) ?_
  refine z_getf (n := 5) (idx := 55) (by decide +kernel) fl_X7_55 (by assumption) (by rfl) ?_
  refine z_isub (n := 6) (by decide +kernel) ?_
  refine z_ist2 (n := 7) (by decide +kernel) rfl ?_
  refine z_ild2 (n := 8) (by decide +kernel) ?_
  refine z_if_lt (n := 11) (off := 21) (tgt := 29) (by decide +kernel) (fun c8 => ?_) (fun c8 => ?_)
  · refine z_iconst (n := 30) (q := 0) (v := 0) (by decide +kernel) ?_
    refine z_iret (by decide +kernel) rfl (Nat.le_refl _) ?_
    exact ⟨by simp only [hgt, c8, if_true, if_false], rfl⟩
  · refine z_ild2 (n := 12) (by decide +kernel) ?_
    refine z_ald0 (n := 13) (by decide +kernel) ?_
    refine z_getf (n := 16) (idx := 22) (by decide +kernel) fl_X7_22 (by assumption) (by rfl) ?_
    refine z_alenI (n := 17) (by decide +kernel) (by assumption) ?_
    refine z_icmp_ge (n := 20) (off := 12) (tgt := 29) (by decide +kernel) (fun c17 => ?_) (fun c17 => ?_)
    · refine z_iconst (n := 30) (q := 0) (v := 0) (by decide +kernel) ?_
      refine z_iret (by decide +kernel) rfl (Nat.le_refl _) ?_
      exact ⟨by simp only [hgt, c8, c17, if_true, if_false], rfl⟩
    · refine z_ald0 (n := 21) (by decide +kernel) ?_
      refine z_getf (n := 24) (idx := 22) (by decide +kernel) fl_X7_22 (by assumption) (by rfl) ?_
      refine z_ild2 (n := 25) (by decide +kernel) ?_
      refine z_iald (n := 26) (by decide +kernel) (by assumption) (by exact ix_rng c8 c17 hN) ?_
      refine z_goto (n := 29) (off := 4) (tgt := 30) (by decide +kernel) ?_
      refine z_iret (by decide +kernel) rfl (Nat.le_refl _) ?_
      exact ⟨by simp only [hgt, c8, c17, if_true, if_false], rfl⟩
