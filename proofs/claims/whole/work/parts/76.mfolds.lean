/-! CreasedPaperModel: lookAll, folds -/
def wtM (a : Nat → Int32) (p : Nat) : Int32 := sgO (fun t => a (370 + 2 * t)) (fun t => a (370 + 2 * t + 1)) (nI p) (a 3).toNatClampNeg
theorem m_lookAll {G : mG} {h : mH} {Q : Nat} {N : Int32} {m : Nat → Int32} {wd : Int64} {a wt : Nat → Int32} {lk : Nat} (d : Nat) (hQ : h Q = oMod Q N m wd) (hA : h (Q + 1) = aI 600 a) (hW : h (Q + 16) = aI 12 wt) (h3 : a 3 = nI lk) (hl : lk ≤ 100) (hp : ∀ t, t < lk → ∃ q, q < 12 ∧ a (370 + 2 * t) = nI q) : EV G m_X11_lookAll d 0 0 [.ref Q] h (fun r h' => r = none ∧ ∃ wt', h' = hu h (Q + 16) (aI 12 wt') ∧ ∀ p, p < 12 → wt' p = wtM a p) := by
  have ew : ∀ p, wtM a p = sgO (fun t => a (370 + 2 * t)) (fun t => a (370 + 2 * t + 1)) (nI p) lk := fun p => by unfold wtM; rw [h3, nI_clamp (by omega)]
  have l2 : ∀ w t, t + w = lk → ∀ wt', (∀ p, p < 12 → wt' p = sgO (fun t => a (370 + 2 * t)) (fun t => a (370 + 2 * t + 1)) (nI p) t) → Z G m_X11_lookAll d 0 0 0 0 23 [some (.ref Q), some (.int (nI t))] [] (hu h (Q + 16) (aI 12 wt')) (fun r h' => r = none ∧ ∃ wt', h' = hu h (Q + 16) (aI 12 wt') ∧ ∀ p, p < 12 → wt' p = wtM a p) := by
    intro w
    induction w with
    | zero =>
      intro t ht wt' hw
      refine z_ild1 (n := 24) (by decide +kernel) ?_
      refine z_ald0 (n := 25) (by decide +kernel) ?_
      refine z_getf (n := 28) (idx := 7) (by decide +kernel) fl_X11_7 (by first | assumption | (simp (disch := omega) only [hu_s, hu_n]; first | assumption | rfl)) (by rfl) ?_
      refine z_iconst (n := 29) (q := 3) (v := 3) (by decide +kernel) ?_
      refine z_iald (n := 30) (by decide +kernel) (by first | assumption | (simp (disch := omega) only [hu_s, hu_n]; first | assumption | rfl)) (by first | assumption | exact ix_nI (by omega) (by omega) | exact ix_of (by simp only [n_0, n_1, n_2, n_3, n_4, n_5, n_6, n_7, n_8, n_10, n_50, n_90, n_130, n_370, n_570, nI_add, pk_mul]; rfl) (by omega) (by omega)) ?_
      refine z_top h3 ?_
      refine z_icmp_ge_t (n := 33) (off := 40) (tgt := 70) (by decide +kernel) (by rw [show t = lk by omega]; exact Int32.le_refl _) ?_
      refine z_vret (by decide +kernel) rfl (Nat.le_refl _) ?_
      exact ⟨rfl, wt', rfl, fun p hp => by rw [hw p hp, ew, show t = lk by omega]⟩
    | succ w ih =>
      intro t ht wt' hw
      obtain ⟨q, hq, eq⟩ := hp t (by omega)
      have i1 : ix (a (370 + 2 * t)) q 12 := by rw [eq]; exact ix_nI hq (by omega)
      have t1 : 370 + 2 * t + 1 < 600 := by omega
      refine z_ild1 (n := 24) (by decide +kernel) ?_
      refine z_ald0 (n := 25) (by decide +kernel) ?_
      refine z_getf (n := 28) (idx := 7) (by decide +kernel) fl_X11_7 (by first | assumption | (simp (disch := omega) only [hu_s, hu_n]; first | assumption | rfl)) (by rfl) ?_
      refine z_iconst (n := 29) (q := 3) (v := 3) (by decide +kernel) ?_
      refine z_iald (n := 30) (by decide +kernel) (by first | assumption | (simp (disch := omega) only [hu_s, hu_n]; first | assumption | rfl)) (by first | assumption | exact ix_nI (by omega) (by omega) | exact ix_of (by simp only [n_0, n_1, n_2, n_3, n_4, n_5, n_6, n_7, n_8, n_10, n_50, n_90, n_130, n_370, n_570, nI_add, pk_mul]; rfl) (by omega) (by omega)) ?_
      refine z_top h3 ?_
      refine z_icmp_ge_f (n := 33) (off := 40) (tgt := 70) (by decide +kernel) (nI_ge (by omega) (by omega)) ?_
      refine z_ald0 (n := 34) (by decide +kernel) ?_
      refine z_getf (n := 37) (idx := 65) (by decide +kernel) fl_X11_65 (by first | assumption | (simp (disch := omega) only [hu_s, hu_n]; first | assumption | rfl)) (by rfl) ?_
      refine z_ald0 (n := 38) (by decide +kernel) ?_
      refine z_getf (n := 41) (idx := 7) (by decide +kernel) fl_X11_7 (by first | assumption | (simp (disch := omega) only [hu_s, hu_n]; first | assumption | rfl)) (by rfl) ?_
      refine z_sipush (n := 44) (q := 370) (v := 370) (by decide +kernel) ?_
      refine z_iconst (n := 45) (q := 2) (v := 2) (by decide +kernel) ?_
      refine z_ild1 (n := 46) (by decide +kernel) ?_
      refine z_imul (n := 47) (by decide +kernel) ?_
      refine z_iadd (n := 48) (by decide +kernel) ?_
      refine z_iald (n := 49) (by decide +kernel) (by first | assumption | (simp (disch := omega) only [hu_s, hu_n]; first | assumption | rfl)) (by first | assumption | exact ix_nI (by omega) (by omega) | exact ix_of (by simp only [n_0, n_1, n_2, n_3, n_4, n_5, n_6, n_7, n_8, n_10, n_50, n_90, n_130, n_370, n_570, nI_add, pk_mul]; rfl) (by omega) (by omega)) ?_
      refine z_ald0 (n := 50) (by decide +kernel) ?_
      refine z_getf (n := 53) (idx := 7) (by decide +kernel) fl_X11_7 (by first | assumption | (simp (disch := omega) only [hu_s, hu_n]; first | assumption | rfl)) (by rfl) ?_
      refine z_sipush (n := 56) (q := 370) (v := 370) (by decide +kernel) ?_
      refine z_iconst (n := 57) (q := 2) (v := 2) (by decide +kernel) ?_
      refine z_ild1 (n := 58) (by decide +kernel) ?_
      refine z_imul (n := 59) (by decide +kernel) ?_
      refine z_iadd (n := 60) (by decide +kernel) ?_
      refine z_iconst (n := 61) (q := 1) (v := 1) (by decide +kernel) ?_
      refine z_iadd (n := 62) (by decide +kernel) ?_
      refine z_iald (n := 63) (by decide +kernel) (by first | assumption | (simp (disch := omega) only [hu_s, hu_n]; first | assumption | rfl)) (by first | assumption | exact ix_nI (by omega) (by omega) | exact ix_of (by simp only [n_0, n_1, n_2, n_3, n_4, n_5, n_6, n_7, n_8, n_10, n_50, n_90, n_130, n_370, n_570, nI_add, pk_mul]; rfl) (by omega) (by omega)) ?_
      refine z_iast (n := 64) (by decide +kernel) (by first | assumption | (simp (disch := omega) only [hu_s, hu_n]; first | assumption | rfl)) (by exact i1) ?_
      refine z_inc1 (n := 67) (q := 1) (by decide +kernel) rfl (nI_1 _) ?_
      refine z_goto (n := 70) (off := -44) (tgt := 23) (by decide +kernel) ?_
      skip
      rw [hu_hu]
      refine ih (t + 1) (by omega) _ (fun p hp9 => ?_)
      rw [sgO]
      by_cases c : p = q
      · subst c
        rw [upd_ss, if_pos eq]
      · rw [upd_nn c, if_neg (fun z => c ((nI_ij (by omega) (by omega)).mp (eq.symm.trans z)).symm)]
        exact hw p hp9
  have l1 : ∀ w k, k + w = 12 → ∀ wt', (∀ p, p < k → wt' p = -1) → Z G m_X11_lookAll d 0 0 0 0 2 [some (.ref Q), some (.int (nI k))] [] (hu h (Q + 16) (aI 12 wt')) (fun r h' => r = none ∧ ∃ wt', h' = hu h (Q + 16) (aI 12 wt') ∧ ∀ p, p < 12 → wt' p = wtM a p) := by
    intro w
    induction w with
    | zero =>
      intro k hk wt' hw
      refine z_ild1 (n := 3) (by decide +kernel) ?_
      refine z_bipush (n := 5) (q := 12) (v := 12) (by decide +kernel) ?_
      refine z_icmp_ge_t (n := 8) (off := 16) (tgt := 21) (by decide +kernel) (by rw [show k = 12 by omega]; decide) ?_
      refine z_iconst (n := 22) (q := 0) (v := 0) (by decide +kernel) ?_
      refine z_ist1 (n := 23) (by decide +kernel) rfl ?_
      exact l2 lk 0 (by omega) wt' (fun p hp => hw p (by omega))
    | succ w ih =>
      intro k hk wt' hw
      have k12 : k < 12 := by omega
      refine z_ild1 (n := 3) (by decide +kernel) ?_
      refine z_bipush (n := 5) (q := 12) (v := 12) (by decide +kernel) ?_
      refine z_icmp_ge_f (n := 8) (off := 16) (tgt := 21) (by decide +kernel) (nI_ge (b := 12) (by omega) (by omega)) ?_
      refine z_ald0 (n := 9) (by decide +kernel) ?_
      refine z_getf (n := 12) (idx := 65) (by decide +kernel) fl_X11_65 (by first | assumption | (simp (disch := omega) only [hu_s, hu_n]; first | assumption | rfl)) (by rfl) ?_
      refine z_ild1 (n := 13) (by decide +kernel) ?_
      refine z_iconst (n := 14) (q := -1) (v := -1) (by decide +kernel) ?_
      refine z_iast (n := 15) (by decide +kernel) (by first | assumption | (simp (disch := omega) only [hu_s, hu_n]; first | assumption | rfl)) (by first | assumption | exact ix_nI (by omega) (by omega) | exact ix_of (by simp only [n_0, n_1, n_2, n_3, n_4, n_5, n_6, n_7, n_8, n_10, n_50, n_90, n_130, n_370, n_570, nI_add, pk_mul]; rfl) (by omega) (by omega)) ?_
      refine z_inc1 (n := 18) (q := 1) (by decide +kernel) rfl (nI_1 _) ?_
      refine z_goto (n := 21) (off := -16) (tgt := 2) (by decide +kernel) ?_
      skip
      rw [hu_hu]
      refine ih (k + 1) (by omega) _ (fun p hp9 => ?_)
      by_cases c : p = k
      · subst c; exact upd_ss
      · rw [upd_nn c]; exact hw p (by omega)
  refine ev_1_1 rfl (by decide +kernel) (by decide +kernel) ?_
  refine z_iconst (n := 1) (q := 0) (v := 0) (by decide +kernel) ?_
  refine z_ist1 (n := 2) (by decide +kernel) rfl ?_
  skip
  have q := l1 12 0 (by omega) wt (fun p hp => absurd hp (Nat.not_lt_zero _))
  rw [show hu h (Q + 16) (aI 12 wt) = h from by rw [← hW]; exact hu_same] at q
  exact q
/-- the model's row of cells -/
def mlv (h : mH) (Q n : Nat) (st : sS) : Prop := ∃ sp u si, h (Q + 13) = aI 12 sp ∧ h (Q + 14) = aI 12 u ∧ h (Q + 15) = aI 12 si ∧ (∀ v, v < n → sp v = st.1 v ∧ u v = bI (st.2.1 v)) ∧ ∀ p, p + 1 < n → si (p + 1) = nI (st.2.2 (p + 1))
def mlF (h h' : mH) (Q : Nat) : Prop := ∀ j, j ≠ Q + 13 → j ≠ Q + 14 → j ≠ Q + 15 → h' j = h j
theorem mlF_rf {h : mH} {Q : Nat} : mlF h h Q := fun _ _ _ _ => rfl
theorem mlF_tr {h h1 h2 : mH} {Q : Nat} (a : mlF h h1 Q) (b : mlF h1 h2 Q) : mlF h h2 Q := fun j p q r => (b j p q r).trans (a j p q r)
def lwF (f : Nat → Int32) (x : Int32) : Nat → Bool
  | 0 => false
  | u + 1 => lwF f x u || decide (f u < x)
def hwF (f : Nat → Int32) (x : Int32) : Nat → Bool
  | 0 => false
  | u + 1 => hwF f x u || !decide (f u < x)
theorem lwF_mn {f : Nat → Int32} {x : Int32} : ∀ n, lwF f x (n + 1) = decide (mnF f (n + 1) < x)
  | 0 => by rw [mnF_1]; simp [lwF]
  | n + 1 => by
    rw [lwF, lwF_mn n]
    have e : mnF f (n + 1 + 1) = if mnF f (n + 1) ≤ f (n + 1) then mnF f (n + 1) else f (n + 1) := rfl
    rw [e]
    by_cases c : mnF f (n + 1) ≤ f (n + 1)
    · rw [if_pos c]
      by_cases d : mnF f (n + 1) < x
      · rw [decide_eq_true d, Bool.true_or]
      · rw [decide_eq_false d, decide_eq_false (fun z => d (Int32.lt_of_le_of_lt c z)), Bool.or_self]
    · rw [if_neg c]
      by_cases d : f (n + 1) < x
      · rw [decide_eq_true d, Bool.or_true]
      · rw [decide_eq_false d, decide_eq_false (fun z => d (Int32.lt_trans (Int32.not_le.mp c) z)), Bool.or_self]
theorem hwF_mx {f : Nat → Int32} {x : Int32} : ∀ n, hwF f x (n + 1) = decide (x ≤ mxF f (n + 1))
  | 0 => by
    rw [mxF_1]
    show (false || !decide (f 0 < x)) = _
    rw [Bool.false_or]
    by_cases c : f 0 < x
    · rw [decide_eq_true c, decide_eq_false (Int32.not_le.mpr c)]; rfl
    · rw [decide_eq_false c, decide_eq_true (Int32.not_lt.mp c)]; rfl
  | n + 1 => by
    rw [hwF, hwF_mx n]
    have e : mxF f (n + 1 + 1) = if f (n + 1) ≤ mxF f (n + 1) then mxF f (n + 1) else f (n + 1) := rfl
    rw [e]
    by_cases c : f (n + 1) ≤ mxF f (n + 1)
    · rw [if_pos c]
      by_cases d : x ≤ mxF f (n + 1)
      · rw [decide_eq_true d, Bool.true_or]
      · rw [decide_eq_false d, decide_eq_true (show f (n + 1) < x from Int32.lt_of_le_of_lt c (Int32.not_le.mp d))]; rfl
    · rw [if_neg c]
      by_cases d : f (n + 1) < x
      · rw [decide_eq_true d, decide_eq_false (show ¬ x ≤ f (n + 1) from Int32.not_le.mpr d), decide_eq_false (fun z => Int32.lt_irrefl (Int32.lt_of_le_of_lt (Int32.le_trans z (Int32.le_of_lt (Int32.not_le.mp c))) d))]; rfl
      · rw [decide_eq_false d, decide_eq_true (Int32.not_lt.mp d), Bool.not_false, Bool.or_true]
theorem lwF_ag {f g : Nat → Int32} {x : Int32} : ∀ n, (∀ u, u < n → f u = g u) → lwF f x n = lwF g x n
  | 0, _ => rfl
  | n + 1, h => by rw [lwF, lwF, lwF_ag n (fun u hu9 => h u (by omega)), h n (by omega)]
theorem hwF_ag {f g : Nat → Int32} {x : Int32} : ∀ n, (∀ u, u < n → f u = g u) → hwF f x n = hwF g x n
  | 0, _ => rfl
  | n + 1, h => by rw [hwF, hwF, hwF_ag n (fun u hu9 => h u (by omega)), h n (by omega)]
/-- the model's test of a crease -/
theorem crs_m {a b x : Int32} (ha : -200 ≤ a.toInt ∧ a.toInt ≤ 200) (hb : -200 ≤ b.toInt ∧ b.toInt ≤ 200) (hx : 0 ≤ x.toInt ∧ x.toInt ≤ 12) : (a + b = 2 * x - 1 ∧ (if 0 ≤ a - b then a - b else -(a - b)) = 1) ↔ ((a = x - 1 ∧ b = x) ∨ (a = x ∧ b = x - 1)) := by
  have e2 : (2 : Int32).toInt = 2 := rfl
  have e1 : (1 : Int32).toInt = 1 := rfl
  have e0 : (0 : Int32).toInt = 0 := rfl
  have m : (2 * x).toInt = 2 * x.toInt := by
    rw [Int32.toInt_mul, e2]
    exact Int.bmod_eq_of_le (by omega) (by omega)
  have s1 : (2 * x - 1).toInt = 2 * x.toInt - 1 := by
    rw [Int32.toInt_sub, m, e1]
    exact Int.bmod_eq_of_le (by omega) (by omega)
  have s2 : (a + b).toInt = a.toInt + b.toInt := by
    rw [Int32.toInt_add]
    exact Int.bmod_eq_of_le (by omega) (by omega)
  have s3 : (a - b).toInt = a.toInt - b.toInt := by
    rw [Int32.toInt_sub]
    exact Int.bmod_eq_of_le (by omega) (by omega)
  have s4 : (-(a - b)).toInt = b.toInt - a.toInt := by
    rw [Int32.neg_sub, Int32.toInt_sub]
    exact Int.bmod_eq_of_le (by omega) (by omega)
  have s5 : (x - 1).toInt = x.toInt - 1 := by
    rw [Int32.toInt_sub, e1]
    exact Int.bmod_eq_of_le (by omega) (by omega)
  have i1 : (a + b = 2 * x - 1) ↔ a.toInt + b.toInt = 2 * x.toInt - 1 := by rw [← Int32.toInt_inj, s1, s2]
  have i2 : ((if 0 ≤ a - b then a - b else -(a - b)) = 1) ↔ (if 0 ≤ a.toInt - b.toInt then a.toInt - b.toInt else b.toInt - a.toInt) = 1 := by
    rw [← Int32.toInt_inj, e1]
    by_cases c : 0 ≤ a - b
    · have c9 := Int32.le_iff_toInt_le.mp c
      rw [e0, s3] at c9
      rw [if_pos c, if_pos c9, s3]
    · have c9 : ¬ 0 ≤ a.toInt - b.toInt := fun z => c (Int32.le_iff_toInt_le.mpr (by rw [e0, s3]; exact z))
      rw [if_neg c, if_neg c9, s4]
  have i3 : (a = x - 1 ∧ b = x) ↔ (a.toInt = x.toInt - 1 ∧ b.toInt = x.toInt) := by rw [← Int32.toInt_inj, ← Int32.toInt_inj, s5]
  have i4 : (a = x ∧ b = x - 1) ↔ (a.toInt = x.toInt ∧ b.toInt = x.toInt - 1) := by rw [← Int32.toInt_inj, ← Int32.toInt_inj (y := x - 1), s5]
  rw [i1, i2, i3, i4]
  split <;> omega
theorem crs_iff {f : Nat → Int32} {p : Nat} {x : Int32} : crs f p x = true ↔ ((f p = x - 1 ∧ f (p + 1) = x) ∨ (f p = x ∧ f (p + 1) = x - 1)) := by
  unfold crs
  simp only [Bool.or_eq_true, Bool.and_eq_true, decide_eq_true_eq]
theorem bI_not (b : Bool) : (1 : Int32) - bI b = bI (!b) := by cases b <;> rfl
