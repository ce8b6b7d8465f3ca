/-! Sheets and Shapes -/
theorem cnb_t {b : Nat → Bool} {u : Nat} (h : b u = true) : cnb b (u + 1) = cnb b u + 1 := by simp [cnb, h]
theorem cnb_f {b : Nat → Bool} {u : Nat} (h : b u = false) : cnb b (u + 1) = cnb b u := by simp [cnb, h]
theorem fsT_t {p : Nat → Bool} {r u : Nat} (h : p u = true) : fsT p (r + 1) u = u := by simp [fsT, h]
theorem fsT_f {p : Nat → Bool} {r u : Nat} (h : p u = false) : fsT p (r + 1) u = fsT p r (u + 1) := by simp [fsT, h]
def oShe (E : Nat) (c : Int32) : mE := oB 6 [.int c, .ref (E + 1), .ref (E + 2), .ref (E + 3), .ref (E + 4), .ref (E + 5)]
/-- the sheets: how many, their five rows -/
abbrev eS : Type := Nat × (Nat → Nat → Int32)
def she (h : mH) (E : Nat) (s : eS) : Prop := h E = oShe E (nI s.1) ∧ h (E + 1) = aI 6 (s.2 0) ∧ h (E + 2) = aI 6 (s.2 1) ∧ h (E + 3) = aI 6 (s.2 2) ∧ h (E + 4) = aI 6 (s.2 3) ∧ h (E + 5) = aI 6 (s.2 4)
theorem she_frm {h h' : mH} {E lo hi : Nat} {s : eS} (hf : frm h h' lo hi) (ha : E + 6 ≤ lo ∨ hi ≤ E) (p : she h E s) : she h' E s := by
  obtain ⟨h0, h1, h2, h3, h4, h5⟩ := p
  exact ⟨(hf _ (by omega)).trans h0, (hf _ (by omega)).trans h1, (hf _ (by omega)).trans h2, (hf _ (by omega)).trans h3, (hf _ (by omega)).trans h4, (hf _ (by omega)).trans h5⟩
theorem k_has {G : mG} {h : mH} {E : Nat} {c x : Int32} (d : Nat) (hE : h E = oShe E c) : EV G m_X6_has d 0 0 [.ref E, .int x] h (RE (some (.int (bI (!decide (x < 0) && !decide (c ≤ x))))) h) := by
  refine ev_2_0 rfl rfl (by decide +kernel) (by decide +kernel) ?_
  refine z_ild1 (n := 1) (by decide +kernel) ?_
  refine z_if_lt (n := 4) (off := 15) (tgt := 16) (by decide +kernel) (fun c1 => ?_) (fun c1 => ?_)
  · refine z_iconst (n := 17) (q := 0) (v := 0) (by decide +kernel) ?_
    first | refine z_zr1 (by decide +kernel) rfl (Nat.le_refl _) ?_ | refine z_zr0 (by decide +kernel) rfl (Nat.le_refl _) ?_ | refine z_zrb (by decide +kernel) rfl (Nat.le_refl _) ?_
    exact ⟨by simp only [eq_true c1, decide_true, decide_false, Bool.and_true, Bool.and_false, Bool.true_and, Bool.false_and, Bool.or_true, Bool.or_false, Bool.true_or, Bool.false_or, Bool.not_true, Bool.not_false, if_true, if_false], rfl⟩
  · refine z_ild1 (n := 5) (by decide +kernel) ?_
    refine z_ald0 (n := 6) (by decide +kernel) ?_
    refine z_getf (n := 9) (idx := 27) (by decide +kernel) fl_X6_27 (by assumption) (by rfl) ?_
    refine z_icmp_ge (n := 12) (off := 7) (tgt := 16) (by decide +kernel) (fun c9 => ?_) (fun c9 => ?_)
    · refine z_iconst (n := 17) (q := 0) (v := 0) (by decide +kernel) ?_
      first | refine z_zr1 (by decide +kernel) rfl (Nat.le_refl _) ?_ | refine z_zr0 (by decide +kernel) rfl (Nat.le_refl _) ?_ | refine z_zrb (by decide +kernel) rfl (Nat.le_refl _) ?_
      exact ⟨by simp only [eq_false c1, eq_true c9, decide_true, decide_false, Bool.and_true, Bool.and_false, Bool.true_and, Bool.false_and, Bool.or_true, Bool.or_false, Bool.true_or, Bool.false_or, Bool.not_true, Bool.not_false, if_true, if_false], rfl⟩
    · refine z_iconst (n := 13) (q := 1) (v := 1) (by decide +kernel) ?_
      refine z_goto (n := 16) (off := 4) (tgt := 17) (by decide +kernel) ?_
      first | refine z_zr1 (by decide +kernel) rfl (Nat.le_refl _) ?_ | refine z_zr0 (by decide +kernel) rfl (Nat.le_refl _) ?_ | refine z_zrb (by decide +kernel) rfl (Nat.le_refl _) ?_
      exact ⟨by simp only [eq_false c1, eq_false c9, decide_true, decide_false, Bool.and_true, Bool.and_false, Bool.true_and, Bool.false_and, Bool.or_true, Bool.or_false, Bool.true_or, Bool.false_or, Bool.not_true, Bool.not_false, if_true, if_false], rfl⟩
def addS (k r b m q : Int32) (s : eS) : eS := (s.1 + 1, fun i => match i with
  | 0 => upd (s.2 0) s.1 k
  | 1 => upd (s.2 1) s.1 r
  | 2 => upd (s.2 2) s.1 b
  | 3 => upd (s.2 3) s.1 m
  | 4 => upd (s.2 4) s.1 q
  | i => s.2 i)
theorem k_addOne {G : mG} {h : mH} {E : Nat} {k r b m q : Int32} {s : eS} (d : Nat) (hs : she h E s) (hc : s.1 ≤ 6) : EV G m_X6_addOne d 0 0 [.ref E, .int k, .int r, .int b, .int m, .int q] h (fun v h' => v = some (.int (if s.1 < 6 then nI s.1 else -1)) ∧ frm h h' E (E + 6) ∧ she h' E (if s.1 < 6 then addS k r b m q s else s)) := by
  have hs0 := hs
  obtain ⟨hE, h1, h2, h3, h4, h5⟩ := hs
  by_cases hlt : s.1 < 6
  · rw [if_pos hlt, if_pos hlt]
    refine ev_6_0 rfl rfl rfl rfl rfl rfl (by decide +kernel) (by decide +kernel) ?_
    refine z_ald0 (n := 1) (by decide +kernel) ?_
    refine z_getf (n := 4) (idx := 27) (by decide +kernel) fl_X6_27 (by first | assumption | (simp (disch := omega) only [hu_s, hu_n]; first | assumption | rfl)) (by rfl) ?_
    refine z_bipush (n := 6) (q := 6) (v := 6) (by decide +kernel) ?_
    refine z_icmp_lt_t (n := 9) (off := 5) (tgt := 11) (by decide +kernel) (nI_lt (b := 6) hlt (by omega)) ?_
    refine z_ald0 (n := 12) (by decide +kernel) ?_
    refine z_getf (n := 15) (idx := 11) (by decide +kernel) fl_X6_11 (by first | assumption | (simp (disch := omega) only [hu_s, hu_n]; first | assumption | rfl)) (by rfl) ?_
    refine z_ald0 (n := 16) (by decide +kernel) ?_
    refine z_getf (n := 19) (idx := 27) (by decide +kernel) fl_X6_27 (by first | assumption | (simp (disch := omega) only [hu_s, hu_n]; first | assumption | rfl)) (by rfl) ?_
    refine z_ild1 (n := 20) (by decide +kernel) ?_
    refine z_iast (n := 21) (by decide +kernel) (by first | assumption | (simp (disch := omega) only [hu_s, hu_n]; first | assumption | rfl)) (by first | assumption | exact ix_nI (by omega) (by omega)) ?_
    refine z_ald0 (n := 22) (by decide +kernel) ?_
    refine z_getf (n := 25) (idx := 15) (by decide +kernel) fl_X6_15 (by first | assumption | (simp (disch := omega) only [hu_s, hu_n]; first | assumption | rfl)) (by rfl) ?_
    refine z_ald0 (n := 26) (by decide +kernel) ?_
    refine z_getf (n := 29) (idx := 27) (by decide +kernel) fl_X6_27 (by first | assumption | (simp (disch := omega) only [hu_s, hu_n]; first | assumption | rfl)) (by rfl) ?_
    refine z_ild2 (n := 30) (by decide +kernel) ?_
    refine z_iast (n := 31) (by decide +kernel) (by first | assumption | (simp (disch := omega) only [hu_s, hu_n]; first | assumption | rfl)) (by first | assumption | exact ix_nI (by omega) (by omega)) ?_
    refine z_ald0 (n := 32) (by decide +kernel) ?_
    refine z_getf (n := 35) (idx := 18) (by decide +kernel) fl_X6_18 (by first | assumption | (simp (disch := omega) only [hu_s, hu_n]; first | assumption | rfl)) (by rfl) ?_
    refine z_ald0 (n := 36) (by decide +kernel) ?_
    refine z_getf (n := 39) (idx := 27) (by decide +kernel) fl_X6_27 (by first | assumption | (simp (disch := omega) only [hu_s, hu_n]; first | assumption | rfl)) (by rfl) ?_
    refine z_ild3 (n := 40) (by decide +kernel) ?_
    refine z_iast (n := 41) (by decide +kernel) (by first | assumption | (simp (disch := omega) only [hu_s, hu_n]; first | assumption | rfl)) (by first | assumption | exact ix_nI (by omega) (by omega)) ?_
    refine z_ald0 (n := 42) (by decide +kernel) ?_
    refine z_getf (n := 45) (idx := 21) (by decide +kernel) fl_X6_21 (by first | assumption | (simp (disch := omega) only [hu_s, hu_n]; first | assumption | rfl)) (by rfl) ?_
    refine z_ald0 (n := 46) (by decide +kernel) ?_
    refine z_getf (n := 49) (idx := 27) (by decide +kernel) fl_X6_27 (by first | assumption | (simp (disch := omega) only [hu_s, hu_n]; first | assumption | rfl)) (by rfl) ?_
    refine z_ild4 (n := 51) (by decide +kernel) ?_
    refine z_iast (n := 52) (by decide +kernel) (by first | assumption | (simp (disch := omega) only [hu_s, hu_n]; first | assumption | rfl)) (by first | assumption | exact ix_nI (by omega) (by omega)) ?_
    refine z_ald0 (n := 53) (by decide +kernel) ?_
    refine z_getf (n := 56) (idx := 24) (by decide +kernel) fl_X6_24 (by first | assumption | (simp (disch := omega) only [hu_s, hu_n]; first | assumption | rfl)) (by rfl) ?_
    refine z_ald0 (n := 57) (by decide +kernel) ?_
    refine z_getf (n := 60) (idx := 27) (by decide +kernel) fl_X6_27 (by first | assumption | (simp (disch := omega) only [hu_s, hu_n]; first | assumption | rfl)) (by rfl) ?_
    refine z_ild5 (n := 62) (by decide +kernel) ?_
    refine z_iast (n := 63) (by decide +kernel) (by first | assumption | (simp (disch := omega) only [hu_s, hu_n]; first | assumption | rfl)) (by first | assumption | exact ix_nI (by omega) (by omega)) ?_
    refine z_ald0 (n := 64) (by decide +kernel) ?_
    refine z_dup (n := 65) (by decide +kernel) rfl ?_
    refine z_getf (n := 68) (idx := 27) (by decide +kernel) fl_X6_27 (by first | assumption | (simp (disch := omega) only [hu_s, hu_n]; first | assumption | rfl)) (by rfl) ?_
    refine z_iconst (n := 69) (q := 1) (v := 1) (by decide +kernel) ?_
    refine z_iadd (n := 70) (by decide +kernel) ?_
    refine z_top (nI_1 s.1) ?_
    refine z_putf (n := 73) (idx := 27) (ty := .int) (by decide +kernel) fl_X6_27 (by first | assumption | (simp (disch := omega) only [hu_s, hu_n]; first | assumption | rfl)) ⟨_, _, _, rfl, rfl, by decide +kernel⟩ rfl rfl (Nat.le_of_ble_eq_true rfl) ?_
    refine z_ald0 (n := 74) (by decide +kernel) ?_
    refine z_getf (n := 77) (idx := 27) (by decide +kernel) fl_X6_27 (by first | assumption | (simp (disch := omega) only [hu_s, hu_n]; first | assumption | rfl)) (by rfl) ?_
    refine z_iconst (n := 78) (q := 1) (v := 1) (by decide +kernel) ?_
    refine z_isub (n := 79) (by decide +kernel) ?_
    refine z_top (nI_pred s.1) ?_
    refine z_iret (by decide +kernel) rfl (Nat.le_refl _) ?_
    exact ⟨rfl, by intro j9 hj9; simp (disch := omega) only [hu_n], (by simp (disch := omega) only [hTn, hCr, hFl, hu_s, hu_n]; first | done | assumption | rfl), (by simp (disch := omega) only [hTn, hCr, hFl, hu_s, hu_n]; first | done | assumption | rfl), (by simp (disch := omega) only [hTn, hCr, hFl, hu_s, hu_n]; first | done | assumption | rfl), (by simp (disch := omega) only [hTn, hCr, hFl, hu_s, hu_n]; first | done | assumption | rfl), (by simp (disch := omega) only [hTn, hCr, hFl, hu_s, hu_n]; first | done | assumption | rfl), (by simp (disch := omega) only [hTn, hCr, hFl, hu_s, hu_n]; first | done | assumption | rfl)⟩
  · rw [if_neg hlt, if_neg hlt]
    refine ev_6_0 rfl rfl rfl rfl rfl rfl (by decide +kernel) (by decide +kernel) ?_
    refine z_ald0 (n := 1) (by decide +kernel) ?_
    refine z_getf (n := 4) (idx := 27) (by decide +kernel) fl_X6_27 (by first | assumption | (simp (disch := omega) only [hu_s, hu_n]; first | assumption | rfl)) (by rfl) ?_
    refine z_bipush (n := 6) (q := 6) (v := 6) (by decide +kernel) ?_
    refine z_icmp_lt_f (n := 9) (off := 5) (tgt := 11) (by decide +kernel) (nI_nlt (b := 6) (by omega) (by omega)) ?_
    refine z_iconst (n := 10) (q := -1) (v := -1) (by decide +kernel) ?_
    refine z_iret (by decide +kernel) rfl (Nat.le_refl _) ?_
    exact ⟨rfl, frm_rf, hs0⟩
/-- the torque of a sheet -/
def tqF (s : eS) (i : Nat) (a : Int32) : Int32 := ((s.2 0 i).toInt64 * (a - s.2 1 i).toInt64 + (s.2 2 i).toInt64 * (a - s.2 1 i).toInt64 * (a - s.2 3 i).toInt64 * (a - s.2 4 i).toInt64 / 1000).toInt32
theorem k_torqueOf {G : mG} {h : mH} {E i : Nat} {a : Int32} {s : eS} (d : Nat) (hs : she h E s) (hi : i < 6) : EV G m_X6_torqueOf d 0 0 [.ref E, .int (nI i), .int a] h (RE (some (.int (tqF s i a))) h) := by
  obtain ⟨hE, h1, h2, h3, h4, h5⟩ := hs
  refine ev_3_4 rfl rfl rfl (by decide +kernel) (by decide +kernel) ?_
  refine z_ild2 (n := 1) (by decide +kernel) ?_
  refine z_ald0 (n := 2) (by decide +kernel) ?_
  refine z_getf (n := 5) (idx := 15) (by decide +kernel) fl_X6_15 (by assumption) (by rfl) ?_
  refine z_ild1 (n := 6) (by decide +kernel) ?_
  refine z_iald (n := 7) (by decide +kernel) (by assumption) (by first | assumption | exact ix_nI (by omega) (by omega)) ?_
  refine z_isub (n := 8) (by decide +kernel) ?_
  refine z_i2l (n := 9) (by decide +kernel) ?_
  refine z_lst3 (n := 10) (by decide +kernel) rfl ?_
  refine z_ald0 (n := 11) (by decide +kernel) ?_
  refine z_getf (n := 14) (idx := 18) (by decide +kernel) fl_X6_18 (by assumption) (by rfl) ?_
  refine z_ild1 (n := 15) (by decide +kernel) ?_
  refine z_iald (n := 16) (by decide +kernel) (by assumption) (by first | assumption | exact ix_nI (by omega) (by omega)) ?_
  refine z_i2l (n := 17) (by decide +kernel) ?_
  refine z_lld3 (n := 18) (by decide +kernel) ?_
  refine z_lmul (n := 19) (by decide +kernel) ?_
  refine z_ild2 (n := 20) (by decide +kernel) ?_
  refine z_ald0 (n := 21) (by decide +kernel) ?_
  refine z_getf (n := 24) (idx := 21) (by decide +kernel) fl_X6_21 (by assumption) (by rfl) ?_
  refine z_ild1 (n := 25) (by decide +kernel) ?_
  refine z_iald (n := 26) (by decide +kernel) (by assumption) (by first | assumption | exact ix_nI (by omega) (by omega)) ?_
  refine z_isub (n := 27) (by decide +kernel) ?_
  refine z_i2l (n := 28) (by decide +kernel) ?_
  refine z_lmul (n := 29) (by decide +kernel) ?_
  refine z_ild2 (n := 30) (by decide +kernel) ?_
  refine z_ald0 (n := 31) (by decide +kernel) ?_
  refine z_getf (n := 34) (idx := 24) (by decide +kernel) fl_X6_24 (by assumption) (by rfl) ?_
  refine z_ild1 (n := 35) (by decide +kernel) ?_
  refine z_iald (n := 36) (by decide +kernel) (by assumption) (by first | assumption | exact ix_nI (by omega) (by omega)) ?_
  refine z_isub (n := 37) (by decide +kernel) ?_
  refine z_i2l (n := 38) (by decide +kernel) ?_
  refine z_lmul (n := 39) (by decide +kernel) ?_
  refine z_lst5 (n := 41) (by decide +kernel) rfl ?_
  refine z_ald0 (n := 42) (by decide +kernel) ?_
  refine z_getf (n := 45) (idx := 11) (by decide +kernel) fl_X6_11 (by assumption) (by rfl) ?_
  refine z_ild1 (n := 46) (by decide +kernel) ?_
  refine z_iald (n := 47) (by decide +kernel) (by assumption) (by first | assumption | exact ix_nI (by omega) (by omega)) ?_
  refine z_i2l (n := 48) (by decide +kernel) ?_
  refine z_lld3 (n := 49) (by decide +kernel) ?_
  refine z_lmul (n := 50) (by decide +kernel) ?_
  refine z_lld5 (n := 52) (by decide +kernel) ?_
  refine z_ldc2 (n := 55) (q := 37) (by decide +kernel) lc_X6_37 ?_
  refine z_ldiv (n := 56) (by decide +kernel) (by decide) ?_
  refine z_ladd (n := 57) (by decide +kernel) ?_
  refine z_l2i (n := 58) (by decide +kernel) ?_
  refine z_iret (by decide +kernel) rfl (Nat.le_refl _) ?_
  exact ⟨rfl, rfl⟩
def ang (i : Nat) : Int32 := nI i - 180
theorem ang_I {i : Nat} (h : i < 2 ^ 30) : (ang i).toInt = (i : Int) - 180 := pk_sub_toInt (b := 180) h (by omega)
theorem ang_ix (i : Nat) : ang i + 180 = nI i := Int32.sub_add_cancel _ _
theorem ang_1 (i : Nat) : ang i + 1 = ang (i + 1) := by
  unfold ang
  rw [← nI_1]
  have := Int32.add_comm
  rw [Int32.sub_eq_add_neg, Int32.sub_eq_add_neg, Int32.add_assoc, Int32.add_assoc, this (-180) 1]
theorem ang_m (i : Nat) : ang (i + 1) - 1 = ang i := by
  rw [← ang_1]
  exact Int32.add_sub_cancel _ _
theorem ang_lt {i j : Nat} (hi : i < 2 ^ 30) (hj : j < 2 ^ 30) : ang i < ang j ↔ i < j := by
  rw [Int32.lt_iff_toInt_lt, ang_I hi, ang_I hj]; omega
theorem ang_le {i j : Nat} (hi : i < 2 ^ 30) (hj : j < 2 ^ 30) : ang i ≤ ang j ↔ i ≤ j := by
  rw [Int32.le_iff_toInt_le, ang_I hi, ang_I hj]; omega
theorem ang_eq {i j : Nat} (hi : i < 2 ^ 30) (hj : j < 2 ^ 30) : ang i = ang j ↔ i = j := by
  constructor
  · intro q
    have := congrArg Int32.toInt q
    rw [ang_I hi, ang_I hj] at this
    omega
  · exact fun q => q ▸ rfl
theorem ang_360 : (180 : Int32) = ang 360 := by decide
theorem ang_0 : (-180 : Int32) = ang 0 := by decide
theorem ang_of {x : Int32} (h0 : (-180 : Int32) ≤ x) (h1 : x ≤ 180) : ∃ i, i ≤ 360 ∧ x = ang i := by
  have a0 : (-180 : Int) ≤ x.toInt := Int32.le_iff_toInt_le.mp h0
  have a1 : x.toInt ≤ 180 := Int32.le_iff_toInt_le.mp h1
  refine ⟨(x.toInt + 180).toNat, by omega, Int32.toInt_inj.mp ?_⟩
  rw [ang_I (by omega)]
  omega
/-- does the angle i rest, of torques T by a push p -/
def rstI (T : Nat → Int32) (i : Nat) (p : Int32) : Bool := decide (T i = p) || (decide (ang i < 180) && ((!decide (p ≤ T i) && decide (p < T (i + 1))) || (!decide (T i ≤ p) && !decide (p ≤ T (i + 1)))))
def styI (T : Nat → Int32) (i : Nat) (p : Int32) : Bool := rstI T i p && ((decide ((180 : Int32) ≤ ang i) || !decide (T (i + 1) ≤ p)) && (decide (ang i ≤ -180) || !decide (p ≤ T (i - 1))))
def oSha (H : Nat) (an sn fp : Int32) : mE := oB 5 [.int an, .int sn, .int fp, .ref (H + 1)]
theorem k_shTake {G : mG} {h : mH} {E H i : Nat} {an sn fp : Int32} {T : Nat → Int32} {s : eS} (d : Nat) (hd : 1 ≤ d) (hs : she h E s) (hH : h H = oSha H an sn fp) (hT : h (H + 1) = aI 361 T) (hi : i < 6) (hap : E + 6 ≤ H ∨ H + 2 ≤ E) : EV G m_X5_take d 0 0 [.ref H, .ref E, .int (nI i)] h (RE none (hu h (H + 1) (aI 361 (cpN (fun j => tqF s i (ang j)) T 361)))) := by
  have hE := hs.1
  refine ev_3_1 rfl rfl rfl (by decide +kernel) (by decide +kernel) ?_
  refine z_sipush (n := 3) (q := -180) (v := -180) (by decide +kernel) ?_
  refine z_ist3 (n := 4) (by decide +kernel) rfl ?_
  refine z_heap (h1 := hu h (H + 1) (aI 361 (cpN (fun j => tqF s i (ang j)) T 0))) (by rw [cpN_0, hu_self hT]) ?_
  refine loopZ (k := 361) (fun u => Z G m_X5_take d 0 0 0 0 4 [some (.ref H), some (.ref E), some (.int (nI i)), some (.int (ang u))] [] (hu h (H + 1) (aI 361 (cpN (fun j => tqF s i (ang j)) T u))) (RE none (hu h (H + 1) (aI 361 (cpN (fun j => tqF s i (ang j)) T 361))))) ?_ ?_ 0 (by omega)
  · refine z_ild3 (n := 5) (by decide +kernel) ?_
    refine z_sipush (n := 8) (q := 180) (v := 180) (by decide +kernel) ?_
    refine z_icmp_gt_t (n := 11) (off := 25) (tgt := 33) (by decide +kernel) (by decide) ?_
    refine z_vret (by decide +kernel) rfl (Nat.le_refl _) ?_
    exact ⟨rfl, rfl⟩
  · intro u ul ih
    refine z_ild3 (n := 5) (by decide +kernel) ?_
    refine z_sipush (n := 8) (q := 180) (v := 180) (by decide +kernel) ?_
    refine z_icmp_gt_f (n := 11) (off := 25) (tgt := 33) (by decide +kernel) (by rw [ang_360]; exact fun q => absurd ((ang_lt (by omega) (by omega)).mp q) (by omega)) ?_
    refine z_ald0 (n := 12) (by decide +kernel) ?_
    refine z_getf (n := 15) (idx := 11) (by decide +kernel) fl_X5_11 (by first | assumption | (simp (disch := omega) only [hu_s, hu_n]; first | assumption | rfl)) (by rfl) ?_
    refine z_ild3 (n := 16) (by decide +kernel) ?_
    refine z_sipush (n := 19) (q := 180) (v := 180) (by decide +kernel) ?_
    refine z_iadd (n := 20) (by decide +kernel) ?_
    refine z_ald1 (n := 21) (by decide +kernel) ?_
    refine z_ild2 (n := 22) (by decide +kernel) ?_
    refine z_ild3 (n := 23) (by decide +kernel) ?_
    refine z_v2 (n := 26) (idx := 15) (by decide +kernel) ml_X5_15 (by first | assumption | (simp (disch := omega) only [hu_s, hu_n]; first | assumption | rfl)) rfl (Nat.le_of_ble_eq_true rfl) (by omega) ⟨Nat.le_refl _, Nat.le_refl _⟩ (k_torqueOf (s := s) 0 (she_frm (lo := H + 1) (hi := H + 2) (fun j hj => hu_n (by omega)) (by omega) hs) hi) ?_
    refine z_iast (n := 27) (by decide +kernel) (by first | assumption | (simp (disch := omega) only [hu_s, hu_n]; first | assumption | rfl)) (by exact ix_of (ang_ix u) (by omega) (by omega)) ?_
    refine z_inc3 (n := 30) (q := 1) (by decide +kernel) rfl (ang_1 _) ?_
    refine z_goto (n := 33) (off := -26) (tgt := 4) (by decide +kernel) ?_
    exact z_heap (by rw [hu_hu, cpN_s (fun j => tqF s i (ang j)) T u]) ih
theorem k_isResting {G : mG} {h : mH} {H i : Nat} {an sn fp p : Int32} {T : Nat → Int32} (d : Nat) (hH : h H = oSha H an sn fp) (hT : h (H + 1) = aI 361 T) (hi : i ≤ 360) : EV G m_X5_isResting d 0 0 [.ref H, .int (ang i), .int p] h (RE (some (.int (bI (rstI T i p)))) h) := by
  refine ev_3_2 rfl rfl rfl (by decide +kernel) (by decide +kernel) ?_
  refine z_ald0 (n := 1) (by decide +kernel) ?_
  refine z_getf (n := 4) (idx := 11) (by decide +kernel) fl_X5_11 (by assumption) (by rfl) ?_
  refine z_ild1 (n := 5) (by decide +kernel) ?_
  refine z_sipush (n := 8) (q := 180) (v := 180) (by decide +kernel) ?_
  refine z_iadd (n := 9) (by decide +kernel) ?_
  refine z_iald (n := 10) (by decide +kernel) (by assumption) (by exact ix_of (ang_ix i) (by omega) (by omega)) ?_
  refine z_ist3 (n := 11) (by decide +kernel) rfl ?_
  refine z_ild3 (n := 12) (by decide +kernel) ?_
  refine z_ild2 (n := 13) (by decide +kernel) ?_
  refine z_icmp_ne (n := 16) (off := 5) (tgt := 18) (by decide +kernel) (fun c13 => ?_) (fun c13 => ?_)
  · refine z_ild1 (n := 19) (by decide +kernel) ?_
    refine z_sipush (n := 22) (q := 180) (v := 180) (by decide +kernel) ?_
    refine z_icmp_lt (n := 25) (off := 5) (tgt := 27) (by decide +kernel) (fun c22 => ?_) (fun c22 => ?_)
    · refine z_ald0 (n := 28) (by decide +kernel) ?_
      refine z_getf (n := 31) (idx := 11) (by decide +kernel) fl_X5_11 (by assumption) (by rfl) ?_
      refine z_ild1 (n := 32) (by decide +kernel) ?_
      refine z_iconst (n := 33) (q := 1) (v := 1) (by decide +kernel) ?_
      refine z_iadd (n := 34) (by decide +kernel) ?_
      refine z_sipush (n := 37) (q := 180) (v := 180) (by decide +kernel) ?_
      refine z_iadd (n := 38) (by decide +kernel) ?_
      refine z_iald (n := 39) (by decide +kernel) (by assumption) (by exact ix_of (j := i + 1) (by rw [ang_1, ang_ix]) (by rw [ang_360] at c22; have := (ang_lt (by omega) (by omega)).mp c22; omega) (by omega)) ?_
      refine z_ist4 (n := 41) (by decide +kernel) rfl ?_
      refine z_ild3 (n := 42) (by decide +kernel) ?_
      refine z_ild2 (n := 43) (by decide +kernel) ?_
      refine z_icmp_ge (n := 46) (off := 9) (tgt := 52) (by decide +kernel) (fun c43 => ?_) (fun c43 => ?_)
      · refine z_ild3 (n := 53) (by decide +kernel) ?_
        refine z_ild2 (n := 54) (by decide +kernel) ?_
        refine z_icmp_le (n := 57) (off := 13) (tgt := 67) (by decide +kernel) (fun c54 => ?_) (fun c54 => ?_)
        · refine z_iconst (n := 68) (q := 0) (v := 0) (by decide +kernel) ?_
          first | refine z_zr1 (by decide +kernel) rfl (Nat.le_refl _) ?_ | refine z_zr0 (by decide +kernel) rfl (Nat.le_refl _) ?_ | refine z_zrb (by decide +kernel) rfl (Nat.le_refl _) ?_
          exact ⟨by unfold rstI; simp only [eq_false c13, eq_true c22, eq_true c43, eq_true c54, decide_true, decide_false, Bool.and_true, Bool.and_false, Bool.true_and, Bool.false_and, Bool.or_true, Bool.or_false, Bool.true_or, Bool.false_or, Bool.not_true, Bool.not_false, if_true, if_false], rfl⟩
        · refine z_ild4 (n := 59) (by decide +kernel) ?_
          refine z_ild2 (n := 60) (by decide +kernel) ?_
          refine z_icmp_ge (n := 63) (off := 7) (tgt := 67) (by decide +kernel) (fun c60 => ?_) (fun c60 => ?_)
          · refine z_iconst (n := 68) (q := 0) (v := 0) (by decide +kernel) ?_
            first | refine z_zr1 (by decide +kernel) rfl (Nat.le_refl _) ?_ | refine z_zr0 (by decide +kernel) rfl (Nat.le_refl _) ?_ | refine z_zrb (by decide +kernel) rfl (Nat.le_refl _) ?_
            exact ⟨by unfold rstI; simp only [eq_false c13, eq_true c22, eq_true c43, eq_false c54, eq_true c60, decide_true, decide_false, Bool.and_true, Bool.and_false, Bool.true_and, Bool.false_and, Bool.or_true, Bool.or_false, Bool.true_or, Bool.false_or, Bool.not_true, Bool.not_false, if_true, if_false], rfl⟩
          · refine z_iconst (n := 64) (q := 1) (v := 1) (by decide +kernel) ?_
            refine z_goto (n := 67) (off := 4) (tgt := 68) (by decide +kernel) ?_
            first | refine z_zr1 (by decide +kernel) rfl (Nat.le_refl _) ?_ | refine z_zr0 (by decide +kernel) rfl (Nat.le_refl _) ?_ | refine z_zrb (by decide +kernel) rfl (Nat.le_refl _) ?_
            exact ⟨by unfold rstI; simp only [eq_false c13, eq_true c22, eq_true c43, eq_false c54, eq_false c60, decide_true, decide_false, Bool.and_true, Bool.and_false, Bool.true_and, Bool.false_and, Bool.or_true, Bool.or_false, Bool.true_or, Bool.false_or, Bool.not_true, Bool.not_false, if_true, if_false], rfl⟩
      · refine z_ild4 (n := 48) (by decide +kernel) ?_
        refine z_ild2 (n := 49) (by decide +kernel) ?_
        refine z_icmp_gt (n := 52) (off := 14) (tgt := 63) (by decide +kernel) (fun c49 => ?_) (fun c49 => ?_)
        · refine z_iconst (n := 64) (q := 1) (v := 1) (by decide +kernel) ?_
          refine z_goto (n := 67) (off := 4) (tgt := 68) (by decide +kernel) ?_
          first | refine z_zr1 (by decide +kernel) rfl (Nat.le_refl _) ?_ | refine z_zr0 (by decide +kernel) rfl (Nat.le_refl _) ?_ | refine z_zrb (by decide +kernel) rfl (Nat.le_refl _) ?_
          exact ⟨by unfold rstI; simp only [eq_false c13, eq_true c22, eq_false c43, eq_true c49, decide_true, decide_false, Bool.and_true, Bool.and_false, Bool.true_and, Bool.false_and, Bool.or_true, Bool.or_false, Bool.true_or, Bool.false_or, Bool.not_true, Bool.not_false, if_true, if_false], rfl⟩
        · refine z_ild3 (n := 53) (by decide +kernel) ?_
          refine z_ild2 (n := 54) (by decide +kernel) ?_
          refine z_icmp_le (n := 57) (off := 13) (tgt := 67) (by decide +kernel) (fun c54 => ?_) (fun c54 => ?_)
          · refine z_iconst (n := 68) (q := 0) (v := 0) (by decide +kernel) ?_
            first | refine z_zr1 (by decide +kernel) rfl (Nat.le_refl _) ?_ | refine z_zr0 (by decide +kernel) rfl (Nat.le_refl _) ?_ | refine z_zrb (by decide +kernel) rfl (Nat.le_refl _) ?_
            exact ⟨by unfold rstI; simp only [eq_false c13, eq_true c22, eq_false c43, eq_false c49, eq_true c54, decide_true, decide_false, Bool.and_true, Bool.and_false, Bool.true_and, Bool.false_and, Bool.or_true, Bool.or_false, Bool.true_or, Bool.false_or, Bool.not_true, Bool.not_false, if_true, if_false], rfl⟩
          · refine z_ild4 (n := 59) (by decide +kernel) ?_
            refine z_ild2 (n := 60) (by decide +kernel) ?_
            refine z_icmp_ge (n := 63) (off := 7) (tgt := 67) (by decide +kernel) (fun c60 => ?_) (fun c60 => ?_)
            · refine z_iconst (n := 68) (q := 0) (v := 0) (by decide +kernel) ?_
              first | refine z_zr1 (by decide +kernel) rfl (Nat.le_refl _) ?_ | refine z_zr0 (by decide +kernel) rfl (Nat.le_refl _) ?_ | refine z_zrb (by decide +kernel) rfl (Nat.le_refl _) ?_
              exact ⟨by unfold rstI; simp only [eq_false c13, eq_true c22, eq_false c43, eq_false c49, eq_false c54, eq_true c60, decide_true, decide_false, Bool.and_true, Bool.and_false, Bool.true_and, Bool.false_and, Bool.or_true, Bool.or_false, Bool.true_or, Bool.false_or, Bool.not_true, Bool.not_false, if_true, if_false], rfl⟩
            · refine z_iconst (n := 64) (q := 1) (v := 1) (by decide +kernel) ?_
              refine z_goto (n := 67) (off := 4) (tgt := 68) (by decide +kernel) ?_
              first | refine z_zr1 (by decide +kernel) rfl (Nat.le_refl _) ?_ | refine z_zr0 (by decide +kernel) rfl (Nat.le_refl _) ?_ | refine z_zrb (by decide +kernel) rfl (Nat.le_refl _) ?_
              exact ⟨by unfold rstI; simp only [eq_false c13, eq_true c22, eq_false c43, eq_false c49, eq_false c54, eq_false c60, decide_true, decide_false, Bool.and_true, Bool.and_false, Bool.true_and, Bool.false_and, Bool.or_true, Bool.or_false, Bool.true_or, Bool.false_or, Bool.not_true, Bool.not_false, if_true, if_false], rfl⟩
    · refine z_iconst (n := 26) (q := 0) (v := 0) (by decide +kernel) ?_
      first | refine z_zr1 (by decide +kernel) rfl (Nat.le_refl _) ?_ | refine z_zr0 (by decide +kernel) rfl (Nat.le_refl _) ?_ | refine z_zrb (by decide +kernel) rfl (Nat.le_refl _) ?_
      exact ⟨by unfold rstI; simp only [eq_false c13, eq_false c22, decide_true, decide_false, Bool.and_true, Bool.and_false, Bool.true_and, Bool.false_and, Bool.or_true, Bool.or_false, Bool.true_or, Bool.false_or, Bool.not_true, Bool.not_false, if_true, if_false], rfl⟩
  · refine z_iconst (n := 17) (q := 1) (v := 1) (by decide +kernel) ?_
    first | refine z_zr1 (by decide +kernel) rfl (Nat.le_refl _) ?_ | refine z_zr0 (by decide +kernel) rfl (Nat.le_refl _) ?_ | refine z_zrb (by decide +kernel) rfl (Nat.le_refl _) ?_
    exact ⟨by unfold rstI; simp only [eq_true c13, decide_true, decide_false, Bool.and_true, Bool.and_false, Bool.true_and, Bool.false_and, Bool.or_true, Bool.or_false, Bool.true_or, Bool.false_or, Bool.not_true, Bool.not_false, if_true, if_false], rfl⟩
theorem k_restsAndStays {G : mG} {h : mH} {H i : Nat} {an sn fp p : Int32} {T : Nat → Int32} (d : Nat) (hd : 1 ≤ d) (hH : h H = oSha H an sn fp) (hT : h (H + 1) = aI 361 T) (hi : i ≤ 360) : EV G m_X5_restsAndStays d 0 0 [.ref H, .int (ang i), .int p] h (RE (some (.int (bI (styI T i p)))) h) := by
  have dn : ¬ ang i ≤ -180 → ang i - 1 + 180 = nI (i - 1) ∧ i - 1 < 361 := by
    intro c
    rw [ang_0] at c
    have h1 : ¬ i ≤ 0 := fun q => c ((ang_le (by omega) (by omega)).mpr q)
    obtain ⟨j, rfl⟩ : ∃ j, i = j + 1 := ⟨i - 1, by omega⟩
    rw [ang_m, ang_ix]
    exact ⟨rfl, by omega⟩
  refine ev_3_0 rfl rfl rfl (by decide +kernel) (by decide +kernel) ?_
  refine z_ald0 (n := 1) (by decide +kernel) ?_
  refine z_ild1 (n := 2) (by decide +kernel) ?_
  refine z_ild2 (n := 3) (by decide +kernel) ?_
  refine z_v2 (n := 6) (idx := 21) (by decide +kernel) ml_X5_21 (by assumption) rfl (Nat.le_of_ble_eq_true rfl) (by omega) ⟨Nat.le_refl _, Nat.le_refl _⟩ (k_isResting 0 hH hT hi) ?_
  refine z_ifb_eq (n := 9) (off := 53) (tgt := 59) (by decide +kernel) (fun c6 => ?_) (fun c6 => ?_)
  · refine z_iconst (n := 60) (q := 0) (v := 0) (by decide +kernel) ?_
    first | refine z_zr1 (by decide +kernel) rfl (Nat.le_refl _) ?_ | refine z_zr0 (by decide +kernel) rfl (Nat.le_refl _) ?_ | refine z_zrb (by decide +kernel) rfl (Nat.le_refl _) ?_
    exact ⟨by unfold styI; simp only [c6, decide_true, decide_false, Bool.and_true, Bool.and_false, Bool.true_and, Bool.false_and, Bool.or_true, Bool.or_false, Bool.true_or, Bool.false_or, Bool.not_true, Bool.not_false, if_true, if_false], rfl⟩
  · refine z_ild1 (n := 10) (by decide +kernel) ?_
    refine z_sipush (n := 13) (q := 180) (v := 180) (by decide +kernel) ?_
    refine z_icmp_ge (n := 16) (off := 19) (tgt := 32) (by decide +kernel) (fun c13 => ?_) (fun c13 => ?_)
    · refine z_ild1 (n := 33) (by decide +kernel) ?_
      refine z_sipush (n := 36) (q := -180) (v := -180) (by decide +kernel) ?_
      refine z_icmp_le (n := 39) (off := 19) (tgt := 55) (by decide +kernel) (fun c36 => ?_) (fun c36 => ?_)
      · refine z_iconst (n := 56) (q := 1) (v := 1) (by decide +kernel) ?_
        refine z_goto (n := 59) (off := 4) (tgt := 60) (by decide +kernel) ?_
        first | refine z_zr1 (by decide +kernel) rfl (Nat.le_refl _) ?_ | refine z_zr0 (by decide +kernel) rfl (Nat.le_refl _) ?_ | refine z_zrb (by decide +kernel) rfl (Nat.le_refl _) ?_
        exact ⟨by unfold styI; simp only [c6, eq_true c13, eq_true c36, decide_true, decide_false, Bool.and_true, Bool.and_false, Bool.true_and, Bool.false_and, Bool.or_true, Bool.or_false, Bool.true_or, Bool.false_or, Bool.not_true, Bool.not_false, if_true, if_false], rfl⟩
      · refine z_ald0 (n := 40) (by decide +kernel) ?_
        refine z_getf (n := 43) (idx := 11) (by decide +kernel) fl_X5_11 (by assumption) (by rfl) ?_
        refine z_ild1 (n := 44) (by decide +kernel) ?_
        refine z_iconst (n := 45) (q := 1) (v := 1) (by decide +kernel) ?_
        refine z_isub (n := 46) (by decide +kernel) ?_
        refine z_sipush (n := 49) (q := 180) (v := 180) (by decide +kernel) ?_
        refine z_iadd (n := 50) (by decide +kernel) ?_
        refine z_iald (n := 51) (by decide +kernel) (by assumption) (by exact ix_of (j := i - 1) (dn c36).1 (dn c36).2 (by omega)) ?_
        refine z_ild2 (n := 52) (by decide +kernel) ?_
        refine z_icmp_ge (n := 55) (off := 7) (tgt := 59) (by decide +kernel) (fun c52 => ?_) (fun c52 => ?_)
        · refine z_iconst (n := 60) (q := 0) (v := 0) (by decide +kernel) ?_
          first | refine z_zr1 (by decide +kernel) rfl (Nat.le_refl _) ?_ | refine z_zr0 (by decide +kernel) rfl (Nat.le_refl _) ?_ | refine z_zrb (by decide +kernel) rfl (Nat.le_refl _) ?_
          exact ⟨by unfold styI; simp only [c6, eq_true c13, eq_false c36, eq_true c52, decide_true, decide_false, Bool.and_true, Bool.and_false, Bool.true_and, Bool.false_and, Bool.or_true, Bool.or_false, Bool.true_or, Bool.false_or, Bool.not_true, Bool.not_false, if_true, if_false], rfl⟩
        · refine z_iconst (n := 56) (q := 1) (v := 1) (by decide +kernel) ?_
          refine z_goto (n := 59) (off := 4) (tgt := 60) (by decide +kernel) ?_
          first | refine z_zr1 (by decide +kernel) rfl (Nat.le_refl _) ?_ | refine z_zr0 (by decide +kernel) rfl (Nat.le_refl _) ?_ | refine z_zrb (by decide +kernel) rfl (Nat.le_refl _) ?_
          exact ⟨by unfold styI; simp only [c6, eq_true c13, eq_false c36, eq_false c52, decide_true, decide_false, Bool.and_true, Bool.and_false, Bool.true_and, Bool.false_and, Bool.or_true, Bool.or_false, Bool.true_or, Bool.false_or, Bool.not_true, Bool.not_false, if_true, if_false], rfl⟩
    · refine z_ald0 (n := 17) (by decide +kernel) ?_
      refine z_getf (n := 20) (idx := 11) (by decide +kernel) fl_X5_11 (by assumption) (by rfl) ?_
      refine z_ild1 (n := 21) (by decide +kernel) ?_
      refine z_iconst (n := 22) (q := 1) (v := 1) (by decide +kernel) ?_
      refine z_iadd (n := 23) (by decide +kernel) ?_
      refine z_sipush (n := 26) (q := 180) (v := 180) (by decide +kernel) ?_
      refine z_iadd (n := 27) (by decide +kernel) ?_
      refine z_iald (n := 28) (by decide +kernel) (by assumption) (by exact ix_of (j := i + 1) (by rw [ang_1, ang_ix]) (by rw [ang_360] at c13; have : ¬ 360 ≤ i := fun q => c13 ((ang_le (by omega) (by omega)).mpr q); omega) (by omega)) ?_
      refine z_ild2 (n := 29) (by decide +kernel) ?_
      refine z_icmp_le (n := 32) (off := 30) (tgt := 59) (by decide +kernel) (fun c29 => ?_) (fun c29 => ?_)
      · refine z_iconst (n := 60) (q := 0) (v := 0) (by decide +kernel) ?_
        first | refine z_zr1 (by decide +kernel) rfl (Nat.le_refl _) ?_ | refine z_zr0 (by decide +kernel) rfl (Nat.le_refl _) ?_ | refine z_zrb (by decide +kernel) rfl (Nat.le_refl _) ?_
        exact ⟨by unfold styI; simp only [c6, eq_false c13, eq_true c29, decide_true, decide_false, Bool.and_true, Bool.and_false, Bool.true_and, Bool.false_and, Bool.or_true, Bool.or_false, Bool.true_or, Bool.false_or, Bool.not_true, Bool.not_false, if_true, if_false], rfl⟩
      · refine z_ild1 (n := 33) (by decide +kernel) ?_
        refine z_sipush (n := 36) (q := -180) (v := -180) (by decide +kernel) ?_
        refine z_icmp_le (n := 39) (off := 19) (tgt := 55) (by decide +kernel) (fun c36 => ?_) (fun c36 => ?_)
        · refine z_iconst (n := 56) (q := 1) (v := 1) (by decide +kernel) ?_
          refine z_goto (n := 59) (off := 4) (tgt := 60) (by decide +kernel) ?_
          first | refine z_zr1 (by decide +kernel) rfl (Nat.le_refl _) ?_ | refine z_zr0 (by decide +kernel) rfl (Nat.le_refl _) ?_ | refine z_zrb (by decide +kernel) rfl (Nat.le_refl _) ?_
          exact ⟨by unfold styI; simp only [c6, eq_false c13, eq_false c29, eq_true c36, decide_true, decide_false, Bool.and_true, Bool.and_false, Bool.true_and, Bool.false_and, Bool.or_true, Bool.or_false, Bool.true_or, Bool.false_or, Bool.not_true, Bool.not_false, if_true, if_false], rfl⟩
        · refine z_ald0 (n := 40) (by decide +kernel) ?_
          refine z_getf (n := 43) (idx := 11) (by decide +kernel) fl_X5_11 (by assumption) (by rfl) ?_
          refine z_ild1 (n := 44) (by decide +kernel) ?_
          refine z_iconst (n := 45) (q := 1) (v := 1) (by decide +kernel) ?_
          refine z_isub (n := 46) (by decide +kernel) ?_
          refine z_sipush (n := 49) (q := 180) (v := 180) (by decide +kernel) ?_
          refine z_iadd (n := 50) (by decide +kernel) ?_
          refine z_iald (n := 51) (by decide +kernel) (by assumption) (by exact ix_of (j := i - 1) (dn c36).1 (dn c36).2 (by omega)) ?_
          refine z_ild2 (n := 52) (by decide +kernel) ?_
          refine z_icmp_ge (n := 55) (off := 7) (tgt := 59) (by decide +kernel) (fun c52 => ?_) (fun c52 => ?_)
          · refine z_iconst (n := 60) (q := 0) (v := 0) (by decide +kernel) ?_
            first | refine z_zr1 (by decide +kernel) rfl (Nat.le_refl _) ?_ | refine z_zr0 (by decide +kernel) rfl (Nat.le_refl _) ?_ | refine z_zrb (by decide +kernel) rfl (Nat.le_refl _) ?_
            exact ⟨by unfold styI; simp only [c6, eq_false c13, eq_false c29, eq_false c36, eq_true c52, decide_true, decide_false, Bool.and_true, Bool.and_false, Bool.true_and, Bool.false_and, Bool.or_true, Bool.or_false, Bool.true_or, Bool.false_or, Bool.not_true, Bool.not_false, if_true, if_false], rfl⟩
          · refine z_iconst (n := 56) (q := 1) (v := 1) (by decide +kernel) ?_
            refine z_goto (n := 59) (off := 4) (tgt := 60) (by decide +kernel) ?_
            first | refine z_zr1 (by decide +kernel) rfl (Nat.le_refl _) ?_ | refine z_zr0 (by decide +kernel) rfl (Nat.le_refl _) ?_ | refine z_zrb (by decide +kernel) rfl (Nat.le_refl _) ?_
            exact ⟨by unfold styI; simp only [c6, eq_false c13, eq_false c29, eq_false c36, eq_false c52, decide_true, decide_false, Bool.and_true, Bool.and_false, Bool.true_and, Bool.false_and, Bool.or_true, Bool.or_false, Bool.true_or, Bool.false_or, Bool.not_true, Bool.not_false, if_true, if_false], rfl⟩
theorem k_countResting {G : mG} {h : mH} {H : Nat} {an sn fp p : Int32} {T : Nat → Int32} (d : Nat) (hd : 1 ≤ d) (hH : h H = oSha H an sn fp) (hT : h (H + 1) = aI 361 T) : EV G m_X5_countResting d 0 0 [.ref H, .int p] h (RE (some (.int (nI (cnb (fun i => rstI T i p) 361)))) h) := by
  refine ev_2_2 rfl rfl (by decide +kernel) (by decide +kernel) ?_
  refine z_iconst (n := 1) (q := 0) (v := 0) (by decide +kernel) ?_
  refine z_ist2 (n := 2) (by decide +kernel) rfl ?_
  refine z_sipush (n := 5) (q := -180) (v := -180) (by decide +kernel) ?_
  refine z_ist3 (n := 6) (by decide +kernel) rfl ?_
  refine loopZ (k := 361) (fun u => Z G m_X5_countResting d 0 0 0 0 6 [some (.ref H), some (.int p), some (.int (nI (cnb (fun i => rstI T i p) u))), some (.int (ang u))] [] h (RE (some (.int (nI (cnb (fun i => rstI T i p) 361)))) h)) ?_ ?_ 0 (by omega)
  · refine z_ild3 (n := 7) (by decide +kernel) ?_
    refine z_sipush (n := 10) (q := 180) (v := 180) (by decide +kernel) ?_
    refine z_icmp_gt_t (n := 13) (off := 21) (tgt := 31) (by decide +kernel) (by decide) ?_
    refine z_ild2 (n := 32) (by decide +kernel) ?_
    refine z_iret (by decide +kernel) rfl (Nat.le_refl _) ?_
    exact ⟨rfl, rfl⟩
  · intro u ul ih
    refine z_ild3 (n := 7) (by decide +kernel) ?_
    refine z_sipush (n := 10) (q := 180) (v := 180) (by decide +kernel) ?_
    refine z_icmp_gt_f (n := 13) (off := 21) (tgt := 31) (by decide +kernel) (by rw [ang_360]; exact fun q => absurd ((ang_lt (by omega) (by omega)).mp q) (by omega)) ?_
    refine z_ald0 (n := 14) (by decide +kernel) ?_
    refine z_ild3 (n := 15) (by decide +kernel) ?_
    refine z_ild1 (n := 16) (by decide +kernel) ?_
    refine z_v2 (n := 19) (idx := 21) (by decide +kernel) ml_X5_21 (by assumption) rfl (Nat.le_of_ble_eq_true rfl) (by omega) ⟨Nat.le_refl _, Nat.le_refl _⟩ (k_isResting 0 hH hT (by omega)) ?_
    refine z_ifb_eq (n := 22) (off := 6) (tgt := 25) (by decide +kernel) (fun c19 => ?_) (fun c19 => ?_)
    · refine z_inc3 (n := 28) (q := 1) (by decide +kernel) rfl (ang_1 _) ?_
      refine z_goto (n := 31) (off := -22) (tgt := 6) (by decide +kernel) ?_
      first | exact cnb_f (b := fun i => rstI T i p) c19 ▸ ih | exact cnb_t (b := fun i => rstI T i p) c19 ▸ ih
    · refine z_inc2 (n := 25) (q := 1) (by decide +kernel) rfl (nI_1 _) ?_
      refine z_inc3 (n := 28) (q := 1) (by decide +kernel) rfl (ang_1 _) ?_
      refine z_goto (n := 31) (off := -22) (tgt := 6) (by decide +kernel) ?_
      first | exact cnb_f (b := fun i => rstI T i p) c19 ▸ ih | exact cnb_t (b := fun i => rstI T i p) c19 ▸ ih
def rsaF (T : Nat → Int32) (p j : Int32) (r u : Nat) : Nat := fsT (fun i => rstI T i p && decide (nI (cnb (fun i => rstI T i p) i) = j)) r u
theorem k_restingAngle {G : mG} {h : mH} {H : Nat} {an sn fp p j : Int32} {T : Nat → Int32} (d : Nat) (hd : 1 ≤ d) (hH : h H = oSha H an sn fp) (hT : h (H + 1) = aI 361 T) : EV G m_X5_restingAngle d 0 0 [.ref H, .int p, .int j] h (RE (some (.int (if rsaF T p j 361 0 < 361 then ang (rsaF T p j 361 0) else -1000))) h) := by
  refine ev_3_2 rfl rfl rfl (by decide +kernel) (by decide +kernel) ?_
  refine z_iconst (n := 1) (q := 0) (v := 0) (by decide +kernel) ?_
  refine z_ist3 (n := 2) (by decide +kernel) rfl ?_
  refine z_sipush (n := 5) (q := -180) (v := -180) (by decide +kernel) ?_
  refine z_ist4 (n := 7) (by decide +kernel) rfl ?_
  have key := loopZ (k := 361) (fun u => Z G m_X5_restingAngle d 0 0 0 0 7 [some (.ref H), some (.int p), some (.int j), some (.int (nI (cnb (fun i => rstI T i p) u))), some (.int (ang u))] [] h (RE (some (.int (if rsaF T p j (361 - u) u < 361 then ang (rsaF T p j (361 - u) u) else -1000))) h)) ?_ ?_ 0 (by omega)
  · exact key
  · refine z_ild4 (n := 9) (by decide +kernel) ?_
    refine z_sipush (n := 12) (q := 180) (v := 180) (by decide +kernel) ?_
    refine z_icmp_gt_t (n := 15) (off := 30) (tgt := 42) (by decide +kernel) (by decide) ?_
    refine z_sipush (n := 45) (q := -1000) (v := -1000) (by decide +kernel) ?_
    refine z_iret (by decide +kernel) rfl (Nat.le_refl _) ?_
    exact ⟨by simp [rsaF, fsT], rfl⟩
  · intro u ul ih
    have e : 361 - u = (361 - (u + 1)) + 1 := by omega
    rw [e]
    refine z_ild4 (n := 9) (by decide +kernel) ?_
    refine z_sipush (n := 12) (q := 180) (v := 180) (by decide +kernel) ?_
    refine z_icmp_gt_f (n := 15) (off := 30) (tgt := 42) (by decide +kernel) (by rw [ang_360]; exact fun q => absurd ((ang_lt (by omega) (by omega)).mp q) (by omega)) ?_
    refine z_ald0 (n := 16) (by decide +kernel) ?_
    refine z_ild4 (n := 18) (by decide +kernel) ?_
    refine z_ild1 (n := 19) (by decide +kernel) ?_
    refine z_v2 (n := 22) (idx := 21) (by decide +kernel) ml_X5_21 (by assumption) rfl (Nat.le_of_ble_eq_true rfl) (by omega) ⟨Nat.le_refl _, Nat.le_refl _⟩ (k_isResting 0 hH hT (by omega)) ?_
    refine z_ifb_eq (n := 25) (off := 14) (tgt := 36) (by decide +kernel) (fun c22 => ?_) (fun c22 => ?_)
    · refine z_inc4 (n := 39) (q := 1) (by decide +kernel) rfl (ang_1 _) ?_
      refine z_goto (n := 42) (off := -32) (tgt := 7) (by decide +kernel) ?_
      unfold rsaF; rw [fsT_f (by simp only [c22, decide_true, decide_false, Bool.and_true, Bool.and_false, Bool.true_and, Bool.false_and, Bool.or_true, Bool.or_false, Bool.true_or, Bool.false_or, Bool.not_true, Bool.not_false, if_true, if_false])]; first | exact cnb_f (b := fun i => rstI T i p) c22 ▸ ih | exact cnb_t (b := fun i => rstI T i p) c22 ▸ ih
    · refine z_ild3 (n := 26) (by decide +kernel) ?_
      refine z_ild2 (n := 27) (by decide +kernel) ?_
      refine z_icmp_ne (n := 30) (off := 6) (tgt := 33) (by decide +kernel) (fun c27 => ?_) (fun c27 => ?_)
      · refine z_inc3 (n := 36) (q := 1) (by decide +kernel) rfl (nI_1 _) ?_
        refine z_inc4 (n := 39) (q := 1) (by decide +kernel) rfl (ang_1 _) ?_
        refine z_goto (n := 42) (off := -32) (tgt := 7) (by decide +kernel) ?_
        unfold rsaF; rw [fsT_f (by simp only [c22, eq_false c27, decide_true, decide_false, Bool.and_true, Bool.and_false, Bool.true_and, Bool.false_and, Bool.or_true, Bool.or_false, Bool.true_or, Bool.false_or, Bool.not_true, Bool.not_false, if_true, if_false])]; first | exact cnb_f (b := fun i => rstI T i p) c22 ▸ ih | exact cnb_t (b := fun i => rstI T i p) c22 ▸ ih
      · refine z_ild4 (n := 32) (by decide +kernel) ?_
        refine z_iret (by decide +kernel) rfl (Nat.le_refl _) ?_
        exact ⟨by unfold rsaF; rw [fsT_t (by simp only [c22, eq_true c27, decide_true, decide_false, Bool.and_true, Bool.and_false, Bool.true_and, Bool.false_and, Bool.or_true, Bool.or_false, Bool.true_or, Bool.false_or, Bool.not_true, Bool.not_false, if_true, if_false]), if_pos ul], rfl⟩
