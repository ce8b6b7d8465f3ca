/-! tokens of a tape, and CreasedPaperModel's reading of them -/
def isBl (b : Int32) : Bool := decide (b = 32) || decide (b = 10)
def isLe (b : Int32) : Bool := win b 97 122 || win b 65 90
def isDi (b : Int32) : Bool := win b 48 57
def isSg (b : Int32) : Bool := decide (b = 40) || decide (b = 41) || decide (b = 59)
/-- the first place from k on, below L, that p is false of -/
def sk (p : Int32 → Bool) (t : Nat → Int32) (L k : Nat) : Nat := if k < L ∧ p (t k) = true then sk p t L (k + 1) else k
termination_by L - k
theorem sk_t {p : Int32 → Bool} {t : Nat → Int32} {L k : Nat} (h1 : k < L) (h2 : p (t k) = true) : sk p t L k = sk p t L (k + 1) := by rw [sk, if_pos ⟨h1, h2⟩]
theorem sk_f {p : Int32 → Bool} {t : Nat → Int32} {L k : Nat} (h : p (t k) = false) : sk p t L k = k := by rw [sk, if_neg (fun q => by rw [h] at q; exact Bool.false_ne_true q.2)]
theorem sk_e {p : Int32 → Bool} {t : Nat → Int32} {L k : Nat} (h : L ≤ k) : sk p t L k = k := by rw [sk, if_neg (fun q => by omega)]
theorem sk_ge {p : Int32 → Bool} {t : Nat → Int32} {L : Nat} : ∀ r k, L - k = r → k ≤ sk p t L k
  | 0, k, h => by rw [sk_e (by omega)]; exact Nat.le_refl _
  | r + 1, k, h => by
    by_cases q : p (t k) = true
    · rw [sk_t (by omega) q]
      exact Nat.le_trans (Nat.le_succ k) (sk_ge r (k + 1) (by omega))
    · rw [sk_f (by simpa using q)]; exact Nat.le_refl _
theorem sk_le {p : Int32 → Bool} {t : Nat → Int32} {L : Nat} : ∀ r k, L - k = r → k ≤ L → sk p t L k ≤ L
  | 0, k, h, h2 => by rw [sk_e (by omega)]; exact h2
  | r + 1, k, h, h2 => by
    by_cases q : p (t k) = true
    · rw [sk_t (by omega) q]
      exact sk_le r (k + 1) (by omega) (by omega)
    · rw [sk_f (by simpa using q)]; exact h2
theorem loopS {p : Int32 → Bool} {t : Nat → Int32} {L e : Nat} (P : Nat → Prop) (h0 : P e) (hs : ∀ k, k < L → p (t k) = true → P (k + 1) → P k) : ∀ r k, L - k = r → sk p t L k = e → P k
  | 0, k, h, q => by rw [sk_e (by omega)] at q; subst q; exact h0
  | r + 1, k, h, q => by
    by_cases c : p (t k) = true
    · rw [sk_t (by omega) c] at q
      exact hs k (by omega) c (loopS P h0 hs r (k + 1) (by omega) q)
    · rw [sk_f (by simpa using c)] at q; subst q; exact h0
theorem sk_ef {p : Int32 → Bool} {t : Nat → Int32} {L : Nat} : ∀ r k, L - k = r → ¬ (sk p t L k < L ∧ p (t (sk p t L k)) = true)
  | 0, k, h => by rw [sk_e (by omega)]; omega
  | r + 1, k, h => by
    by_cases q : p (t k) = true
    · rw [sk_t (by omega) q]
      exact sk_ef r (k + 1) (by omega)
    · rw [sk_f (by simpa using q)]; exact fun z => q z.2
def nmF (t : Nat → Int32) (k : Nat) : Nat → Int32
  | 0 => 0
  | j + 1 => if 100000 ≤ nmF t k j then nmF t k j else nmF t k j * 10 + t (k + j) - 48
def wdF (t : Nat → Int32) (k : Nat) : Nat → Int64
  | 0 => 0
  | j + 1 => if j < 5 then (wdF t k j) <<< ((8 : Int32).toInt64 &&& 63) ||| (t (k + j)).toInt64 else wdF t k j
def tS (t : Nat → Int32) (L k : Nat) : Nat := sk isBl t L k
def tC (t : Nat → Int32) (L k : Nat) : Nat := if L ≤ tS t L k then 0 else if isLe (t (tS t L k)) = true then 2 else if isDi (t (tS t L k)) = true then 3 else if isSg (t (tS t L k)) = true then 4 else 1
def tE (t : Nat → Int32) (L k : Nat) : Nat := if L ≤ tS t L k then tS t L k else if isLe (t (tS t L k)) = true then sk isLe t L (tS t L k) else if isDi (t (tS t L k)) = true then sk isDi t L (tS t L k) else tS t L k + 1
def tV (t : Nat → Int32) (L k : Nat) : Int32 := nmF t (tS t L k) (tE t L k - tS t L k)
def tT (t : Nat → Int32) (L k : Nat) : Int32 := if L ≤ tS t L k then 0 else if isLe (t (tS t L k)) = true then 2 else if isDi (t (tS t L k)) = true then 1 else if isSg (t (tS t L k)) = true then t (tS t L k) else 3
def tW (t : Nat → Int32) (L k : Nat) : Int64 := if 5 < tE t L k - tS t L k then 0 else wdF t (tS t L k) (tE t L k - tS t L k)
def ntM (t : Nat → Int32) (L k : Nat) (m : Nat → Int32) : Nat → Int32 := upd (upd (upd (upd m 4 (nI (tE t L k))) 5 (nI (tS t L k))) 6 (tT t L k)) 7 (if tC t L k = 3 then tV t L k else m 7)
def ntW (t : Nat → Int32) (L k : Nat) (wd : Int64) : Int64 := if tC t L k = 2 then tW t L k else wd
def bA (t : Nat → Int32) (L k : Nat) : Int32 := if L ≤ k then -1 else t k
theorem m_byteAt {G : mG} {h : mH} {Q n L : Nat} {m : Nat → Int32} {wd : Int64} {t : Nat → Int32} {k : Nat} (d : Nat) (hQ : h Q = oMod Q (nI (n + 1)) m wd) (hT : h (Q + 4) = aI 300 t) (hm : m 0 = nI L) (hl3 : L ≤ 300) (hk : k < 2 ^ 31) : EV G m_X11_byteAt d 0 0 [.ref Q, .int (nI k)] h (RE (some (.int (bA t L k))) h) := by
  refine ev_2_0 rfl rfl (by decide +kernel) (by decide +kernel) ?_
  by_cases c : L ≤ k
  · refine z_ild1 (n := 1) (by decide +kernel) ?_
    refine z_ald0 (n := 2) (by decide +kernel) ?_
    refine z_getf (n := 5) (idx := 114) (by decide +kernel) fl_X11_114 (by assumption) (by rfl) ?_
    refine z_top hm ?_
    refine z_icmp_ge_t (n := 8) (off := 12) (tgt := 17) (by decide +kernel) (nI_le c hk) ?_
    refine z_iconst (n := 18) (q := -1) (v := -1) (by decide +kernel) ?_
    refine z_iret (by decide +kernel) rfl (Nat.le_refl _) ?_
    exact ⟨by rw [bA, if_pos c], rfl⟩
  · refine z_ild1 (n := 1) (by decide +kernel) ?_
    refine z_ald0 (n := 2) (by decide +kernel) ?_
    refine z_getf (n := 5) (idx := 114) (by decide +kernel) fl_X11_114 (by assumption) (by rfl) ?_
    refine z_top hm ?_
    refine z_icmp_ge_f (n := 8) (off := 12) (tgt := 17) (by decide +kernel) (nI_ge (by omega) (by omega)) ?_
    refine z_ald0 (n := 9) (by decide +kernel) ?_
    refine z_getf (n := 12) (idx := 19) (by decide +kernel) fl_X11_19 (by assumption) (by rfl) ?_
    refine z_ild1 (n := 13) (by decide +kernel) ?_
    refine z_iald (n := 14) (by decide +kernel) (by assumption) (by first | assumption | exact ix_nI (by omega) (by omega)) ?_
    refine z_goto (n := 17) (off := 4) (tgt := 18) (by decide +kernel) ?_
    refine z_iret (by decide +kernel) rfl (Nat.le_refl _) ?_
    exact ⟨by rw [bA, if_neg c], rfl⟩
theorem m_isLetter {G : mG} {h : mH} {x : Int32} (d : Nat) (hd : 1 ≤ d) : EV G m_X11_isLetter d 0 0 [.int x] h (RE (some (.int (bI (isLe x)))) h) := by
  refine ev_1_0 rfl (by decide +kernel) (by decide +kernel) ?_
  refine z_ild0 (n := 1) (by decide +kernel) ?_
  refine z_bipush (n := 3) (q := 97) (v := 97) (by decide +kernel) ?_
  refine z_bipush (n := 5) (q := 122) (v := 122) (by decide +kernel) ?_
  refine z_s3 (n := 8) (idx := 81) (by decide +kernel) ml_X11_81 (Nat.le_of_ble_eq_true rfl) (by omega) ⟨Nat.le_refl _, Nat.le_refl _⟩ (m_isIn 0) ?_
  refine z_ifb_ne (n := 11) (off := 14) (tgt := 22) (by decide +kernel) (fun c8 => ?_) (fun c8 => ?_)
  · refine z_iconst (n := 23) (q := 1) (v := 1) (by decide +kernel) ?_
    refine z_goto (n := 26) (off := 4) (tgt := 27) (by decide +kernel) ?_
    first | refine z_zr1 (by decide +kernel) rfl (Nat.le_refl _) ?_ | refine z_zr0 (by decide +kernel) rfl (Nat.le_refl _) ?_ | refine z_zrb (by decide +kernel) rfl (Nat.le_refl _) ?_
    exact ⟨by unfold isLe; simp only [c8, decide_true, decide_false, Bool.and_true, Bool.and_false, Bool.true_and, Bool.false_and, Bool.or_true, Bool.or_false, Bool.true_or, Bool.false_or, Bool.not_true, Bool.not_false, if_true, if_false], rfl⟩
  · refine z_ild0 (n := 12) (by decide +kernel) ?_
    refine z_bipush (n := 14) (q := 65) (v := 65) (by decide +kernel) ?_
    refine z_bipush (n := 16) (q := 90) (v := 90) (by decide +kernel) ?_
    refine z_s3 (n := 19) (idx := 81) (by decide +kernel) ml_X11_81 (Nat.le_of_ble_eq_true rfl) (by omega) ⟨Nat.le_refl _, Nat.le_refl _⟩ (m_isIn 0) ?_
    refine z_ifb_eq (n := 22) (off := 7) (tgt := 26) (by decide +kernel) (fun c19 => ?_) (fun c19 => ?_)
    · refine z_iconst (n := 27) (q := 0) (v := 0) (by decide +kernel) ?_
      first | refine z_zr1 (by decide +kernel) rfl (Nat.le_refl _) ?_ | refine z_zr0 (by decide +kernel) rfl (Nat.le_refl _) ?_ | refine z_zrb (by decide +kernel) rfl (Nat.le_refl _) ?_
      exact ⟨by unfold isLe; simp only [c8, c19, decide_true, decide_false, Bool.and_true, Bool.and_false, Bool.true_and, Bool.false_and, Bool.or_true, Bool.or_false, Bool.true_or, Bool.false_or, Bool.not_true, Bool.not_false, if_true, if_false], rfl⟩
    · refine z_iconst (n := 23) (q := 1) (v := 1) (by decide +kernel) ?_
      refine z_goto (n := 26) (off := 4) (tgt := 27) (by decide +kernel) ?_
      first | refine z_zr1 (by decide +kernel) rfl (Nat.le_refl _) ?_ | refine z_zr0 (by decide +kernel) rfl (Nat.le_refl _) ?_ | refine z_zrb (by decide +kernel) rfl (Nat.le_refl _) ?_
      exact ⟨by unfold isLe; simp only [c8, c19, decide_true, decide_false, Bool.and_true, Bool.and_false, Bool.true_and, Bool.false_and, Bool.or_true, Bool.or_false, Bool.true_or, Bool.false_or, Bool.not_true, Bool.not_false, if_true, if_false], rfl⟩
theorem m_isDigit {G : mG} {h : mH} {x : Int32} (d : Nat) (hd : 1 ≤ d) : EV G m_X11_isDigit d 0 0 [.int x] h (RE (some (.int (bI (isDi x)))) h) := by
  refine ev_1_0 rfl (by decide +kernel) (by decide +kernel) ?_
  refine z_ild0 (n := 1) (by decide +kernel) ?_
  refine z_bipush (n := 3) (q := 48) (v := 48) (by decide +kernel) ?_
  refine z_bipush (n := 5) (q := 57) (v := 57) (by decide +kernel) ?_
  refine z_s3 (n := 8) (idx := 81) (by decide +kernel) ml_X11_81 (Nat.le_of_ble_eq_true rfl) (by omega) ⟨Nat.le_refl _, Nat.le_refl _⟩ (m_isIn 0) ?_
  first | refine z_zr1 (by decide +kernel) rfl (Nat.le_refl _) ?_ | refine z_zr0 (by decide +kernel) rfl (Nat.le_refl _) ?_ | refine z_zrb (by decide +kernel) rfl (Nat.le_refl _) ?_
  exact ⟨rfl, rfl⟩
theorem m_end {G : mG} {h : mH} {Q n L : Nat} {m : Nat → Int32} {wd : Int64} {t : Nat → Int32} {x : Int32} (d : Nat) (hd : 1 ≤ d) (hQ : h Q = oMod Q (nI (n + 1)) m wd) : EV G m_X11_end d 0 0 [.ref Q, .int x] h (RE (some (.int (if win x 0 (m 0) = true then x else -1))) (if win x 0 (m 0) = true then hu h Q (oMod Q (nI (n + 1)) (upd m 0 x) wd) else h)) := by
  refine ev_2_0 rfl rfl (by decide +kernel) (by decide +kernel) ?_
  refine z_ild1 (n := 1) (by decide +kernel) ?_
  refine z_iconst (n := 2) (q := 0) (v := 0) (by decide +kernel) ?_
  refine z_ald0 (n := 3) (by decide +kernel) ?_
  refine z_getf (n := 6) (idx := 114) (by decide +kernel) fl_X11_114 (by assumption) (by rfl) ?_
  refine z_s3 (n := 9) (idx := 81) (by decide +kernel) ml_X11_81 (Nat.le_of_ble_eq_true rfl) (by omega) ⟨Nat.le_refl _, Nat.le_refl _⟩ (m_isIn 0) ?_
  refine z_ifb_ne (n := 12) (off := 5) (tgt := 14) (by decide +kernel) (fun c9 => ?_) (fun c9 => ?_)
  · refine z_ald0 (n := 15) (by decide +kernel) ?_
    refine z_ild1 (n := 16) (by decide +kernel) ?_
    refine z_putf (n := 19) (idx := 114) (ty := .int) (by decide +kernel) fl_X11_114 (by assumption) ⟨_, _, _, rfl, rfl, by decide +kernel⟩ rfl rfl (Nat.le_of_ble_eq_true rfl) ?_
    refine z_ild1 (n := 20) (by decide +kernel) ?_
    refine z_iret (by decide +kernel) rfl (Nat.le_refl _) ?_
    exact ⟨by simp only [c9, if_true]; try rfl, by simp only [c9, if_true]; rfl⟩
  · refine z_iconst (n := 13) (q := -1) (v := -1) (by decide +kernel) ?_
    refine z_iret (by decide +kernel) rfl (Nat.le_refl _) ?_
    exact ⟨by simp only [c9, if_true]; try rfl, by simp only [c9, if_true]; rfl⟩
def by4 (v : Int32) (j : Int32) : Int32 := v >>> (j &&& 31) &&& 255
def f4 (t : Nat → Int32) (L : Nat) (v : Int32) : Nat → Int32 := upd (upd (upd (upd t L (by4 v 24)) (L + 1) (by4 v 16)) (L + 2) (by4 v 8)) (L + 3) (by4 v 0)
theorem m_four {G : mG} {h : mH} {Q n L : Nat} {m : Nat → Int32} {wd : Int64} {t : Nat → Int32} {x : Int32} (d : Nat) (hQ : h Q = oMod Q (nI (n + 1)) m wd) (hT : h (Q + 4) = aI 300 t) (hm : m 0 = nI L) (hl3 : L + 4 ≤ 300) : EV G m_X11_four d 0 0 [.ref Q, .int x] h (RE none (hu (hu h (Q + 4) (aI 300 (f4 t L x))) Q (oMod Q (nI (n + 1)) (upd m 0 (nI (L + 4))) wd))) := by
  refine ev_2_1 rfl rfl (by decide +kernel) (by decide +kernel) ?_
  refine z_bipush (n := 2) (q := 24) (v := 24) (by decide +kernel) ?_
  refine z_ist2 (n := 3) (by decide +kernel) rfl ?_
  refine z_ild2 (n := 4) (by decide +kernel) ?_
  refine z_if_lt_f (n := 7) (off := 35) (tgt := 39) (by decide +kernel) (by decide) ?_
  refine z_ald0 (n := 8) (by decide +kernel) ?_
  refine z_getf (n := 11) (idx := 19) (by decide +kernel) fl_X11_19 (by first | assumption | (simp (disch := omega) only [hu_s, hu_n]; first | assumption | rfl)) (by rfl) ?_
  refine z_ald0 (n := 12) (by decide +kernel) ?_
  refine z_getf (n := 15) (idx := 114) (by decide +kernel) fl_X11_114 (by first | assumption | (simp (disch := omega) only [hu_s, hu_n]; first | assumption | rfl)) (by rfl) ?_
  first | refine z_top hm ?_ | skip
  refine z_ild1 (n := 16) (by decide +kernel) ?_
  refine z_ild2 (n := 17) (by decide +kernel) ?_
  refine z_ishr (n := 18) (by decide +kernel) ?_
  refine z_sipush (n := 21) (q := 255) (v := 255) (by decide +kernel) ?_
  refine z_iand (n := 22) (by decide +kernel) ?_
  refine z_iast (n := 23) (by decide +kernel) (by first | assumption | (simp (disch := omega) only [hu_s, hu_n]; first | assumption | rfl)) (by first | assumption | exact ix_nI (by omega) (by omega) | exact ix_of (by simp only [n_0, n_1, n_2, n_3, n_4, n_5, n_6, n_7, n_8, n_10, n_50, n_90, n_130, n_370, n_570, nI_add, pk_mul]; rfl) (by omega) (by omega)) ?_
  refine z_ald0 (n := 24) (by decide +kernel) ?_
  refine z_dup (n := 25) (by decide +kernel) rfl ?_
  refine z_getf (n := 28) (idx := 114) (by decide +kernel) fl_X11_114 (by first | assumption | (simp (disch := omega) only [hu_s, hu_n]; first | assumption | rfl)) (by rfl) ?_
  first | refine z_top hm ?_ | skip
  refine z_iconst (n := 29) (q := 1) (v := 1) (by decide +kernel) ?_
  refine z_iadd (n := 30) (by decide +kernel) ?_
  refine z_top (nI_1 _) ?_
  refine z_putf (n := 33) (idx := 114) (ty := .int) (by decide +kernel) fl_X11_114 (by first | assumption | (simp (disch := omega) only [hu_s, hu_n]; first | assumption | rfl)) ⟨_, _, _, rfl, rfl, by decide +kernel⟩ rfl rfl (Nat.le_of_ble_eq_true rfl) ?_
  refine z_inc2 (n := 36) (q := -8) (by decide +kernel) rfl (show (24 : Int32) + Int32.ofInt (-8) = 16 from rfl) ?_
  refine z_goto (n := 39) (off := -33) (tgt := 3) (by decide +kernel) ?_
  skip
  refine z_ild2 (n := 4) (by decide +kernel) ?_
  refine z_if_lt_f (n := 7) (off := 35) (tgt := 39) (by decide +kernel) (by decide) ?_
  refine z_ald0 (n := 8) (by decide +kernel) ?_
  refine z_getf (n := 11) (idx := 19) (by decide +kernel) fl_X11_19 (by first | assumption | (simp (disch := omega) only [hu_s, hu_n]; first | assumption | rfl)) (by rfl) ?_
  refine z_ald0 (n := 12) (by decide +kernel) ?_
  refine z_getf (n := 15) (idx := 114) (by decide +kernel) fl_X11_114 (by first | assumption | (simp (disch := omega) only [hu_s, hu_n]; first | assumption | rfl)) (by rfl) ?_
  first | refine z_top hm ?_ | skip
  refine z_ild1 (n := 16) (by decide +kernel) ?_
  refine z_ild2 (n := 17) (by decide +kernel) ?_
  refine z_ishr (n := 18) (by decide +kernel) ?_
  refine z_sipush (n := 21) (q := 255) (v := 255) (by decide +kernel) ?_
  refine z_iand (n := 22) (by decide +kernel) ?_
  refine z_iast (n := 23) (by decide +kernel) (by first | assumption | (simp (disch := omega) only [hu_s, hu_n]; first | assumption | rfl)) (by first | assumption | exact ix_nI (by omega) (by omega) | exact ix_of (by simp only [n_0, n_1, n_2, n_3, n_4, n_5, n_6, n_7, n_8, n_10, n_50, n_90, n_130, n_370, n_570, nI_add, pk_mul]; rfl) (by omega) (by omega)) ?_
  refine z_ald0 (n := 24) (by decide +kernel) ?_
  refine z_dup (n := 25) (by decide +kernel) rfl ?_
  refine z_getf (n := 28) (idx := 114) (by decide +kernel) fl_X11_114 (by first | assumption | (simp (disch := omega) only [hu_s, hu_n]; first | assumption | rfl)) (by rfl) ?_
  first | refine z_top hm ?_ | skip
  refine z_iconst (n := 29) (q := 1) (v := 1) (by decide +kernel) ?_
  refine z_iadd (n := 30) (by decide +kernel) ?_
  refine z_top (nI_1 _) ?_
  refine z_putf (n := 33) (idx := 114) (ty := .int) (by decide +kernel) fl_X11_114 (by first | assumption | (simp (disch := omega) only [hu_s, hu_n]; first | assumption | rfl)) ⟨_, _, _, rfl, rfl, by decide +kernel⟩ rfl rfl (Nat.le_of_ble_eq_true rfl) ?_
  refine z_inc2 (n := 36) (q := -8) (by decide +kernel) rfl (show (16 : Int32) + Int32.ofInt (-8) = 8 from rfl) ?_
  refine z_goto (n := 39) (off := -33) (tgt := 3) (by decide +kernel) ?_
  skip
  refine z_ild2 (n := 4) (by decide +kernel) ?_
  refine z_if_lt_f (n := 7) (off := 35) (tgt := 39) (by decide +kernel) (by decide) ?_
  refine z_ald0 (n := 8) (by decide +kernel) ?_
  refine z_getf (n := 11) (idx := 19) (by decide +kernel) fl_X11_19 (by first | assumption | (simp (disch := omega) only [hu_s, hu_n]; first | assumption | rfl)) (by rfl) ?_
  refine z_ald0 (n := 12) (by decide +kernel) ?_
  refine z_getf (n := 15) (idx := 114) (by decide +kernel) fl_X11_114 (by first | assumption | (simp (disch := omega) only [hu_s, hu_n]; first | assumption | rfl)) (by rfl) ?_
  first | refine z_top hm ?_ | skip
  refine z_ild1 (n := 16) (by decide +kernel) ?_
  refine z_ild2 (n := 17) (by decide +kernel) ?_
  refine z_ishr (n := 18) (by decide +kernel) ?_
  refine z_sipush (n := 21) (q := 255) (v := 255) (by decide +kernel) ?_
  refine z_iand (n := 22) (by decide +kernel) ?_
  refine z_iast (n := 23) (by decide +kernel) (by first | assumption | (simp (disch := omega) only [hu_s, hu_n]; first | assumption | rfl)) (by first | assumption | exact ix_nI (by omega) (by omega) | exact ix_of (by simp only [n_0, n_1, n_2, n_3, n_4, n_5, n_6, n_7, n_8, n_10, n_50, n_90, n_130, n_370, n_570, nI_add, pk_mul]; rfl) (by omega) (by omega)) ?_
  refine z_ald0 (n := 24) (by decide +kernel) ?_
  refine z_dup (n := 25) (by decide +kernel) rfl ?_
  refine z_getf (n := 28) (idx := 114) (by decide +kernel) fl_X11_114 (by first | assumption | (simp (disch := omega) only [hu_s, hu_n]; first | assumption | rfl)) (by rfl) ?_
  first | refine z_top hm ?_ | skip
  refine z_iconst (n := 29) (q := 1) (v := 1) (by decide +kernel) ?_
  refine z_iadd (n := 30) (by decide +kernel) ?_
  refine z_top (nI_1 _) ?_
  refine z_putf (n := 33) (idx := 114) (ty := .int) (by decide +kernel) fl_X11_114 (by first | assumption | (simp (disch := omega) only [hu_s, hu_n]; first | assumption | rfl)) ⟨_, _, _, rfl, rfl, by decide +kernel⟩ rfl rfl (Nat.le_of_ble_eq_true rfl) ?_
  refine z_inc2 (n := 36) (q := -8) (by decide +kernel) rfl (show (8 : Int32) + Int32.ofInt (-8) = 0 from rfl) ?_
  refine z_goto (n := 39) (off := -33) (tgt := 3) (by decide +kernel) ?_
  skip
  refine z_ild2 (n := 4) (by decide +kernel) ?_
  refine z_if_lt_f (n := 7) (off := 35) (tgt := 39) (by decide +kernel) (by decide) ?_
  refine z_ald0 (n := 8) (by decide +kernel) ?_
  refine z_getf (n := 11) (idx := 19) (by decide +kernel) fl_X11_19 (by first | assumption | (simp (disch := omega) only [hu_s, hu_n]; first | assumption | rfl)) (by rfl) ?_
  refine z_ald0 (n := 12) (by decide +kernel) ?_
  refine z_getf (n := 15) (idx := 114) (by decide +kernel) fl_X11_114 (by first | assumption | (simp (disch := omega) only [hu_s, hu_n]; first | assumption | rfl)) (by rfl) ?_
  first | refine z_top hm ?_ | skip
  refine z_ild1 (n := 16) (by decide +kernel) ?_
  refine z_ild2 (n := 17) (by decide +kernel) ?_
  refine z_ishr (n := 18) (by decide +kernel) ?_
  refine z_sipush (n := 21) (q := 255) (v := 255) (by decide +kernel) ?_
  refine z_iand (n := 22) (by decide +kernel) ?_
  refine z_iast (n := 23) (by decide +kernel) (by first | assumption | (simp (disch := omega) only [hu_s, hu_n]; first | assumption | rfl)) (by first | assumption | exact ix_nI (by omega) (by omega) | exact ix_of (by simp only [n_0, n_1, n_2, n_3, n_4, n_5, n_6, n_7, n_8, n_10, n_50, n_90, n_130, n_370, n_570, nI_add, pk_mul]; rfl) (by omega) (by omega)) ?_
  refine z_ald0 (n := 24) (by decide +kernel) ?_
  refine z_dup (n := 25) (by decide +kernel) rfl ?_
  refine z_getf (n := 28) (idx := 114) (by decide +kernel) fl_X11_114 (by first | assumption | (simp (disch := omega) only [hu_s, hu_n]; first | assumption | rfl)) (by rfl) ?_
  first | refine z_top hm ?_ | skip
  refine z_iconst (n := 29) (q := 1) (v := 1) (by decide +kernel) ?_
  refine z_iadd (n := 30) (by decide +kernel) ?_
  refine z_top (nI_1 _) ?_
  refine z_putf (n := 33) (idx := 114) (ty := .int) (by decide +kernel) fl_X11_114 (by first | assumption | (simp (disch := omega) only [hu_s, hu_n]; first | assumption | rfl)) ⟨_, _, _, rfl, rfl, by decide +kernel⟩ rfl rfl (Nat.le_of_ble_eq_true rfl) ?_
  refine z_inc2 (n := 36) (q := -8) (by decide +kernel) rfl (show (0 : Int32) + Int32.ofInt (-8) = -8 from rfl) ?_
  refine z_goto (n := 39) (off := -33) (tgt := 3) (by decide +kernel) ?_
  skip
  refine z_ild2 (n := 4) (by decide +kernel) ?_
  refine z_if_lt_t (n := 7) (off := 35) (tgt := 39) (by decide +kernel) (by decide) ?_
  refine z_vret (by decide +kernel) rfl (Nat.le_refl _) ?_
  exact ⟨rfl, by simp only [hu_hu, hu3 (show Q ≠ Q + 4 by omega), hu3 (show Q + 4 ≠ Q by omega)]; rfl⟩
theorem nI_sub {k s : Nat} (h : s ≤ k) : nI k - nI s = nI (k - s) := by
  have e : nI k = nI (k - s) + nI s := by rw [nI_add, Nat.sub_add_cancel h]
  rw [e, Int32.add_sub_cancel]
theorem bA_p {p : Int32 → Bool} (hp : p (-1) = false) {t : Nat → Int32} {L k : Nat} : p (bA t L k) = true ↔ k < L ∧ p (t k) = true := by
  unfold bA
  by_cases c : L ≤ k
  · rw [if_pos c, hp]
    constructor
    · intro q; cases q
    · intro q; omega
  · rw [if_neg c]
    constructor
    · intro q; exact ⟨by omega, q⟩
    · intro q; exact q.2
theorem isBl_m : isBl (-1) = false := by decide
theorem isLe_m : isLe (-1) = false := by decide
theorem isDi_m : isDi (-1) = false := by decide
def f20 (t : Nat → Int32) (L : Nat) (x1 x2 x3 x4 x5 : Int32) : Nat → Int32 := f4 (f4 (f4 (f4 (f4 t L x1) (L + 4) x2) (L + 4 + 4) x3) (L + 4 + 4 + 4) x4) (L + 4 + 4 + 4 + 4) x5
theorem m_feed {G : mG} {h : mH} {Q n L : Nat} {m : Nat → Int32} {wd : Int64} {t : Nat → Int32} {x1 x2 x3 x4 x5 : Int32} (d : Nat) (hd : 1 ≤ d) (hQ : h Q = oMod Q (nI (n + 1)) m wd) (hT : h (Q + 4) = aI 300 t) (hm : m 0 = nI L) (hl3 : L ≤ 300) : EV G m_X11_feed d 0 0 [.ref Q, .int x1, .int x2, .int x3, .int x4, .int x5] h (RE (some (.int (if L + 20 ≤ 300 then nI (L + 20) else -1))) (if L + 20 ≤ 300 then hu (hu h (Q + 4) (aI 300 (f20 t L x1 x2 x3 x4 x5))) Q (oMod Q (nI (n + 1)) (upd m 0 (nI (L + 20))) wd) else h)) := by
  refine ev_6_0 rfl rfl rfl rfl rfl rfl (by decide +kernel) (by decide +kernel) ?_
  by_cases c : L + 20 ≤ 300
  · rw [if_pos c, if_pos c]
    refine z_ald0 (n := 1) (by decide +kernel) ?_
    refine z_getf (n := 4) (idx := 114) (by decide +kernel) fl_X11_114 (by first | assumption | (simp (disch := omega) only [hu_s, hu_n]; first | assumption | rfl)) (by rfl) ?_
    refine z_top hm ?_
    refine z_bipush (n := 6) (q := 20) (v := 20) (by decide +kernel) ?_
    refine z_iadd (n := 7) (by decide +kernel) ?_
    refine z_top (show nI L + 20 = nI (L + 20) by rw [n_20, nI_add]) ?_
    refine z_sipush (n := 10) (q := 300) (v := 300) (by decide +kernel) ?_
    refine z_icmp_le_t (n := 13) (off := 5) (tgt := 15) (by decide +kernel) (by rw [n_300]; exact nI_le c (by omega)) ?_
    refine z_ald0 (n := 16) (by decide +kernel) ?_
    refine z_ild1 (n := 17) (by decide +kernel) ?_
    refine z_v1v (n := 20) (idx := 117) (by decide +kernel) ml_X11_117 (by first | assumption | (simp (disch := omega) only [hu_s, hu_n]; first | assumption | rfl)) rfl (Nat.le_of_ble_eq_true rfl) (by omega) ⟨Nat.le_refl _, Nat.le_refl _⟩ (m_four (m := m) (t := t) (L := L) 0 hQ hT hm (by omega)) ?_
    refine z_ald0 (n := 21) (by decide +kernel) ?_
    refine z_ild2 (n := 22) (by decide +kernel) ?_
    refine z_v1v (n := 25) (idx := 117) (by decide +kernel) ml_X11_117 (by first | assumption | (simp (disch := omega) only [hu_s, hu_n]; first | assumption | rfl)) rfl (Nat.le_of_ble_eq_true rfl) (by omega) ⟨Nat.le_refl _, Nat.le_refl _⟩ (m_four (m := upd m 0 (nI (L + 4))) (t := f4 t L x1) (L := L + 4) 0 (by simp (disch := omega) only [hTn, hCr, hFl, hu_s, hu_n]; first | done | assumption | rfl) (by simp (disch := omega) only [hTn, hCr, hFl, hu_s, hu_n]; first | done | assumption | rfl) rfl (by omega)) ?_
    refine z_ald0 (n := 26) (by decide +kernel) ?_
    refine z_ild3 (n := 27) (by decide +kernel) ?_
    refine z_v1v (n := 30) (idx := 117) (by decide +kernel) ml_X11_117 (by first | assumption | (simp (disch := omega) only [hu_s, hu_n]; first | assumption | rfl)) rfl (Nat.le_of_ble_eq_true rfl) (by omega) ⟨Nat.le_refl _, Nat.le_refl _⟩ (m_four (m := upd (upd m 0 (nI (L + 4))) 0 (nI (L + 4 + 4))) (t := f4 (f4 t L x1) (L + 4) x2) (L := L + 4 + 4) 0 (by simp (disch := omega) only [hTn, hCr, hFl, hu_s, hu_n]; first | done | assumption | rfl) (by simp (disch := omega) only [hTn, hCr, hFl, hu_s, hu_n]; first | done | assumption | rfl) rfl (by omega)) ?_
    refine z_ald0 (n := 31) (by decide +kernel) ?_
    refine z_ild4 (n := 33) (by decide +kernel) ?_
    refine z_v1v (n := 36) (idx := 117) (by decide +kernel) ml_X11_117 (by first | assumption | (simp (disch := omega) only [hu_s, hu_n]; first | assumption | rfl)) rfl (Nat.le_of_ble_eq_true rfl) (by omega) ⟨Nat.le_refl _, Nat.le_refl _⟩ (m_four (m := upd (upd (upd m 0 (nI (L + 4))) 0 (nI (L + 4 + 4))) 0 (nI (L + 4 + 4 + 4))) (t := f4 (f4 (f4 t L x1) (L + 4) x2) (L + 4 + 4) x3) (L := L + 4 + 4 + 4) 0 (by simp (disch := omega) only [hTn, hCr, hFl, hu_s, hu_n]; first | done | assumption | rfl) (by simp (disch := omega) only [hTn, hCr, hFl, hu_s, hu_n]; first | done | assumption | rfl) rfl (by omega)) ?_
    refine z_ald0 (n := 37) (by decide +kernel) ?_
    refine z_ild5 (n := 39) (by decide +kernel) ?_
    refine z_v1v (n := 42) (idx := 117) (by decide +kernel) ml_X11_117 (by first | assumption | (simp (disch := omega) only [hu_s, hu_n]; first | assumption | rfl)) rfl (Nat.le_of_ble_eq_true rfl) (by omega) ⟨Nat.le_refl _, Nat.le_refl _⟩ (m_four (m := upd (upd (upd (upd m 0 (nI (L + 4))) 0 (nI (L + 4 + 4))) 0 (nI (L + 4 + 4 + 4))) 0 (nI (L + 4 + 4 + 4 + 4))) (t := f4 (f4 (f4 (f4 t L x1) (L + 4) x2) (L + 4 + 4) x3) (L + 4 + 4 + 4) x4) (L := L + 4 + 4 + 4 + 4) 0 (by simp (disch := omega) only [hTn, hCr, hFl, hu_s, hu_n]; first | done | assumption | rfl) (by simp (disch := omega) only [hTn, hCr, hFl, hu_s, hu_n]; first | done | assumption | rfl) rfl (by omega)) ?_
    refine z_ald0 (n := 43) (by decide +kernel) ?_
    refine z_getf (n := 46) (idx := 114) (by decide +kernel) fl_X11_114 (by first | assumption | (simp (disch := omega) only [hu_s, hu_n]; first | assumption | rfl)) (by rfl) ?_
    refine z_iret (by decide +kernel) rfl (Nat.le_refl _) ?_
    exact ⟨rfl, by simp only [hu_hu, upd_upd, hu3 (show Q ≠ Q + 4 by omega), hu3 (show Q + 4 ≠ Q by omega)]; rfl⟩
  · rw [if_neg c, if_neg c]
    refine z_ald0 (n := 1) (by decide +kernel) ?_
    refine z_getf (n := 4) (idx := 114) (by decide +kernel) fl_X11_114 (by first | assumption | (simp (disch := omega) only [hu_s, hu_n]; first | assumption | rfl)) (by rfl) ?_
    refine z_top hm ?_
    refine z_bipush (n := 6) (q := 20) (v := 20) (by decide +kernel) ?_
    refine z_iadd (n := 7) (by decide +kernel) ?_
    refine z_top (show nI L + 20 = nI (L + 20) by rw [n_20, nI_add]) ?_
    refine z_sipush (n := 10) (q := 300) (v := 300) (by decide +kernel) ?_
    refine z_icmp_le_f (n := 13) (off := 5) (tgt := 15) (by decide +kernel) (by rw [n_300]; exact nI_ge (by omega) (by omega)) ?_
    refine z_iconst (n := 14) (q := -1) (v := -1) (by decide +kernel) ?_
    refine z_iret (by decide +kernel) rfl (Nat.le_refl _) ?_
    exact ⟨rfl, rfl⟩
theorem m_w4 {G : mG} {h : mH} {x1 x2 x3 x4 : Int32} (d : Nat) : EV G m_X11_w4 d 0 0 [.int x1, .int x2, .int x3, .int x4] h (RE (some (.long ((((x1.toInt64 <<< ((8 : Int32).toInt64 &&& 63) ||| x2.toInt64) <<< ((8 : Int32).toInt64 &&& 63) ||| x3.toInt64) <<< ((8 : Int32).toInt64 &&& 63) ||| x4.toInt64)))) h) := by
  refine ev_4_0 rfl rfl rfl rfl (by decide +kernel) (by decide +kernel) ?_
  refine z_ild0 (n := 1) (by decide +kernel) ?_
  refine z_i2l (n := 2) (by decide +kernel) ?_
  refine z_bipush (n := 4) (q := 8) (v := 8) (by decide +kernel) ?_
  refine z_lshl (n := 5) (by decide +kernel) ?_
  refine z_ild1 (n := 6) (by decide +kernel) ?_
  refine z_i2l (n := 7) (by decide +kernel) ?_
  refine z_lor (n := 8) (by decide +kernel) ?_
  refine z_bipush (n := 10) (q := 8) (v := 8) (by decide +kernel) ?_
  refine z_lshl (n := 11) (by decide +kernel) ?_
  refine z_ild2 (n := 12) (by decide +kernel) ?_
  refine z_i2l (n := 13) (by decide +kernel) ?_
  refine z_lor (n := 14) (by decide +kernel) ?_
  refine z_bipush (n := 16) (q := 8) (v := 8) (by decide +kernel) ?_
  refine z_lshl (n := 17) (by decide +kernel) ?_
  refine z_ild3 (n := 18) (by decide +kernel) ?_
  refine z_i2l (n := 19) (by decide +kernel) ?_
  refine z_lor (n := 20) (by decide +kernel) ?_
  refine z_lret (by decide +kernel) rfl (Nat.le_refl _) ?_
  exact ⟨rfl, rfl⟩
theorem m_w5 {G : mG} {h : mH} {x1 x2 x3 x4 x5 : Int32} (d : Nat) (hd : 1 ≤ d) : EV G m_X11_w5 d 0 0 [.int x1, .int x2, .int x3, .int x4, .int x5] h (RE (some (.long ((((x1.toInt64 <<< ((8 : Int32).toInt64 &&& 63) ||| x2.toInt64) <<< ((8 : Int32).toInt64 &&& 63) ||| x3.toInt64) <<< ((8 : Int32).toInt64 &&& 63) ||| x4.toInt64) <<< ((8 : Int32).toInt64 &&& 63) ||| x5.toInt64))) h) := by
  refine ev_5_0 rfl rfl rfl rfl rfl (by decide +kernel) (by decide +kernel) ?_
  refine z_ild0 (n := 1) (by decide +kernel) ?_
  refine z_ild1 (n := 2) (by decide +kernel) ?_
  refine z_ild2 (n := 3) (by decide +kernel) ?_
  refine z_ild3 (n := 4) (by decide +kernel) ?_
  refine z_s4 (n := 7) (idx := 145) (by decide +kernel) ml_X11_145 (Nat.le_of_ble_eq_true rfl) (by omega) ⟨Nat.le_refl _, Nat.le_refl _⟩ (m_w4 0) ?_
  refine z_bipush (n := 9) (q := 8) (v := 8) (by decide +kernel) ?_
  refine z_lshl (n := 10) (by decide +kernel) ?_
  refine z_ild4 (n := 12) (by decide +kernel) ?_
  refine z_i2l (n := 13) (by decide +kernel) ?_
  refine z_lor (n := 14) (by decide +kernel) ?_
  refine z_lret (by decide +kernel) rfl (Nat.le_refl _) ?_
  exact ⟨rfl, rfl⟩
