/-! Tape: its tokens -/
theorem k_isBlank {G : mG} {h : mH} {x : Int32} (d : Nat) : EV G m_X8_isBlank d 0 0 [.int x] h (RE (some (.int (bI (isBl x)))) h) := by
  refine ev_1_0 rfl (by decide +kernel) (by decide +kernel) ?_
  refine z_ild0 (n := 1) (by decide +kernel) ?_
  refine z_bipush (n := 3) (q := 32) (v := 32) (by decide +kernel) ?_
  refine z_icmp_eq (n := 6) (off := 9) (tgt := 12) (by decide +kernel) (fun c3 => ?_) (fun c3 => ?_)
  · refine z_iconst (n := 13) (q := 1) (v := 1) (by decide +kernel) ?_
    refine z_goto (n := 16) (off := 4) (tgt := 17) (by decide +kernel) ?_
    first | refine z_zr1 (by decide +kernel) rfl (Nat.le_refl _) ?_ | refine z_zr0 (by decide +kernel) rfl (Nat.le_refl _) ?_ | refine z_zrb (by decide +kernel) rfl (Nat.le_refl _) ?_
    exact ⟨by unfold isBl; simp only [eq_true c3, decide_true, decide_false, Bool.and_true, Bool.and_false, Bool.true_and, Bool.false_and, Bool.or_true, Bool.or_false, Bool.true_or, Bool.false_or, Bool.not_true, Bool.not_false, if_true, if_false], rfl⟩
  · refine z_ild0 (n := 7) (by decide +kernel) ?_
    refine z_bipush (n := 9) (q := 10) (v := 10) (by decide +kernel) ?_
    refine z_icmp_ne (n := 12) (off := 7) (tgt := 16) (by decide +kernel) (fun c9 => ?_) (fun c9 => ?_)
    · refine z_iconst (n := 17) (q := 0) (v := 0) (by decide +kernel) ?_
      first | refine z_zr1 (by decide +kernel) rfl (Nat.le_refl _) ?_ | refine z_zr0 (by decide +kernel) rfl (Nat.le_refl _) ?_ | refine z_zrb (by decide +kernel) rfl (Nat.le_refl _) ?_
      exact ⟨by unfold isBl; simp only [eq_false c3, eq_false c9, decide_true, decide_false, Bool.and_true, Bool.and_false, Bool.true_and, Bool.false_and, Bool.or_true, Bool.or_false, Bool.true_or, Bool.false_or, Bool.not_true, Bool.not_false, if_true, if_false], rfl⟩
    · refine z_iconst (n := 13) (q := 1) (v := 1) (by decide +kernel) ?_
      refine z_goto (n := 16) (off := 4) (tgt := 17) (by decide +kernel) ?_
      first | refine z_zr1 (by decide +kernel) rfl (Nat.le_refl _) ?_ | refine z_zr0 (by decide +kernel) rfl (Nat.le_refl _) ?_ | refine z_zrb (by decide +kernel) rfl (Nat.le_refl _) ?_
      exact ⟨by unfold isBl; simp only [eq_false c3, eq_true c9, decide_true, decide_false, Bool.and_true, Bool.and_false, Bool.true_and, Bool.false_and, Bool.or_true, Bool.or_false, Bool.true_or, Bool.false_or, Bool.not_true, Bool.not_false, if_true, if_false], rfl⟩
theorem k_isLetter {G : mG} {h : mH} {x : Int32} (d : Nat) : EV G m_X8_isLetter d 0 0 [.int x] h (RE (some (.int (bI (isLe x)))) h) := by
  refine ev_1_0 rfl (by decide +kernel) (by decide +kernel) ?_
  refine z_ild0 (n := 1) (by decide +kernel) ?_
  refine z_bipush (n := 3) (q := 97) (v := 97) (by decide +kernel) ?_
  refine z_icmp_lt (n := 6) (off := 9) (tgt := 12) (by decide +kernel) (fun c3 => ?_) (fun c3 => ?_)
  · refine z_ild0 (n := 13) (by decide +kernel) ?_
    refine z_bipush (n := 15) (q := 65) (v := 65) (by decide +kernel) ?_
    refine z_icmp_lt (n := 18) (off := 13) (tgt := 28) (by decide +kernel) (fun c15 => ?_) (fun c15 => ?_)
    · refine z_iconst (n := 29) (q := 0) (v := 0) (by decide +kernel) ?_
      first | refine z_zr1 (by decide +kernel) rfl (Nat.le_refl _) ?_ | refine z_zr0 (by decide +kernel) rfl (Nat.le_refl _) ?_ | refine z_zrb (by decide +kernel) rfl (Nat.le_refl _) ?_
      refine ⟨?_, rfl⟩; unfold isLe win; simp only [eq_true c3, eq_true c15, ← Int32.not_le, decide_true, decide_false, Bool.and_true, Bool.and_false, Bool.true_and, Bool.false_and, Bool.or_true, Bool.or_false, Bool.true_or, Bool.false_or, Bool.not_true, Bool.not_false, not_true, not_false_iff]
    · refine z_ild0 (n := 19) (by decide +kernel) ?_
      refine z_bipush (n := 21) (q := 90) (v := 90) (by decide +kernel) ?_
      refine z_icmp_gt (n := 24) (off := 7) (tgt := 28) (by decide +kernel) (fun c21 => ?_) (fun c21 => ?_)
      · refine z_iconst (n := 29) (q := 0) (v := 0) (by decide +kernel) ?_
        first | refine z_zr1 (by decide +kernel) rfl (Nat.le_refl _) ?_ | refine z_zr0 (by decide +kernel) rfl (Nat.le_refl _) ?_ | refine z_zrb (by decide +kernel) rfl (Nat.le_refl _) ?_
        refine ⟨?_, rfl⟩; unfold isLe win; simp only [eq_true c3, eq_false c15, eq_true c21, ← Int32.not_le, decide_true, decide_false, Bool.and_true, Bool.and_false, Bool.true_and, Bool.false_and, Bool.or_true, Bool.or_false, Bool.true_or, Bool.false_or, Bool.not_true, Bool.not_false, not_true, not_false_iff]
      · refine z_iconst (n := 25) (q := 1) (v := 1) (by decide +kernel) ?_
        refine z_goto (n := 28) (off := 4) (tgt := 29) (by decide +kernel) ?_
        first | refine z_zr1 (by decide +kernel) rfl (Nat.le_refl _) ?_ | refine z_zr0 (by decide +kernel) rfl (Nat.le_refl _) ?_ | refine z_zrb (by decide +kernel) rfl (Nat.le_refl _) ?_
        refine ⟨?_, rfl⟩; unfold isLe win; simp only [eq_true c3, eq_false c15, eq_false c21, ← Int32.not_le, decide_true, decide_false, Bool.and_true, Bool.and_false, Bool.true_and, Bool.false_and, Bool.or_true, Bool.or_false, Bool.true_or, Bool.false_or, Bool.not_true, Bool.not_false, not_true, not_false_iff]
  · refine z_ild0 (n := 7) (by decide +kernel) ?_
    refine z_bipush (n := 9) (q := 122) (v := 122) (by decide +kernel) ?_
    refine z_icmp_le (n := 12) (off := 15) (tgt := 24) (by decide +kernel) (fun c9 => ?_) (fun c9 => ?_)
    · refine z_iconst (n := 25) (q := 1) (v := 1) (by decide +kernel) ?_
      refine z_goto (n := 28) (off := 4) (tgt := 29) (by decide +kernel) ?_
      first | refine z_zr1 (by decide +kernel) rfl (Nat.le_refl _) ?_ | refine z_zr0 (by decide +kernel) rfl (Nat.le_refl _) ?_ | refine z_zrb (by decide +kernel) rfl (Nat.le_refl _) ?_
      refine ⟨?_, rfl⟩; unfold isLe win; simp only [eq_false c3, eq_true c9, ← Int32.not_le, decide_true, decide_false, Bool.and_true, Bool.and_false, Bool.true_and, Bool.false_and, Bool.or_true, Bool.or_false, Bool.true_or, Bool.false_or, Bool.not_true, Bool.not_false, not_true, not_false_iff]
    · refine z_ild0 (n := 13) (by decide +kernel) ?_
      refine z_bipush (n := 15) (q := 65) (v := 65) (by decide +kernel) ?_
      refine z_icmp_lt (n := 18) (off := 13) (tgt := 28) (by decide +kernel) (fun c15 => ?_) (fun c15 => ?_)
      · refine z_iconst (n := 29) (q := 0) (v := 0) (by decide +kernel) ?_
        first | refine z_zr1 (by decide +kernel) rfl (Nat.le_refl _) ?_ | refine z_zr0 (by decide +kernel) rfl (Nat.le_refl _) ?_ | refine z_zrb (by decide +kernel) rfl (Nat.le_refl _) ?_
        refine ⟨?_, rfl⟩; unfold isLe win; simp only [eq_false c3, eq_false c9, eq_true c15, ← Int32.not_le, decide_true, decide_false, Bool.and_true, Bool.and_false, Bool.true_and, Bool.false_and, Bool.or_true, Bool.or_false, Bool.true_or, Bool.false_or, Bool.not_true, Bool.not_false, not_true, not_false_iff]
      · refine z_ild0 (n := 19) (by decide +kernel) ?_
        refine z_bipush (n := 21) (q := 90) (v := 90) (by decide +kernel) ?_
        refine z_icmp_gt (n := 24) (off := 7) (tgt := 28) (by decide +kernel) (fun c21 => ?_) (fun c21 => ?_)
        · refine z_iconst (n := 29) (q := 0) (v := 0) (by decide +kernel) ?_
          first | refine z_zr1 (by decide +kernel) rfl (Nat.le_refl _) ?_ | refine z_zr0 (by decide +kernel) rfl (Nat.le_refl _) ?_ | refine z_zrb (by decide +kernel) rfl (Nat.le_refl _) ?_
          refine ⟨?_, rfl⟩; unfold isLe win; simp only [eq_false c3, eq_false c9, eq_false c15, eq_true c21, ← Int32.not_le, decide_true, decide_false, Bool.and_true, Bool.and_false, Bool.true_and, Bool.false_and, Bool.or_true, Bool.or_false, Bool.true_or, Bool.false_or, Bool.not_true, Bool.not_false, not_true, not_false_iff]
        · refine z_iconst (n := 25) (q := 1) (v := 1) (by decide +kernel) ?_
          refine z_goto (n := 28) (off := 4) (tgt := 29) (by decide +kernel) ?_
          first | refine z_zr1 (by decide +kernel) rfl (Nat.le_refl _) ?_ | refine z_zr0 (by decide +kernel) rfl (Nat.le_refl _) ?_ | refine z_zrb (by decide +kernel) rfl (Nat.le_refl _) ?_
          refine ⟨?_, rfl⟩; unfold isLe win; simp only [eq_false c3, eq_false c9, eq_false c15, eq_false c21, ← Int32.not_le, decide_true, decide_false, Bool.and_true, Bool.and_false, Bool.true_and, Bool.false_and, Bool.or_true, Bool.or_false, Bool.true_or, Bool.false_or, Bool.not_true, Bool.not_false, not_true, not_false_iff]
theorem k_isDigit {G : mG} {h : mH} {x : Int32} (d : Nat) : EV G m_X8_isDigit d 0 0 [.int x] h (RE (some (.int (bI (isDi x)))) h) := by
  refine ev_1_0 rfl (by decide +kernel) (by decide +kernel) ?_
  refine z_ild0 (n := 1) (by decide +kernel) ?_
  refine z_bipush (n := 3) (q := 48) (v := 48) (by decide +kernel) ?_
  refine z_icmp_lt (n := 6) (off := 13) (tgt := 16) (by decide +kernel) (fun c3 => ?_) (fun c3 => ?_)
  · refine z_iconst (n := 17) (q := 0) (v := 0) (by decide +kernel) ?_
    first | refine z_zr1 (by decide +kernel) rfl (Nat.le_refl _) ?_ | refine z_zr0 (by decide +kernel) rfl (Nat.le_refl _) ?_ | refine z_zrb (by decide +kernel) rfl (Nat.le_refl _) ?_
    exact ⟨by unfold isDi win; simp only [eq_true c3, decide_true, decide_false, Bool.and_true, Bool.and_false, Bool.true_and, Bool.false_and, Bool.or_true, Bool.or_false, Bool.true_or, Bool.false_or, Bool.not_true, Bool.not_false, if_true, if_false], rfl⟩
  · refine z_ild0 (n := 7) (by decide +kernel) ?_
    refine z_bipush (n := 9) (q := 57) (v := 57) (by decide +kernel) ?_
    refine z_icmp_gt (n := 12) (off := 7) (tgt := 16) (by decide +kernel) (fun c9 => ?_) (fun c9 => ?_)
    · refine z_iconst (n := 17) (q := 0) (v := 0) (by decide +kernel) ?_
      first | refine z_zr1 (by decide +kernel) rfl (Nat.le_refl _) ?_ | refine z_zr0 (by decide +kernel) rfl (Nat.le_refl _) ?_ | refine z_zrb (by decide +kernel) rfl (Nat.le_refl _) ?_
      exact ⟨by unfold isDi win; simp only [eq_false c3, eq_true c9, decide_true, decide_false, Bool.and_true, Bool.and_false, Bool.true_and, Bool.false_and, Bool.or_true, Bool.or_false, Bool.true_or, Bool.false_or, Bool.not_true, Bool.not_false, if_true, if_false], rfl⟩
    · refine z_iconst (n := 13) (q := 1) (v := 1) (by decide +kernel) ?_
      refine z_goto (n := 16) (off := 4) (tgt := 17) (by decide +kernel) ?_
      first | refine z_zr1 (by decide +kernel) rfl (Nat.le_refl _) ?_ | refine z_zr0 (by decide +kernel) rfl (Nat.le_refl _) ?_ | refine z_zrb (by decide +kernel) rfl (Nat.le_refl _) ?_
      exact ⟨by unfold isDi win; simp only [eq_false c3, eq_false c9, decide_true, decide_false, Bool.and_true, Bool.and_false, Bool.true_and, Bool.false_and, Bool.or_true, Bool.or_false, Bool.true_or, Bool.false_or, Bool.not_true, Bool.not_false, if_true, if_false], rfl⟩
theorem k_isSignByte {G : mG} {h : mH} {x : Int32} (d : Nat) : EV G m_X8_isSignByte d 0 0 [.int x] h (RE (some (.int (bI (isSg x)))) h) := by
  refine ev_1_0 rfl (by decide +kernel) (by decide +kernel) ?_
  refine z_ild0 (n := 1) (by decide +kernel) ?_
  refine z_bipush (n := 3) (q := 40) (v := 40) (by decide +kernel) ?_
  refine z_icmp_eq (n := 6) (off := 15) (tgt := 18) (by decide +kernel) (fun c3 => ?_) (fun c3 => ?_)
  · refine z_iconst (n := 19) (q := 1) (v := 1) (by decide +kernel) ?_
    refine z_goto (n := 22) (off := 4) (tgt := 23) (by decide +kernel) ?_
    first | refine z_zr1 (by decide +kernel) rfl (Nat.le_refl _) ?_ | refine z_zr0 (by decide +kernel) rfl (Nat.le_refl _) ?_ | refine z_zrb (by decide +kernel) rfl (Nat.le_refl _) ?_
    exact ⟨by unfold isSg; simp only [eq_true c3, decide_true, decide_false, Bool.and_true, Bool.and_false, Bool.true_and, Bool.false_and, Bool.or_true, Bool.or_false, Bool.true_or, Bool.false_or, Bool.not_true, Bool.not_false, if_true, if_false], rfl⟩
  · refine z_ild0 (n := 7) (by decide +kernel) ?_
    refine z_bipush (n := 9) (q := 41) (v := 41) (by decide +kernel) ?_
    refine z_icmp_eq (n := 12) (off := 9) (tgt := 18) (by decide +kernel) (fun c9 => ?_) (fun c9 => ?_)
    · refine z_iconst (n := 19) (q := 1) (v := 1) (by decide +kernel) ?_
      refine z_goto (n := 22) (off := 4) (tgt := 23) (by decide +kernel) ?_
      first | refine z_zr1 (by decide +kernel) rfl (Nat.le_refl _) ?_ | refine z_zr0 (by decide +kernel) rfl (Nat.le_refl _) ?_ | refine z_zrb (by decide +kernel) rfl (Nat.le_refl _) ?_
      exact ⟨by unfold isSg; simp only [eq_false c3, eq_true c9, decide_true, decide_false, Bool.and_true, Bool.and_false, Bool.true_and, Bool.false_and, Bool.or_true, Bool.or_false, Bool.true_or, Bool.false_or, Bool.not_true, Bool.not_false, if_true, if_false], rfl⟩
    · refine z_ild0 (n := 13) (by decide +kernel) ?_
      refine z_bipush (n := 15) (q := 59) (v := 59) (by decide +kernel) ?_
      refine z_icmp_ne (n := 18) (off := 7) (tgt := 22) (by decide +kernel) (fun c15 => ?_) (fun c15 => ?_)
      · refine z_iconst (n := 23) (q := 0) (v := 0) (by decide +kernel) ?_
        first | refine z_zr1 (by decide +kernel) rfl (Nat.le_refl _) ?_ | refine z_zr0 (by decide +kernel) rfl (Nat.le_refl _) ?_ | refine z_zrb (by decide +kernel) rfl (Nat.le_refl _) ?_
        exact ⟨by unfold isSg; simp only [eq_false c3, eq_false c9, eq_false c15, decide_true, decide_false, Bool.and_true, Bool.and_false, Bool.true_and, Bool.false_and, Bool.or_true, Bool.or_false, Bool.true_or, Bool.false_or, Bool.not_true, Bool.not_false, if_true, if_false], rfl⟩
      · refine z_iconst (n := 19) (q := 1) (v := 1) (by decide +kernel) ?_
        refine z_goto (n := 22) (off := 4) (tgt := 23) (by decide +kernel) ?_
        first | refine z_zr1 (by decide +kernel) rfl (Nat.le_refl _) ?_ | refine z_zr0 (by decide +kernel) rfl (Nat.le_refl _) ?_ | refine z_zrb (by decide +kernel) rfl (Nat.le_refl _) ?_
        exact ⟨by unfold isSg; simp only [eq_false c3, eq_false c9, eq_true c15, decide_true, decide_false, Bool.and_true, Bool.and_false, Bool.true_and, Bool.false_and, Bool.or_true, Bool.or_false, Bool.true_or, Bool.false_or, Bool.not_true, Bool.not_false, if_true, if_false], rfl⟩
theorem k_readWord {G : mG} {h : mH} {P L : Nat} {kd sa vl : Int32} {t : Nat → Int32} {s : Nat} (d : Nat) (hd : 1 ≤ d) (hP : h P = oTap P (nI L) kd sa (nI s) vl) (hT : h (P + 1) = aI 300 t) (hL : L ≤ 300) (hs : s ≤ L) : EV G m_X8_readWord d 0 0 [.ref P] h (RE none (hu h P (oTap P (nI L) 2 sa (nI (sk isLe t L s)) vl))) := by
  refine ev_1_0 rfl (by decide +kernel) (by decide +kernel) ?_
  refine z_ald0 (n := 1) (by decide +kernel) ?_
  refine z_iconst (n := 2) (q := 2) (v := 2) (by decide +kernel) ?_
  refine z_putf (n := 5) (idx := 23) (ty := .int) (by decide +kernel) fl_X8_23 (by first | assumption | (simp (disch := omega) only [hu_s, hu_n]; first | assumption | rfl)) ⟨_, _, _, rfl, rfl, by decide +kernel⟩ rfl rfl (Nat.le_of_ble_eq_true rfl) ?_
  skip
  have le := sk_le (p := isLe) (t := t) (L := L) _ s rfl hs
  have ef := sk_ef (p := isLe) (t := t) (L := L) _ s rfl
  generalize hE : sk isLe t L s = e at le ef
  refine z_heap (h1 := hu h P (oTap P (nI L) 2 sa (nI s) vl)) rfl ?_
  refine loopS (p := isLe) (t := t) (L := L) (e := e) (fun j => Z G m_X8_readWord d 0 0 0 0 5 [some (.ref P)] [] (hu h P (oTap P (nI L) 2 sa (nI j) vl)) (RE none (hu h P (oTap P (nI L) 2 sa (nI e) vl)))) ?_ ?_ _ s rfl hE
  · by_cases c : L ≤ e
    · refine z_ald0 (n := 6) (by decide +kernel) ?_
      refine z_getf (n := 9) (idx := 20) (by decide +kernel) fl_X8_20 (by first | assumption | (simp (disch := omega) only [hu_s, hu_n]; first | assumption | rfl)) (by rfl) ?_
      refine z_ald0 (n := 10) (by decide +kernel) ?_
      refine z_getf (n := 13) (idx := 13) (by decide +kernel) fl_X8_13 (by first | assumption | (simp (disch := omega) only [hu_s, hu_n]; first | assumption | rfl)) (by rfl) ?_
      refine z_icmp_ge_t (n := 16) (off := 31) (tgt := 44) (by decide +kernel) (nI_le c (by omega)) ?_
      refine z_vret (by decide +kernel) rfl (Nat.le_refl _) ?_
      exact ⟨rfl, rfl⟩
    · refine z_ald0 (n := 6) (by decide +kernel) ?_
      refine z_getf (n := 9) (idx := 20) (by decide +kernel) fl_X8_20 (by first | assumption | (simp (disch := omega) only [hu_s, hu_n]; first | assumption | rfl)) (by rfl) ?_
      refine z_ald0 (n := 10) (by decide +kernel) ?_
      refine z_getf (n := 13) (idx := 13) (by decide +kernel) fl_X8_13 (by first | assumption | (simp (disch := omega) only [hu_s, hu_n]; first | assumption | rfl)) (by rfl) ?_
      refine z_icmp_ge_f (n := 16) (off := 31) (tgt := 44) (by decide +kernel) (nI_ge (by omega) (by omega)) ?_
      refine z_ald0 (n := 17) (by decide +kernel) ?_
      refine z_getf (n := 20) (idx := 9) (by decide +kernel) fl_X8_9 (by first | assumption | (simp (disch := omega) only [hu_s, hu_n]; first | assumption | rfl)) (by rfl) ?_
      refine z_ald0 (n := 21) (by decide +kernel) ?_
      refine z_getf (n := 24) (idx := 20) (by decide +kernel) fl_X8_20 (by first | assumption | (simp (disch := omega) only [hu_s, hu_n]; first | assumption | rfl)) (by rfl) ?_
      refine z_iald (n := 25) (by decide +kernel) (by first | assumption | (simp (disch := omega) only [hu_s, hu_n]; first | assumption | rfl)) (by first | assumption | exact ix_nI (by omega) (by omega)) ?_
      refine z_s1 (n := 28) (idx := 30) (by decide +kernel) ml_X8_30 (Nat.le_of_ble_eq_true rfl) (by omega) ⟨Nat.le_refl _, Nat.le_refl _⟩ (k_isLetter 0) ?_
      refine z_ifb_eq_t (n := 31) (off := 16) (tgt := 44) (by decide +kernel) (Bool.eq_false_iff.mpr (fun z => ef ⟨by omega, z⟩)) ?_
      refine z_vret (by decide +kernel) rfl (Nat.le_refl _) ?_
      exact ⟨rfl, rfl⟩
  · intro j j1 j2 ih
    refine z_ald0 (n := 6) (by decide +kernel) ?_
    refine z_getf (n := 9) (idx := 20) (by decide +kernel) fl_X8_20 (by first | assumption | (simp (disch := omega) only [hu_s, hu_n]; first | assumption | rfl)) (by rfl) ?_
    refine z_ald0 (n := 10) (by decide +kernel) ?_
    refine z_getf (n := 13) (idx := 13) (by decide +kernel) fl_X8_13 (by first | assumption | (simp (disch := omega) only [hu_s, hu_n]; first | assumption | rfl)) (by rfl) ?_
    refine z_icmp_ge_f (n := 16) (off := 31) (tgt := 44) (by decide +kernel) (nI_ge j1 (by omega)) ?_
    refine z_ald0 (n := 17) (by decide +kernel) ?_
    refine z_getf (n := 20) (idx := 9) (by decide +kernel) fl_X8_9 (by first | assumption | (simp (disch := omega) only [hu_s, hu_n]; first | assumption | rfl)) (by rfl) ?_
    refine z_ald0 (n := 21) (by decide +kernel) ?_
    refine z_getf (n := 24) (idx := 20) (by decide +kernel) fl_X8_20 (by first | assumption | (simp (disch := omega) only [hu_s, hu_n]; first | assumption | rfl)) (by rfl) ?_
    refine z_iald (n := 25) (by decide +kernel) (by first | assumption | (simp (disch := omega) only [hu_s, hu_n]; first | assumption | rfl)) (by first | assumption | exact ix_nI (by omega) (by omega)) ?_
    refine z_s1 (n := 28) (idx := 30) (by decide +kernel) ml_X8_30 (Nat.le_of_ble_eq_true rfl) (by omega) ⟨Nat.le_refl _, Nat.le_refl _⟩ (k_isLetter 0) ?_
    refine z_ifb_eq_f (n := 31) (off := 16) (tgt := 44) (by decide +kernel) (j2) ?_
    refine z_ald0 (n := 32) (by decide +kernel) ?_
    refine z_dup (n := 33) (by decide +kernel) rfl ?_
    refine z_getf (n := 36) (idx := 20) (by decide +kernel) fl_X8_20 (by first | assumption | (simp (disch := omega) only [hu_s, hu_n]; first | assumption | rfl)) (by rfl) ?_
    refine z_iconst (n := 37) (q := 1) (v := 1) (by decide +kernel) ?_
    refine z_iadd (n := 38) (by decide +kernel) ?_
    refine z_top (nI_1 _) ?_
    refine z_putf (n := 41) (idx := 20) (ty := .int) (by decide +kernel) fl_X8_20 (by first | assumption | (simp (disch := omega) only [hu_s, hu_n]; first | assumption | rfl)) ⟨_, _, _, rfl, rfl, by decide +kernel⟩ rfl rfl (Nat.le_of_ble_eq_true rfl) ?_
    refine z_goto (n := 44) (off := -36) (tgt := 5) (by decide +kernel) ?_
    exact z_heap (by simp only [hu_hu]; rfl) ih
theorem k_readNumber {G : mG} {h : mH} {P L : Nat} {kd sa vl : Int32} {t : Nat → Int32} {s : Nat} (d : Nat) (hd : 1 ≤ d) (hP : h P = oTap P (nI L) kd sa (nI s) vl) (hT : h (P + 1) = aI 300 t) (hL : L ≤ 300) (hs : s ≤ L) : EV G m_X8_readNumber d 0 0 [.ref P] h (RE none (hu h P (oTap P (nI L) 3 sa (nI (sk isDi t L s)) (nmF t s (sk isDi t L s - s))))) := by
  refine ev_1_0 rfl (by decide +kernel) (by decide +kernel) ?_
  refine z_ald0 (n := 1) (by decide +kernel) ?_
  refine z_iconst (n := 2) (q := 3) (v := 3) (by decide +kernel) ?_
  refine z_putf (n := 5) (idx := 23) (ty := .int) (by decide +kernel) fl_X8_23 (by first | assumption | (simp (disch := omega) only [hu_s, hu_n]; first | assumption | rfl)) ⟨_, _, _, rfl, rfl, by decide +kernel⟩ rfl rfl (Nat.le_of_ble_eq_true rfl) ?_
  refine z_ald0 (n := 6) (by decide +kernel) ?_
  refine z_iconst (n := 7) (q := 0) (v := 0) (by decide +kernel) ?_
  refine z_putf (n := 10) (idx := 54) (ty := .int) (by decide +kernel) fl_X8_54 (by first | assumption | (simp (disch := omega) only [hu_s, hu_n]; first | assumption | rfl)) ⟨_, _, _, rfl, rfl, by decide +kernel⟩ rfl rfl (Nat.le_of_ble_eq_true rfl) ?_
  skip
  have le := sk_le (p := isDi) (t := t) (L := L) _ s rfl hs
  have ef := sk_ef (p := isDi) (t := t) (L := L) _ s rfl
  generalize hE : sk isDi t L s = e at le ef
  refine z_heap (h1 := hu h P (oTap P (nI L) 3 sa (nI s) (nmF t s (s - s)))) (by rw [Nat.sub_self]; simp only [hu_hu]; rfl) ?_
  have key : s ≤ s → Z G m_X8_readNumber d 0 0 0 0 10 [some (.ref P)] [] (hu h P (oTap P (nI L) 3 sa (nI s) (nmF t s (s - s)))) (RE none (hu h P (oTap P (nI L) 3 sa (nI e) (nmF t s (e - s))))) := by
    refine loopS (p := isDi) (t := t) (L := L) (e := e) (fun j => s ≤ j → Z G m_X8_readNumber d 0 0 0 0 10 [some (.ref P)] [] (hu h P (oTap P (nI L) 3 sa (nI j) (nmF t s (j - s)))) (RE none (hu h P (oTap P (nI L) 3 sa (nI e) (nmF t s (e - s)))))) ?_ ?_ _ s rfl hE
    · intro _
      by_cases c : L ≤ e
      · refine z_ald0 (n := 11) (by decide +kernel) ?_
        refine z_getf (n := 14) (idx := 20) (by decide +kernel) fl_X8_20 (by first | assumption | (simp (disch := omega) only [hu_s, hu_n]; first | assumption | rfl)) (by rfl) ?_
        refine z_ald0 (n := 15) (by decide +kernel) ?_
        refine z_getf (n := 18) (idx := 13) (by decide +kernel) fl_X8_13 (by first | assumption | (simp (disch := omega) only [hu_s, hu_n]; first | assumption | rfl)) (by rfl) ?_
        refine z_icmp_ge_t (n := 21) (off := 64) (tgt := 82) (by decide +kernel) (nI_le c (by omega)) ?_
        refine z_vret (by decide +kernel) rfl (Nat.le_refl _) ?_
        exact ⟨rfl, rfl⟩
      · refine z_ald0 (n := 11) (by decide +kernel) ?_
        refine z_getf (n := 14) (idx := 20) (by decide +kernel) fl_X8_20 (by first | assumption | (simp (disch := omega) only [hu_s, hu_n]; first | assumption | rfl)) (by rfl) ?_
        refine z_ald0 (n := 15) (by decide +kernel) ?_
        refine z_getf (n := 18) (idx := 13) (by decide +kernel) fl_X8_13 (by first | assumption | (simp (disch := omega) only [hu_s, hu_n]; first | assumption | rfl)) (by rfl) ?_
        refine z_icmp_ge_f (n := 21) (off := 64) (tgt := 82) (by decide +kernel) (nI_ge (by omega) (by omega)) ?_
        refine z_ald0 (n := 22) (by decide +kernel) ?_
        refine z_getf (n := 25) (idx := 9) (by decide +kernel) fl_X8_9 (by first | assumption | (simp (disch := omega) only [hu_s, hu_n]; first | assumption | rfl)) (by rfl) ?_
        refine z_ald0 (n := 26) (by decide +kernel) ?_
        refine z_getf (n := 29) (idx := 20) (by decide +kernel) fl_X8_20 (by first | assumption | (simp (disch := omega) only [hu_s, hu_n]; first | assumption | rfl)) (by rfl) ?_
        refine z_iald (n := 30) (by decide +kernel) (by first | assumption | (simp (disch := omega) only [hu_s, hu_n]; first | assumption | rfl)) (by first | assumption | exact ix_nI (by omega) (by omega)) ?_
        refine z_s1 (n := 33) (idx := 36) (by decide +kernel) ml_X8_36 (Nat.le_of_ble_eq_true rfl) (by omega) ⟨Nat.le_refl _, Nat.le_refl _⟩ (k_isDigit 0) ?_
        refine z_ifb_eq_t (n := 36) (off := 49) (tgt := 82) (by decide +kernel) (Bool.eq_false_iff.mpr (fun z => ef ⟨by omega, z⟩)) ?_
        refine z_vret (by decide +kernel) rfl (Nat.le_refl _) ?_
        exact ⟨rfl, rfl⟩
    · intro j j1 j2 ih hj
      have ih := ih (by omega)
      rw [show j + 1 - s = (j - s) + 1 by omega, show nmF t s (j - s + 1) = if 100000 ≤ nmF t s (j - s) then nmF t s (j - s) else nmF t s (j - s) * 10 + t (s + (j - s)) - 48 from rfl, show s + (j - s) = j by omega] at ih
      generalize nmF t s (j - s) = v9 at ih
      generalize nmF t s (e - s) = w9 at ih
      refine z_ald0 (n := 11) (by decide +kernel) ?_
      refine z_getf (n := 14) (idx := 20) (by decide +kernel) fl_X8_20 (by first | assumption | (simp (disch := omega) only [hu_s, hu_n]; first | assumption | rfl)) (by rfl) ?_
      refine z_ald0 (n := 15) (by decide +kernel) ?_
      refine z_getf (n := 18) (idx := 13) (by decide +kernel) fl_X8_13 (by first | assumption | (simp (disch := omega) only [hu_s, hu_n]; first | assumption | rfl)) (by rfl) ?_
      refine z_icmp_ge_f (n := 21) (off := 64) (tgt := 82) (by decide +kernel) (nI_ge j1 (by omega)) ?_
      refine z_ald0 (n := 22) (by decide +kernel) ?_
      refine z_getf (n := 25) (idx := 9) (by decide +kernel) fl_X8_9 (by first | assumption | (simp (disch := omega) only [hu_s, hu_n]; first | assumption | rfl)) (by rfl) ?_
      refine z_ald0 (n := 26) (by decide +kernel) ?_
      refine z_getf (n := 29) (idx := 20) (by decide +kernel) fl_X8_20 (by first | assumption | (simp (disch := omega) only [hu_s, hu_n]; first | assumption | rfl)) (by rfl) ?_
      refine z_iald (n := 30) (by decide +kernel) (by first | assumption | (simp (disch := omega) only [hu_s, hu_n]; first | assumption | rfl)) (by first | assumption | exact ix_nI (by omega) (by omega)) ?_
      refine z_s1 (n := 33) (idx := 36) (by decide +kernel) ml_X8_36 (Nat.le_of_ble_eq_true rfl) (by omega) ⟨Nat.le_refl _, Nat.le_refl _⟩ (k_isDigit 0) ?_
      refine z_ifb_eq_f (n := 36) (off := 49) (tgt := 82) (by decide +kernel) (j2) ?_
      refine z_ald0 (n := 37) (by decide +kernel) ?_
      refine z_getf (n := 40) (idx := 54) (by decide +kernel) fl_X8_54 (by first | assumption | (simp (disch := omega) only [hu_s, hu_n]; first | assumption | rfl)) (by rfl) ?_
      refine z_ldc (n := 42) (q := 57) (by decide +kernel) lc_X8_57 ?_
      refine z_icmp_ge (n := 45) (off := 27) (tgt := 69) (by decide +kernel) (fun c42 => ?_) (fun c42 => ?_)
      · refine z_ald0 (n := 70) (by decide +kernel) ?_
        refine z_dup (n := 71) (by decide +kernel) rfl ?_
        refine z_getf (n := 74) (idx := 20) (by decide +kernel) fl_X8_20 (by first | assumption | (simp (disch := omega) only [hu_s, hu_n]; first | assumption | rfl)) (by rfl) ?_
        refine z_iconst (n := 75) (q := 1) (v := 1) (by decide +kernel) ?_
        refine z_iadd (n := 76) (by decide +kernel) ?_
        refine z_top (nI_1 _) ?_
        refine z_putf (n := 79) (idx := 20) (ty := .int) (by decide +kernel) fl_X8_20 (by first | assumption | (simp (disch := omega) only [hu_s, hu_n]; first | assumption | rfl)) ⟨_, _, _, rfl, rfl, by decide +kernel⟩ rfl rfl (Nat.le_of_ble_eq_true rfl) ?_
        refine z_goto (n := 82) (off := -69) (tgt := 10) (by decide +kernel) ?_
        first | (rw [if_pos (show (100000 : Int32) ≤ v9 from c42)] at ih; exact z_heap (by simp only [hu_hu]; rfl) ih) | (rw [if_neg (show ¬ (100000 : Int32) ≤ v9 from c42)] at ih; exact z_heap (by simp only [hu_hu]; rfl) ih)
      · refine z_ald0 (n := 46) (by decide +kernel) ?_
        refine z_ald0 (n := 47) (by decide +kernel) ?_
        refine z_getf (n := 50) (idx := 54) (by decide +kernel) fl_X8_54 (by first | assumption | (simp (disch := omega) only [hu_s, hu_n]; first | assumption | rfl)) (by rfl) ?_
        refine z_bipush (n := 52) (q := 10) (v := 10) (by decide +kernel) ?_
        refine z_imul (n := 53) (by decide +kernel) ?_
        refine z_ald0 (n := 54) (by decide +kernel) ?_
        refine z_getf (n := 57) (idx := 9) (by decide +kernel) fl_X8_9 (by first | assumption | (simp (disch := omega) only [hu_s, hu_n]; first | assumption | rfl)) (by rfl) ?_
        refine z_ald0 (n := 58) (by decide +kernel) ?_
        refine z_getf (n := 61) (idx := 20) (by decide +kernel) fl_X8_20 (by first | assumption | (simp (disch := omega) only [hu_s, hu_n]; first | assumption | rfl)) (by rfl) ?_
        refine z_iald (n := 62) (by decide +kernel) (by first | assumption | (simp (disch := omega) only [hu_s, hu_n]; first | assumption | rfl)) (by first | assumption | exact ix_nI (by omega) (by omega)) ?_
        refine z_iadd (n := 63) (by decide +kernel) ?_
        refine z_bipush (n := 65) (q := 48) (v := 48) (by decide +kernel) ?_
        refine z_isub (n := 66) (by decide +kernel) ?_
        refine z_putf (n := 69) (idx := 54) (ty := .int) (by decide +kernel) fl_X8_54 (by first | assumption | (simp (disch := omega) only [hu_s, hu_n]; first | assumption | rfl)) ⟨_, _, _, rfl, rfl, by decide +kernel⟩ rfl rfl (Nat.le_of_ble_eq_true rfl) ?_
        refine z_ald0 (n := 70) (by decide +kernel) ?_
        refine z_dup (n := 71) (by decide +kernel) rfl ?_
        refine z_getf (n := 74) (idx := 20) (by decide +kernel) fl_X8_20 (by first | assumption | (simp (disch := omega) only [hu_s, hu_n]; first | assumption | rfl)) (by rfl) ?_
        refine z_iconst (n := 75) (q := 1) (v := 1) (by decide +kernel) ?_
        refine z_iadd (n := 76) (by decide +kernel) ?_
        refine z_top (nI_1 _) ?_
        refine z_putf (n := 79) (idx := 20) (ty := .int) (by decide +kernel) fl_X8_20 (by first | assumption | (simp (disch := omega) only [hu_s, hu_n]; first | assumption | rfl)) ⟨_, _, _, rfl, rfl, by decide +kernel⟩ rfl rfl (Nat.le_of_ble_eq_true rfl) ?_
        refine z_goto (n := 82) (off := -69) (tgt := 10) (by decide +kernel) ?_
        first | (rw [if_pos (show (100000 : Int32) ≤ v9 from c42)] at ih; exact z_heap (by simp only [hu_hu]; rfl) ih) | (rw [if_neg (show ¬ (100000 : Int32) ≤ v9 from c42)] at ih; exact z_heap (by simp only [hu_hu]; rfl) ih)
  exact key (Nat.le_refl _)
/-- the tape with the token at k read -/
def oTok (P : Nat) (t : Nat → Int32) (L k : Nat) (vl : Int32) : mE := oTap P (nI L) (nI (tC t L k)) (nI (tS t L k)) (nI (tE t L k)) (if tC t L k = 3 then tV t L k else vl)
theorem isDi_Le {b : Int32} (h : isDi b = true) : isLe b = false := by
  revert h
  unfold isDi isLe win
  intro q2
  simp only [Bool.and_eq_true, Bool.not_eq_true', decide_eq_false_iff_not, Int32.not_lt] at q2
  have a1 : b < 97 := Int32.lt_of_le_of_lt q2.2 (by decide)
  have a2 : b < 65 := Int32.lt_of_le_of_lt q2.2 (by decide)
  simp only [eq_true a1, eq_true a2, decide_true, Bool.not_true, Bool.false_and, Bool.or_self]
theorem k_readToken {G : mG} {h : mH} {P L : Nat} {kd sa vl : Int32} {t : Nat → Int32} {k : Nat} (d : Nat) (hd : 2 ≤ d) (hP : h P = oTap P (nI L) kd sa (nI k) vl) (hT : h (P + 1) = aI 300 t) (hL : L ≤ 300) (hk : k ≤ L) : EV G m_X8_readToken d 0 0 [.ref P] h (RE none (hu h P (oTok P t L k vl))) := by
  have le : tS t L k ≤ L := sk_le (p := isBl) (t := t) (L := L) _ k rfl hk
  have fin : Z G m_X8_readToken d 0 0 0 0 47 [some (.ref P)] [] (hu h P (oTap P (nI L) kd (nI (tS t L k)) (nI k) vl)) (RE none (hu h P (oTok P t L k vl))) := by
    by_cases c : L ≤ tS t L k
    · have e9 : oTok P t L k vl = oTap P (nI L) 0 (nI (tS t L k)) (nI (tS t L k)) vl := by unfold oTok tC tE; rw [if_pos c, if_pos c, if_neg (by decide)]; rfl
      rw [e9]
      generalize tS t L k = s at *
      refine z_ald0 (n := 48) (by decide +kernel) ?_
      refine z_ald0 (n := 49) (by decide +kernel) ?_
      refine z_getf (n := 52) (idx := 17) (by decide +kernel) fl_X8_17 (by first | assumption | (simp (disch := omega) only [hu_s, hu_n]; first | assumption | rfl)) (by rfl) ?_
      refine z_putf (n := 55) (idx := 20) (ty := .int) (by decide +kernel) fl_X8_20 (by first | assumption | (simp (disch := omega) only [hu_s, hu_n]; first | assumption | rfl)) ⟨_, _, _, rfl, rfl, by decide +kernel⟩ rfl rfl (Nat.le_of_ble_eq_true rfl) ?_
      refine z_ald0 (n := 56) (by decide +kernel) ?_
      refine z_getf (n := 59) (idx := 17) (by decide +kernel) fl_X8_17 (by first | assumption | (simp (disch := omega) only [hu_s, hu_n]; first | assumption | rfl)) (by rfl) ?_
      refine z_ald0 (n := 60) (by decide +kernel) ?_
      refine z_getf (n := 63) (idx := 13) (by decide +kernel) fl_X8_13 (by first | assumption | (simp (disch := omega) only [hu_s, hu_n]; first | assumption | rfl)) (by rfl) ?_
      refine z_icmp_lt_f (n := 66) (off := 11) (tgt := 74) (by decide +kernel) (nI_nlt c (by omega)) ?_
      refine z_ald0 (n := 67) (by decide +kernel) ?_
      refine z_iconst (n := 68) (q := 0) (v := 0) (by decide +kernel) ?_
      refine z_putf (n := 71) (idx := 23) (ty := .int) (by decide +kernel) fl_X8_23 (by first | assumption | (simp (disch := omega) only [hu_s, hu_n]; first | assumption | rfl)) ⟨_, _, _, rfl, rfl, by decide +kernel⟩ rfl rfl (Nat.le_of_ble_eq_true rfl) ?_
      refine z_goto (n := 74) (off := 81) (tgt := 152) (by decide +kernel) ?_
      refine z_vret (by decide +kernel) rfl (Nat.le_refl _) ?_
      exact ⟨rfl, by simp only [hu_hu]; rfl⟩
    · by_cases cl : isLe (t (tS t L k)) = true
      · have e9 : oTok P t L k vl = oTap P (nI L) 2 (nI (tS t L k)) (nI (sk isLe t L (tS t L k))) vl := by unfold oTok tC tE; rw [if_neg c, if_neg c, if_pos cl, if_pos cl, if_neg (by decide)]; rfl
        rw [e9]
        generalize tS t L k = s at *
        refine z_ald0 (n := 48) (by decide +kernel) ?_
        refine z_ald0 (n := 49) (by decide +kernel) ?_
        refine z_getf (n := 52) (idx := 17) (by decide +kernel) fl_X8_17 (by first | assumption | (simp (disch := omega) only [hu_s, hu_n]; first | assumption | rfl)) (by rfl) ?_
        refine z_putf (n := 55) (idx := 20) (ty := .int) (by decide +kernel) fl_X8_20 (by first | assumption | (simp (disch := omega) only [hu_s, hu_n]; first | assumption | rfl)) ⟨_, _, _, rfl, rfl, by decide +kernel⟩ rfl rfl (Nat.le_of_ble_eq_true rfl) ?_
        refine z_ald0 (n := 56) (by decide +kernel) ?_
        refine z_getf (n := 59) (idx := 17) (by decide +kernel) fl_X8_17 (by first | assumption | (simp (disch := omega) only [hu_s, hu_n]; first | assumption | rfl)) (by rfl) ?_
        refine z_ald0 (n := 60) (by decide +kernel) ?_
        refine z_getf (n := 63) (idx := 13) (by decide +kernel) fl_X8_13 (by first | assumption | (simp (disch := omega) only [hu_s, hu_n]; first | assumption | rfl)) (by rfl) ?_
        refine z_icmp_lt_t (n := 66) (off := 11) (tgt := 74) (by decide +kernel) (nI_lt (by omega) (by omega)) ?_
        refine z_ald0 (n := 75) (by decide +kernel) ?_
        refine z_getf (n := 78) (idx := 9) (by decide +kernel) fl_X8_9 (by first | assumption | (simp (disch := omega) only [hu_s, hu_n]; first | assumption | rfl)) (by rfl) ?_
        refine z_ald0 (n := 79) (by decide +kernel) ?_
        refine z_getf (n := 82) (idx := 17) (by decide +kernel) fl_X8_17 (by first | assumption | (simp (disch := omega) only [hu_s, hu_n]; first | assumption | rfl)) (by rfl) ?_
        refine z_iald (n := 83) (by decide +kernel) (by first | assumption | (simp (disch := omega) only [hu_s, hu_n]; first | assumption | rfl)) (by first | assumption | exact ix_nI (by omega) (by omega)) ?_
        refine z_s1 (n := 86) (idx := 30) (by decide +kernel) ml_X8_30 (Nat.le_of_ble_eq_true rfl) (by omega) ⟨Nat.le_refl _, Nat.le_refl _⟩ (k_isLetter 0) ?_
        refine z_ifb_eq_f (n := 89) (off := 10) (tgt := 96) (by decide +kernel) (cl) ?_
        refine z_ald0 (n := 90) (by decide +kernel) ?_
        refine z_v0v (n := 93) (idx := 33) (by decide +kernel) ml_X8_33 (by first | assumption | (simp (disch := omega) only [hu_s, hu_n]; first | assumption | rfl)) rfl (Nat.le_of_ble_eq_true rfl) (by omega) ⟨Nat.le_refl _, Nat.le_refl _⟩ (k_readWord (s := s) (t := t) (L := L) (sa := nI s) (vl := vl) 1 (by omega) (by simp (disch := omega) only [hTn, hCr, hFl, hu_s, hu_n]; first | done | assumption | rfl) (by simp (disch := omega) only [hTn, hCr, hFl, hu_s, hu_n]; first | done | assumption | rfl) hL le) ?_
        refine z_goto (n := 96) (off := 59) (tgt := 152) (by decide +kernel) ?_
        refine z_vret (by decide +kernel) rfl (Nat.le_refl _) ?_
        exact ⟨rfl, by simp only [hu_hu]⟩
      by_cases cd : isDi (t (tS t L k)) = true
      · have e9 : oTok P t L k vl = oTap P (nI L) 3 (nI (tS t L k)) (nI (sk isDi t L (tS t L k))) (nmF t (tS t L k) (sk isDi t L (tS t L k) - tS t L k)) := by unfold oTok tC tV tE; rw [if_neg c, if_neg c, if_neg cl, if_neg cl, if_pos cd, if_pos cd, if_pos rfl]; rfl
        rw [e9]
        generalize tS t L k = s at *
        refine z_ald0 (n := 48) (by decide +kernel) ?_
        refine z_ald0 (n := 49) (by decide +kernel) ?_
        refine z_getf (n := 52) (idx := 17) (by decide +kernel) fl_X8_17 (by first | assumption | (simp (disch := omega) only [hu_s, hu_n]; first | assumption | rfl)) (by rfl) ?_
        refine z_putf (n := 55) (idx := 20) (ty := .int) (by decide +kernel) fl_X8_20 (by first | assumption | (simp (disch := omega) only [hu_s, hu_n]; first | assumption | rfl)) ⟨_, _, _, rfl, rfl, by decide +kernel⟩ rfl rfl (Nat.le_of_ble_eq_true rfl) ?_
        refine z_ald0 (n := 56) (by decide +kernel) ?_
        refine z_getf (n := 59) (idx := 17) (by decide +kernel) fl_X8_17 (by first | assumption | (simp (disch := omega) only [hu_s, hu_n]; first | assumption | rfl)) (by rfl) ?_
        refine z_ald0 (n := 60) (by decide +kernel) ?_
        refine z_getf (n := 63) (idx := 13) (by decide +kernel) fl_X8_13 (by first | assumption | (simp (disch := omega) only [hu_s, hu_n]; first | assumption | rfl)) (by rfl) ?_
        refine z_icmp_lt_t (n := 66) (off := 11) (tgt := 74) (by decide +kernel) (nI_lt (by omega) (by omega)) ?_
        refine z_ald0 (n := 75) (by decide +kernel) ?_
        refine z_getf (n := 78) (idx := 9) (by decide +kernel) fl_X8_9 (by first | assumption | (simp (disch := omega) only [hu_s, hu_n]; first | assumption | rfl)) (by rfl) ?_
        refine z_ald0 (n := 79) (by decide +kernel) ?_
        refine z_getf (n := 82) (idx := 17) (by decide +kernel) fl_X8_17 (by first | assumption | (simp (disch := omega) only [hu_s, hu_n]; first | assumption | rfl)) (by rfl) ?_
        refine z_iald (n := 83) (by decide +kernel) (by first | assumption | (simp (disch := omega) only [hu_s, hu_n]; first | assumption | rfl)) (by first | assumption | exact ix_nI (by omega) (by omega)) ?_
        refine z_s1 (n := 86) (idx := 30) (by decide +kernel) ml_X8_30 (Nat.le_of_ble_eq_true rfl) (by omega) ⟨Nat.le_refl _, Nat.le_refl _⟩ (k_isLetter 0) ?_
        refine z_ifb_eq_t (n := 89) (off := 10) (tgt := 96) (by decide +kernel) (Bool.eq_false_iff.mpr cl) ?_
        refine z_ald0 (n := 97) (by decide +kernel) ?_
        refine z_getf (n := 100) (idx := 9) (by decide +kernel) fl_X8_9 (by first | assumption | (simp (disch := omega) only [hu_s, hu_n]; first | assumption | rfl)) (by rfl) ?_
        refine z_ald0 (n := 101) (by decide +kernel) ?_
        refine z_getf (n := 104) (idx := 17) (by decide +kernel) fl_X8_17 (by first | assumption | (simp (disch := omega) only [hu_s, hu_n]; first | assumption | rfl)) (by rfl) ?_
        refine z_iald (n := 105) (by decide +kernel) (by first | assumption | (simp (disch := omega) only [hu_s, hu_n]; first | assumption | rfl)) (by first | assumption | exact ix_nI (by omega) (by omega)) ?_
        refine z_s1 (n := 108) (idx := 36) (by decide +kernel) ml_X8_36 (Nat.le_of_ble_eq_true rfl) (by omega) ⟨Nat.le_refl _, Nat.le_refl _⟩ (k_isDigit 0) ?_
        refine z_ifb_eq_f (n := 111) (off := 10) (tgt := 118) (by decide +kernel) (cd) ?_
        refine z_ald0 (n := 112) (by decide +kernel) ?_
        refine z_v0v (n := 115) (idx := 39) (by decide +kernel) ml_X8_39 (by first | assumption | (simp (disch := omega) only [hu_s, hu_n]; first | assumption | rfl)) rfl (Nat.le_of_ble_eq_true rfl) (by omega) ⟨Nat.le_refl _, Nat.le_refl _⟩ (k_readNumber (s := s) (t := t) (L := L) (sa := nI s) 1 (by omega) (by simp (disch := omega) only [hTn, hCr, hFl, hu_s, hu_n]; first | done | assumption | rfl) (by simp (disch := omega) only [hTn, hCr, hFl, hu_s, hu_n]; first | done | assumption | rfl) hL le) ?_
        refine z_goto (n := 118) (off := 37) (tgt := 152) (by decide +kernel) ?_
        refine z_vret (by decide +kernel) rfl (Nat.le_refl _) ?_
        exact ⟨rfl, by simp only [hu_hu]⟩
      · have e9 : oTok P t L k vl = oTap P (nI L) (if isSg (t (tS t L k)) = true then 4 else 1) (nI (tS t L k)) (nI (tS t L k + 1)) vl := by
          unfold oTok tC tE
          rw [if_neg c, if_neg c, if_neg cl, if_neg cl, if_neg cd, if_neg cd]
          by_cases cs : isSg (t (tS t L k)) = true
          · rw [if_pos cs, if_pos cs, if_neg (by decide)]; rfl
          · rw [if_neg cs, if_neg cs, if_neg (by decide)]; rfl
        rw [e9]
        generalize tS t L k = s at *
        refine z_ald0 (n := 48) (by decide +kernel) ?_
        refine z_ald0 (n := 49) (by decide +kernel) ?_
        refine z_getf (n := 52) (idx := 17) (by decide +kernel) fl_X8_17 (by first | assumption | (simp (disch := omega) only [hu_s, hu_n]; first | assumption | rfl)) (by rfl) ?_
        refine z_putf (n := 55) (idx := 20) (ty := .int) (by decide +kernel) fl_X8_20 (by first | assumption | (simp (disch := omega) only [hu_s, hu_n]; first | assumption | rfl)) ⟨_, _, _, rfl, rfl, by decide +kernel⟩ rfl rfl (Nat.le_of_ble_eq_true rfl) ?_
        refine z_ald0 (n := 56) (by decide +kernel) ?_
        refine z_getf (n := 59) (idx := 17) (by decide +kernel) fl_X8_17 (by first | assumption | (simp (disch := omega) only [hu_s, hu_n]; first | assumption | rfl)) (by rfl) ?_
        refine z_ald0 (n := 60) (by decide +kernel) ?_
        refine z_getf (n := 63) (idx := 13) (by decide +kernel) fl_X8_13 (by first | assumption | (simp (disch := omega) only [hu_s, hu_n]; first | assumption | rfl)) (by rfl) ?_
        refine z_icmp_lt_t (n := 66) (off := 11) (tgt := 74) (by decide +kernel) (nI_lt (by omega) (by omega)) ?_
        refine z_ald0 (n := 75) (by decide +kernel) ?_
        refine z_getf (n := 78) (idx := 9) (by decide +kernel) fl_X8_9 (by first | assumption | (simp (disch := omega) only [hu_s, hu_n]; first | assumption | rfl)) (by rfl) ?_
        refine z_ald0 (n := 79) (by decide +kernel) ?_
        refine z_getf (n := 82) (idx := 17) (by decide +kernel) fl_X8_17 (by first | assumption | (simp (disch := omega) only [hu_s, hu_n]; first | assumption | rfl)) (by rfl) ?_
        refine z_iald (n := 83) (by decide +kernel) (by first | assumption | (simp (disch := omega) only [hu_s, hu_n]; first | assumption | rfl)) (by first | assumption | exact ix_nI (by omega) (by omega)) ?_
        refine z_s1 (n := 86) (idx := 30) (by decide +kernel) ml_X8_30 (Nat.le_of_ble_eq_true rfl) (by omega) ⟨Nat.le_refl _, Nat.le_refl _⟩ (k_isLetter 0) ?_
        refine z_ifb_eq_t (n := 89) (off := 10) (tgt := 96) (by decide +kernel) (Bool.eq_false_iff.mpr cl) ?_
        refine z_ald0 (n := 97) (by decide +kernel) ?_
        refine z_getf (n := 100) (idx := 9) (by decide +kernel) fl_X8_9 (by first | assumption | (simp (disch := omega) only [hu_s, hu_n]; first | assumption | rfl)) (by rfl) ?_
        refine z_ald0 (n := 101) (by decide +kernel) ?_
        refine z_getf (n := 104) (idx := 17) (by decide +kernel) fl_X8_17 (by first | assumption | (simp (disch := omega) only [hu_s, hu_n]; first | assumption | rfl)) (by rfl) ?_
        refine z_iald (n := 105) (by decide +kernel) (by first | assumption | (simp (disch := omega) only [hu_s, hu_n]; first | assumption | rfl)) (by first | assumption | exact ix_nI (by omega) (by omega)) ?_
        refine z_s1 (n := 108) (idx := 36) (by decide +kernel) ml_X8_36 (Nat.le_of_ble_eq_true rfl) (by omega) ⟨Nat.le_refl _, Nat.le_refl _⟩ (k_isDigit 0) ?_
        refine z_ifb_eq_t (n := 111) (off := 10) (tgt := 118) (by decide +kernel) (Bool.eq_false_iff.mpr cd) ?_
        refine z_ald0 (n := 119) (by decide +kernel) ?_
        refine z_ald0 (n := 120) (by decide +kernel) ?_
        refine z_getf (n := 123) (idx := 9) (by decide +kernel) fl_X8_9 (by first | assumption | (simp (disch := omega) only [hu_s, hu_n]; first | assumption | rfl)) (by rfl) ?_
        refine z_ald0 (n := 124) (by decide +kernel) ?_
        refine z_getf (n := 127) (idx := 17) (by decide +kernel) fl_X8_17 (by first | assumption | (simp (disch := omega) only [hu_s, hu_n]; first | assumption | rfl)) (by rfl) ?_
        refine z_iald (n := 128) (by decide +kernel) (by first | assumption | (simp (disch := omega) only [hu_s, hu_n]; first | assumption | rfl)) (by first | assumption | exact ix_nI (by omega) (by omega)) ?_
        refine z_s1 (n := 131) (idx := 42) (by decide +kernel) ml_X8_42 (Nat.le_of_ble_eq_true rfl) (by omega) ⟨Nat.le_refl _, Nat.le_refl _⟩ (k_isSignByte 0) ?_
        refine z_ifb_eq (n := 134) (off := 7) (tgt := 138) (by decide +kernel) (fun c131 => ?_) (fun c131 => ?_)
        · refine z_iconst (n := 139) (q := 1) (v := 1) (by decide +kernel) ?_
          refine z_putf (n := 142) (idx := 23) (ty := .int) (by decide +kernel) fl_X8_23 (by first | assumption | (simp (disch := omega) only [hu_s, hu_n]; first | assumption | rfl)) ⟨_, _, _, rfl, rfl, by decide +kernel⟩ rfl rfl (Nat.le_of_ble_eq_true rfl) ?_
          refine z_ald0 (n := 143) (by decide +kernel) ?_
          refine z_dup (n := 144) (by decide +kernel) rfl ?_
          refine z_getf (n := 147) (idx := 20) (by decide +kernel) fl_X8_20 (by first | assumption | (simp (disch := omega) only [hu_s, hu_n]; first | assumption | rfl)) (by rfl) ?_
          refine z_iconst (n := 148) (q := 1) (v := 1) (by decide +kernel) ?_
          refine z_iadd (n := 149) (by decide +kernel) ?_
          refine z_top (nI_1 _) ?_
          refine z_putf (n := 152) (idx := 20) (ty := .int) (by decide +kernel) fl_X8_20 (by first | assumption | (simp (disch := omega) only [hu_s, hu_n]; first | assumption | rfl)) ⟨_, _, _, rfl, rfl, by decide +kernel⟩ rfl rfl (Nat.le_of_ble_eq_true rfl) ?_
          refine z_vret (by decide +kernel) rfl (Nat.le_refl _) ?_
          first | exact ⟨rfl, by rw [if_pos c131]; simp only [hu_hu]; rfl⟩ | exact ⟨rfl, by rw [if_neg (Bool.eq_false_iff.mp c131)]; simp only [hu_hu]; rfl⟩
        · refine z_iconst (n := 135) (q := 4) (v := 4) (by decide +kernel) ?_
          refine z_goto (n := 138) (off := 4) (tgt := 139) (by decide +kernel) ?_
          refine z_putf (n := 142) (idx := 23) (ty := .int) (by decide +kernel) fl_X8_23 (by first | assumption | (simp (disch := omega) only [hu_s, hu_n]; first | assumption | rfl)) ⟨_, _, _, rfl, rfl, by decide +kernel⟩ rfl rfl (Nat.le_of_ble_eq_true rfl) ?_
          refine z_ald0 (n := 143) (by decide +kernel) ?_
          refine z_dup (n := 144) (by decide +kernel) rfl ?_
          refine z_getf (n := 147) (idx := 20) (by decide +kernel) fl_X8_20 (by first | assumption | (simp (disch := omega) only [hu_s, hu_n]; first | assumption | rfl)) (by rfl) ?_
          refine z_iconst (n := 148) (q := 1) (v := 1) (by decide +kernel) ?_
          refine z_iadd (n := 149) (by decide +kernel) ?_
          refine z_top (nI_1 _) ?_
          refine z_putf (n := 152) (idx := 20) (ty := .int) (by decide +kernel) fl_X8_20 (by first | assumption | (simp (disch := omega) only [hu_s, hu_n]; first | assumption | rfl)) ⟨_, _, _, rfl, rfl, by decide +kernel⟩ rfl rfl (Nat.le_of_ble_eq_true rfl) ?_
          refine z_vret (by decide +kernel) rfl (Nat.le_refl _) ?_
          first | exact ⟨rfl, by rw [if_pos c131]; simp only [hu_hu]; rfl⟩ | exact ⟨rfl, by rw [if_neg (Bool.eq_false_iff.mp c131)]; simp only [hu_hu]; rfl⟩
  refine ev_1_0 rfl (by decide +kernel) (by decide +kernel) ?_
  refine z_ald0 (n := 1) (by decide +kernel) ?_
  refine z_ald0 (n := 2) (by decide +kernel) ?_
  refine z_getf (n := 5) (idx := 20) (by decide +kernel) fl_X8_20 (by first | assumption | (simp (disch := omega) only [hu_s, hu_n]; first | assumption | rfl)) (by rfl) ?_
  refine z_putf (n := 8) (idx := 17) (ty := .int) (by decide +kernel) fl_X8_17 (by first | assumption | (simp (disch := omega) only [hu_s, hu_n]; first | assumption | rfl)) ⟨_, _, _, rfl, rfl, by decide +kernel⟩ rfl rfl (Nat.le_of_ble_eq_true rfl) ?_
  skip
  have ef := sk_ef (p := isBl) (t := t) (L := L) _ k rfl
  generalize hE : tS t L k = e at *
  have hE' : sk isBl t L k = e := hE
  rw [hE'] at ef
  generalize oTok P t L k vl = o9 at *
  refine z_heap (h1 := hu h P (oTap P (nI L) kd (nI k) (nI k) vl)) rfl ?_
  refine loopS (p := isBl) (t := t) (L := L) (e := e) (fun j => Z G m_X8_readToken d 0 0 0 0 8 [some (.ref P)] [] (hu h P (oTap P (nI L) kd (nI j) (nI k) vl)) (RE none (hu h P o9))) ?_ ?_ _ k rfl hE'
  · by_cases c : L ≤ e
    · refine z_ald0 (n := 9) (by decide +kernel) ?_
      refine z_getf (n := 12) (idx := 17) (by decide +kernel) fl_X8_17 (by first | assumption | (simp (disch := omega) only [hu_s, hu_n]; first | assumption | rfl)) (by rfl) ?_
      refine z_ald0 (n := 13) (by decide +kernel) ?_
      refine z_getf (n := 16) (idx := 13) (by decide +kernel) fl_X8_13 (by first | assumption | (simp (disch := omega) only [hu_s, hu_n]; first | assumption | rfl)) (by rfl) ?_
      refine z_icmp_ge_t (n := 19) (off := 31) (tgt := 47) (by decide +kernel) (nI_le c (by omega)) ?_
      exact fin
    · refine z_ald0 (n := 9) (by decide +kernel) ?_
      refine z_getf (n := 12) (idx := 17) (by decide +kernel) fl_X8_17 (by first | assumption | (simp (disch := omega) only [hu_s, hu_n]; first | assumption | rfl)) (by rfl) ?_
      refine z_ald0 (n := 13) (by decide +kernel) ?_
      refine z_getf (n := 16) (idx := 13) (by decide +kernel) fl_X8_13 (by first | assumption | (simp (disch := omega) only [hu_s, hu_n]; first | assumption | rfl)) (by rfl) ?_
      refine z_icmp_ge_f (n := 19) (off := 31) (tgt := 47) (by decide +kernel) (nI_ge (by omega) (by omega)) ?_
      refine z_ald0 (n := 20) (by decide +kernel) ?_
      refine z_getf (n := 23) (idx := 9) (by decide +kernel) fl_X8_9 (by first | assumption | (simp (disch := omega) only [hu_s, hu_n]; first | assumption | rfl)) (by rfl) ?_
      refine z_ald0 (n := 24) (by decide +kernel) ?_
      refine z_getf (n := 27) (idx := 17) (by decide +kernel) fl_X8_17 (by first | assumption | (simp (disch := omega) only [hu_s, hu_n]; first | assumption | rfl)) (by rfl) ?_
      refine z_iald (n := 28) (by decide +kernel) (by first | assumption | (simp (disch := omega) only [hu_s, hu_n]; first | assumption | rfl)) (by first | assumption | exact ix_nI (by omega) (by omega)) ?_
      refine z_s1 (n := 31) (idx := 26) (by decide +kernel) ml_X8_26 (Nat.le_of_ble_eq_true rfl) (by omega) ⟨Nat.le_refl _, Nat.le_refl _⟩ (k_isBlank 0) ?_
      refine z_ifb_eq_t (n := 34) (off := 16) (tgt := 47) (by decide +kernel) (Bool.eq_false_iff.mpr (fun z => ef ⟨by omega, z⟩)) ?_
      exact fin
  · intro j j1 j2 ih
    clear fin
    refine z_ald0 (n := 9) (by decide +kernel) ?_
    refine z_getf (n := 12) (idx := 17) (by decide +kernel) fl_X8_17 (by first | assumption | (simp (disch := omega) only [hu_s, hu_n]; first | assumption | rfl)) (by rfl) ?_
    refine z_ald0 (n := 13) (by decide +kernel) ?_
    refine z_getf (n := 16) (idx := 13) (by decide +kernel) fl_X8_13 (by first | assumption | (simp (disch := omega) only [hu_s, hu_n]; first | assumption | rfl)) (by rfl) ?_
    refine z_icmp_ge_f (n := 19) (off := 31) (tgt := 47) (by decide +kernel) (nI_ge j1 (by omega)) ?_
    refine z_ald0 (n := 20) (by decide +kernel) ?_
    refine z_getf (n := 23) (idx := 9) (by decide +kernel) fl_X8_9 (by first | assumption | (simp (disch := omega) only [hu_s, hu_n]; first | assumption | rfl)) (by rfl) ?_
    refine z_ald0 (n := 24) (by decide +kernel) ?_
    refine z_getf (n := 27) (idx := 17) (by decide +kernel) fl_X8_17 (by first | assumption | (simp (disch := omega) only [hu_s, hu_n]; first | assumption | rfl)) (by rfl) ?_
    refine z_iald (n := 28) (by decide +kernel) (by first | assumption | (simp (disch := omega) only [hu_s, hu_n]; first | assumption | rfl)) (by first | assumption | exact ix_nI (by omega) (by omega)) ?_
    refine z_s1 (n := 31) (idx := 26) (by decide +kernel) ml_X8_26 (Nat.le_of_ble_eq_true rfl) (by omega) ⟨Nat.le_refl _, Nat.le_refl _⟩ (k_isBlank 0) ?_
    refine z_ifb_eq_f (n := 34) (off := 16) (tgt := 47) (by decide +kernel) (j2) ?_
    refine z_ald0 (n := 35) (by decide +kernel) ?_
    refine z_dup (n := 36) (by decide +kernel) rfl ?_
    refine z_getf (n := 39) (idx := 17) (by decide +kernel) fl_X8_17 (by first | assumption | (simp (disch := omega) only [hu_s, hu_n]; first | assumption | rfl)) (by rfl) ?_
    refine z_iconst (n := 40) (q := 1) (v := 1) (by decide +kernel) ?_
    refine z_iadd (n := 41) (by decide +kernel) ?_
    refine z_top (nI_1 _) ?_
    refine z_putf (n := 44) (idx := 17) (ty := .int) (by decide +kernel) fl_X8_17 (by first | assumption | (simp (disch := omega) only [hu_s, hu_n]; first | assumption | rfl)) ⟨_, _, _, rfl, rfl, by decide +kernel⟩ rfl rfl (Nat.le_of_ble_eq_true rfl) ?_
    refine z_goto (n := 47) (off := -36) (tgt := 8) (by decide +kernel) ?_
    exact z_heap (by simp only [hu_hu]; rfl) ih
theorem tC_lt {t : Nat → Int32} {L k : Nat} (h : ¬ tC t L k = 0) : tS t L k < L := Nat.lt_of_not_le (fun z => h (by unfold tC; rw [if_pos z]))
theorem tC_b (t : Nat → Int32) (L k : Nat) : tC t L k ≤ 4 := by unfold tC; (repeat' split) <;> omega
theorem k_isSign {G : mG} {h : mH} {P L k : Nat} {vl c : Int32} {t : Nat → Int32} (d : Nat) (hP : h P = oTok P t L k vl) (hT : h (P + 1) = aI 300 t) (hL : L ≤ 300) : EV G m_X8_isSign d 0 0 [.ref P, .int c] h (RE (some (.int (bI (sgn t L k c)))) h) := by
  refine ev_2_0 rfl rfl (by decide +kernel) (by decide +kernel) ?_
  unfold oTok at hP
  have b4 := tC_b t L k
  by_cases h4 : tC t L k = 4
  · have hs := tC_lt (t := t) (L := L) (k := k) (by omega)
    refine z_ald0 (n := 1) (by decide +kernel) ?_
    refine z_getf (n := 4) (idx := 23) (by decide +kernel) fl_X8_23 (by assumption) (by rfl) ?_
    refine z_iconst (n := 5) (q := 4) (v := 4) (by decide +kernel) ?_
    refine z_icmp_ne_f (n := 8) (off := 31) (tgt := 36) (by decide +kernel) (by rw [h4]; rfl) ?_
    refine z_ald0 (n := 9) (by decide +kernel) ?_
    refine z_getf (n := 12) (idx := 17) (by decide +kernel) fl_X8_17 (by assumption) (by rfl) ?_
    refine z_ald0 (n := 13) (by decide +kernel) ?_
    refine z_getf (n := 16) (idx := 13) (by decide +kernel) fl_X8_13 (by assumption) (by rfl) ?_
    refine z_icmp_ge_f (n := 19) (off := 20) (tgt := 36) (by decide +kernel) (nI_ge hs (by omega)) ?_
    refine z_ald0 (n := 20) (by decide +kernel) ?_
    refine z_getf (n := 23) (idx := 9) (by decide +kernel) fl_X8_9 (by assumption) (by rfl) ?_
    refine z_ald0 (n := 24) (by decide +kernel) ?_
    refine z_getf (n := 27) (idx := 17) (by decide +kernel) fl_X8_17 (by assumption) (by rfl) ?_
    refine z_iald (n := 28) (by decide +kernel) (by assumption) (by first | assumption | exact ix_nI (by omega) (by omega)) ?_
    refine z_ild1 (n := 29) (by decide +kernel) ?_
    refine z_icmp_ne (n := 32) (off := 7) (tgt := 36) (by decide +kernel) (fun c29 => ?_) (fun c29 => ?_)
    · refine z_iconst (n := 37) (q := 0) (v := 0) (by decide +kernel) ?_
      first | refine z_zr1 (by decide +kernel) rfl (Nat.le_refl _) ?_ | refine z_zr0 (by decide +kernel) rfl (Nat.le_refl _) ?_ | refine z_zrb (by decide +kernel) rfl (Nat.le_refl _) ?_
      exact ⟨by unfold sgn; rw [decide_eq_true h4]; simp only [eq_false c29, decide_true, decide_false, Bool.true_and], rfl⟩
    · refine z_iconst (n := 33) (q := 1) (v := 1) (by decide +kernel) ?_
      refine z_goto (n := 36) (off := 4) (tgt := 37) (by decide +kernel) ?_
      first | refine z_zr1 (by decide +kernel) rfl (Nat.le_refl _) ?_ | refine z_zr0 (by decide +kernel) rfl (Nat.le_refl _) ?_ | refine z_zrb (by decide +kernel) rfl (Nat.le_refl _) ?_
      exact ⟨by unfold sgn; rw [decide_eq_true h4]; simp only [eq_true c29, decide_true, decide_false, Bool.true_and], rfl⟩
  · refine z_ald0 (n := 1) (by decide +kernel) ?_
    refine z_getf (n := 4) (idx := 23) (by decide +kernel) fl_X8_23 (by assumption) (by rfl) ?_
    refine z_iconst (n := 5) (q := 4) (v := 4) (by decide +kernel) ?_
    refine z_icmp_ne_t (n := 8) (off := 31) (tgt := 36) (by decide +kernel) (fun z => h4 ((nI_ij (b := 4) (by omega) (by omega)).mp z)) ?_
    refine z_iconst (n := 37) (q := 0) (v := 0) (by decide +kernel) ?_
    first | refine z_zr1 (by decide +kernel) rfl (Nat.le_refl _) ?_ | refine z_zr0 (by decide +kernel) rfl (Nat.le_refl _) ?_ | refine z_zrb (by decide +kernel) rfl (Nat.le_refl _) ?_
    exact ⟨by unfold sgn; rw [decide_eq_false h4, Bool.false_and], rfl⟩
theorem sLen_l : ∀ i : Fin 6, (sByt.getD i.1 []).length = sLen.getD i.1 0 := by decide +kernel
theorem k_isWord {G : mG} {h : mH} {P L k i : Nat} {vl : Int32} {t : Nat → Int32} (d : Nat) (hd : 4 ≤ d) (hi9 : i < 6) (hST : ∀ U, gI G U → sOK G U) (hk : k ≤ L) (hP : h P = oTok P t L k vl) (hT : h (P + 1) = aI 300 t) (hL : L ≤ 300) : EV G m_X8_isWord d 0 0 [.ref P, .ref (1048576 + i)] h (RE (some (.int (bI (wIs t L k (sByt.getD i []))))) h) := by
  unfold oTok at hP
  have b4 := tC_b t L k
  have eL := tE_L (t := t) hk
  have eS : tS t L k ≤ tE t L k := by
    unfold tE
    split
    · exact Nat.le_refl _
    · split
      · exact sk_ge _ _ rfl
      · split
        · exact sk_ge _ _ rfl
        · omega
  have l5 := sLen_5 ⟨i, hi9⟩
  have ll := sLen_l ⟨i, hi9⟩
  dsimp only at l5 ll
  refine ev_2_1 rfl rfl (by decide +kernel) (by decide +kernel) ?_
  by_cases h2 : tC t L k = 2
  · by_cases hl : tE t L k - tS t L k = sLen.getD i 0
    · refine z_ald0 (n := 1) (by decide +kernel) ?_
      refine z_getf (n := 4) (idx := 23) (by decide +kernel) fl_X8_23 (by assumption) (by rfl) ?_
      refine z_iconst (n := 5) (q := 2) (v := 2) (by decide +kernel) ?_
      refine z_icmp_ne_f (n := 8) (off := 30) (tgt := 35) (by decide +kernel) (by rw [h2]; rfl) ?_
      refine z_ald0 (n := 9) (by decide +kernel) ?_
      refine z_getf (n := 12) (idx := 20) (by decide +kernel) fl_X8_20 (by assumption) (by rfl) ?_
      refine z_ald0 (n := 13) (by decide +kernel) ?_
      refine z_getf (n := 16) (idx := 17) (by decide +kernel) fl_X8_17 (by assumption) (by rfl) ?_
      refine z_isub (n := 17) (by decide +kernel) ?_
      refine z_top (nI_sub eS) ?_
      refine z_ald1 (n := 18) (by decide +kernel) ?_
      refine z_t0 (n := 21) (idx := 45) hi9 hST (by decide +kernel) ml_X8_45 rfl (Nat.le_of_ble_eq_true rfl) (by omega) ⟨Nat.le_refl _, Nat.le_refl _⟩ (j_length 1 (by omega) hi9 hST) ?_
      refine z_icmp_ne_f (n := 24) (off := 14) (tgt := 35) (by decide +kernel) (by rw [hl]) ?_
      refine z_ald0 (n := 25) (by decide +kernel) ?_
      refine z_getf (n := 28) (idx := 20) (by decide +kernel) fl_X8_20 (by assumption) (by rfl) ?_
      refine z_ald0 (n := 29) (by decide +kernel) ?_
      refine z_getf (n := 32) (idx := 13) (by decide +kernel) fl_X8_13 (by assumption) (by rfl) ?_
      refine z_icmp_le_t (n := 35) (off := 5) (tgt := 37) (by decide +kernel) (nI_le eL (by omega)) ?_
      refine z_iconst (n := 38) (q := 0) (v := 0) (by decide +kernel) ?_
      refine z_ist2 (n := 39) (by decide +kernel) rfl ?_
      skip
      refine loopZ (k := sLen.getD i 0) (fun j => (∀ q, q < j → t (tS t L k + q) = (sByt.getD i []).getD q 0) → Z G m_X8_isWord d 0 0 0 0 39 [some (.ref P), some (.ref (1048576 + i)), some (.int (nI j))] [] h (RE (some (.int (bI (wIs t L k (sByt.getD i []))))) h)) ?_ ?_ 0 (Nat.zero_le _) (fun q hq => absurd hq (Nat.not_lt_zero _))
      · intro ha
        have ew : wIs t L k (sByt.getD i []) = true := by
          unfold wIs
          rw [decide_eq_true h2, ll, decide_eq_true hl, decide_eq_true ha]
          rfl
        refine z_ild2 (n := 40) (by decide +kernel) ?_
        refine z_ald1 (n := 41) (by decide +kernel) ?_
        refine z_t0 (n := 44) (idx := 45) hi9 hST (by decide +kernel) ml_X8_45 rfl (Nat.le_of_ble_eq_true rfl) (by omega) ⟨Nat.le_refl _, Nat.le_refl _⟩ (j_length 1 (by omega) hi9 hST) ?_
        refine z_icmp_ge_t (n := 47) (off := 30) (tgt := 74) (by decide +kernel) (nI_le (Nat.le_refl _) (by omega)) ?_
        refine z_iconst (n := 75) (q := 1) (v := 1) (by decide +kernel) ?_
        first | refine z_zr1 (by decide +kernel) rfl (Nat.le_refl _) ?_ | refine z_zr0 (by decide +kernel) rfl (Nat.le_refl _) ?_ | refine z_zrb (by decide +kernel) rfl (Nat.le_refl _) ?_
        exact ⟨by rw [ew], rfl⟩
      · intro j jl ih ha
        refine z_ild2 (n := 40) (by decide +kernel) ?_
        refine z_ald1 (n := 41) (by decide +kernel) ?_
        refine z_t0 (n := 44) (idx := 45) hi9 hST (by decide +kernel) ml_X8_45 rfl (Nat.le_of_ble_eq_true rfl) (by omega) ⟨Nat.le_refl _, Nat.le_refl _⟩ (j_length 1 (by omega) hi9 hST) ?_
        refine z_icmp_ge_f (n := 47) (off := 30) (tgt := 74) (by decide +kernel) (nI_ge jl (by omega)) ?_
        refine z_ald0 (n := 48) (by decide +kernel) ?_
        refine z_getf (n := 51) (idx := 9) (by decide +kernel) fl_X8_9 (by assumption) (by rfl) ?_
        refine z_ald0 (n := 52) (by decide +kernel) ?_
        refine z_getf (n := 55) (idx := 17) (by decide +kernel) fl_X8_17 (by assumption) (by rfl) ?_
        refine z_ild2 (n := 56) (by decide +kernel) ?_
        refine z_iadd (n := 57) (by decide +kernel) ?_
        refine z_top (nI_add _ _) ?_
        refine z_iald (n := 58) (by decide +kernel) (by assumption) (by first | assumption | exact ix_nI (by omega) (by omega)) ?_
        refine z_ald1 (n := 59) (by decide +kernel) ?_
        refine z_ild2 (n := 60) (by decide +kernel) ?_
        refine z_t1 (n := 63) (idx := 50) hi9 hST (by decide +kernel) ml_X8_50 rfl (Nat.le_of_ble_eq_true rfl) (by omega) ⟨Nat.le_refl _, Nat.le_refl _⟩ (j_charAt 3 (by omega) hi9 jl hST) ?_
        refine z_icmp_eq (n := 66) (off := 5) (tgt := 68) (by decide +kernel) (fun c63 => ?_) (fun c63 => ?_)
        · refine z_inc2 (n := 71) (q := 1) (by decide +kernel) rfl (nI_1 _) ?_
          refine z_goto (n := 74) (off := -32) (tgt := 39) (by decide +kernel) ?_
          exact ih (fun q hq => (Nat.lt_succ_iff_lt_or_eq.mp hq).elim (ha q) (fun z => z ▸ c63))
        · refine z_iconst (n := 67) (q := 0) (v := 0) (by decide +kernel) ?_
          first | refine z_zr1 (by decide +kernel) rfl (Nat.le_refl _) ?_ | refine z_zr0 (by decide +kernel) rfl (Nat.le_refl _) ?_ | refine z_zrb (by decide +kernel) rfl (Nat.le_refl _) ?_
          refine ⟨?_, rfl⟩; rw [show wIs t L k (sByt.getD i []) = false from Bool.eq_false_iff.mpr (fun z => c63 (by unfold wIs at z; simp only [Bool.and_eq_true, decide_eq_true_eq] at z; exact z.2.2 j (by rw [ll]; exact jl)))]
    · have ew : wIs t L k (sByt.getD i []) = false := by
        unfold wIs
        rw [ll, decide_eq_false hl, Bool.false_and, Bool.and_false]
      refine z_ald0 (n := 1) (by decide +kernel) ?_
      refine z_getf (n := 4) (idx := 23) (by decide +kernel) fl_X8_23 (by assumption) (by rfl) ?_
      refine z_iconst (n := 5) (q := 2) (v := 2) (by decide +kernel) ?_
      refine z_icmp_ne_f (n := 8) (off := 30) (tgt := 35) (by decide +kernel) (by rw [h2]; rfl) ?_
      refine z_ald0 (n := 9) (by decide +kernel) ?_
      refine z_getf (n := 12) (idx := 20) (by decide +kernel) fl_X8_20 (by assumption) (by rfl) ?_
      refine z_ald0 (n := 13) (by decide +kernel) ?_
      refine z_getf (n := 16) (idx := 17) (by decide +kernel) fl_X8_17 (by assumption) (by rfl) ?_
      refine z_isub (n := 17) (by decide +kernel) ?_
      refine z_top (nI_sub eS) ?_
      refine z_ald1 (n := 18) (by decide +kernel) ?_
      refine z_t0 (n := 21) (idx := 45) hi9 hST (by decide +kernel) ml_X8_45 rfl (Nat.le_of_ble_eq_true rfl) (by omega) ⟨Nat.le_refl _, Nat.le_refl _⟩ (j_length 1 (by omega) hi9 hST) ?_
      refine z_icmp_ne_t (n := 24) (off := 14) (tgt := 35) (by decide +kernel) (fun z => hl ((nI_ij (by omega) (by omega)).mp z)) ?_
      refine z_iconst (n := 36) (q := 0) (v := 0) (by decide +kernel) ?_
      first | refine z_zr1 (by decide +kernel) rfl (Nat.le_refl _) ?_ | refine z_zr0 (by decide +kernel) rfl (Nat.le_refl _) ?_ | refine z_zrb (by decide +kernel) rfl (Nat.le_refl _) ?_
      exact ⟨by rw [ew], rfl⟩
  · have ew : wIs t L k (sByt.getD i []) = false := by
      unfold wIs
      rw [decide_eq_false h2, Bool.false_and]
    refine z_ald0 (n := 1) (by decide +kernel) ?_
    refine z_getf (n := 4) (idx := 23) (by decide +kernel) fl_X8_23 (by assumption) (by rfl) ?_
    refine z_iconst (n := 5) (q := 2) (v := 2) (by decide +kernel) ?_
    refine z_icmp_ne_t (n := 8) (off := 30) (tgt := 35) (by decide +kernel) (fun z => h2 ((nI_ij (b := 2) (by omega) (by omega)).mp z)) ?_
    refine z_iconst (n := 36) (q := 0) (v := 0) (by decide +kernel) ?_
    first | refine z_zr1 (by decide +kernel) rfl (Nat.le_refl _) ?_ | refine z_zr0 (by decide +kernel) rfl (Nat.le_refl _) ?_ | refine z_zrb (by decide +kernel) rfl (Nat.le_refl _) ?_
    exact ⟨by rw [ew], rfl⟩
theorem k_rewind {G : mG} {h : mH} {P L : Nat} {kd sa vl : Int32} {t : Nat → Int32} {bh : Int32} (d : Nat) (hP : h P = oTap P (nI L) kd sa bh vl) : EV G m_X8_rewind d 0 0 [.ref P] h (RE none (hu h P (oTap P (nI L) 0 0 0 vl))) := by
  refine ev_1_0 rfl (by decide +kernel) (by decide +kernel) ?_
  refine z_ald0 (n := 1) (by decide +kernel) ?_
  refine z_iconst (n := 2) (q := 0) (v := 0) (by decide +kernel) ?_
  refine z_putf (n := 5) (idx := 17) (ty := .int) (by decide +kernel) fl_X8_17 (by first | assumption | (simp (disch := omega) only [hu_s, hu_n]; first | assumption | rfl)) ⟨_, _, _, rfl, rfl, by decide +kernel⟩ rfl rfl (Nat.le_of_ble_eq_true rfl) ?_
  refine z_ald0 (n := 6) (by decide +kernel) ?_
  refine z_iconst (n := 7) (q := 0) (v := 0) (by decide +kernel) ?_
  refine z_putf (n := 10) (idx := 20) (ty := .int) (by decide +kernel) fl_X8_20 (by first | assumption | (simp (disch := omega) only [hu_s, hu_n]; first | assumption | rfl)) ⟨_, _, _, rfl, rfl, by decide +kernel⟩ rfl rfl (Nat.le_of_ble_eq_true rfl) ?_
  refine z_ald0 (n := 11) (by decide +kernel) ?_
  refine z_iconst (n := 12) (q := 0) (v := 0) (by decide +kernel) ?_
  refine z_putf (n := 15) (idx := 23) (ty := .int) (by decide +kernel) fl_X8_23 (by first | assumption | (simp (disch := omega) only [hu_s, hu_n]; first | assumption | rfl)) ⟨_, _, _, rfl, rfl, by decide +kernel⟩ rfl rfl (Nat.le_of_ble_eq_true rfl) ?_
  refine z_vret (by decide +kernel) rfl (Nat.le_refl _) ?_
  exact ⟨rfl, by simp only [hu_hu]; rfl⟩
theorem k_hasRoom {G : mG} {h : mH} {P L : Nat} {kd sa vl : Int32} {t : Nat → Int32} {bh : Int32} (d : Nat) (hP : h P = oTap P (nI L) kd sa bh vl) (hL : L ≤ 300) : EV G m_X8_hasRoom d 0 0 [.ref P, .int 20] h (RE (some (.int (bI (decide (L + 20 ≤ 300))))) h) := by
  refine ev_2_0 rfl rfl (by decide +kernel) (by decide +kernel) ?_
  by_cases c : L + 20 ≤ 300
  · refine z_ald0 (n := 1) (by decide +kernel) ?_
    refine z_getf (n := 4) (idx := 13) (by decide +kernel) fl_X8_13 (by assumption) (by rfl) ?_
    refine z_ild1 (n := 5) (by decide +kernel) ?_
    refine z_iadd (n := 6) (by decide +kernel) ?_
    refine z_top (show nI L + 20 = nI (L + 20) by rw [n_20, nI_add]) ?_
    refine z_sipush (n := 9) (q := 300) (v := 300) (by decide +kernel) ?_
    refine z_icmp_gt_f (n := 12) (off := 7) (tgt := 16) (by decide +kernel) (by rw [n_300]; exact nI_nlt c (by omega)) ?_
    refine z_iconst (n := 13) (q := 1) (v := 1) (by decide +kernel) ?_
    refine z_goto (n := 16) (off := 4) (tgt := 17) (by decide +kernel) ?_
    first | refine z_zr1 (by decide +kernel) rfl (Nat.le_refl _) ?_ | refine z_zr0 (by decide +kernel) rfl (Nat.le_refl _) ?_ | refine z_zrb (by decide +kernel) rfl (Nat.le_refl _) ?_
    exact ⟨by rw [decide_eq_true c], rfl⟩
  · refine z_ald0 (n := 1) (by decide +kernel) ?_
    refine z_getf (n := 4) (idx := 13) (by decide +kernel) fl_X8_13 (by assumption) (by rfl) ?_
    refine z_ild1 (n := 5) (by decide +kernel) ?_
    refine z_iadd (n := 6) (by decide +kernel) ?_
    refine z_top (show nI L + 20 = nI (L + 20) by rw [n_20, nI_add]) ?_
    refine z_sipush (n := 9) (q := 300) (v := 300) (by decide +kernel) ?_
    refine z_icmp_gt_t (n := 12) (off := 7) (tgt := 16) (by decide +kernel) (by rw [n_300]; exact nI_lt (by omega) (by omega)) ?_
    refine z_iconst (n := 17) (q := 0) (v := 0) (by decide +kernel) ?_
    first | refine z_zr1 (by decide +kernel) rfl (Nat.le_refl _) ?_ | refine z_zr0 (by decide +kernel) rfl (Nat.le_refl _) ?_ | refine z_zrb (by decide +kernel) rfl (Nat.le_refl _) ?_
    exact ⟨by rw [decide_eq_false c], rfl⟩
def ba4 (v : Int32) (j : Int32) : Int32 := (v.toUInt32 >>> (j.toUInt32 &&& Int32.toUInt32 31)).toInt32 &&& 255
def g4 (t : Nat → Int32) (L : Nat) (v : Int32) : Nat → Int32 := upd (upd (upd (upd t L (ba4 v 24)) (L + 1) (ba4 v 16)) (L + 2) (ba4 v 8)) (L + 3) (ba4 v 0)
theorem k_addWord {G : mG} {h : mH} {P L : Nat} {kd sa vl : Int32} {t : Nat → Int32} {bh x : Int32} (d : Nat) (hP : h P = oTap P (nI L) kd sa bh vl) (hT : h (P + 1) = aI 300 t) (hL : L + 4 ≤ 300) : EV G m_X8_addWord d 0 0 [.ref P, .int x] h (RE none (hu (hu h (P + 1) (aI 300 (g4 t L x))) P (oTap P (nI (L + 4)) kd sa bh vl))) := by
  refine ev_2_1 rfl rfl (by decide +kernel) (by decide +kernel) ?_
  refine z_bipush (n := 2) (q := 24) (v := 24) (by decide +kernel) ?_
  refine z_ist2 (n := 3) (by decide +kernel) rfl ?_
  refine z_ild2 (n := 4) (by decide +kernel) ?_
  refine z_if_lt_f (n := 7) (off := 45) (tgt := 49) (by decide +kernel) (by decide) ?_
  refine z_ald0 (n := 8) (by decide +kernel) ?_
  refine z_getf (n := 11) (idx := 13) (by decide +kernel) fl_X8_13 (by first | assumption | (simp (disch := omega) only [hu_s, hu_n]; first | assumption | rfl)) (by rfl) ?_
  refine z_sipush (n := 14) (q := 300) (v := 300) (by decide +kernel) ?_
  refine z_icmp_ge_f (n := 17) (off := 29) (tgt := 43) (by decide +kernel) (by rw [n_300]; exact nI_ge (by omega) (by omega)) ?_
  refine z_ald0 (n := 18) (by decide +kernel) ?_
  refine z_getf (n := 21) (idx := 9) (by decide +kernel) fl_X8_9 (by first | assumption | (simp (disch := omega) only [hu_s, hu_n]; first | assumption | rfl)) (by rfl) ?_
  refine z_ald0 (n := 22) (by decide +kernel) ?_
  refine z_getf (n := 25) (idx := 13) (by decide +kernel) fl_X8_13 (by first | assumption | (simp (disch := omega) only [hu_s, hu_n]; first | assumption | rfl)) (by rfl) ?_
  refine z_ild1 (n := 26) (by decide +kernel) ?_
  refine z_ild2 (n := 27) (by decide +kernel) ?_
  refine z_iushr (n := 28) (by decide +kernel) ?_
  refine z_sipush (n := 31) (q := 255) (v := 255) (by decide +kernel) ?_
  refine z_iand (n := 32) (by decide +kernel) ?_
  refine z_iast (n := 33) (by decide +kernel) (by first | assumption | (simp (disch := omega) only [hu_s, hu_n]; first | assumption | rfl)) (by first | assumption | exact ix_nI (by omega) (by omega) | exact ix_of (by simp only [n_0, n_1, n_2, n_3, n_4, n_5, n_6, n_7, n_8, n_10, n_50, n_90, n_130, n_370, n_570, nI_add, pk_mul]; rfl) (by omega) (by omega)) ?_
  refine z_ald0 (n := 34) (by decide +kernel) ?_
  refine z_dup (n := 35) (by decide +kernel) rfl ?_
  refine z_getf (n := 38) (idx := 13) (by decide +kernel) fl_X8_13 (by first | assumption | (simp (disch := omega) only [hu_s, hu_n]; first | assumption | rfl)) (by rfl) ?_
  refine z_iconst (n := 39) (q := 1) (v := 1) (by decide +kernel) ?_
  refine z_iadd (n := 40) (by decide +kernel) ?_
  refine z_top (nI_1 _) ?_
  refine z_putf (n := 43) (idx := 13) (ty := .int) (by decide +kernel) fl_X8_13 (by first | assumption | (simp (disch := omega) only [hu_s, hu_n]; first | assumption | rfl)) ⟨_, _, _, rfl, rfl, by decide +kernel⟩ rfl rfl (Nat.le_of_ble_eq_true rfl) ?_
  refine z_inc2 (n := 46) (q := -8) (by decide +kernel) rfl (show (24 : Int32) + Int32.ofInt (-8) = 16 from rfl) ?_
  refine z_goto (n := 49) (off := -43) (tgt := 3) (by decide +kernel) ?_
  skip
  refine z_ild2 (n := 4) (by decide +kernel) ?_
  refine z_if_lt_f (n := 7) (off := 45) (tgt := 49) (by decide +kernel) (by decide) ?_
  refine z_ald0 (n := 8) (by decide +kernel) ?_
  refine z_getf (n := 11) (idx := 13) (by decide +kernel) fl_X8_13 (by first | assumption | (simp (disch := omega) only [hu_s, hu_n]; first | assumption | rfl)) (by rfl) ?_
  refine z_sipush (n := 14) (q := 300) (v := 300) (by decide +kernel) ?_
  refine z_icmp_ge_f (n := 17) (off := 29) (tgt := 43) (by decide +kernel) (by rw [n_300]; exact nI_ge (by omega) (by omega)) ?_
  refine z_ald0 (n := 18) (by decide +kernel) ?_
  refine z_getf (n := 21) (idx := 9) (by decide +kernel) fl_X8_9 (by first | assumption | (simp (disch := omega) only [hu_s, hu_n]; first | assumption | rfl)) (by rfl) ?_
  refine z_ald0 (n := 22) (by decide +kernel) ?_
  refine z_getf (n := 25) (idx := 13) (by decide +kernel) fl_X8_13 (by first | assumption | (simp (disch := omega) only [hu_s, hu_n]; first | assumption | rfl)) (by rfl) ?_
  refine z_ild1 (n := 26) (by decide +kernel) ?_
  refine z_ild2 (n := 27) (by decide +kernel) ?_
  refine z_iushr (n := 28) (by decide +kernel) ?_
  refine z_sipush (n := 31) (q := 255) (v := 255) (by decide +kernel) ?_
  refine z_iand (n := 32) (by decide +kernel) ?_
  refine z_iast (n := 33) (by decide +kernel) (by first | assumption | (simp (disch := omega) only [hu_s, hu_n]; first | assumption | rfl)) (by first | assumption | exact ix_nI (by omega) (by omega) | exact ix_of (by simp only [n_0, n_1, n_2, n_3, n_4, n_5, n_6, n_7, n_8, n_10, n_50, n_90, n_130, n_370, n_570, nI_add, pk_mul]; rfl) (by omega) (by omega)) ?_
  refine z_ald0 (n := 34) (by decide +kernel) ?_
  refine z_dup (n := 35) (by decide +kernel) rfl ?_
  refine z_getf (n := 38) (idx := 13) (by decide +kernel) fl_X8_13 (by first | assumption | (simp (disch := omega) only [hu_s, hu_n]; first | assumption | rfl)) (by rfl) ?_
  refine z_iconst (n := 39) (q := 1) (v := 1) (by decide +kernel) ?_
  refine z_iadd (n := 40) (by decide +kernel) ?_
  refine z_top (nI_1 _) ?_
  refine z_putf (n := 43) (idx := 13) (ty := .int) (by decide +kernel) fl_X8_13 (by first | assumption | (simp (disch := omega) only [hu_s, hu_n]; first | assumption | rfl)) ⟨_, _, _, rfl, rfl, by decide +kernel⟩ rfl rfl (Nat.le_of_ble_eq_true rfl) ?_
  refine z_inc2 (n := 46) (q := -8) (by decide +kernel) rfl (show (16 : Int32) + Int32.ofInt (-8) = 8 from rfl) ?_
  refine z_goto (n := 49) (off := -43) (tgt := 3) (by decide +kernel) ?_
  skip
  refine z_ild2 (n := 4) (by decide +kernel) ?_
  refine z_if_lt_f (n := 7) (off := 45) (tgt := 49) (by decide +kernel) (by decide) ?_
  refine z_ald0 (n := 8) (by decide +kernel) ?_
  refine z_getf (n := 11) (idx := 13) (by decide +kernel) fl_X8_13 (by first | assumption | (simp (disch := omega) only [hu_s, hu_n]; first | assumption | rfl)) (by rfl) ?_
  refine z_sipush (n := 14) (q := 300) (v := 300) (by decide +kernel) ?_
  refine z_icmp_ge_f (n := 17) (off := 29) (tgt := 43) (by decide +kernel) (by rw [n_300]; exact nI_ge (by omega) (by omega)) ?_
  refine z_ald0 (n := 18) (by decide +kernel) ?_
  refine z_getf (n := 21) (idx := 9) (by decide +kernel) fl_X8_9 (by first | assumption | (simp (disch := omega) only [hu_s, hu_n]; first | assumption | rfl)) (by rfl) ?_
  refine z_ald0 (n := 22) (by decide +kernel) ?_
  refine z_getf (n := 25) (idx := 13) (by decide +kernel) fl_X8_13 (by first | assumption | (simp (disch := omega) only [hu_s, hu_n]; first | assumption | rfl)) (by rfl) ?_
  refine z_ild1 (n := 26) (by decide +kernel) ?_
  refine z_ild2 (n := 27) (by decide +kernel) ?_
  refine z_iushr (n := 28) (by decide +kernel) ?_
  refine z_sipush (n := 31) (q := 255) (v := 255) (by decide +kernel) ?_
  refine z_iand (n := 32) (by decide +kernel) ?_
  refine z_iast (n := 33) (by decide +kernel) (by first | assumption | (simp (disch := omega) only [hu_s, hu_n]; first | assumption | rfl)) (by first | assumption | exact ix_nI (by omega) (by omega) | exact ix_of (by simp only [n_0, n_1, n_2, n_3, n_4, n_5, n_6, n_7, n_8, n_10, n_50, n_90, n_130, n_370, n_570, nI_add, pk_mul]; rfl) (by omega) (by omega)) ?_
  refine z_ald0 (n := 34) (by decide +kernel) ?_
  refine z_dup (n := 35) (by decide +kernel) rfl ?_
  refine z_getf (n := 38) (idx := 13) (by decide +kernel) fl_X8_13 (by first | assumption | (simp (disch := omega) only [hu_s, hu_n]; first | assumption | rfl)) (by rfl) ?_
  refine z_iconst (n := 39) (q := 1) (v := 1) (by decide +kernel) ?_
  refine z_iadd (n := 40) (by decide +kernel) ?_
  refine z_top (nI_1 _) ?_
  refine z_putf (n := 43) (idx := 13) (ty := .int) (by decide +kernel) fl_X8_13 (by first | assumption | (simp (disch := omega) only [hu_s, hu_n]; first | assumption | rfl)) ⟨_, _, _, rfl, rfl, by decide +kernel⟩ rfl rfl (Nat.le_of_ble_eq_true rfl) ?_
  refine z_inc2 (n := 46) (q := -8) (by decide +kernel) rfl (show (8 : Int32) + Int32.ofInt (-8) = 0 from rfl) ?_
  refine z_goto (n := 49) (off := -43) (tgt := 3) (by decide +kernel) ?_
  skip
  refine z_ild2 (n := 4) (by decide +kernel) ?_
  refine z_if_lt_f (n := 7) (off := 45) (tgt := 49) (by decide +kernel) (by decide) ?_
  refine z_ald0 (n := 8) (by decide +kernel) ?_
  refine z_getf (n := 11) (idx := 13) (by decide +kernel) fl_X8_13 (by first | assumption | (simp (disch := omega) only [hu_s, hu_n]; first | assumption | rfl)) (by rfl) ?_
  refine z_sipush (n := 14) (q := 300) (v := 300) (by decide +kernel) ?_
  refine z_icmp_ge_f (n := 17) (off := 29) (tgt := 43) (by decide +kernel) (by rw [n_300]; exact nI_ge (by omega) (by omega)) ?_
  refine z_ald0 (n := 18) (by decide +kernel) ?_
  refine z_getf (n := 21) (idx := 9) (by decide +kernel) fl_X8_9 (by first | assumption | (simp (disch := omega) only [hu_s, hu_n]; first | assumption | rfl)) (by rfl) ?_
  refine z_ald0 (n := 22) (by decide +kernel) ?_
  refine z_getf (n := 25) (idx := 13) (by decide +kernel) fl_X8_13 (by first | assumption | (simp (disch := omega) only [hu_s, hu_n]; first | assumption | rfl)) (by rfl) ?_
  refine z_ild1 (n := 26) (by decide +kernel) ?_
  refine z_ild2 (n := 27) (by decide +kernel) ?_
  refine z_iushr (n := 28) (by decide +kernel) ?_
  refine z_sipush (n := 31) (q := 255) (v := 255) (by decide +kernel) ?_
  refine z_iand (n := 32) (by decide +kernel) ?_
  refine z_iast (n := 33) (by decide +kernel) (by first | assumption | (simp (disch := omega) only [hu_s, hu_n]; first | assumption | rfl)) (by first | assumption | exact ix_nI (by omega) (by omega) | exact ix_of (by simp only [n_0, n_1, n_2, n_3, n_4, n_5, n_6, n_7, n_8, n_10, n_50, n_90, n_130, n_370, n_570, nI_add, pk_mul]; rfl) (by omega) (by omega)) ?_
  refine z_ald0 (n := 34) (by decide +kernel) ?_
  refine z_dup (n := 35) (by decide +kernel) rfl ?_
  refine z_getf (n := 38) (idx := 13) (by decide +kernel) fl_X8_13 (by first | assumption | (simp (disch := omega) only [hu_s, hu_n]; first | assumption | rfl)) (by rfl) ?_
  refine z_iconst (n := 39) (q := 1) (v := 1) (by decide +kernel) ?_
  refine z_iadd (n := 40) (by decide +kernel) ?_
  refine z_top (nI_1 _) ?_
  refine z_putf (n := 43) (idx := 13) (ty := .int) (by decide +kernel) fl_X8_13 (by first | assumption | (simp (disch := omega) only [hu_s, hu_n]; first | assumption | rfl)) ⟨_, _, _, rfl, rfl, by decide +kernel⟩ rfl rfl (Nat.le_of_ble_eq_true rfl) ?_
  refine z_inc2 (n := 46) (q := -8) (by decide +kernel) rfl (show (0 : Int32) + Int32.ofInt (-8) = -8 from rfl) ?_
  refine z_goto (n := 49) (off := -43) (tgt := 3) (by decide +kernel) ?_
  skip
  refine z_ild2 (n := 4) (by decide +kernel) ?_
  refine z_if_lt_t (n := 7) (off := 45) (tgt := 49) (by decide +kernel) (by decide) ?_
  refine z_vret (by decide +kernel) rfl (Nat.le_refl _) ?_
  exact ⟨rfl, by simp only [hu_hu, hu3 (show P ≠ P + 1 by omega), hu3 (show P + 1 ≠ P by omega)]; rfl⟩
def g20 (t : Nat → Int32) (L : Nat) (x1 x2 x3 x4 x5 : Int32) : Nat → Int32 := g4 (g4 (g4 (g4 (g4 t L x1) (L + 4) x2) (L + 4 + 4) x3) (L + 4 + 4 + 4) x4) (L + 4 + 4 + 4 + 4) x5
