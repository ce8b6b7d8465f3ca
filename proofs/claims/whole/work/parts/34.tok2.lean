/-! CreasedPaperModel: nextToken, isWord -/
theorem lgc_eq {x y : Int64} : lg_cmp x y = 0 ↔ x = y := lg_cmp_eq x y
theorem m_isWord {G : mG} {h : mH} {Q n : Nat} {m : Nat → Int32} {wd w : Int64} (d : Nat) (hQ : h Q = oMod Q (nI (n + 1)) m wd) : EV G m_X11_isWord d 0 0 [.ref Q, .long w] h (RE (some (.int (bI (decide (m 6 = 2) && decide (wd = w))))) h) := by
  refine ev_intro (lv := [some (.ref Q), some (.long w), none]) 0 rfl (by decide +kernel) rfl ?_
  refine z_ald0 (n := 1) (by decide +kernel) ?_
  refine z_getf (n := 4) (idx := 129) (by decide +kernel) fl_X11_129 (by assumption) (by rfl) ?_
  refine z_iconst (n := 5) (q := 2) (v := 2) (by decide +kernel) ?_
  refine z_icmp_ne (n := 8) (off := 16) (tgt := 21) (by decide +kernel) (fun c5 => ?_) (fun c5 => ?_)
  · refine z_iconst (n := 22) (q := 0) (v := 0) (by decide +kernel) ?_
    first | refine z_zr1 (by decide +kernel) rfl (Nat.le_refl _) ?_ | refine z_zr0 (by decide +kernel) rfl (Nat.le_refl _) ?_ | refine z_zrb (by decide +kernel) rfl (Nat.le_refl _) ?_
    refine ⟨?_, rfl⟩; first | (rw [decide_eq_true c5, decide_eq_true (lgc_eq.mp c14)]; rfl) | (rw [decide_eq_false (fun q9 => c14 (lgc_eq.mpr q9)), Bool.and_false]) | (rw [decide_eq_false c5, Bool.false_and])
  · refine z_ald0 (n := 9) (by decide +kernel) ?_
    refine z_getf (n := 12) (idx := 141) (by decide +kernel) fl_X11_141 (by assumption) (by rfl) ?_
    refine z_lld1 (n := 13) (by decide +kernel) ?_
    refine z_lcmp (n := 14) (by decide +kernel) ?_
    refine z_if_ne (n := 17) (off := 7) (tgt := 21) (by decide +kernel) (fun c14 => ?_) (fun c14 => ?_)
    · refine z_iconst (n := 22) (q := 0) (v := 0) (by decide +kernel) ?_
      first | refine z_zr1 (by decide +kernel) rfl (Nat.le_refl _) ?_ | refine z_zr0 (by decide +kernel) rfl (Nat.le_refl _) ?_ | refine z_zrb (by decide +kernel) rfl (Nat.le_refl _) ?_
      refine ⟨?_, rfl⟩; first | (rw [decide_eq_true c5, decide_eq_true (lgc_eq.mp c14)]; rfl) | (rw [decide_eq_false (fun q9 => c14 (lgc_eq.mpr q9)), Bool.and_false]) | (rw [decide_eq_false c5, Bool.false_and])
    · refine z_iconst (n := 18) (q := 1) (v := 1) (by decide +kernel) ?_
      refine z_goto (n := 21) (off := 4) (tgt := 22) (by decide +kernel) ?_
      first | refine z_zr1 (by decide +kernel) rfl (Nat.le_refl _) ?_ | refine z_zr0 (by decide +kernel) rfl (Nat.le_refl _) ?_ | refine z_zrb (by decide +kernel) rfl (Nat.le_refl _) ?_
      refine ⟨?_, rfl⟩; first | (rw [decide_eq_true c5, decide_eq_true (lgc_eq.mp c14)]; rfl) | (rw [decide_eq_false (fun q9 => c14 (lgc_eq.mpr q9)), Bool.and_false]) | (rw [decide_eq_false c5, Bool.false_and])
theorem m_nextToken {G : mG} {h : mH} {Q n L : Nat} {m : Nat → Int32} {wd : Int64} {t : Nat → Int32} {k : Nat} (d : Nat) (hd : 2 ≤ d) (hQ : h Q = oMod Q (nI (n + 1)) m wd) (hT : h (Q + 4) = aI 300 t) (hm : m 0 = nI L) (hl3 : L ≤ 300) (hk : m 4 = nI k) (hkL : k ≤ 301) (hp : ∀ i, i < L → 0 ≤ t i) : EV G m_X11_nextToken d 0 0 [.ref Q] h (RE none (hu h Q (oMod Q (nI (n + 1)) (ntM t L k m) (ntW t L k wd)))) := by
  have hs0 : k ≤ tS t L k := sk_ge _ k rfl
  have hs1 : tS t L k ≤ 301 := by
    unfold tS
    by_cases c : k ≤ L
    · exact Nat.le_trans (sk_le _ k rfl c) (by omega)
    · rw [sk_e (by omega)]; exact hkL
  have hd9 : isDi (bA t L (tS t L k)) = true → ∀ c : Int32, Z G m_X11_nextToken d 0 0 0 0 85 [some (.ref Q), some (.int c)] [] (hu h Q (oMod Q (nI (n + 1)) (upd (upd (upd (upd m 4 (nI (tS t L k))) 5 (nI (tS t L k))) 6 1) 7 0) wd)) (RE none (hu h Q (oMod Q (nI (n + 1)) (ntM t L k m) (ntW t L k wd)))) := by
    intro q c
    obtain ⟨q1, q2⟩ := (bA_p isDi_m).mp q
    have q3 : isLe (t (tS t L k)) = false := by
      revert q2
      generalize t (tS t L k) = b
      unfold isDi isLe win
      intro q2
      simp only [Bool.and_eq_true, Bool.not_eq_true', decide_eq_false_iff_not, Int32.not_lt] at q2
      have a1 : b < 97 := Int32.lt_of_le_of_lt q2.2 (by decide)
      have a2 : b < 65 := Int32.lt_of_le_of_lt q2.2 (by decide)
      simp only [eq_true a1, eq_true a2, decide_true, Bool.not_true, Bool.false_and, Bool.or_self]
    have eE : tE t L k = sk isDi t L (tS t L k) := by unfold tE; rw [if_neg (by omega), if_neg (by rw [q3]; decide), if_pos q2]
    have eC : tC t L k = 3 := by unfold tC; rw [if_neg (by omega), if_neg (by rw [q3]; decide), if_pos q2]
    have eT : tT t L k = 1 := by unfold tT; rw [if_neg (by omega), if_neg (by rw [q3]; decide), if_pos q2]
    have e1 : ntM t L k m = upd (upd (upd (upd m 4 (nI (tE t L k))) 5 (nI (tS t L k))) 6 1) 7 (nmF t (tS t L k) (tE t L k - tS t L k)) := by unfold ntM; rw [if_pos eC, eT]; rfl
    have e2 : ntW t L k wd = wd := by unfold ntW; rw [if_neg (by rw [eC]; decide)]
    rw [e1, e2]
    generalize hee : tE t L k = e at eE
    generalize hss : tS t L k = s at *
    have hle : e ≤ L := by rw [eE]; exact sk_le _ s rfl (by omega)
    refine z_heap (h1 := hu h Q (oMod Q (nI (n + 1)) (upd (upd (upd (upd m 4 (nI s)) 5 (nI s)) 6 1) 7 (nmF t s (s - s))) wd)) (by rw [Nat.sub_self]; rfl) ?_
    have key : s ≤ s → Z G m_X11_nextToken d 0 0 0 0 85 [some (.ref Q), some (.int c)] [] (hu h Q (oMod Q (nI (n + 1)) (upd (upd (upd (upd m 4 (nI s)) 5 (nI s)) 6 1) 7 (nmF t s (s - s))) wd)) (RE none (hu h Q (oMod Q (nI (n + 1)) (upd (upd (upd (upd m 4 (nI e)) 5 (nI s)) 6 1) 7 (nmF t s (e - s))) wd))) := by
      refine loopS (p := isDi) (t := t) (L := L) (e := e) (fun j => s ≤ j → Z G m_X11_nextToken d 0 0 0 0 85 [some (.ref Q), some (.int c)] [] (hu h Q (oMod Q (nI (n + 1)) (upd (upd (upd (upd m 4 (nI j)) 5 (nI s)) 6 1) 7 (nmF t s (j - s))) wd)) (RE none (hu h Q (oMod Q (nI (n + 1)) (upd (upd (upd (upd m 4 (nI e)) 5 (nI s)) 6 1) 7 (nmF t s (e - s))) wd)))) ?_ ?_ _ s rfl eE.symm
      · intro hj
        have q9 : isDi (bA t L e) = false := by
          have := sk_ef (p := isDi) (t := t) (L := L) _ s rfl
          rw [← eE] at this
          exact Bool.eq_false_iff.mpr (fun z => this ((bA_p isDi_m).mp z))
        refine z_ald0 (n := 86) (by decide +kernel) ?_
        refine z_ald0 (n := 87) (by decide +kernel) ?_
        refine z_getf (n := 90) (idx := 120) (by decide +kernel) fl_X11_120 (by first | assumption | (simp (disch := omega) only [hu_s, hu_n]; first | assumption | rfl)) (by rfl) ?_
        refine z_v1 (n := 93) (idx := 123) (by decide +kernel) ml_X11_123 (by first | assumption | (simp (disch := omega) only [hu_s, hu_n]; first | assumption | rfl)) rfl (Nat.le_of_ble_eq_true rfl) (by omega) ⟨Nat.le_refl _, Nat.le_refl _⟩ (m_byteAt (m := upd (upd (upd (upd m 4 (nI e)) 5 (nI s)) 6 1) 7 (nmF t s (e - s))) (t := t) (L := L) 0 (by simp (disch := omega) only [hTn, hCr, hFl, hu_s, hu_n]; first | done | assumption | rfl) (by simp (disch := omega) only [hTn, hCr, hFl, hu_s, hu_n]; first | done | assumption | rfl) hm hl3 (by omega)) ?_
        refine z_s1 (n := 96) (idx := 132) (by decide +kernel) ml_X11_132 (Nat.le_of_ble_eq_true rfl) (by omega) ⟨Nat.le_refl _, Nat.le_refl _⟩ (m_isDigit 1 (by omega)) ?_
        refine z_ifb_eq_t (n := 99) (off := 184) (tgt := 280) (by decide +kernel) (q9) ?_
        refine z_vret (by decide +kernel) rfl (Nat.le_refl _) ?_
        exact ⟨rfl, rfl⟩
      · intro j j1 j2 ih hj
        have ih := ih (by omega)
        have q9 : isDi (bA t L j) = true := (bA_p isDi_m).mpr ⟨j1, j2⟩
        have q8 : bA t L j = t j := by unfold bA; rw [if_neg (by omega)]
        rw [show j + 1 - s = (j - s) + 1 by omega, show nmF t s (j - s + 1) = if 100000 ≤ nmF t s (j - s) then nmF t s (j - s) else nmF t s (j - s) * 10 + t (s + (j - s)) - 48 from rfl, show s + (j - s) = j by omega, ← q8, Int32.mul_comm] at ih
        generalize nmF t s (j - s) = v9 at ih
        generalize nmF t s (e - s) = w9 at ih
        refine z_ald0 (n := 86) (by decide +kernel) ?_
        refine z_ald0 (n := 87) (by decide +kernel) ?_
        refine z_getf (n := 90) (idx := 120) (by decide +kernel) fl_X11_120 (by first | assumption | (simp (disch := omega) only [hu_s, hu_n]; first | assumption | rfl)) (by rfl) ?_
        refine z_v1 (n := 93) (idx := 123) (by decide +kernel) ml_X11_123 (by first | assumption | (simp (disch := omega) only [hu_s, hu_n]; first | assumption | rfl)) rfl (Nat.le_of_ble_eq_true rfl) (by omega) ⟨Nat.le_refl _, Nat.le_refl _⟩ (m_byteAt (m := upd (upd (upd (upd m 4 (nI j)) 5 (nI s)) 6 1) 7 v9) (t := t) (L := L) 0 (by simp (disch := omega) only [hTn, hCr, hFl, hu_s, hu_n]; first | done | assumption | rfl) (by simp (disch := omega) only [hTn, hCr, hFl, hu_s, hu_n]; first | done | assumption | rfl) hm hl3 (by omega)) ?_
        refine z_s1 (n := 96) (idx := 132) (by decide +kernel) ml_X11_132 (Nat.le_of_ble_eq_true rfl) (by omega) ⟨Nat.le_refl _, Nat.le_refl _⟩ (m_isDigit 1 (by omega)) ?_
        refine z_ifb_eq_f (n := 99) (off := 184) (tgt := 280) (by decide +kernel) (q9) ?_
        refine z_ald0 (n := 100) (by decide +kernel) ?_
        refine z_getf (n := 103) (idx := 135) (by decide +kernel) fl_X11_135 (by first | assumption | (simp (disch := omega) only [hu_s, hu_n]; first | assumption | rfl)) (by rfl) ?_
        refine z_ldc (n := 105) (q := 97) (by decide +kernel) lc_X11_97 ?_
        refine z_icmp_ge (n := 108) (off := 26) (tgt := 131) (by decide +kernel) (fun c105 => ?_) (fun c105 => ?_)
        · refine z_ald0 (n := 132) (by decide +kernel) ?_
          refine z_dup (n := 133) (by decide +kernel) rfl ?_
          refine z_getf (n := 136) (idx := 120) (by decide +kernel) fl_X11_120 (by first | assumption | (simp (disch := omega) only [hu_s, hu_n]; first | assumption | rfl)) (by rfl) ?_
          refine z_iconst (n := 137) (q := 1) (v := 1) (by decide +kernel) ?_
          refine z_iadd (n := 138) (by decide +kernel) ?_
          refine z_top (nI_1 _) ?_
          refine z_putf (n := 141) (idx := 120) (ty := .int) (by decide +kernel) fl_X11_120 (by first | assumption | (simp (disch := omega) only [hu_s, hu_n]; first | assumption | rfl)) ⟨_, _, _, rfl, rfl, by decide +kernel⟩ rfl rfl (Nat.le_of_ble_eq_true rfl) ?_
          refine z_goto (n := 144) (off := -56) (tgt := 85) (by decide +kernel) ?_
          first | (rw [if_pos (show (100000 : Int32) ≤ v9 from c105)] at ih; exact z_heap (by simp only [hu_hu]; rfl) ih) | (rw [if_neg (show ¬ (100000 : Int32) ≤ v9 from c105)] at ih; exact z_heap (by simp only [hu_hu]; rfl) ih)
        · refine z_ald0 (n := 109) (by decide +kernel) ?_
          refine z_bipush (n := 111) (q := 10) (v := 10) (by decide +kernel) ?_
          refine z_ald0 (n := 112) (by decide +kernel) ?_
          refine z_getf (n := 115) (idx := 135) (by decide +kernel) fl_X11_135 (by first | assumption | (simp (disch := omega) only [hu_s, hu_n]; first | assumption | rfl)) (by rfl) ?_
          refine z_imul (n := 116) (by decide +kernel) ?_
          refine z_ald0 (n := 117) (by decide +kernel) ?_
          refine z_ald0 (n := 118) (by decide +kernel) ?_
          refine z_getf (n := 121) (idx := 120) (by decide +kernel) fl_X11_120 (by first | assumption | (simp (disch := omega) only [hu_s, hu_n]; first | assumption | rfl)) (by rfl) ?_
          refine z_v1 (n := 124) (idx := 123) (by decide +kernel) ml_X11_123 (by first | assumption | (simp (disch := omega) only [hu_s, hu_n]; first | assumption | rfl)) rfl (Nat.le_of_ble_eq_true rfl) (by omega) ⟨Nat.le_refl _, Nat.le_refl _⟩ (m_byteAt (m := upd (upd (upd (upd m 4 (nI j)) 5 (nI s)) 6 1) 7 v9) (t := t) (L := L) 0 (by simp (disch := omega) only [hTn, hCr, hFl, hu_s, hu_n]; first | done | assumption | rfl) (by simp (disch := omega) only [hTn, hCr, hFl, hu_s, hu_n]; first | done | assumption | rfl) hm hl3 (by omega)) ?_
          refine z_iadd (n := 125) (by decide +kernel) ?_
          refine z_bipush (n := 127) (q := 48) (v := 48) (by decide +kernel) ?_
          refine z_isub (n := 128) (by decide +kernel) ?_
          refine z_putf (n := 131) (idx := 135) (ty := .int) (by decide +kernel) fl_X11_135 (by first | assumption | (simp (disch := omega) only [hu_s, hu_n]; first | assumption | rfl)) ⟨_, _, _, rfl, rfl, by decide +kernel⟩ rfl rfl (Nat.le_of_ble_eq_true rfl) ?_
          refine z_ald0 (n := 132) (by decide +kernel) ?_
          refine z_dup (n := 133) (by decide +kernel) rfl ?_
          refine z_getf (n := 136) (idx := 120) (by decide +kernel) fl_X11_120 (by first | assumption | (simp (disch := omega) only [hu_s, hu_n]; first | assumption | rfl)) (by rfl) ?_
          refine z_iconst (n := 137) (q := 1) (v := 1) (by decide +kernel) ?_
          refine z_iadd (n := 138) (by decide +kernel) ?_
          refine z_top (nI_1 _) ?_
          refine z_putf (n := 141) (idx := 120) (ty := .int) (by decide +kernel) fl_X11_120 (by first | assumption | (simp (disch := omega) only [hu_s, hu_n]; first | assumption | rfl)) ⟨_, _, _, rfl, rfl, by decide +kernel⟩ rfl rfl (Nat.le_of_ble_eq_true rfl) ?_
          refine z_goto (n := 144) (off := -56) (tgt := 85) (by decide +kernel) ?_
          first | (rw [if_pos (show (100000 : Int32) ≤ v9 from c105)] at ih; exact z_heap (by simp only [hu_hu]; rfl) ih) | (rw [if_neg (show ¬ (100000 : Int32) ≤ v9 from c105)] at ih; exact z_heap (by simp only [hu_hu]; rfl) ih)
    exact key (Nat.le_refl _)
  have hl9 : isLe (bA t L (tS t L k)) = true → ∀ c : Int32, Z G m_X11_nextToken d 0 0 0 0 161 [some (.ref Q), some (.int c)] [] (hu h Q (oMod Q (nI (n + 1)) (upd (upd (upd m 4 (nI (tS t L k))) 5 (nI (tS t L k))) 6 2) 0)) (RE none (hu h Q (oMod Q (nI (n + 1)) (ntM t L k m) (ntW t L k wd)))) := by
    intro q c
    obtain ⟨q1, q2⟩ := (bA_p isLe_m).mp q
    have eE : tE t L k = sk isLe t L (tS t L k) := by unfold tE; rw [if_neg (by omega), if_pos q2]
    have eC : tC t L k = 2 := by unfold tC; rw [if_neg (by omega), if_pos q2]
    have eT : tT t L k = 2 := by unfold tT; rw [if_neg (by omega), if_pos q2]
    have e1 : ntM t L k m = upd (upd (upd m 4 (nI (tE t L k))) 5 (nI (tS t L k))) 6 2 := by
      unfold ntM
      rw [if_neg (by rw [eC]; decide), eT]
      exact upd_self (upd (upd (upd m 4 (nI (tE t L k))) 5 (nI (tS t L k))) 6 2) 7
    have e2 : ntW t L k wd = if 5 < tE t L k - tS t L k then 0 else wdF t (tS t L k) (tE t L k - tS t L k) := by unfold ntW; rw [if_pos eC]; rfl
    rw [e1, e2]
    generalize hee : tE t L k = e at eE
    generalize hss : tS t L k = s at *
    have hle : e ≤ L := by rw [eE]; exact sk_le _ s rfl (by omega)
    refine z_heap (h1 := hu h Q (oMod Q (nI (n + 1)) (upd (upd (upd m 4 (nI s)) 5 (nI s)) 6 2) (wdF t s (s - s)))) (by rw [Nat.sub_self]; rfl) ?_
    have key : s ≤ s → Z G m_X11_nextToken d 0 0 0 0 161 [some (.ref Q), some (.int c)] [] (hu h Q (oMod Q (nI (n + 1)) (upd (upd (upd m 4 (nI s)) 5 (nI s)) 6 2) (wdF t s (s - s)))) (RE none (hu h Q (oMod Q (nI (n + 1)) (upd (upd (upd m 4 (nI e)) 5 (nI s)) 6 2) (if 5 < e - s then 0 else wdF t s (e - s))))) := by
      refine loopS (p := isLe) (t := t) (L := L) (e := e) (fun j => s ≤ j → Z G m_X11_nextToken d 0 0 0 0 161 [some (.ref Q), some (.int c)] [] (hu h Q (oMod Q (nI (n + 1)) (upd (upd (upd m 4 (nI j)) 5 (nI s)) 6 2) (wdF t s (j - s)))) (RE none (hu h Q (oMod Q (nI (n + 1)) (upd (upd (upd m 4 (nI e)) 5 (nI s)) 6 2) (if 5 < e - s then 0 else wdF t s (e - s)))))) ?_ ?_ _ s rfl eE.symm
      · intro hj
        have q9 : isLe (bA t L e) = false := by
          have := sk_ef (p := isLe) (t := t) (L := L) _ s rfl
          rw [← eE] at this
          exact Bool.eq_false_iff.mpr (fun z => this ((bA_p isLe_m).mp z))
        refine z_ald0 (n := 162) (by decide +kernel) ?_
        refine z_ald0 (n := 163) (by decide +kernel) ?_
        refine z_getf (n := 166) (idx := 120) (by decide +kernel) fl_X11_120 (by first | assumption | (simp (disch := omega) only [hu_s, hu_n]; first | assumption | rfl)) (by rfl) ?_
        refine z_v1 (n := 169) (idx := 123) (by decide +kernel) ml_X11_123 (by first | assumption | (simp (disch := omega) only [hu_s, hu_n]; first | assumption | rfl)) rfl (Nat.le_of_ble_eq_true rfl) (by omega) ⟨Nat.le_refl _, Nat.le_refl _⟩ (m_byteAt (m := upd (upd (upd m 4 (nI e)) 5 (nI s)) 6 2) (t := t) (L := L) 0 (by simp (disch := omega) only [hTn, hCr, hFl, hu_s, hu_n]; first | done | assumption | rfl) (by simp (disch := omega) only [hTn, hCr, hFl, hu_s, hu_n]; first | done | assumption | rfl) hm hl3 (by omega)) ?_
        refine z_s1 (n := 172) (idx := 138) (by decide +kernel) ml_X11_138 (Nat.le_of_ble_eq_true rfl) (by omega) ⟨Nat.le_refl _, Nat.le_refl _⟩ (m_isLetter 1 (by omega)) ?_
        refine z_ifb_eq_t (n := 175) (off := 50) (tgt := 222) (by decide +kernel) (q9) ?_
        refine z_ald0 (n := 223) (by decide +kernel) ?_
        refine z_getf (n := 226) (idx := 120) (by decide +kernel) fl_X11_120 (by first | assumption | (simp (disch := omega) only [hu_s, hu_n]; first | assumption | rfl)) (by rfl) ?_
        refine z_ald0 (n := 227) (by decide +kernel) ?_
        refine z_getf (n := 230) (idx := 126) (by decide +kernel) fl_X11_126 (by first | assumption | (simp (disch := omega) only [hu_s, hu_n]; first | assumption | rfl)) (by rfl) ?_
        refine z_isub (n := 231) (by decide +kernel) ?_
        refine z_top (nI_sub hj) ?_
        refine z_iconst (n := 232) (q := 5) (v := 5) (by decide +kernel) ?_
        refine z_icmp_le (n := 235) (off := 48) (tgt := 280) (by decide +kernel) (fun c232 => ?_) (fun c232 => ?_)
        · refine z_vret (by decide +kernel) rfl (Nat.le_refl _) ?_
          first | exact ⟨rfl, by rw [if_neg (fun z => nI_ge z (by omega) (show nI (e - s) ≤ nI 5 from c232))]⟩ | exact ⟨rfl, by rw [if_pos (Nat.lt_of_not_le (fun z => c232 (show nI (e - s) ≤ nI 5 from nI_le z (by omega))))]; simp only [hu_hu]; rfl⟩
        · refine z_ald0 (n := 236) (by decide +kernel) ?_
          refine z_lconst (n := 237) (q := 0) (v := 0) (by decide +kernel) ?_
          refine z_putf (n := 240) (idx := 141) (ty := .long) (by decide +kernel) fl_X11_141 (by first | assumption | (simp (disch := omega) only [hu_s, hu_n]; first | assumption | rfl)) ⟨_, _, _, rfl, rfl, by decide +kernel⟩ rfl rfl (Nat.le_of_ble_eq_true rfl) ?_
          refine z_goto (n := 243) (off := 40) (tgt := 280) (by decide +kernel) ?_
          refine z_vret (by decide +kernel) rfl (Nat.le_refl _) ?_
          first | exact ⟨rfl, by rw [if_neg (fun z => nI_ge z (by omega) (show nI (e - s) ≤ nI 5 from c232))]⟩ | exact ⟨rfl, by rw [if_pos (Nat.lt_of_not_le (fun z => c232 (show nI (e - s) ≤ nI 5 from nI_le z (by omega))))]; simp only [hu_hu]; rfl⟩
      · intro j j1 j2 ih hj
        have ih := ih (by omega)
        have q9 : isLe (bA t L j) = true := (bA_p isLe_m).mpr ⟨j1, j2⟩
        have q8 : bA t L j = t j := by unfold bA; rw [if_neg (by omega)]
        rw [show j + 1 - s = (j - s) + 1 by omega, show wdF t s (j - s + 1) = if j - s < 5 then (wdF t s (j - s)) <<< ((8 : Int32).toInt64 &&& 63) ||| (t (s + (j - s))).toInt64 else wdF t s (j - s) from rfl, show s + (j - s) = j by omega, ← q8] at ih
        generalize wdF t s (j - s) = v9 at ih
        generalize wdF t s (e - s) = w9 at ih
        refine z_ald0 (n := 162) (by decide +kernel) ?_
        refine z_ald0 (n := 163) (by decide +kernel) ?_
        refine z_getf (n := 166) (idx := 120) (by decide +kernel) fl_X11_120 (by first | assumption | (simp (disch := omega) only [hu_s, hu_n]; first | assumption | rfl)) (by rfl) ?_
        refine z_v1 (n := 169) (idx := 123) (by decide +kernel) ml_X11_123 (by first | assumption | (simp (disch := omega) only [hu_s, hu_n]; first | assumption | rfl)) rfl (Nat.le_of_ble_eq_true rfl) (by omega) ⟨Nat.le_refl _, Nat.le_refl _⟩ (m_byteAt (m := upd (upd (upd m 4 (nI j)) 5 (nI s)) 6 2) (t := t) (L := L) 0 (by simp (disch := omega) only [hTn, hCr, hFl, hu_s, hu_n]; first | done | assumption | rfl) (by simp (disch := omega) only [hTn, hCr, hFl, hu_s, hu_n]; first | done | assumption | rfl) hm hl3 (by omega)) ?_
        refine z_s1 (n := 172) (idx := 138) (by decide +kernel) ml_X11_138 (Nat.le_of_ble_eq_true rfl) (by omega) ⟨Nat.le_refl _, Nat.le_refl _⟩ (m_isLetter 1 (by omega)) ?_
        refine z_ifb_eq_f (n := 175) (off := 50) (tgt := 222) (by decide +kernel) (q9) ?_
        refine z_ald0 (n := 176) (by decide +kernel) ?_
        refine z_getf (n := 179) (idx := 120) (by decide +kernel) fl_X11_120 (by first | assumption | (simp (disch := omega) only [hu_s, hu_n]; first | assumption | rfl)) (by rfl) ?_
        refine z_ald0 (n := 180) (by decide +kernel) ?_
        refine z_getf (n := 183) (idx := 126) (by decide +kernel) fl_X11_126 (by first | assumption | (simp (disch := omega) only [hu_s, hu_n]; first | assumption | rfl)) (by rfl) ?_
        refine z_isub (n := 184) (by decide +kernel) ?_
        refine z_top (nI_sub hj) ?_
        refine z_iconst (n := 185) (q := 5) (v := 5) (by decide +kernel) ?_
        refine z_icmp_ge (n := 188) (off := 24) (tgt := 209) (by decide +kernel) (fun c185 => ?_) (fun c185 => ?_)
        · refine z_ald0 (n := 210) (by decide +kernel) ?_
          refine z_dup (n := 211) (by decide +kernel) rfl ?_
          refine z_getf (n := 214) (idx := 120) (by decide +kernel) fl_X11_120 (by first | assumption | (simp (disch := omega) only [hu_s, hu_n]; first | assumption | rfl)) (by rfl) ?_
          refine z_iconst (n := 215) (q := 1) (v := 1) (by decide +kernel) ?_
          refine z_iadd (n := 216) (by decide +kernel) ?_
          refine z_top (nI_1 _) ?_
          refine z_putf (n := 219) (idx := 120) (ty := .int) (by decide +kernel) fl_X11_120 (by first | assumption | (simp (disch := omega) only [hu_s, hu_n]; first | assumption | rfl)) ⟨_, _, _, rfl, rfl, by decide +kernel⟩ rfl rfl (Nat.le_of_ble_eq_true rfl) ?_
          refine z_goto (n := 222) (off := -58) (tgt := 161) (by decide +kernel) ?_
          first | (rw [if_neg (fun z => nI_ge z (by omega) (show nI 5 ≤ nI (j - s) from c185))] at ih; exact z_heap (by simp only [hu_hu]; rfl) ih) | (rw [if_pos (Nat.lt_of_not_le (fun z => c185 (show nI 5 ≤ nI (j - s) from nI_le z (by omega))))] at ih; exact z_heap (by simp only [hu_hu]; rfl) ih)
        · refine z_ald0 (n := 189) (by decide +kernel) ?_
          refine z_ald0 (n := 190) (by decide +kernel) ?_
          refine z_getf (n := 193) (idx := 141) (by decide +kernel) fl_X11_141 (by first | assumption | (simp (disch := omega) only [hu_s, hu_n]; first | assumption | rfl)) (by rfl) ?_
          refine z_bipush (n := 195) (q := 8) (v := 8) (by decide +kernel) ?_
          refine z_lshl (n := 196) (by decide +kernel) ?_
          refine z_ald0 (n := 197) (by decide +kernel) ?_
          refine z_ald0 (n := 198) (by decide +kernel) ?_
          refine z_getf (n := 201) (idx := 120) (by decide +kernel) fl_X11_120 (by first | assumption | (simp (disch := omega) only [hu_s, hu_n]; first | assumption | rfl)) (by rfl) ?_
          refine z_v1 (n := 204) (idx := 123) (by decide +kernel) ml_X11_123 (by first | assumption | (simp (disch := omega) only [hu_s, hu_n]; first | assumption | rfl)) rfl (Nat.le_of_ble_eq_true rfl) (by omega) ⟨Nat.le_refl _, Nat.le_refl _⟩ (m_byteAt (m := upd (upd (upd m 4 (nI j)) 5 (nI s)) 6 2) (t := t) (L := L) 0 (by simp (disch := omega) only [hTn, hCr, hFl, hu_s, hu_n]; first | done | assumption | rfl) (by simp (disch := omega) only [hTn, hCr, hFl, hu_s, hu_n]; first | done | assumption | rfl) hm hl3 (by omega)) ?_
          refine z_i2l (n := 205) (by decide +kernel) ?_
          refine z_lor (n := 206) (by decide +kernel) ?_
          refine z_putf (n := 209) (idx := 141) (ty := .long) (by decide +kernel) fl_X11_141 (by first | assumption | (simp (disch := omega) only [hu_s, hu_n]; first | assumption | rfl)) ⟨_, _, _, rfl, rfl, by decide +kernel⟩ rfl rfl (Nat.le_of_ble_eq_true rfl) ?_
          refine z_ald0 (n := 210) (by decide +kernel) ?_
          refine z_dup (n := 211) (by decide +kernel) rfl ?_
          refine z_getf (n := 214) (idx := 120) (by decide +kernel) fl_X11_120 (by first | assumption | (simp (disch := omega) only [hu_s, hu_n]; first | assumption | rfl)) (by rfl) ?_
          refine z_iconst (n := 215) (q := 1) (v := 1) (by decide +kernel) ?_
          refine z_iadd (n := 216) (by decide +kernel) ?_
          refine z_top (nI_1 _) ?_
          refine z_putf (n := 219) (idx := 120) (ty := .int) (by decide +kernel) fl_X11_120 (by first | assumption | (simp (disch := omega) only [hu_s, hu_n]; first | assumption | rfl)) ⟨_, _, _, rfl, rfl, by decide +kernel⟩ rfl rfl (Nat.le_of_ble_eq_true rfl) ?_
          refine z_goto (n := 222) (off := -58) (tgt := 161) (by decide +kernel) ?_
          first | (rw [if_neg (fun z => nI_ge z (by omega) (show nI 5 ≤ nI (j - s) from c185))] at ih; exact z_heap (by simp only [hu_hu]; rfl) ih) | (rw [if_pos (Nat.lt_of_not_le (fun z => c185 (show nI 5 ≤ nI (j - s) from nI_le z (by omega))))] at ih; exact z_heap (by simp only [hu_hu]; rfl) ih)
    exact key (Nat.le_refl _)
  have fin : Z G m_X11_nextToken d 0 0 0 0 39 [some (.ref Q), none] [] (hu h Q (oMod Q (nI (n + 1)) (upd m 4 (nI (tS t L k))) wd)) (RE none (hu h Q (oMod Q (nI (n + 1)) (ntM t L k m) (ntW t L k wd)))) := by
    by_cases c : L ≤ tS t L k
    · have eE : tE t L k = tS t L k := by unfold tE; rw [if_pos c]
      have eC : tC t L k = 0 := by unfold tC; rw [if_pos c]
      have eT : tT t L k = 0 := by unfold tT; rw [if_pos c]
      have e1 : ntM t L k m = upd (upd (upd m 4 (nI (tS t L k))) 5 (nI (tS t L k))) 6 0 := by
        unfold ntM
        rw [if_neg (by rw [eC]; decide), eT, eE]
        exact upd_self (upd (upd (upd m 4 (nI (tS t L k))) 5 (nI (tS t L k))) 6 0) 7
      have e2 : ntW t L k wd = wd := by unfold ntW; rw [if_neg (by rw [eC]; decide)]
      rw [e1, e2]
      generalize tS t L k = s at *
      have q8 : bA t L s = -1 := by unfold bA; rw [if_pos c]
      refine z_ald0 (n := 40) (by decide +kernel) ?_
      refine z_ald0 (n := 41) (by decide +kernel) ?_
      refine z_getf (n := 44) (idx := 120) (by decide +kernel) fl_X11_120 (by first | assumption | (simp (disch := omega) only [hu_s, hu_n]; first | assumption | rfl)) (by rfl) ?_
      refine z_putf (n := 47) (idx := 126) (ty := .int) (by decide +kernel) fl_X11_126 (by first | assumption | (simp (disch := omega) only [hu_s, hu_n]; first | assumption | rfl)) ⟨_, _, _, rfl, rfl, by decide +kernel⟩ rfl rfl (Nat.le_of_ble_eq_true rfl) ?_
      refine z_ald0 (n := 48) (by decide +kernel) ?_
      refine z_ald0 (n := 49) (by decide +kernel) ?_
      refine z_getf (n := 52) (idx := 120) (by decide +kernel) fl_X11_120 (by first | assumption | (simp (disch := omega) only [hu_s, hu_n]; first | assumption | rfl)) (by rfl) ?_
      refine z_v1 (n := 55) (idx := 123) (by decide +kernel) ml_X11_123 (by first | assumption | (simp (disch := omega) only [hu_s, hu_n]; first | assumption | rfl)) rfl (Nat.le_of_ble_eq_true rfl) (by omega) ⟨Nat.le_refl _, Nat.le_refl _⟩ (m_byteAt (m := upd (upd m 4 (nI s)) 5 (nI s)) (t := t) (L := L) 0 (by simp (disch := omega) only [hTn, hCr, hFl, hu_s, hu_n]; first | done | assumption | rfl) (by simp (disch := omega) only [hTn, hCr, hFl, hu_s, hu_n]; first | done | assumption | rfl) hm hl3 (by omega)) ?_
      refine z_ist1 (n := 56) (by decide +kernel) rfl ?_
      refine z_ild1 (n := 57) (by decide +kernel) ?_
      refine z_if_ge_f (n := 60) (off := 11) (tgt := 68) (by decide +kernel) (by rw [q8]; decide) ?_
      refine z_ald0 (n := 61) (by decide +kernel) ?_
      refine z_iconst (n := 62) (q := 0) (v := 0) (by decide +kernel) ?_
      refine z_putf (n := 65) (idx := 129) (ty := .int) (by decide +kernel) fl_X11_129 (by first | assumption | (simp (disch := omega) only [hu_s, hu_n]; first | assumption | rfl)) ⟨_, _, _, rfl, rfl, by decide +kernel⟩ rfl rfl (Nat.le_of_ble_eq_true rfl) ?_
      refine z_goto (n := 68) (off := 215) (tgt := 280) (by decide +kernel) ?_
      refine z_vret (by decide +kernel) rfl (Nat.le_refl _) ?_
      exact ⟨rfl, by simp only [hu_hu]; rfl⟩
    · have q8 : bA t L (tS t L k) = t (tS t L k) := by unfold bA; rw [if_neg c]
      have hp9 := hp (tS t L k) (by omega)
      by_cases cd : isDi (bA t L (tS t L k)) = true
      · have hd9 := hd9 cd
        clear hl9
        generalize ntM t L k m = m9 at *
        generalize ntW t L k wd = w9 at *
        generalize tS t L k = s at *
        refine z_ald0 (n := 40) (by decide +kernel) ?_
        refine z_ald0 (n := 41) (by decide +kernel) ?_
        refine z_getf (n := 44) (idx := 120) (by decide +kernel) fl_X11_120 (by first | assumption | (simp (disch := omega) only [hu_s, hu_n]; first | assumption | rfl)) (by rfl) ?_
        refine z_putf (n := 47) (idx := 126) (ty := .int) (by decide +kernel) fl_X11_126 (by first | assumption | (simp (disch := omega) only [hu_s, hu_n]; first | assumption | rfl)) ⟨_, _, _, rfl, rfl, by decide +kernel⟩ rfl rfl (Nat.le_of_ble_eq_true rfl) ?_
        refine z_ald0 (n := 48) (by decide +kernel) ?_
        refine z_ald0 (n := 49) (by decide +kernel) ?_
        refine z_getf (n := 52) (idx := 120) (by decide +kernel) fl_X11_120 (by first | assumption | (simp (disch := omega) only [hu_s, hu_n]; first | assumption | rfl)) (by rfl) ?_
        refine z_v1 (n := 55) (idx := 123) (by decide +kernel) ml_X11_123 (by first | assumption | (simp (disch := omega) only [hu_s, hu_n]; first | assumption | rfl)) rfl (Nat.le_of_ble_eq_true rfl) (by omega) ⟨Nat.le_refl _, Nat.le_refl _⟩ (m_byteAt (m := upd (upd m 4 (nI s)) 5 (nI s)) (t := t) (L := L) 0 (by simp (disch := omega) only [hTn, hCr, hFl, hu_s, hu_n]; first | done | assumption | rfl) (by simp (disch := omega) only [hTn, hCr, hFl, hu_s, hu_n]; first | done | assumption | rfl) hm hl3 (by omega)) ?_
        refine z_ist1 (n := 56) (by decide +kernel) rfl ?_
        refine z_ild1 (n := 57) (by decide +kernel) ?_
        refine z_if_ge_t (n := 60) (off := 11) (tgt := 68) (by decide +kernel) (by rw [q8]; exact hp9) ?_
        refine z_ild1 (n := 69) (by decide +kernel) ?_
        refine z_s1 (n := 72) (idx := 132) (by decide +kernel) ml_X11_132 (Nat.le_of_ble_eq_true rfl) (by omega) ⟨Nat.le_refl _, Nat.le_refl _⟩ (m_isDigit 1 (by omega)) ?_
        refine z_ifb_eq_f (n := 75) (off := 72) (tgt := 144) (by decide +kernel) (cd) ?_
        refine z_ald0 (n := 76) (by decide +kernel) ?_
        refine z_iconst (n := 77) (q := 1) (v := 1) (by decide +kernel) ?_
        refine z_putf (n := 80) (idx := 129) (ty := .int) (by decide +kernel) fl_X11_129 (by first | assumption | (simp (disch := omega) only [hu_s, hu_n]; first | assumption | rfl)) ⟨_, _, _, rfl, rfl, by decide +kernel⟩ rfl rfl (Nat.le_of_ble_eq_true rfl) ?_
        refine z_ald0 (n := 81) (by decide +kernel) ?_
        refine z_iconst (n := 82) (q := 0) (v := 0) (by decide +kernel) ?_
        refine z_putf (n := 85) (idx := 135) (ty := .int) (by decide +kernel) fl_X11_135 (by first | assumption | (simp (disch := omega) only [hu_s, hu_n]; first | assumption | rfl)) ⟨_, _, _, rfl, rfl, by decide +kernel⟩ rfl rfl (Nat.le_of_ble_eq_true rfl) ?_
        exact z_heap (by simp only [hu_hu]; rfl) (hd9 _)
      by_cases cl : isLe (bA t L (tS t L k)) = true
      · have hl9 := hl9 cl
        clear hd9
        generalize ntM t L k m = m9 at *
        generalize ntW t L k wd = w9 at *
        generalize tS t L k = s at *
        refine z_ald0 (n := 40) (by decide +kernel) ?_
        refine z_ald0 (n := 41) (by decide +kernel) ?_
        refine z_getf (n := 44) (idx := 120) (by decide +kernel) fl_X11_120 (by first | assumption | (simp (disch := omega) only [hu_s, hu_n]; first | assumption | rfl)) (by rfl) ?_
        refine z_putf (n := 47) (idx := 126) (ty := .int) (by decide +kernel) fl_X11_126 (by first | assumption | (simp (disch := omega) only [hu_s, hu_n]; first | assumption | rfl)) ⟨_, _, _, rfl, rfl, by decide +kernel⟩ rfl rfl (Nat.le_of_ble_eq_true rfl) ?_
        refine z_ald0 (n := 48) (by decide +kernel) ?_
        refine z_ald0 (n := 49) (by decide +kernel) ?_
        refine z_getf (n := 52) (idx := 120) (by decide +kernel) fl_X11_120 (by first | assumption | (simp (disch := omega) only [hu_s, hu_n]; first | assumption | rfl)) (by rfl) ?_
        refine z_v1 (n := 55) (idx := 123) (by decide +kernel) ml_X11_123 (by first | assumption | (simp (disch := omega) only [hu_s, hu_n]; first | assumption | rfl)) rfl (Nat.le_of_ble_eq_true rfl) (by omega) ⟨Nat.le_refl _, Nat.le_refl _⟩ (m_byteAt (m := upd (upd m 4 (nI s)) 5 (nI s)) (t := t) (L := L) 0 (by simp (disch := omega) only [hTn, hCr, hFl, hu_s, hu_n]; first | done | assumption | rfl) (by simp (disch := omega) only [hTn, hCr, hFl, hu_s, hu_n]; first | done | assumption | rfl) hm hl3 (by omega)) ?_
        refine z_ist1 (n := 56) (by decide +kernel) rfl ?_
        refine z_ild1 (n := 57) (by decide +kernel) ?_
        refine z_if_ge_t (n := 60) (off := 11) (tgt := 68) (by decide +kernel) (by rw [q8]; exact hp9) ?_
        refine z_ild1 (n := 69) (by decide +kernel) ?_
        refine z_s1 (n := 72) (idx := 132) (by decide +kernel) ml_X11_132 (Nat.le_of_ble_eq_true rfl) (by omega) ⟨Nat.le_refl _, Nat.le_refl _⟩ (m_isDigit 1 (by omega)) ?_
        refine z_ifb_eq_t (n := 75) (off := 72) (tgt := 144) (by decide +kernel) (Bool.eq_false_iff.mpr cd) ?_
        refine z_ild1 (n := 145) (by decide +kernel) ?_
        refine z_s1 (n := 148) (idx := 138) (by decide +kernel) ml_X11_138 (Nat.le_of_ble_eq_true rfl) (by omega) ⟨Nat.le_refl _, Nat.le_refl _⟩ (m_isLetter 1 (by omega)) ?_
        refine z_ifb_eq_f (n := 151) (off := 95) (tgt := 243) (by decide +kernel) (cl) ?_
        refine z_ald0 (n := 152) (by decide +kernel) ?_
        refine z_iconst (n := 153) (q := 2) (v := 2) (by decide +kernel) ?_
        refine z_putf (n := 156) (idx := 129) (ty := .int) (by decide +kernel) fl_X11_129 (by first | assumption | (simp (disch := omega) only [hu_s, hu_n]; first | assumption | rfl)) ⟨_, _, _, rfl, rfl, by decide +kernel⟩ rfl rfl (Nat.le_of_ble_eq_true rfl) ?_
        refine z_ald0 (n := 157) (by decide +kernel) ?_
        refine z_lconst (n := 158) (q := 0) (v := 0) (by decide +kernel) ?_
        refine z_putf (n := 161) (idx := 141) (ty := .long) (by decide +kernel) fl_X11_141 (by first | assumption | (simp (disch := omega) only [hu_s, hu_n]; first | assumption | rfl)) ⟨_, _, _, rfl, rfl, by decide +kernel⟩ rfl rfl (Nat.le_of_ble_eq_true rfl) ?_
        exact z_heap (by simp only [hu_hu]; rfl) (hl9 _)
      · clear hl9 hd9
        have cd2 := cd
        have cl2 := cl
        rw [q8] at cd2 cl2
        have eE : tE t L k = tS t L k + 1 := by unfold tE; rw [if_neg c, if_neg cl2, if_neg cd2]
        have eC : ¬ tC t L k = 3 := by unfold tC; rw [if_neg c, if_neg cl2, if_neg cd2]; split <;> decide
        have eC2 : ¬ tC t L k = 2 := by unfold tC; rw [if_neg c, if_neg cl2, if_neg cd2]; split <;> decide
        have eT : tT t L k = if isSg (t (tS t L k)) = true then t (tS t L k) else 3 := by unfold tT; rw [if_neg c, if_neg cl2, if_neg cd2]
        have e1 : ntM t L k m = upd (upd (upd m 4 (nI (tS t L k + 1))) 5 (nI (tS t L k))) 6 (if isSg (t (tS t L k)) = true then t (tS t L k) else 3) := by
          unfold ntM
          rw [if_neg eC, eT, eE]
          exact upd_self (upd (upd (upd m 4 (nI (tS t L k + 1))) 5 (nI (tS t L k))) 6 (if isSg (t (tS t L k)) = true then t (tS t L k) else 3)) 7
        have e2 : ntW t L k wd = wd := by unfold ntW; rw [if_neg eC2]
        rw [e1, e2, ← q8]
        generalize tS t L k = s at *
        refine z_ald0 (n := 40) (by decide +kernel) ?_
        refine z_ald0 (n := 41) (by decide +kernel) ?_
        refine z_getf (n := 44) (idx := 120) (by decide +kernel) fl_X11_120 (by first | assumption | (simp (disch := omega) only [hu_s, hu_n]; first | assumption | rfl)) (by rfl) ?_
        refine z_putf (n := 47) (idx := 126) (ty := .int) (by decide +kernel) fl_X11_126 (by first | assumption | (simp (disch := omega) only [hu_s, hu_n]; first | assumption | rfl)) ⟨_, _, _, rfl, rfl, by decide +kernel⟩ rfl rfl (Nat.le_of_ble_eq_true rfl) ?_
        refine z_ald0 (n := 48) (by decide +kernel) ?_
        refine z_ald0 (n := 49) (by decide +kernel) ?_
        refine z_getf (n := 52) (idx := 120) (by decide +kernel) fl_X11_120 (by first | assumption | (simp (disch := omega) only [hu_s, hu_n]; first | assumption | rfl)) (by rfl) ?_
        refine z_v1 (n := 55) (idx := 123) (by decide +kernel) ml_X11_123 (by first | assumption | (simp (disch := omega) only [hu_s, hu_n]; first | assumption | rfl)) rfl (Nat.le_of_ble_eq_true rfl) (by omega) ⟨Nat.le_refl _, Nat.le_refl _⟩ (m_byteAt (m := upd (upd m 4 (nI s)) 5 (nI s)) (t := t) (L := L) 0 (by simp (disch := omega) only [hTn, hCr, hFl, hu_s, hu_n]; first | done | assumption | rfl) (by simp (disch := omega) only [hTn, hCr, hFl, hu_s, hu_n]; first | done | assumption | rfl) hm hl3 (by omega)) ?_
        refine z_ist1 (n := 56) (by decide +kernel) rfl ?_
        refine z_ild1 (n := 57) (by decide +kernel) ?_
        refine z_if_ge_t (n := 60) (off := 11) (tgt := 68) (by decide +kernel) (by rw [q8]; exact hp9) ?_
        refine z_ild1 (n := 69) (by decide +kernel) ?_
        refine z_s1 (n := 72) (idx := 132) (by decide +kernel) ml_X11_132 (Nat.le_of_ble_eq_true rfl) (by omega) ⟨Nat.le_refl _, Nat.le_refl _⟩ (m_isDigit 1 (by omega)) ?_
        refine z_ifb_eq_t (n := 75) (off := 72) (tgt := 144) (by decide +kernel) (Bool.eq_false_iff.mpr cd) ?_
        refine z_ild1 (n := 145) (by decide +kernel) ?_
        refine z_s1 (n := 148) (idx := 138) (by decide +kernel) ml_X11_138 (Nat.le_of_ble_eq_true rfl) (by omega) ⟨Nat.le_refl _, Nat.le_refl _⟩ (m_isLetter 1 (by omega)) ?_
        refine z_ifb_eq_t (n := 151) (off := 95) (tgt := 243) (by decide +kernel) (Bool.eq_false_iff.mpr cl) ?_
        refine z_ald0 (n := 244) (by decide +kernel) ?_
        refine z_dup (n := 245) (by decide +kernel) rfl ?_
        refine z_getf (n := 248) (idx := 120) (by decide +kernel) fl_X11_120 (by first | assumption | (simp (disch := omega) only [hu_s, hu_n]; first | assumption | rfl)) (by rfl) ?_
        refine z_iconst (n := 249) (q := 1) (v := 1) (by decide +kernel) ?_
        refine z_iadd (n := 250) (by decide +kernel) ?_
        refine z_top (nI_1 _) ?_
        refine z_putf (n := 253) (idx := 120) (ty := .int) (by decide +kernel) fl_X11_120 (by first | assumption | (simp (disch := omega) only [hu_s, hu_n]; first | assumption | rfl)) ⟨_, _, _, rfl, rfl, by decide +kernel⟩ rfl rfl (Nat.le_of_ble_eq_true rfl) ?_
        refine z_ald0 (n := 254) (by decide +kernel) ?_
        refine z_ild1 (n := 255) (by decide +kernel) ?_
        refine z_bipush (n := 257) (q := 40) (v := 40) (by decide +kernel) ?_
        refine z_icmp_eq (n := 260) (off := 15) (tgt := 272) (by decide +kernel) (fun c257 => ?_) (fun c257 => ?_)
        · refine z_ild1 (n := 273) (by decide +kernel) ?_
          refine z_goto (n := 276) (off := 4) (tgt := 277) (by decide +kernel) ?_
          refine z_putf (n := 280) (idx := 129) (ty := .int) (by decide +kernel) fl_X11_129 (by first | assumption | (simp (disch := omega) only [hu_s, hu_n]; first | assumption | rfl)) ⟨_, _, _, rfl, rfl, by decide +kernel⟩ rfl rfl (Nat.le_of_ble_eq_true rfl) ?_
          refine z_vret (by decide +kernel) rfl (Nat.le_refl _) ?_
          first | exact ⟨rfl, by rw [if_pos (by unfold isSg; simp only [eq_true c257, decide_true, decide_false, Bool.and_true, Bool.and_false, Bool.true_and, Bool.false_and, Bool.or_true, Bool.or_false, Bool.true_or, Bool.false_or, Bool.not_true, Bool.not_false, if_true, if_false])]; simp only [hu_hu]; rfl⟩ | exact ⟨rfl, by rw [if_neg (by unfold isSg; simp only [eq_true c257, decide_true, decide_false, Bool.and_true, Bool.and_false, Bool.true_and, Bool.false_and, Bool.or_true, Bool.or_false, Bool.true_or, Bool.false_or, Bool.not_true, Bool.not_false, if_true, if_false]; decide)]; simp only [hu_hu]; rfl⟩
        · refine z_ild1 (n := 261) (by decide +kernel) ?_
          refine z_bipush (n := 263) (q := 41) (v := 41) (by decide +kernel) ?_
          refine z_icmp_eq (n := 266) (off := 9) (tgt := 272) (by decide +kernel) (fun c263 => ?_) (fun c263 => ?_)
          · refine z_ild1 (n := 273) (by decide +kernel) ?_
            refine z_goto (n := 276) (off := 4) (tgt := 277) (by decide +kernel) ?_
            refine z_putf (n := 280) (idx := 129) (ty := .int) (by decide +kernel) fl_X11_129 (by first | assumption | (simp (disch := omega) only [hu_s, hu_n]; first | assumption | rfl)) ⟨_, _, _, rfl, rfl, by decide +kernel⟩ rfl rfl (Nat.le_of_ble_eq_true rfl) ?_
            refine z_vret (by decide +kernel) rfl (Nat.le_refl _) ?_
            first | exact ⟨rfl, by rw [if_pos (by unfold isSg; simp only [eq_false c257, eq_true c263, decide_true, decide_false, Bool.and_true, Bool.and_false, Bool.true_and, Bool.false_and, Bool.or_true, Bool.or_false, Bool.true_or, Bool.false_or, Bool.not_true, Bool.not_false, if_true, if_false])]; simp only [hu_hu]; rfl⟩ | exact ⟨rfl, by rw [if_neg (by unfold isSg; simp only [eq_false c257, eq_true c263, decide_true, decide_false, Bool.and_true, Bool.and_false, Bool.true_and, Bool.false_and, Bool.or_true, Bool.or_false, Bool.true_or, Bool.false_or, Bool.not_true, Bool.not_false, if_true, if_false]; decide)]; simp only [hu_hu]; rfl⟩
          · refine z_ild1 (n := 267) (by decide +kernel) ?_
            refine z_bipush (n := 269) (q := 59) (v := 59) (by decide +kernel) ?_
            refine z_icmp_ne (n := 272) (off := 7) (tgt := 276) (by decide +kernel) (fun c269 => ?_) (fun c269 => ?_)
            · refine z_iconst (n := 277) (q := 3) (v := 3) (by decide +kernel) ?_
              refine z_putf (n := 280) (idx := 129) (ty := .int) (by decide +kernel) fl_X11_129 (by first | assumption | (simp (disch := omega) only [hu_s, hu_n]; first | assumption | rfl)) ⟨_, _, _, rfl, rfl, by decide +kernel⟩ rfl rfl (Nat.le_of_ble_eq_true rfl) ?_
              refine z_vret (by decide +kernel) rfl (Nat.le_refl _) ?_
              first | exact ⟨rfl, by rw [if_pos (by unfold isSg; simp only [eq_false c257, eq_false c263, eq_false c269, decide_true, decide_false, Bool.and_true, Bool.and_false, Bool.true_and, Bool.false_and, Bool.or_true, Bool.or_false, Bool.true_or, Bool.false_or, Bool.not_true, Bool.not_false, if_true, if_false])]; simp only [hu_hu]; rfl⟩ | exact ⟨rfl, by rw [if_neg (by unfold isSg; simp only [eq_false c257, eq_false c263, eq_false c269, decide_true, decide_false, Bool.and_true, Bool.and_false, Bool.true_and, Bool.false_and, Bool.or_true, Bool.or_false, Bool.true_or, Bool.false_or, Bool.not_true, Bool.not_false, if_true, if_false]; decide)]; simp only [hu_hu]; rfl⟩
            · refine z_ild1 (n := 273) (by decide +kernel) ?_
              refine z_goto (n := 276) (off := 4) (tgt := 277) (by decide +kernel) ?_
              refine z_putf (n := 280) (idx := 129) (ty := .int) (by decide +kernel) fl_X11_129 (by first | assumption | (simp (disch := omega) only [hu_s, hu_n]; first | assumption | rfl)) ⟨_, _, _, rfl, rfl, by decide +kernel⟩ rfl rfl (Nat.le_of_ble_eq_true rfl) ?_
              refine z_vret (by decide +kernel) rfl (Nat.le_refl _) ?_
              first | exact ⟨rfl, by rw [if_pos (by unfold isSg; simp only [eq_false c257, eq_false c263, eq_true c269, decide_true, decide_false, Bool.and_true, Bool.and_false, Bool.true_and, Bool.false_and, Bool.or_true, Bool.or_false, Bool.true_or, Bool.false_or, Bool.not_true, Bool.not_false, if_true, if_false])]; simp only [hu_hu]; rfl⟩ | exact ⟨rfl, by rw [if_neg (by unfold isSg; simp only [eq_false c257, eq_false c263, eq_true c269, decide_true, decide_false, Bool.and_true, Bool.and_false, Bool.true_and, Bool.false_and, Bool.or_true, Bool.or_false, Bool.true_or, Bool.false_or, Bool.not_true, Bool.not_false, if_true, if_false]; decide)]; simp only [hu_hu]; rfl⟩
  refine ev_1_1 rfl (by decide +kernel) (by decide +kernel) ?_
  clear hd9 hl9
  refine z_heap (h1 := hu h Q (oMod Q (nI (n + 1)) (upd m 4 (nI k)) wd)) (by rw [← hk, upd_self]; exact (hu_self hQ).symm) ?_
  generalize ntM t L k m = m9 at *
  generalize ntW t L k wd = w9 at *
  refine loopS (p := isBl) (t := t) (L := L) (e := tS t L k) (fun j => j ≤ 301 → Z G m_X11_nextToken d 0 0 0 0 0 [some (.ref Q), none] [] (hu h Q (oMod Q (nI (n + 1)) (upd m 4 (nI j)) wd)) (RE none (hu h Q (oMod Q (nI (n + 1)) m9 w9)))) ?_ ?_ _ k rfl rfl hkL
  · intro _
    have q9 : isBl (bA t L (tS t L k)) = false := Bool.eq_false_iff.mpr (fun z => sk_ef (p := isBl) (t := t) (L := L) _ k rfl ((bA_p isBl_m).mp z))
    generalize tS t L k = s at *
    have q7 : ¬ bA t L s = 32 := fun z => by rw [z] at q9; exact absurd q9 (by decide)
    have q6 : ¬ bA t L s = 10 := fun z => by rw [z] at q9; exact absurd q9 (by decide)
    refine z_ald0 (n := 1) (by decide +kernel) ?_
    refine z_ald0 (n := 2) (by decide +kernel) ?_
    refine z_getf (n := 5) (idx := 120) (by decide +kernel) fl_X11_120 (by first | assumption | (simp (disch := omega) only [hu_s, hu_n]; first | assumption | rfl)) (by rfl) ?_
    refine z_v1 (n := 8) (idx := 123) (by decide +kernel) ml_X11_123 (by first | assumption | (simp (disch := omega) only [hu_s, hu_n]; first | assumption | rfl)) rfl (Nat.le_of_ble_eq_true rfl) (by omega) ⟨Nat.le_refl _, Nat.le_refl _⟩ (m_byteAt (m := upd m 4 (nI s)) (t := t) (L := L) 0 (by simp (disch := omega) only [hTn, hCr, hFl, hu_s, hu_n]; first | done | assumption | rfl) (by simp (disch := omega) only [hTn, hCr, hFl, hu_s, hu_n]; first | done | assumption | rfl) hm hl3 (by omega)) ?_
    refine z_bipush (n := 10) (q := 32) (v := 32) (by decide +kernel) ?_
    refine z_icmp_eq_f (n := 13) (off := 16) (tgt := 26) (by decide +kernel) (q7) ?_
    refine z_ald0 (n := 14) (by decide +kernel) ?_
    refine z_ald0 (n := 15) (by decide +kernel) ?_
    refine z_getf (n := 18) (idx := 120) (by decide +kernel) fl_X11_120 (by first | assumption | (simp (disch := omega) only [hu_s, hu_n]; first | assumption | rfl)) (by rfl) ?_
    refine z_v1 (n := 21) (idx := 123) (by decide +kernel) ml_X11_123 (by first | assumption | (simp (disch := omega) only [hu_s, hu_n]; first | assumption | rfl)) rfl (Nat.le_of_ble_eq_true rfl) (by omega) ⟨Nat.le_refl _, Nat.le_refl _⟩ (m_byteAt (m := upd m 4 (nI s)) (t := t) (L := L) 0 (by simp (disch := omega) only [hTn, hCr, hFl, hu_s, hu_n]; first | done | assumption | rfl) (by simp (disch := omega) only [hTn, hCr, hFl, hu_s, hu_n]; first | done | assumption | rfl) hm hl3 (by omega)) ?_
    refine z_bipush (n := 23) (q := 10) (v := 10) (by decide +kernel) ?_
    refine z_icmp_ne_t (n := 26) (off := 16) (tgt := 39) (by decide +kernel) (q6) ?_
    exact fin
  · intro j j1 j2 ih _
    have ih := ih (by omega)
    clear fin
    have q9 : isBl (bA t L j) = true := (bA_p isBl_m).mpr ⟨j1, j2⟩
    refine z_ald0 (n := 1) (by decide +kernel) ?_
    refine z_ald0 (n := 2) (by decide +kernel) ?_
    refine z_getf (n := 5) (idx := 120) (by decide +kernel) fl_X11_120 (by first | assumption | (simp (disch := omega) only [hu_s, hu_n]; first | assumption | rfl)) (by rfl) ?_
    refine z_v1 (n := 8) (idx := 123) (by decide +kernel) ml_X11_123 (by first | assumption | (simp (disch := omega) only [hu_s, hu_n]; first | assumption | rfl)) rfl (Nat.le_of_ble_eq_true rfl) (by omega) ⟨Nat.le_refl _, Nat.le_refl _⟩ (m_byteAt (m := upd m 4 (nI j)) (t := t) (L := L) 0 (by simp (disch := omega) only [hTn, hCr, hFl, hu_s, hu_n]; first | done | assumption | rfl) (by simp (disch := omega) only [hTn, hCr, hFl, hu_s, hu_n]; first | done | assumption | rfl) hm hl3 (by omega)) ?_
    refine z_bipush (n := 10) (q := 32) (v := 32) (by decide +kernel) ?_
    refine z_icmp_eq (n := 13) (off := 16) (tgt := 26) (by decide +kernel) (fun c10 => ?_) (fun c10 => ?_)
    · refine z_ald0 (n := 27) (by decide +kernel) ?_
      refine z_dup (n := 28) (by decide +kernel) rfl ?_
      refine z_getf (n := 31) (idx := 120) (by decide +kernel) fl_X11_120 (by first | assumption | (simp (disch := omega) only [hu_s, hu_n]; first | assumption | rfl)) (by rfl) ?_
      refine z_iconst (n := 32) (q := 1) (v := 1) (by decide +kernel) ?_
      refine z_iadd (n := 33) (by decide +kernel) ?_
      refine z_top (nI_1 _) ?_
      refine z_putf (n := 36) (idx := 120) (ty := .int) (by decide +kernel) fl_X11_120 (by first | assumption | (simp (disch := omega) only [hu_s, hu_n]; first | assumption | rfl)) ⟨_, _, _, rfl, rfl, by decide +kernel⟩ rfl rfl (Nat.le_of_ble_eq_true rfl) ?_
      refine z_goto (n := 39) (off := -36) (tgt := 0) (by decide +kernel) ?_
      exact z_heap (by simp only [hu_hu]; rfl) ih
    · refine z_ald0 (n := 14) (by decide +kernel) ?_
      refine z_ald0 (n := 15) (by decide +kernel) ?_
      refine z_getf (n := 18) (idx := 120) (by decide +kernel) fl_X11_120 (by first | assumption | (simp (disch := omega) only [hu_s, hu_n]; first | assumption | rfl)) (by rfl) ?_
      refine z_v1 (n := 21) (idx := 123) (by decide +kernel) ml_X11_123 (by first | assumption | (simp (disch := omega) only [hu_s, hu_n]; first | assumption | rfl)) rfl (Nat.le_of_ble_eq_true rfl) (by omega) ⟨Nat.le_refl _, Nat.le_refl _⟩ (m_byteAt (m := upd m 4 (nI j)) (t := t) (L := L) 0 (by simp (disch := omega) only [hTn, hCr, hFl, hu_s, hu_n]; first | done | assumption | rfl) (by simp (disch := omega) only [hTn, hCr, hFl, hu_s, hu_n]; first | done | assumption | rfl) hm hl3 (by omega)) ?_
      refine z_bipush (n := 23) (q := 10) (v := 10) (by decide +kernel) ?_
      refine z_icmp_ne (n := 26) (off := 16) (tgt := 39) (by decide +kernel) (fun c23 => ?_) (fun c23 => ?_)
      · exact absurd q9 (by unfold isBl; simp only [eq_false c10, eq_false c23, decide_true, decide_false, Bool.and_true, Bool.and_false, Bool.true_and, Bool.false_and, Bool.or_true, Bool.or_false, Bool.true_or, Bool.false_or, Bool.not_true, Bool.not_false, if_true, if_false]; decide)
      · refine z_ald0 (n := 27) (by decide +kernel) ?_
        refine z_dup (n := 28) (by decide +kernel) rfl ?_
        refine z_getf (n := 31) (idx := 120) (by decide +kernel) fl_X11_120 (by first | assumption | (simp (disch := omega) only [hu_s, hu_n]; first | assumption | rfl)) (by rfl) ?_
        refine z_iconst (n := 32) (q := 1) (v := 1) (by decide +kernel) ?_
        refine z_iadd (n := 33) (by decide +kernel) ?_
        refine z_top (nI_1 _) ?_
        refine z_putf (n := 36) (idx := 120) (ty := .int) (by decide +kernel) fl_X11_120 (by first | assumption | (simp (disch := omega) only [hu_s, hu_n]; first | assumption | rfl)) ⟨_, _, _, rfl, rfl, by decide +kernel⟩ rfl rfl (Nat.le_of_ble_eq_true rfl) ?_
        refine z_goto (n := 39) (off := -36) (tgt := 0) (by decide +kernel) ?_
        exact z_heap (by simp only [hu_hu]; rfl) ih
