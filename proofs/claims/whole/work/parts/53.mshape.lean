/-! CreasedPaperModel: sheets and their shapes -/
def tqM (a : Nat → Int32) (sh : Nat) (x : Int32) : Int32 := a (570 + 5 * sh) * (x - a (570 + 5 * sh + 1)) + ((a (570 + 5 * sh + 2)).toInt64 * (x - a (570 + 5 * sh + 1)).toInt64 * (x - a (570 + 5 * sh + 3)).toInt64 * (x - a (570 + 5 * sh + 4)).toInt64 / 1000).toInt32
def tbM (a : Nat → Int32) (sh : Nat) : Nat → Int32 := fun i => tqM a sh (ang i)
theorem sh_of {x y : Int32} {k : Nat} (hk : y = nI k) (hk6 : k ≤ 6) (c : win x 0 (y - 1) = true) : ∃ sh, sh < 6 ∧ x = nI sh := by
  unfold win at c
  simp only [Bool.and_eq_true, Bool.not_eq_true', decide_eq_false_iff_not] at c
  obtain ⟨j, hj, rfl⟩ := nI_of c.1
  refine ⟨j, ?_, rfl⟩
  cases k with
  | zero => exact absurd (show (y - 1) < nI j by rw [hk]; exact Int32.lt_of_lt_of_le (show nI 0 - 1 < 0 by decide) (nI_pos' hj)) c.2
  | succ k =>
    rw [hk, nI_pred] at c
    have := Int32.not_lt.mp c.2
    have := (nI_leI hj (by omega)).mp this
    omega
theorem an_of {x : Int32} (c : win x (-180) 180 = true) : ∃ i, i ≤ 360 ∧ x = ang i := by
  unfold win at c
  simp only [Bool.and_eq_true, Bool.not_eq_true', decide_eq_false_iff_not] at c
  exact ang_of (Int32.not_lt.mp c.1) (Int32.not_lt.mp c.2)
theorem rsa_n1 {T : Nat → Int32} {p j : Int32} (hj : j = -1) : ∀ w u, u + w = 361 → rsaF T p j w u = 361
  | 0, u, h => by show u = 361; omega
  | w + 1, u, h => by
    have e : (rstI T u p && decide (nI (cnb (fun i => rstI T i p) u) = j)) = false := by
      rw [decide_eq_false, Bool.and_false]
      intro z
      have := cnb_le (fun i => rstI T i p) u
      have z2 : (0 : Int32) ≤ j := z ▸ nI_pos' (by omega)
      rw [hj] at z2
      exact absurd z2 (by decide)
    exact (fsT_f e).trans (rsa_n1 hj w (u + 1) (by omega))
theorem rsa_sw {T : Nat → Int32} {p j : Int32} {y z : Int32} : (if rsaF T p j 361 0 < 361 then y else if j = -1 then z else -1000) = (if j = -1 then z else if rsaF T p j 361 0 < 361 then y else -1000) := by
  by_cases c : j = -1
  · rw [rsa_n1 c 361 0 (by omega), if_neg (by omega), if_pos c, if_pos c]
  · rw [if_neg c, if_neg c]
theorem m_torqueAt {G : mG} {h : mH} {Q n sh : Nat} {m : Nat → Int32} {wd : Int64} {a : Nat → Int32} {x : Int32} (d : Nat) (hs : sh < 6) (hQ : h Q = oMod Q (nI (n + 1)) m wd) (hA : h (Q + 1) = aI 600 a) (hn : n + 1 ≤ 40) : EV G m_X11_torqueAt d 0 0 [.ref Q, .int (nI sh), .int x] h (RE (some (.int (tqM a sh x))) h) := by
  have pk : (570 : Int32) + 5 * nI sh = nI (570 + 5 * sh) := by rw [n_570, n_5, pk_mul, nI_add]
  refine ev_3_3 rfl rfl rfl (by decide +kernel) (by decide +kernel) ?_
  refine z_sipush (n := 3) (q := 570) (v := 570) (by decide +kernel) ?_
  refine z_iconst (n := 4) (q := 5) (v := 5) (by decide +kernel) ?_
  refine z_ild1 (n := 5) (by decide +kernel) ?_
  refine z_imul (n := 6) (by decide +kernel) ?_
  refine z_iadd (n := 7) (by decide +kernel) ?_
  refine z_top pk ?_
  refine z_ist3 (n := 8) (by decide +kernel) rfl ?_
  refine z_ald0 (n := 9) (by decide +kernel) ?_
  refine z_getf (n := 12) (idx := 7) (by decide +kernel) fl_X11_7 (by assumption) (by rfl) ?_
  refine z_ild3 (n := 13) (by decide +kernel) ?_
  refine z_iconst (n := 14) (q := 2) (v := 2) (by decide +kernel) ?_
  refine z_iadd (n := 15) (by decide +kernel) ?_
  refine z_iald (n := 16) (by decide +kernel) (by assumption) (by first | assumption | exact ix_nI (by omega) (by omega) | exact ix_of (by simp only [n_0, n_1, n_2, n_3, n_4, n_5, n_6, n_7, n_8, n_10, n_50, n_90, n_130, n_370, n_570, nI_add, pk_mul]; rfl) (by omega) (by omega)) ?_
  refine z_i2l (n := 17) (by decide +kernel) ?_
  refine z_ild2 (n := 18) (by decide +kernel) ?_
  refine z_ald0 (n := 19) (by decide +kernel) ?_
  refine z_getf (n := 22) (idx := 7) (by decide +kernel) fl_X11_7 (by assumption) (by rfl) ?_
  refine z_ild3 (n := 23) (by decide +kernel) ?_
  refine z_iconst (n := 24) (q := 1) (v := 1) (by decide +kernel) ?_
  refine z_iadd (n := 25) (by decide +kernel) ?_
  refine z_iald (n := 26) (by decide +kernel) (by assumption) (by first | assumption | exact ix_nI (by omega) (by omega) | exact ix_of (by simp only [n_0, n_1, n_2, n_3, n_4, n_5, n_6, n_7, n_8, n_10, n_50, n_90, n_130, n_370, n_570, nI_add, pk_mul]; rfl) (by omega) (by omega)) ?_
  refine z_isub (n := 27) (by decide +kernel) ?_
  refine z_i2l (n := 28) (by decide +kernel) ?_
  refine z_lmul (n := 29) (by decide +kernel) ?_
  refine z_ild2 (n := 30) (by decide +kernel) ?_
  refine z_ald0 (n := 31) (by decide +kernel) ?_
  refine z_getf (n := 34) (idx := 7) (by decide +kernel) fl_X11_7 (by assumption) (by rfl) ?_
  refine z_ild3 (n := 35) (by decide +kernel) ?_
  refine z_iconst (n := 36) (q := 3) (v := 3) (by decide +kernel) ?_
  refine z_iadd (n := 37) (by decide +kernel) ?_
  refine z_iald (n := 38) (by decide +kernel) (by assumption) (by first | assumption | exact ix_nI (by omega) (by omega) | exact ix_of (by simp only [n_0, n_1, n_2, n_3, n_4, n_5, n_6, n_7, n_8, n_10, n_50, n_90, n_130, n_370, n_570, nI_add, pk_mul]; rfl) (by omega) (by omega)) ?_
  refine z_isub (n := 39) (by decide +kernel) ?_
  refine z_i2l (n := 40) (by decide +kernel) ?_
  refine z_lmul (n := 41) (by decide +kernel) ?_
  refine z_ild2 (n := 42) (by decide +kernel) ?_
  refine z_ald0 (n := 43) (by decide +kernel) ?_
  refine z_getf (n := 46) (idx := 7) (by decide +kernel) fl_X11_7 (by assumption) (by rfl) ?_
  refine z_ild3 (n := 47) (by decide +kernel) ?_
  refine z_iconst (n := 48) (q := 4) (v := 4) (by decide +kernel) ?_
  refine z_iadd (n := 49) (by decide +kernel) ?_
  refine z_iald (n := 50) (by decide +kernel) (by assumption) (by first | assumption | exact ix_nI (by omega) (by omega) | exact ix_of (by simp only [n_0, n_1, n_2, n_3, n_4, n_5, n_6, n_7, n_8, n_10, n_50, n_90, n_130, n_370, n_570, nI_add, pk_mul]; rfl) (by omega) (by omega)) ?_
  refine z_isub (n := 51) (by decide +kernel) ?_
  refine z_i2l (n := 52) (by decide +kernel) ?_
  refine z_lmul (n := 53) (by decide +kernel) ?_
  refine z_ldc2 (n := 56) (q := 203) (by decide +kernel) lc_X11_203 ?_
  refine z_ldiv (n := 57) (by decide +kernel) (by decide) ?_
  refine z_lst4 (n := 59) (by decide +kernel) rfl ?_
  refine z_ald0 (n := 60) (by decide +kernel) ?_
  refine z_getf (n := 63) (idx := 7) (by decide +kernel) fl_X11_7 (by assumption) (by rfl) ?_
  refine z_ild3 (n := 64) (by decide +kernel) ?_
  refine z_iald (n := 65) (by decide +kernel) (by assumption) (by first | assumption | exact ix_nI (by omega) (by omega) | exact ix_of (by simp only [n_0, n_1, n_2, n_3, n_4, n_5, n_6, n_7, n_8, n_10, n_50, n_90, n_130, n_370, n_570, nI_add, pk_mul]; rfl) (by omega) (by omega)) ?_
  refine z_ild2 (n := 66) (by decide +kernel) ?_
  refine z_ald0 (n := 67) (by decide +kernel) ?_
  refine z_getf (n := 70) (idx := 7) (by decide +kernel) fl_X11_7 (by assumption) (by rfl) ?_
  refine z_ild3 (n := 71) (by decide +kernel) ?_
  refine z_iconst (n := 72) (q := 1) (v := 1) (by decide +kernel) ?_
  refine z_iadd (n := 73) (by decide +kernel) ?_
  refine z_iald (n := 74) (by decide +kernel) (by assumption) (by first | assumption | exact ix_nI (by omega) (by omega) | exact ix_of (by simp only [n_0, n_1, n_2, n_3, n_4, n_5, n_6, n_7, n_8, n_10, n_50, n_90, n_130, n_370, n_570, nI_add, pk_mul]; rfl) (by omega) (by omega)) ?_
  refine z_isub (n := 75) (by decide +kernel) ?_
  refine z_imul (n := 76) (by decide +kernel) ?_
  refine z_lld4 (n := 78) (by decide +kernel) ?_
  refine z_l2i (n := 79) (by decide +kernel) ?_
  refine z_iadd (n := 80) (by decide +kernel) ?_
  refine z_iret (by decide +kernel) rfl (Nat.le_refl _) ?_
  exact ⟨rfl, rfl⟩
theorem m_torque {G : mG} {h : mH} {Q n sh : Nat} {m : Nat → Int32} {wd : Int64} {a : Nat → Int32} {x z : Int32} {k : Nat} (d : Nat) (hd : 2 ≤ d) (hk : a 4 = nI k) (hk6 : k ≤ 6) (hQ : h Q = oMod Q (nI (n + 1)) m wd) (hA : h (Q + 1) = aI 600 a) (hn : n + 1 ≤ 40) : EV G m_X11_torque d 0 0 [.ref Q, .int x, .int z] h (RE (some (.int (if (win x 0 (a 4 - 1) && win z (-180) 180) = true then tqM a x.toNatClampNeg z else -2000000000))) h) := by
  refine ev_3_0 rfl rfl rfl (by decide +kernel) (by decide +kernel) ?_
  by_cases c : win x 0 (a 4 - 1) = true
  · obtain ⟨sh, hs, rfl⟩ : ∃ sh, sh < 6 ∧ x = nI sh := sh_of hk hk6 c
    refine z_ald0 (n := 1) (by decide +kernel) ?_
    refine z_ild1 (n := 2) (by decide +kernel) ?_
    refine z_v1 (n := 5) (idx := 205) (by decide +kernel) ml_X11_205 (by assumption) rfl (Nat.le_of_ble_eq_true rfl) (by omega) ⟨Nat.le_refl _, Nat.le_refl _⟩ (m_isSheet (n := n) 1 (by omega) hQ hA hn) ?_
    refine z_ifb_eq_f (n := 8) (off := 25) (tgt := 30) (by decide +kernel) (c) ?_
    refine z_ild2 (n := 9) (by decide +kernel) ?_
    refine z_sipush (n := 12) (q := -180) (v := -180) (by decide +kernel) ?_
    refine z_sipush (n := 15) (q := 180) (v := 180) (by decide +kernel) ?_
    refine z_s3 (n := 18) (idx := 81) (by decide +kernel) ml_X11_81 (Nat.le_of_ble_eq_true rfl) (by omega) ⟨Nat.le_refl _, Nat.le_refl _⟩ (m_isIn 0) ?_
    refine z_ifb_eq (n := 21) (off := 12) (tgt := 30) (by decide +kernel) (fun c18 => ?_) (fun c18 => ?_)
    · refine z_ldc (n := 32) (q := 211) (by decide +kernel) lc_X11_211 ?_
      refine z_iret (by decide +kernel) rfl (Nat.le_refl _) ?_
      refine ⟨?_, rfl⟩; rw [c]; simp only [c18, nI_clamp (show sh < 2 ^ 31 by omega), Bool.true_and, if_true, if_false, Bool.false_eq_true]
    · refine z_ald0 (n := 22) (by decide +kernel) ?_
      refine z_ild1 (n := 23) (by decide +kernel) ?_
      refine z_ild2 (n := 24) (by decide +kernel) ?_
      refine z_v2 (n := 27) (idx := 208) (by decide +kernel) ml_X11_208 (by assumption) rfl (Nat.le_of_ble_eq_true rfl) (by omega) ⟨Nat.le_refl _, Nat.le_refl _⟩ (m_torqueAt (n := n) (sh := sh) 0 hs hQ hA hn) ?_
      refine z_goto (n := 30) (off := 5) (tgt := 32) (by decide +kernel) ?_
      refine z_iret (by decide +kernel) rfl (Nat.le_refl _) ?_
      refine ⟨?_, rfl⟩; rw [c]; simp only [c18, nI_clamp (show sh < 2 ^ 31 by omega), Bool.true_and, if_true, if_false, Bool.false_eq_true]
  · have c' := Bool.eq_false_iff.mpr c
    refine z_ald0 (n := 1) (by decide +kernel) ?_
    refine z_ild1 (n := 2) (by decide +kernel) ?_
    refine z_v1 (n := 5) (idx := 205) (by decide +kernel) ml_X11_205 (by assumption) rfl (Nat.le_of_ble_eq_true rfl) (by omega) ⟨Nat.le_refl _, Nat.le_refl _⟩ (m_isSheet (n := n) 1 (by omega) hQ hA hn) ?_
    refine z_ifb_eq_t (n := 8) (off := 25) (tgt := 30) (by decide +kernel) (c') ?_
    refine z_ldc (n := 32) (q := 211) (by decide +kernel) lc_X11_211 ?_
    refine z_iret (by decide +kernel) rfl (Nat.le_refl _) ?_
    refine ⟨?_, rfl⟩; rw [c']; rfl
theorem m_restsAt {G : mG} {h : mH} {Q n sh : Nat} {m : Nat → Int32} {wd : Int64} {a : Nat → Int32} {p : Int32} {i : Nat} {st : Bool} (d : Nat) (hd : 1 ≤ d) (hs : sh < 6) (hQ : h Q = oMod Q (nI (n + 1)) m wd) (hA : h (Q + 1) = aI 600 a) (hn : n + 1 ≤ 40) (hi : i ≤ 360) : EV G m_X11_restsAt d 0 0 [.ref Q, .int (nI sh), .int p, .int (ang i), .int (bI st)] h (RE (some (.int (bI (if st = true then styI (tbM a sh) i p else rstI (tbM a sh) i p)))) h) := by
  have fin : ∀ (b : Bool) (nx : Int32), rstI (tbM a sh) i p = b → (i < 360 → nx = tbM a sh (i + 1)) → Z G m_X11_restsAt d 0 0 0 0 67 [some (.ref Q), some (.int (nI sh)), some (.int p), some (.int (ang i)), some (.int (bI st)), some (.int (tqM a sh (ang i))), some (.int nx), some (.int (bI b))] [] h (RE (some (.int (bI (if st = true then styI (tbM a sh) i p else rstI (tbM a sh) i p)))) h) := by
    intro b nx hb hnx
    cases st with
    | false =>
      refine z_ild4 (n := 69) (by decide +kernel) ?_
      refine z_ifb_eq_t (n := 72) (off := 8) (tgt := 77) (by decide +kernel) (rfl) ?_
      refine z_ild7 (n := 79) (by decide +kernel) ?_
      first | refine z_zr1 (by decide +kernel) rfl (Nat.le_refl _) ?_ | refine z_zr0 (by decide +kernel) rfl (Nat.le_refl _) ?_ | refine z_zrb (by decide +kernel) rfl (Nat.le_refl _) ?_
      exact ⟨by rw [if_neg (by decide), hb], rfl⟩
    | true =>
      cases b with
      | false =>
        refine z_ild4 (n := 69) (by decide +kernel) ?_
        refine z_ifb_eq_f (n := 72) (off := 8) (tgt := 77) (by decide +kernel) (rfl) ?_
        refine z_ild7 (n := 74) (by decide +kernel) ?_
        refine z_ifb_ne_f (n := 77) (off := 6) (tgt := 80) (by decide +kernel) (rfl) ?_
        refine z_ild7 (n := 79) (by decide +kernel) ?_
        first | refine z_zr1 (by decide +kernel) rfl (Nat.le_refl _) ?_ | refine z_zr0 (by decide +kernel) rfl (Nat.le_refl _) ?_ | refine z_zrb (by decide +kernel) rfl (Nat.le_refl _) ?_
        exact ⟨by rw [if_pos rfl]; unfold styI; rw [hb]; rfl, rfl⟩
      | true =>
        have tl : ∀ (q1 : (decide ((180 : Int32) ≤ ang i) || !decide (tbM a sh (i + 1) ≤ p)) = true), Z G m_X11_restsAt d 0 0 0 0 93 [some (.ref Q), some (.int (nI sh)), some (.int p), some (.int (ang i)), some (.int (bI true)), some (.int (tqM a sh (ang i))), some (.int nx), some (.int (bI true))] [] h (RE (some (.int (bI (if true = true then styI (tbM a sh) i p else rstI (tbM a sh) i p)))) h) := by
          intro q1
          have es : styI (tbM a sh) i p = (decide (ang i ≤ -180) || !decide (p ≤ tbM a sh (i - 1))) := by unfold styI; rw [hb, q1]; simp only [Bool.true_and]
          rw [if_pos rfl, es]
          by_cases c0 : i = 0
          · refine z_ild3 (n := 94) (by decide +kernel) ?_
            refine z_sipush (n := 97) (q := -180) (v := -180) (by decide +kernel) ?_
            refine z_icmp_eq_t (n := 100) (off := 15) (tgt := 112) (by decide +kernel) (by rw [c0]; rfl) ?_
            refine z_iconst (n := 113) (q := 1) (v := 1) (by decide +kernel) ?_
            refine z_goto (n := 116) (off := 4) (tgt := 117) (by decide +kernel) ?_
            first | refine z_zr1 (by decide +kernel) rfl (Nat.le_refl _) ?_ | refine z_zr0 (by decide +kernel) rfl (Nat.le_refl _) ?_ | refine z_zrb (by decide +kernel) rfl (Nat.le_refl _) ?_
            refine ⟨?_, rfl⟩; rw [c0]; rfl
          · obtain ⟨u, rfl⟩ : ∃ u, i = u + 1 := ⟨i - 1, by omega⟩
            have z0 : decide (ang (u + 1) ≤ -180) = false := decide_eq_false (by rw [ang_0, ang_le (by omega) (by omega)]; omega)
            rw [z0, Bool.false_or, Nat.add_sub_cancel]
            refine z_ild3 (n := 94) (by decide +kernel) ?_
            refine z_sipush (n := 97) (q := -180) (v := -180) (by decide +kernel) ?_
            refine z_icmp_eq_f (n := 100) (off := 15) (tgt := 112) (by decide +kernel) (by rw [ang_0, ang_eq (by omega) (by omega)]; omega) ?_
            refine z_ald0 (n := 101) (by decide +kernel) ?_
            refine z_ild1 (n := 102) (by decide +kernel) ?_
            refine z_ild3 (n := 103) (by decide +kernel) ?_
            refine z_iconst (n := 104) (q := 1) (v := 1) (by decide +kernel) ?_
            refine z_isub (n := 105) (by decide +kernel) ?_
            refine z_top (ang_m u) ?_
            refine z_v2 (n := 108) (idx := 208) (by decide +kernel) ml_X11_208 (by assumption) rfl (Nat.le_of_ble_eq_true rfl) (by omega) ⟨Nat.le_refl _, Nat.le_refl _⟩ (m_torqueAt (n := n) (sh := sh) 0 hs hQ hA hn) ?_
            refine z_ild2 (n := 109) (by decide +kernel) ?_
            refine z_icmp_ge (n := 112) (off := 7) (tgt := 116) (by decide +kernel) (fun c109 => ?_) (fun c109 => ?_)
            · refine z_iconst (n := 117) (q := 0) (v := 0) (by decide +kernel) ?_
              first | refine z_zr1 (by decide +kernel) rfl (Nat.le_refl _) ?_ | refine z_zr0 (by decide +kernel) rfl (Nat.le_refl _) ?_ | refine z_zrb (by decide +kernel) rfl (Nat.le_refl _) ?_
              refine ⟨?_, rfl⟩; first | (rw [decide_eq_true (show p ≤ tbM a sh u from c109)]; rfl) | (rw [decide_eq_false (show ¬ p ≤ tbM a sh u from c109)]; rfl)
            · refine z_iconst (n := 113) (q := 1) (v := 1) (by decide +kernel) ?_
              refine z_goto (n := 116) (off := 4) (tgt := 117) (by decide +kernel) ?_
              first | refine z_zr1 (by decide +kernel) rfl (Nat.le_refl _) ?_ | refine z_zr0 (by decide +kernel) rfl (Nat.le_refl _) ?_ | refine z_zrb (by decide +kernel) rfl (Nat.le_refl _) ?_
              refine ⟨?_, rfl⟩; first | (rw [decide_eq_true (show p ≤ tbM a sh u from c109)]; rfl) | (rw [decide_eq_false (show ¬ p ≤ tbM a sh u from c109)]; rfl)
        by_cases c3 : i = 360
        · refine z_ild4 (n := 69) (by decide +kernel) ?_
          refine z_ifb_eq_f (n := 72) (off := 8) (tgt := 77) (by decide +kernel) (rfl) ?_
          refine z_ild7 (n := 74) (by decide +kernel) ?_
          refine z_ifb_ne_t (n := 77) (off := 6) (tgt := 80) (by decide +kernel) (rfl) ?_
          refine z_ild3 (n := 81) (by decide +kernel) ?_
          refine z_sipush (n := 84) (q := 180) (v := 180) (by decide +kernel) ?_
          refine z_icmp_eq_t (n := 87) (off := 9) (tgt := 93) (by decide +kernel) (by rw [c3]; rfl) ?_
          exact tl (by rw [c3]; rfl)
        · have hx := hnx (by omega)
          have z0 : decide ((180 : Int32) ≤ ang i) = false := decide_eq_false (by rw [ang_360, ang_le (by omega) (by omega)]; omega)
          refine z_ild4 (n := 69) (by decide +kernel) ?_
          refine z_ifb_eq_f (n := 72) (off := 8) (tgt := 77) (by decide +kernel) (rfl) ?_
          refine z_ild7 (n := 74) (by decide +kernel) ?_
          refine z_ifb_ne_t (n := 77) (off := 6) (tgt := 80) (by decide +kernel) (rfl) ?_
          refine z_ild3 (n := 81) (by decide +kernel) ?_
          refine z_sipush (n := 84) (q := 180) (v := 180) (by decide +kernel) ?_
          refine z_icmp_eq_f (n := 87) (off := 9) (tgt := 93) (by decide +kernel) (by rw [ang_360, ang_eq (by omega) (by omega)]; omega) ?_
          refine z_ild6 (n := 89) (by decide +kernel) ?_
          refine z_ild2 (n := 90) (by decide +kernel) ?_
          refine z_icmp_le (n := 93) (off := 26) (tgt := 116) (by decide +kernel) (fun c90 => ?_) (fun c90 => ?_)
          · refine z_iconst (n := 117) (q := 0) (v := 0) (by decide +kernel) ?_
            first | refine z_zr1 (by decide +kernel) rfl (Nat.le_refl _) ?_ | refine z_zr0 (by decide +kernel) rfl (Nat.le_refl _) ?_ | refine z_zrb (by decide +kernel) rfl (Nat.le_refl _) ?_
            refine ⟨?_, rfl⟩; rw [if_pos rfl]; unfold styI; rw [z0, ← hx, decide_eq_true (show nx ≤ p from c90), hb]; rfl
          · exact tl (by rw [z0, ← hx, decide_eq_false (show ¬ nx ≤ p from c90)]; rfl)
  refine ev_5_3 rfl rfl rfl rfl rfl (by decide +kernel) (by decide +kernel) ?_
  by_cases c3 : i = 360
  · have z0 : decide (ang i < 180) = false := decide_eq_false (by rw [ang_360, ang_lt (by omega) (by omega)]; omega)
    have er : rstI (tbM a sh) i p = decide (tqM a sh (ang i) = p) := by unfold rstI; rw [z0, Bool.false_and, Bool.or_false]; rfl
    refine z_ald0 (n := 1) (by decide +kernel) ?_
    refine z_ild1 (n := 2) (by decide +kernel) ?_
    refine z_ild3 (n := 3) (by decide +kernel) ?_
    refine z_v2 (n := 6) (idx := 208) (by decide +kernel) ml_X11_208 (by assumption) rfl (Nat.le_of_ble_eq_true rfl) (by omega) ⟨Nat.le_refl _, Nat.le_refl _⟩ (m_torqueAt (n := n) (sh := sh) 0 hs hQ hA hn) ?_
    refine z_ist5 (n := 8) (by decide +kernel) rfl ?_
    refine z_ild3 (n := 9) (by decide +kernel) ?_
    refine z_sipush (n := 12) (q := 180) (v := 180) (by decide +kernel) ?_
    refine z_icmp_ge_t (n := 15) (off := 14) (tgt := 26) (by decide +kernel) (by rw [ang_360, ang_le (by omega) (by omega)]; omega) ?_
    refine z_ild5 (n := 28) (by decide +kernel) ?_
    refine z_ist6 (n := 30) (by decide +kernel) rfl ?_
    refine z_ild5 (n := 32) (by decide +kernel) ?_
    refine z_ild2 (n := 33) (by decide +kernel) ?_
    refine z_icmp_eq (n := 36) (off := 27) (tgt := 60) (by decide +kernel) (fun c33 => ?_) (fun c33 => ?_)
    · refine z_iconst (n := 61) (q := 1) (v := 1) (by decide +kernel) ?_
      refine z_goto (n := 64) (off := 4) (tgt := 65) (by decide +kernel) ?_
      refine z_ist7 (n := 67) (by decide +kernel) rfl ?_
      first | exact fin true _ (er.trans (decide_eq_true c33)) (fun z => absurd z (by omega)) | exact fin false _ (er.trans (decide_eq_false c33)) (fun z => absurd z (by omega)) | exact absurd (Int32.le_of_lt c45) c39 | exact absurd c39 c57 | exact absurd (Int32.le_of_lt (Int32.not_le.mp c39)) c51
    · refine z_ild5 (n := 38) (by decide +kernel) ?_
      refine z_ild2 (n := 39) (by decide +kernel) ?_
      refine z_icmp_ge (n := 42) (off := 9) (tgt := 48) (by decide +kernel) (fun c39 => ?_) (fun c39 => ?_)
      · refine z_ild5 (n := 50) (by decide +kernel) ?_
        refine z_ild2 (n := 51) (by decide +kernel) ?_
        refine z_icmp_le (n := 54) (off := 13) (tgt := 64) (by decide +kernel) (fun c51 => ?_) (fun c51 => ?_)
        · refine z_iconst (n := 65) (q := 0) (v := 0) (by decide +kernel) ?_
          refine z_ist7 (n := 67) (by decide +kernel) rfl ?_
          first | exact fin true _ (er.trans (decide_eq_true c33)) (fun z => absurd z (by omega)) | exact fin false _ (er.trans (decide_eq_false c33)) (fun z => absurd z (by omega)) | exact absurd (Int32.le_of_lt c45) c39 | exact absurd c39 c57 | exact absurd (Int32.le_of_lt (Int32.not_le.mp c39)) c51
        · refine z_ild6 (n := 56) (by decide +kernel) ?_
          refine z_ild2 (n := 57) (by decide +kernel) ?_
          refine z_icmp_ge (n := 60) (off := 7) (tgt := 64) (by decide +kernel) (fun c57 => ?_) (fun c57 => ?_)
          · refine z_iconst (n := 65) (q := 0) (v := 0) (by decide +kernel) ?_
            refine z_ist7 (n := 67) (by decide +kernel) rfl ?_
            first | exact fin true _ (er.trans (decide_eq_true c33)) (fun z => absurd z (by omega)) | exact fin false _ (er.trans (decide_eq_false c33)) (fun z => absurd z (by omega)) | exact absurd (Int32.le_of_lt c45) c39 | exact absurd c39 c57 | exact absurd (Int32.le_of_lt (Int32.not_le.mp c39)) c51
          · refine z_iconst (n := 61) (q := 1) (v := 1) (by decide +kernel) ?_
            refine z_goto (n := 64) (off := 4) (tgt := 65) (by decide +kernel) ?_
            refine z_ist7 (n := 67) (by decide +kernel) rfl ?_
            first | exact fin true _ (er.trans (decide_eq_true c33)) (fun z => absurd z (by omega)) | exact fin false _ (er.trans (decide_eq_false c33)) (fun z => absurd z (by omega)) | exact absurd (Int32.le_of_lt c45) c39 | exact absurd c39 c57 | exact absurd (Int32.le_of_lt (Int32.not_le.mp c39)) c51
      · refine z_ild6 (n := 44) (by decide +kernel) ?_
        refine z_ild2 (n := 45) (by decide +kernel) ?_
        refine z_icmp_gt (n := 48) (off := 15) (tgt := 60) (by decide +kernel) (fun c45 => ?_) (fun c45 => ?_)
        · refine z_iconst (n := 61) (q := 1) (v := 1) (by decide +kernel) ?_
          refine z_goto (n := 64) (off := 4) (tgt := 65) (by decide +kernel) ?_
          refine z_ist7 (n := 67) (by decide +kernel) rfl ?_
          first | exact fin true _ (er.trans (decide_eq_true c33)) (fun z => absurd z (by omega)) | exact fin false _ (er.trans (decide_eq_false c33)) (fun z => absurd z (by omega)) | exact absurd (Int32.le_of_lt c45) c39 | exact absurd c39 c57 | exact absurd (Int32.le_of_lt (Int32.not_le.mp c39)) c51
        · refine z_ild5 (n := 50) (by decide +kernel) ?_
          refine z_ild2 (n := 51) (by decide +kernel) ?_
          refine z_icmp_le (n := 54) (off := 13) (tgt := 64) (by decide +kernel) (fun c51 => ?_) (fun c51 => ?_)
          · refine z_iconst (n := 65) (q := 0) (v := 0) (by decide +kernel) ?_
            refine z_ist7 (n := 67) (by decide +kernel) rfl ?_
            first | exact fin true _ (er.trans (decide_eq_true c33)) (fun z => absurd z (by omega)) | exact fin false _ (er.trans (decide_eq_false c33)) (fun z => absurd z (by omega)) | exact absurd (Int32.le_of_lt c45) c39 | exact absurd c39 c57 | exact absurd (Int32.le_of_lt (Int32.not_le.mp c39)) c51
          · refine z_ild6 (n := 56) (by decide +kernel) ?_
            refine z_ild2 (n := 57) (by decide +kernel) ?_
            refine z_icmp_ge (n := 60) (off := 7) (tgt := 64) (by decide +kernel) (fun c57 => ?_) (fun c57 => ?_)
            · refine z_iconst (n := 65) (q := 0) (v := 0) (by decide +kernel) ?_
              refine z_ist7 (n := 67) (by decide +kernel) rfl ?_
              first | exact fin true _ (er.trans (decide_eq_true c33)) (fun z => absurd z (by omega)) | exact fin false _ (er.trans (decide_eq_false c33)) (fun z => absurd z (by omega)) | exact absurd (Int32.le_of_lt c45) c39 | exact absurd c39 c57 | exact absurd (Int32.le_of_lt (Int32.not_le.mp c39)) c51
            · refine z_iconst (n := 61) (q := 1) (v := 1) (by decide +kernel) ?_
              refine z_goto (n := 64) (off := 4) (tgt := 65) (by decide +kernel) ?_
              refine z_ist7 (n := 67) (by decide +kernel) rfl ?_
              first | exact fin true _ (er.trans (decide_eq_true c33)) (fun z => absurd z (by omega)) | exact fin false _ (er.trans (decide_eq_false c33)) (fun z => absurd z (by omega)) | exact absurd (Int32.le_of_lt c45) c39 | exact absurd c39 c57 | exact absurd (Int32.le_of_lt (Int32.not_le.mp c39)) c51
  · have z0 : decide (ang i < 180) = true := decide_eq_true (by rw [ang_360, ang_lt (by omega) (by omega)]; omega)
    have er : rstI (tbM a sh) i p = (decide (tqM a sh (ang i) = p) || ((!decide (p ≤ tqM a sh (ang i)) && decide (p < tqM a sh (ang (i + 1)))) || (!decide (tqM a sh (ang i) ≤ p) && !decide (p ≤ tqM a sh (ang (i + 1)))))) := by unfold rstI; rw [z0, Bool.true_and]; rfl
    refine z_ald0 (n := 1) (by decide +kernel) ?_
    refine z_ild1 (n := 2) (by decide +kernel) ?_
    refine z_ild3 (n := 3) (by decide +kernel) ?_
    refine z_v2 (n := 6) (idx := 208) (by decide +kernel) ml_X11_208 (by assumption) rfl (Nat.le_of_ble_eq_true rfl) (by omega) ⟨Nat.le_refl _, Nat.le_refl _⟩ (m_torqueAt (n := n) (sh := sh) 0 hs hQ hA hn) ?_
    refine z_ist5 (n := 8) (by decide +kernel) rfl ?_
    refine z_ild3 (n := 9) (by decide +kernel) ?_
    refine z_sipush (n := 12) (q := 180) (v := 180) (by decide +kernel) ?_
    refine z_icmp_ge_f (n := 15) (off := 14) (tgt := 26) (by decide +kernel) (by rw [ang_360, ang_le (by omega) (by omega)]; omega) ?_
    refine z_ald0 (n := 16) (by decide +kernel) ?_
    refine z_ild1 (n := 17) (by decide +kernel) ?_
    refine z_ild3 (n := 18) (by decide +kernel) ?_
    refine z_iconst (n := 19) (q := 1) (v := 1) (by decide +kernel) ?_
    refine z_iadd (n := 20) (by decide +kernel) ?_
    refine z_top (ang_1 i) ?_
    refine z_v2 (n := 23) (idx := 208) (by decide +kernel) ml_X11_208 (by assumption) rfl (Nat.le_of_ble_eq_true rfl) (by omega) ⟨Nat.le_refl _, Nat.le_refl _⟩ (m_torqueAt (n := n) (sh := sh) 0 hs hQ hA hn) ?_
    refine z_goto (n := 26) (off := 5) (tgt := 28) (by decide +kernel) ?_
    refine z_ist6 (n := 30) (by decide +kernel) rfl ?_
    refine z_ild5 (n := 32) (by decide +kernel) ?_
    refine z_ild2 (n := 33) (by decide +kernel) ?_
    refine z_icmp_eq (n := 36) (off := 27) (tgt := 60) (by decide +kernel) (fun c33 => ?_) (fun c33 => ?_)
    · refine z_iconst (n := 61) (q := 1) (v := 1) (by decide +kernel) ?_
      refine z_goto (n := 64) (off := 4) (tgt := 65) (by decide +kernel) ?_
      refine z_ist7 (n := 67) (by decide +kernel) rfl ?_
      first | exact fin true _ (er.trans (by simp only [eq_true c33, decide_true, decide_false, Bool.and_true, Bool.and_false, Bool.true_and, Bool.false_and, Bool.or_true, Bool.or_false, Bool.true_or, Bool.false_or, Bool.not_true, Bool.not_false])) (fun _ => rfl) | exact fin false _ (er.trans (by simp only [eq_true c33, decide_true, decide_false, Bool.and_true, Bool.and_false, Bool.true_and, Bool.false_and, Bool.or_true, Bool.or_false, Bool.true_or, Bool.false_or, Bool.not_true, Bool.not_false])) (fun _ => rfl)
    · refine z_ild5 (n := 38) (by decide +kernel) ?_
      refine z_ild2 (n := 39) (by decide +kernel) ?_
      refine z_icmp_ge (n := 42) (off := 9) (tgt := 48) (by decide +kernel) (fun c39 => ?_) (fun c39 => ?_)
      · refine z_ild5 (n := 50) (by decide +kernel) ?_
        refine z_ild2 (n := 51) (by decide +kernel) ?_
        refine z_icmp_le (n := 54) (off := 13) (tgt := 64) (by decide +kernel) (fun c51 => ?_) (fun c51 => ?_)
        · refine z_iconst (n := 65) (q := 0) (v := 0) (by decide +kernel) ?_
          refine z_ist7 (n := 67) (by decide +kernel) rfl ?_
          first | exact fin true _ (er.trans (by simp only [eq_false c33, eq_true c39, eq_true c51, decide_true, decide_false, Bool.and_true, Bool.and_false, Bool.true_and, Bool.false_and, Bool.or_true, Bool.or_false, Bool.true_or, Bool.false_or, Bool.not_true, Bool.not_false])) (fun _ => rfl) | exact fin false _ (er.trans (by simp only [eq_false c33, eq_true c39, eq_true c51, decide_true, decide_false, Bool.and_true, Bool.and_false, Bool.true_and, Bool.false_and, Bool.or_true, Bool.or_false, Bool.true_or, Bool.false_or, Bool.not_true, Bool.not_false])) (fun _ => rfl)
        · refine z_ild6 (n := 56) (by decide +kernel) ?_
          refine z_ild2 (n := 57) (by decide +kernel) ?_
          refine z_icmp_ge (n := 60) (off := 7) (tgt := 64) (by decide +kernel) (fun c57 => ?_) (fun c57 => ?_)
          · refine z_iconst (n := 65) (q := 0) (v := 0) (by decide +kernel) ?_
            refine z_ist7 (n := 67) (by decide +kernel) rfl ?_
            first | exact fin true _ (er.trans (by simp only [eq_false c33, eq_true c39, eq_false c51, eq_true c57, decide_true, decide_false, Bool.and_true, Bool.and_false, Bool.true_and, Bool.false_and, Bool.or_true, Bool.or_false, Bool.true_or, Bool.false_or, Bool.not_true, Bool.not_false])) (fun _ => rfl) | exact fin false _ (er.trans (by simp only [eq_false c33, eq_true c39, eq_false c51, eq_true c57, decide_true, decide_false, Bool.and_true, Bool.and_false, Bool.true_and, Bool.false_and, Bool.or_true, Bool.or_false, Bool.true_or, Bool.false_or, Bool.not_true, Bool.not_false])) (fun _ => rfl)
          · refine z_iconst (n := 61) (q := 1) (v := 1) (by decide +kernel) ?_
            refine z_goto (n := 64) (off := 4) (tgt := 65) (by decide +kernel) ?_
            refine z_ist7 (n := 67) (by decide +kernel) rfl ?_
            first | exact fin true _ (er.trans (by simp only [eq_false c33, eq_true c39, eq_false c51, eq_false c57, decide_true, decide_false, Bool.and_true, Bool.and_false, Bool.true_and, Bool.false_and, Bool.or_true, Bool.or_false, Bool.true_or, Bool.false_or, Bool.not_true, Bool.not_false])) (fun _ => rfl) | exact fin false _ (er.trans (by simp only [eq_false c33, eq_true c39, eq_false c51, eq_false c57, decide_true, decide_false, Bool.and_true, Bool.and_false, Bool.true_and, Bool.false_and, Bool.or_true, Bool.or_false, Bool.true_or, Bool.false_or, Bool.not_true, Bool.not_false])) (fun _ => rfl)
      · refine z_ild6 (n := 44) (by decide +kernel) ?_
        refine z_ild2 (n := 45) (by decide +kernel) ?_
        refine z_icmp_gt (n := 48) (off := 15) (tgt := 60) (by decide +kernel) (fun c45 => ?_) (fun c45 => ?_)
        · refine z_iconst (n := 61) (q := 1) (v := 1) (by decide +kernel) ?_
          refine z_goto (n := 64) (off := 4) (tgt := 65) (by decide +kernel) ?_
          refine z_ist7 (n := 67) (by decide +kernel) rfl ?_
          first | exact fin true _ (er.trans (by simp only [eq_false c33, eq_false c39, eq_true c45, decide_true, decide_false, Bool.and_true, Bool.and_false, Bool.true_and, Bool.false_and, Bool.or_true, Bool.or_false, Bool.true_or, Bool.false_or, Bool.not_true, Bool.not_false])) (fun _ => rfl) | exact fin false _ (er.trans (by simp only [eq_false c33, eq_false c39, eq_true c45, decide_true, decide_false, Bool.and_true, Bool.and_false, Bool.true_and, Bool.false_and, Bool.or_true, Bool.or_false, Bool.true_or, Bool.false_or, Bool.not_true, Bool.not_false])) (fun _ => rfl)
        · refine z_ild5 (n := 50) (by decide +kernel) ?_
          refine z_ild2 (n := 51) (by decide +kernel) ?_
          refine z_icmp_le (n := 54) (off := 13) (tgt := 64) (by decide +kernel) (fun c51 => ?_) (fun c51 => ?_)
          · refine z_iconst (n := 65) (q := 0) (v := 0) (by decide +kernel) ?_
            refine z_ist7 (n := 67) (by decide +kernel) rfl ?_
            first | exact fin true _ (er.trans (by simp only [eq_false c33, eq_false c39, eq_false c45, eq_true c51, decide_true, decide_false, Bool.and_true, Bool.and_false, Bool.true_and, Bool.false_and, Bool.or_true, Bool.or_false, Bool.true_or, Bool.false_or, Bool.not_true, Bool.not_false])) (fun _ => rfl) | exact fin false _ (er.trans (by simp only [eq_false c33, eq_false c39, eq_false c45, eq_true c51, decide_true, decide_false, Bool.and_true, Bool.and_false, Bool.true_and, Bool.false_and, Bool.or_true, Bool.or_false, Bool.true_or, Bool.false_or, Bool.not_true, Bool.not_false])) (fun _ => rfl)
          · refine z_ild6 (n := 56) (by decide +kernel) ?_
            refine z_ild2 (n := 57) (by decide +kernel) ?_
            refine z_icmp_ge (n := 60) (off := 7) (tgt := 64) (by decide +kernel) (fun c57 => ?_) (fun c57 => ?_)
            · refine z_iconst (n := 65) (q := 0) (v := 0) (by decide +kernel) ?_
              refine z_ist7 (n := 67) (by decide +kernel) rfl ?_
              first | exact fin true _ (er.trans (by simp only [eq_false c33, eq_false c39, eq_false c45, eq_false c51, eq_true c57, decide_true, decide_false, Bool.and_true, Bool.and_false, Bool.true_and, Bool.false_and, Bool.or_true, Bool.or_false, Bool.true_or, Bool.false_or, Bool.not_true, Bool.not_false])) (fun _ => rfl) | exact fin false _ (er.trans (by simp only [eq_false c33, eq_false c39, eq_false c45, eq_false c51, eq_true c57, decide_true, decide_false, Bool.and_true, Bool.and_false, Bool.true_and, Bool.false_and, Bool.or_true, Bool.or_false, Bool.true_or, Bool.false_or, Bool.not_true, Bool.not_false])) (fun _ => rfl)
            · refine z_iconst (n := 61) (q := 1) (v := 1) (by decide +kernel) ?_
              refine z_goto (n := 64) (off := 4) (tgt := 65) (by decide +kernel) ?_
              refine z_ist7 (n := 67) (by decide +kernel) rfl ?_
              first | exact fin true _ (er.trans (by simp only [eq_false c33, eq_false c39, eq_false c45, eq_false c51, eq_false c57, decide_true, decide_false, Bool.and_true, Bool.and_false, Bool.true_and, Bool.false_and, Bool.or_true, Bool.or_false, Bool.true_or, Bool.false_or, Bool.not_true, Bool.not_false])) (fun _ => rfl) | exact fin false _ (er.trans (by simp only [eq_false c33, eq_false c39, eq_false c45, eq_false c51, eq_false c57, decide_true, decide_false, Bool.and_true, Bool.and_false, Bool.true_and, Bool.false_and, Bool.or_true, Bool.or_false, Bool.true_or, Bool.false_or, Bool.not_true, Bool.not_false])) (fun _ => rfl)
theorem m_isPush {G : mG} {h : mH} {x : Int32} (d : Nat) (hd : 1 ≤ d) : EV G m_X11_isPush d 0 0 [.int x] h (RE (some (.int (bI (win x (-1000000) 1000000)))) h) := by
  refine ev_1_0 rfl (by decide +kernel) (by decide +kernel) ?_
  refine z_ild0 (n := 1) (by decide +kernel) ?_
  refine z_ldc (n := 3) (q := 212) (by decide +kernel) lc_X11_212 ?_
  refine z_ldc (n := 5) (q := 213) (by decide +kernel) lc_X11_213 ?_
  refine z_s3 (n := 8) (idx := 81) (by decide +kernel) ml_X11_81 (Nat.le_of_ble_eq_true rfl) (by omega) ⟨Nat.le_refl _, Nat.le_refl _⟩ (m_isIn 0) ?_
  first | refine z_zr1 (by decide +kernel) rfl (Nat.le_refl _) ?_ | refine z_zr0 (by decide +kernel) rfl (Nat.le_refl _) ?_ | refine z_zrb (by decide +kernel) rfl (Nat.le_refl _) ?_
  exact ⟨rfl, rfl⟩
theorem m_stays {G : mG} {h : mH} {Q n sh : Nat} {m : Nat → Int32} {wd : Int64} {a : Nat → Int32} {x p z : Int32} {k : Nat} (d : Nat) (hd : 2 ≤ d) (hk : a 4 = nI k) (hk6 : k ≤ 6) (hQ : h Q = oMod Q (nI (n + 1)) m wd) (hA : h (Q + 1) = aI 600 a) (hn : n + 1 ≤ 40) : EV G m_X11_stays d 0 0 [.ref Q, .int x, .int p, .int z] h (RE (some (.int (if (win x 0 (a 4 - 1) && (win p (-1000000) 1000000 && win z (-180) 180)) = true then bI (styI (tbM a x.toNatClampNeg) (z + 180).toNatClampNeg p) else -1))) h) := by
  refine ev_4_0 rfl rfl rfl rfl (by decide +kernel) (by decide +kernel) ?_
  by_cases c : win x 0 (a 4 - 1) = true
  · obtain ⟨sh, hs, rfl⟩ : ∃ sh, sh < 6 ∧ x = nI sh := sh_of hk hk6 c
    rw [c, nI_clamp (show sh < 2 ^ 31 by omega)]
    by_cases cz : win z (-180) 180 = true
    · obtain ⟨i, hi, rfl⟩ : ∃ i, i ≤ 360 ∧ z = ang i := an_of cz
      rw [cz, ang_ix, nI_clamp (show i < 2 ^ 31 by omega)]
      refine z_ald0 (n := 1) (by decide +kernel) ?_
      refine z_ild1 (n := 2) (by decide +kernel) ?_
      refine z_v1 (n := 5) (idx := 205) (by decide +kernel) ml_X11_205 (by assumption) rfl (Nat.le_of_ble_eq_true rfl) (by omega) ⟨Nat.le_refl _, Nat.le_refl _⟩ (m_isSheet (n := n) 1 (by omega) hQ hA hn) ?_
      refine z_ifb_eq_f (n := 8) (off := 42) (tgt := 47) (by decide +kernel) (c) ?_
      refine z_ild2 (n := 9) (by decide +kernel) ?_
      refine z_s1 (n := 12) (idx := 214) (by decide +kernel) ml_X11_214 (Nat.le_of_ble_eq_true rfl) (by omega) ⟨Nat.le_refl _, Nat.le_refl _⟩ (m_isPush 1 (by omega)) ?_
      refine z_ifb_eq (n := 15) (off := 35) (tgt := 47) (by decide +kernel) (fun c12 => ?_) (fun c12 => ?_)
      · refine z_iconst (n := 48) (q := -1) (v := -1) (by decide +kernel) ?_
        refine z_iret (by decide +kernel) rfl (Nat.le_refl _) ?_
        refine ⟨?_, rfl⟩; first | (have c36' := c36; rw [if_pos rfl] at c36'; simp only [c12, c36', Bool.and_self, if_true]; rfl) | (simp only [c12]; rfl)
      · refine z_ild3 (n := 16) (by decide +kernel) ?_
        refine z_sipush (n := 19) (q := -180) (v := -180) (by decide +kernel) ?_
        refine z_sipush (n := 22) (q := 180) (v := 180) (by decide +kernel) ?_
        refine z_s3 (n := 25) (idx := 81) (by decide +kernel) ml_X11_81 (Nat.le_of_ble_eq_true rfl) (by omega) ⟨Nat.le_refl _, Nat.le_refl _⟩ (m_isIn 0) ?_
        refine z_ifb_eq_f (n := 28) (off := 22) (tgt := 47) (by decide +kernel) (cz) ?_
        refine z_ald0 (n := 29) (by decide +kernel) ?_
        refine z_ild1 (n := 30) (by decide +kernel) ?_
        refine z_ild2 (n := 31) (by decide +kernel) ?_
        refine z_ild3 (n := 32) (by decide +kernel) ?_
        refine z_iconst (n := 33) (q := 1) (v := 1) (by decide +kernel) ?_
        refine z_v4 (n := 36) (idx := 217) (by decide +kernel) ml_X11_217 (by assumption) rfl (Nat.le_of_ble_eq_true rfl) (by omega) ⟨Nat.le_refl _, Nat.le_refl _⟩ (m_restsAt (n := n) (sh := sh) (i := i) (st := true) 1 (by omega) hs hQ hA hn hi) ?_
        refine z_ifb_eq (n := 39) (off := 7) (tgt := 43) (by decide +kernel) (fun c36 => ?_) (fun c36 => ?_)
        · refine z_iconst (n := 44) (q := 0) (v := 0) (by decide +kernel) ?_
          refine z_goto (n := 47) (off := 4) (tgt := 48) (by decide +kernel) ?_
          refine z_iret (by decide +kernel) rfl (Nat.le_refl _) ?_
          refine ⟨?_, rfl⟩; first | (have c36' := c36; rw [if_pos rfl] at c36'; simp only [c12, c36', Bool.and_self, if_true]; rfl) | (simp only [c12]; rfl)
        · refine z_iconst (n := 40) (q := 1) (v := 1) (by decide +kernel) ?_
          refine z_goto (n := 43) (off := 8) (tgt := 48) (by decide +kernel) ?_
          refine z_iret (by decide +kernel) rfl (Nat.le_refl _) ?_
          refine ⟨?_, rfl⟩; first | (have c36' := c36; rw [if_pos rfl] at c36'; simp only [c12, c36', Bool.and_self, if_true]; rfl) | (simp only [c12]; rfl)
    · have cz' := Bool.eq_false_iff.mpr cz
      rw [cz']
      refine z_ald0 (n := 1) (by decide +kernel) ?_
      refine z_ild1 (n := 2) (by decide +kernel) ?_
      refine z_v1 (n := 5) (idx := 205) (by decide +kernel) ml_X11_205 (by assumption) rfl (Nat.le_of_ble_eq_true rfl) (by omega) ⟨Nat.le_refl _, Nat.le_refl _⟩ (m_isSheet (n := n) 1 (by omega) hQ hA hn) ?_
      refine z_ifb_eq_f (n := 8) (off := 42) (tgt := 47) (by decide +kernel) (c) ?_
      refine z_ild2 (n := 9) (by decide +kernel) ?_
      refine z_s1 (n := 12) (idx := 214) (by decide +kernel) ml_X11_214 (Nat.le_of_ble_eq_true rfl) (by omega) ⟨Nat.le_refl _, Nat.le_refl _⟩ (m_isPush 1 (by omega)) ?_
      refine z_ifb_eq (n := 15) (off := 35) (tgt := 47) (by decide +kernel) (fun c12 => ?_) (fun c12 => ?_)
      · refine z_iconst (n := 48) (q := -1) (v := -1) (by decide +kernel) ?_
        refine z_iret (by decide +kernel) rfl (Nat.le_refl _) ?_
        refine ⟨?_, rfl⟩; rw [Bool.and_false, Bool.and_false]; rfl
      · refine z_ild3 (n := 16) (by decide +kernel) ?_
        refine z_sipush (n := 19) (q := -180) (v := -180) (by decide +kernel) ?_
        refine z_sipush (n := 22) (q := 180) (v := 180) (by decide +kernel) ?_
        refine z_s3 (n := 25) (idx := 81) (by decide +kernel) ml_X11_81 (Nat.le_of_ble_eq_true rfl) (by omega) ⟨Nat.le_refl _, Nat.le_refl _⟩ (m_isIn 0) ?_
        refine z_ifb_eq_t (n := 28) (off := 22) (tgt := 47) (by decide +kernel) (cz') ?_
        refine z_iconst (n := 48) (q := -1) (v := -1) (by decide +kernel) ?_
        refine z_iret (by decide +kernel) rfl (Nat.le_refl _) ?_
        refine ⟨?_, rfl⟩; rw [Bool.and_false, Bool.and_false]; rfl
  · have c' := Bool.eq_false_iff.mpr c
    refine z_ald0 (n := 1) (by decide +kernel) ?_
    refine z_ild1 (n := 2) (by decide +kernel) ?_
    refine z_v1 (n := 5) (idx := 205) (by decide +kernel) ml_X11_205 (by assumption) rfl (Nat.le_of_ble_eq_true rfl) (by omega) ⟨Nat.le_refl _, Nat.le_refl _⟩ (m_isSheet (n := n) 1 (by omega) hQ hA hn) ?_
    refine z_ifb_eq_t (n := 8) (off := 42) (tgt := 47) (by decide +kernel) (c') ?_
    refine z_iconst (n := 48) (q := -1) (v := -1) (by decide +kernel) ?_
    refine z_iret (by decide +kernel) rfl (Nat.le_refl _) ?_
    refine ⟨?_, rfl⟩; rw [c']; rfl
theorem m_rests {G : mG} {h : mH} {Q n sh : Nat} {m : Nat → Int32} {wd : Int64} {a : Nat → Int32} {x p j : Int32} {k : Nat} (d : Nat) (hd : 2 ≤ d) (hk : a 4 = nI k) (hk6 : k ≤ 6) (hQ : h Q = oMod Q (nI (n + 1)) m wd) (hA : h (Q + 1) = aI 600 a) (hn : n + 1 ≤ 40) : EV G m_X11_rests d 0 0 [.ref Q, .int x, .int p, .int j] h (RE (some (.int (if (win x 0 (a 4 - 1) && (win p (-1000000) 1000000 && decide (-1 ≤ j))) = true then (if j = -1 then nI (cnb (fun i => rstI (tbM a x.toNatClampNeg) i p) 361) else if rsaF (tbM a x.toNatClampNeg) p j 361 0 < 361 then ang (rsaF (tbM a x.toNatClampNeg) p j 361 0) else -1000) else -1000))) h) := by
  refine ev_4_2 rfl rfl rfl rfl (by decide +kernel) (by decide +kernel) ?_
  by_cases c : win x 0 (a 4 - 1) = true
  · obtain ⟨sh, hs, rfl⟩ : ∃ sh, sh < 6 ∧ x = nI sh := sh_of hk hk6 c
    rw [c, nI_clamp (show sh < 2 ^ 31 by omega)]
    generalize hT : tbM a sh = T
    have lp : ∀ w u, u + w = 361 → Z G m_X11_rests d 0 0 0 0 32 [some (.ref Q), some (.int (nI sh)), some (.int p), some (.int j), some (.int (nI (cnb (fun i => rstI T i p) u))), some (.int (ang u))] [] h (RE (some (.int (if rsaF T p j w u < 361 then ang (rsaF T p j w u) else if j = -1 then nI (cnb (fun i => rstI T i p) 361) else -1000))) h) := by
      intro w
      induction w with
      | zero =>
        intro u hw
        have e0 : rsaF T p j 0 u = 361 := by show u = 361; omega
        rw [e0, if_neg (by omega)]
        refine z_ild5 (n := 34) (by decide +kernel) ?_
        refine z_sipush (n := 37) (q := 180) (v := 180) (by decide +kernel) ?_
        refine z_icmp_gt_t (n := 40) (off := 36) (tgt := 73) (by decide +kernel) (by rw [ang_360, ang_lt (by omega) (by omega)]; omega) ?_
        refine z_ild3 (n := 74) (by decide +kernel) ?_
        refine z_iconst (n := 75) (q := -1) (v := -1) (by decide +kernel) ?_
        refine z_icmp_ne (n := 78) (off := 8) (tgt := 83) (by decide +kernel) (fun c75 => ?_) (fun c75 => ?_)
        · refine z_sipush (n := 86) (q := -1000) (v := -1000) (by decide +kernel) ?_
          refine z_iret (by decide +kernel) rfl (Nat.le_refl _) ?_
          refine ⟨?_, rfl⟩; simp only [eq_false c75, if_true, if_false, show u = 361 by omega]
        · refine z_ild4 (n := 80) (by decide +kernel) ?_
          refine z_goto (n := 83) (off := 6) (tgt := 86) (by decide +kernel) ?_
          refine z_iret (by decide +kernel) rfl (Nat.le_refl _) ?_
          refine ⟨?_, rfl⟩; simp only [eq_true c75, if_true, if_false, show u = 361 by omega]
      | succ w ih =>
        intro u hw
        refine z_ild5 (n := 34) (by decide +kernel) ?_
        refine z_sipush (n := 37) (q := 180) (v := 180) (by decide +kernel) ?_
        refine z_icmp_gt_f (n := 40) (off := 36) (tgt := 73) (by decide +kernel) (by rw [ang_360, ang_lt (by omega) (by omega)]; omega) ?_
        refine z_ald0 (n := 41) (by decide +kernel) ?_
        refine z_ild1 (n := 42) (by decide +kernel) ?_
        refine z_ild2 (n := 43) (by decide +kernel) ?_
        refine z_ild5 (n := 45) (by decide +kernel) ?_
        refine z_iconst (n := 46) (q := 0) (v := 0) (by decide +kernel) ?_
        refine z_v4 (n := 49) (idx := 217) (by decide +kernel) ml_X11_217 (by assumption) rfl (Nat.le_of_ble_eq_true rfl) (by omega) ⟨Nat.le_refl _, Nat.le_refl _⟩ (m_restsAt (n := n) (sh := sh) (i := u) (st := false) 1 (by omega) hs hQ hA hn (by omega)) ?_
        skip
        rw [if_neg (by decide), hT]
        by_cases c1 : rstI T u p = true
        · by_cases c2 : nI (cnb (fun i => rstI T i p) u) = j
          · have e0 : rsaF T p j (w + 1) u = u := fsT_t (by rw [c1, decide_eq_true c2]; rfl)
            rw [e0, if_pos (by omega)]
            refine z_ifb_ne_t (n := 52) (off := 6) (tgt := 55) (by decide +kernel) (c1) ?_
            refine z_ild4 (n := 57) (by decide +kernel) ?_
            refine z_ild3 (n := 58) (by decide +kernel) ?_
            refine z_icmp_ne_f (n := 61) (off := 6) (tgt := 64) (by decide +kernel) (c2) ?_
            refine z_ild5 (n := 63) (by decide +kernel) ?_
            refine z_iret (by decide +kernel) rfl (Nat.le_refl _) ?_
            exact ⟨rfl, rfl⟩
          · have e0 : rsaF T p j (w + 1) u = rsaF T p j w (u + 1) := fsT_f (by rw [c1, decide_eq_false c2]; rfl)
            have e1 : cnb (fun i => rstI T i p) (u + 1) = cnb (fun i => rstI T i p) u + 1 := by rw [cnb, if_pos c1]
            rw [e0]
            refine z_ifb_ne_t (n := 52) (off := 6) (tgt := 55) (by decide +kernel) (c1) ?_
            refine z_ild4 (n := 57) (by decide +kernel) ?_
            refine z_ild3 (n := 58) (by decide +kernel) ?_
            refine z_icmp_ne_t (n := 61) (off := 6) (tgt := 64) (by decide +kernel) (c2) ?_
            refine z_inc4 (n := 67) (q := 1) (by decide +kernel) rfl (nI_1 _) ?_
            refine z_inc5 (n := 70) (q := 1) (by decide +kernel) rfl (ang_1 _) ?_
            refine z_goto (n := 73) (off := -38) (tgt := 32) (by decide +kernel) ?_
            rw [← e1]; exact ih (u + 1) (by omega)
        · have c1' := Bool.eq_false_iff.mpr c1
          have e0 : rsaF T p j (w + 1) u = rsaF T p j w (u + 1) := fsT_f (by rw [c1', Bool.false_and])
          have e1 : cnb (fun i => rstI T i p) (u + 1) = cnb (fun i => rstI T i p) u := by rw [cnb, if_neg c1]; rfl
          rw [e0]
          refine z_ifb_ne_f (n := 52) (off := 6) (tgt := 55) (by decide +kernel) (c1') ?_
          refine z_goto (n := 55) (off := 15) (tgt := 67) (by decide +kernel) ?_
          refine z_inc5 (n := 70) (q := 1) (by decide +kernel) rfl (ang_1 _) ?_
          refine z_goto (n := 73) (off := -38) (tgt := 32) (by decide +kernel) ?_
          have q := ih (u + 1) (by omega); rw [e1] at q; exact q
    by_cases cj : -1 ≤ j
    · refine z_ald0 (n := 1) (by decide +kernel) ?_
      refine z_ild1 (n := 2) (by decide +kernel) ?_
      refine z_v1 (n := 5) (idx := 205) (by decide +kernel) ml_X11_205 (by assumption) rfl (Nat.le_of_ble_eq_true rfl) (by omega) ⟨Nat.le_refl _, Nat.le_refl _⟩ (m_isSheet (n := n) 1 (by omega) hQ hA hn) ?_
      refine z_ifb_eq_f (n := 8) (off := 15) (tgt := 20) (by decide +kernel) (c) ?_
      refine z_ild2 (n := 9) (by decide +kernel) ?_
      refine z_s1 (n := 12) (idx := 214) (by decide +kernel) ml_X11_214 (Nat.le_of_ble_eq_true rfl) (by omega) ⟨Nat.le_refl _, Nat.le_refl _⟩ (m_isPush 1 (by omega)) ?_
      refine z_ifb_eq (n := 15) (off := 8) (tgt := 20) (by decide +kernel) (fun c12 => ?_) (fun c12 => ?_)
      · refine z_sipush (n := 23) (q := -1000) (v := -1000) (by decide +kernel) ?_
        refine z_iret (by decide +kernel) rfl (Nat.le_refl _) ?_
        refine ⟨?_, rfl⟩; rw [c12]; rfl
      · refine z_ild3 (n := 16) (by decide +kernel) ?_
        refine z_iconst (n := 17) (q := -1) (v := -1) (by decide +kernel) ?_
        refine z_icmp_ge_t (n := 20) (off := 7) (tgt := 24) (by decide +kernel) (cj) ?_
        refine z_iconst (n := 25) (q := 0) (v := 0) (by decide +kernel) ?_
        refine z_ist4 (n := 27) (by decide +kernel) rfl ?_
        refine z_sipush (n := 30) (q := -180) (v := -180) (by decide +kernel) ?_
        refine z_ist5 (n := 32) (by decide +kernel) rfl ?_
        rw [decide_eq_true cj, c12, Bool.and_self, Bool.and_self, if_pos rfl, ← rsa_sw]; exact lp 361 0 (by omega)
    · refine z_ald0 (n := 1) (by decide +kernel) ?_
      refine z_ild1 (n := 2) (by decide +kernel) ?_
      refine z_v1 (n := 5) (idx := 205) (by decide +kernel) ml_X11_205 (by assumption) rfl (Nat.le_of_ble_eq_true rfl) (by omega) ⟨Nat.le_refl _, Nat.le_refl _⟩ (m_isSheet (n := n) 1 (by omega) hQ hA hn) ?_
      refine z_ifb_eq_f (n := 8) (off := 15) (tgt := 20) (by decide +kernel) (c) ?_
      refine z_ild2 (n := 9) (by decide +kernel) ?_
      refine z_s1 (n := 12) (idx := 214) (by decide +kernel) ml_X11_214 (Nat.le_of_ble_eq_true rfl) (by omega) ⟨Nat.le_refl _, Nat.le_refl _⟩ (m_isPush 1 (by omega)) ?_
      refine z_ifb_eq (n := 15) (off := 8) (tgt := 20) (by decide +kernel) (fun c12 => ?_) (fun c12 => ?_)
      · refine z_sipush (n := 23) (q := -1000) (v := -1000) (by decide +kernel) ?_
        refine z_iret (by decide +kernel) rfl (Nat.le_refl _) ?_
        refine ⟨?_, rfl⟩; rw [decide_eq_false cj, Bool.and_false, Bool.and_false]; rfl
      · refine z_ild3 (n := 16) (by decide +kernel) ?_
        refine z_iconst (n := 17) (q := -1) (v := -1) (by decide +kernel) ?_
        refine z_icmp_ge_f (n := 20) (off := 7) (tgt := 24) (by decide +kernel) (cj) ?_
        refine z_sipush (n := 23) (q := -1000) (v := -1000) (by decide +kernel) ?_
        refine z_iret (by decide +kernel) rfl (Nat.le_refl _) ?_
        refine ⟨?_, rfl⟩; rw [decide_eq_false cj, Bool.and_false, Bool.and_false]; rfl
  · have c' := Bool.eq_false_iff.mpr c
    refine z_ald0 (n := 1) (by decide +kernel) ?_
    refine z_ild1 (n := 2) (by decide +kernel) ?_
    refine z_v1 (n := 5) (idx := 205) (by decide +kernel) ml_X11_205 (by assumption) rfl (Nat.le_of_ble_eq_true rfl) (by omega) ⟨Nat.le_refl _, Nat.le_refl _⟩ (m_isSheet (n := n) 1 (by omega) hQ hA hn) ?_
    refine z_ifb_eq_t (n := 8) (off := 15) (tgt := 20) (by decide +kernel) (c') ?_
    refine z_sipush (n := 23) (q := -1000) (v := -1000) (by decide +kernel) ?_
    refine z_iret (by decide +kernel) rfl (Nat.le_refl _) ?_
    refine ⟨?_, rfl⟩; rw [c']; rfl
