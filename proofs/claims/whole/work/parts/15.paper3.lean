/-! Paper: hold, open, copy -/
def hldP (n : Nat) (t : Int32) (s : pS) : Bool × pS := if t < 1 then (false, s) else if 1000 < t then (false, s) else if s.1 4 + t ≤ 100000 then (true, pasS n t.toNatClampNeg s) else (false, s)
def opnP (n : Nat) (s : pS) : Bool × pS := if s.1 4 < 100000 then (true, pasS n 1 (flaS n s)) else (false, s)
def cpyS (n : Nat) (s' s : pS) : pS := (s'.1, fun i => cpN (s'.2.1 i) (s.2.1 i) (n + 1), fun i => cpN (s'.2.2 i) (s.2.2 i) (n + 1))
theorem k_holdFor {G : mG} {h : mH} {B n : Nat} {x : Int32} {s : pS} (d : Nat) (hd : 2 ≤ d) (hp : pap h B n s) (hN : n + 1 < 2 ^ 31) : EV G m_X2_holdFor d 0 0 [.ref B, .int x] h (fun r h' => r = some (.int (bI (hldP n x s).1)) ∧ frm h h' B (B + 13) ∧ pap h' B n (hldP n x s).2) := by
  have hp0 := hp
  obtain ⟨tl, ht, hB, hS, hP, hL, hU, hT, hC, h1, h2, h3, h4, h5, h6⟩ := hp
  refine ev_2_0 rfl rfl (by decide +kernel) (by decide +kernel) ?_
  have fin : ¬ x < 1 → ¬ 1000 < x → s.1 4 + x ≤ 100000 → Z G m_X2_holdFor d 0 0 0 0 25 [some (.ref B), some (.int x)] [] h (fun r h' => r = some (.int (bI (hldP n x s).1)) ∧ frm h h' B (B + 13) ∧ pap h' B n (hldP n x s).2) := by
    intro c1 c2 c3
    have hv : hldP n x s = (true, pasS n x.toNatClampNeg s) := by
      unfold hldP
      rw [if_neg c1, if_neg c2, if_pos c3]
    obtain ⟨j, hj, rfl⟩ := nI_of (x := x) (fun q => c1 (Int32.lt_of_lt_of_le q (by decide)))
    rw [nI_clamp hj] at hv
    rw [hv]
    refine z_ald0 (n := 26) (by decide +kernel) ?_
    refine z_ild1 (n := 27) (by decide +kernel) ?_
    refine z_v1v (n := 30) (idx := 75) (by decide +kernel) ml_X2_75 (by assumption) rfl (Nat.le_of_ble_eq_true rfl) (by omega) ⟨Nat.le_refl _, Nat.le_refl _⟩ (k_endAct (N := n + 1) (pl := s.2.1 0) (si := s.2.1 2) (rs := s.2.1 3) 1 (by omega) hB hS hP hC h1 h2 (Nat.le_refl _) hN hj) ?_
    refine z_iconst (n := 31) (q := 1) (v := 1) (by decide +kernel) ?_
    first | refine z_zr1 (by decide +kernel) rfl (Nat.le_refl _) ?_ | refine z_zr0 (by decide +kernel) rfl (Nat.le_refl _) ?_ | refine z_zrb (by decide +kernel) rfl (Nat.le_refl _) ?_
    exact ⟨rfl, by intro j9 hj9; simp (disch := omega) only [hu_n], ⟨_, _, (by simp (disch := omega) only [hTn, hCr, hFl, hu_s, hu_n]; first | done | assumption | rfl), (by simp (disch := omega) only [hTn, hCr, hFl, hu_s, hu_n]; first | done | assumption | rfl), (by simp (disch := omega) only [hTn, hCr, hFl, hu_s, hu_n]; first | done | assumption | rfl), (by simp (disch := omega) only [hTn, hCr, hFl, hu_s, hu_n]; first | done | assumption | rfl), (by simp (disch := omega) only [hTn, hCr, hFl, hu_s, hu_n]; first | done | assumption | rfl), (by simp (disch := omega) only [hTn, hCr, hFl, hu_s, hu_n]; first | done | assumption | rfl), (by simp (disch := omega) only [hTn, hCr, hFl, hu_s, hu_n]; first | done | assumption | rfl), (by simp (disch := omega) only [hTn, hCr, hFl, hu_s, hu_n]; first | done | assumption | rfl), (by simp (disch := omega) only [hTn, hCr, hFl, hu_s, hu_n]; first | done | assumption | rfl), (by simp (disch := omega) only [hTn, hCr, hFl, hu_s, hu_n]; first | done | assumption | rfl), (by simp (disch := omega) only [hTn, hCr, hFl, hu_s, hu_n]; first | done | assumption | rfl), (by simp (disch := omega) only [hTn, hCr, hFl, hu_s, hu_n]; first | done | assumption | rfl), (by simp (disch := omega) only [hTn, hCr, hFl, hu_s, hu_n]; first | done | assumption | rfl)⟩⟩
  refine z_ild1 (n := 1) (by decide +kernel) ?_
  refine z_iconst (n := 2) (q := 1) (v := 1) (by decide +kernel) ?_
  refine z_icmp_lt (n := 5) (off := 21) (tgt := 23) (by decide +kernel) (fun c2 => ?_) (fun c2 => ?_)
  · refine z_iconst (n := 24) (q := 0) (v := 0) (by decide +kernel) ?_
    first | refine z_zr1 (by decide +kernel) rfl (Nat.le_refl _) ?_ | refine z_zr0 (by decide +kernel) rfl (Nat.le_refl _) ?_ | refine z_zrb (by decide +kernel) rfl (Nat.le_refl _) ?_
    exact ⟨by simp only [hldP, eq_true c2, if_true, if_false], frm_rf, by simp only [hldP, eq_true c2, if_true, if_false]; exact hp0⟩
  · refine z_ild1 (n := 6) (by decide +kernel) ?_
    refine z_sipush (n := 9) (q := 1000) (v := 1000) (by decide +kernel) ?_
    refine z_icmp_gt (n := 12) (off := 14) (tgt := 23) (by decide +kernel) (fun c9 => ?_) (fun c9 => ?_)
    · refine z_iconst (n := 24) (q := 0) (v := 0) (by decide +kernel) ?_
      first | refine z_zr1 (by decide +kernel) rfl (Nat.le_refl _) ?_ | refine z_zr0 (by decide +kernel) rfl (Nat.le_refl _) ?_ | refine z_zrb (by decide +kernel) rfl (Nat.le_refl _) ?_
      exact ⟨by simp only [hldP, eq_false c2, eq_true c9, if_true, if_false], frm_rf, by simp only [hldP, eq_false c2, eq_true c9, if_true, if_false]; exact hp0⟩
    · refine z_ald0 (n := 13) (by decide +kernel) ?_
      refine z_getf (n := 16) (idx := 47) (by decide +kernel) fl_X2_47 (by assumption) (by rfl) ?_
      refine z_ild1 (n := 17) (by decide +kernel) ?_
      refine z_iadd (n := 18) (by decide +kernel) ?_
      refine z_ldc (n := 20) (q := 67) (by decide +kernel) lc_X2_67 ?_
      refine z_icmp_le (n := 23) (off := 5) (tgt := 25) (by decide +kernel) (fun c20 => ?_) (fun c20 => ?_)
      · exact fin c2 c9 c20
      · refine z_iconst (n := 24) (q := 0) (v := 0) (by decide +kernel) ?_
        first | refine z_zr1 (by decide +kernel) rfl (Nat.le_refl _) ?_ | refine z_zr0 (by decide +kernel) rfl (Nat.le_refl _) ?_ | refine z_zrb (by decide +kernel) rfl (Nat.le_refl _) ?_
        exact ⟨by simp only [hldP, eq_false c2, eq_false c9, eq_false c20, if_true, if_false], frm_rf, by simp only [hldP, eq_false c2, eq_false c9, eq_false c20, if_true, if_false]; exact hp0⟩
theorem k_openUp {G : mG} {h : mH} {B n : Nat} {s : pS} (d : Nat) (hd : 2 ≤ d) (hp : pap h B n s) (hN : n + 1 < 2 ^ 31) : EV G m_X2_openUp d 0 0 [.ref B] h (fun r h' => r = some (.int (bI (opnP n s).1)) ∧ frm h h' B (B + 13) ∧ pap h' B n (opnP n s).2) := by
  have hp0 := hp
  obtain ⟨tl, ht, hB, hS, hP, hL, hU, hT, hC, h1, h2, h3, h4, h5, h6⟩ := hp
  refine ev_1_0 rfl (by decide +kernel) (by decide +kernel) ?_
  refine z_ald0 (n := 1) (by decide +kernel) ?_
  refine z_getf (n := 4) (idx := 47) (by decide +kernel) fl_X2_47 (by first | assumption | (simp (disch := omega) only [hFl, hu_s, hu_n]; first | assumption | rfl)) (by rfl) ?_
  refine z_ldc (n := 6) (q := 67) (by decide +kernel) lc_X2_67 ?_
  refine z_icmp_lt (n := 9) (off := 5) (tgt := 11) (by decide +kernel) (fun c6 => ?_) (fun c6 => ?_)
  · refine z_ald0 (n := 12) (by decide +kernel) ?_
    refine z_getf (n := 15) (idx := 29) (by decide +kernel) fl_X2_29 (by first | assumption | (simp (disch := omega) only [hFl, hu_s, hu_n]; first | assumption | rfl)) (by rfl) ?_
    refine z_ald0 (n := 16) (by decide +kernel) ?_
    refine z_getf (n := 19) (idx := 29) (by decide +kernel) fl_X2_29 (by first | assumption | (simp (disch := omega) only [hFl, hu_s, hu_n]; first | assumption | rfl)) (by rfl) ?_
    refine z_getf (n := 22) (idx := 78) (by decide +kernel) fl_X2_78 (by first | assumption | (simp (disch := omega) only [hFl, hu_s, hu_n]; first | assumption | rfl)) (by rfl) ?_
    refine z_v1v (n := 25) (idx := 81) (by decide +kernel) ml_X2_81 (by first | assumption | (simp (disch := omega) only [hFl, hu_s, hu_n]; first | assumption | rfl)) rfl (Nat.le_of_ble_eq_true rfl) (by omega) ⟨Nat.le_refl _, Nat.le_refl _⟩ (k_layFlat (N := n + 1) 1 (by omega) hS hP hL hU (Nat.le_refl _) hN) ?_
    refine z_ald0 (n := 26) (by decide +kernel) ?_
    refine z_iconst (n := 27) (q := 1) (v := 1) (by decide +kernel) ?_
    refine z_v1v (n := 30) (idx := 75) (by decide +kernel) ml_X2_75 (by first | assumption | (simp (disch := omega) only [hFl, hu_s, hu_n]; first | assumption | rfl)) rfl (Nat.le_of_ble_eq_true rfl) (by omega) ⟨Nat.le_refl _, Nat.le_refl _⟩ (k_endAct (N := n + 1) (t := 1) (pl := cpN nI (s.2.1 0) (n + 1)) (si := s.2.1 2) (rs := s.2.1 3) 1 (by omega) (by simp (disch := omega) only [hTn, hCr, hFl, hu_s, hu_n]; first | done | assumption | rfl) (by simp (disch := omega) only [hTn, hCr, hFl, hu_s, hu_n]; first | done | assumption | rfl) (by simp (disch := omega) only [hTn, hCr, hFl, hu_s, hu_n]; first | done | assumption | rfl) (by simp (disch := omega) only [hTn, hCr, hFl, hu_s, hu_n]; first | done | assumption | rfl) (by simp (disch := omega) only [hTn, hCr, hFl, hu_s, hu_n]; first | done | assumption | rfl) (by simp (disch := omega) only [hTn, hCr, hFl, hu_s, hu_n]; first | done | assumption | rfl) (Nat.le_refl _) hN (by omega)) ?_
    refine z_iconst (n := 31) (q := 1) (v := 1) (by decide +kernel) ?_
    first | refine z_zr1 (by decide +kernel) rfl (Nat.le_refl _) ?_ | refine z_zr0 (by decide +kernel) rfl (Nat.le_refl _) ?_ | refine z_zrb (by decide +kernel) rfl (Nat.le_refl _) ?_
    first | exact ⟨by simp only [opnP, eq_true c6, if_true, if_false], frm_rf, by simp only [opnP, eq_true c6, if_true, if_false]; exact hp0⟩ | exact ⟨by simp only [opnP, eq_true c6, if_true, if_false], by intro j9 hj9; simp (disch := omega) only [hFl, hu_n], by simp only [opnP, eq_true c6, if_true, if_false]; exact ⟨_, _, (by simp (disch := omega) only [hTn, hCr, hFl, hu_s, hu_n]; first | done | assumption | rfl), (by simp (disch := omega) only [hTn, hCr, hFl, hu_s, hu_n]; first | done | assumption | rfl), (by simp (disch := omega) only [hTn, hCr, hFl, hu_s, hu_n]; first | done | assumption | rfl), (by simp (disch := omega) only [hTn, hCr, hFl, hu_s, hu_n]; first | done | assumption | rfl), (by simp (disch := omega) only [hTn, hCr, hFl, hu_s, hu_n]; first | done | assumption | rfl), (by simp (disch := omega) only [hTn, hCr, hFl, hu_s, hu_n]; first | done | assumption | rfl), (by simp (disch := omega) only [hTn, hCr, hFl, hu_s, hu_n]; first | done | assumption | rfl), (by simp (disch := omega) only [hTn, hCr, hFl, hu_s, hu_n]; first | done | assumption | rfl), (by simp (disch := omega) only [hTn, hCr, hFl, hu_s, hu_n]; first | done | assumption | rfl), (by simp (disch := omega) only [hTn, hCr, hFl, hu_s, hu_n]; first | done | assumption | rfl), (by simp (disch := omega) only [hTn, hCr, hFl, hu_s, hu_n]; first | done | assumption | rfl), (by simp (disch := omega) only [hTn, hCr, hFl, hu_s, hu_n]; first | done | assumption | rfl), (by simp (disch := omega) only [hTn, hCr, hFl, hu_s, hu_n]; first | done | assumption | rfl)⟩⟩
  · refine z_iconst (n := 10) (q := 0) (v := 0) (by decide +kernel) ?_
    first | refine z_zr1 (by decide +kernel) rfl (Nat.le_refl _) ?_ | refine z_zr0 (by decide +kernel) rfl (Nat.le_refl _) ?_ | refine z_zrb (by decide +kernel) rfl (Nat.le_refl _) ?_
    first | exact ⟨by simp only [opnP, eq_false c6, if_true, if_false], frm_rf, by simp only [opnP, eq_false c6, if_true, if_false]; exact hp0⟩ | exact ⟨by simp only [opnP, eq_false c6, if_true, if_false], by intro j9 hj9; simp (disch := omega) only [hFl, hu_n], by simp only [opnP, eq_false c6, if_true, if_false]; exact ⟨_, _, (by simp (disch := omega) only [hTn, hCr, hFl, hu_s, hu_n]; first | done | assumption | rfl), (by simp (disch := omega) only [hTn, hCr, hFl, hu_s, hu_n]; first | done | assumption | rfl), (by simp (disch := omega) only [hTn, hCr, hFl, hu_s, hu_n]; first | done | assumption | rfl), (by simp (disch := omega) only [hTn, hCr, hFl, hu_s, hu_n]; first | done | assumption | rfl), (by simp (disch := omega) only [hTn, hCr, hFl, hu_s, hu_n]; first | done | assumption | rfl), (by simp (disch := omega) only [hTn, hCr, hFl, hu_s, hu_n]; first | done | assumption | rfl), (by simp (disch := omega) only [hTn, hCr, hFl, hu_s, hu_n]; first | done | assumption | rfl), (by simp (disch := omega) only [hTn, hCr, hFl, hu_s, hu_n]; first | done | assumption | rfl), (by simp (disch := omega) only [hTn, hCr, hFl, hu_s, hu_n]; first | done | assumption | rfl), (by simp (disch := omega) only [hTn, hCr, hFl, hu_s, hu_n]; first | done | assumption | rfl), (by simp (disch := omega) only [hTn, hCr, hFl, hu_s, hu_n]; first | done | assumption | rfl), (by simp (disch := omega) only [hTn, hCr, hFl, hu_s, hu_n]; first | done | assumption | rfl), (by simp (disch := omega) only [hTn, hCr, hFl, hu_s, hu_n]; first | done | assumption | rfl)⟩⟩
theorem k_papCopy {G : mG} {h : mH} {B B' n : Nat} {s s' : pS} (d : Nat) (hd : 2 ≤ d) (hp : pap h B n s) (hp' : pap h B' n s') (hN : n + 1 < 2 ^ 31) (hap : B + 13 ≤ B' ∨ B' + 13 ≤ B) : EV G m_X2_copyFrom d 0 0 [.ref B, .ref B'] h (fun r h' => r = none ∧ frm h h' B (B + 13) ∧ pap h' B n (cpyS n s' s)) := by
  obtain ⟨tl, ht, hB, hS, hP, hL, hU, hT, hC, h1, h2, h3, h4, h5, h6⟩ := hp
  obtain ⟨tl', ht', hB', hS', hP', hL', hU', hT', hC', h1', h2', h3', h4', h5', h6'⟩ := hp'
  refine ev_2_0 rfl rfl (by decide +kernel) (by decide +kernel) ?_
  refine z_ald0 (n := 1) (by decide +kernel) ?_
  refine z_getf (n := 4) (idx := 29) (by decide +kernel) fl_X2_29 (by first | assumption | (simp (disch := omega) only [hu_s, hu_n]; first | assumption | rfl)) (by rfl) ?_
  refine z_ald1 (n := 5) (by decide +kernel) ?_
  refine z_getf (n := 8) (idx := 29) (by decide +kernel) fl_X2_29 (by first | assumption | (simp (disch := omega) only [hu_s, hu_n]; first | assumption | rfl)) (by rfl) ?_
  refine z_v1v (n := 11) (idx := 40) (by decide +kernel) ml_X2_40 (by first | assumption | (simp (disch := omega) only [hu_s, hu_n]; first | assumption | rfl)) rfl (Nat.le_of_ble_eq_true rfl) (by omega) ⟨Nat.le_refl _, Nat.le_refl _⟩ (k_stripCopy (N := n + 1) (N' := n + 1) 1 (by omega) hS hP hL hU hS' hP' hL' hU' (Nat.le_refl _) (Nat.le_refl _) hN (by omega)) ?_
  refine z_ald0 (n := 12) (by decide +kernel) ?_
  refine z_getf (n := 15) (idx := 36) (by decide +kernel) fl_X2_36 (by first | assumption | (simp (disch := omega) only [hu_s, hu_n]; first | assumption | rfl)) (by rfl) ?_
  refine z_ald1 (n := 16) (by decide +kernel) ?_
  refine z_getf (n := 19) (idx := 36) (by decide +kernel) fl_X2_36 (by first | assumption | (simp (disch := omega) only [hu_s, hu_n]; first | assumption | rfl)) (by rfl) ?_
  refine z_v1v (n := 22) (idx := 44) (by decide +kernel) ml_X2_44 (by first | assumption | (simp (disch := omega) only [hu_s, hu_n]; first | assumption | rfl)) rfl (Nat.le_of_ble_eq_true rfl) (by omega) ⟨Nat.le_refl _, Nat.le_refl _⟩ (k_creCopy (N := n + 1) (si := s.2.1 2) (rs := s.2.1 3) (wr := s.2.1 4) (tk := s.2.1 5) (ac := s.2.1 6) (tn := s.2.2 1) (si' := s'.2.1 2) (rs' := s'.2.1 3) (wr' := s'.2.1 4) (tk' := s'.2.1 5) (ac' := s'.2.1 6) (tn' := s'.2.2 1) 1 (by omega) (by simp (disch := omega) only [hTn, hCr, hFl, hu_s, hu_n]; first | done | assumption | rfl) (by simp (disch := omega) only [hTn, hCr, hFl, hu_s, hu_n]; first | done | assumption | rfl) (by simp (disch := omega) only [hTn, hCr, hFl, hu_s, hu_n]; first | done | assumption | rfl) (by simp (disch := omega) only [hTn, hCr, hFl, hu_s, hu_n]; first | done | assumption | rfl) (by simp (disch := omega) only [hTn, hCr, hFl, hu_s, hu_n]; first | done | assumption | rfl) (by simp (disch := omega) only [hTn, hCr, hFl, hu_s, hu_n]; first | done | assumption | rfl) (by simp (disch := omega) only [hTn, hCr, hFl, hu_s, hu_n]; first | done | assumption | rfl) (by simp (disch := omega) only [hTn, hCr, hFl, hu_s, hu_n]; first | done | assumption | rfl) (by simp (disch := omega) only [hTn, hCr, hFl, hu_s, hu_n]; first | done | assumption | rfl) (by simp (disch := omega) only [hTn, hCr, hFl, hu_s, hu_n]; first | done | assumption | rfl) (by simp (disch := omega) only [hTn, hCr, hFl, hu_s, hu_n]; first | done | assumption | rfl) (by simp (disch := omega) only [hTn, hCr, hFl, hu_s, hu_n]; first | done | assumption | rfl) (by simp (disch := omega) only [hTn, hCr, hFl, hu_s, hu_n]; first | done | assumption | rfl) (by simp (disch := omega) only [hTn, hCr, hFl, hu_s, hu_n]; first | done | assumption | rfl) hN (by omega)) ?_
  refine z_ald0 (n := 23) (by decide +kernel) ?_
  refine z_ald1 (n := 24) (by decide +kernel) ?_
  refine z_getf (n := 27) (idx := 9) (by decide +kernel) fl_X2_9 (by first | assumption | (simp (disch := omega) only [hu_s, hu_n]; first | assumption | rfl)) (by rfl) ?_
  refine z_putf (n := 30) (idx := 9) (ty := .int) (by decide +kernel) fl_X2_9 (by first | assumption | (simp (disch := omega) only [hu_s, hu_n]; first | assumption | rfl)) ⟨_, _, _, rfl, rfl, by decide +kernel⟩ rfl rfl (Nat.le_of_ble_eq_true rfl) ?_
  refine z_ald0 (n := 31) (by decide +kernel) ?_
  refine z_ald1 (n := 32) (by decide +kernel) ?_
  refine z_getf (n := 35) (idx := 15) (by decide +kernel) fl_X2_15 (by first | assumption | (simp (disch := omega) only [hu_s, hu_n]; first | assumption | rfl)) (by rfl) ?_
  refine z_putf (n := 38) (idx := 15) (ty := .int) (by decide +kernel) fl_X2_15 (by first | assumption | (simp (disch := omega) only [hu_s, hu_n]; first | assumption | rfl)) ⟨_, _, _, rfl, rfl, by decide +kernel⟩ rfl rfl (Nat.le_of_ble_eq_true rfl) ?_
  refine z_ald0 (n := 39) (by decide +kernel) ?_
  refine z_ald1 (n := 40) (by decide +kernel) ?_
  refine z_getf (n := 43) (idx := 18) (by decide +kernel) fl_X2_18 (by first | assumption | (simp (disch := omega) only [hu_s, hu_n]; first | assumption | rfl)) (by rfl) ?_
  refine z_putf (n := 46) (idx := 18) (ty := .int) (by decide +kernel) fl_X2_18 (by first | assumption | (simp (disch := omega) only [hu_s, hu_n]; first | assumption | rfl)) ⟨_, _, _, rfl, rfl, by decide +kernel⟩ rfl rfl (Nat.le_of_ble_eq_true rfl) ?_
  refine z_ald0 (n := 47) (by decide +kernel) ?_
  refine z_ald1 (n := 48) (by decide +kernel) ?_
  refine z_getf (n := 51) (idx := 21) (by decide +kernel) fl_X2_21 (by first | assumption | (simp (disch := omega) only [hu_s, hu_n]; first | assumption | rfl)) (by rfl) ?_
  refine z_putf (n := 54) (idx := 21) (ty := .int) (by decide +kernel) fl_X2_21 (by first | assumption | (simp (disch := omega) only [hu_s, hu_n]; first | assumption | rfl)) ⟨_, _, _, rfl, rfl, by decide +kernel⟩ rfl rfl (Nat.le_of_ble_eq_true rfl) ?_
  refine z_ald0 (n := 55) (by decide +kernel) ?_
  refine z_ald1 (n := 56) (by decide +kernel) ?_
  refine z_getf (n := 59) (idx := 47) (by decide +kernel) fl_X2_47 (by first | assumption | (simp (disch := omega) only [hu_s, hu_n]; first | assumption | rfl)) (by rfl) ?_
  refine z_putf (n := 62) (idx := 47) (ty := .int) (by decide +kernel) fl_X2_47 (by first | assumption | (simp (disch := omega) only [hu_s, hu_n]; first | assumption | rfl)) ⟨_, _, _, rfl, rfl, by decide +kernel⟩ rfl rfl (Nat.le_of_ble_eq_true rfl) ?_
  refine z_ald0 (n := 63) (by decide +kernel) ?_
  refine z_ald1 (n := 64) (by decide +kernel) ?_
  refine z_getf (n := 67) (idx := 50) (by decide +kernel) fl_X2_50 (by first | assumption | (simp (disch := omega) only [hu_s, hu_n]; first | assumption | rfl)) (by rfl) ?_
  refine z_putf (n := 70) (idx := 50) (ty := .int) (by decide +kernel) fl_X2_50 (by first | assumption | (simp (disch := omega) only [hu_s, hu_n]; first | assumption | rfl)) ⟨_, _, _, rfl, rfl, by decide +kernel⟩ rfl rfl (Nat.le_of_ble_eq_true rfl) ?_
  refine z_vret (by decide +kernel) rfl (Nat.le_refl _) ?_
  exact ⟨rfl, by intro j9 hj9; simp (disch := omega) only [hu_n], ⟨_, _, (by simp (disch := omega) only [hTn, hCr, hFl, hu_s, hu_n]; first | done | assumption | rfl), (by simp (disch := omega) only [hTn, hCr, hFl, hu_s, hu_n]; first | done | assumption | rfl), (by simp (disch := omega) only [hTn, hCr, hFl, hu_s, hu_n]; first | done | assumption | rfl), (by simp (disch := omega) only [hTn, hCr, hFl, hu_s, hu_n]; first | done | assumption | rfl), (by simp (disch := omega) only [hTn, hCr, hFl, hu_s, hu_n]; first | done | assumption | rfl), (by simp (disch := omega) only [hTn, hCr, hFl, hu_s, hu_n]; first | done | assumption | rfl), (by simp (disch := omega) only [hTn, hCr, hFl, hu_s, hu_n]; first | done | assumption | rfl), (by simp (disch := omega) only [hTn, hCr, hFl, hu_s, hu_n]; first | done | assumption | rfl), (by simp (disch := omega) only [hTn, hCr, hFl, hu_s, hu_n]; first | done | assumption | rfl), (by simp (disch := omega) only [hTn, hCr, hFl, hu_s, hu_n]; first | done | assumption | rfl), (by simp (disch := omega) only [hTn, hCr, hFl, hu_s, hu_n]; first | done | assumption | rfl), (by simp (disch := omega) only [hTn, hCr, hFl, hu_s, hu_n]; first | done | assumption | rfl), (by simp (disch := omega) only [hTn, hCr, hFl, hu_s, hu_n]; first | done | assumption | rfl)⟩⟩
