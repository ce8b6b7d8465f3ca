/-! CreasedPaper: orders, next -/
theorem k_isSrch {G : mG} {h : mH} {x k : Int32} (d : Nat) (hd : 1 ≤ d) : EV G m_X10_isSearch d 0 0 [.int x, .int k] h (RE (some (.int (bI (win x 2 12 && win k 1 3)))) h) := by
  refine ev_2_0 rfl rfl (by decide +kernel) (by decide +kernel) ?_
  refine z_ild0 (n := 1) (by decide +kernel) ?_
  refine z_iconst (n := 2) (q := 2) (v := 2) (by decide +kernel) ?_
  refine z_bipush (n := 4) (q := 12) (v := 12) (by decide +kernel) ?_
  refine z_s3 (n := 7) (idx := 85) (by decide +kernel) ml_X10_85 (Nat.le_of_ble_eq_true rfl) (by omega) ⟨Nat.le_refl _, Nat.le_refl _⟩ (k_isWithin 0) ?_
  refine z_ifb_eq (n := 10) (off := 16) (tgt := 23) (by decide +kernel) (fun c7 => ?_) (fun c7 => ?_)
  · refine z_iconst (n := 24) (q := 0) (v := 0) (by decide +kernel) ?_
    first | refine z_zr1 (by decide +kernel) rfl (Nat.le_refl _) ?_ | refine z_zr0 (by decide +kernel) rfl (Nat.le_refl _) ?_ | refine z_zrb (by decide +kernel) rfl (Nat.le_refl _) ?_
    refine ⟨?_, rfl⟩; simp only [c7, Bool.true_and, Bool.false_and]
  · refine z_ild1 (n := 11) (by decide +kernel) ?_
    refine z_iconst (n := 12) (q := 1) (v := 1) (by decide +kernel) ?_
    refine z_iconst (n := 13) (q := 3) (v := 3) (by decide +kernel) ?_
    refine z_s3 (n := 16) (idx := 85) (by decide +kernel) ml_X10_85 (Nat.le_of_ble_eq_true rfl) (by omega) ⟨Nat.le_refl _, Nat.le_refl _⟩ (k_isWithin 0) ?_
    refine z_ifb_eq (n := 19) (off := 7) (tgt := 23) (by decide +kernel) (fun c16 => ?_) (fun c16 => ?_)
    · refine z_iconst (n := 24) (q := 0) (v := 0) (by decide +kernel) ?_
      first | refine z_zr1 (by decide +kernel) rfl (Nat.le_refl _) ?_ | refine z_zr0 (by decide +kernel) rfl (Nat.le_refl _) ?_ | refine z_zrb (by decide +kernel) rfl (Nat.le_refl _) ?_
      refine ⟨?_, rfl⟩; simp only [c7, c16, Bool.true_and, Bool.false_and]
    · refine z_iconst (n := 20) (q := 1) (v := 1) (by decide +kernel) ?_
      refine z_goto (n := 23) (off := 4) (tgt := 24) (by decide +kernel) ?_
      first | refine z_zr1 (by decide +kernel) rfl (Nat.le_refl _) ?_ | refine z_zr0 (by decide +kernel) rfl (Nat.le_refl _) ?_ | refine z_zrb (by decide +kernel) rfl (Nat.le_refl _) ?_
      refine ⟨?_, rfl⟩; simp only [c7, c16, Bool.true_and, Bool.false_and]
def ordN (ls : List sL) (k : Nat) (i j : Int32) : Int32 := if i = -1 then nI ls.length else if win j 0 (nI (k - 1)) = true then (if i.toNatClampNeg < ls.length then digI ((ls.getD i.toNatClampNeg dL).1.getD j.toNatClampNeg 0) else -1000) else -1000
def ordC (t : Nat → Int32) (x k i j : Int32) : Int32 := if (win x 2 12 && win k 1 3 && decide (-1 ≤ i)) = true then ordN (srF x.toNatClampNeg t k.toNatClampNeg st0) k.toNatClampNeg i j else -1000
def nxtC (t : Nat → Int32) (x k : Int32) : Int32 := if (win x 2 12 && win k 1 3) = true then bsF (mxL (srF x.toNatClampNeg t k.toNatClampNeg st0)) (x.toNatClampNeg - 1) 1 (srF x.toNatClampNeg t k.toNatClampNeg st0).length (-1) else -1
theorem k_orders {G : mG} {h : mH} {C n : Nat} {p po : pS} {e eo : eS} {y yo : yS} {ln : Nat} {bt : Nat → Int32} {wr : Bool} {fk fp sp : Int32} {x k i j : Int32} (d : Nat) (hd : 13 ≤ d) (hy : y.1.2 ≤ 100) (hc : clsP h C n p po e eo y yo ln bt wr fk fp sp) : EV G m_X10_orders d 0 0 [.ref C, .int x, .int k, .int i, .int j] h (fun r h' => r = some (.int (ordC (tolF y) x k i j)) ∧ frm h h' C (C + 102) ∧ clsP h' C n p po e eo y yo ln bt wr fk fp sp) := by
  have hc0 := hc
  obtain ⟨q0, q1, q2, q3, q4, q5, q6, q7, q8, q9, q10, q11⟩ := hc
  have q11' := q11
  obtain ⟨⟨ce, fo, wa, fd, e0⟩, -⟩ := q11'
  refine ev_5_0 rfl rfl rfl rfl rfl (by decide +kernel) (by decide +kernel) ?_
  by_cases c : (win x 2 12 && win k 1 3 && decide (-1 ≤ i)) = true
  · have cc := c
    simp only [Bool.and_eq_true, decide_eq_true_eq] at cc
    obtain ⟨⟨c1, c2⟩, c3⟩ := cc
    obtain ⟨n9, hn2, hn9, rfl⟩ := win_28 (lo := 2) (hi := 12) c1 (by omega) (by omega)
    obtain ⟨K, hK1, hK, rfl⟩ := win_28 (lo := 1) (hi := 3) c2 (by omega) (by omega)
    have ew : ordC (tolF y) (nI n9) (nI K) i j = ordN (srF n9 (tolF y) K st0) K i j := by unfold ordC; rw [if_pos c, nI_clamp (by omega), nI_clamp (by omega)]
    rw [ew]
    unfold ordN
    have b31 := srF_31 (to := tolF y) (st := st0) hn9 hK
    refine z_ild1 (n := 1) (by decide +kernel) ?_
    refine z_ild2 (n := 2) (by decide +kernel) ?_
    refine z_s2 (n := 5) (idx := 269) (by decide +kernel) ml_X10_269 (Nat.le_of_ble_eq_true rfl) (by omega) ⟨Nat.le_refl _, Nat.le_refl _⟩ (k_isSrch 1 (by omega)) ?_
    refine z_ifb_eq_f (n := 8) (off := 8) (tgt := 13) (by decide +kernel) (by rw [c1, c2]; rfl) ?_
    refine z_ild3 (n := 9) (by decide +kernel) ?_
    refine z_iconst (n := 10) (q := -1) (v := -1) (by decide +kernel) ?_
    refine z_icmp_ge_t (n := 13) (off := 7) (tgt := 17) (by decide +kernel) (c3) ?_
    refine z_ald0 (n := 18) (by decide +kernel) ?_
    refine z_getf (n := 21) (idx := 81) (by decide +kernel) fl_X10_81 (by assumption) (by rfl) ?_
    refine z_ild1 (n := 22) (by decide +kernel) ?_
    refine z_ild2 (n := 23) (by decide +kernel) ?_
    refine z_ald0 (n := 24) (by decide +kernel) ?_
    refine z_getf (n := 27) (idx := 43) (by decide +kernel) fl_X10_43 (by assumption) (by rfl) ?_
    refine z_w3v (n := 30) (idx := 272) (by decide +kernel) ml_X10_272 (by assumption) rfl (Nat.le_of_ble_eq_true rfl) (by omega) ⟨Nat.le_refl _, Nat.le_refl _⟩ (k_seTake (n := n9) (K := K) (y := y) 2 (by omega) hn2 hn9 hK1 hK hy (by omega) q11 q5) (fun h27 q27 => ?_)
    skip
    obtain ⟨f1, R⟩ := q27
    have g0 := (f1 C (by omega)).trans q0
    have R0 := R
    obtain ⟨wa9, li9, to9, ta9, sts9, R1, -⟩ := R0
    have g1 := R1.1
    have P1 := cls_sea hc0 f1 (sea_X R1)
    have F1 : frm h h27 C (C + 102) := fun j hj => f1 j (by omega)
    by_cases ci : i = -1
    · rw [if_pos ci]
      refine z_ild3 (n := 31) (by decide +kernel) ?_
      refine z_iconst (n := 32) (q := -1) (v := -1) (by decide +kernel) ?_
      refine z_icmp_ne_f (n := 35) (off := 11) (tgt := 43) (by decide +kernel) (ci) ?_
      refine z_ald0 (n := 36) (by decide +kernel) ?_
      refine z_getf (n := 39) (idx := 81) (by decide +kernel) fl_X10_81 (by assumption) (by rfl) ?_
      refine z_w0 (n := 42) (idx := 275) (by decide +kernel) ml_X10_275 (by assumption) rfl (Nat.le_of_ble_eq_true rfl) (by omega) ⟨Nat.le_refl _, Nat.le_refl _⟩ (k_countFit (n := n9) (K := K) (t := tolF y) 11 (by omega) hn2 hn9 hK R) (fun h39 q39 => ?_)
      skip
      obtain ⟨f2, wa2, fd2, li2, to2, ta2, sts2, R2, -⟩ := q39
      refine z_iret (by decide +kernel) rfl (Nat.le_refl _) ?_
      exact ⟨rfl, fun j hj => (f2 j (by omega)).trans (F1 j hj), cls_sea P1 f2 (sea_X R2)⟩
    · rw [if_neg ci]
      have hi0 : ¬ i < 0 := fun z => ci (Int32.le_antisymm (i_ltm z) c3)
      obtain ⟨i9, hi9, rfl⟩ := nI_of hi0
      rw [nI_clamp hi9]
      obtain ⟨K8, rfl⟩ : ∃ K8, K = K8 + 1 := ⟨K - 1, by omega⟩
      rw [Nat.add_sub_cancel]
      by_cases cl : win j 0 (nI K8) = true
      · rw [if_pos cl]
        obtain ⟨j9, hj0, hj9, rfl⟩ := win_28 (lo := 0) (hi := K8) cl (by omega) (by omega)
        rw [nI_clamp (show j9 < 2 ^ 31 by omega)]
        have j3 : j9 < 3 := by omega
        refine z_ild3 (n := 31) (by decide +kernel) ?_
        refine z_iconst (n := 32) (q := -1) (v := -1) (by decide +kernel) ?_
        refine z_icmp_ne_t (n := 35) (off := 11) (tgt := 43) (by decide +kernel) (ci) ?_
        refine z_ild4 (n := 45) (by decide +kernel) ?_
        refine z_iconst (n := 46) (q := 0) (v := 0) (by decide +kernel) ?_
        refine z_ild2 (n := 47) (by decide +kernel) ?_
        refine z_iconst (n := 48) (q := 1) (v := 1) (by decide +kernel) ?_
        refine z_isub (n := 49) (by decide +kernel) ?_
        refine z_top (nI_pred K8) ?_
        refine z_s3 (n := 52) (idx := 85) (by decide +kernel) ml_X10_85 (Nat.le_of_ble_eq_true rfl) (by omega) ⟨Nat.le_refl _, Nat.le_refl _⟩ (k_isWithin 0) ?_
        refine z_ifb_eq_f (n := 55) (off := 27) (tgt := 79) (by decide +kernel) (cl) ?_
        refine z_ald0 (n := 56) (by decide +kernel) ?_
        refine z_getf (n := 59) (idx := 81) (by decide +kernel) fl_X10_81 (by assumption) (by rfl) ?_
        refine z_ild3 (n := 60) (by decide +kernel) ?_
        refine z_g1 (n := 63) (idx := 278) (by decide +kernel) ml_X10_278 (by assumption) rfl (Nat.le_of_ble_eq_true rfl) (by omega) ⟨Nat.le_refl _, Nat.le_refl _⟩ (k_findFit (n := n9) (K := K8 + 1) (t := tolF y) (i := i9) 11 (by omega) hn2 hn9 hK hi9 R) (fun x60 h60 q60 => ?_)
        skip
        obtain ⟨f2, ex, wa2, fd2, li2, to2, ta2, sts2, R2, v4⟩ := q60
        have w0 := (f2 C (by omega)).trans g0
        have P2 := cls_sea P1 f2 (sea_X R2)
        have F2 : frm h h60 C (C + 102) := fun j hj => (f2 j (by omega)).trans (F1 j hj)
        obtain ⟨v0, v1, -⟩ := R2
        cases x60 with
        | false =>
          rw [if_neg (of_decide_eq_false ex.symm)]
          refine z_ifb_eq_t (n := 66) (off := 16) (tgt := 79) (by decide +kernel) (rfl) ?_
          refine z_sipush (n := 82) (q := -1000) (v := -1000) (by decide +kernel) ?_
          refine z_iret (by decide +kernel) rfl (Nat.le_refl _) ?_
          exact ⟨rfl, F2, P2⟩
        | true =>
          rw [if_pos (of_decide_eq_true ex.symm)]
          refine z_ifb_eq_f (n := 66) (off := 16) (tgt := 79) (by decide +kernel) (rfl) ?_
          refine z_ald0 (n := 67) (by decide +kernel) ?_
          refine z_getf (n := 70) (idx := 81) (by decide +kernel) fl_X10_81 (by assumption) (by rfl) ?_
          refine z_getf (n := 73) (idx := 281) (by decide +kernel) fl_X10_281 (by assumption) (by rfl) ?_
          refine z_ild4 (n := 75) (by decide +kernel) ?_
          refine z_iald (n := 76) (by decide +kernel) (by assumption) (by first | assumption | exact ix_nI (by omega) (by omega)) ?_
          refine z_top (v4 rfl j9 (by omega)) ?_
          refine z_goto (n := 79) (off := 6) (tgt := 82) (by decide +kernel) ?_
          refine z_iret (by decide +kernel) rfl (Nat.le_refl _) ?_
          exact ⟨rfl, F2, P2⟩
      · rw [if_neg cl]
        refine z_ild3 (n := 31) (by decide +kernel) ?_
        refine z_iconst (n := 32) (q := -1) (v := -1) (by decide +kernel) ?_
        refine z_icmp_ne_t (n := 35) (off := 11) (tgt := 43) (by decide +kernel) (ci) ?_
        refine z_ild4 (n := 45) (by decide +kernel) ?_
        refine z_iconst (n := 46) (q := 0) (v := 0) (by decide +kernel) ?_
        refine z_ild2 (n := 47) (by decide +kernel) ?_
        refine z_iconst (n := 48) (q := 1) (v := 1) (by decide +kernel) ?_
        refine z_isub (n := 49) (by decide +kernel) ?_
        refine z_top (nI_pred K8) ?_
        refine z_s3 (n := 52) (idx := 85) (by decide +kernel) ml_X10_85 (Nat.le_of_ble_eq_true rfl) (by omega) ⟨Nat.le_refl _, Nat.le_refl _⟩ (k_isWithin 0) ?_
        refine z_ifb_eq_t (n := 55) (off := 27) (tgt := 79) (by decide +kernel) (Bool.eq_false_iff.mpr cl) ?_
        refine z_sipush (n := 82) (q := -1000) (v := -1000) (by decide +kernel) ?_
        refine z_iret (by decide +kernel) rfl (Nat.le_refl _) ?_
        exact ⟨rfl, F1, P1⟩
  · have ew : ordC (tolF y) x k i j = -1000 := if_neg c
    rw [ew]
    refine z_ild1 (n := 1) (by decide +kernel) ?_
    refine z_ild2 (n := 2) (by decide +kernel) ?_
    refine z_s2 (n := 5) (idx := 269) (by decide +kernel) ml_X10_269 (Nat.le_of_ble_eq_true rfl) (by omega) ⟨Nat.le_refl _, Nat.le_refl _⟩ (k_isSrch 1 (by omega)) ?_
    refine z_ifb_eq (n := 8) (off := 8) (tgt := 13) (by decide +kernel) (fun c5 => ?_) (fun c5 => ?_)
    · refine z_sipush (n := 16) (q := -1000) (v := -1000) (by decide +kernel) ?_
      refine z_iret (by decide +kernel) rfl (Nat.le_refl _) ?_
      exact ⟨rfl, frm_rf, hc0⟩
    · refine z_ild3 (n := 9) (by decide +kernel) ?_
      refine z_iconst (n := 10) (q := -1) (v := -1) (by decide +kernel) ?_
      refine z_icmp_ge (n := 13) (off := 7) (tgt := 17) (by decide +kernel) (fun c10 => ?_) (fun c10 => ?_)
      · exact absurd (by rw [c5, decide_eq_true c10]; rfl) c
      · refine z_sipush (n := 16) (q := -1000) (v := -1000) (by decide +kernel) ?_
        refine z_iret (by decide +kernel) rfl (Nat.le_refl _) ?_
        exact ⟨rfl, frm_rf, hc0⟩
theorem k_next {G : mG} {h : mH} {C n : Nat} {p po : pS} {e eo : eS} {y yo : yS} {ln : Nat} {bt : Nat → Int32} {wr : Bool} {fk fp sp : Int32} {x k : Int32} (d : Nat) (hd : 13 ≤ d) (hy : y.1.2 ≤ 100) (hc : clsP h C n p po e eo y yo ln bt wr fk fp sp) : EV G m_X10_next d 0 0 [.ref C, .int x, .int k] h (fun r h' => r = some (.int (nxtC (tolF y) x k)) ∧ frm h h' C (C + 102) ∧ clsP h' C n p po e eo y yo ln bt wr fk fp sp) := by
  have hc0 := hc
  obtain ⟨q0, q1, q2, q3, q4, q5, q6, q7, q8, q9, q10, q11⟩ := hc
  have q11' := q11
  obtain ⟨⟨ce, fo, wa, fd, e0⟩, -⟩ := q11'
  refine ev_3_0 rfl rfl rfl (by decide +kernel) (by decide +kernel) ?_
  by_cases c : (win x 2 12 && win k 1 3) = true
  · have cc := c
    simp only [Bool.and_eq_true] at cc
    obtain ⟨c1, c2⟩ := cc
    obtain ⟨n9, hn2, hn9, rfl⟩ := win_28 (lo := 2) (hi := 12) c1 (by omega) (by omega)
    obtain ⟨K, hK1, hK, rfl⟩ := win_28 (lo := 1) (hi := 3) c2 (by omega) (by omega)
    have ew : nxtC (tolF y) (nI n9) (nI K) = bsF (mxL (srF n9 (tolF y) K st0)) (n9 - 1) 1 (srF n9 (tolF y) K st0).length (-1) := by unfold nxtC; rw [if_pos c, nI_clamp (by omega), nI_clamp (by omega)]
    rw [ew]
    refine z_ild1 (n := 1) (by decide +kernel) ?_
    refine z_ild2 (n := 2) (by decide +kernel) ?_
    refine z_s2 (n := 5) (idx := 269) (by decide +kernel) ml_X10_269 (Nat.le_of_ble_eq_true rfl) (by omega) ⟨Nat.le_refl _, Nat.le_refl _⟩ (k_isSrch 1 (by omega)) ?_
    refine z_ifb_ne_t (n := 8) (off := 5) (tgt := 10) (by decide +kernel) (c) ?_
    refine z_ald0 (n := 11) (by decide +kernel) ?_
    refine z_getf (n := 14) (idx := 81) (by decide +kernel) fl_X10_81 (by assumption) (by rfl) ?_
    refine z_ild1 (n := 15) (by decide +kernel) ?_
    refine z_ild2 (n := 16) (by decide +kernel) ?_
    refine z_ald0 (n := 17) (by decide +kernel) ?_
    refine z_getf (n := 20) (idx := 43) (by decide +kernel) fl_X10_43 (by assumption) (by rfl) ?_
    refine z_w3v (n := 23) (idx := 272) (by decide +kernel) ml_X10_272 (by assumption) rfl (Nat.le_of_ble_eq_true rfl) (by omega) ⟨Nat.le_refl _, Nat.le_refl _⟩ (k_seTake (n := n9) (K := K) (y := y) 2 (by omega) hn2 hn9 hK1 hK hy (by omega) q11 q5) (fun h20 q20 => ?_)
    skip
    obtain ⟨f1, R⟩ := q20
    have g0 := (f1 C (by omega)).trans q0
    have R0 := R
    obtain ⟨wa9, li9, to9, ta9, sts9, R1, -⟩ := R0
    have g1 := R1.1
    have P1 := cls_sea hc0 f1 (sea_X R1)
    have F1 : frm h h20 C (C + 102) := fun j hj => f1 j (by omega)
    refine z_ald0 (n := 24) (by decide +kernel) ?_
    refine z_getf (n := 27) (idx := 81) (by decide +kernel) fl_X10_81 (by assumption) (by rfl) ?_
    refine z_w0 (n := 30) (idx := 284) (by decide +kernel) ml_X10_284 (by assumption) rfl (Nat.le_of_ble_eq_true rfl) (by omega) ⟨Nat.le_refl _, Nat.le_refl _⟩ (k_bestPoint (n := n9) (K := K) (t := tolF y) 12 (by omega) hn2 hn9 hK R) (fun h27 q27 => ?_)
    refine z_iret (by decide +kernel) rfl (Nat.le_refl _) ?_
    exact ⟨rfl, fun j hj => (q27.1 j (by omega)).trans (F1 j hj), cls_sea P1 q27.1 q27.2⟩
  · have ew : nxtC (tolF y) x k = -1 := if_neg c
    rw [ew]
    refine z_ild1 (n := 1) (by decide +kernel) ?_
    refine z_ild2 (n := 2) (by decide +kernel) ?_
    refine z_s2 (n := 5) (idx := 269) (by decide +kernel) ml_X10_269 (Nat.le_of_ble_eq_true rfl) (by omega) ⟨Nat.le_refl _, Nat.le_refl _⟩ (k_isSrch 1 (by omega)) ?_
    refine z_ifb_ne_f (n := 8) (off := 5) (tgt := 10) (by decide +kernel) (Bool.eq_false_iff.mpr c) ?_
    refine z_iconst (n := 9) (q := -1) (v := -1) (by decide +kernel) ?_
    refine z_iret (by decide +kernel) rfl (Nat.le_refl _) ?_
    exact ⟨rfl, frm_rf, hc0⟩
