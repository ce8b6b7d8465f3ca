/-! Panels: can it lie there? -/
theorem bI_eq {a b : Bool} : bI a = bI b ↔ a = b := by cases a <;> cases b <;> decide
theorem k_fits {G : mG} {h : mH} {A n : Nat} {wt fd : Int32} {pI lO sg : Nat → Int32} {pre : List Nat} {s : Nat → Nat} {c p o : Nat} (d : Nat) (hd : 1 ≤ d) (hc : c + 1 < n) (hp : p < n) (ho : o < n) (hn : n ≤ 8) (hsg : ∀ c, c + 1 < n → sg c = nI (s c) ∧ s c < 3) (H : pnl h A n wt fd pI lO sg) (L : pil n pre pI lO) : EV G m_X1_fits d 0 0 [.ref A, .int (nI c), .int (nI p), .int (nI o), .int (nI pre.length)] h (RE (some (.int (bI (ftX n s pre c p o)))) h) := by
  have hl := pil_len L hn
  have H' := H
  obtain ⟨h0, h1, h2, h3⟩ := H
  obtain ⟨q1, q2⟩ := pil_lo L ho
  obtain ⟨g1, g2⟩ := hsg c hc
  have hc8 : c < 8 := by omega
  have ho8 : o < 8 := by omega
  have f75 : ∀ b1 b2 b3 : Bool, decide (o ∈ pre) = b1 → (decide (o < p) == decide (o ∈ pre)) = b2 → upG s c = b3 → Z G m_X1_fits d 0 0 0 0 75 [some (.ref A), some (.int (nI c)), some (.int (nI p)), some (.int (nI o)), some (.int (nI pre.length)), some (.int (bI b1)), some (.int (bI b2)), some (.int (bI b3))] [] h (RE (some (.int (bI (ftX n s pre c p o)))) h) := by
    intro b1 b2 b3 e1 e2 e3
    have ef : ftX n s pre c p o = ((decide (s c = 0) || (b2 == b3)) && (!b1 || !crX n pre c (pre.idxOf o))) := by unfold ftX; rw [e1, ← e2, e1, e3]
    have f93 : (decide (s c = 0) || (b2 == b3)) = true → Z G m_X1_fits d 0 0 0 0 93 [some (.ref A), some (.int (nI c)), some (.int (nI p)), some (.int (nI o)), some (.int (nI pre.length)), some (.int (bI b1)), some (.int (bI b2)), some (.int (bI b3))] [] h (RE (some (.int (bI (ftX n s pre c p o)))) h) := by
      intro z
      rw [ef, z, Bool.true_and]
      cases b1 with
      | false =>
        refine z_ild5 (n := 95) (by decide +kernel) ?_
        refine z_ifb_eq_t (n := 98) (off := 19) (tgt := 114) (by decide +kernel) (rfl) ?_
        refine z_iconst (n := 115) (q := 1) (v := 1) (by decide +kernel) ?_
        refine z_goto (n := 118) (off := 4) (tgt := 119) (by decide +kernel) ?_
        first | refine z_zr1 (by decide +kernel) rfl (Nat.le_refl _) ?_ | refine z_zr0 (by decide +kernel) rfl (Nat.le_refl _) ?_ | refine z_zrb (by decide +kernel) rfl (Nat.le_refl _) ?_
        exact ⟨rfl, rfl⟩
      | true =>
        have ci := of_decide_eq_true e1
        have hi := List.idxOf_lt_length_of_mem ci
        refine z_ild5 (n := 95) (by decide +kernel) ?_
        refine z_ifb_eq_f (n := 98) (off := 19) (tgt := 114) (by decide +kernel) (rfl) ?_
        refine z_ald0 (n := 99) (by decide +kernel) ?_
        refine z_ild1 (n := 100) (by decide +kernel) ?_
        refine z_ald0 (n := 101) (by decide +kernel) ?_
        refine z_getf (n := 104) (idx := 15) (by decide +kernel) fl_X1_15 (by assumption) (by rfl) ?_
        refine z_ild3 (n := 105) (by decide +kernel) ?_
        refine z_iald (n := 106) (by decide +kernel) (by assumption) (by first | assumption | exact ix_nI (by omega) (by omega)) ?_
        refine z_top (q1 ci) ?_
        refine z_ild4 (n := 108) (by decide +kernel) ?_
        refine z_v3 (n := 111) (idx := 43) (by decide +kernel) ml_X1_43 (by assumption) rfl (Nat.le_of_ble_eq_true rfl) (by omega) ⟨Nat.le_refl _, Nat.le_refl _⟩ (k_isCrossed (c := c) (fr := pre.idxOf o) (pre := pre) 0 hc8 hi hn H' L) ?_
        refine z_ifb_ne (n := 114) (off := 7) (tgt := 118) (by decide +kernel) (fun c111 => ?_) (fun c111 => ?_)
        · refine z_iconst (n := 119) (q := 0) (v := 0) (by decide +kernel) ?_
          first | refine z_zr1 (by decide +kernel) rfl (Nat.le_refl _) ?_ | refine z_zr0 (by decide +kernel) rfl (Nat.le_refl _) ?_ | refine z_zrb (by decide +kernel) rfl (Nat.le_refl _) ?_
          refine ⟨?_, rfl⟩; rw [c111]; rfl
        · refine z_iconst (n := 115) (q := 1) (v := 1) (by decide +kernel) ?_
          refine z_goto (n := 118) (off := 4) (tgt := 119) (by decide +kernel) ?_
          first | refine z_zr1 (by decide +kernel) rfl (Nat.le_refl _) ?_ | refine z_zr0 (by decide +kernel) rfl (Nat.le_refl _) ?_ | refine z_zrb (by decide +kernel) rfl (Nat.le_refl _) ?_
          refine ⟨?_, rfl⟩; rw [c111]; rfl
    by_cases c0 : s c = 0
    · refine z_ald0 (n := 76) (by decide +kernel) ?_
      refine z_getf (n := 79) (idx := 18) (by decide +kernel) fl_X1_18 (by assumption) (by rfl) ?_
      refine z_ild1 (n := 80) (by decide +kernel) ?_
      refine z_iald (n := 81) (by decide +kernel) (by assumption) (by first | assumption | exact ix_nI (by omega) (by omega)) ?_
      refine z_top g1 ?_
      refine z_if_eq_t (n := 84) (off := 12) (tgt := 93) (by decide +kernel) (by rw [c0]; rfl) ?_
      exact f93 (by rw [decide_eq_true c0]; rfl)
    · by_cases cb : b2 = b3
      · refine z_ald0 (n := 76) (by decide +kernel) ?_
        refine z_getf (n := 79) (idx := 18) (by decide +kernel) fl_X1_18 (by assumption) (by rfl) ?_
        refine z_ild1 (n := 80) (by decide +kernel) ?_
        refine z_iald (n := 81) (by decide +kernel) (by assumption) (by first | assumption | exact ix_nI (by omega) (by omega)) ?_
        refine z_top g1 ?_
        refine z_if_eq_f (n := 84) (off := 12) (tgt := 93) (by decide +kernel) (fun z => c0 ((nI_ij (b := 0) (by omega) (by omega)).mp z)) ?_
        refine z_ild6 (n := 86) (by decide +kernel) ?_
        refine z_ild7 (n := 88) (by decide +kernel) ?_
        refine z_icmp_eq_t (n := 91) (off := 5) (tgt := 93) (by decide +kernel) (by rw [cb]) ?_
        exact f93 (by rw [cb]; simp)
      · refine z_ald0 (n := 76) (by decide +kernel) ?_
        refine z_getf (n := 79) (idx := 18) (by decide +kernel) fl_X1_18 (by assumption) (by rfl) ?_
        refine z_ild1 (n := 80) (by decide +kernel) ?_
        refine z_iald (n := 81) (by decide +kernel) (by assumption) (by first | assumption | exact ix_nI (by omega) (by omega)) ?_
        refine z_top g1 ?_
        refine z_if_eq_f (n := 84) (off := 12) (tgt := 93) (by decide +kernel) (fun z => c0 ((nI_ij (b := 0) (by omega) (by omega)).mp z)) ?_
        refine z_ild6 (n := 86) (by decide +kernel) ?_
        refine z_ild7 (n := 88) (by decide +kernel) ?_
        refine z_icmp_eq_f (n := 91) (off := 5) (tgt := 93) (by decide +kernel) (fun z => cb (bI_eq.mp z)) ?_
        refine z_iconst (n := 92) (q := 0) (v := 0) (by decide +kernel) ?_
        first | refine z_zr1 (by decide +kernel) rfl (Nat.le_refl _) ?_ | refine z_zr0 (by decide +kernel) rfl (Nat.le_refl _) ?_ | refine z_zrb (by decide +kernel) rfl (Nat.le_refl _) ?_
        refine ⟨?_, rfl⟩; rw [ef, decide_eq_false c0, show (b2 == b3) = false from by simpa using cb]; rfl
  have f39 : ∀ b1 b2 : Bool, decide (o ∈ pre) = b1 → (decide (o < p) == decide (o ∈ pre)) = b2 → Z G m_X1_fits d 0 0 0 0 39 [some (.ref A), some (.int (nI c)), some (.int (nI p)), some (.int (nI o)), some (.int (nI pre.length)), some (.int (bI b1)), some (.int (bI b2)), none] [] h (RE (some (.int (bI (ftX n s pre c p o)))) h) := by
    intro b1 b2 e1 e2
    have r2 : nI c - nI c / 2 * 2 = nI (c % 2) := pk_rem (d := 2) (by omega) (by omega) (by omega)
    by_cases x1 : s c = 1
    · by_cases x2 : c % 2 = 0
      · refine z_ald0 (n := 40) (by decide +kernel) ?_
        refine z_getf (n := 43) (idx := 18) (by decide +kernel) fl_X1_18 (by assumption) (by rfl) ?_
        refine z_ild1 (n := 44) (by decide +kernel) ?_
        refine z_iald (n := 45) (by decide +kernel) (by assumption) (by first | assumption | exact ix_nI (by omega) (by omega)) ?_
        refine z_top g1 ?_
        refine z_iconst (n := 46) (q := 1) (v := 1) (by decide +kernel) ?_
        refine z_icmp_ne_f (n := 49) (off := 7) (tgt := 53) (by decide +kernel) (by rw [x1]; rfl) ?_
        refine z_iconst (n := 50) (q := 1) (v := 1) (by decide +kernel) ?_
        refine z_goto (n := 53) (off := 4) (tgt := 54) (by decide +kernel) ?_
        refine z_ild1 (n := 55) (by decide +kernel) ?_
        refine z_iconst (n := 56) (q := 2) (v := 2) (by decide +kernel) ?_
        refine z_irem (n := 57) (by decide +kernel) (by decide) ?_
        refine z_top r2 ?_
        refine z_if_ne_f (n := 60) (off := 7) (tgt := 64) (by decide +kernel) (by rw [x2]; rfl) ?_
        refine z_iconst (n := 61) (q := 1) (v := 1) (by decide +kernel) ?_
        refine z_goto (n := 64) (off := 4) (tgt := 65) (by decide +kernel) ?_
        refine z_icmp_ne_f (n := 68) (off := 7) (tgt := 72) (by decide +kernel) (rfl) ?_
        refine z_iconst (n := 69) (q := 1) (v := 1) (by decide +kernel) ?_
        refine z_goto (n := 72) (off := 4) (tgt := 73) (by decide +kernel) ?_
        refine z_ist7 (n := 75) (by decide +kernel) rfl ?_
        exact f75 b1 b2 true e1 e2 (by unfold upG; rw [decide_eq_true x1, decide_eq_true x2]; rfl)
      · refine z_ald0 (n := 40) (by decide +kernel) ?_
        refine z_getf (n := 43) (idx := 18) (by decide +kernel) fl_X1_18 (by assumption) (by rfl) ?_
        refine z_ild1 (n := 44) (by decide +kernel) ?_
        refine z_iald (n := 45) (by decide +kernel) (by assumption) (by first | assumption | exact ix_nI (by omega) (by omega)) ?_
        refine z_top g1 ?_
        refine z_iconst (n := 46) (q := 1) (v := 1) (by decide +kernel) ?_
        refine z_icmp_ne_f (n := 49) (off := 7) (tgt := 53) (by decide +kernel) (by rw [x1]; rfl) ?_
        refine z_iconst (n := 50) (q := 1) (v := 1) (by decide +kernel) ?_
        refine z_goto (n := 53) (off := 4) (tgt := 54) (by decide +kernel) ?_
        refine z_ild1 (n := 55) (by decide +kernel) ?_
        refine z_iconst (n := 56) (q := 2) (v := 2) (by decide +kernel) ?_
        refine z_irem (n := 57) (by decide +kernel) (by decide) ?_
        refine z_top r2 ?_
        refine z_if_ne_t (n := 60) (off := 7) (tgt := 64) (by decide +kernel) (fun z => x2 ((nI_ij (b := 0) (by omega) (by omega)).mp z)) ?_
        refine z_iconst (n := 65) (q := 0) (v := 0) (by decide +kernel) ?_
        refine z_icmp_ne_t (n := 68) (off := 7) (tgt := 72) (by decide +kernel) (by decide) ?_
        refine z_iconst (n := 73) (q := 0) (v := 0) (by decide +kernel) ?_
        refine z_ist7 (n := 75) (by decide +kernel) rfl ?_
        exact f75 b1 b2 false e1 e2 (by unfold upG; rw [decide_eq_true x1, decide_eq_false x2]; rfl)
    · by_cases x2 : c % 2 = 0
      · refine z_ald0 (n := 40) (by decide +kernel) ?_
        refine z_getf (n := 43) (idx := 18) (by decide +kernel) fl_X1_18 (by assumption) (by rfl) ?_
        refine z_ild1 (n := 44) (by decide +kernel) ?_
        refine z_iald (n := 45) (by decide +kernel) (by assumption) (by first | assumption | exact ix_nI (by omega) (by omega)) ?_
        refine z_top g1 ?_
        refine z_iconst (n := 46) (q := 1) (v := 1) (by decide +kernel) ?_
        refine z_icmp_ne_t (n := 49) (off := 7) (tgt := 53) (by decide +kernel) (fun z => x1 ((nI_ij (b := 1) (by omega) (by omega)).mp z)) ?_
        refine z_iconst (n := 54) (q := 0) (v := 0) (by decide +kernel) ?_
        refine z_ild1 (n := 55) (by decide +kernel) ?_
        refine z_iconst (n := 56) (q := 2) (v := 2) (by decide +kernel) ?_
        refine z_irem (n := 57) (by decide +kernel) (by decide) ?_
        refine z_top r2 ?_
        refine z_if_ne_f (n := 60) (off := 7) (tgt := 64) (by decide +kernel) (by rw [x2]; rfl) ?_
        refine z_iconst (n := 61) (q := 1) (v := 1) (by decide +kernel) ?_
        refine z_goto (n := 64) (off := 4) (tgt := 65) (by decide +kernel) ?_
        refine z_icmp_ne_t (n := 68) (off := 7) (tgt := 72) (by decide +kernel) (by decide) ?_
        refine z_iconst (n := 73) (q := 0) (v := 0) (by decide +kernel) ?_
        refine z_ist7 (n := 75) (by decide +kernel) rfl ?_
        exact f75 b1 b2 false e1 e2 (by unfold upG; rw [decide_eq_false x1, decide_eq_true x2]; rfl)
      · refine z_ald0 (n := 40) (by decide +kernel) ?_
        refine z_getf (n := 43) (idx := 18) (by decide +kernel) fl_X1_18 (by assumption) (by rfl) ?_
        refine z_ild1 (n := 44) (by decide +kernel) ?_
        refine z_iald (n := 45) (by decide +kernel) (by assumption) (by first | assumption | exact ix_nI (by omega) (by omega)) ?_
        refine z_top g1 ?_
        refine z_iconst (n := 46) (q := 1) (v := 1) (by decide +kernel) ?_
        refine z_icmp_ne_t (n := 49) (off := 7) (tgt := 53) (by decide +kernel) (fun z => x1 ((nI_ij (b := 1) (by omega) (by omega)).mp z)) ?_
        refine z_iconst (n := 54) (q := 0) (v := 0) (by decide +kernel) ?_
        refine z_ild1 (n := 55) (by decide +kernel) ?_
        refine z_iconst (n := 56) (q := 2) (v := 2) (by decide +kernel) ?_
        refine z_irem (n := 57) (by decide +kernel) (by decide) ?_
        refine z_top r2 ?_
        refine z_if_ne_t (n := 60) (off := 7) (tgt := 64) (by decide +kernel) (fun z => x2 ((nI_ij (b := 0) (by omega) (by omega)).mp z)) ?_
        refine z_iconst (n := 65) (q := 0) (v := 0) (by decide +kernel) ?_
        refine z_icmp_ne_f (n := 68) (off := 7) (tgt := 72) (by decide +kernel) (rfl) ?_
        refine z_iconst (n := 69) (q := 1) (v := 1) (by decide +kernel) ?_
        refine z_goto (n := 72) (off := 4) (tgt := 73) (by decide +kernel) ?_
        refine z_ist7 (n := 75) (by decide +kernel) rfl ?_
        exact f75 b1 b2 true e1 e2 (by unfold upG; rw [decide_eq_false x1, decide_eq_false x2]; rfl)
  refine ev_5_3 rfl rfl rfl rfl rfl (by decide +kernel) (by decide +kernel) ?_
  by_cases ci : o ∈ pre
  · have hi := List.idxOf_lt_length_of_mem ci
    by_cases cl : o < p
    · refine z_ald0 (n := 1) (by decide +kernel) ?_
      refine z_getf (n := 4) (idx := 15) (by decide +kernel) fl_X1_15 (by assumption) (by rfl) ?_
      refine z_ild3 (n := 5) (by decide +kernel) ?_
      refine z_iald (n := 6) (by decide +kernel) (by assumption) (by first | assumption | exact ix_nI (by omega) (by omega)) ?_
      refine z_top (q1 ci) ?_
      refine z_iconst (n := 7) (q := -1) (v := -1) (by decide +kernel) ?_
      refine z_icmp_eq_f (n := 10) (off := 7) (tgt := 14) (by decide +kernel) (fun z => absurd (z ▸ nI_pos' (n := pre.idxOf o) (by omega) : (0 : Int32) ≤ -1) (by decide)) ?_
      refine z_iconst (n := 11) (q := 1) (v := 1) (by decide +kernel) ?_
      refine z_goto (n := 14) (off := 4) (tgt := 15) (by decide +kernel) ?_
      refine z_ist5 (n := 17) (by decide +kernel) rfl ?_
      refine z_ild3 (n := 18) (by decide +kernel) ?_
      refine z_ild2 (n := 19) (by decide +kernel) ?_
      refine z_icmp_ge_f (n := 22) (off := 7) (tgt := 26) (by decide +kernel) (nI_ge cl (by omega)) ?_
      refine z_iconst (n := 23) (q := 1) (v := 1) (by decide +kernel) ?_
      refine z_goto (n := 26) (off := 4) (tgt := 27) (by decide +kernel) ?_
      refine z_ild5 (n := 29) (by decide +kernel) ?_
      refine z_icmp_ne_f (n := 32) (off := 7) (tgt := 36) (by decide +kernel) (rfl) ?_
      refine z_iconst (n := 33) (q := 1) (v := 1) (by decide +kernel) ?_
      refine z_goto (n := 36) (off := 4) (tgt := 37) (by decide +kernel) ?_
      refine z_ist6 (n := 39) (by decide +kernel) rfl ?_
      exact f39 true true (decide_eq_true ci) (by rw [decide_eq_true ci, decide_eq_true cl]; rfl)
    · refine z_ald0 (n := 1) (by decide +kernel) ?_
      refine z_getf (n := 4) (idx := 15) (by decide +kernel) fl_X1_15 (by assumption) (by rfl) ?_
      refine z_ild3 (n := 5) (by decide +kernel) ?_
      refine z_iald (n := 6) (by decide +kernel) (by assumption) (by first | assumption | exact ix_nI (by omega) (by omega)) ?_
      refine z_top (q1 ci) ?_
      refine z_iconst (n := 7) (q := -1) (v := -1) (by decide +kernel) ?_
      refine z_icmp_eq_f (n := 10) (off := 7) (tgt := 14) (by decide +kernel) (fun z => absurd (z ▸ nI_pos' (n := pre.idxOf o) (by omega) : (0 : Int32) ≤ -1) (by decide)) ?_
      refine z_iconst (n := 11) (q := 1) (v := 1) (by decide +kernel) ?_
      refine z_goto (n := 14) (off := 4) (tgt := 15) (by decide +kernel) ?_
      refine z_ist5 (n := 17) (by decide +kernel) rfl ?_
      refine z_ild3 (n := 18) (by decide +kernel) ?_
      refine z_ild2 (n := 19) (by decide +kernel) ?_
      refine z_icmp_ge_t (n := 22) (off := 7) (tgt := 26) (by decide +kernel) (nI_le (by omega) (by omega)) ?_
      refine z_iconst (n := 27) (q := 0) (v := 0) (by decide +kernel) ?_
      refine z_ild5 (n := 29) (by decide +kernel) ?_
      refine z_icmp_ne_t (n := 32) (off := 7) (tgt := 36) (by decide +kernel) (by decide) ?_
      refine z_iconst (n := 37) (q := 0) (v := 0) (by decide +kernel) ?_
      refine z_ist6 (n := 39) (by decide +kernel) rfl ?_
      exact f39 true false (decide_eq_true ci) (by rw [decide_eq_true ci, decide_eq_false cl]; rfl)
  · by_cases cl : o < p
    · refine z_ald0 (n := 1) (by decide +kernel) ?_
      refine z_getf (n := 4) (idx := 15) (by decide +kernel) fl_X1_15 (by assumption) (by rfl) ?_
      refine z_ild3 (n := 5) (by decide +kernel) ?_
      refine z_iald (n := 6) (by decide +kernel) (by assumption) (by first | assumption | exact ix_nI (by omega) (by omega)) ?_
      refine z_top (q2 ci) ?_
      refine z_iconst (n := 7) (q := -1) (v := -1) (by decide +kernel) ?_
      refine z_icmp_eq_t (n := 10) (off := 7) (tgt := 14) (by decide +kernel) (rfl) ?_
      refine z_iconst (n := 15) (q := 0) (v := 0) (by decide +kernel) ?_
      refine z_ist5 (n := 17) (by decide +kernel) rfl ?_
      refine z_ild3 (n := 18) (by decide +kernel) ?_
      refine z_ild2 (n := 19) (by decide +kernel) ?_
      refine z_icmp_ge_f (n := 22) (off := 7) (tgt := 26) (by decide +kernel) (nI_ge cl (by omega)) ?_
      refine z_iconst (n := 23) (q := 1) (v := 1) (by decide +kernel) ?_
      refine z_goto (n := 26) (off := 4) (tgt := 27) (by decide +kernel) ?_
      refine z_ild5 (n := 29) (by decide +kernel) ?_
      refine z_icmp_ne_t (n := 32) (off := 7) (tgt := 36) (by decide +kernel) (by decide) ?_
      refine z_iconst (n := 37) (q := 0) (v := 0) (by decide +kernel) ?_
      refine z_ist6 (n := 39) (by decide +kernel) rfl ?_
      exact f39 false false (decide_eq_false ci) (by rw [decide_eq_false ci, decide_eq_true cl]; rfl)
    · refine z_ald0 (n := 1) (by decide +kernel) ?_
      refine z_getf (n := 4) (idx := 15) (by decide +kernel) fl_X1_15 (by assumption) (by rfl) ?_
      refine z_ild3 (n := 5) (by decide +kernel) ?_
      refine z_iald (n := 6) (by decide +kernel) (by assumption) (by first | assumption | exact ix_nI (by omega) (by omega)) ?_
      refine z_top (q2 ci) ?_
      refine z_iconst (n := 7) (q := -1) (v := -1) (by decide +kernel) ?_
      refine z_icmp_eq_t (n := 10) (off := 7) (tgt := 14) (by decide +kernel) (rfl) ?_
      refine z_iconst (n := 15) (q := 0) (v := 0) (by decide +kernel) ?_
      refine z_ist5 (n := 17) (by decide +kernel) rfl ?_
      refine z_ild3 (n := 18) (by decide +kernel) ?_
      refine z_ild2 (n := 19) (by decide +kernel) ?_
      refine z_icmp_ge_t (n := 22) (off := 7) (tgt := 26) (by decide +kernel) (nI_le (by omega) (by omega)) ?_
      refine z_iconst (n := 27) (q := 0) (v := 0) (by decide +kernel) ?_
      refine z_ild5 (n := 29) (by decide +kernel) ?_
      refine z_icmp_ne_f (n := 32) (off := 7) (tgt := 36) (by decide +kernel) (rfl) ?_
      refine z_iconst (n := 33) (q := 1) (v := 1) (by decide +kernel) ?_
      refine z_goto (n := 36) (off := 4) (tgt := 37) (by decide +kernel) ?_
      refine z_ist6 (n := 39) (by decide +kernel) rfl ?_
      exact f39 false true (decide_eq_false ci) (by rw [decide_eq_false ci, decide_eq_false cl]; rfl)
theorem k_canLie {G : mG} {h : mH} {A n : Nat} {wt fd : Int32} {pI lO sg : Nat → Int32} {pre : List Nat} {s : Nat → Nat} {p : Nat} (d : Nat) (hd : 2 ≤ d) (hp : p < n) (hn : n ≤ 8) (hsg : ∀ c, c + 1 < n → sg c = nI (s c) ∧ s c < 3) (H : pnl h A n wt fd pI lO sg) (L : pil n pre pI lO) : EV G m_X1_canLie d 0 0 [.ref A, .int (nI p), .int (nI pre.length)] h (RE (some (.int (bI (okX n s pre p)))) h) := by
  have H' := H
  obtain ⟨h0, h1, h2, h3⟩ := H
  have f19 : (decide (p = 0) || ftX n s pre (p - 1) p (p - 1)) = true → Z G m_X1_canLie d 0 0 0 0 19 [some (.ref A), some (.int (nI p)), some (.int (nI pre.length))] [] h (RE (some (.int (bI (okX n s pre p)))) h) := by
    intro z
    have eo : okX n s pre p = (decide (p = n - 1) || ftX n s pre p p (p + 1)) := by unfold okX; rw [z, Bool.true_and]
    rw [eo]
    obtain ⟨n', rfl⟩ : ∃ n', n = n' + 1 := ⟨n - 1, by omega⟩
    by_cases c : p = n'
    · refine z_ild1 (n := 20) (by decide +kernel) ?_
      refine z_ald0 (n := 21) (by decide +kernel) ?_
      refine z_getf (n := 24) (idx := 21) (by decide +kernel) fl_X1_21 (by assumption) (by rfl) ?_
      refine z_iconst (n := 25) (q := 1) (v := 1) (by decide +kernel) ?_
      refine z_isub (n := 26) (by decide +kernel) ?_
      refine z_top (nI_pred n') ?_
      refine z_icmp_eq_t (n := 29) (off := 16) (tgt := 42) (by decide +kernel) (by rw [c]) ?_
      refine z_iconst (n := 43) (q := 1) (v := 1) (by decide +kernel) ?_
      refine z_goto (n := 46) (off := 4) (tgt := 47) (by decide +kernel) ?_
      first | refine z_zr1 (by decide +kernel) rfl (Nat.le_refl _) ?_ | refine z_zr0 (by decide +kernel) rfl (Nat.le_refl _) ?_ | refine z_zrb (by decide +kernel) rfl (Nat.le_refl _) ?_
      refine ⟨?_, rfl⟩; rw [decide_eq_true (show p = n' + 1 - 1 by omega)]; rfl
    · refine z_ild1 (n := 20) (by decide +kernel) ?_
      refine z_ald0 (n := 21) (by decide +kernel) ?_
      refine z_getf (n := 24) (idx := 21) (by decide +kernel) fl_X1_21 (by assumption) (by rfl) ?_
      refine z_iconst (n := 25) (q := 1) (v := 1) (by decide +kernel) ?_
      refine z_isub (n := 26) (by decide +kernel) ?_
      refine z_top (nI_pred n') ?_
      refine z_icmp_eq_f (n := 29) (off := 16) (tgt := 42) (by decide +kernel) (fun z => c ((nI_ij (by omega) (by omega)).mp z)) ?_
      refine z_ald0 (n := 30) (by decide +kernel) ?_
      refine z_ild1 (n := 31) (by decide +kernel) ?_
      refine z_ild1 (n := 32) (by decide +kernel) ?_
      refine z_ild1 (n := 33) (by decide +kernel) ?_
      refine z_iconst (n := 34) (q := 1) (v := 1) (by decide +kernel) ?_
      refine z_iadd (n := 35) (by decide +kernel) ?_
      refine z_top (nI_1 _) ?_
      refine z_ild2 (n := 36) (by decide +kernel) ?_
      refine z_v4 (n := 39) (idx := 39) (by decide +kernel) ml_X1_39 (by assumption) rfl (Nat.le_of_ble_eq_true rfl) (by omega) ⟨Nat.le_refl _, Nat.le_refl _⟩ (k_fits (s := s) (c := p) (p := p) (o := p + 1) (pre := pre) 1 (by omega) (by omega) (by omega) (by omega) hn hsg H' L) ?_
      refine z_ifb_eq (n := 42) (off := 7) (tgt := 46) (by decide +kernel) (fun c39 => ?_) (fun c39 => ?_)
      · refine z_iconst (n := 47) (q := 0) (v := 0) (by decide +kernel) ?_
        first | refine z_zr1 (by decide +kernel) rfl (Nat.le_refl _) ?_ | refine z_zr0 (by decide +kernel) rfl (Nat.le_refl _) ?_ | refine z_zrb (by decide +kernel) rfl (Nat.le_refl _) ?_
        refine ⟨?_, rfl⟩; rw [decide_eq_false (show ¬ p = n' + 1 - 1 by omega), Bool.false_or, c39]
      · refine z_iconst (n := 43) (q := 1) (v := 1) (by decide +kernel) ?_
        refine z_goto (n := 46) (off := 4) (tgt := 47) (by decide +kernel) ?_
        first | refine z_zr1 (by decide +kernel) rfl (Nat.le_refl _) ?_ | refine z_zr0 (by decide +kernel) rfl (Nat.le_refl _) ?_ | refine z_zrb (by decide +kernel) rfl (Nat.le_refl _) ?_
        refine ⟨?_, rfl⟩; rw [decide_eq_false (show ¬ p = n' + 1 - 1 by omega), Bool.false_or, c39]
  refine ev_3_0 rfl rfl rfl (by decide +kernel) (by decide +kernel) ?_
  cases p with
  | zero =>
    refine z_ild1 (n := 1) (by decide +kernel) ?_
    refine z_if_eq_t (n := 4) (off := 18) (tgt := 19) (by decide +kernel) (rfl) ?_
    exact f19 rfl
  | succ p =>
    refine z_ild1 (n := 1) (by decide +kernel) ?_
    refine z_if_eq_f (n := 4) (off := 18) (tgt := 19) (by decide +kernel) (nI_ne0 (by omega) (by omega)) ?_
    refine z_ald0 (n := 5) (by decide +kernel) ?_
    refine z_ild1 (n := 6) (by decide +kernel) ?_
    refine z_iconst (n := 7) (q := 1) (v := 1) (by decide +kernel) ?_
    refine z_isub (n := 8) (by decide +kernel) ?_
    refine z_top (nI_pred p) ?_
    refine z_ild1 (n := 9) (by decide +kernel) ?_
    refine z_ild1 (n := 10) (by decide +kernel) ?_
    refine z_iconst (n := 11) (q := 1) (v := 1) (by decide +kernel) ?_
    refine z_isub (n := 12) (by decide +kernel) ?_
    refine z_top (nI_pred p) ?_
    refine z_ild2 (n := 13) (by decide +kernel) ?_
    refine z_v4 (n := 16) (idx := 39) (by decide +kernel) ml_X1_39 (by assumption) rfl (Nat.le_of_ble_eq_true rfl) (by omega) ⟨Nat.le_refl _, Nat.le_refl _⟩ (k_fits (s := s) (c := p) (p := p + 1) (o := p) (pre := pre) 1 (by omega) (by omega) (by omega) (by omega) hn hsg H' L) ?_
    refine z_ifb_eq (n := 19) (off := 30) (tgt := 46) (by decide +kernel) (fun c16 => ?_) (fun c16 => ?_)
    · refine z_iconst (n := 47) (q := 0) (v := 0) (by decide +kernel) ?_
      first | refine z_zr1 (by decide +kernel) rfl (Nat.le_refl _) ?_ | refine z_zr0 (by decide +kernel) rfl (Nat.le_refl _) ?_ | refine z_zrb (by decide +kernel) rfl (Nat.le_refl _) ?_
      refine ⟨?_, rfl⟩; unfold okX; rw [Nat.add_sub_cancel, c16, decide_eq_false (by omega)]; rfl
    · exact f19 (by rw [Nat.add_sub_cancel, c16, Bool.or_true])
