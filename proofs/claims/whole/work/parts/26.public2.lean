/-! CreasedPaper: what is asked of the strip, tape, text, sheets, seen; image and back -/
theorem win1_nat {x : Int32} {m : Nat} (hm : m < 2 ^ 31) (h : win x 1 (nI m) = true) : ∃ u, u + 1 ≤ m ∧ x = nI (u + 1) := by
  simp only [win, Bool.and_eq_true, Bool.not_eq_true', decide_eq_false_iff_not] at h
  obtain ⟨j, hj, rfl⟩ := nI_of (x := x) (fun q => h.1 (Int32.lt_of_lt_of_le q (by decide)))
  have h1 : ¬ j < 1 := fun q => h.1 (nI_lt (b := 1) q (by omega))
  refine ⟨j - 1, ?_, by rw [show j - 1 + 1 = j by omega]⟩
  rcases Nat.lt_or_ge m j with q | q
  · exact absurd (nI_lt q hj) h.2
  · omega
theorem k_layers {G : mG} {h : mH} {C n : Nat} {p po : pS} {e eo : eS} {y yo : yS} {ln : Nat} {bt : Nat → Int32} {wr : Bool} {fk fp sp : Int32} {x : Int32} (d : Nat) (hd : 1 ≤ d) (hn : n + 1 < 2 ^ 31) (hc : clsP h C n p po e eo y yo ln bt wr fk fp sp) : EV G m_X10_layers d 0 0 [.ref C, .int x] h (RE (some (.int (nI (cnt (p.2.1 0) x (n + 1))))) h) := by
  obtain ⟨hC, ⟨tl, ht, hB, hS, hP, hL, hU, hT, hCr, g1, g2, g3, g4, g5, g6⟩, -⟩ := hc
  refine ev_2_0 rfl rfl (by decide +kernel) (by decide +kernel) ?_
  refine z_ald0 (n := 1) (by decide +kernel) ?_
  refine z_getf (n := 4) (idx := 23) (by decide +kernel) fl_X10_23 (by assumption) (by rfl) ?_
  refine z_getf (n := 7) (idx := 117) (by decide +kernel) fl_X10_117 (by assumption) (by rfl) ?_
  refine z_ild1 (n := 8) (by decide +kernel) ?_
  refine z_v1 (n := 11) (idx := 137) (by decide +kernel) ml_X10_137 (by assumption) rfl (Nat.le_of_ble_eq_true rfl) (by omega) ⟨Nat.le_refl _, Nat.le_refl _⟩ (k_countIn 0 hS hP (Nat.le_refl _) hn) ?_
  refine z_iret (by decide +kernel) rfl (Nat.le_refl _) ?_
  exact ⟨rfl, rfl⟩
theorem k_at {G : mG} {h : mH} {C n : Nat} {p po : pS} {e eo : eS} {y yo : yS} {ln : Nat} {bt : Nat → Int32} {wr : Bool} {fk fp sp : Int32} {x z : Int32} (d : Nat) (hd : 1 ≤ d) (hn : n + 1 < 2 ^ 31) (hc : clsP h C n p po e eo y yo ln bt wr fk fp sp) : EV G m_X10_at d 0 0 [.ref C, .int x, .int z] h (RE (some (.int (if fsT (fun u => decide (p.2.1 0 u = x) && decide (p.2.1 1 u = z)) (n + 1) 0 < n + 1 then nI (fsT (fun u => decide (p.2.1 0 u = x) && decide (p.2.1 1 u = z)) (n + 1) 0) else -1))) h) := by
  obtain ⟨hC, ⟨tl, ht, hB, hS, hP, hL, hU, hT, hCr, g1, g2, g3, g4, g5, g6⟩, -⟩ := hc
  refine ev_3_0 rfl rfl rfl (by decide +kernel) (by decide +kernel) ?_
  refine z_ald0 (n := 1) (by decide +kernel) ?_
  refine z_getf (n := 4) (idx := 23) (by decide +kernel) fl_X10_23 (by assumption) (by rfl) ?_
  refine z_getf (n := 7) (idx := 117) (by decide +kernel) fl_X10_117 (by assumption) (by rfl) ?_
  refine z_ild1 (n := 8) (by decide +kernel) ?_
  refine z_ild2 (n := 9) (by decide +kernel) ?_
  refine z_v2 (n := 12) (idx := 141) (by decide +kernel) ml_X10_141 (by assumption) rfl (Nat.le_of_ble_eq_true rfl) (by omega) ⟨Nat.le_refl _, Nat.le_refl _⟩ (k_cellAt 0 hS hP hL (Nat.le_refl _) hn) ?_
  refine z_iret (by decide +kernel) rfl (Nat.le_refl _) ?_
  exact ⟨rfl, rfl⟩
def celF (n : Nat) (p : pS) (x w : Int32) : Int32 := if win x 0 (nI n) = true then (if w = 0 then p.2.1 0 x.toNatClampNeg else if w = 1 then p.2.1 1 x.toNatClampNeg else if w = 2 then bI (p.2.2 0 x.toNatClampNeg) else -1000) else -1000
theorem k_cell {G : mG} {h : mH} {C n : Nat} {p po : pS} {e eo : eS} {y yo : yS} {ln : Nat} {bt : Nat → Int32} {wr : Bool} {fk fp sp : Int32} {x w : Int32} (d : Nat) (hd : 1 ≤ d) (hn : n + 1 < 2 ^ 31) (hc : clsP h C n p po e eo y yo ln bt wr fk fp sp) : EV G m_X10_cell d 0 0 [.ref C, .int x, .int w] h (RE (some (.int (celF n p x w))) h) := by
  obtain ⟨hC, ⟨tl, ht, hB, hS, hP, hL, hU, hT, hCr, g1, g2, g3, g4, g5, g6⟩, -⟩ := hc
  have fin : win x 0 (nI n) = true → Z G m_X10_cell d 0 0 0 0 26 [some (.ref C), some (.int x), some (.int w), some (.ref (C + 1 + 1))] [] h (RE (some (.int (celF n p x w))) h) := by
    intro hw
    have e9 : celF n p x w = (if w = 0 then p.2.1 0 x.toNatClampNeg else if w = 1 then p.2.1 1 x.toNatClampNeg else if w = 2 then bI (p.2.2 0 x.toNatClampNeg) else -1000) := if_pos hw
    rw [e9]
    obtain ⟨u, hu9, rfl⟩ := win_nat (by omega) hw
    rw [nI_clamp (by omega)]
    refine z_ild2 (n := 27) (by decide +kernel) ?_
    by_cases s0 : w = 0
    · refine z_tswI (v := 0) (off := 25) (dflt := 54) (lo := 0) (hi := 2) (offs := #[25, 32, 39]) (len := 25) (tgt := 52) s0 (by decide +kernel) ?_
      refine z_ald3 (n := 53) (by decide +kernel) ?_
      refine z_getf (n := 56) (idx := 126) (by decide +kernel) fl_X10_126 (by assumption) (by rfl) ?_
      refine z_ild1 (n := 57) (by decide +kernel) ?_
      refine z_iald (n := 58) (by decide +kernel) (by assumption) (by first | assumption | exact ix_nI (by omega) (by omega)) ?_
      refine z_iret (by decide +kernel) rfl (Nat.le_refl _) ?_
      exact ⟨by simp only [eq_true s0, if_true, if_false]; try rfl, rfl⟩
    by_cases s1 : w = 1
    · refine z_tswI (v := 1) (off := 32) (dflt := 54) (lo := 0) (hi := 2) (offs := #[25, 32, 39]) (len := 25) (tgt := 59) s1 (by decide +kernel) ?_
      refine z_ald3 (n := 60) (by decide +kernel) ?_
      refine z_getf (n := 63) (idx := 130) (by decide +kernel) fl_X10_130 (by assumption) (by rfl) ?_
      refine z_ild1 (n := 64) (by decide +kernel) ?_
      refine z_iald (n := 65) (by decide +kernel) (by assumption) (by first | assumption | exact ix_nI (by omega) (by omega)) ?_
      refine z_iret (by decide +kernel) rfl (Nat.le_refl _) ?_
      exact ⟨by simp only [eq_false s0, eq_true s1, if_true, if_false]; try rfl, rfl⟩
    by_cases s2 : w = 2
    · refine z_tswI (v := 2) (off := 39) (dflt := 54) (lo := 0) (hi := 2) (offs := #[25, 32, 39]) (len := 25) (tgt := 66) s2 (by decide +kernel) ?_
      refine z_ald3 (n := 67) (by decide +kernel) ?_
      refine z_getf (n := 70) (idx := 133) (by decide +kernel) fl_X10_133 (by assumption) (by rfl) ?_
      refine z_ild1 (n := 71) (by decide +kernel) ?_
      refine z_zald (n := 72) (by decide +kernel) (by assumption) (by first | assumption | exact ix_nI (by omega) (by omega)) ?_
      refine z_ifb_eq (n := 75) (off := 7) (tgt := 79) (by decide +kernel) (fun c72 => ?_) (fun c72 => ?_)
      · refine z_iconst (n := 80) (q := 0) (v := 0) (by decide +kernel) ?_
        refine z_iret (by decide +kernel) rfl (Nat.le_refl _) ?_
        exact ⟨by simp only [eq_false s0, eq_false s1, eq_true s2, c72, if_true, if_false]; try rfl, rfl⟩
      · refine z_iconst (n := 76) (q := 1) (v := 1) (by decide +kernel) ?_
        refine z_goto (n := 79) (off := 4) (tgt := 80) (by decide +kernel) ?_
        refine z_iret (by decide +kernel) rfl (Nat.le_refl _) ?_
        exact ⟨by simp only [eq_false s0, eq_false s1, eq_true s2, c72, if_true, if_false]; try rfl, rfl⟩
    refine z_tswO (dflt := 54) (lo := 0) (hi := 2) (offs := #[25, 32, 39]) (len := 25) (tgt := 81) (tsw_out2 s0 s1 s2) (by decide +kernel) ?_
    refine z_sipush (n := 84) (q := -1000) (v := -1000) (by decide +kernel) ?_
    refine z_iret (by decide +kernel) rfl (Nat.le_refl _) ?_
    exact ⟨by simp only [eq_false s0, eq_false s1, eq_false s2, if_true, if_false]; try rfl, rfl⟩
  refine ev_3_1 rfl rfl rfl (by decide +kernel) (by decide +kernel) ?_
  refine z_ald0 (n := 1) (by decide +kernel) ?_
  refine z_getf (n := 4) (idx := 23) (by decide +kernel) fl_X10_23 (by assumption) (by rfl) ?_
  refine z_getf (n := 7) (idx := 117) (by decide +kernel) fl_X10_117 (by assumption) (by rfl) ?_
  refine z_ast3 (n := 8) (by decide +kernel) rfl ?_
  refine z_ild1 (n := 9) (by decide +kernel) ?_
  refine z_iconst (n := 10) (q := 0) (v := 0) (by decide +kernel) ?_
  refine z_ald3 (n := 11) (by decide +kernel) ?_
  refine z_getf (n := 14) (idx := 121) (by decide +kernel) fl_X10_121 (by assumption) (by rfl) ?_
  refine z_iconst (n := 15) (q := 1) (v := 1) (by decide +kernel) ?_
  refine z_isub (n := 16) (by decide +kernel) ?_
  refine z_top (nI_pred n) ?_
  refine z_s3 (n := 19) (idx := 85) (by decide +kernel) ml_X10_85 (Nat.le_of_ble_eq_true rfl) (by omega) ⟨Nat.le_refl _, Nat.le_refl _⟩ (k_isWithin 0) ?_
  refine z_ifb_ne (n := 22) (off := 7) (tgt := 26) (by decide +kernel) (fun c19 => ?_) (fun c19 => ?_)
  · exact fin c19
  · refine z_sipush (n := 25) (q := -1000) (v := -1000) (by decide +kernel) ?_
    refine z_iret (by decide +kernel) rfl (Nat.le_refl _) ?_
    exact ⟨by simp only [celF, c19]; rfl, rfl⟩
def creF (n : Nat) (p : pS) (x w : Int32) : Int32 := if win x 1 (nI n) = true then (if w = 0 then p.2.1 2 x.toNatClampNeg else if w = 1 then p.2.1 3 x.toNatClampNeg else if w = 2 then p.2.1 4 x.toNatClampNeg else if w = 3 then p.2.1 5 x.toNatClampNeg else if w = 4 then p.2.1 6 x.toNatClampNeg else if w = 5 then bI (p.2.2 1 x.toNatClampNeg) else if w = 6 then bI (decide (p.2.1 0 (x.toNatClampNeg - 1) = p.2.1 0 x.toNatClampNeg)) else -1) else -1
theorem k_crease {G : mG} {h : mH} {C n : Nat} {p po : pS} {e eo : eS} {y yo : yS} {ln : Nat} {bt : Nat → Int32} {wr : Bool} {fk fp sp : Int32} {x w : Int32} (d : Nat) (hd : 1 ≤ d) (hn : n + 1 < 2 ^ 31) (hc : clsP h C n p po e eo y yo ln bt wr fk fp sp) : EV G m_X10_crease d 0 0 [.ref C, .int x, .int w] h (RE (some (.int (creF n p x w))) h) := by
  obtain ⟨hC, ⟨tl, ht, hB, hS, hP, hL, hU, hT, hCr, g1, g2, g3, g4, g5, g6⟩, -⟩ := hc
  have fin : win x 1 (nI n) = true → Z G m_X10_crease d 0 0 0 0 22 [some (.ref C), some (.int x), some (.int w), none] [] h (RE (some (.int (creF n p x w))) h) := by
    intro hw
    have e9 : creF n p x w = _ := if_pos hw
    rw [e9]
    obtain ⟨u, hu9, rfl⟩ := win1_nat (by omega) hw
    rw [nI_clamp (by omega)]
    refine z_ald0 (n := 23) (by decide +kernel) ?_
    refine z_getf (n := 26) (idx := 23) (by decide +kernel) fl_X10_23 (by assumption) (by rfl) ?_
    refine z_getf (n := 29) (idx := 144) (by decide +kernel) fl_X10_144 (by assumption) (by rfl) ?_
    refine z_ast3 (n := 30) (by decide +kernel) rfl ?_
    refine z_ild2 (n := 31) (by decide +kernel) ?_
    by_cases s0 : w = 0
    · refine z_tswI (v := 0) (off := 41) (dflt := 111) (lo := 0) (hi := 6) (offs := #[41, 48, 55, 62, 69, 76, 91]) (len := 41) (tgt := 72) s0 (by decide +kernel) ?_
      refine z_ald3 (n := 73) (by decide +kernel) ?_
      refine z_getf (n := 76) (idx := 148) (by decide +kernel) fl_X10_148 (by assumption) (by rfl) ?_
      refine z_ild1 (n := 77) (by decide +kernel) ?_
      refine z_iald (n := 78) (by decide +kernel) (by assumption) (by first | assumption | exact ix_nI (by omega) (by omega)) ?_
      refine z_iret (by decide +kernel) rfl (Nat.le_refl _) ?_
      exact ⟨by simp only [eq_true s0, if_true, if_false, Nat.add_sub_cancel]; try rfl, rfl⟩
    by_cases s1 : w = 1
    · refine z_tswI (v := 1) (off := 48) (dflt := 111) (lo := 0) (hi := 6) (offs := #[41, 48, 55, 62, 69, 76, 91]) (len := 41) (tgt := 79) s1 (by decide +kernel) ?_
      refine z_ald3 (n := 80) (by decide +kernel) ?_
      refine z_getf (n := 83) (idx := 153) (by decide +kernel) fl_X10_153 (by assumption) (by rfl) ?_
      refine z_ild1 (n := 84) (by decide +kernel) ?_
      refine z_iald (n := 85) (by decide +kernel) (by assumption) (by first | assumption | exact ix_nI (by omega) (by omega)) ?_
      refine z_iret (by decide +kernel) rfl (Nat.le_refl _) ?_
      exact ⟨by simp only [eq_false s0, eq_true s1, if_true, if_false, Nat.add_sub_cancel]; try rfl, rfl⟩
    by_cases s2 : w = 2
    · refine z_tswI (v := 2) (off := 55) (dflt := 111) (lo := 0) (hi := 6) (offs := #[41, 48, 55, 62, 69, 76, 91]) (len := 41) (tgt := 86) s2 (by decide +kernel) ?_
      refine z_ald3 (n := 87) (by decide +kernel) ?_
      refine z_getf (n := 90) (idx := 156) (by decide +kernel) fl_X10_156 (by assumption) (by rfl) ?_
      refine z_ild1 (n := 91) (by decide +kernel) ?_
      refine z_iald (n := 92) (by decide +kernel) (by assumption) (by first | assumption | exact ix_nI (by omega) (by omega)) ?_
      refine z_iret (by decide +kernel) rfl (Nat.le_refl _) ?_
      exact ⟨by simp only [eq_false s0, eq_false s1, eq_true s2, if_true, if_false, Nat.add_sub_cancel]; try rfl, rfl⟩
    by_cases s3 : w = 3
    · refine z_tswI (v := 3) (off := 62) (dflt := 111) (lo := 0) (hi := 6) (offs := #[41, 48, 55, 62, 69, 76, 91]) (len := 41) (tgt := 93) s3 (by decide +kernel) ?_
      refine z_ald3 (n := 94) (by decide +kernel) ?_
      refine z_getf (n := 97) (idx := 159) (by decide +kernel) fl_X10_159 (by assumption) (by rfl) ?_
      refine z_ild1 (n := 98) (by decide +kernel) ?_
      refine z_iald (n := 99) (by decide +kernel) (by assumption) (by first | assumption | exact ix_nI (by omega) (by omega)) ?_
      refine z_iret (by decide +kernel) rfl (Nat.le_refl _) ?_
      exact ⟨by simp only [eq_false s0, eq_false s1, eq_false s2, eq_true s3, if_true, if_false, Nat.add_sub_cancel]; try rfl, rfl⟩
    by_cases s4 : w = 4
    · refine z_tswI (v := 4) (off := 69) (dflt := 111) (lo := 0) (hi := 6) (offs := #[41, 48, 55, 62, 69, 76, 91]) (len := 41) (tgt := 100) s4 (by decide +kernel) ?_
      refine z_ald3 (n := 101) (by decide +kernel) ?_
      refine z_getf (n := 104) (idx := 162) (by decide +kernel) fl_X10_162 (by assumption) (by rfl) ?_
      refine z_ild1 (n := 105) (by decide +kernel) ?_
      refine z_iald (n := 106) (by decide +kernel) (by assumption) (by first | assumption | exact ix_nI (by omega) (by omega)) ?_
      refine z_iret (by decide +kernel) rfl (Nat.le_refl _) ?_
      exact ⟨by simp only [eq_false s0, eq_false s1, eq_false s2, eq_false s3, eq_true s4, if_true, if_false, Nat.add_sub_cancel]; try rfl, rfl⟩
    by_cases s5 : w = 5
    · refine z_tswI (v := 5) (off := 76) (dflt := 111) (lo := 0) (hi := 6) (offs := #[41, 48, 55, 62, 69, 76, 91]) (len := 41) (tgt := 107) s5 (by decide +kernel) ?_
      refine z_ald3 (n := 108) (by decide +kernel) ?_
      refine z_getf (n := 111) (idx := 165) (by decide +kernel) fl_X10_165 (by assumption) (by rfl) ?_
      refine z_ild1 (n := 112) (by decide +kernel) ?_
      refine z_zald (n := 113) (by decide +kernel) (by assumption) (by first | assumption | exact ix_nI (by omega) (by omega)) ?_
      refine z_ifb_eq (n := 116) (off := 7) (tgt := 120) (by decide +kernel) (fun c113 => ?_) (fun c113 => ?_)
      · refine z_iconst (n := 121) (q := 0) (v := 0) (by decide +kernel) ?_
        refine z_iret (by decide +kernel) rfl (Nat.le_refl _) ?_
        exact ⟨by simp only [eq_false s0, eq_false s1, eq_false s2, eq_false s3, eq_false s4, eq_true s5, c113, if_true, if_false, Nat.add_sub_cancel]; try rfl, rfl⟩
      · refine z_iconst (n := 117) (q := 1) (v := 1) (by decide +kernel) ?_
        refine z_goto (n := 120) (off := 4) (tgt := 121) (by decide +kernel) ?_
        refine z_iret (by decide +kernel) rfl (Nat.le_refl _) ?_
        exact ⟨by simp only [eq_false s0, eq_false s1, eq_false s2, eq_false s3, eq_false s4, eq_true s5, c113, if_true, if_false, Nat.add_sub_cancel]; try rfl, rfl⟩
    by_cases s6 : w = 6
    · refine z_tswI (v := 6) (off := 91) (dflt := 111) (lo := 0) (hi := 6) (offs := #[41, 48, 55, 62, 69, 76, 91]) (len := 41) (tgt := 122) s6 (by decide +kernel) ?_
      refine z_ald0 (n := 123) (by decide +kernel) ?_
      refine z_getf (n := 126) (idx := 23) (by decide +kernel) fl_X10_23 (by assumption) (by rfl) ?_
      refine z_getf (n := 129) (idx := 117) (by decide +kernel) fl_X10_117 (by assumption) (by rfl) ?_
      refine z_ild1 (n := 130) (by decide +kernel) ?_
      refine z_v1 (n := 133) (idx := 168) (by decide +kernel) ml_X10_168 (by assumption) rfl (Nat.le_of_ble_eq_true rfl) (by omega) ⟨Nat.le_refl _, Nat.le_refl _⟩ (k_isFolded 0 hS hP (by omega) hn) ?_
      refine z_ifb_eq (n := 136) (off := 7) (tgt := 140) (by decide +kernel) (fun c133 => ?_) (fun c133 => ?_)
      · refine z_iconst (n := 141) (q := 0) (v := 0) (by decide +kernel) ?_
        refine z_iret (by decide +kernel) rfl (Nat.le_refl _) ?_
        exact ⟨by simp only [eq_false s0, eq_false s1, eq_false s2, eq_false s3, eq_false s4, eq_false s5, eq_true s6, c133, if_true, if_false, Nat.add_sub_cancel]; try rfl, rfl⟩
      · refine z_iconst (n := 137) (q := 1) (v := 1) (by decide +kernel) ?_
        refine z_goto (n := 140) (off := 4) (tgt := 141) (by decide +kernel) ?_
        refine z_iret (by decide +kernel) rfl (Nat.le_refl _) ?_
        exact ⟨by simp only [eq_false s0, eq_false s1, eq_false s2, eq_false s3, eq_false s4, eq_false s5, eq_true s6, c133, if_true, if_false, Nat.add_sub_cancel]; try rfl, rfl⟩
    refine z_tswO (dflt := 111) (lo := 0) (hi := 6) (offs := #[41, 48, 55, 62, 69, 76, 91]) (len := 41) (tgt := 142) (tsw_out6 s0 s1 s2 s3 s4 s5 s6) (by decide +kernel) ?_
    refine z_iconst (n := 143) (q := -1) (v := -1) (by decide +kernel) ?_
    refine z_iret (by decide +kernel) rfl (Nat.le_refl _) ?_
    exact ⟨by simp only [eq_false s0, eq_false s1, eq_false s2, eq_false s3, eq_false s4, eq_false s5, eq_false s6, if_true, if_false, Nat.add_sub_cancel]; try rfl, rfl⟩
  refine ev_3_1 rfl rfl rfl (by decide +kernel) (by decide +kernel) ?_
  refine z_ild1 (n := 1) (by decide +kernel) ?_
  refine z_iconst (n := 2) (q := 1) (v := 1) (by decide +kernel) ?_
  refine z_ald0 (n := 3) (by decide +kernel) ?_
  refine z_getf (n := 6) (idx := 23) (by decide +kernel) fl_X10_23 (by assumption) (by rfl) ?_
  refine z_getf (n := 9) (idx := 117) (by decide +kernel) fl_X10_117 (by assumption) (by rfl) ?_
  refine z_getf (n := 12) (idx := 121) (by decide +kernel) fl_X10_121 (by assumption) (by rfl) ?_
  refine z_iconst (n := 13) (q := 1) (v := 1) (by decide +kernel) ?_
  refine z_isub (n := 14) (by decide +kernel) ?_
  refine z_top (nI_pred n) ?_
  refine z_s3 (n := 17) (idx := 85) (by decide +kernel) ml_X10_85 (Nat.le_of_ble_eq_true rfl) (by omega) ⟨Nat.le_refl _, Nat.le_refl _⟩ (k_isWithin 0) ?_
  refine z_ifb_ne (n := 20) (off := 5) (tgt := 22) (by decide +kernel) (fun c17 => ?_) (fun c17 => ?_)
  · exact fin c17
  · refine z_iconst (n := 21) (q := -1) (v := -1) (by decide +kernel) ?_
    refine z_iret (by decide +kernel) rfl (Nat.le_refl _) ?_
    exact ⟨by simp only [creF, c17]; rfl, rfl⟩
theorem k_end {G : mG} {h : mH} {C n : Nat} {p po : pS} {e eo : eS} {y yo : yS} {ln : Nat} {bt : Nat → Int32} {wr : Bool} {fk fp sp : Int32} {x : Int32} (d : Nat) (hd : 1 ≤ d) (hl : ln ≤ 300) (hc : clsP h C n p po e eo y yo ln bt wr fk fp sp) : EV G m_X10_end d 0 0 [.ref C, .int x] h (fun r h' => r = some (.int (if win x 0 (nI ln) = true then x else -1)) ∧ frm h h' C (C + 102) ∧ clsP h' C n p po e eo y yo (if win x 0 (nI ln) = true then x.toNatClampNeg else ln) bt wr fk fp sp) := by
  have hc0 := hc
  obtain ⟨hC, -, -, -, -, -, -, ⟨kd, sa, bh, vl, hT, hY⟩, -⟩ := hc
  refine ev_2_0 rfl rfl (by decide +kernel) (by decide +kernel) ?_
  have fin : win x 0 (nI ln) = true → Z G m_X10_end d 0 0 0 0 17 [some (.ref C), some (.int x)] [] h (fun r h' => r = some (.int (if win x 0 (nI ln) = true then x else -1)) ∧ frm h h' C (C + 102) ∧ clsP h' C n p po e eo y yo (if win x 0 (nI ln) = true then x.toNatClampNeg else ln) bt wr fk fp sp) := by
    intro hw
    rw [if_pos hw, if_pos hw]
    obtain ⟨u, hu9, rfl⟩ := win_nat (by omega) hw
    rw [nI_clamp (by omega)]
    refine z_ald0 (n := 18) (by decide +kernel) ?_
    refine z_getf (n := 21) (idx := 53) (by decide +kernel) fl_X10_53 (by assumption) (by rfl) ?_
    refine z_ild1 (n := 22) (by decide +kernel) ?_
    refine z_putf (n := 25) (idx := 177) (ty := .int) (by decide +kernel) fl_X10_177 (by assumption) ⟨_, _, _, rfl, rfl, by decide +kernel⟩ rfl rfl (Nat.le_of_ble_eq_true rfl) ?_
    refine z_ild1 (n := 26) (by decide +kernel) ?_
    refine z_iret (by decide +kernel) rfl (Nat.le_refl _) ?_
    exact ⟨rfl, by intro j9 hj9; simp (disch := omega) only [hu_n], cls_tap hc0 (by intro j9 hj9; simp (disch := omega) only [hu_n]) ⟨kd, sa, bh, vl, (by simp (disch := omega) only [hTn, hCr, hFl, hu_s, hu_n]; first | done | assumption | rfl), (by simp (disch := omega) only [hTn, hCr, hFl, hu_s, hu_n]; first | done | assumption | rfl)⟩⟩
  refine z_ild1 (n := 1) (by decide +kernel) ?_
  refine z_iconst (n := 2) (q := 0) (v := 0) (by decide +kernel) ?_
  refine z_ald0 (n := 3) (by decide +kernel) ?_
  refine z_getf (n := 6) (idx := 53) (by decide +kernel) fl_X10_53 (by assumption) (by rfl) ?_
  refine z_getf (n := 9) (idx := 177) (by decide +kernel) fl_X10_177 (by assumption) (by rfl) ?_
  refine z_s3 (n := 12) (idx := 85) (by decide +kernel) ml_X10_85 (Nat.le_of_ble_eq_true rfl) (by omega) ⟨Nat.le_refl _, Nat.le_refl _⟩ (k_isWithin 0) ?_
  refine z_ifb_ne (n := 15) (off := 5) (tgt := 17) (by decide +kernel) (fun c12 => ?_) (fun c12 => ?_)
  · exact fin c12
  · refine z_iconst (n := 16) (q := -1) (v := -1) (by decide +kernel) ?_
    refine z_iret (by decide +kernel) rfl (Nat.le_refl _) ?_
    exact ⟨by simp only [c12]; rfl, frm_rf, by rw [if_neg (by rw [c12]; decide)]; exact hc0⟩
theorem k_fault {G : mG} {h : mH} {C n : Nat} {p po : pS} {e eo : eS} {y yo : yS} {ln : Nat} {bt : Nat → Int32} {wr : Bool} {fk fp sp : Int32} {x : Int32} (d : Nat) (hc : clsP h C n p po e eo y yo ln bt wr fk fp sp) : EV G m_X10_fault d 0 0 [.ref C, .int x] h (RE (some (.int (if wr = true then (if x = 0 then fk else if x = 1 then fp else if x = 2 then sp else -1) else -1))) h) := by
  obtain ⟨hC, -, -, -, -, -, -, -, ⟨ds, dp, ad9, vb, nu, fb, bh, oa, tr, hT, -⟩, -⟩ := hc
  refine ev_2_0 rfl rfl (by decide +kernel) (by decide +kernel) ?_
  refine z_ald0 (n := 1) (by decide +kernel) ?_
  refine z_getf (n := 4) (idx := 60) (by decide +kernel) fl_X10_60 (by assumption) (by rfl) ?_
  refine z_getf (n := 7) (idx := 188) (by decide +kernel) fl_X10_188 (by assumption) (by rfl) ?_
  refine z_ifb_ne (n := 10) (off := 5) (tgt := 12) (by decide +kernel) (fun c7 => ?_) (fun c7 => ?_)
  · refine z_ild1 (n := 13) (by decide +kernel) ?_
    by_cases s0 : x = 0
    · refine z_tswI (v := 0) (off := 27) (dflt := 51) (lo := 0) (hi := 2) (offs := #[27, 35, 43]) (len := 27) (tgt := 40) s0 (by decide +kernel) ?_
      refine z_ald0 (n := 41) (by decide +kernel) ?_
      refine z_getf (n := 44) (idx := 60) (by decide +kernel) fl_X10_60 (by assumption) (by rfl) ?_
      refine z_getf (n := 47) (idx := 192) (by decide +kernel) fl_X10_192 (by assumption) (by rfl) ?_
      refine z_iret (by decide +kernel) rfl (Nat.le_refl _) ?_
      exact ⟨by simp only [c7, eq_true s0, if_true, if_false]; try rfl, rfl⟩
    by_cases s1 : x = 1
    · refine z_tswI (v := 1) (off := 35) (dflt := 51) (lo := 0) (hi := 2) (offs := #[27, 35, 43]) (len := 27) (tgt := 48) s1 (by decide +kernel) ?_
      refine z_ald0 (n := 49) (by decide +kernel) ?_
      refine z_getf (n := 52) (idx := 60) (by decide +kernel) fl_X10_60 (by assumption) (by rfl) ?_
      refine z_getf (n := 55) (idx := 195) (by decide +kernel) fl_X10_195 (by assumption) (by rfl) ?_
      refine z_iret (by decide +kernel) rfl (Nat.le_refl _) ?_
      exact ⟨by simp only [c7, eq_false s0, eq_true s1, if_true, if_false]; try rfl, rfl⟩
    by_cases s2 : x = 2
    · refine z_tswI (v := 2) (off := 43) (dflt := 51) (lo := 0) (hi := 2) (offs := #[27, 35, 43]) (len := 27) (tgt := 56) s2 (by decide +kernel) ?_
      refine z_ald0 (n := 57) (by decide +kernel) ?_
      refine z_getf (n := 60) (idx := 60) (by decide +kernel) fl_X10_60 (by assumption) (by rfl) ?_
      refine z_getf (n := 63) (idx := 198) (by decide +kernel) fl_X10_198 (by assumption) (by rfl) ?_
      refine z_iret (by decide +kernel) rfl (Nat.le_refl _) ?_
      exact ⟨by simp only [c7, eq_false s0, eq_false s1, eq_true s2, if_true, if_false]; try rfl, rfl⟩
    refine z_tswO (dflt := 51) (lo := 0) (hi := 2) (offs := #[27, 35, 43]) (len := 27) (tgt := 64) (tsw_out2 s0 s1 s2) (by decide +kernel) ?_
    refine z_iconst (n := 65) (q := -1) (v := -1) (by decide +kernel) ?_
    refine z_iret (by decide +kernel) rfl (Nat.le_refl _) ?_
    exact ⟨by simp only [c7, eq_false s0, eq_false s1, eq_false s2, if_true, if_false]; try rfl, rfl⟩
  · refine z_iconst (n := 11) (q := -1) (v := -1) (by decide +kernel) ?_
    refine z_iret (by decide +kernel) rfl (Nat.le_refl _) ?_
    exact ⟨by simp only [c7, if_true, if_false]; try rfl, rfl⟩
def shB (k r b m q : Int32) : Bool := win k 1 100 && win r (-180) 180 && win b 0 100 && win m (-180) 180 && win q (-180) 180
theorem k_sheet {G : mG} {h : mH} {C n : Nat} {p po : pS} {e eo : eS} {y yo : yS} {ln : Nat} {bt : Nat → Int32} {wr : Bool} {fk fp sp : Int32} {k r b m q : Int32} (d : Nat) (hd : 2 ≤ d) (he : e.1 ≤ 6) (hc : clsP h C n p po e eo y yo ln bt wr fk fp sp) : EV G m_X10_sheet d 0 0 [.ref C, .int k, .int r, .int b, .int m, .int q] h (fun v h' => v = some (.int (if shB k r b m q = true then (if e.1 < 6 then nI e.1 else -1) else -1)) ∧ frm h h' C (C + 102) ∧ clsP h' C n p po (if shB k r b m q = true then (if e.1 < 6 then addS k r b m q e else e) else e) eo y yo ln bt wr fk fp sp) := by
  have hc0 := hc
  obtain ⟨hC, -, -, hs, -⟩ := hc
  have hE := hs.1
  have no : shB k r b m q = false → Z G m_X10_sheet d 0 0 0 0 52 [some (.ref C), some (.int k), some (.int r), some (.int b), some (.int m), some (.int q), some (.int 0)] [.int 0] h (fun v h' => v = some (.int (if shB k r b m q = true then (if e.1 < 6 then nI e.1 else -1) else -1)) ∧ frm h h' C (C + 102) ∧ clsP h' C n p po (if shB k r b m q = true then (if e.1 < 6 then addS k r b m q e else e) else e) eo y yo ln bt wr fk fp sp) := by
    intro hb
    rw [hb]
    refine z_if_eq_t (n := 55) (off := 20) (tgt := 72) (by decide +kernel) (rfl) ?_
    refine z_iconst (n := 73) (q := -1) (v := -1) (by decide +kernel) ?_
    refine z_iret (by decide +kernel) rfl (Nat.le_refl _) ?_
    exact ⟨rfl, frm_rf, hc0⟩
  have ya : shB k r b m q = true → Z G m_X10_sheet d 0 0 0 0 52 [some (.ref C), some (.int k), some (.int r), some (.int b), some (.int m), some (.int q), some (.int 1)] [.int 1] h (fun v h' => v = some (.int (if shB k r b m q = true then (if e.1 < 6 then nI e.1 else -1) else -1)) ∧ frm h h' C (C + 102) ∧ clsP h' C n p po (if shB k r b m q = true then (if e.1 < 6 then addS k r b m q e else e) else e) eo y yo ln bt wr fk fp sp) := by
    intro hb
    rw [hb]
    refine z_if_eq_f (n := 55) (off := 20) (tgt := 72) (by decide +kernel) (by decide) ?_
    refine z_ald0 (n := 56) (by decide +kernel) ?_
    refine z_getf (n := 59) (idx := 33) (by decide +kernel) fl_X10_33 (by assumption) (by rfl) ?_
    refine z_ild1 (n := 60) (by decide +kernel) ?_
    refine z_ild2 (n := 61) (by decide +kernel) ?_
    refine z_ild3 (n := 62) (by decide +kernel) ?_
    refine z_ild4 (n := 64) (by decide +kernel) ?_
    refine z_ild5 (n := 66) (by decide +kernel) ?_
    refine z_w5 (n := 69) (idx := 204) (by decide +kernel) ml_X10_204 (by assumption) rfl (Nat.le_of_ble_eq_true rfl) (by omega) ⟨Nat.le_refl _, Nat.le_refl _⟩ (k_addOne 0 hs he) (fun h66 q66 => ?_)
    refine z_goto (n := 72) (off := 4) (tgt := 73) (by decide +kernel) ?_
    refine z_iret (by decide +kernel) rfl (Nat.le_refl _) ?_
    exact ⟨rfl, frm_wd q66.1 (by omega) (by omega), cls_she hc0 q66.1 q66.2⟩
  refine ev_6_1 rfl rfl rfl rfl rfl rfl (by decide +kernel) (by decide +kernel) ?_
  refine z_ild1 (n := 1) (by decide +kernel) ?_
  refine z_iconst (n := 2) (q := 1) (v := 1) (by decide +kernel) ?_
  refine z_bipush (n := 4) (q := 100) (v := 100) (by decide +kernel) ?_
  refine z_s3 (n := 7) (idx := 85) (by decide +kernel) ml_X10_85 (Nat.le_of_ble_eq_true rfl) (by omega) ⟨Nat.le_refl _, Nat.le_refl _⟩ (k_isWithin 0) ?_
  refine z_ifb_eq (n := 10) (off := 40) (tgt := 47) (by decide +kernel) (fun c7 => ?_) (fun c7 => ?_)
  · refine z_iconst (n := 48) (q := 0) (v := 0) (by decide +kernel) ?_
    refine z_ist6 (n := 50) (by decide +kernel) rfl ?_
    refine z_ild6 (n := 52) (by decide +kernel) ?_
    first | exact ya (by unfold shB; simp only [c7, decide_true, decide_false, Bool.and_true, Bool.and_false, Bool.true_and, Bool.false_and, Bool.or_true, Bool.or_false, Bool.true_or, Bool.false_or, Bool.not_true, Bool.not_false, if_true, if_false]) | exact no (by unfold shB; simp only [c7, decide_true, decide_false, Bool.and_true, Bool.and_false, Bool.true_and, Bool.false_and, Bool.or_true, Bool.or_false, Bool.true_or, Bool.false_or, Bool.not_true, Bool.not_false, if_true, if_false])
  · refine z_ild2 (n := 11) (by decide +kernel) ?_
    refine z_s1 (n := 14) (idx := 201) (by decide +kernel) ml_X10_201 (Nat.le_of_ble_eq_true rfl) (by omega) ⟨Nat.le_refl _, Nat.le_refl _⟩ (k_isAngle 1 (by omega)) ?_
    refine z_ifb_eq (n := 17) (off := 33) (tgt := 47) (by decide +kernel) (fun c14 => ?_) (fun c14 => ?_)
    · refine z_iconst (n := 48) (q := 0) (v := 0) (by decide +kernel) ?_
      refine z_ist6 (n := 50) (by decide +kernel) rfl ?_
      refine z_ild6 (n := 52) (by decide +kernel) ?_
      first | exact ya (by unfold shB; simp only [c7, c14, decide_true, decide_false, Bool.and_true, Bool.and_false, Bool.true_and, Bool.false_and, Bool.or_true, Bool.or_false, Bool.true_or, Bool.false_or, Bool.not_true, Bool.not_false, if_true, if_false]) | exact no (by unfold shB; simp only [c7, c14, decide_true, decide_false, Bool.and_true, Bool.and_false, Bool.true_and, Bool.false_and, Bool.or_true, Bool.or_false, Bool.true_or, Bool.false_or, Bool.not_true, Bool.not_false, if_true, if_false])
    · refine z_ild3 (n := 18) (by decide +kernel) ?_
      refine z_iconst (n := 19) (q := 0) (v := 0) (by decide +kernel) ?_
      refine z_bipush (n := 21) (q := 100) (v := 100) (by decide +kernel) ?_
      refine z_s3 (n := 24) (idx := 85) (by decide +kernel) ml_X10_85 (Nat.le_of_ble_eq_true rfl) (by omega) ⟨Nat.le_refl _, Nat.le_refl _⟩ (k_isWithin 0) ?_
      refine z_ifb_eq (n := 27) (off := 23) (tgt := 47) (by decide +kernel) (fun c24 => ?_) (fun c24 => ?_)
      · refine z_iconst (n := 48) (q := 0) (v := 0) (by decide +kernel) ?_
        refine z_ist6 (n := 50) (by decide +kernel) rfl ?_
        refine z_ild6 (n := 52) (by decide +kernel) ?_
        first | exact ya (by unfold shB; simp only [c7, c14, c24, decide_true, decide_false, Bool.and_true, Bool.and_false, Bool.true_and, Bool.false_and, Bool.or_true, Bool.or_false, Bool.true_or, Bool.false_or, Bool.not_true, Bool.not_false, if_true, if_false]) | exact no (by unfold shB; simp only [c7, c14, c24, decide_true, decide_false, Bool.and_true, Bool.and_false, Bool.true_and, Bool.false_and, Bool.or_true, Bool.or_false, Bool.true_or, Bool.false_or, Bool.not_true, Bool.not_false, if_true, if_false])
      · refine z_ild4 (n := 29) (by decide +kernel) ?_
        refine z_s1 (n := 32) (idx := 201) (by decide +kernel) ml_X10_201 (Nat.le_of_ble_eq_true rfl) (by omega) ⟨Nat.le_refl _, Nat.le_refl _⟩ (k_isAngle 1 (by omega)) ?_
        refine z_ifb_eq (n := 35) (off := 15) (tgt := 47) (by decide +kernel) (fun c32 => ?_) (fun c32 => ?_)
        · refine z_iconst (n := 48) (q := 0) (v := 0) (by decide +kernel) ?_
          refine z_ist6 (n := 50) (by decide +kernel) rfl ?_
          refine z_ild6 (n := 52) (by decide +kernel) ?_
          first | exact ya (by unfold shB; simp only [c7, c14, c24, c32, decide_true, decide_false, Bool.and_true, Bool.and_false, Bool.true_and, Bool.false_and, Bool.or_true, Bool.or_false, Bool.true_or, Bool.false_or, Bool.not_true, Bool.not_false, if_true, if_false]) | exact no (by unfold shB; simp only [c7, c14, c24, c32, decide_true, decide_false, Bool.and_true, Bool.and_false, Bool.true_and, Bool.false_and, Bool.or_true, Bool.or_false, Bool.true_or, Bool.false_or, Bool.not_true, Bool.not_false, if_true, if_false])
        · refine z_ild5 (n := 37) (by decide +kernel) ?_
          refine z_s1 (n := 40) (idx := 201) (by decide +kernel) ml_X10_201 (Nat.le_of_ble_eq_true rfl) (by omega) ⟨Nat.le_refl _, Nat.le_refl _⟩ (k_isAngle 1 (by omega)) ?_
          refine z_ifb_eq (n := 43) (off := 7) (tgt := 47) (by decide +kernel) (fun c40 => ?_) (fun c40 => ?_)
          · refine z_iconst (n := 48) (q := 0) (v := 0) (by decide +kernel) ?_
            refine z_ist6 (n := 50) (by decide +kernel) rfl ?_
            refine z_ild6 (n := 52) (by decide +kernel) ?_
            first | exact ya (by unfold shB; simp only [c7, c14, c24, c32, c40, decide_true, decide_false, Bool.and_true, Bool.and_false, Bool.true_and, Bool.false_and, Bool.or_true, Bool.or_false, Bool.true_or, Bool.false_or, Bool.not_true, Bool.not_false, if_true, if_false]) | exact no (by unfold shB; simp only [c7, c14, c24, c32, c40, decide_true, decide_false, Bool.and_true, Bool.and_false, Bool.true_and, Bool.false_and, Bool.or_true, Bool.or_false, Bool.true_or, Bool.false_or, Bool.not_true, Bool.not_false, if_true, if_false])
          · refine z_iconst (n := 44) (q := 1) (v := 1) (by decide +kernel) ?_
            refine z_goto (n := 47) (off := 4) (tgt := 48) (by decide +kernel) ?_
            refine z_ist6 (n := 50) (by decide +kernel) rfl ?_
            refine z_ild6 (n := 52) (by decide +kernel) ?_
            first | exact ya (by unfold shB; simp only [c7, c14, c24, c32, c40, decide_true, decide_false, Bool.and_true, Bool.and_false, Bool.true_and, Bool.false_and, Bool.or_true, Bool.or_false, Bool.true_or, Bool.false_or, Bool.not_true, Bool.not_false, if_true, if_false]) | exact no (by unfold shB; simp only [c7, c14, c24, c32, c40, decide_true, decide_false, Bool.and_true, Bool.and_false, Bool.true_and, Bool.false_and, Bool.or_true, Bool.or_false, Bool.true_or, Bool.false_or, Bool.not_true, Bool.not_false, if_true, if_false])
def hasB (c x : Int32) : Bool := !decide (x < 0) && !decide (c ≤ x)
theorem has_nat {x : Int32} {m : Nat} (hm : m < 2 ^ 31) (h : hasB (nI m) x = true) : ∃ u, u < m ∧ x = nI u := by
  simp only [hasB, Bool.and_eq_true, Bool.not_eq_true', decide_eq_false_iff_not] at h
  obtain ⟨j, hj, rfl, -⟩ := pk_mu h.1 h.2 hm
  exact ⟨j, hj, rfl⟩
theorem k_torque {G : mG} {h : mH} {C n : Nat} {p po : pS} {e eo : eS} {y yo : yS} {ln : Nat} {bt : Nat → Int32} {wr : Bool} {fk fp sp : Int32} {x a : Int32} (d : Nat) (hd : 2 ≤ d) (he : e.1 ≤ 6) (hc : clsP h C n p po e eo y yo ln bt wr fk fp sp) : EV G m_X10_torque d 0 0 [.ref C, .int x, .int a] h (RE (some (.int (if hasB (nI e.1) x = true then (if win a (-180) 180 = true then tqF e x.toNatClampNeg a else -2000000000) else -2000000000))) h) := by
  obtain ⟨hC, -, -, hs, -⟩ := hc
  have hE := hs.1
  refine ev_3_0 rfl rfl rfl (by decide +kernel) (by decide +kernel) ?_
  by_cases hh : hasB (nI e.1) x = true
  · rw [if_pos hh]
    obtain ⟨u, hu9, rfl⟩ := has_nat (by omega) hh
    rw [nI_clamp (by omega)]
    refine z_ald0 (n := 1) (by decide +kernel) ?_
    refine z_getf (n := 4) (idx := 33) (by decide +kernel) fl_X10_33 (by assumption) (by rfl) ?_
    refine z_ild1 (n := 5) (by decide +kernel) ?_
    refine z_v1 (n := 8) (idx := 208) (by decide +kernel) ml_X10_208 (by assumption) rfl (Nat.le_of_ble_eq_true rfl) (by omega) ⟨Nat.le_refl _, Nat.le_refl _⟩ (k_has 0 hE) ?_
    refine z_ifb_eq_f (n := 11) (off := 22) (tgt := 30) (by decide +kernel) (hh) ?_
    refine z_ild2 (n := 12) (by decide +kernel) ?_
    refine z_s1 (n := 15) (idx := 201) (by decide +kernel) ml_X10_201 (Nat.le_of_ble_eq_true rfl) (by omega) ⟨Nat.le_refl _, Nat.le_refl _⟩ (k_isAngle 1 (by omega)) ?_
    refine z_ifb_eq (n := 18) (off := 15) (tgt := 30) (by decide +kernel) (fun c15 => ?_) (fun c15 => ?_)
    · refine z_ldc (n := 32) (q := 214) (by decide +kernel) lc_X10_214 ?_
      refine z_iret (by decide +kernel) rfl (Nat.le_refl _) ?_
      exact ⟨by simp only [c15, if_true]; try rfl, rfl⟩
    · refine z_ald0 (n := 19) (by decide +kernel) ?_
      refine z_getf (n := 22) (idx := 33) (by decide +kernel) fl_X10_33 (by assumption) (by rfl) ?_
      refine z_ild1 (n := 23) (by decide +kernel) ?_
      refine z_ild2 (n := 24) (by decide +kernel) ?_
      refine z_v2 (n := 27) (idx := 211) (by decide +kernel) ml_X10_211 (by assumption) rfl (Nat.le_of_ble_eq_true rfl) (by omega) ⟨Nat.le_refl _, Nat.le_refl _⟩ (k_torqueOf 0 hs (by omega)) ?_
      refine z_goto (n := 30) (off := 5) (tgt := 32) (by decide +kernel) ?_
      refine z_iret (by decide +kernel) rfl (Nat.le_refl _) ?_
      exact ⟨by simp only [c15, if_true]; try rfl, rfl⟩
  · rw [if_neg hh]
    refine z_ald0 (n := 1) (by decide +kernel) ?_
    refine z_getf (n := 4) (idx := 33) (by decide +kernel) fl_X10_33 (by assumption) (by rfl) ?_
    refine z_ild1 (n := 5) (by decide +kernel) ?_
    refine z_v1 (n := 8) (idx := 208) (by decide +kernel) ml_X10_208 (by assumption) rfl (Nat.le_of_ble_eq_true rfl) (by omega) ⟨Nat.le_refl _, Nat.le_refl _⟩ (k_has 0 hE) ?_
    refine z_ifb_eq_t (n := 11) (off := 22) (tgt := 30) (by decide +kernel) (Bool.eq_false_iff.mpr hh) ?_
    refine z_ldc (n := 32) (q := 214) (by decide +kernel) lc_X10_214 ?_
    refine z_iret (by decide +kernel) rfl (Nat.le_refl _) ?_
    exact ⟨rfl, rfl⟩
theorem k_see {G : mG} {h : mH} {C n : Nat} {p po : pS} {e eo : eS} {y yo : yS} {ln : Nat} {bt : Nat → Int32} {wr : Bool} {fk fp sp : Int32} {x z : Int32} (d : Nat) (hd : 2 ≤ d) (hy : y.1.1 ≤ 100) (hc : clsP h C n p po e eo y yo ln bt wr fk fp sp) : EV G m_X10_see d 0 0 [.ref C, .int x, .int z] h (fun v h' => v = some (.int (if win x 1 11 && win z 0 2 then (if y.1.1 < 100 then nI (y.1.1 + 1) else -1) else -1)) ∧ frm h h' C (C + 102) ∧ clsP h' C n p po e eo (if win x 1 11 && win z 0 2 then (if y.1.1 < 100 then telS x z y else y) else y) yo ln bt wr fk fp sp) := by
  have hc0 := hc
  obtain ⟨hC, -, -, -, -, hs, -⟩ := hc
  have hE := hs.1
  refine ev_3_0 rfl rfl rfl (by decide +kernel) (by decide +kernel) ?_
  refine z_ild1 (n := 1) (by decide +kernel) ?_
  refine z_iconst (n := 2) (q := 1) (v := 1) (by decide +kernel) ?_
  refine z_bipush (n := 4) (q := 11) (v := 11) (by decide +kernel) ?_
  refine z_s3 (n := 7) (idx := 85) (by decide +kernel) ml_X10_85 (Nat.le_of_ble_eq_true rfl) (by omega) ⟨Nat.le_refl _, Nat.le_refl _⟩ (k_isWithin 0) ?_
  refine z_ifb_eq (n := 10) (off := 24) (tgt := 31) (by decide +kernel) (fun c7 => ?_) (fun c7 => ?_)
  · refine z_iconst (n := 32) (q := -1) (v := -1) (by decide +kernel) ?_
    refine z_iret (by decide +kernel) rfl (Nat.le_refl _) ?_
    first | exact ⟨by simp only [c7, Bool.and_true, Bool.and_false, Bool.false_and]; rfl, frm_rf, by simp only [c7, Bool.and_true, Bool.and_false, Bool.false_and]; exact hc0⟩ | exact ⟨by simp only [c7, Bool.and_true, if_true], frm_wd q25.1 (by omega) (by omega), by simp only [c7, Bool.and_true, if_true]; exact cls_see hc0 q25.1 q25.2⟩
  · refine z_ild2 (n := 11) (by decide +kernel) ?_
    refine z_iconst (n := 12) (q := 0) (v := 0) (by decide +kernel) ?_
    refine z_iconst (n := 13) (q := 2) (v := 2) (by decide +kernel) ?_
    refine z_s3 (n := 16) (idx := 85) (by decide +kernel) ml_X10_85 (Nat.le_of_ble_eq_true rfl) (by omega) ⟨Nat.le_refl _, Nat.le_refl _⟩ (k_isWithin 0) ?_
    refine z_ifb_eq (n := 19) (off := 15) (tgt := 31) (by decide +kernel) (fun c16 => ?_) (fun c16 => ?_)
    · refine z_iconst (n := 32) (q := -1) (v := -1) (by decide +kernel) ?_
      refine z_iret (by decide +kernel) rfl (Nat.le_refl _) ?_
      first | exact ⟨by simp only [c7, c16, Bool.and_true, Bool.and_false, Bool.false_and]; rfl, frm_rf, by simp only [c7, c16, Bool.and_true, Bool.and_false, Bool.false_and]; exact hc0⟩ | exact ⟨by simp only [c7, c16, Bool.and_true, if_true], frm_wd q25.1 (by omega) (by omega), by simp only [c7, c16, Bool.and_true, if_true]; exact cls_see hc0 q25.1 q25.2⟩
    · refine z_ald0 (n := 20) (by decide +kernel) ?_
      refine z_getf (n := 23) (idx := 43) (by decide +kernel) fl_X10_43 (by assumption) (by rfl) ?_
      refine z_ild1 (n := 24) (by decide +kernel) ?_
      refine z_ild2 (n := 25) (by decide +kernel) ?_
      refine z_w2 (n := 28) (idx := 260) (by decide +kernel) ml_X10_260 (by assumption) rfl (Nat.le_of_ble_eq_true rfl) (by omega) ⟨Nat.le_refl _, Nat.le_refl _⟩ (k_tell 0 hs hy) (fun h25 q25 => ?_)
      refine z_goto (n := 31) (off := 4) (tgt := 32) (by decide +kernel) ?_
      refine z_iret (by decide +kernel) rfl (Nat.le_refl _) ?_
      first | exact ⟨by simp only [c7, c16, Bool.and_true, Bool.and_false, Bool.false_and]; rfl, frm_rf, by simp only [c7, c16, Bool.and_true, Bool.and_false, Bool.false_and]; exact hc0⟩ | exact ⟨by simp only [c7, c16, Bool.and_true, if_true], frm_wd q25.1 (by omega) (by omega), by simp only [c7, c16, Bool.and_true, if_true]; exact cls_see hc0 q25.1 q25.2⟩
theorem k_look {G : mG} {h : mH} {C n : Nat} {p po : pS} {e eo : eS} {y yo : yS} {ln : Nat} {bt : Nat → Int32} {wr : Bool} {fk fp sp : Int32} {x : Int32} (d : Nat) (hd : 2 ≤ d) (hy : y.1.1 ≤ 100) (hc : clsP h C n p po e eo y yo ln bt wr fk fp sp) : EV G m_X10_look d 0 0 [.ref C, .int x] h (fun v h' => v = some (.int (bI (win x 0 (nI y.1.1)))) ∧ frm h h' C (C + 102) ∧ clsP h' C n p po e eo (if win x 0 (nI y.1.1) = true then ((y.1.1, x.toNatClampNeg), y.2) else y) yo ln bt wr fk fp sp) := by
  have hc0 := hc
  obtain ⟨hC, -, -, -, -, hs, -⟩ := hc
  obtain ⟨hE, h1, h2⟩ := hs
  refine ev_2_1 rfl rfl (by decide +kernel) (by decide +kernel) ?_
  by_cases hw : win x 0 (nI y.1.1) = true
  · rw [if_pos hw]
    obtain ⟨u, hu9, rfl⟩ := win_nat (by omega) hw
    rw [nI_clamp (by omega)]
    refine z_ild1 (n := 1) (by decide +kernel) ?_
    refine z_iconst (n := 2) (q := 0) (v := 0) (by decide +kernel) ?_
    refine z_ald0 (n := 3) (by decide +kernel) ?_
    refine z_getf (n := 6) (idx := 43) (by decide +kernel) fl_X10_43 (by assumption) (by rfl) ?_
    refine z_getf (n := 9) (idx := 263) (by decide +kernel) fl_X10_263 (by assumption) (by rfl) ?_
    refine z_s3 (n := 12) (idx := 85) (by decide +kernel) ml_X10_85 (Nat.le_of_ble_eq_true rfl) (by omega) ⟨Nat.le_refl _, Nat.le_refl _⟩ (k_isWithin 0) ?_
    refine z_ist2 (n := 13) (by decide +kernel) rfl ?_
    refine z_ild2 (n := 14) (by decide +kernel) ?_
    refine z_ifb_eq_f (n := 17) (off := 11) (tgt := 25) (by decide +kernel) (hw) ?_
    refine z_ald0 (n := 18) (by decide +kernel) ?_
    refine z_getf (n := 21) (idx := 43) (by decide +kernel) fl_X10_43 (by assumption) (by rfl) ?_
    refine z_ild1 (n := 22) (by decide +kernel) ?_
    refine z_putf (n := 25) (idx := 266) (ty := .int) (by decide +kernel) fl_X10_266 (by assumption) ⟨_, _, _, rfl, rfl, by decide +kernel⟩ rfl rfl (Nat.le_of_ble_eq_true rfl) ?_
    refine z_ild2 (n := 26) (by decide +kernel) ?_
    first | refine z_zr1 (by decide +kernel) rfl (Nat.le_refl _) ?_ | refine z_zr0 (by decide +kernel) rfl (Nat.le_refl _) ?_ | refine z_zrb (by decide +kernel) rfl (Nat.le_refl _) ?_
    exact ⟨rfl, by intro j9 hj9; simp (disch := omega) only [hu_n], cls_see hc0 (by intro j9 hj9; simp (disch := omega) only [hu_n]) ⟨(by simp (disch := omega) only [hTn, hCr, hFl, hu_s, hu_n]; first | done | assumption | rfl), (by simp (disch := omega) only [hTn, hCr, hFl, hu_s, hu_n]; first | done | assumption | rfl), (by simp (disch := omega) only [hTn, hCr, hFl, hu_s, hu_n]; first | done | assumption | rfl)⟩⟩
  · rw [if_neg hw]
    refine z_ild1 (n := 1) (by decide +kernel) ?_
    refine z_iconst (n := 2) (q := 0) (v := 0) (by decide +kernel) ?_
    refine z_ald0 (n := 3) (by decide +kernel) ?_
    refine z_getf (n := 6) (idx := 43) (by decide +kernel) fl_X10_43 (by assumption) (by rfl) ?_
    refine z_getf (n := 9) (idx := 263) (by decide +kernel) fl_X10_263 (by assumption) (by rfl) ?_
    refine z_s3 (n := 12) (idx := 85) (by decide +kernel) ml_X10_85 (Nat.le_of_ble_eq_true rfl) (by omega) ⟨Nat.le_refl _, Nat.le_refl _⟩ (k_isWithin 0) ?_
    refine z_ist2 (n := 13) (by decide +kernel) rfl ?_
    refine z_ild2 (n := 14) (by decide +kernel) ?_
    refine z_ifb_eq_t (n := 17) (off := 11) (tgt := 25) (by decide +kernel) (by simpa using hw) ?_
    refine z_ild2 (n := 26) (by decide +kernel) ?_
    first | refine z_zr1 (by decide +kernel) rfl (Nat.le_refl _) ?_ | refine z_zr0 (by decide +kernel) rfl (Nat.le_refl _) ?_ | refine z_zrb (by decide +kernel) rfl (Nat.le_refl _) ?_
    exact ⟨rfl, frm_rf, hc0⟩
theorem k_image {G : mG} {h : mH} {C n : Nat} {p po : pS} {e eo : eS} {y yo : yS} {ln : Nat} {bt : Nat → Int32} {wr : Bool} {fk fp sp : Int32} (d : Nat) (hd : 3 ≤ d) (hn : n + 1 < 2 ^ 31) (hc : clsP h C n p po e eo y yo ln bt wr fk fp sp) : EV G m_X10_image d 0 0 [.ref C] h (fun v h' => v = some (.int (p.1 4)) ∧ frm h h' C (C + 102) ∧ clsP h' C n p (cpyS n p po) e (cpE e eo) y (cpY y yo) ln bt wr fk fp sp) := by
  have hC := hc.1
  have hBo := hc.2.2.1.choose_spec.choose_spec.1
  refine ev_1_0 rfl (by decide +kernel) (by decide +kernel) ?_
  refine z_ald0 (n := 1) (by decide +kernel) ?_
  refine z_getf (n := 4) (idx := 27) (by decide +kernel) fl_X10_27 (by assumption) (by rfl) ?_
  refine z_ald0 (n := 5) (by decide +kernel) ?_
  refine z_getf (n := 8) (idx := 23) (by decide +kernel) fl_X10_23 (by assumption) (by rfl) ?_
  refine z_w1v (n := 11) (idx := 287) (by decide +kernel) ml_X10_287 (by assumption) rfl (Nat.le_of_ble_eq_true rfl) (by omega) ⟨Nat.le_refl _, Nat.le_refl _⟩ (k_papCopy (n := n) 2 (by omega) hc.2.2.1 hc.2.1 hn (by omega)) (fun h8 q8 => ?_)
  have c8 := cls_papo hc q8.1 q8.2; have C8 := c8.1; have E8 := c8.2.2.2.2.1.1
  refine z_ald0 (n := 12) (by decide +kernel) ?_
  refine z_getf (n := 15) (idx := 37) (by decide +kernel) fl_X10_37 (by assumption) (by rfl) ?_
  refine z_ald0 (n := 16) (by decide +kernel) ?_
  refine z_getf (n := 19) (idx := 33) (by decide +kernel) fl_X10_33 (by assumption) (by rfl) ?_
  refine z_w1v (n := 22) (idx := 291) (by decide +kernel) ml_X10_291 (by assumption) rfl (Nat.le_of_ble_eq_true rfl) (by omega) ⟨Nat.le_refl _, Nat.le_refl _⟩ (k_sheCopy 1 (by omega) c8.2.2.2.2.1 c8.2.2.2.1 (by omega)) (fun h19 q19 => ?_)
  have c19 := cls_sheo c8 q19.1 q19.2; have C19 := c19.1; have Y19 := c19.2.2.2.2.2.2.1.1
  refine z_ald0 (n := 23) (by decide +kernel) ?_
  refine z_getf (n := 26) (idx := 47) (by decide +kernel) fl_X10_47 (by assumption) (by rfl) ?_
  refine z_ald0 (n := 27) (by decide +kernel) ?_
  refine z_getf (n := 30) (idx := 43) (by decide +kernel) fl_X10_43 (by assumption) (by rfl) ?_
  refine z_w1v (n := 33) (idx := 294) (by decide +kernel) ml_X10_294 (by assumption) rfl (Nat.le_of_ble_eq_true rfl) (by omega) ⟨Nat.le_refl _, Nat.le_refl _⟩ (k_seeCopy 1 (by omega) c19.2.2.2.2.2.2.1 c19.2.2.2.2.2.1 (by omega)) (fun h30 q30 => ?_)
  have c30 := cls_seeo c19 q30.1 q30.2; have C30 := c30.1; have B30 := c30.2.1.choose_spec.choose_spec.1
  refine z_ald0 (n := 34) (by decide +kernel) ?_
  refine z_getf (n := 37) (idx := 23) (by decide +kernel) fl_X10_23 (by assumption) (by rfl) ?_
  refine z_getf (n := 40) (idx := 110) (by decide +kernel) fl_X10_110 (by assumption) (by rfl) ?_
  refine z_iret (by decide +kernel) rfl (Nat.le_refl _) ?_
  exact ⟨rfl, frm_tr (frm_tr (frm_wd q8.1 (by omega) (by omega)) (frm_wd q19.1 (by omega) (by omega))) (frm_wd q30.1 (by omega) (by omega)), c30⟩
theorem k_back {G : mG} {h : mH} {C n : Nat} {p po : pS} {e eo : eS} {y yo : yS} {ln : Nat} {bt : Nat → Int32} {wr : Bool} {fk fp sp : Int32} (d : Nat) (hd : 3 ≤ d) (hn : n + 1 < 2 ^ 31) (hc : clsP h C n p po e eo y yo ln bt wr fk fp sp) : EV G m_X10_back d 0 0 [.ref C] h (fun v h' => v = some (.int (po.1 4)) ∧ frm h h' C (C + 102) ∧ clsP h' C n (cpyS n po p) po (cpE eo e) eo (cpY yo y) yo ln bt wr fk fp sp) := by
  have hC := hc.1
  have hBo := hc.2.1.choose_spec.choose_spec.1
  refine ev_1_0 rfl (by decide +kernel) (by decide +kernel) ?_
  refine z_ald0 (n := 1) (by decide +kernel) ?_
  refine z_getf (n := 4) (idx := 23) (by decide +kernel) fl_X10_23 (by assumption) (by rfl) ?_
  refine z_ald0 (n := 5) (by decide +kernel) ?_
  refine z_getf (n := 8) (idx := 27) (by decide +kernel) fl_X10_27 (by assumption) (by rfl) ?_
  refine z_w1v (n := 11) (idx := 287) (by decide +kernel) ml_X10_287 (by assumption) rfl (Nat.le_of_ble_eq_true rfl) (by omega) ⟨Nat.le_refl _, Nat.le_refl _⟩ (k_papCopy (n := n) 2 (by omega) hc.2.1 hc.2.2.1 hn (by omega)) (fun h8 q8 => ?_)
  have c8 := cls_pap hc q8.1 q8.2; have C8 := c8.1; have E8 := c8.2.2.2.1.1
  refine z_ald0 (n := 12) (by decide +kernel) ?_
  refine z_getf (n := 15) (idx := 33) (by decide +kernel) fl_X10_33 (by assumption) (by rfl) ?_
  refine z_ald0 (n := 16) (by decide +kernel) ?_
  refine z_getf (n := 19) (idx := 37) (by decide +kernel) fl_X10_37 (by assumption) (by rfl) ?_
  refine z_w1v (n := 22) (idx := 291) (by decide +kernel) ml_X10_291 (by assumption) rfl (Nat.le_of_ble_eq_true rfl) (by omega) ⟨Nat.le_refl _, Nat.le_refl _⟩ (k_sheCopy 1 (by omega) c8.2.2.2.1 c8.2.2.2.2.1 (by omega)) (fun h19 q19 => ?_)
  have c19 := cls_she c8 q19.1 q19.2; have C19 := c19.1; have Y19 := c19.2.2.2.2.2.1.1
  refine z_ald0 (n := 23) (by decide +kernel) ?_
  refine z_getf (n := 26) (idx := 43) (by decide +kernel) fl_X10_43 (by assumption) (by rfl) ?_
  refine z_ald0 (n := 27) (by decide +kernel) ?_
  refine z_getf (n := 30) (idx := 47) (by decide +kernel) fl_X10_47 (by assumption) (by rfl) ?_
  refine z_w1v (n := 33) (idx := 294) (by decide +kernel) ml_X10_294 (by assumption) rfl (Nat.le_of_ble_eq_true rfl) (by omega) ⟨Nat.le_refl _, Nat.le_refl _⟩ (k_seeCopy 1 (by omega) c19.2.2.2.2.2.1 c19.2.2.2.2.2.2.1 (by omega)) (fun h30 q30 => ?_)
  have c30 := cls_see c19 q30.1 q30.2; have C30 := c30.1; have B30 := c30.2.1.choose_spec.choose_spec.1
  refine z_ald0 (n := 34) (by decide +kernel) ?_
  refine z_getf (n := 37) (idx := 23) (by decide +kernel) fl_X10_23 (by assumption) (by rfl) ?_
  refine z_getf (n := 40) (idx := 110) (by decide +kernel) fl_X10_110 (by assumption) (by rfl) ?_
  refine z_iret (by decide +kernel) rfl (Nat.le_refl _) ?_
  exact ⟨rfl, frm_tr (frm_tr (frm_wd q8.1 (by omega) (by omega)) (frm_wd q19.1 (by omega) (by omega))) (frm_wd q30.1 (by omega) (by omega)), c30⟩
