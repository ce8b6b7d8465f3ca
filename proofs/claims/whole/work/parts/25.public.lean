/-! CreasedPaper: its state, small helps -/
theorem tsw_out2 {x : Int32} (h0 : ¬ x = 0) (h1 : ¬ x = 1) (h2 : ¬ x = 2) : x.toInt < 0 ∨ (2 : Int) < x.toInt := by
  have g0 := lv_neT (a := 0) h0 (by decide)
  have g1 := lv_neT (a := 1) h1 (by decide)
  have g2 := lv_neT (a := 2) h2 (by decide)
  omega
theorem tsw_out6 {x : Int32} (h0 : ¬ x = 0) (h1 : ¬ x = 1) (h2 : ¬ x = 2) (h3 : ¬ x = 3) (h4 : ¬ x = 4) (h5 : ¬ x = 5) (h6 : ¬ x = 6) : x.toInt < 0 ∨ (6 : Int) < x.toInt := by
  have g0 := lv_neT (a := 0) h0 (by decide)
  have g1 := lv_neT (a := 1) h1 (by decide)
  have g2 := lv_neT (a := 2) h2 (by decide)
  have g3 := lv_neT (a := 3) h3 (by decide)
  have g4 := lv_neT (a := 4) h4 (by decide)
  have g5 := lv_neT (a := 5) h5 (by decide)
  have g6 := lv_neT (a := 6) h6 (by decide)
  omega
theorem tsw_out10 {x : Int32} (h0 : ¬ x = 0) (h1 : ¬ x = 1) (h2 : ¬ x = 2) (h3 : ¬ x = 3) (h4 : ¬ x = 4) (h5 : ¬ x = 5) (h6 : ¬ x = 6) (h7 : ¬ x = 7) (h8 : ¬ x = 8) (h9 : ¬ x = 9) (h10 : ¬ x = 10) : x.toInt < 0 ∨ (10 : Int) < x.toInt := by
  have g0 := lv_neT (a := 0) h0 (by decide)
  have g1 := lv_neT (a := 1) h1 (by decide)
  have g2 := lv_neT (a := 2) h2 (by decide)
  have g3 := lv_neT (a := 3) h3 (by decide)
  have g4 := lv_neT (a := 4) h4 (by decide)
  have g5 := lv_neT (a := 5) h5 (by decide)
  have g6 := lv_neT (a := 6) h6 (by decide)
  have g7 := lv_neT (a := 7) h7 (by decide)
  have g8 := lv_neT (a := 8) h8 (by decide)
  have g9 := lv_neT (a := 9) h9 (by decide)
  have g10 := lv_neT (a := 10) h10 (by decide)
  omega
theorem tsw_out24 {x : Int32} (h0 : ¬ x = 0) (h1 : ¬ x = 1) (h2 : ¬ x = 2) (h3 : ¬ x = 3) (h4 : ¬ x = 4) (h5 : ¬ x = 5) (h6 : ¬ x = 6) (h7 : ¬ x = 7) (h8 : ¬ x = 8) (h9 : ¬ x = 9) (h10 : ¬ x = 10) (h11 : ¬ x = 11) (h12 : ¬ x = 12) (h13 : ¬ x = 13) (h14 : ¬ x = 14) (h15 : ¬ x = 15) (h16 : ¬ x = 16) (h17 : ¬ x = 17) (h18 : ¬ x = 18) (h19 : ¬ x = 19) (h20 : ¬ x = 20) (h21 : ¬ x = 21) (h22 : ¬ x = 22) (h23 : ¬ x = 23) (h24 : ¬ x = 24) : x.toInt < 0 ∨ (24 : Int) < x.toInt := by
  have g0 := lv_neT (a := 0) h0 (by decide)
  have g1 := lv_neT (a := 1) h1 (by decide)
  have g2 := lv_neT (a := 2) h2 (by decide)
  have g3 := lv_neT (a := 3) h3 (by decide)
  have g4 := lv_neT (a := 4) h4 (by decide)
  have g5 := lv_neT (a := 5) h5 (by decide)
  have g6 := lv_neT (a := 6) h6 (by decide)
  have g7 := lv_neT (a := 7) h7 (by decide)
  have g8 := lv_neT (a := 8) h8 (by decide)
  have g9 := lv_neT (a := 9) h9 (by decide)
  have g10 := lv_neT (a := 10) h10 (by decide)
  have g11 := lv_neT (a := 11) h11 (by decide)
  have g12 := lv_neT (a := 12) h12 (by decide)
  have g13 := lv_neT (a := 13) h13 (by decide)
  have g14 := lv_neT (a := 14) h14 (by decide)
  have g15 := lv_neT (a := 15) h15 (by decide)
  have g16 := lv_neT (a := 16) h16 (by decide)
  have g17 := lv_neT (a := 17) h17 (by decide)
  have g18 := lv_neT (a := 18) h18 (by decide)
  have g19 := lv_neT (a := 19) h19 (by decide)
  have g20 := lv_neT (a := 20) h20 (by decide)
  have g21 := lv_neT (a := 21) h21 (by decide)
  have g22 := lv_neT (a := 22) h22 (by decide)
  have g23 := lv_neT (a := 23) h23 (by decide)
  have g24 := lv_neT (a := 24) h24 (by decide)
  omega
def win (v lo hi : Int32) : Bool := !decide (v < lo) && !decide (hi < v)
theorem win_nat {x : Int32} {m : Nat} (hm : m < 2 ^ 31) (h : win x 0 (nI m) = true) : ∃ u, u ≤ m ∧ x = nI u := by
  simp only [win, Bool.and_eq_true, Bool.not_eq_true', decide_eq_false_iff_not] at h
  obtain ⟨j, hj, rfl⟩ := nI_of h.1
  refine ⟨j, ?_, rfl⟩
  rcases Nat.lt_or_ge m j with q | q
  · exact absurd (nI_lt q hj) h.2
  · exact q
theorem win_nI {u m : Nat} (hu : u ≤ m) (hm : m < 2 ^ 31) : win (nI u) 0 (nI m) = true := by
  simp only [win, eq_false (nI_pos (n := u) (by omega)), eq_false (nI_nlt (a := m) (b := u) hu hm), decide_false, Bool.not_false, Bool.and_self]
theorem win_ang {x : Int32} (h : win x (-180) 180 = true) : ∃ i, i ≤ 360 ∧ x = ang i := by
  simp only [win, Bool.and_eq_true, Bool.not_eq_true', decide_eq_false_iff_not] at h
  exact ang_of (Int32.not_lt.mp h.1) (Int32.not_lt.mp h.2)
/-- the cells of an object C, and what they hold: paper and its image, sheets, seen (and images), tape, text -/
def clsP (h : mH) (C n : Nat) (p po : pS) (e eo : eS) (y yo : yS) (ln : Nat) (bt : Nat → Int32) (wr : Bool) (fk fp sp : Int32) : Prop :=
  h C = oCP C ∧ pap h (C + 1) n p ∧ pap h (C + 14) n po ∧ she h (C + 27) e ∧ she h (C + 33) eo ∧ see h (C + 39) y ∧ see h (C + 42) yo ∧ (∃ kd sa bh vl, tap h (C + 45) (nI ln) kd sa bh vl bt) ∧ (∃ ds dp ad vb nu fb bh oa tr, txt h (C + 47) wr fk fp sp ds dp ad vb nu fb bh oa tr) ∧ shaX h (C + 54) ∧ panX h (C + 56) ∧ seaX h (C + 60)
theorem tap_in {h h' : mH} {P : Nat} {ln kd sa bh vl : Int32} {b : Nat → Int32} (hf : ∀ j, P ≤ j → j < P + 2 → h' j = h j) (p : tap h P ln kd sa bh vl b) : tap h' P ln kd sa bh vl b := ⟨(hf _ (by omega) (by omega)).trans p.1, (hf _ (by omega) (by omega)).trans p.2⟩
theorem txt_in {h h' : mH} {X : Nat} {wr : Bool} {fk fp sp ds dp ad : Int32} {vb nu fb bh oa : Nat → Int32} {tr : Nat → Bool} (hf : ∀ j, X ≤ j → j < X + 7 → h' j = h j) (p : txt h X wr fk fp sp ds dp ad vb nu fb bh oa tr) : txt h' X wr fk fp sp ds dp ad vb nu fb bh oa tr :=
  ⟨(hf _ (by omega) (by omega)).trans p.1, (hf _ (by omega) (by omega)).trans p.2.1, (hf _ (by omega) (by omega)).trans p.2.2.1, (hf _ (by omega) (by omega)).trans p.2.2.2.1, (hf _ (by omega) (by omega)).trans p.2.2.2.2.1, (hf _ (by omega) (by omega)).trans p.2.2.2.2.2.1, (hf _ (by omega) (by omega)).trans p.2.2.2.2.2.2⟩
theorem cls_pap {h h' : mH} {C n : Nat} {p po : pS} {e eo : eS} {y yo : yS} {ln : Nat} {bt : Nat → Int32} {wr : Bool} {fk fp sp : Int32} {p' : pS} (q : clsP h C n p po e eo y yo ln bt wr fk fp sp) (hf : frm h h' (C + 1) (C + 14)) (hn : pap h' (C + 1) n p') : clsP h' C n p' po e eo y yo ln bt wr fk fp sp := by
  obtain ⟨q0, q1, q2, q3, q4, q5, q6, q7, q8, q9, q10, q11⟩ := q
  exact ⟨(hf C (by omega)).trans q0, hn, (pap_in (fun j h1 h2 => hf j (by omega)) q2), (she_in (fun j h1 h2 => hf j (by omega)) q3), (she_in (fun j h1 h2 => hf j (by omega)) q4), (see_in (fun j h1 h2 => hf j (by omega)) q5), (see_in (fun j h1 h2 => hf j (by omega)) q6), (by obtain ⟨kd, sa, bh, vl, t⟩ := q7; exact ⟨kd, sa, bh, vl, tap_in (fun j h1 h2 => hf j (by omega)) t⟩), (by obtain ⟨ds, dp, ad, vb, nu, fb, bh, oa, tr, t⟩ := q8; exact ⟨ds, dp, ad, vb, nu, fb, bh, oa, tr, txt_in (fun j h1 h2 => hf j (by omega)) t⟩), (shaX_in (fun j h1 h2 => hf j (by omega)) q9), (panX_in (fun j h1 h2 => hf j (by omega)) q10), (seaX_in (fun j h1 h2 => hf j (by omega)) q11)⟩
theorem cls_papo {h h' : mH} {C n : Nat} {p po : pS} {e eo : eS} {y yo : yS} {ln : Nat} {bt : Nat → Int32} {wr : Bool} {fk fp sp : Int32} {po' : pS} (q : clsP h C n p po e eo y yo ln bt wr fk fp sp) (hf : frm h h' (C + 14) (C + 27)) (hn : pap h' (C + 14) n po') : clsP h' C n p po' e eo y yo ln bt wr fk fp sp := by
  obtain ⟨q0, q1, q2, q3, q4, q5, q6, q7, q8, q9, q10, q11⟩ := q
  exact ⟨(hf C (by omega)).trans q0, (pap_in (fun j h1 h2 => hf j (by omega)) q1), hn, (she_in (fun j h1 h2 => hf j (by omega)) q3), (she_in (fun j h1 h2 => hf j (by omega)) q4), (see_in (fun j h1 h2 => hf j (by omega)) q5), (see_in (fun j h1 h2 => hf j (by omega)) q6), (by obtain ⟨kd, sa, bh, vl, t⟩ := q7; exact ⟨kd, sa, bh, vl, tap_in (fun j h1 h2 => hf j (by omega)) t⟩), (by obtain ⟨ds, dp, ad, vb, nu, fb, bh, oa, tr, t⟩ := q8; exact ⟨ds, dp, ad, vb, nu, fb, bh, oa, tr, txt_in (fun j h1 h2 => hf j (by omega)) t⟩), (shaX_in (fun j h1 h2 => hf j (by omega)) q9), (panX_in (fun j h1 h2 => hf j (by omega)) q10), (seaX_in (fun j h1 h2 => hf j (by omega)) q11)⟩
theorem cls_she {h h' : mH} {C n : Nat} {p po : pS} {e eo : eS} {y yo : yS} {ln : Nat} {bt : Nat → Int32} {wr : Bool} {fk fp sp : Int32} {e' : eS} (q : clsP h C n p po e eo y yo ln bt wr fk fp sp) (hf : frm h h' (C + 27) (C + 33)) (hn : she h' (C + 27) e') : clsP h' C n p po e' eo y yo ln bt wr fk fp sp := by
  obtain ⟨q0, q1, q2, q3, q4, q5, q6, q7, q8, q9, q10, q11⟩ := q
  exact ⟨(hf C (by omega)).trans q0, (pap_in (fun j h1 h2 => hf j (by omega)) q1), (pap_in (fun j h1 h2 => hf j (by omega)) q2), hn, (she_in (fun j h1 h2 => hf j (by omega)) q4), (see_in (fun j h1 h2 => hf j (by omega)) q5), (see_in (fun j h1 h2 => hf j (by omega)) q6), (by obtain ⟨kd, sa, bh, vl, t⟩ := q7; exact ⟨kd, sa, bh, vl, tap_in (fun j h1 h2 => hf j (by omega)) t⟩), (by obtain ⟨ds, dp, ad, vb, nu, fb, bh, oa, tr, t⟩ := q8; exact ⟨ds, dp, ad, vb, nu, fb, bh, oa, tr, txt_in (fun j h1 h2 => hf j (by omega)) t⟩), (shaX_in (fun j h1 h2 => hf j (by omega)) q9), (panX_in (fun j h1 h2 => hf j (by omega)) q10), (seaX_in (fun j h1 h2 => hf j (by omega)) q11)⟩
theorem cls_sheo {h h' : mH} {C n : Nat} {p po : pS} {e eo : eS} {y yo : yS} {ln : Nat} {bt : Nat → Int32} {wr : Bool} {fk fp sp : Int32} {eo' : eS} (q : clsP h C n p po e eo y yo ln bt wr fk fp sp) (hf : frm h h' (C + 33) (C + 39)) (hn : she h' (C + 33) eo') : clsP h' C n p po e eo' y yo ln bt wr fk fp sp := by
  obtain ⟨q0, q1, q2, q3, q4, q5, q6, q7, q8, q9, q10, q11⟩ := q
  exact ⟨(hf C (by omega)).trans q0, (pap_in (fun j h1 h2 => hf j (by omega)) q1), (pap_in (fun j h1 h2 => hf j (by omega)) q2), (she_in (fun j h1 h2 => hf j (by omega)) q3), hn, (see_in (fun j h1 h2 => hf j (by omega)) q5), (see_in (fun j h1 h2 => hf j (by omega)) q6), (by obtain ⟨kd, sa, bh, vl, t⟩ := q7; exact ⟨kd, sa, bh, vl, tap_in (fun j h1 h2 => hf j (by omega)) t⟩), (by obtain ⟨ds, dp, ad, vb, nu, fb, bh, oa, tr, t⟩ := q8; exact ⟨ds, dp, ad, vb, nu, fb, bh, oa, tr, txt_in (fun j h1 h2 => hf j (by omega)) t⟩), (shaX_in (fun j h1 h2 => hf j (by omega)) q9), (panX_in (fun j h1 h2 => hf j (by omega)) q10), (seaX_in (fun j h1 h2 => hf j (by omega)) q11)⟩
theorem cls_see {h h' : mH} {C n : Nat} {p po : pS} {e eo : eS} {y yo : yS} {ln : Nat} {bt : Nat → Int32} {wr : Bool} {fk fp sp : Int32} {y' : yS} (q : clsP h C n p po e eo y yo ln bt wr fk fp sp) (hf : frm h h' (C + 39) (C + 42)) (hn : see h' (C + 39) y') : clsP h' C n p po e eo y' yo ln bt wr fk fp sp := by
  obtain ⟨q0, q1, q2, q3, q4, q5, q6, q7, q8, q9, q10, q11⟩ := q
  exact ⟨(hf C (by omega)).trans q0, (pap_in (fun j h1 h2 => hf j (by omega)) q1), (pap_in (fun j h1 h2 => hf j (by omega)) q2), (she_in (fun j h1 h2 => hf j (by omega)) q3), (she_in (fun j h1 h2 => hf j (by omega)) q4), hn, (see_in (fun j h1 h2 => hf j (by omega)) q6), (by obtain ⟨kd, sa, bh, vl, t⟩ := q7; exact ⟨kd, sa, bh, vl, tap_in (fun j h1 h2 => hf j (by omega)) t⟩), (by obtain ⟨ds, dp, ad, vb, nu, fb, bh, oa, tr, t⟩ := q8; exact ⟨ds, dp, ad, vb, nu, fb, bh, oa, tr, txt_in (fun j h1 h2 => hf j (by omega)) t⟩), (shaX_in (fun j h1 h2 => hf j (by omega)) q9), (panX_in (fun j h1 h2 => hf j (by omega)) q10), (seaX_in (fun j h1 h2 => hf j (by omega)) q11)⟩
theorem cls_seeo {h h' : mH} {C n : Nat} {p po : pS} {e eo : eS} {y yo : yS} {ln : Nat} {bt : Nat → Int32} {wr : Bool} {fk fp sp : Int32} {yo' : yS} (q : clsP h C n p po e eo y yo ln bt wr fk fp sp) (hf : frm h h' (C + 42) (C + 45)) (hn : see h' (C + 42) yo') : clsP h' C n p po e eo y yo' ln bt wr fk fp sp := by
  obtain ⟨q0, q1, q2, q3, q4, q5, q6, q7, q8, q9, q10, q11⟩ := q
  exact ⟨(hf C (by omega)).trans q0, (pap_in (fun j h1 h2 => hf j (by omega)) q1), (pap_in (fun j h1 h2 => hf j (by omega)) q2), (she_in (fun j h1 h2 => hf j (by omega)) q3), (she_in (fun j h1 h2 => hf j (by omega)) q4), (see_in (fun j h1 h2 => hf j (by omega)) q5), hn, (by obtain ⟨kd, sa, bh, vl, t⟩ := q7; exact ⟨kd, sa, bh, vl, tap_in (fun j h1 h2 => hf j (by omega)) t⟩), (by obtain ⟨ds, dp, ad, vb, nu, fb, bh, oa, tr, t⟩ := q8; exact ⟨ds, dp, ad, vb, nu, fb, bh, oa, tr, txt_in (fun j h1 h2 => hf j (by omega)) t⟩), (shaX_in (fun j h1 h2 => hf j (by omega)) q9), (panX_in (fun j h1 h2 => hf j (by omega)) q10), (seaX_in (fun j h1 h2 => hf j (by omega)) q11)⟩
theorem cls_tap {h h' : mH} {C n : Nat} {p po : pS} {e eo : eS} {y yo : yS} {ln : Nat} {bt : Nat → Int32} {wr : Bool} {fk fp sp : Int32} {ln' : Nat} {bt' : Nat → Int32} (q : clsP h C n p po e eo y yo ln bt wr fk fp sp) (hf : frm h h' (C + 45) (C + 47)) (hn : ∃ kd sa bh vl, tap h' (C + 45) (nI ln') kd sa bh vl bt') : clsP h' C n p po e eo y yo ln' bt' wr fk fp sp := by
  obtain ⟨q0, q1, q2, q3, q4, q5, q6, q7, q8, q9, q10, q11⟩ := q
  exact ⟨(hf C (by omega)).trans q0, (pap_in (fun j h1 h2 => hf j (by omega)) q1), (pap_in (fun j h1 h2 => hf j (by omega)) q2), (she_in (fun j h1 h2 => hf j (by omega)) q3), (she_in (fun j h1 h2 => hf j (by omega)) q4), (see_in (fun j h1 h2 => hf j (by omega)) q5), (see_in (fun j h1 h2 => hf j (by omega)) q6), hn, (by obtain ⟨ds, dp, ad, vb, nu, fb, bh, oa, tr, t⟩ := q8; exact ⟨ds, dp, ad, vb, nu, fb, bh, oa, tr, txt_in (fun j h1 h2 => hf j (by omega)) t⟩), (shaX_in (fun j h1 h2 => hf j (by omega)) q9), (panX_in (fun j h1 h2 => hf j (by omega)) q10), (seaX_in (fun j h1 h2 => hf j (by omega)) q11)⟩
theorem cls_txt {h h' : mH} {C n : Nat} {p po : pS} {e eo : eS} {y yo : yS} {ln : Nat} {bt : Nat → Int32} {wr : Bool} {fk fp sp : Int32} {wr' : Bool} {fk' fp' sp' : Int32} (q : clsP h C n p po e eo y yo ln bt wr fk fp sp) (hf : frm h h' (C + 47) (C + 54)) (hn : ∃ ds dp ad vb nu fb bh oa tr, txt h' (C + 47) wr' fk' fp' sp' ds dp ad vb nu fb bh oa tr) : clsP h' C n p po e eo y yo ln bt wr' fk' fp' sp' := by
  obtain ⟨q0, q1, q2, q3, q4, q5, q6, q7, q8, q9, q10, q11⟩ := q
  exact ⟨(hf C (by omega)).trans q0, (pap_in (fun j h1 h2 => hf j (by omega)) q1), (pap_in (fun j h1 h2 => hf j (by omega)) q2), (she_in (fun j h1 h2 => hf j (by omega)) q3), (she_in (fun j h1 h2 => hf j (by omega)) q4), (see_in (fun j h1 h2 => hf j (by omega)) q5), (see_in (fun j h1 h2 => hf j (by omega)) q6), (by obtain ⟨kd, sa, bh, vl, t⟩ := q7; exact ⟨kd, sa, bh, vl, tap_in (fun j h1 h2 => hf j (by omega)) t⟩), hn, (shaX_in (fun j h1 h2 => hf j (by omega)) q9), (panX_in (fun j h1 h2 => hf j (by omega)) q10), (seaX_in (fun j h1 h2 => hf j (by omega)) q11)⟩
theorem cls_sha {h h' : mH} {C n : Nat} {p po : pS} {e eo : eS} {y yo : yS} {ln : Nat} {bt : Nat → Int32} {wr : Bool} {fk fp sp : Int32}  (q : clsP h C n p po e eo y yo ln bt wr fk fp sp) (hf : frm h h' (C + 54) (C + 56)) (hn : shaX h' (C + 54)) : clsP h' C n p po e eo y yo ln bt wr fk fp sp := by
  obtain ⟨q0, q1, q2, q3, q4, q5, q6, q7, q8, q9, q10, q11⟩ := q
  exact ⟨(hf C (by omega)).trans q0, (pap_in (fun j h1 h2 => hf j (by omega)) q1), (pap_in (fun j h1 h2 => hf j (by omega)) q2), (she_in (fun j h1 h2 => hf j (by omega)) q3), (she_in (fun j h1 h2 => hf j (by omega)) q4), (see_in (fun j h1 h2 => hf j (by omega)) q5), (see_in (fun j h1 h2 => hf j (by omega)) q6), (by obtain ⟨kd, sa, bh, vl, t⟩ := q7; exact ⟨kd, sa, bh, vl, tap_in (fun j h1 h2 => hf j (by omega)) t⟩), (by obtain ⟨ds, dp, ad, vb, nu, fb, bh, oa, tr, t⟩ := q8; exact ⟨ds, dp, ad, vb, nu, fb, bh, oa, tr, txt_in (fun j h1 h2 => hf j (by omega)) t⟩), hn, (panX_in (fun j h1 h2 => hf j (by omega)) q10), (seaX_in (fun j h1 h2 => hf j (by omega)) q11)⟩
theorem cls_pan {h h' : mH} {C n : Nat} {p po : pS} {e eo : eS} {y yo : yS} {ln : Nat} {bt : Nat → Int32} {wr : Bool} {fk fp sp : Int32}  (q : clsP h C n p po e eo y yo ln bt wr fk fp sp) (hf : frm h h' (C + 56) (C + 60)) (hn : panX h' (C + 56)) : clsP h' C n p po e eo y yo ln bt wr fk fp sp := by
  obtain ⟨q0, q1, q2, q3, q4, q5, q6, q7, q8, q9, q10, q11⟩ := q
  exact ⟨(hf C (by omega)).trans q0, (pap_in (fun j h1 h2 => hf j (by omega)) q1), (pap_in (fun j h1 h2 => hf j (by omega)) q2), (she_in (fun j h1 h2 => hf j (by omega)) q3), (she_in (fun j h1 h2 => hf j (by omega)) q4), (see_in (fun j h1 h2 => hf j (by omega)) q5), (see_in (fun j h1 h2 => hf j (by omega)) q6), (by obtain ⟨kd, sa, bh, vl, t⟩ := q7; exact ⟨kd, sa, bh, vl, tap_in (fun j h1 h2 => hf j (by omega)) t⟩), (by obtain ⟨ds, dp, ad, vb, nu, fb, bh, oa, tr, t⟩ := q8; exact ⟨ds, dp, ad, vb, nu, fb, bh, oa, tr, txt_in (fun j h1 h2 => hf j (by omega)) t⟩), (shaX_in (fun j h1 h2 => hf j (by omega)) q9), hn, (seaX_in (fun j h1 h2 => hf j (by omega)) q11)⟩
theorem cls_sea {h h' : mH} {C n : Nat} {p po : pS} {e eo : eS} {y yo : yS} {ln : Nat} {bt : Nat → Int32} {wr : Bool} {fk fp sp : Int32}  (q : clsP h C n p po e eo y yo ln bt wr fk fp sp) (hf : frm h h' (C + 60) (C + 102)) (hn : seaX h' (C + 60)) : clsP h' C n p po e eo y yo ln bt wr fk fp sp := by
  obtain ⟨q0, q1, q2, q3, q4, q5, q6, q7, q8, q9, q10, q11⟩ := q
  exact ⟨(hf C (by omega)).trans q0, (pap_in (fun j h1 h2 => hf j (by omega)) q1), (pap_in (fun j h1 h2 => hf j (by omega)) q2), (she_in (fun j h1 h2 => hf j (by omega)) q3), (she_in (fun j h1 h2 => hf j (by omega)) q4), (see_in (fun j h1 h2 => hf j (by omega)) q5), (see_in (fun j h1 h2 => hf j (by omega)) q6), (by obtain ⟨kd, sa, bh, vl, t⟩ := q7; exact ⟨kd, sa, bh, vl, tap_in (fun j h1 h2 => hf j (by omega)) t⟩), (by obtain ⟨ds, dp, ad, vb, nu, fb, bh, oa, tr, t⟩ := q8; exact ⟨ds, dp, ad, vb, nu, fb, bh, oa, tr, txt_in (fun j h1 h2 => hf j (by omega)) t⟩), (shaX_in (fun j h1 h2 => hf j (by omega)) q9), (panX_in (fun j h1 h2 => hf j (by omega)) q10), hn⟩
theorem k_isWithin {G : mG} {h : mH} {x lo hi : Int32} (d : Nat) : EV G m_X10_isWithin d 0 0 [.int x, .int lo, .int hi] h (RE (some (.int (bI (win x lo hi)))) h) := by
  refine ev_3_0 rfl rfl rfl (by decide +kernel) (by decide +kernel) ?_
  refine z_ild0 (n := 1) (by decide +kernel) ?_
  refine z_ild1 (n := 2) (by decide +kernel) ?_
  refine z_icmp_lt (n := 5) (off := 12) (tgt := 14) (by decide +kernel) (fun c2 => ?_) (fun c2 => ?_)
  · refine z_iconst (n := 15) (q := 0) (v := 0) (by decide +kernel) ?_
    first | refine z_zr1 (by decide +kernel) rfl (Nat.le_refl _) ?_ | refine z_zr0 (by decide +kernel) rfl (Nat.le_refl _) ?_ | refine z_zrb (by decide +kernel) rfl (Nat.le_refl _) ?_
    exact ⟨by unfold win; simp only [eq_true c2, decide_true, decide_false, Bool.and_true, Bool.and_false, Bool.true_and, Bool.false_and, Bool.or_true, Bool.or_false, Bool.true_or, Bool.false_or, Bool.not_true, Bool.not_false, if_true, if_false], rfl⟩
  · refine z_ild0 (n := 6) (by decide +kernel) ?_
    refine z_ild2 (n := 7) (by decide +kernel) ?_
    refine z_icmp_gt (n := 10) (off := 7) (tgt := 14) (by decide +kernel) (fun c7 => ?_) (fun c7 => ?_)
    · refine z_iconst (n := 15) (q := 0) (v := 0) (by decide +kernel) ?_
      first | refine z_zr1 (by decide +kernel) rfl (Nat.le_refl _) ?_ | refine z_zr0 (by decide +kernel) rfl (Nat.le_refl _) ?_ | refine z_zrb (by decide +kernel) rfl (Nat.le_refl _) ?_
      exact ⟨by unfold win; simp only [eq_false c2, eq_true c7, decide_true, decide_false, Bool.and_true, Bool.and_false, Bool.true_and, Bool.false_and, Bool.or_true, Bool.or_false, Bool.true_or, Bool.false_or, Bool.not_true, Bool.not_false, if_true, if_false], rfl⟩
    · refine z_iconst (n := 11) (q := 1) (v := 1) (by decide +kernel) ?_
      refine z_goto (n := 14) (off := 4) (tgt := 15) (by decide +kernel) ?_
      first | refine z_zr1 (by decide +kernel) rfl (Nat.le_refl _) ?_ | refine z_zr0 (by decide +kernel) rfl (Nat.le_refl _) ?_ | refine z_zrb (by decide +kernel) rfl (Nat.le_refl _) ?_
      exact ⟨by unfold win; simp only [eq_false c2, eq_false c7, decide_true, decide_false, Bool.and_true, Bool.and_false, Bool.true_and, Bool.false_and, Bool.or_true, Bool.or_false, Bool.true_or, Bool.false_or, Bool.not_true, Bool.not_false, if_true, if_false], rfl⟩
theorem k_isAngle {G : mG} {h : mH} {x : Int32} (d : Nat) (hd : 1 ≤ d) : EV G m_X10_isAngle d 0 0 [.int x] h (RE (some (.int (bI (win x (-180) 180)))) h) := by
  refine ev_1_0 rfl (by decide +kernel) (by decide +kernel) ?_
  refine z_ild0 (n := 1) (by decide +kernel) ?_
  refine z_sipush (n := 4) (q := -180) (v := -180) (by decide +kernel) ?_
  refine z_sipush (n := 7) (q := 180) (v := 180) (by decide +kernel) ?_
  refine z_s3 (n := 10) (idx := 85) (by decide +kernel) ml_X10_85 (Nat.le_of_ble_eq_true rfl) (by omega) ⟨Nat.le_refl _, Nat.le_refl _⟩ (k_isWithin 0) ?_
  first | refine z_zr1 (by decide +kernel) rfl (Nat.le_refl _) ?_ | refine z_zr0 (by decide +kernel) rfl (Nat.le_refl _) ?_ | refine z_zrb (by decide +kernel) rfl (Nat.le_refl _) ?_
  exact ⟨rfl, rfl⟩
theorem k_isPush {G : mG} {h : mH} {x : Int32} (d : Nat) (hd : 1 ≤ d) : EV G m_X10_isPush d 0 0 [.int x] h (RE (some (.int (bI (win x (-1000000) 1000000)))) h) := by
  refine ev_1_0 rfl (by decide +kernel) (by decide +kernel) ?_
  refine z_ild0 (n := 1) (by decide +kernel) ?_
  refine z_ldcw (n := 4) (q := 315) (by decide +kernel) lc_X10_315 ?_
  refine z_ldcw (n := 7) (q := 316) (by decide +kernel) lc_X10_316 ?_
  refine z_s3 (n := 10) (idx := 85) (by decide +kernel) ml_X10_85 (Nat.le_of_ble_eq_true rfl) (by omega) ⟨Nat.le_refl _, Nat.le_refl _⟩ (k_isWithin 0) ?_
  first | refine z_zr1 (by decide +kernel) rfl (Nat.le_refl _) ?_ | refine z_zr0 (by decide +kernel) rfl (Nat.le_refl _) ?_ | refine z_zrb (by decide +kernel) rfl (Nat.le_refl _) ?_
  exact ⟨rfl, rfl⟩
theorem k_isSearch {G : mG} {h : mH} {x y : Int32} (d : Nat) (hd : 1 ≤ d) : EV G m_X10_isSearch d 0 0 [.int x, .int y] h (RE (some (.int (bI (win x 2 12 && win y 1 3)))) h) := by
  refine ev_2_0 rfl rfl (by decide +kernel) (by decide +kernel) ?_
  refine z_ild0 (n := 1) (by decide +kernel) ?_
  refine z_iconst (n := 2) (q := 2) (v := 2) (by decide +kernel) ?_
  refine z_bipush (n := 4) (q := 12) (v := 12) (by decide +kernel) ?_
  refine z_s3 (n := 7) (idx := 85) (by decide +kernel) ml_X10_85 (Nat.le_of_ble_eq_true rfl) (by omega) ⟨Nat.le_refl _, Nat.le_refl _⟩ (k_isWithin 0) ?_
  refine z_ifb_eq (n := 10) (off := 16) (tgt := 23) (by decide +kernel) (fun c7 => ?_) (fun c7 => ?_)
  · refine z_iconst (n := 24) (q := 0) (v := 0) (by decide +kernel) ?_
    first | refine z_zr1 (by decide +kernel) rfl (Nat.le_refl _) ?_ | refine z_zr0 (by decide +kernel) rfl (Nat.le_refl _) ?_ | refine z_zrb (by decide +kernel) rfl (Nat.le_refl _) ?_
    exact ⟨by simp only [c7, decide_true, decide_false, Bool.and_true, Bool.and_false, Bool.true_and, Bool.false_and, Bool.or_true, Bool.or_false, Bool.true_or, Bool.false_or, Bool.not_true, Bool.not_false, if_true, if_false], rfl⟩
  · refine z_ild1 (n := 11) (by decide +kernel) ?_
    refine z_iconst (n := 12) (q := 1) (v := 1) (by decide +kernel) ?_
    refine z_iconst (n := 13) (q := 3) (v := 3) (by decide +kernel) ?_
    refine z_s3 (n := 16) (idx := 85) (by decide +kernel) ml_X10_85 (Nat.le_of_ble_eq_true rfl) (by omega) ⟨Nat.le_refl _, Nat.le_refl _⟩ (k_isWithin 0) ?_
    refine z_ifb_eq (n := 19) (off := 7) (tgt := 23) (by decide +kernel) (fun c16 => ?_) (fun c16 => ?_)
    · refine z_iconst (n := 24) (q := 0) (v := 0) (by decide +kernel) ?_
      first | refine z_zr1 (by decide +kernel) rfl (Nat.le_refl _) ?_ | refine z_zr0 (by decide +kernel) rfl (Nat.le_refl _) ?_ | refine z_zrb (by decide +kernel) rfl (Nat.le_refl _) ?_
      exact ⟨by simp only [c7, c16, decide_true, decide_false, Bool.and_true, Bool.and_false, Bool.true_and, Bool.false_and, Bool.or_true, Bool.or_false, Bool.true_or, Bool.false_or, Bool.not_true, Bool.not_false, if_true, if_false], rfl⟩
    · refine z_iconst (n := 20) (q := 1) (v := 1) (by decide +kernel) ?_
      refine z_goto (n := 23) (off := 4) (tgt := 24) (by decide +kernel) ?_
      first | refine z_zr1 (by decide +kernel) rfl (Nat.le_refl _) ?_ | refine z_zr0 (by decide +kernel) rfl (Nat.le_refl _) ?_ | refine z_zrb (by decide +kernel) rfl (Nat.le_refl _) ?_
      exact ⟨by simp only [c7, c16, decide_true, decide_false, Bool.and_true, Bool.and_false, Bool.true_and, Bool.false_and, Bool.or_true, Bool.or_false, Bool.true_or, Bool.false_or, Bool.not_true, Bool.not_false, if_true, if_false], rfl⟩
def rulS (a b c d : Int32) (s : pS) : pS := (fun i => match i with
  | 0 => a
  | 1 => b
  | 2 => c
  | 3 => d
  | i => s.1 i, s.2)
def rulB (a b c d : Int32) : Bool := win a 0 1000 && win b 0 1000 && win c 1 1000 && win d 1 40
theorem k_rules {G : mG} {h : mH} {C n : Nat} {p po : pS} {e eo : eS} {y yo : yS} {ln : Nat} {bt : Nat → Int32} {wr : Bool} {fk fp sp a b c f : Int32} (d : Nat) (hd : 1 ≤ d) (hc : clsP h C n p po e eo y yo ln bt wr fk fp sp) : EV G m_X10_rules d 0 0 [.ref C, .int a, .int b, .int c, .int f] h (fun r h' => r = some (.int (bI (rulB a b c f))) ∧ frm h h' C (C + 102) ∧ clsP h' C n (if rulB a b c f = true then rulS a b c f p else p) po e eo y yo ln bt wr fk fp sp) := by
  have hc0 := hc
  obtain ⟨hC, ⟨tl, ht, hB, hS, hP, hL, hU, hT, hCr, g1, g2, g3, g4, g5, g6⟩, -⟩ := hc
  refine ev_5_1 rfl rfl rfl rfl rfl (by decide +kernel) (by decide +kernel) ?_
  have no : rulB a b c f = false → Z G m_X10_rules d 0 0 0 0 53 [some (.ref C), some (.int a), some (.int b), some (.int c), some (.int f), some (.int 0)] [.int 0] h (fun r h' => r = some (.int (bI (rulB a b c f))) ∧ frm h h' C (C + 102) ∧ clsP h' C n (if rulB a b c f = true then rulS a b c f p else p) po e eo y yo ln bt wr fk fp sp) := by
    intro hb
    rw [hb]
    refine z_if_eq_t (n := 56) (off := 36) (tgt := 89) (by decide +kernel) (rfl) ?_
    refine z_ild5 (n := 91) (by decide +kernel) ?_
    first | refine z_zr1 (by decide +kernel) rfl (Nat.le_refl _) ?_ | refine z_zr0 (by decide +kernel) rfl (Nat.le_refl _) ?_ | refine z_zrb (by decide +kernel) rfl (Nat.le_refl _) ?_
    exact ⟨rfl, frm_rf, hc0⟩
  have ya : rulB a b c f = true → Z G m_X10_rules d 0 0 0 0 53 [some (.ref C), some (.int a), some (.int b), some (.int c), some (.int f), some (.int 1)] [.int 1] h (fun r h' => r = some (.int (bI (rulB a b c f))) ∧ frm h h' C (C + 102) ∧ clsP h' C n (if rulB a b c f = true then rulS a b c f p else p) po e eo y yo ln bt wr fk fp sp) := by
    intro hb
    rw [hb]
    refine z_if_eq_f (n := 56) (off := 36) (tgt := 89) (by decide +kernel) (by decide) ?_
    refine z_ald0 (n := 57) (by decide +kernel) ?_
    refine z_getf (n := 60) (idx := 23) (by decide +kernel) fl_X10_23 (by first | assumption | (simp (disch := omega) only [hu_s, hu_n]; first | assumption | rfl)) (by rfl) ?_
    refine z_ild1 (n := 61) (by decide +kernel) ?_
    refine z_putf (n := 64) (idx := 89) (ty := .int) (by decide +kernel) fl_X10_89 (by first | assumption | (simp (disch := omega) only [hu_s, hu_n]; first | assumption | rfl)) ⟨_, _, _, rfl, rfl, by decide +kernel⟩ rfl rfl (Nat.le_of_ble_eq_true rfl) ?_
    refine z_ald0 (n := 65) (by decide +kernel) ?_
    refine z_getf (n := 68) (idx := 23) (by decide +kernel) fl_X10_23 (by first | assumption | (simp (disch := omega) only [hu_s, hu_n]; first | assumption | rfl)) (by rfl) ?_
    refine z_ild2 (n := 69) (by decide +kernel) ?_
    refine z_putf (n := 72) (idx := 93) (ty := .int) (by decide +kernel) fl_X10_93 (by first | assumption | (simp (disch := omega) only [hu_s, hu_n]; first | assumption | rfl)) ⟨_, _, _, rfl, rfl, by decide +kernel⟩ rfl rfl (Nat.le_of_ble_eq_true rfl) ?_
    refine z_ald0 (n := 73) (by decide +kernel) ?_
    refine z_getf (n := 76) (idx := 23) (by decide +kernel) fl_X10_23 (by first | assumption | (simp (disch := omega) only [hu_s, hu_n]; first | assumption | rfl)) (by rfl) ?_
    refine z_ild3 (n := 77) (by decide +kernel) ?_
    refine z_putf (n := 80) (idx := 96) (ty := .int) (by decide +kernel) fl_X10_96 (by first | assumption | (simp (disch := omega) only [hu_s, hu_n]; first | assumption | rfl)) ⟨_, _, _, rfl, rfl, by decide +kernel⟩ rfl rfl (Nat.le_of_ble_eq_true rfl) ?_
    refine z_ald0 (n := 81) (by decide +kernel) ?_
    refine z_getf (n := 84) (idx := 23) (by decide +kernel) fl_X10_23 (by first | assumption | (simp (disch := omega) only [hu_s, hu_n]; first | assumption | rfl)) (by rfl) ?_
    refine z_ild4 (n := 86) (by decide +kernel) ?_
    refine z_putf (n := 89) (idx := 99) (ty := .int) (by decide +kernel) fl_X10_99 (by first | assumption | (simp (disch := omega) only [hu_s, hu_n]; first | assumption | rfl)) ⟨_, _, _, rfl, rfl, by decide +kernel⟩ rfl rfl (Nat.le_of_ble_eq_true rfl) ?_
    refine z_ild5 (n := 91) (by decide +kernel) ?_
    first | refine z_zr1 (by decide +kernel) rfl (Nat.le_refl _) ?_ | refine z_zr0 (by decide +kernel) rfl (Nat.le_refl _) ?_ | refine z_zrb (by decide +kernel) rfl (Nat.le_refl _) ?_
    exact ⟨rfl, by intro j9 hj9; simp (disch := omega) only [hu_n], cls_pap hc0 (by intro j9 hj9; simp (disch := omega) only [hu_n]) ⟨tl, ht, (by simp (disch := omega) only [hTn, hCr, hFl, hu_s, hu_n]; first | done | assumption | rfl), (by simp (disch := omega) only [hTn, hCr, hFl, hu_s, hu_n]; first | done | assumption | rfl), (by simp (disch := omega) only [hTn, hCr, hFl, hu_s, hu_n]; first | done | assumption | rfl), (by simp (disch := omega) only [hTn, hCr, hFl, hu_s, hu_n]; first | done | assumption | rfl), (by simp (disch := omega) only [hTn, hCr, hFl, hu_s, hu_n]; first | done | assumption | rfl), (by simp (disch := omega) only [hTn, hCr, hFl, hu_s, hu_n]; first | done | assumption | rfl), (by simp (disch := omega) only [hTn, hCr, hFl, hu_s, hu_n]; first | done | assumption | rfl), (by simp (disch := omega) only [hTn, hCr, hFl, hu_s, hu_n]; first | done | assumption | rfl), (by simp (disch := omega) only [hTn, hCr, hFl, hu_s, hu_n]; first | done | assumption | rfl), (by simp (disch := omega) only [hTn, hCr, hFl, hu_s, hu_n]; first | done | assumption | rfl), (by simp (disch := omega) only [hTn, hCr, hFl, hu_s, hu_n]; first | done | assumption | rfl), (by simp (disch := omega) only [hTn, hCr, hFl, hu_s, hu_n]; first | done | assumption | rfl), (by simp (disch := omega) only [hTn, hCr, hFl, hu_s, hu_n]; first | done | assumption | rfl)⟩⟩
  refine z_ild1 (n := 1) (by decide +kernel) ?_
  refine z_iconst (n := 2) (q := 0) (v := 0) (by decide +kernel) ?_
  refine z_sipush (n := 5) (q := 1000) (v := 1000) (by decide +kernel) ?_
  refine z_s3 (n := 8) (idx := 85) (by decide +kernel) ml_X10_85 (Nat.le_of_ble_eq_true rfl) (by omega) ⟨Nat.le_refl _, Nat.le_refl _⟩ (k_isWithin 0) ?_
  refine z_ifb_eq (n := 11) (off := 40) (tgt := 48) (by decide +kernel) (fun c8 => ?_) (fun c8 => ?_)
  · refine z_iconst (n := 49) (q := 0) (v := 0) (by decide +kernel) ?_
    refine z_ist5 (n := 51) (by decide +kernel) rfl ?_
    refine z_ild5 (n := 53) (by decide +kernel) ?_
    first | exact ya (by unfold rulB; simp only [c8, decide_true, decide_false, Bool.and_true, Bool.and_false, Bool.true_and, Bool.false_and, Bool.or_true, Bool.or_false, Bool.true_or, Bool.false_or, Bool.not_true, Bool.not_false, if_true, if_false]) | exact no (by unfold rulB; simp only [c8, decide_true, decide_false, Bool.and_true, Bool.and_false, Bool.true_and, Bool.false_and, Bool.or_true, Bool.or_false, Bool.true_or, Bool.false_or, Bool.not_true, Bool.not_false, if_true, if_false])
  · refine z_ild2 (n := 12) (by decide +kernel) ?_
    refine z_iconst (n := 13) (q := 0) (v := 0) (by decide +kernel) ?_
    refine z_sipush (n := 16) (q := 1000) (v := 1000) (by decide +kernel) ?_
    refine z_s3 (n := 19) (idx := 85) (by decide +kernel) ml_X10_85 (Nat.le_of_ble_eq_true rfl) (by omega) ⟨Nat.le_refl _, Nat.le_refl _⟩ (k_isWithin 0) ?_
    refine z_ifb_eq (n := 22) (off := 29) (tgt := 48) (by decide +kernel) (fun c19 => ?_) (fun c19 => ?_)
    · refine z_iconst (n := 49) (q := 0) (v := 0) (by decide +kernel) ?_
      refine z_ist5 (n := 51) (by decide +kernel) rfl ?_
      refine z_ild5 (n := 53) (by decide +kernel) ?_
      first | exact ya (by unfold rulB; simp only [c8, c19, decide_true, decide_false, Bool.and_true, Bool.and_false, Bool.true_and, Bool.false_and, Bool.or_true, Bool.or_false, Bool.true_or, Bool.false_or, Bool.not_true, Bool.not_false, if_true, if_false]) | exact no (by unfold rulB; simp only [c8, c19, decide_true, decide_false, Bool.and_true, Bool.and_false, Bool.true_and, Bool.false_and, Bool.or_true, Bool.or_false, Bool.true_or, Bool.false_or, Bool.not_true, Bool.not_false, if_true, if_false])
    · refine z_ild3 (n := 23) (by decide +kernel) ?_
      refine z_iconst (n := 24) (q := 1) (v := 1) (by decide +kernel) ?_
      refine z_sipush (n := 27) (q := 1000) (v := 1000) (by decide +kernel) ?_
      refine z_s3 (n := 30) (idx := 85) (by decide +kernel) ml_X10_85 (Nat.le_of_ble_eq_true rfl) (by omega) ⟨Nat.le_refl _, Nat.le_refl _⟩ (k_isWithin 0) ?_
      refine z_ifb_eq (n := 33) (off := 18) (tgt := 48) (by decide +kernel) (fun c30 => ?_) (fun c30 => ?_)
      · refine z_iconst (n := 49) (q := 0) (v := 0) (by decide +kernel) ?_
        refine z_ist5 (n := 51) (by decide +kernel) rfl ?_
        refine z_ild5 (n := 53) (by decide +kernel) ?_
        first | exact ya (by unfold rulB; simp only [c8, c19, c30, decide_true, decide_false, Bool.and_true, Bool.and_false, Bool.true_and, Bool.false_and, Bool.or_true, Bool.or_false, Bool.true_or, Bool.false_or, Bool.not_true, Bool.not_false, if_true, if_false]) | exact no (by unfold rulB; simp only [c8, c19, c30, decide_true, decide_false, Bool.and_true, Bool.and_false, Bool.true_and, Bool.false_and, Bool.or_true, Bool.or_false, Bool.true_or, Bool.false_or, Bool.not_true, Bool.not_false, if_true, if_false])
      · refine z_ild4 (n := 35) (by decide +kernel) ?_
        refine z_iconst (n := 36) (q := 1) (v := 1) (by decide +kernel) ?_
        refine z_bipush (n := 38) (q := 40) (v := 40) (by decide +kernel) ?_
        refine z_s3 (n := 41) (idx := 85) (by decide +kernel) ml_X10_85 (Nat.le_of_ble_eq_true rfl) (by omega) ⟨Nat.le_refl _, Nat.le_refl _⟩ (k_isWithin 0) ?_
        refine z_ifb_eq (n := 44) (off := 7) (tgt := 48) (by decide +kernel) (fun c41 => ?_) (fun c41 => ?_)
        · refine z_iconst (n := 49) (q := 0) (v := 0) (by decide +kernel) ?_
          refine z_ist5 (n := 51) (by decide +kernel) rfl ?_
          refine z_ild5 (n := 53) (by decide +kernel) ?_
          first | exact ya (by unfold rulB; simp only [c8, c19, c30, c41, decide_true, decide_false, Bool.and_true, Bool.and_false, Bool.true_and, Bool.false_and, Bool.or_true, Bool.or_false, Bool.true_or, Bool.false_or, Bool.not_true, Bool.not_false, if_true, if_false]) | exact no (by unfold rulB; simp only [c8, c19, c30, c41, decide_true, decide_false, Bool.and_true, Bool.and_false, Bool.true_and, Bool.false_and, Bool.or_true, Bool.or_false, Bool.true_or, Bool.false_or, Bool.not_true, Bool.not_false, if_true, if_false])
        · refine z_iconst (n := 45) (q := 1) (v := 1) (by decide +kernel) ?_
          refine z_goto (n := 48) (off := 4) (tgt := 49) (by decide +kernel) ?_
          refine z_ist5 (n := 51) (by decide +kernel) rfl ?_
          refine z_ild5 (n := 53) (by decide +kernel) ?_
          first | exact ya (by unfold rulB; simp only [c8, c19, c30, c41, decide_true, decide_false, Bool.and_true, Bool.and_false, Bool.true_and, Bool.false_and, Bool.or_true, Bool.or_false, Bool.true_or, Bool.false_or, Bool.not_true, Bool.not_false, if_true, if_false]) | exact no (by unfold rulB; simp only [c8, c19, c30, c41, decide_true, decide_false, Bool.and_true, Bool.and_false, Bool.true_and, Bool.false_and, Bool.or_true, Bool.or_false, Bool.true_or, Bool.false_or, Bool.not_true, Bool.not_false, if_true, if_false])
theorem k_fold {G : mG} {h : mH} {C n : Nat} {p po : pS} {e eo : eS} {y yo : yS} {ln : Nat} {bt : Nat → Int32} {wr : Bool} {fk fp sp x : Int32} {right : Bool} (d : Nat) (hd : 4 ≤ d) (hn : n + 1 < 2 ^ 31) (hc : clsP h C n p po e eo y yo ln bt wr fk fp sp) : EV G m_X10_fold d 0 0 [.ref C, .int x, .int (bI right)] h (fun r h' => r = some (.int (folP n x right p).1) ∧ frm h h' C (C + 102) ∧ clsP h' C n (folP n x right p).2 po e eo y yo ln bt wr fk fp sp) := by
  have hc0 := hc
  obtain ⟨hC, hp, -⟩ := hc
  have hB := hp.choose_spec.choose_spec.1
  refine ev_3_0 rfl rfl rfl (by decide +kernel) (by decide +kernel) ?_
  refine z_ald0 (n := 1) (by decide +kernel) ?_
  refine z_getf (n := 4) (idx := 23) (by decide +kernel) fl_X10_23 (by assumption) (by rfl) ?_
  refine z_ild1 (n := 5) (by decide +kernel) ?_
  refine z_ild2 (n := 6) (by decide +kernel) ?_
  refine z_w2 (n := 9) (idx := 102) (by decide +kernel) ml_X10_102 (by assumption) rfl (Nat.le_of_ble_eq_true rfl) (by omega) ⟨Nat.le_refl _, Nat.le_refl _⟩ (k_foldAt (n := n) 3 (by omega) hp hn) (fun h6 q6 => ?_)
  refine z_iret (by decide +kernel) rfl (Nat.le_refl _) ?_
  exact ⟨rfl, frm_wd q6.1 (by omega) (by omega), cls_pap hc0 q6.1 q6.2⟩
theorem k_hold {G : mG} {h : mH} {C n : Nat} {p po : pS} {e eo : eS} {y yo : yS} {ln : Nat} {bt : Nat → Int32} {wr : Bool} {fk fp sp x : Int32} (d : Nat) (hd : 4 ≤ d) (hn : n + 1 < 2 ^ 31) (hc : clsP h C n p po e eo y yo ln bt wr fk fp sp) : EV G m_X10_hold d 0 0 [.ref C, .int x] h (fun r h' => r = some (.int (if (hldP n x p).1 = true then (hldP n x p).2.1 4 else -1)) ∧ frm h h' C (C + 102) ∧ clsP h' C n (hldP n x p).2 po e eo y yo ln bt wr fk fp sp) := by
  have hc0 := hc
  obtain ⟨hC, hp, -⟩ := hc
  have hB := hp.choose_spec.choose_spec.1
  refine ev_2_0 rfl rfl (by decide +kernel) (by decide +kernel) ?_
  refine z_ald0 (n := 1) (by decide +kernel) ?_
  refine z_getf (n := 4) (idx := 23) (by decide +kernel) fl_X10_23 (by assumption) (by rfl) ?_
  refine z_ild1 (n := 5) (by decide +kernel) ?_
  refine z_w1 (n := 8) (idx := 106) (by decide +kernel) ml_X10_106 (by assumption) rfl (Nat.le_of_ble_eq_true rfl) (by omega) ⟨Nat.le_refl _, Nat.le_refl _⟩ (k_holdFor (n := n) 3 (by omega) hp hn) (fun h5 q5 => ?_)
  have hc1 := cls_pap hc0 q5.1 q5.2; have hC1 := hc1.1; have hB1 := q5.2.choose_spec.choose_spec.1
  refine z_ifb_eq (n := 11) (off := 13) (tgt := 21) (by decide +kernel) (fun c8 => ?_) (fun c8 => ?_)
  · refine z_iconst (n := 22) (q := -1) (v := -1) (by decide +kernel) ?_
    refine z_iret (by decide +kernel) rfl (Nat.le_refl _) ?_
    exact ⟨by simp only [c8, if_true]; try rfl, frm_wd q5.1 (by omega) (by omega), hc1⟩
  · refine z_ald0 (n := 12) (by decide +kernel) ?_
    refine z_getf (n := 15) (idx := 23) (by decide +kernel) fl_X10_23 (by assumption) (by rfl) ?_
    refine z_getf (n := 18) (idx := 110) (by decide +kernel) fl_X10_110 (by assumption) (by rfl) ?_
    refine z_goto (n := 21) (off := 4) (tgt := 22) (by decide +kernel) ?_
    refine z_iret (by decide +kernel) rfl (Nat.le_refl _) ?_
    exact ⟨by simp only [c8, if_true]; try rfl, frm_wd q5.1 (by omega) (by omega), hc1⟩
theorem k_open {G : mG} {h : mH} {C n : Nat} {p po : pS} {e eo : eS} {y yo : yS} {ln : Nat} {bt : Nat → Int32} {wr : Bool} {fk fp sp : Int32} (d : Nat) (hd : 4 ≤ d) (hn : n + 1 < 2 ^ 31) (hc : clsP h C n p po e eo y yo ln bt wr fk fp sp) : EV G m_X10_open d 0 0 [.ref C] h (fun r h' => r = some (.int (if (opnP n p).1 = true then (opnP n p).2.1 4 else -1)) ∧ frm h h' C (C + 102) ∧ clsP h' C n (opnP n p).2 po e eo y yo ln bt wr fk fp sp) := by
  have hc0 := hc
  obtain ⟨hC, hp, -⟩ := hc
  have hB := hp.choose_spec.choose_spec.1
  refine ev_1_0 rfl (by decide +kernel) (by decide +kernel) ?_
  refine z_ald0 (n := 1) (by decide +kernel) ?_
  refine z_getf (n := 4) (idx := 23) (by decide +kernel) fl_X10_23 (by assumption) (by rfl) ?_
  refine z_w0 (n := 7) (idx := 113) (by decide +kernel) ml_X10_113 (by assumption) rfl (Nat.le_of_ble_eq_true rfl) (by omega) ⟨Nat.le_refl _, Nat.le_refl _⟩ (k_openUp (n := n) 3 (by omega) hp hn) (fun h4 q4 => ?_)
  have hc1 := cls_pap hc0 q4.1 q4.2; have hC1 := hc1.1; have hB1 := q4.2.choose_spec.choose_spec.1
  refine z_ifb_eq (n := 10) (off := 13) (tgt := 20) (by decide +kernel) (fun c7 => ?_) (fun c7 => ?_)
  · refine z_iconst (n := 21) (q := -1) (v := -1) (by decide +kernel) ?_
    refine z_iret (by decide +kernel) rfl (Nat.le_refl _) ?_
    exact ⟨by simp only [c7, if_true]; try rfl, frm_wd q4.1 (by omega) (by omega), hc1⟩
  · refine z_ald0 (n := 11) (by decide +kernel) ?_
    refine z_getf (n := 14) (idx := 23) (by decide +kernel) fl_X10_23 (by assumption) (by rfl) ?_
    refine z_getf (n := 17) (idx := 110) (by decide +kernel) fl_X10_110 (by assumption) (by rfl) ?_
    refine z_goto (n := 20) (off := 4) (tgt := 21) (by decide +kernel) ?_
    refine z_iret (by decide +kernel) rfl (Nat.le_refl _) ?_
    exact ⟨by simp only [c7, if_true]; try rfl, frm_wd q4.1 (by omega) (by omega), hc1⟩
