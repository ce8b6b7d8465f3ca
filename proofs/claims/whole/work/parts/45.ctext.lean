/-! Text: reading -/
/-- the token at k is read; d DOs, e of them open -/
def cTk (h : mH) (P : Nat) (t : Nat → Int32) (L k d e : Nat) (ad : Int32) (vb nu : Nat → Int32) (tr : Nat → Bool) (fb bh oa : Nat → Int32) : Prop := (∃ vl, h P = oTok P t L k vl) ∧ h (P + 1) = aI 300 t ∧ txt h (P + 2) true 0 (-1) (-1) (nI d) (nI e) ad vb nu fb bh oa tr
def cBd (h : mH) (P : Nat) (t : Nat → Int32) (L : Nat) (f : Int32) (p : Nat) : Prop := (∃ kd sa bh vl, h P = oTap P (nI L) kd sa bh vl) ∧ h (P + 1) = aI 300 t ∧ ∃ ds dp ad vb nu fb bh oa tr, txt h (P + 2) true f (nI p) (-1) ds dp ad vb nu fb bh oa tr
theorem k_faultAt {G : mG} {h : mH} {P L k d e : Nat} {ad : Int32} {t vb nu fb bh oa : Nat → Int32} {tr : Nat → Bool} {f : Int32} (dd9 : Nat) (H : cTk h P t L k d e ad vb nu tr fb bh oa) : EV G m_X9_faultAt dd9 0 0 [.ref (P + 2), .ref P, .int f] h (fun r h' => r = some (.int (bI false)) ∧ (frm h h' P (P + 9) ∧ cBd h' P t L f (tS t L k))) := by
  obtain ⟨⟨vl, h0⟩, h1, h2, h3, h4, h5, h6, h7, h8⟩ := H
  refine ev_3_0 rfl rfl rfl (by decide +kernel) (by decide +kernel) ?_
  refine z_ald0 (n := 1) (by decide +kernel) ?_
  refine z_ild2 (n := 2) (by decide +kernel) ?_
  refine z_putf (n := 5) (idx := 42) (ty := .int) (by decide +kernel) fl_X9_42 (by first | assumption | (simp (disch := omega) only [hu_s, hu_n]; first | assumption | rfl)) ⟨_, _, _, rfl, rfl, by decide +kernel⟩ rfl rfl (Nat.le_of_ble_eq_true rfl) ?_
  refine z_ald0 (n := 6) (by decide +kernel) ?_
  refine z_ald1 (n := 7) (by decide +kernel) ?_
  refine z_getf (n := 10) (idx := 81) (by decide +kernel) fl_X9_81 (by first | assumption | (simp (disch := omega) only [hu_s, hu_n]; first | assumption | rfl)) (by rfl) ?_
  refine z_putf (n := 13) (idx := 9) (ty := .int) (by decide +kernel) fl_X9_9 (by first | assumption | (simp (disch := omega) only [hu_s, hu_n]; first | assumption | rfl)) ⟨_, _, _, rfl, rfl, by decide +kernel⟩ rfl rfl (Nat.le_of_ble_eq_true rfl) ?_
  refine z_iconst (n := 14) (q := 0) (v := 0) (by decide +kernel) ?_
  first | refine z_zr1 (by decide +kernel) rfl (Nat.le_refl _) ?_ | refine z_zr0 (by decide +kernel) rfl (Nat.le_refl _) ?_ | refine z_zrb (by decide +kernel) rfl (Nat.le_refl _) ?_
  exact ⟨rfl, fun j hj => by simp (disch := omega) only [hu_n], ⟨_, _, _, _, (by simp (disch := omega) only [hTn, hCr, hFl, hu_s, hu_n]; first | done | assumption | rfl)⟩, (by simp (disch := omega) only [hTn, hCr, hFl, hu_s, hu_n]; first | done | assumption | rfl), nI d, nI e, ad, vb, nu, fb, bh, oa, tr, (by simp (disch := omega) only [hTn, hCr, hFl, hu_s, hu_n]; first | done | assumption | rfl), (by simp (disch := omega) only [hTn, hCr, hFl, hu_s, hu_n]; first | done | assumption | rfl), (by simp (disch := omega) only [hTn, hCr, hFl, hu_s, hu_n]; first | done | assumption | rfl), (by simp (disch := omega) only [hTn, hCr, hFl, hu_s, hu_n]; first | done | assumption | rfl), (by simp (disch := omega) only [hTn, hCr, hFl, hu_s, hu_n]; first | done | assumption | rfl), (by simp (disch := omega) only [hTn, hCr, hFl, hu_s, hu_n]; first | done | assumption | rfl), (by simp (disch := omega) only [hTn, hCr, hFl, hu_s, hu_n]; first | done | assumption | rfl)⟩
theorem cTk_next {G : mG} {h : mH} {P L k d e : Nat} {ad : Int32} {t vb nu fb bh oa : Nat → Int32} {tr : Nat → Bool} (dd9 : Nat) (hd : 2 ≤ dd9) (hL : L ≤ 300) (hk : k ≤ L) (H : cTk h P t L k d e ad vb nu tr fb bh oa) : EV G m_X8_readToken dd9 0 0 [.ref P] h (fun r h' => r = none ∧ (frm h h' P (P + 9) ∧ cTk h' P t L (tE t L k) d e ad vb nu tr fb bh oa)) := by
  obtain ⟨⟨vl, h0⟩, h1, h2, h3, h4, h5, h6, h7, h8⟩ := H
  refine ev_mono (k_readToken (k := tE t L k) (t := t) (L := L) dd9 hd h0 h1 hL (tE_L hk)) ?_
  rintro r h' ⟨rfl, rfl⟩
  exact ⟨rfl, fun j hj => hu_n (by omega), ⟨_, hu_s⟩, (hu_n (by omega)).trans h1, (hu_n (by omega)).trans h2, (hu_n (by omega)).trans h3, (hu_n (by omega)).trans h4, (hu_n (by omega)).trans h5, (hu_n (by omega)).trans h6, (hu_n (by omega)).trans h7, (hu_n (by omega)).trans h8⟩
theorem k_txNumber {G : mG} {h : mH} {P L k d e : Nat} {ad : Int32} {t vb nu fb bh oa : Nat → Int32} {tr : Nat → Bool} {lo hi : Int32} (dd9 : Nat) (hd : 3 ≤ dd9) (hd4 : d < 40) (hL : L ≤ 300) (hk : k ≤ L) (H : cTk h P t L k (d + 1) e ad vb nu tr fb bh oa) : EV G m_X9_readNumber dd9 0 0 [.ref (P + 2), .ref P, .int lo, .int hi] h (fun r h' => ∃ x, r = some (.int (bI x)) ∧ (frm h h' P (P + 9) ∧ (x = true → nuC t L (tE t L k) lo hi = 0 ∧ cTk h' P t L (tE t L k) (d + 1) e ad vb (upd nu d (tV t L (tE t L k))) tr fb bh oa) ∧ (x = false → ¬ nuC t L (tE t L k) lo hi = 0 ∧ cBd h' P t L (nuC t L (tE t L k) lo hi) (tS t L (tE t L k))))) := by
  have hk1 := tE_L (t := t) (k := k) hk
  have HQ := H
  obtain ⟨⟨vl0, h0⟩, _⟩ := HQ
  refine ev_4_0 rfl rfl rfl rfl (by decide +kernel) (by decide +kernel) ?_
  refine z_ald1 (n := 1) (by decide +kernel) ?_
  refine z_w0v (n := 4) (idx := 56) (by decide +kernel) ml_X9_56 (by assumption) rfl (Nat.le_of_ble_eq_true rfl) (by omega) ⟨Nat.le_refl _, Nat.le_refl _⟩ (cTk_next (d := d + 1) (e := e) 2 (by omega) hL hk H) (fun h1 q1 => ?_)
  skip
  obtain ⟨f1, H1⟩ := q1
  have H1' := H1
  obtain ⟨⟨vl, e0⟩, e1, e2, e3, e4, e5, e6, e7, e8⟩ := H1
  have b4 := tC_b t L (tE t L k)
  by_cases c : tC t L (tE t L k) = 3
  · have vv : (if tC t L (tE t L k) = 3 then tV t L (tE t L k) else vl) = tV t L (tE t L k) := if_pos c
    unfold oTok at e0
    rw [vv] at e0
    have nc : ∀ b, win (tV t L (tE t L k)) lo hi = b → nuC t L (tE t L k) lo hi = if b = true then 0 else 2 := fun b z => by unfold nuC; rw [if_pos c, z]
    refine z_ald1 (n := 5) (by decide +kernel) ?_
    refine z_getf (n := 8) (idx := 59) (by decide +kernel) fl_X9_59 (by first | assumption | (simp (disch := omega) only [hu_s, hu_n]; first | assumption | rfl)) (by rfl) ?_
    refine z_iconst (n := 9) (q := 3) (v := 3) (by decide +kernel) ?_
    refine z_icmp_eq_t (n := 12) (off := 10) (tgt := 19) (by decide +kernel) (by rw [c]; rfl) ?_
    refine z_ald1 (n := 20) (by decide +kernel) ?_
    refine z_getf (n := 23) (idx := 109) (by decide +kernel) fl_X9_109 (by first | assumption | (simp (disch := omega) only [hu_s, hu_n]; first | assumption | rfl)) (by rfl) ?_
    refine z_ild2 (n := 24) (by decide +kernel) ?_
    refine z_icmp_lt (n := 27) (off := 11) (tgt := 35) (by decide +kernel) (fun c24 => ?_) (fun c24 => ?_)
    · refine z_ald0 (n := 36) (by decide +kernel) ?_
      refine z_ald1 (n := 37) (by decide +kernel) ?_
      refine z_iconst (n := 38) (q := 2) (v := 2) (by decide +kernel) ?_
      refine z_w2 (n := 41) (idx := 77) (by decide +kernel) ml_X9_77 (by first | assumption | (simp (disch := omega) only [hu_s, hu_n]; first | assumption | rfl)) rfl (Nat.le_of_ble_eq_true rfl) (by omega) ⟨Nat.le_refl _, Nat.le_refl _⟩ (k_faultAt (k := tE t L k) (d := d + 1) (e := e) (f := 2) 0 H1') (fun h38 q38 => ?_)
      first | refine z_zr1 (by decide +kernel) rfl (Nat.le_refl _) ?_ | refine z_zr0 (by decide +kernel) rfl (Nat.le_refl _) ?_ | refine z_zrb (by decide +kernel) rfl (Nat.le_refl _) ?_
      first | (have z9 := q38; have nn := nc false (by unfold win; first | (simp only [eq_true c24, decide_true, Bool.not_true, Bool.false_and]; done) | (rw [decide_eq_true (Int32.not_le.mp c32), Bool.not_true, Bool.and_false])); rw [if_neg (by decide)] at nn; exact ⟨false, rfl, frm_tr f1 q38.1, fun z => Bool.noConfusion z, fun _ => ⟨by rw [nn]; decide, by rw [nn]; exact q38.2⟩⟩) | (have nn := nc true (by unfold win; simp only [eq_true c24, Int32.not_lt, decide_true, decide_false, Bool.not_false, Bool.and_self, eq_false (Int32.not_lt.mpr c32)]); exact ⟨true, rfl, frm_tr f1 (fun j hj => by simp (disch := omega) only [hu_n]), fun _ => ⟨nn, ⟨vl, by unfold oTok; rw [vv]; exact (by simp (disch := omega) only [hTn, hCr, hFl, hu_s, hu_n]; first | done | assumption | rfl)⟩, (by simp (disch := omega) only [hTn, hCr, hFl, hu_s, hu_n]; first | done | assumption | rfl), (by simp (disch := omega) only [hTn, hCr, hFl, hu_s, hu_n]; first | done | assumption | rfl), (by simp (disch := omega) only [hTn, hCr, hFl, hu_s, hu_n]; first | done | assumption | rfl), (by simp (disch := omega) only [hTn, hCr, hFl, hu_s, hu_n]; first | done | assumption | rfl), (by simp (disch := omega) only [hTn, hCr, hFl, hu_s, hu_n]; first | done | assumption | rfl), (by simp (disch := omega) only [hTn, hCr, hFl, hu_s, hu_n]; first | done | assumption | rfl), (by simp (disch := omega) only [hTn, hCr, hFl, hu_s, hu_n]; first | done | assumption | rfl), (by simp (disch := omega) only [hTn, hCr, hFl, hu_s, hu_n]; first | done | assumption | rfl)⟩, fun z => Bool.noConfusion z⟩)
    · refine z_ald1 (n := 28) (by decide +kernel) ?_
      refine z_getf (n := 31) (idx := 109) (by decide +kernel) fl_X9_109 (by first | assumption | (simp (disch := omega) only [hu_s, hu_n]; first | assumption | rfl)) (by rfl) ?_
      refine z_ild3 (n := 32) (by decide +kernel) ?_
      refine z_icmp_le (n := 35) (off := 10) (tgt := 42) (by decide +kernel) (fun c32 => ?_) (fun c32 => ?_)
      · refine z_ald0 (n := 43) (by decide +kernel) ?_
        refine z_getf (n := 46) (idx := 22) (by decide +kernel) fl_X9_22 (by first | assumption | (simp (disch := omega) only [hu_s, hu_n]; first | assumption | rfl)) (by rfl) ?_
        refine z_ald0 (n := 47) (by decide +kernel) ?_
        refine z_getf (n := 50) (idx := 45) (by decide +kernel) fl_X9_45 (by first | assumption | (simp (disch := omega) only [hu_s, hu_n]; first | assumption | rfl)) (by rfl) ?_
        refine z_iconst (n := 51) (q := 1) (v := 1) (by decide +kernel) ?_
        refine z_isub (n := 52) (by decide +kernel) ?_
        refine z_top (nI_pred d) ?_
        refine z_ald1 (n := 53) (by decide +kernel) ?_
        refine z_getf (n := 56) (idx := 109) (by decide +kernel) fl_X9_109 (by first | assumption | (simp (disch := omega) only [hu_s, hu_n]; first | assumption | rfl)) (by rfl) ?_
        refine z_iast (n := 57) (by decide +kernel) (by first | assumption | (simp (disch := omega) only [hu_s, hu_n]; first | assumption | rfl)) (by first | assumption | exact ix_nI (by omega) (by omega) | exact ix_of (by simp only [n_0, n_1, n_2, n_3, n_4, n_5, n_6, n_7, n_8, n_10, n_50, n_90, n_130, n_370, n_570, nI_add, pk_mul]; rfl) (by omega) (by omega)) ?_
        refine z_iconst (n := 58) (q := 1) (v := 1) (by decide +kernel) ?_
        first | refine z_zr1 (by decide +kernel) rfl (Nat.le_refl _) ?_ | refine z_zr0 (by decide +kernel) rfl (Nat.le_refl _) ?_ | refine z_zrb (by decide +kernel) rfl (Nat.le_refl _) ?_
        first | (have z9 := q38; have nn := nc false (by unfold win; first | (simp only [eq_false c24, eq_true c32, decide_true, Bool.not_true, Bool.false_and]; done) | (rw [decide_eq_true (Int32.not_le.mp c32), Bool.not_true, Bool.and_false])); rw [if_neg (by decide)] at nn; exact ⟨false, rfl, frm_tr f1 q38.1, fun z => Bool.noConfusion z, fun _ => ⟨by rw [nn]; decide, by rw [nn]; exact q38.2⟩⟩) | (have nn := nc true (by unfold win; simp only [eq_false c24, eq_true c32, Int32.not_lt, decide_true, decide_false, Bool.not_false, Bool.and_self, eq_false (Int32.not_lt.mpr c32)]); exact ⟨true, rfl, frm_tr f1 (fun j hj => by simp (disch := omega) only [hu_n]), fun _ => ⟨nn, ⟨vl, by unfold oTok; rw [vv]; exact (by simp (disch := omega) only [hTn, hCr, hFl, hu_s, hu_n]; first | done | assumption | rfl)⟩, (by simp (disch := omega) only [hTn, hCr, hFl, hu_s, hu_n]; first | done | assumption | rfl), (by simp (disch := omega) only [hTn, hCr, hFl, hu_s, hu_n]; first | done | assumption | rfl), (by simp (disch := omega) only [hTn, hCr, hFl, hu_s, hu_n]; first | done | assumption | rfl), (by simp (disch := omega) only [hTn, hCr, hFl, hu_s, hu_n]; first | done | assumption | rfl), (by simp (disch := omega) only [hTn, hCr, hFl, hu_s, hu_n]; first | done | assumption | rfl), (by simp (disch := omega) only [hTn, hCr, hFl, hu_s, hu_n]; first | done | assumption | rfl), (by simp (disch := omega) only [hTn, hCr, hFl, hu_s, hu_n]; first | done | assumption | rfl), (by simp (disch := omega) only [hTn, hCr, hFl, hu_s, hu_n]; first | done | assumption | rfl)⟩, fun z => Bool.noConfusion z⟩)
      · refine z_ald0 (n := 36) (by decide +kernel) ?_
        refine z_ald1 (n := 37) (by decide +kernel) ?_
        refine z_iconst (n := 38) (q := 2) (v := 2) (by decide +kernel) ?_
        refine z_w2 (n := 41) (idx := 77) (by decide +kernel) ml_X9_77 (by first | assumption | (simp (disch := omega) only [hu_s, hu_n]; first | assumption | rfl)) rfl (Nat.le_of_ble_eq_true rfl) (by omega) ⟨Nat.le_refl _, Nat.le_refl _⟩ (k_faultAt (k := tE t L k) (d := d + 1) (e := e) (f := 2) 0 H1') (fun h38 q38 => ?_)
        first | refine z_zr1 (by decide +kernel) rfl (Nat.le_refl _) ?_ | refine z_zr0 (by decide +kernel) rfl (Nat.le_refl _) ?_ | refine z_zrb (by decide +kernel) rfl (Nat.le_refl _) ?_
        first | (have z9 := q38; have nn := nc false (by unfold win; first | (simp only [eq_false c24, eq_false c32, decide_true, Bool.not_true, Bool.false_and]; done) | (rw [decide_eq_true (Int32.not_le.mp c32), Bool.not_true, Bool.and_false])); rw [if_neg (by decide)] at nn; exact ⟨false, rfl, frm_tr f1 q38.1, fun z => Bool.noConfusion z, fun _ => ⟨by rw [nn]; decide, by rw [nn]; exact q38.2⟩⟩) | (have nn := nc true (by unfold win; simp only [eq_false c24, eq_false c32, Int32.not_lt, decide_true, decide_false, Bool.not_false, Bool.and_self, eq_false (Int32.not_lt.mpr c32)]); exact ⟨true, rfl, frm_tr f1 (fun j hj => by simp (disch := omega) only [hu_n]), fun _ => ⟨nn, ⟨vl, by unfold oTok; rw [vv]; exact (by simp (disch := omega) only [hTn, hCr, hFl, hu_s, hu_n]; first | done | assumption | rfl)⟩, (by simp (disch := omega) only [hTn, hCr, hFl, hu_s, hu_n]; first | done | assumption | rfl), (by simp (disch := omega) only [hTn, hCr, hFl, hu_s, hu_n]; first | done | assumption | rfl), (by simp (disch := omega) only [hTn, hCr, hFl, hu_s, hu_n]; first | done | assumption | rfl), (by simp (disch := omega) only [hTn, hCr, hFl, hu_s, hu_n]; first | done | assumption | rfl), (by simp (disch := omega) only [hTn, hCr, hFl, hu_s, hu_n]; first | done | assumption | rfl), (by simp (disch := omega) only [hTn, hCr, hFl, hu_s, hu_n]; first | done | assumption | rfl), (by simp (disch := omega) only [hTn, hCr, hFl, hu_s, hu_n]; first | done | assumption | rfl), (by simp (disch := omega) only [hTn, hCr, hFl, hu_s, hu_n]; first | done | assumption | rfl)⟩, fun z => Bool.noConfusion z⟩)
  · have nn : nuC t L (tE t L k) lo hi = 1 := by unfold nuC; rw [if_neg c]
    unfold oTok at e0
    refine z_ald1 (n := 5) (by decide +kernel) ?_
    refine z_getf (n := 8) (idx := 59) (by decide +kernel) fl_X9_59 (by first | assumption | (simp (disch := omega) only [hu_s, hu_n]; first | assumption | rfl)) (by rfl) ?_
    refine z_iconst (n := 9) (q := 3) (v := 3) (by decide +kernel) ?_
    refine z_icmp_eq_f (n := 12) (off := 10) (tgt := 19) (by decide +kernel) (fun z => c ((nI_ij (b := 3) (by omega) (by omega)).mp z)) ?_
    refine z_ald0 (n := 13) (by decide +kernel) ?_
    refine z_ald1 (n := 14) (by decide +kernel) ?_
    refine z_iconst (n := 15) (q := 1) (v := 1) (by decide +kernel) ?_
    refine z_w2 (n := 18) (idx := 77) (by decide +kernel) ml_X9_77 (by first | assumption | (simp (disch := omega) only [hu_s, hu_n]; first | assumption | rfl)) rfl (Nat.le_of_ble_eq_true rfl) (by omega) ⟨Nat.le_refl _, Nat.le_refl _⟩ (k_faultAt (k := tE t L k) (d := d + 1) (e := e) (f := 1) 0 H1') (fun h15 q15 => ?_)
    first | refine z_zr1 (by decide +kernel) rfl (Nat.le_refl _) ?_ | refine z_zr0 (by decide +kernel) rfl (Nat.le_refl _) ?_ | refine z_zrb (by decide +kernel) rfl (Nat.le_refl _) ?_
    exact ⟨false, rfl, frm_tr f1 q15.1, fun z => Bool.noConfusion z, fun _ => ⟨by rw [nn]; decide, by rw [nn]; exact q15.2⟩⟩
theorem k_txStop {G : mG} {h : mH} {P L k d e : Nat} {ad : Int32} {t vb nu fb bh oa : Nat → Int32} {tr : Nat → Bool} (dd9 : Nat) (hd : 3 ≤ dd9) (hL : L ≤ 300) (hk : k ≤ L) (H : cTk h P t L k d e ad vb nu tr fb bh oa) : EV G m_X9_readStop dd9 0 0 [.ref (P + 2), .ref P] h (fun r h' => ∃ x, r = some (.int (bI x)) ∧ (frm h h' P (P + 9) ∧ x = sgn t L (tE t L k) 59 ∧ (x = true → cTk h' P t L (tE t L k) d e ad vb nu tr fb bh oa) ∧ (x = false → cBd h' P t L 1 (tS t L (tE t L k))))) := by
  have hk1 := tE_L (t := t) (k := k) hk
  have HQ := H
  obtain ⟨⟨vl0, h0⟩, _⟩ := HQ
  refine ev_2_0 rfl rfl (by decide +kernel) (by decide +kernel) ?_
  refine z_ald1 (n := 1) (by decide +kernel) ?_
  refine z_w0v (n := 4) (idx := 56) (by decide +kernel) ml_X9_56 (by assumption) rfl (Nat.le_of_ble_eq_true rfl) (by omega) ⟨Nat.le_refl _, Nat.le_refl _⟩ (cTk_next (d := d) (e := e) 2 (by omega) hL hk H) (fun h1 q1 => ?_)
  skip
  obtain ⟨f1, H1⟩ := q1
  have H1' := H1
  obtain ⟨⟨vl, e0⟩, e1, e2, e3, e4, e5, e6, e7, e8⟩ := H1
  have e0' := e0
  unfold oTok at e0
  refine z_ald1 (n := 5) (by decide +kernel) ?_
  refine z_bipush (n := 7) (q := 59) (v := 59) (by decide +kernel) ?_
  refine z_v1 (n := 10) (idx := 62) (by decide +kernel) ml_X9_62 (by assumption) rfl (Nat.le_of_ble_eq_true rfl) (by omega) ⟨Nat.le_refl _, Nat.le_refl _⟩ (k_isSign (k := tE t L k) (t := t) (L := L) 0 e0' e1 hL) ?_
  refine z_ifb_ne (n := 13) (off := 12) (tgt := 22) (by decide +kernel) (fun c10 => ?_) (fun c10 => ?_)
  · refine z_iconst (n := 23) (q := 1) (v := 1) (by decide +kernel) ?_
    refine z_goto (n := 26) (off := 4) (tgt := 27) (by decide +kernel) ?_
    first | refine z_zr1 (by decide +kernel) rfl (Nat.le_refl _) ?_ | refine z_zr0 (by decide +kernel) rfl (Nat.le_refl _) ?_ | refine z_zrb (by decide +kernel) rfl (Nat.le_refl _) ?_
    first | (have z9 := q16; exact ⟨false, rfl, frm_tr f1 q16.1, c10.symm, fun z => Bool.noConfusion z, fun _ => q16.2⟩) | exact ⟨true, rfl, f1, c10.symm, fun _ => H1', fun z => Bool.noConfusion z⟩
  · refine z_ald0 (n := 14) (by decide +kernel) ?_
    refine z_ald1 (n := 15) (by decide +kernel) ?_
    refine z_iconst (n := 16) (q := 1) (v := 1) (by decide +kernel) ?_
    refine z_w2 (n := 19) (idx := 77) (by decide +kernel) ml_X9_77 (by assumption) rfl (Nat.le_of_ble_eq_true rfl) (by omega) ⟨Nat.le_refl _, Nat.le_refl _⟩ (k_faultAt (k := tE t L k) (d := d) (e := e) (f := 1) 0 H1') (fun h16 q16 => ?_)
    refine z_ifb_eq_t (n := 22) (off := 7) (tgt := 26) (by decide +kernel) (rfl) ?_
    refine z_iconst (n := 27) (q := 0) (v := 0) (by decide +kernel) ?_
    first | refine z_zr1 (by decide +kernel) rfl (Nat.le_refl _) ?_ | refine z_zr0 (by decide +kernel) rfl (Nat.le_refl _) ?_ | refine z_zrb (by decide +kernel) rfl (Nat.le_refl _) ?_
    first | (have z9 := q16; exact ⟨false, rfl, frm_tr f1 q16.1, c10.symm, fun z => Bool.noConfusion z, fun _ => q16.2⟩) | exact ⟨true, rfl, f1, c10.symm, fun _ => H1', fun z => Bool.noConfusion z⟩
theorem k_txSide {G : mG} {h : mH} {P L k d e : Nat} {ad : Int32} {t vb nu fb bh oa : Nat → Int32} {tr : Nat → Bool} (dd9 : Nat) (hd : 5 ≤ dd9) (hST : ∀ U, gI G U → sOK G U) (hd4 : d < 40) (hL : L ≤ 300) (hk : k ≤ L) (H : cTk h P t L k (d + 1) e ad vb nu tr fb bh oa) : EV G m_X9_readSide dd9 0 0 [.ref (P + 2), .ref P] h (fun r h' => ∃ x, r = some (.int (bI x)) ∧ (frm h h' P (P + 9) ∧ x = (wIs t L (tE t L k) wRi || wIs t L (tE t L k) wLe) ∧ (x = true → cTk h' P t L (tE t L k) (d + 1) e ad vb nu (updB tr d (wIs t L (tE t L k) wRi)) fb bh oa) ∧ (x = false → cBd h' P t L 1 (tS t L (tE t L k))))) := by
  have hk1 := tE_L (t := t) (k := k) hk
  have HQ := H
  obtain ⟨⟨vl0, h0⟩, _⟩ := HQ
  refine ev_2_1 rfl rfl (by decide +kernel) (by decide +kernel) ?_
  refine z_ald1 (n := 1) (by decide +kernel) ?_
  refine z_w0v (n := 4) (idx := 56) (by decide +kernel) ml_X9_56 (by assumption) rfl (Nat.le_of_ble_eq_true rfl) (by omega) ⟨Nat.le_refl _, Nat.le_refl _⟩ (cTk_next (d := d + 1) (e := e) 2 (by omega) hL hk H) (fun h1 q1 => ?_)
  skip
  obtain ⟨f1, H1⟩ := q1
  have H1' := H1
  obtain ⟨⟨vl, e0⟩, e1, e2, e3, e4, e5, e6, e7, e8⟩ := H1
  have e0' := e0
  unfold oTok at e0
  have H2 : cTk (hu h1 (P + 2 + 3) (aZ 40 (updB tr d (wIs t L (tE t L k) wRi)))) P t L (tE t L k) (d + 1) e ad vb nu (updB tr d (wIs t L (tE t L k) wRi)) fb bh oa := ⟨⟨vl, (by simp (disch := omega) only [hTn, hCr, hFl, hu_s, hu_n]; first | done | assumption | rfl)⟩, (by simp (disch := omega) only [hTn, hCr, hFl, hu_s, hu_n]; first | done | assumption | rfl), (by simp (disch := omega) only [hTn, hCr, hFl, hu_s, hu_n]; first | done | assumption | rfl), (by simp (disch := omega) only [hTn, hCr, hFl, hu_s, hu_n]; first | done | assumption | rfl), (by simp (disch := omega) only [hTn, hCr, hFl, hu_s, hu_n]; first | done | assumption | rfl), (by simp (disch := omega) only [hTn, hCr, hFl, hu_s, hu_n]; first | done | assumption | rfl), (by simp (disch := omega) only [hTn, hCr, hFl, hu_s, hu_n]; first | done | assumption | rfl), (by simp (disch := omega) only [hTn, hCr, hFl, hu_s, hu_n]; first | done | assumption | rfl), (by simp (disch := omega) only [hTn, hCr, hFl, hu_s, hu_n]; first | done | assumption | rfl)⟩
  have e4w : sByt.getD 4 [] = wRi := rfl
  have e5w : sByt.getD 5 [] = wLe := rfl
  refine z_ald1 (n := 5) (by decide +kernel) ?_
  refine z_ldcT (n := 7) (i := 4) (idx := 112) (by decide) hST rfl rfl (by decide +kernel) ?_
  refine z_v1 (n := 10) (idx := 99) (by decide +kernel) ml_X9_99 (by first | assumption | (simp (disch := omega) only [hu_s, hu_n]; first | assumption | rfl)) rfl (Nat.le_of_ble_eq_true rfl) (by omega) ⟨Nat.le_refl _, Nat.le_refl _⟩ (k_isWord (i := 4) (k := tE t L k) (t := t) (L := L) (vl := vl) 4 (by omega) (by decide) hST hk1 e0' e1 hL) ?_
  refine z_ist2 (n := 11) (by decide +kernel) rfl ?_
  refine z_ald0 (n := 12) (by decide +kernel) ?_
  refine z_getf (n := 15) (idx := 25) (by decide +kernel) fl_X9_25 (by first | assumption | (simp (disch := omega) only [hu_s, hu_n]; first | assumption | rfl)) (by rfl) ?_
  refine z_ald0 (n := 16) (by decide +kernel) ?_
  refine z_getf (n := 19) (idx := 45) (by decide +kernel) fl_X9_45 (by first | assumption | (simp (disch := omega) only [hu_s, hu_n]; first | assumption | rfl)) (by rfl) ?_
  refine z_iconst (n := 20) (q := 1) (v := 1) (by decide +kernel) ?_
  refine z_isub (n := 21) (by decide +kernel) ?_
  refine z_top (nI_pred d) ?_
  refine z_ild2 (n := 22) (by decide +kernel) ?_
  refine z_zast (n := 23) (by decide +kernel) (by first | assumption | (simp (disch := omega) only [hu_s, hu_n]; first | assumption | rfl)) (by first | assumption | exact ix_nI (by omega) (by omega) | exact ix_of (by simp only [n_0, n_1, n_2, n_3, n_4, n_5, n_6, n_7, n_8, n_10, n_50, n_90, n_130, n_370, n_570, nI_add, pk_mul]; rfl) (by omega) (by omega)) (by first | exact bI_t.symm | exact bI_f.symm | rfl) ?_
  refine z_ild2 (n := 24) (by decide +kernel) ?_
  refine z_ifb_ne (n := 27) (off := 21) (tgt := 45) (by decide +kernel) (fun c24 => ?_) (fun c24 => ?_)
  · refine z_iconst (n := 46) (q := 1) (v := 1) (by decide +kernel) ?_
    refine z_goto (n := 49) (off := 4) (tgt := 50) (by decide +kernel) ?_
    first | refine z_zr1 (by decide +kernel) rfl (Nat.le_refl _) ?_ | refine z_zr0 (by decide +kernel) rfl (Nat.le_refl _) ?_ | refine z_zrb (by decide +kernel) rfl (Nat.le_refl _) ?_
    first | (have z9 := q39; exact ⟨false, rfl, frm_tr f1 (fun j hj => (q39.1 j hj).trans (hu_n (by omega))), by rw [← e4w, ← e5w, c24, c33]; rfl, fun z => Bool.noConfusion z, fun _ => q39.2⟩) | (have z9 := c33; exact ⟨true, rfl, frm_tr f1 (fun j hj => hu_n (by omega)), by rw [← e4w, ← e5w, c24, c33]; rfl, fun _ => H2, fun z => Bool.noConfusion z⟩) | exact ⟨true, rfl, frm_tr f1 (fun j hj => hu_n (by omega)), by rw [← e4w, c24]; rfl, fun _ => H2, fun z => Bool.noConfusion z⟩
  · refine z_ald1 (n := 28) (by decide +kernel) ?_
    refine z_ldcT (n := 30) (i := 5) (idx := 114) (by decide) hST rfl rfl (by decide +kernel) ?_
    refine z_v1 (n := 33) (idx := 99) (by decide +kernel) ml_X9_99 (by first | assumption | (simp (disch := omega) only [hu_s, hu_n]; first | assumption | rfl)) rfl (Nat.le_of_ble_eq_true rfl) (by omega) ⟨Nat.le_refl _, Nat.le_refl _⟩ (k_isWord (i := 5) (k := tE t L k) (t := t) (L := L) (vl := vl) 4 (by omega) (by decide) hST hk1 (by simp (disch := omega) only [hTn, hCr, hFl, hu_s, hu_n]; first | done | assumption | rfl) (by simp (disch := omega) only [hTn, hCr, hFl, hu_s, hu_n]; first | done | assumption | rfl) hL) ?_
    refine z_ifb_ne (n := 36) (off := 12) (tgt := 45) (by decide +kernel) (fun c33 => ?_) (fun c33 => ?_)
    · refine z_iconst (n := 46) (q := 1) (v := 1) (by decide +kernel) ?_
      refine z_goto (n := 49) (off := 4) (tgt := 50) (by decide +kernel) ?_
      first | refine z_zr1 (by decide +kernel) rfl (Nat.le_refl _) ?_ | refine z_zr0 (by decide +kernel) rfl (Nat.le_refl _) ?_ | refine z_zrb (by decide +kernel) rfl (Nat.le_refl _) ?_
      first | (have z9 := q39; exact ⟨false, rfl, frm_tr f1 (fun j hj => (q39.1 j hj).trans (hu_n (by omega))), by rw [← e4w, ← e5w, c24, c33]; rfl, fun z => Bool.noConfusion z, fun _ => q39.2⟩) | (have z9 := c33; exact ⟨true, rfl, frm_tr f1 (fun j hj => hu_n (by omega)), by rw [← e4w, ← e5w, c24, c33]; rfl, fun _ => H2, fun z => Bool.noConfusion z⟩) | exact ⟨true, rfl, frm_tr f1 (fun j hj => hu_n (by omega)), by rw [← e4w, c24]; rfl, fun _ => H2, fun z => Bool.noConfusion z⟩
    · refine z_ald0 (n := 37) (by decide +kernel) ?_
      refine z_ald1 (n := 38) (by decide +kernel) ?_
      refine z_iconst (n := 39) (q := 1) (v := 1) (by decide +kernel) ?_
      refine z_w2 (n := 42) (idx := 77) (by decide +kernel) ml_X9_77 (by first | assumption | (simp (disch := omega) only [hu_s, hu_n]; first | assumption | rfl)) rfl (Nat.le_of_ble_eq_true rfl) (by omega) ⟨Nat.le_refl _, Nat.le_refl _⟩ (k_faultAt (k := tE t L k) (d := d + 1) (e := e) (f := 1) 0 H2) (fun h39 q39 => ?_)
      refine z_ifb_eq_t (n := 45) (off := 7) (tgt := 49) (by decide +kernel) (rfl) ?_
      refine z_iconst (n := 50) (q := 0) (v := 0) (by decide +kernel) ?_
      first | refine z_zr1 (by decide +kernel) rfl (Nat.le_refl _) ?_ | refine z_zr0 (by decide +kernel) rfl (Nat.le_refl _) ?_ | refine z_zrb (by decide +kernel) rfl (Nat.le_refl _) ?_
      first | (have z9 := q39; exact ⟨false, rfl, frm_tr f1 (fun j hj => (q39.1 j hj).trans (hu_n (by omega))), by rw [← e4w, ← e5w, c24, c33]; rfl, fun z => Bool.noConfusion z, fun _ => q39.2⟩) | (have z9 := c33; exact ⟨true, rfl, frm_tr f1 (fun j hj => hu_n (by omega)), by rw [← e4w, ← e5w, c24, c33]; rfl, fun _ => H2, fun z => Bool.noConfusion z⟩) | exact ⟨true, rfl, frm_tr f1 (fun j hj => hu_n (by omega)), by rw [← e4w, c24]; rfl, fun _ => H2, fun z => Bool.noConfusion z⟩
theorem k_txOpening {G : mG} {h : mH} {P L k d e : Nat} {ad : Int32} {t vb nu fb bh oa : Nat → Int32} {tr : Nat → Bool} (dd9 : Nat) (hd : 3 ≤ dd9) (hd4 : d < 40) (he4 : e ≤ 4) (hL : L ≤ 300) (hk : k ≤ L) (H : cTk h P t L k (d + 1) e ad vb nu tr fb bh oa) : EV G m_X9_readOpening dd9 0 0 [.ref (P + 2), .ref P] h (fun r h' => ∃ x, r = some (.int (bI x)) ∧ (frm h h' P (P + 9) ∧ (x = true → (sgn t L (tE t L k) 40 = true ∧ ¬ e = 4) ∧ cTk h' P t L (tE t L k) (d + 1) (e + 1) ad vb nu tr fb bh (upd oa e (nI d))) ∧ (x = false → (sgn t L (tE t L k) 40 = false ∧ cBd h' P t L 1 (tS t L (tE t L k))) ∨ (sgn t L (tE t L k) 40 = true ∧ e = 4 ∧ cBd h' P t L 3 (tS t L (tE t L k)))))) := by
  have hk1 := tE_L (t := t) (k := k) hk
  have HQ := H
  obtain ⟨⟨vl0, h0⟩, _⟩ := HQ
  refine ev_2_0 rfl rfl (by decide +kernel) (by decide +kernel) ?_
  refine z_ald1 (n := 1) (by decide +kernel) ?_
  refine z_w0v (n := 4) (idx := 56) (by decide +kernel) ml_X9_56 (by assumption) rfl (Nat.le_of_ble_eq_true rfl) (by omega) ⟨Nat.le_refl _, Nat.le_refl _⟩ (cTk_next (d := d + 1) (e := e) 2 (by omega) hL hk H) (fun h1 q1 => ?_)
  skip
  obtain ⟨f1, H1⟩ := q1
  have H1' := H1
  obtain ⟨⟨vl, e0⟩, e1, e2, e3, e4, e5, e6, e7, e8⟩ := H1
  have e0' := e0
  unfold oTok at e0
  by_cases c : sgn t L (tE t L k) 40 = true
  · by_cases c4 : e = 4
    · refine z_ald1 (n := 5) (by decide +kernel) ?_
      refine z_bipush (n := 7) (q := 40) (v := 40) (by decide +kernel) ?_
      refine z_v1 (n := 10) (idx := 62) (by decide +kernel) ml_X9_62 (by first | assumption | (simp (disch := omega) only [hu_s, hu_n]; first | assumption | rfl)) rfl (Nat.le_of_ble_eq_true rfl) (by omega) ⟨Nat.le_refl _, Nat.le_refl _⟩ (k_isSign (k := tE t L k) (t := t) (L := L) 0 e0' e1 hL) ?_
      refine z_ifb_ne_t (n := 13) (off := 10) (tgt := 20) (by decide +kernel) (c) ?_
      refine z_ald0 (n := 21) (by decide +kernel) ?_
      refine z_getf (n := 24) (idx := 48) (by decide +kernel) fl_X9_48 (by first | assumption | (simp (disch := omega) only [hu_s, hu_n]; first | assumption | rfl)) (by rfl) ?_
      refine z_iconst (n := 25) (q := 4) (v := 4) (by decide +kernel) ?_
      refine z_icmp_lt_f (n := 28) (off := 10) (tgt := 35) (by decide +kernel) (by rw [c4]; decide) ?_
      refine z_ald0 (n := 29) (by decide +kernel) ?_
      refine z_ald1 (n := 30) (by decide +kernel) ?_
      refine z_iconst (n := 31) (q := 3) (v := 3) (by decide +kernel) ?_
      refine z_w2 (n := 34) (idx := 77) (by decide +kernel) ml_X9_77 (by first | assumption | (simp (disch := omega) only [hu_s, hu_n]; first | assumption | rfl)) rfl (Nat.le_of_ble_eq_true rfl) (by omega) ⟨Nat.le_refl _, Nat.le_refl _⟩ (k_faultAt (k := tE t L k) (d := d + 1) (e := e) (f := 3) 0 H1') (fun h31 q31 => ?_)
      first | refine z_zr1 (by decide +kernel) rfl (Nat.le_refl _) ?_ | refine z_zr0 (by decide +kernel) rfl (Nat.le_refl _) ?_ | refine z_zrb (by decide +kernel) rfl (Nat.le_refl _) ?_
      exact ⟨false, rfl, frm_tr f1 q31.1, fun z => Bool.noConfusion z, fun _ => .inr ⟨c, c4, q31.2⟩⟩
    · refine z_ald1 (n := 5) (by decide +kernel) ?_
      refine z_bipush (n := 7) (q := 40) (v := 40) (by decide +kernel) ?_
      refine z_v1 (n := 10) (idx := 62) (by decide +kernel) ml_X9_62 (by first | assumption | (simp (disch := omega) only [hu_s, hu_n]; first | assumption | rfl)) rfl (Nat.le_of_ble_eq_true rfl) (by omega) ⟨Nat.le_refl _, Nat.le_refl _⟩ (k_isSign (k := tE t L k) (t := t) (L := L) 0 e0' e1 hL) ?_
      refine z_ifb_ne_t (n := 13) (off := 10) (tgt := 20) (by decide +kernel) (c) ?_
      refine z_ald0 (n := 21) (by decide +kernel) ?_
      refine z_getf (n := 24) (idx := 48) (by decide +kernel) fl_X9_48 (by first | assumption | (simp (disch := omega) only [hu_s, hu_n]; first | assumption | rfl)) (by rfl) ?_
      refine z_iconst (n := 25) (q := 4) (v := 4) (by decide +kernel) ?_
      refine z_icmp_lt_t (n := 28) (off := 10) (tgt := 35) (by decide +kernel) (nI_lt (b := 4) (by omega) (by omega)) ?_
      refine z_ald0 (n := 36) (by decide +kernel) ?_
      refine z_getf (n := 39) (idx := 35) (by decide +kernel) fl_X9_35 (by first | assumption | (simp (disch := omega) only [hu_s, hu_n]; first | assumption | rfl)) (by rfl) ?_
      refine z_ald0 (n := 40) (by decide +kernel) ?_
      refine z_getf (n := 43) (idx := 48) (by decide +kernel) fl_X9_48 (by first | assumption | (simp (disch := omega) only [hu_s, hu_n]; first | assumption | rfl)) (by rfl) ?_
      refine z_ald0 (n := 44) (by decide +kernel) ?_
      refine z_getf (n := 47) (idx := 45) (by decide +kernel) fl_X9_45 (by first | assumption | (simp (disch := omega) only [hu_s, hu_n]; first | assumption | rfl)) (by rfl) ?_
      refine z_iconst (n := 48) (q := 1) (v := 1) (by decide +kernel) ?_
      refine z_isub (n := 49) (by decide +kernel) ?_
      refine z_top (nI_pred d) ?_
      refine z_iast (n := 50) (by decide +kernel) (by first | assumption | (simp (disch := omega) only [hu_s, hu_n]; first | assumption | rfl)) (by first | assumption | exact ix_nI (by omega) (by omega) | exact ix_of (by simp only [n_0, n_1, n_2, n_3, n_4, n_5, n_6, n_7, n_8, n_10, n_50, n_90, n_130, n_370, n_570, nI_add, pk_mul]; rfl) (by omega) (by omega)) ?_
      refine z_ald0 (n := 51) (by decide +kernel) ?_
      refine z_dup (n := 52) (by decide +kernel) rfl ?_
      refine z_getf (n := 55) (idx := 48) (by decide +kernel) fl_X9_48 (by first | assumption | (simp (disch := omega) only [hu_s, hu_n]; first | assumption | rfl)) (by rfl) ?_
      refine z_iconst (n := 56) (q := 1) (v := 1) (by decide +kernel) ?_
      refine z_iadd (n := 57) (by decide +kernel) ?_
      refine z_top (nI_1 _) ?_
      refine z_putf (n := 60) (idx := 48) (ty := .int) (by decide +kernel) fl_X9_48 (by first | assumption | (simp (disch := omega) only [hu_s, hu_n]; first | assumption | rfl)) ⟨_, _, _, rfl, rfl, by decide +kernel⟩ rfl rfl (Nat.le_of_ble_eq_true rfl) ?_
      refine z_iconst (n := 61) (q := 1) (v := 1) (by decide +kernel) ?_
      first | refine z_zr1 (by decide +kernel) rfl (Nat.le_refl _) ?_ | refine z_zr0 (by decide +kernel) rfl (Nat.le_refl _) ?_ | refine z_zrb (by decide +kernel) rfl (Nat.le_refl _) ?_
      exact ⟨true, rfl, frm_tr f1 (fun j hj => by simp (disch := omega) only [hu_n]), fun _ => ⟨⟨c, c4⟩, ⟨vl, (by simp (disch := omega) only [hTn, hCr, hFl, hu_s, hu_n]; first | done | assumption | rfl)⟩, (by simp (disch := omega) only [hTn, hCr, hFl, hu_s, hu_n]; first | done | assumption | rfl), (by simp (disch := omega) only [hTn, hCr, hFl, hu_s, hu_n]; first | done | assumption | rfl), (by simp (disch := omega) only [hTn, hCr, hFl, hu_s, hu_n]; first | done | assumption | rfl), (by simp (disch := omega) only [hTn, hCr, hFl, hu_s, hu_n]; first | done | assumption | rfl), (by simp (disch := omega) only [hTn, hCr, hFl, hu_s, hu_n]; first | done | assumption | rfl), (by simp (disch := omega) only [hTn, hCr, hFl, hu_s, hu_n]; first | done | assumption | rfl), (by simp (disch := omega) only [hTn, hCr, hFl, hu_s, hu_n]; first | done | assumption | rfl), (by simp (disch := omega) only [hTn, hCr, hFl, hu_s, hu_n]; first | done | assumption | rfl)⟩, fun z => Bool.noConfusion z⟩
  · refine z_ald1 (n := 5) (by decide +kernel) ?_
    refine z_bipush (n := 7) (q := 40) (v := 40) (by decide +kernel) ?_
    refine z_v1 (n := 10) (idx := 62) (by decide +kernel) ml_X9_62 (by first | assumption | (simp (disch := omega) only [hu_s, hu_n]; first | assumption | rfl)) rfl (Nat.le_of_ble_eq_true rfl) (by omega) ⟨Nat.le_refl _, Nat.le_refl _⟩ (k_isSign (k := tE t L k) (t := t) (L := L) 0 e0' e1 hL) ?_
    refine z_ifb_ne_f (n := 13) (off := 10) (tgt := 20) (by decide +kernel) (Bool.eq_false_iff.mpr c) ?_
    refine z_ald0 (n := 14) (by decide +kernel) ?_
    refine z_ald1 (n := 15) (by decide +kernel) ?_
    refine z_iconst (n := 16) (q := 1) (v := 1) (by decide +kernel) ?_
    refine z_w2 (n := 19) (idx := 77) (by decide +kernel) ml_X9_77 (by first | assumption | (simp (disch := omega) only [hu_s, hu_n]; first | assumption | rfl)) rfl (Nat.le_of_ble_eq_true rfl) (by omega) ⟨Nat.le_refl _, Nat.le_refl _⟩ (k_faultAt (k := tE t L k) (d := d + 1) (e := e) (f := 1) 0 H1') (fun h16 q16 => ?_)
    first | refine z_zr1 (by decide +kernel) rfl (Nat.le_refl _) ?_ | refine z_zr0 (by decide +kernel) rfl (Nat.le_refl _) ?_ | refine z_zrb (by decide +kernel) rfl (Nat.le_refl _) ?_
    exact ⟨false, rfl, frm_tr f1 q16.1, fun z => Bool.noConfusion z, fun _ => .inl ⟨Bool.eq_false_iff.mpr c, q16.2⟩⟩
