/-! Text: a DO, the whole text -/
/-- before the token at k is read -/
def cHd (h : mH) (P : Nat) (t : Nat → Int32) (L k d e : Nat) (ad : Int32) (vb nu : Nat → Int32) (tr : Nat → Bool) (fb bh oa : Nat → Int32) : Prop := (∃ kd sa vl, h P = oTap P (nI L) kd sa (nI k) vl) ∧ h (P + 1) = aI 300 t ∧ txt h (P + 2) true 0 (-1) (-1) (nI d) (nI e) ad vb nu fb bh oa tr
theorem cTk_hd {h : mH} {P L k d e : Nat} {ad : Int32} {t vb nu fb bh oa : Nat → Int32} {tr : Nat → Bool} (H : cTk h P t L k d e ad vb nu tr fb bh oa) : cHd h P t L (tE t L k) d e ad vb nu tr fb bh oa := by
  obtain ⟨⟨vl, h0⟩, h1, h2⟩ := H
  exact ⟨⟨_, _, _, h0⟩, h1, h2⟩
theorem cHd_next {G : mG} {h : mH} {P L k d e : Nat} {ad : Int32} {t vb nu fb bh oa : Nat → Int32} {tr : Nat → Bool} (dd9 : Nat) (hd : 2 ≤ dd9) (hL : L ≤ 300) (hk : k ≤ L) (H : cHd h P t L k d e ad vb nu tr fb bh oa) : EV G m_X8_readToken dd9 0 0 [.ref P] h (fun r h' => r = none ∧ (frm h h' P (P + 9) ∧ cTk h' P t L k d e ad vb nu tr fb bh oa)) := by
  obtain ⟨⟨kd, sa, vl, h0⟩, h1, h2, h3, h4, h5, h6, h7, h8⟩ := H
  refine ev_mono (k_readToken (k := k) (t := t) (L := L) dd9 hd h0 h1 hL hk) ?_
  rintro r h' ⟨rfl, rfl⟩
  exact ⟨rfl, fun j hj => hu_n (by omega), ⟨_, hu_s⟩, (hu_n (by omega)).trans h1, (hu_n (by omega)).trans h2, (hu_n (by omega)).trans h3, (hu_n (by omega)).trans h4, (hu_n (by omega)).trans h5, (hu_n (by omega)).trans h6, (hu_n (by omega)).trans h7, (hu_n (by omega)).trans h8⟩
theorem k_verbOf {G : mG} {h : mH} {P L k : Nat} {vl : Int32} {t : Nat → Int32} (dd9 : Nat) (hd : 5 ≤ dd9) (hST : ∀ U, gI G U → sOK G U) (hL : L ≤ 300) (hk : k ≤ L) (h0 : h P = oTok P t L k vl) (h1 : h (P + 1) = aI 300 t) : EV G m_X9_verbOf dd9 0 0 [.ref P] h (RE (some (.int (vbO t L k))) h) := by
  have h0' := h0
  unfold oTok at h0'
  have e0w : sByt.getD 0 [] = wFo := rfl
  have e1w : sByt.getD 1 [] = wHo := rfl
  have e2w : sByt.getD 2 [] = wOp := rfl
  have e3w : sByt.getD 3 [] = wAg := rfl
  refine ev_1_0 rfl (by decide +kernel) (by decide +kernel) ?_
  refine z_ald0 (n := 1) (by decide +kernel) ?_
  refine z_ldcT (n := 3) (i := 0) (idx := 97) (by decide) hST rfl rfl (by decide +kernel) ?_
  refine z_v1 (n := 6) (idx := 99) (by decide +kernel) ml_X9_99 (by assumption) rfl (Nat.le_of_ble_eq_true rfl) (by omega) ⟨Nat.le_refl _, Nat.le_refl _⟩ (k_isWord (i := 0) (k := k) (t := t) (L := L) (vl := vl) 4 (by omega) (by decide) hST hk h0 h1 hL) ?_
  refine z_ifb_eq (n := 9) (off := 5) (tgt := 11) (by decide +kernel) (fun c6 => ?_) (fun c6 => ?_)
  · refine z_ald0 (n := 12) (by decide +kernel) ?_
    refine z_ldcT (n := 14) (i := 1) (idx := 103) (by decide) hST rfl rfl (by decide +kernel) ?_
    refine z_v1 (n := 17) (idx := 99) (by decide +kernel) ml_X9_99 (by assumption) rfl (Nat.le_of_ble_eq_true rfl) (by omega) ⟨Nat.le_refl _, Nat.le_refl _⟩ (k_isWord (i := 1) (k := k) (t := t) (L := L) (vl := vl) 4 (by omega) (by decide) hST hk h0 h1 hL) ?_
    refine z_ifb_eq (n := 20) (off := 5) (tgt := 22) (by decide +kernel) (fun c17 => ?_) (fun c17 => ?_)
    · refine z_ald0 (n := 23) (by decide +kernel) ?_
      refine z_ldcT (n := 25) (i := 2) (idx := 105) (by decide) hST rfl rfl (by decide +kernel) ?_
      refine z_v1 (n := 28) (idx := 99) (by decide +kernel) ml_X9_99 (by assumption) rfl (Nat.le_of_ble_eq_true rfl) (by omega) ⟨Nat.le_refl _, Nat.le_refl _⟩ (k_isWord (i := 2) (k := k) (t := t) (L := L) (vl := vl) 4 (by omega) (by decide) hST hk h0 h1 hL) ?_
      refine z_ifb_eq (n := 31) (off := 5) (tgt := 33) (by decide +kernel) (fun c28 => ?_) (fun c28 => ?_)
      · refine z_ald0 (n := 34) (by decide +kernel) ?_
        refine z_ldcT (n := 36) (i := 3) (idx := 107) (by decide) hST rfl rfl (by decide +kernel) ?_
        refine z_v1 (n := 39) (idx := 99) (by decide +kernel) ml_X9_99 (by assumption) rfl (Nat.le_of_ble_eq_true rfl) (by omega) ⟨Nat.le_refl _, Nat.le_refl _⟩ (k_isWord (i := 3) (k := k) (t := t) (L := L) (vl := vl) 4 (by omega) (by decide) hST hk h0 h1 hL) ?_
        refine z_ifb_eq (n := 42) (off := 7) (tgt := 46) (by decide +kernel) (fun c39 => ?_) (fun c39 => ?_)
        · refine z_iconst (n := 47) (q := -1) (v := -1) (by decide +kernel) ?_
          refine z_iret (by decide +kernel) rfl (Nat.le_refl _) ?_
          refine ⟨?_, rfl⟩; unfold vbO; simp only [← e0w, ← e1w, ← e2w, ← e3w, c6, c17, c28, c39, if_true, if_false, Bool.false_eq_true]
        · refine z_iconst (n := 43) (q := 3) (v := 3) (by decide +kernel) ?_
          refine z_goto (n := 46) (off := 4) (tgt := 47) (by decide +kernel) ?_
          refine z_iret (by decide +kernel) rfl (Nat.le_refl _) ?_
          refine ⟨?_, rfl⟩; unfold vbO; simp only [← e0w, ← e1w, ← e2w, ← e3w, c6, c17, c28, c39, if_true, if_false, Bool.false_eq_true]
      · refine z_iconst (n := 32) (q := 2) (v := 2) (by decide +kernel) ?_
        refine z_iret (by decide +kernel) rfl (Nat.le_refl _) ?_
        refine ⟨?_, rfl⟩; unfold vbO; simp only [← e0w, ← e1w, ← e2w, ← e3w, c6, c17, c28, if_true, if_false, Bool.false_eq_true]
    · refine z_iconst (n := 21) (q := 1) (v := 1) (by decide +kernel) ?_
      refine z_iret (by decide +kernel) rfl (Nat.le_refl _) ?_
      refine ⟨?_, rfl⟩; unfold vbO; simp only [← e0w, ← e1w, ← e2w, ← e3w, c6, c17, if_true, if_false, Bool.false_eq_true]
  · refine z_iconst (n := 10) (q := 0) (v := 0) (by decide +kernel) ?_
    refine z_iret (by decide +kernel) rfl (Nat.le_refl _) ?_
    refine ⟨?_, rfl⟩; unfold vbO; simp only [← e0w, ← e1w, ← e2w, ← e3w, c6, if_true, if_false, Bool.false_eq_true]
theorem k_closeAgain {G : mG} {h : mH} {X d e g : Nat} {wr : Bool} {fk fp sp ad : Int32} {vb nu fb bh oa : Nat → Int32} {tr : Nat → Bool} (dd9 : Nat) (he : e < 4) (hg : oa e = nI g) (hg4 : g < 40) (H : txt h X wr fk fp sp (nI d) (nI (e + 1)) ad vb nu fb bh oa tr) : EV G m_X9_closeAgain dd9 0 0 [.ref X] h (RE none (hu (hu h X (oTex X wr fk fp sp (nI d) (nI e) ad)) (X + 5) (aI 40 (upd bh (oa e).toNatClampNeg (nI d))))) := by
  obtain ⟨h2, h3, h4, h5, h6, h7, h8⟩ := H
  have ei : ix (oa e) g 40 := by rw [hg]; exact ix_nI (by omega) (by omega)
  have ec : (oa e).toNatClampNeg = g := by rw [hg]; exact nI_clamp (by omega)
  refine ev_1_0 rfl (by decide +kernel) (by decide +kernel) ?_
  refine z_ald0 (n := 1) (by decide +kernel) ?_
  refine z_dup (n := 2) (by decide +kernel) rfl ?_
  refine z_getf (n := 5) (idx := 48) (by decide +kernel) fl_X9_48 (by first | assumption | (simp (disch := omega) only [hu_s, hu_n]; first | assumption | rfl)) (by rfl) ?_
  refine z_iconst (n := 6) (q := 1) (v := 1) (by decide +kernel) ?_
  refine z_isub (n := 7) (by decide +kernel) ?_
  refine z_top (nI_pred e) ?_
  refine z_putf (n := 10) (idx := 48) (ty := .int) (by decide +kernel) fl_X9_48 (by first | assumption | (simp (disch := omega) only [hu_s, hu_n]; first | assumption | rfl)) ⟨_, _, _, rfl, rfl, by decide +kernel⟩ rfl rfl (Nat.le_of_ble_eq_true rfl) ?_
  refine z_ald0 (n := 11) (by decide +kernel) ?_
  refine z_getf (n := 14) (idx := 32) (by decide +kernel) fl_X9_32 (by first | assumption | (simp (disch := omega) only [hu_s, hu_n]; first | assumption | rfl)) (by rfl) ?_
  refine z_ald0 (n := 15) (by decide +kernel) ?_
  refine z_getf (n := 18) (idx := 35) (by decide +kernel) fl_X9_35 (by first | assumption | (simp (disch := omega) only [hu_s, hu_n]; first | assumption | rfl)) (by rfl) ?_
  refine z_ald0 (n := 19) (by decide +kernel) ?_
  refine z_getf (n := 22) (idx := 48) (by decide +kernel) fl_X9_48 (by first | assumption | (simp (disch := omega) only [hu_s, hu_n]; first | assumption | rfl)) (by rfl) ?_
  refine z_iald (n := 23) (by decide +kernel) (by first | assumption | (simp (disch := omega) only [hu_s, hu_n]; first | assumption | rfl)) (by first | assumption | exact ix_nI (by omega) (by omega)) ?_
  refine z_ald0 (n := 24) (by decide +kernel) ?_
  refine z_getf (n := 27) (idx := 45) (by decide +kernel) fl_X9_45 (by first | assumption | (simp (disch := omega) only [hu_s, hu_n]; first | assumption | rfl)) (by rfl) ?_
  refine z_iast (n := 28) (by decide +kernel) (by first | assumption | (simp (disch := omega) only [hu_s, hu_n]; first | assumption | rfl)) (by first | assumption | exact ix_nI (by omega) (by omega)) ?_
  refine z_vret (by decide +kernel) rfl (Nat.le_refl _) ?_
  exact ⟨rfl, by rw [ec]; rfl⟩
/-- behind a DO -/
def dPo (h h' : mH) (P : Nat) (t : Nat → Int32) (L k d e : Nat) (ad : Int32) (vb nu : Nat → Int32) (tr : Nat → Bool) (fb bh oa : Nat → Int32) (res : DRes) (x : Bool) : Prop :=
  frm h h' P (P + 9) ∧ (∀ f p, res = bd f p → x = false ∧ cBd h' P t L f p) ∧ (∀ v num right k', res = okd v num right k' → x = true ∧ cHd h' P t L k' (d + 1) (if v = 3 then e + 1 else e) ad (upd vb d v) (if v = 2 then nu else upd nu d num) (if v = 0 then updB tr d right else tr) (upd fb d (nI (tS t L k))) bh (if v = 3 then upd oa e (nI d) else oa))
theorem bd_i {f f' : Int32} {p p' : Nat} (h : bd f p = bd f' p') : f = f' ∧ p = p' := by
  unfold bd at h
  injection h with h
  injection h with h1 h2
  exact ⟨h1, h2⟩
theorem dPo_b {h h' : mH} {P L k d e : Nat} {ad : Int32} {t vb nu fb bh oa : Nat → Int32} {tr : Nat → Bool} {res : DRes} {f : Int32} {p : Nat} (hr : res = bd f p) (h1 : frm h h' P (P + 9)) (h2 : cBd h' P t L f p) : dPo h h' P t L k d e ad vb nu tr fb bh oa res false := by
  subst hr
  refine ⟨h1, fun f' p' q => ?_, fun v num right k' q => (bd_ok q).elim⟩
  obtain ⟨rfl, rfl⟩ := bd_i q
  exact ⟨rfl, h2⟩
theorem dPo_o {h h' : mH} {P L k d e k' : Nat} {ad v num : Int32} {right : Bool} {t vb nu fb bh oa : Nat → Int32} {tr : Nat → Bool} {res : DRes} (hr : res = okd v num right k') (h1 : frm h h' P (P + 9)) (h2 : cHd h' P t L k' (d + 1) (if v = 3 then e + 1 else e) ad (upd vb d v) (if v = 2 then nu else upd nu d num) (if v = 0 then updB tr d right else tr) (upd fb d (nI (tS t L k))) bh (if v = 3 then upd oa e (nI d) else oa)) : dPo h h' P t L k d e ad vb nu tr fb bh oa res true := by
  subst hr
  refine ⟨h1, fun f' p' q => (bd_ok q.symm).elim, fun v' num' right' k'' q => ?_⟩
  obtain ⟨rfl, rfl, rfl, rfl⟩ := okd_i q
  exact ⟨rfl, h2⟩
theorem dPo_o0 {h h' : mH} {P L k d e k' : Nat} {ad num : Int32} {right : Bool} {t vb nu fb bh oa : Nat → Int32} {tr : Nat → Bool} {res : DRes} (hr : res = okd 0 num right k') (h1 : frm h h' P (P + 9)) (h2 : cHd h' P t L k' (d + 1) e ad (upd vb d 0) (upd nu d num) (updB tr d right) (upd fb d (nI (tS t L k))) bh oa) : dPo h h' P t L k d e ad vb nu tr fb bh oa res true :=
  dPo_o hr h1 (by rw [if_neg (by decide), if_neg (by decide), if_pos rfl, if_neg (by decide)]; exact h2)
theorem dPo_o1 {h h' : mH} {P L k d e k' : Nat} {ad num : Int32} {right : Bool} {t vb nu fb bh oa : Nat → Int32} {tr : Nat → Bool} {res : DRes} (hr : res = okd 1 num right k') (h1 : frm h h' P (P + 9)) (h2 : cHd h' P t L k' (d + 1) e ad (upd vb d 1) (upd nu d num) tr (upd fb d (nI (tS t L k))) bh oa) : dPo h h' P t L k d e ad vb nu tr fb bh oa res true :=
  dPo_o hr h1 (by rw [if_neg (by decide), if_neg (by decide), if_neg (by decide), if_neg (by decide)]; exact h2)
theorem dPo_o2 {h h' : mH} {P L k d e k' : Nat} {ad num : Int32} {right : Bool} {t vb nu fb bh oa : Nat → Int32} {tr : Nat → Bool} {res : DRes} (hr : res = okd 2 num right k') (h1 : frm h h' P (P + 9)) (h2 : cHd h' P t L k' (d + 1) e ad (upd vb d 2) nu tr (upd fb d (nI (tS t L k))) bh oa) : dPo h h' P t L k d e ad vb nu tr fb bh oa res true :=
  dPo_o hr h1 (by rw [if_neg (by decide), if_pos rfl, if_neg (by decide), if_neg (by decide)]; exact h2)
theorem dPo_o3 {h h' : mH} {P L k d e k' : Nat} {ad num : Int32} {right : Bool} {t vb nu fb bh oa : Nat → Int32} {tr : Nat → Bool} {res : DRes} (hr : res = okd 3 num right k') (h1 : frm h h' P (P + 9)) (h2 : cHd h' P t L k' (d + 1) (e + 1) ad (upd vb d 3) (upd nu d num) tr (upd fb d (nI (tS t L k))) bh (upd oa e (nI d))) : dPo h h' P t L k d e ad vb nu tr fb bh oa res true :=
  dPo_o hr h1 (by rw [if_pos rfl, if_neg (by decide), if_neg (by decide), if_pos rfl]; exact h2)
theorem vbO_r (t : Nat → Int32) (L k : Nat) : vbO t L k = 0 ∨ vbO t L k = 1 ∨ vbO t L k = 2 ∨ vbO t L k = 3 ∨ vbO t L k = -1 := by
  unfold vbO
  split
  · exact .inl rfl
  · split
    · exact .inr (.inl rfl)
    · split
      · exact .inr (.inr (.inl rfl))
      · split
        · exact .inr (.inr (.inr (.inl rfl)))
        · exact .inr (.inr (.inr (.inr rfl)))
theorem k_readDo {G : mG} {h : mH} {P L k d e : Nat} {ad : Int32} {t vb nu fb bh oa : Nat → Int32} {tr : Nat → Bool} (dd9 : Nat) (hd : 6 ≤ dd9) (hST : ∀ U, gI G U → sOK G U) (hd4 : d ≤ 40) (he4 : e ≤ 4) (hL : L ≤ 300) (hk : k ≤ L) (H : cTk h P t L k d e ad vb nu tr fb bh oa) : EV G m_X9_readDo dd9 0 0 [.ref (P + 2), .ref P] h (fun r h' => ∃ x, r = some (.int (bI x)) ∧ dPo h h' P t L k d e ad vb nu tr fb bh oa (dR t L k d e) x) := by
  have hk1 := tE_L (t := t) (k := k) hk
  have hk2 := tE_L (t := t) (k := tE t L k) hk1
  have hk3 := tE_L (t := t) (k := tE t L (tE t L k)) hk2
  have H' := H
  obtain ⟨⟨vl, e0⟩, e1, e2, e3, e4, e5, e6, e7, e8⟩ := H
  have e0' := e0
  unfold oTok at e0
  refine ev_2_1 rfl rfl (by decide +kernel) (by decide +kernel) ?_
  refine z_ald1 (n := 1) (by decide +kernel) ?_
  refine z_s1 (n := 4) (idx := 73) (by decide +kernel) ml_X9_73 (Nat.le_of_ble_eq_true rfl) (by omega) ⟨Nat.le_refl _, Nat.le_refl _⟩ (k_verbOf (k := k) (t := t) (L := L) (vl := vl) 5 (by omega) hST hL hk e0' e1) ?_
  refine z_ist2 (n := 5) (by decide +kernel) rfl ?_
  skip
  by_cases c1 : vbO t L k = -1
  · have eb : dR t L k d e = bd 1 (tS t L k) := by unfold dR; rw [if_pos c1]
    refine z_ild2 (n := 6) (by decide +kernel) ?_
    refine z_iconst (n := 7) (q := -1) (v := -1) (by decide +kernel) ?_
    refine z_icmp_ne_f (n := 10) (off := 10) (tgt := 17) (by decide +kernel) (c1) ?_
    refine z_ald0 (n := 11) (by decide +kernel) ?_
    refine z_ald1 (n := 12) (by decide +kernel) ?_
    refine z_iconst (n := 13) (q := 1) (v := 1) (by decide +kernel) ?_
    refine z_w2 (n := 16) (idx := 77) (by decide +kernel) ml_X9_77 (by first | assumption | (simp (disch := omega) only [hu_s, hu_n]; first | assumption | rfl)) rfl (Nat.le_of_ble_eq_true rfl) (by omega) ⟨Nat.le_refl _, Nat.le_refl _⟩ (k_faultAt (k := k) (d := d) (e := e) (f := 1) 0 H') (fun h13 q13 => ?_)
    first | refine z_zr1 (by decide +kernel) rfl (Nat.le_refl _) ?_ | refine z_zr0 (by decide +kernel) rfl (Nat.le_refl _) ?_ | refine z_zrb (by decide +kernel) rfl (Nat.le_refl _) ?_
    exact ⟨false, rfl, dPo_b eb q13.1 q13.2⟩
  by_cases c2 : d = 40
  · have eb : dR t L k d e = bd 4 (tS t L k) := by unfold dR; rw [if_neg c1, if_pos c2]
    refine z_ild2 (n := 6) (by decide +kernel) ?_
    refine z_iconst (n := 7) (q := -1) (v := -1) (by decide +kernel) ?_
    refine z_icmp_ne_t (n := 10) (off := 10) (tgt := 17) (by decide +kernel) (c1) ?_
    refine z_ald0 (n := 18) (by decide +kernel) ?_
    refine z_getf (n := 21) (idx := 45) (by decide +kernel) fl_X9_45 (by first | assumption | (simp (disch := omega) only [hu_s, hu_n]; first | assumption | rfl)) (by rfl) ?_
    refine z_bipush (n := 23) (q := 40) (v := 40) (by decide +kernel) ?_
    refine z_icmp_lt_f (n := 26) (off := 10) (tgt := 33) (by decide +kernel) (by rw [c2]; decide) ?_
    refine z_ald0 (n := 27) (by decide +kernel) ?_
    refine z_ald1 (n := 28) (by decide +kernel) ?_
    refine z_iconst (n := 29) (q := 4) (v := 4) (by decide +kernel) ?_
    refine z_w2 (n := 32) (idx := 77) (by decide +kernel) ml_X9_77 (by first | assumption | (simp (disch := omega) only [hu_s, hu_n]; first | assumption | rfl)) rfl (Nat.le_of_ble_eq_true rfl) (by omega) ⟨Nat.le_refl _, Nat.le_refl _⟩ (k_faultAt (k := k) (d := d) (e := e) (f := 4) 0 H') (fun h29 q29 => ?_)
    first | refine z_zr1 (by decide +kernel) rfl (Nat.le_refl _) ?_ | refine z_zr0 (by decide +kernel) rfl (Nat.le_refl _) ?_ | refine z_zrb (by decide +kernel) rfl (Nat.le_refl _) ?_
    exact ⟨false, rfl, dPo_b eb q29.1 q29.2⟩
  have ed : dR t L k d e = if vbO t L k = 0 then dFo t L k else if vbO t L k = 1 then dHo t L k else if vbO t L k = 2 then dOp t L k else dAg t L k e := by
    unfold dR; rw [if_neg c1, if_neg c2]
  generalize hv : vbO t L k = v at c1 ed
  refine z_ild2 (n := 6) (by decide +kernel) ?_
  refine z_iconst (n := 7) (q := -1) (v := -1) (by decide +kernel) ?_
  refine z_icmp_ne_t (n := 10) (off := 10) (tgt := 17) (by decide +kernel) (c1) ?_
  refine z_ald0 (n := 18) (by decide +kernel) ?_
  refine z_getf (n := 21) (idx := 45) (by decide +kernel) fl_X9_45 (by first | assumption | (simp (disch := omega) only [hu_s, hu_n]; first | assumption | rfl)) (by rfl) ?_
  refine z_bipush (n := 23) (q := 40) (v := 40) (by decide +kernel) ?_
  refine z_icmp_lt_t (n := 26) (off := 10) (tgt := 33) (by decide +kernel) (nI_lt (b := 40) (by omega) (by omega)) ?_
  refine z_ald0 (n := 34) (by decide +kernel) ?_
  refine z_getf (n := 37) (idx := 18) (by decide +kernel) fl_X9_18 (by first | assumption | (simp (disch := omega) only [hu_s, hu_n]; first | assumption | rfl)) (by rfl) ?_
  refine z_ald0 (n := 38) (by decide +kernel) ?_
  refine z_getf (n := 41) (idx := 45) (by decide +kernel) fl_X9_45 (by first | assumption | (simp (disch := omega) only [hu_s, hu_n]; first | assumption | rfl)) (by rfl) ?_
  refine z_ild2 (n := 42) (by decide +kernel) ?_
  refine z_iast (n := 43) (by decide +kernel) (by first | assumption | (simp (disch := omega) only [hu_s, hu_n]; first | assumption | rfl)) (by first | assumption | exact ix_nI (by omega) (by omega) | exact ix_of (by simp only [n_0, n_1, n_2, n_3, n_4, n_5, n_6, n_7, n_8, n_10, n_50, n_90, n_130, n_370, n_570, nI_add, pk_mul]; rfl) (by omega) (by omega)) ?_
  refine z_ald0 (n := 44) (by decide +kernel) ?_
  refine z_getf (n := 47) (idx := 29) (by decide +kernel) fl_X9_29 (by first | assumption | (simp (disch := omega) only [hu_s, hu_n]; first | assumption | rfl)) (by rfl) ?_
  refine z_ald0 (n := 48) (by decide +kernel) ?_
  refine z_getf (n := 51) (idx := 45) (by decide +kernel) fl_X9_45 (by first | assumption | (simp (disch := omega) only [hu_s, hu_n]; first | assumption | rfl)) (by rfl) ?_
  refine z_ald1 (n := 52) (by decide +kernel) ?_
  refine z_getf (n := 55) (idx := 81) (by decide +kernel) fl_X9_81 (by first | assumption | (simp (disch := omega) only [hu_s, hu_n]; first | assumption | rfl)) (by rfl) ?_
  refine z_iast (n := 56) (by decide +kernel) (by first | assumption | (simp (disch := omega) only [hu_s, hu_n]; first | assumption | rfl)) (by first | assumption | exact ix_nI (by omega) (by omega) | exact ix_of (by simp only [n_0, n_1, n_2, n_3, n_4, n_5, n_6, n_7, n_8, n_10, n_50, n_90, n_130, n_370, n_570, nI_add, pk_mul]; rfl) (by omega) (by omega)) ?_
  refine z_ald0 (n := 57) (by decide +kernel) ?_
  refine z_dup (n := 58) (by decide +kernel) rfl ?_
  refine z_getf (n := 61) (idx := 45) (by decide +kernel) fl_X9_45 (by first | assumption | (simp (disch := omega) only [hu_s, hu_n]; first | assumption | rfl)) (by rfl) ?_
  refine z_iconst (n := 62) (q := 1) (v := 1) (by decide +kernel) ?_
  refine z_iadd (n := 63) (by decide +kernel) ?_
  refine z_top (nI_1 _) ?_
  refine z_putf (n := 66) (idx := 45) (ty := .int) (by decide +kernel) fl_X9_45 (by first | assumption | (simp (disch := omega) only [hu_s, hu_n]; first | assumption | rfl)) ⟨_, _, _, rfl, rfl, by decide +kernel⟩ rfl rfl (Nat.le_of_ble_eq_true rfl) ?_
  skip
  suffices hs : ∀ hx, hx = hu (hu (hu h (P + 2 + 1) (aI 40 (upd vb d v))) (P + 2 + 4) (aI 40 (upd fb d (nI (tS t L k))))) (P + 2) (oTex (P + 2) true 0 (-1) (-1) (nI (d + 1)) (nI e) ad) → Z G m_X9_readDo dd9 0 0 0 0 66 [some (.ref (P + 2)), some (.ref P), some (.int v)] [] hx (fun r h' => ∃ x, r = some (.int (bI x)) ∧ dPo h h' P t L k d e ad vb nu tr fb bh oa (dR t L k d e) x) from hs _ rfl
  intro hx hh
  have fx : frm h hx P (P + 9) := by subst hh; exact fun j hj => by simp (disch := omega) only [hu_n]
  have HX : cTk hx P t L k (d + 1) e ad (upd vb d v) nu tr (upd fb d (nI (tS t L k))) bh oa := by
    subst hh
    exact ⟨⟨vl, (by simp (disch := omega) only [hTn, hCr, hFl, hu_s, hu_n]; first | done | assumption | rfl)⟩, (by simp (disch := omega) only [hTn, hCr, hFl, hu_s, hu_n]; first | done | assumption | rfl), (by simp (disch := omega) only [hTn, hCr, hFl, hu_s, hu_n]; first | done | assumption | rfl), (by simp (disch := omega) only [hTn, hCr, hFl, hu_s, hu_n]; first | done | assumption | rfl), (by simp (disch := omega) only [hTn, hCr, hFl, hu_s, hu_n]; first | done | assumption | rfl), (by simp (disch := omega) only [hTn, hCr, hFl, hu_s, hu_n]; first | done | assumption | rfl), (by simp (disch := omega) only [hTn, hCr, hFl, hu_s, hu_n]; first | done | assumption | rfl), (by simp (disch := omega) only [hTn, hCr, hFl, hu_s, hu_n]; first | done | assumption | rfl), (by simp (disch := omega) only [hTn, hCr, hFl, hu_s, hu_n]; first | done | assumption | rfl)⟩
  have HXX := HX
  obtain ⟨⟨vlx, x0⟩, x1, x2, _⟩ := HXX
  have B92 : v = 0 → Z G m_X9_readDo dd9 0 0 0 0 92 [some (.ref (P + 2)), some (.ref P), some (.int v)] [] hx (fun r h' => ∃ x, r = some (.int (bI x)) ∧ dPo h h' P t L k d e ad vb nu tr fb bh oa (dR t L k d e) x) := by
    intro s0
    rw [if_pos s0] at ed
    subst s0
    unfold dFo at ed
    refine z_ald0 (n := 93) (by decide +kernel) ?_
    refine z_ald1 (n := 94) (by decide +kernel) ?_
    refine z_iconst (n := 95) (q := 0) (v := 0) (by decide +kernel) ?_
    refine z_bipush (n := 97) (q := 80) (v := 80) (by decide +kernel) ?_
    refine z_g3 (n := 100) (idx := 84) (by decide +kernel) ml_X9_84 (by first | assumption | exact (q97.2.1 c100).2.2.2.1 | exact (q105.2.2.1 c108).2.2.1 | exact (q131.2.1 c134).2.2.2.1 | exact (q162.2.1 c165).2.2.2.1) rfl (Nat.le_of_ble_eq_true rfl) (by omega) ⟨Nat.le_refl _, Nat.le_refl _⟩ (k_txNumber (k := k) (d := d) (e := e) (lo := 0) (hi := 80) 3 (by omega) (by omega) hL hk HX) (fun x97 h97 q97 => ?_)
    refine z_ifb_eq (n := 103) (off := 23) (tgt := 123) (by decide +kernel) (fun c100 => ?_) (fun c100 => ?_)
    · refine z_iconst (n := 124) (q := 0) (v := 0) (by decide +kernel) ?_
      first | refine z_zr1 (by decide +kernel) rfl (Nat.le_refl _) ?_ | refine z_zr0 (by decide +kernel) rfl (Nat.le_refl _) ?_ | refine z_zrb (by decide +kernel) rfl (Nat.le_refl _) ?_
      first | (have z9 : x113 = true := c116; exact ⟨true, rfl, dPo_o0 (by rw [ed, if_pos (q97.2.1 c100).1, if_pos (by rw [← q105.2.1]; exact c108), if_pos (by rw [← q113.2.1]; exact c116)]) (frm_tr (frm_tr (frm_tr fx q97.1) q105.1) q113.1) (cTk_hd (q113.2.2.1 c116))⟩) | (have z9 : x113 = false := c116; exact ⟨false, rfl, dPo_b (by rw [ed, if_pos (q97.2.1 c100).1, if_pos (by rw [← q105.2.1]; exact c108), if_neg (by rw [← q113.2.1, c116]; decide)]) (frm_tr (frm_tr (frm_tr fx q97.1) q105.1) q113.1) (q113.2.2.2 c116)⟩) | (have z9 : x105 = false := c108; exact ⟨false, rfl, dPo_b (by rw [ed, if_pos (q97.2.1 c100).1, if_neg (by rw [← q105.2.1, c108]; decide)]) (frm_tr (frm_tr fx q97.1) q105.1) (q105.2.2.2 c108)⟩) | (have z9 : x97 = false := c100; exact ⟨false, rfl, dPo_b (by rw [ed, if_neg (q97.2.2 c100).1]) (frm_tr fx q97.1) (q97.2.2 c100).2⟩)
    · refine z_ald0 (n := 104) (by decide +kernel) ?_
      refine z_ald1 (n := 105) (by decide +kernel) ?_
      refine z_g1 (n := 108) (idx := 88) (by decide +kernel) ml_X9_88 (by first | assumption | exact (q97.2.1 c100).2.2.2.1 | exact (q105.2.2.1 c108).2.2.1 | exact (q131.2.1 c134).2.2.2.1 | exact (q162.2.1 c165).2.2.2.1) rfl (Nat.le_of_ble_eq_true rfl) (by omega) ⟨Nat.le_refl _, Nat.le_refl _⟩ (k_txSide (k := tE t L k) (d := d) (e := e) 5 (by omega) hST (by omega) hL hk1 (q97.2.1 c100).2) (fun x105 h105 q105 => ?_)
      refine z_ifb_eq (n := 111) (off := 15) (tgt := 123) (by decide +kernel) (fun c108 => ?_) (fun c108 => ?_)
      · refine z_iconst (n := 124) (q := 0) (v := 0) (by decide +kernel) ?_
        first | refine z_zr1 (by decide +kernel) rfl (Nat.le_refl _) ?_ | refine z_zr0 (by decide +kernel) rfl (Nat.le_refl _) ?_ | refine z_zrb (by decide +kernel) rfl (Nat.le_refl _) ?_
        first | (have z9 : x113 = true := c116; exact ⟨true, rfl, dPo_o0 (by rw [ed, if_pos (q97.2.1 c100).1, if_pos (by rw [← q105.2.1]; exact c108), if_pos (by rw [← q113.2.1]; exact c116)]) (frm_tr (frm_tr (frm_tr fx q97.1) q105.1) q113.1) (cTk_hd (q113.2.2.1 c116))⟩) | (have z9 : x113 = false := c116; exact ⟨false, rfl, dPo_b (by rw [ed, if_pos (q97.2.1 c100).1, if_pos (by rw [← q105.2.1]; exact c108), if_neg (by rw [← q113.2.1, c116]; decide)]) (frm_tr (frm_tr (frm_tr fx q97.1) q105.1) q113.1) (q113.2.2.2 c116)⟩) | (have z9 : x105 = false := c108; exact ⟨false, rfl, dPo_b (by rw [ed, if_pos (q97.2.1 c100).1, if_neg (by rw [← q105.2.1, c108]; decide)]) (frm_tr (frm_tr fx q97.1) q105.1) (q105.2.2.2 c108)⟩) | (have z9 : x97 = false := c100; exact ⟨false, rfl, dPo_b (by rw [ed, if_neg (q97.2.2 c100).1]) (frm_tr fx q97.1) (q97.2.2 c100).2⟩)
      · refine z_ald0 (n := 112) (by decide +kernel) ?_
        refine z_ald1 (n := 113) (by decide +kernel) ?_
        refine z_g1 (n := 116) (idx := 91) (by decide +kernel) ml_X9_91 (by first | assumption | exact (q97.2.1 c100).2.2.2.1 | exact (q105.2.2.1 c108).2.2.1 | exact (q131.2.1 c134).2.2.2.1 | exact (q162.2.1 c165).2.2.2.1) rfl (Nat.le_of_ble_eq_true rfl) (by omega) ⟨Nat.le_refl _, Nat.le_refl _⟩ (k_txStop (k := tE t L (tE t L k)) (d := d + 1) (e := e) 3 (by omega) hL hk2 (q105.2.2.1 c108)) (fun x113 h113 q113 => ?_)
        refine z_ifb_eq (n := 119) (off := 7) (tgt := 123) (by decide +kernel) (fun c116 => ?_) (fun c116 => ?_)
        · refine z_iconst (n := 124) (q := 0) (v := 0) (by decide +kernel) ?_
          first | refine z_zr1 (by decide +kernel) rfl (Nat.le_refl _) ?_ | refine z_zr0 (by decide +kernel) rfl (Nat.le_refl _) ?_ | refine z_zrb (by decide +kernel) rfl (Nat.le_refl _) ?_
          first | (have z9 : x113 = true := c116; exact ⟨true, rfl, dPo_o0 (by rw [ed, if_pos (q97.2.1 c100).1, if_pos (by rw [← q105.2.1]; exact c108), if_pos (by rw [← q113.2.1]; exact c116)]) (frm_tr (frm_tr (frm_tr fx q97.1) q105.1) q113.1) (cTk_hd (q113.2.2.1 c116))⟩) | (have z9 : x113 = false := c116; exact ⟨false, rfl, dPo_b (by rw [ed, if_pos (q97.2.1 c100).1, if_pos (by rw [← q105.2.1]; exact c108), if_neg (by rw [← q113.2.1, c116]; decide)]) (frm_tr (frm_tr (frm_tr fx q97.1) q105.1) q113.1) (q113.2.2.2 c116)⟩) | (have z9 : x105 = false := c108; exact ⟨false, rfl, dPo_b (by rw [ed, if_pos (q97.2.1 c100).1, if_neg (by rw [← q105.2.1, c108]; decide)]) (frm_tr (frm_tr fx q97.1) q105.1) (q105.2.2.2 c108)⟩) | (have z9 : x97 = false := c100; exact ⟨false, rfl, dPo_b (by rw [ed, if_neg (q97.2.2 c100).1]) (frm_tr fx q97.1) (q97.2.2 c100).2⟩)
        · refine z_iconst (n := 120) (q := 1) (v := 1) (by decide +kernel) ?_
          refine z_goto (n := 123) (off := 4) (tgt := 124) (by decide +kernel) ?_
          first | refine z_zr1 (by decide +kernel) rfl (Nat.le_refl _) ?_ | refine z_zr0 (by decide +kernel) rfl (Nat.le_refl _) ?_ | refine z_zrb (by decide +kernel) rfl (Nat.le_refl _) ?_
          first | (have z9 : x113 = true := c116; exact ⟨true, rfl, dPo_o0 (by rw [ed, if_pos (q97.2.1 c100).1, if_pos (by rw [← q105.2.1]; exact c108), if_pos (by rw [← q113.2.1]; exact c116)]) (frm_tr (frm_tr (frm_tr fx q97.1) q105.1) q113.1) (cTk_hd (q113.2.2.1 c116))⟩) | (have z9 : x113 = false := c116; exact ⟨false, rfl, dPo_b (by rw [ed, if_pos (q97.2.1 c100).1, if_pos (by rw [← q105.2.1]; exact c108), if_neg (by rw [← q113.2.1, c116]; decide)]) (frm_tr (frm_tr (frm_tr fx q97.1) q105.1) q113.1) (q113.2.2.2 c116)⟩) | (have z9 : x105 = false := c108; exact ⟨false, rfl, dPo_b (by rw [ed, if_pos (q97.2.1 c100).1, if_neg (by rw [← q105.2.1, c108]; decide)]) (frm_tr (frm_tr fx q97.1) q105.1) (q105.2.2.2 c108)⟩) | (have z9 : x97 = false := c100; exact ⟨false, rfl, dPo_b (by rw [ed, if_neg (q97.2.2 c100).1]) (frm_tr fx q97.1) (q97.2.2 c100).2⟩)
  have B125 : v = 1 → Z G m_X9_readDo dd9 0 0 0 0 125 [some (.ref (P + 2)), some (.ref P), some (.int v)] [] hx (fun r h' => ∃ x, r = some (.int (bI x)) ∧ dPo h h' P t L k d e ad vb nu tr fb bh oa (dR t L k d e) x) := by
    intro s0
    rw [if_neg (by rw [s0]; decide), if_pos s0] at ed
    subst s0
    unfold dHo at ed
    refine z_ald0 (n := 126) (by decide +kernel) ?_
    refine z_ald1 (n := 127) (by decide +kernel) ?_
    refine z_iconst (n := 128) (q := 1) (v := 1) (by decide +kernel) ?_
    refine z_sipush (n := 131) (q := 1000) (v := 1000) (by decide +kernel) ?_
    refine z_g3 (n := 134) (idx := 84) (by decide +kernel) ml_X9_84 (by first | assumption | exact (q97.2.1 c100).2.2.2.1 | exact (q105.2.2.1 c108).2.2.1 | exact (q131.2.1 c134).2.2.2.1 | exact (q162.2.1 c165).2.2.2.1) rfl (Nat.le_of_ble_eq_true rfl) (by omega) ⟨Nat.le_refl _, Nat.le_refl _⟩ (k_txNumber (k := k) (d := d) (e := e) (lo := 1) (hi := 1000) 3 (by omega) (by omega) hL hk HX) (fun x131 h131 q131 => ?_)
    refine z_ifb_eq (n := 137) (off := 15) (tgt := 149) (by decide +kernel) (fun c134 => ?_) (fun c134 => ?_)
    · refine z_iconst (n := 150) (q := 0) (v := 0) (by decide +kernel) ?_
      first | refine z_zr1 (by decide +kernel) rfl (Nat.le_refl _) ?_ | refine z_zr0 (by decide +kernel) rfl (Nat.le_refl _) ?_ | refine z_zrb (by decide +kernel) rfl (Nat.le_refl _) ?_
      first | (have z9 : x139 = true := c142; exact ⟨true, rfl, dPo_o1 (by rw [ed, if_pos (q131.2.1 c134).1, if_pos (by rw [← q139.2.1]; exact c142)]) (frm_tr (frm_tr fx q131.1) q139.1) (cTk_hd (q139.2.2.1 c142))⟩) | (have z9 : x139 = false := c142; exact ⟨false, rfl, dPo_b (by rw [ed, if_pos (q131.2.1 c134).1, if_neg (by rw [← q139.2.1, c142]; decide)]) (frm_tr (frm_tr fx q131.1) q139.1) (q139.2.2.2 c142)⟩) | (have z9 : x131 = false := c134; exact ⟨false, rfl, dPo_b (by rw [ed, if_neg (q131.2.2 c134).1]) (frm_tr fx q131.1) (q131.2.2 c134).2⟩)
    · refine z_ald0 (n := 138) (by decide +kernel) ?_
      refine z_ald1 (n := 139) (by decide +kernel) ?_
      refine z_g1 (n := 142) (idx := 91) (by decide +kernel) ml_X9_91 (by first | assumption | exact (q97.2.1 c100).2.2.2.1 | exact (q105.2.2.1 c108).2.2.1 | exact (q131.2.1 c134).2.2.2.1 | exact (q162.2.1 c165).2.2.2.1) rfl (Nat.le_of_ble_eq_true rfl) (by omega) ⟨Nat.le_refl _, Nat.le_refl _⟩ (k_txStop (k := tE t L k) (d := d + 1) (e := e) 3 (by omega) hL hk1 (q131.2.1 c134).2) (fun x139 h139 q139 => ?_)
      refine z_ifb_eq (n := 145) (off := 7) (tgt := 149) (by decide +kernel) (fun c142 => ?_) (fun c142 => ?_)
      · refine z_iconst (n := 150) (q := 0) (v := 0) (by decide +kernel) ?_
        first | refine z_zr1 (by decide +kernel) rfl (Nat.le_refl _) ?_ | refine z_zr0 (by decide +kernel) rfl (Nat.le_refl _) ?_ | refine z_zrb (by decide +kernel) rfl (Nat.le_refl _) ?_
        first | (have z9 : x139 = true := c142; exact ⟨true, rfl, dPo_o1 (by rw [ed, if_pos (q131.2.1 c134).1, if_pos (by rw [← q139.2.1]; exact c142)]) (frm_tr (frm_tr fx q131.1) q139.1) (cTk_hd (q139.2.2.1 c142))⟩) | (have z9 : x139 = false := c142; exact ⟨false, rfl, dPo_b (by rw [ed, if_pos (q131.2.1 c134).1, if_neg (by rw [← q139.2.1, c142]; decide)]) (frm_tr (frm_tr fx q131.1) q139.1) (q139.2.2.2 c142)⟩) | (have z9 : x131 = false := c134; exact ⟨false, rfl, dPo_b (by rw [ed, if_neg (q131.2.2 c134).1]) (frm_tr fx q131.1) (q131.2.2 c134).2⟩)
      · refine z_iconst (n := 146) (q := 1) (v := 1) (by decide +kernel) ?_
        refine z_goto (n := 149) (off := 4) (tgt := 150) (by decide +kernel) ?_
        first | refine z_zr1 (by decide +kernel) rfl (Nat.le_refl _) ?_ | refine z_zr0 (by decide +kernel) rfl (Nat.le_refl _) ?_ | refine z_zrb (by decide +kernel) rfl (Nat.le_refl _) ?_
        first | (have z9 : x139 = true := c142; exact ⟨true, rfl, dPo_o1 (by rw [ed, if_pos (q131.2.1 c134).1, if_pos (by rw [← q139.2.1]; exact c142)]) (frm_tr (frm_tr fx q131.1) q139.1) (cTk_hd (q139.2.2.1 c142))⟩) | (have z9 : x139 = false := c142; exact ⟨false, rfl, dPo_b (by rw [ed, if_pos (q131.2.1 c134).1, if_neg (by rw [← q139.2.1, c142]; decide)]) (frm_tr (frm_tr fx q131.1) q139.1) (q139.2.2.2 c142)⟩) | (have z9 : x131 = false := c134; exact ⟨false, rfl, dPo_b (by rw [ed, if_neg (q131.2.2 c134).1]) (frm_tr fx q131.1) (q131.2.2 c134).2⟩)
  have B151 : v = 2 → Z G m_X9_readDo dd9 0 0 0 0 151 [some (.ref (P + 2)), some (.ref P), some (.int v)] [] hx (fun r h' => ∃ x, r = some (.int (bI x)) ∧ dPo h h' P t L k d e ad vb nu tr fb bh oa (dR t L k d e) x) := by
    intro s0
    rw [if_neg (by rw [s0]; decide), if_neg (by rw [s0]; decide), if_pos s0] at ed
    subst s0
    unfold dOp at ed
    refine z_ald0 (n := 152) (by decide +kernel) ?_
    refine z_ald1 (n := 153) (by decide +kernel) ?_
    refine z_g1 (n := 156) (idx := 91) (by decide +kernel) ml_X9_91 (by first | assumption | exact (q97.2.1 c100).2.2.2.1 | exact (q105.2.2.1 c108).2.2.1 | exact (q131.2.1 c134).2.2.2.1 | exact (q162.2.1 c165).2.2.2.1) rfl (Nat.le_of_ble_eq_true rfl) (by omega) ⟨Nat.le_refl _, Nat.le_refl _⟩ (k_txStop (k := k) (d := d + 1) (e := e) 3 (by omega) hL hk HX) (fun x153 h153 q153 => ?_)
    first | refine z_zr1 (by decide +kernel) rfl (Nat.le_refl _) ?_ | refine z_zr0 (by decide +kernel) rfl (Nat.le_refl _) ?_ | refine z_zrb (by decide +kernel) rfl (Nat.le_refl _) ?_
    refine ⟨x153, rfl, ?_⟩; by_cases c : x153 = true; exact c ▸ dPo_o2 (num := 0) (right := false) (by rw [ed, if_pos (by rw [← q153.2.1]; exact c)]) (frm_tr fx q153.1) (cTk_hd (q153.2.2.1 c)); have c' := Bool.eq_false_iff.mpr c; exact c' ▸ dPo_b (by rw [ed, if_neg (by rw [← q153.2.1]; exact c)]) (frm_tr fx q153.1) (q153.2.2.2 c')
  have B157 : ¬ v = 0 → ¬ v = 1 → ¬ v = 2 → Z G m_X9_readDo dd9 0 0 0 0 157 [some (.ref (P + 2)), some (.ref P), some (.int v)] [] hx (fun r h' => ∃ x, r = some (.int (bI x)) ∧ dPo h h' P t L k d e ad vb nu tr fb bh oa (dR t L k d e) x) := by
    intro s0 s1 s2
    rw [if_neg s0, if_neg s1, if_neg s2] at ed
    have s3 : v = 3 := by
      have := vbO_r t L k
      rw [hv] at this
      rcases this with z | z | z | z | z
      · exact absurd z s0
      · exact absurd z s1
      · exact absurd z s2
      · exact z
      · exact absurd z c1
    subst s3
    unfold dAg at ed
    refine z_ald0 (n := 158) (by decide +kernel) ?_
    refine z_ald1 (n := 159) (by decide +kernel) ?_
    refine z_iconst (n := 160) (q := 1) (v := 1) (by decide +kernel) ?_
    refine z_bipush (n := 162) (q := 50) (v := 50) (by decide +kernel) ?_
    refine z_g3 (n := 165) (idx := 84) (by decide +kernel) ml_X9_84 (by first | assumption | exact (q97.2.1 c100).2.2.2.1 | exact (q105.2.2.1 c108).2.2.1 | exact (q131.2.1 c134).2.2.2.1 | exact (q162.2.1 c165).2.2.2.1) rfl (Nat.le_of_ble_eq_true rfl) (by omega) ⟨Nat.le_refl _, Nat.le_refl _⟩ (k_txNumber (k := k) (d := d) (e := e) (lo := 1) (hi := 50) 3 (by omega) (by omega) hL hk HX) (fun x162 h162 q162 => ?_)
    refine z_ifb_eq (n := 168) (off := 15) (tgt := 180) (by decide +kernel) (fun c165 => ?_) (fun c165 => ?_)
    · refine z_iconst (n := 181) (q := 0) (v := 0) (by decide +kernel) ?_
      first | refine z_zr1 (by decide +kernel) rfl (Nat.le_refl _) ?_ | refine z_zr0 (by decide +kernel) rfl (Nat.le_refl _) ?_ | refine z_zrb (by decide +kernel) rfl (Nat.le_refl _) ?_
      first | (have z9 : x170 = true := c173; exact ⟨true, rfl, dPo_o3 (by rw [ed, if_pos (q162.2.1 c165).1, if_pos (q170.2.1 c173).1.1, if_neg (q170.2.1 c173).1.2]) (frm_tr (frm_tr fx q162.1) q170.1) (cTk_hd (q170.2.1 c173).2)⟩) | (have z9 : x170 = false := c173; rcases q170.2.2 c173 with z | z; exact ⟨false, rfl, dPo_b (by rw [ed, if_pos (q162.2.1 c165).1, if_neg (by rw [z.1]; decide)]) (frm_tr (frm_tr fx q162.1) q170.1) z.2⟩; exact ⟨false, rfl, dPo_b (by rw [ed, if_pos (q162.2.1 c165).1, if_pos z.1, if_pos z.2.1]) (frm_tr (frm_tr fx q162.1) q170.1) z.2.2⟩) | (have z9 : x162 = false := c165; exact ⟨false, rfl, dPo_b (by rw [ed, if_neg (q162.2.2 c165).1]) (frm_tr fx q162.1) (q162.2.2 c165).2⟩)
    · refine z_ald0 (n := 169) (by decide +kernel) ?_
      refine z_ald1 (n := 170) (by decide +kernel) ?_
      refine z_g1 (n := 173) (idx := 94) (by decide +kernel) ml_X9_94 (by first | assumption | exact (q97.2.1 c100).2.2.2.1 | exact (q105.2.2.1 c108).2.2.1 | exact (q131.2.1 c134).2.2.2.1 | exact (q162.2.1 c165).2.2.2.1) rfl (Nat.le_of_ble_eq_true rfl) (by omega) ⟨Nat.le_refl _, Nat.le_refl _⟩ (k_txOpening (k := tE t L k) (d := d) (e := e) 3 (by omega) (by omega) he4 hL hk1 (q162.2.1 c165).2) (fun x170 h170 q170 => ?_)
      refine z_ifb_eq (n := 176) (off := 7) (tgt := 180) (by decide +kernel) (fun c173 => ?_) (fun c173 => ?_)
      · refine z_iconst (n := 181) (q := 0) (v := 0) (by decide +kernel) ?_
        first | refine z_zr1 (by decide +kernel) rfl (Nat.le_refl _) ?_ | refine z_zr0 (by decide +kernel) rfl (Nat.le_refl _) ?_ | refine z_zrb (by decide +kernel) rfl (Nat.le_refl _) ?_
        first | (have z9 : x170 = true := c173; exact ⟨true, rfl, dPo_o3 (by rw [ed, if_pos (q162.2.1 c165).1, if_pos (q170.2.1 c173).1.1, if_neg (q170.2.1 c173).1.2]) (frm_tr (frm_tr fx q162.1) q170.1) (cTk_hd (q170.2.1 c173).2)⟩) | (have z9 : x170 = false := c173; rcases q170.2.2 c173 with z | z; exact ⟨false, rfl, dPo_b (by rw [ed, if_pos (q162.2.1 c165).1, if_neg (by rw [z.1]; decide)]) (frm_tr (frm_tr fx q162.1) q170.1) z.2⟩; exact ⟨false, rfl, dPo_b (by rw [ed, if_pos (q162.2.1 c165).1, if_pos z.1, if_pos z.2.1]) (frm_tr (frm_tr fx q162.1) q170.1) z.2.2⟩) | (have z9 : x162 = false := c165; exact ⟨false, rfl, dPo_b (by rw [ed, if_neg (q162.2.2 c165).1]) (frm_tr fx q162.1) (q162.2.2 c165).2⟩)
      · refine z_iconst (n := 177) (q := 1) (v := 1) (by decide +kernel) ?_
        refine z_goto (n := 180) (off := 4) (tgt := 181) (by decide +kernel) ?_
        first | refine z_zr1 (by decide +kernel) rfl (Nat.le_refl _) ?_ | refine z_zr0 (by decide +kernel) rfl (Nat.le_refl _) ?_ | refine z_zrb (by decide +kernel) rfl (Nat.le_refl _) ?_
        first | (have z9 : x170 = true := c173; exact ⟨true, rfl, dPo_o3 (by rw [ed, if_pos (q162.2.1 c165).1, if_pos (q170.2.1 c173).1.1, if_neg (q170.2.1 c173).1.2]) (frm_tr (frm_tr fx q162.1) q170.1) (cTk_hd (q170.2.1 c173).2)⟩) | (have z9 : x170 = false := c173; rcases q170.2.2 c173 with z | z; exact ⟨false, rfl, dPo_b (by rw [ed, if_pos (q162.2.1 c165).1, if_neg (by rw [z.1]; decide)]) (frm_tr (frm_tr fx q162.1) q170.1) z.2⟩; exact ⟨false, rfl, dPo_b (by rw [ed, if_pos (q162.2.1 c165).1, if_pos z.1, if_pos z.2.1]) (frm_tr (frm_tr fx q162.1) q170.1) z.2.2⟩) | (have z9 : x162 = false := c165; exact ⟨false, rfl, dPo_b (by rw [ed, if_neg (q162.2.2 c165).1]) (frm_tr fx q162.1) (q162.2.2 c165).2⟩)
  refine z_ild2 (n := 67) (by decide +kernel) ?_
  by_cases s0 : v = 0
  · refine z_tswI (v := 0) (off := 25) (dflt := 90) (lo := 0) (hi := 2) (offs := #[25, 58, 84]) (len := 25) (tgt := 92) s0 (by decide +kernel) ?_
    exact B92 s0
  by_cases s1 : v = 1
  · refine z_tswI (v := 1) (off := 58) (dflt := 90) (lo := 0) (hi := 2) (offs := #[25, 58, 84]) (len := 25) (tgt := 125) s1 (by decide +kernel) ?_
    exact B125 s1
  by_cases s2 : v = 2
  · refine z_tswI (v := 2) (off := 84) (dflt := 90) (lo := 0) (hi := 2) (offs := #[25, 58, 84]) (len := 25) (tgt := 151) s2 (by decide +kernel) ?_
    exact B151 s2
  refine z_tswO (dflt := 90) (lo := 0) (hi := 2) (offs := #[25, 58, 84]) (len := 25) (tgt := 157) (tsw_out2 s0 s1 s2) (by decide +kernel) ?_
  exact B157 s0 s1 s2
