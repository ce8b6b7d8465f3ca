/-! CreasedPaperModel: readText -/
def rPo (h h' : mH) (Q n : Nat) (t : Nat → Int32) (L : Nat) (res : Sum (Int32 × Nat) tSt) (x : Int32) : Prop :=
  mFr h h' Q ∧ (∀ f p, res = .inl (f, p) → x = f ∧ ¬ x = 0 ∧ mBd h' Q n p) ∧ (∀ s, res = .inr s → x = 0 ∧ s.1.2.2 = 0 ∧ INV s ∧ ∃ so mu fr un op, mTx h' Q n t L s.1.1 s.1.2.1 s.1.2.2 so mu fr un op ∧ MR s so mu fr un op)
theorem rPo_fr {h h1 h' : mH} {Q n : Nat} {t : Nat → Int32} {L : Nat} {res : Sum (Int32 × Nat) tSt} {x : Int32} (f : mFr h h1 Q) (p : rPo h1 h' Q n t L res x) : rPo h h' Q n t L res x := ⟨mFr_tr f p.1, p.2⟩
theorem rPo_l {h h' : mH} {Q n : Nat} {t : Nat → Int32} {L : Nat} {x : Int32} {p : Nat} (h1 : mFr h h' Q) (h2 : mBd h' Q n p) (h3 : ¬ x = 0) : rPo h h' Q n t L (.inl (x, p)) x :=
  ⟨h1, fun f' p' q => (by cases q; exact ⟨rfl, h3, h2⟩), fun s q => (by cases q)⟩
theorem rPo_r {h h' : mH} {Q n : Nat} {t : Nat → Int32} {L : Nat} {s : tSt} (h1 : mFr h h' Q) (h2 : s.1.2.2 = 0 ∧ INV s ∧ ∃ so mu fr un op, mTx h' Q n t L s.1.1 s.1.2.1 s.1.2.2 so mu fr un op ∧ MR s so mu fr un op) : rPo h h' Q n t L (.inr s) 0 :=
  ⟨h1, fun f' p' q => (by cases q), fun s q => (by cases q; exact ⟨rfl, h2⟩)⟩
theorem dR_cases (r : DRes) : (∃ f p, r = bd f p) ∨ ∃ v num right k, r = okd v num right k := by
  rcases r with ⟨f, p⟩ | ⟨v, num, right, k⟩
  · exact .inl ⟨f, p, rfl⟩
  · exact .inr ⟨v, num, right, k, rfl⟩
theorem m_readLoop {G : mG} {h0 : mH} {Q n L : Nat} {t : Nat → Int32} (dd9 : Nat) (hd : 6 ≤ dd9) (hL : L ≤ 300) (hp : ∀ i, i < L → 0 ≤ t i) : ∀ f (s : tSt) (h : mH) (so mu fr un op : Nat → Int32), mFr h0 h Q → s.1.1 ≤ L → L + 1 ≤ s.1.1 + f → INV s → MR s so mu fr un op → mTx h Q n t L s.1.1 s.1.2.1 s.1.2.2 so mu fr un op → Z G m_X11_readText dd9 0 0 0 0 19 [some (.ref Q), none] [] h (fun r h' => ∃ x, r = some (.int x) ∧ rPo h0 h' Q n t L (rdF t L f s) x) := by
  intro f
  induction f with
  | zero => intro s h so mu fr un op _ h1 h2; omega
  | succ f ih =>
    intro s h so mu fr un op F0 h1 h2 I R H
    have hk1 : s.1.1 ≤ 301 := by omega
    have B := mTx_bd H
    have H' := H
    obtain ⟨m1, wd1, e0, e1, e2, e3, e4, e5, e6, e7, e8, e9⟩ := H
    have e1' := e1
    obtain ⟨g0, g4, g5, g6, g7, gw⟩ := e1
    by_cases c0 : tC t L s.1.1 = 0
    · by_cases ce : s.1.2.2 = 0
      · rw [rdF_d ⟨c0, ce⟩]
        refine z_ald0 (n := 20) (by decide +kernel) ?_
        refine z_getf (n := 23) (idx := 129) (by decide +kernel) fl_X11_129 (by first | assumption | (simp (disch := omega) only [hu_s, hu_n]; first | assumption | rfl)) (by rfl) ?_
        refine z_top g6 ?_
        refine z_if_eq_t (n := 26) (off := 70) (tgt := 93) (by decide +kernel) (tT_0.mpr c0) ?_
        refine z_ald0 (n := 94) (by decide +kernel) ?_
        refine z_getf (n := 97) (idx := 159) (by decide +kernel) fl_X11_159 (by first | assumption | (simp (disch := omega) only [hu_s, hu_n]; first | assumption | rfl)) (by rfl) ?_
        refine z_top e3 ?_
        refine z_if_le_t (n := 100) (off := 7) (tgt := 104) (by decide +kernel) (by rw [ce]; decide) ?_
        refine z_iconst (n := 105) (q := 0) (v := 0) (by decide +kernel) ?_
        refine z_iret (by decide +kernel) rfl (Nat.le_refl _) ?_
        exact ⟨_, rfl, rPo_r F0 ⟨ce, I, so, mu, fr, un, op, H', R⟩⟩
      · have eb : dR t L s.1.1 s.1.2.1 s.1.2.2 = bd 1 (tS t L s.1.1) := by
          have ev : vbO t L s.1.1 = -1 := Decidable.byContradiction (fun z => vbO_c z c0)
          unfold dR
          rw [if_pos ev]
        rw [rdF_b (fun z => ce z.2) (fun z => by have := z.1; unfold sgn at this; rw [c0] at this; exact absurd this (by simp)) eb]
        refine z_ald0 (n := 20) (by decide +kernel) ?_
        refine z_getf (n := 23) (idx := 129) (by decide +kernel) fl_X11_129 (by first | assumption | (simp (disch := omega) only [hu_s, hu_n]; first | assumption | rfl)) (by rfl) ?_
        refine z_top g6 ?_
        refine z_if_eq_t (n := 26) (off := 70) (tgt := 93) (by decide +kernel) (tT_0.mpr c0) ?_
        refine z_ald0 (n := 94) (by decide +kernel) ?_
        refine z_getf (n := 97) (idx := 159) (by decide +kernel) fl_X11_159 (by first | assumption | (simp (disch := omega) only [hu_s, hu_n]; first | assumption | rfl)) (by rfl) ?_
        refine z_top e3 ?_
        refine z_if_le_f (n := 100) (off := 7) (tgt := 104) (by decide +kernel) (nI_ge (a := 0) (by omega) (by have := I.1; omega)) ?_
        refine z_iconst (n := 101) (q := 1) (v := 1) (by decide +kernel) ?_
        refine z_goto (n := 104) (off := 4) (tgt := 105) (by decide +kernel) ?_
        refine z_iret (by decide +kernel) rfl (Nat.le_refl _) ?_
        exact ⟨_, rfl, rPo_l F0 B (by decide)⟩
    · have hz0 : ¬ (tC t L s.1.1 = 0 ∧ s.1.2.2 = 0) := fun z => c0 z.1
      by_cases cc : sgn t L s.1.1 41 = true ∧ ¬ s.1.2.2 = 0
      · rw [rdF_c cc]
        have hI := I
        obtain ⟨i1, i2, i3, g, i4, i5⟩ := I
        have ee : s.1.2.2 = (s.1.2.2 - 1) + 1 := by have := cc.2; omega
        obtain ⟨o1, o2, o3, o4⟩ := i4 (s.1.2.2 - 1) (by omega)
        have oo : op (s.1.2.2 - 1) = nI (g (s.1.2.2 - 1)) := by rw [R.2 _ (by omega)]; exact o1
        have ihx := fun h'' => ih (clN t L s) h'' so mu fr (upd un (op (s.1.2.2 - 1)).toNatClampNeg (nI s.1.2.1)) op
        have ik : (clN t L s).1.1 = tE t L s.1.1 := rfl
        have ix9 : ix (op (s.1.2.2 - 1)) (op (s.1.2.2 - 1)).toNatClampNeg 41 := by rw [oo, nI_clamp (by omega)]; exact ix_nI (by omega) (by omega)
        have pe : m1 9 - 1 = nI (s.1.2.2 - 1) := by rw [e3, ee, nI_pred]; rfl
        refine z_ald0 (n := 20) (by decide +kernel) ?_
        refine z_getf (n := 23) (idx := 129) (by decide +kernel) fl_X11_129 (by first | assumption | (simp (disch := omega) only [hu_s, hu_n]; first | assumption | rfl)) (by rfl) ?_
        refine z_top g6 ?_
        refine z_if_eq_f (n := 26) (off := 70) (tgt := 93) (by decide +kernel) (fun z => c0 (tT_0.mp z)) ?_
        refine z_iconst (n := 27) (q := 0) (v := 0) (by decide +kernel) ?_
        refine z_ist1 (n := 28) (by decide +kernel) rfl ?_
        refine z_ald0 (n := 29) (by decide +kernel) ?_
        refine z_getf (n := 32) (idx := 129) (by decide +kernel) fl_X11_129 (by first | assumption | (simp (disch := omega) only [hu_s, hu_n]; first | assumption | rfl)) (by rfl) ?_
        refine z_top g6 ?_
        refine z_bipush (n := 34) (q := 41) (v := 41) (by decide +kernel) ?_
        refine z_icmp_ne_f (n := 37) (off := 45) (tgt := 79) (by decide +kernel) ((tT_s (by decide)).mpr cc.1) ?_
        refine z_ald0 (n := 38) (by decide +kernel) ?_
        refine z_getf (n := 41) (idx := 159) (by decide +kernel) fl_X11_159 (by first | assumption | (simp (disch := omega) only [hu_s, hu_n]; first | assumption | rfl)) (by rfl) ?_
        refine z_top e3 ?_
        refine z_if_le_f (n := 44) (off := 38) (tgt := 79) (by decide +kernel) (nI_ge (a := 0) (by omega) (by omega)) ?_
        refine z_ald0 (n := 45) (by decide +kernel) ?_
        refine z_dup (n := 46) (by decide +kernel) rfl ?_
        refine z_getf (n := 49) (idx := 159) (by decide +kernel) fl_X11_159 (by first | assumption | (simp (disch := omega) only [hu_s, hu_n]; first | assumption | rfl)) (by rfl) ?_
        refine z_iconst (n := 50) (q := 1) (v := 1) (by decide +kernel) ?_
        refine z_isub (n := 51) (by decide +kernel) ?_
        refine z_top pe ?_
        refine z_putf (n := 54) (idx := 159) (ty := .int) (by decide +kernel) fl_X11_159 (by first | assumption | (simp (disch := omega) only [hu_s, hu_n]; first | assumption | rfl)) ⟨_, _, _, rfl, rfl, by decide +kernel⟩ rfl rfl (Nat.le_of_ble_eq_true rfl) ?_
        refine z_ald0 (n := 55) (by decide +kernel) ?_
        refine z_getf (n := 58) (idx := 41) (by decide +kernel) fl_X11_41 (by first | assumption | (simp (disch := omega) only [hu_s, hu_n]; first | assumption | rfl)) (by rfl) ?_
        refine z_ald0 (n := 59) (by decide +kernel) ?_
        refine z_getf (n := 62) (idx := 44) (by decide +kernel) fl_X11_44 (by first | assumption | (simp (disch := omega) only [hu_s, hu_n]; first | assumption | rfl)) (by rfl) ?_
        refine z_ald0 (n := 63) (by decide +kernel) ?_
        refine z_getf (n := 66) (idx := 159) (by decide +kernel) fl_X11_159 (by first | assumption | (simp (disch := omega) only [hu_s, hu_n]; first | assumption | rfl)) (by rfl) ?_
        refine z_iald (n := 67) (by decide +kernel) (by first | assumption | (simp (disch := omega) only [hu_s, hu_n]; first | assumption | rfl)) (by first | assumption | exact ix_nI (by omega) (by omega) | exact ix_of (by simp only [n_0, n_1, n_2, n_3, n_4, n_5, n_6, n_7, n_8, n_10, n_50, n_90, n_130, n_370, n_570, nI_add, pk_mul]; rfl) (by omega) (by omega)) ?_
        refine z_ald0 (n := 68) (by decide +kernel) ?_
        refine z_getf (n := 71) (idx := 152) (by decide +kernel) fl_X11_152 (by first | assumption | (simp (disch := omega) only [hu_s, hu_n]; first | assumption | rfl)) (by rfl) ?_
        refine z_top e2 ?_
        refine z_iast (n := 72) (by decide +kernel) (by first | assumption | (simp (disch := omega) only [hu_s, hu_n]; first | assumption | rfl)) (by first | assumption | exact ix_nI (by omega) (by omega) | exact ix_of (by simp only [n_0, n_1, n_2, n_3, n_4, n_5, n_6, n_7, n_8, n_10, n_50, n_90, n_130, n_370, n_570, nI_add, pk_mul]; rfl) (by omega) (by omega)) ?_
        refine z_ald0 (n := 73) (by decide +kernel) ?_
        refine z_w0v (n := 76) (idx := 149) (by decide +kernel) ml_X11_149 (by first | assumption | (simp (disch := omega) only [hu_s, hu_n]; first | assumption | rfl)) rfl (Nat.le_of_ble_eq_true rfl) (by omega) ⟨Nat.le_refl _, Nat.le_refl _⟩ (mTx_next (d := s.1.2.1) (e := s.1.2.2 - 1) (k := s.1.1) (so := so) (mu := mu) (fr := fr) (un := upd un (op (s.1.2.2 - 1)).toNatClampNeg (nI s.1.2.1)) (op := op) 3 (by omega) hL hk1 hp ⟨upd m1 9 (nI (s.1.2.2 - 1)), wd1, (by simp (disch := omega) only [hTn, hCr, hFl, hu_s, hu_n]; first | done | assumption | rfl), ⟨g0, g4, g5, g6, g7, gw⟩, e2, rfl, (by simp (disch := omega) only [hTn, hCr, hFl, hu_s, hu_n]; first | done | assumption | rfl), (by simp (disch := omega) only [hTn, hCr, hFl, hu_s, hu_n]; first | done | assumption | rfl), (by simp (disch := omega) only [hTn, hCr, hFl, hu_s, hu_n]; first | done | assumption | rfl), (by simp (disch := omega) only [hTn, hCr, hFl, hu_s, hu_n]; first | done | assumption | rfl), (by simp (disch := omega) only [hTn, hCr, hFl, hu_s, hu_n]; first | done | assumption | rfl), (by simp (disch := omega) only [hTn, hCr, hFl, hu_s, hu_n]; first | done | assumption | rfl)⟩) (fun h73 q73 => ?_)
        refine z_goto (n := 79) (off := 8) (tgt := 84) (by decide +kernel) ?_
        refine z_ild1 (n := 85) (by decide +kernel) ?_
        refine z_if_eq_t (n := 88) (off := 5) (tgt := 90) (by decide +kernel) (rfl) ?_
        refine z_goto (n := 93) (off := -71) (tgt := 19) (by decide +kernel) ?_
        exact z_wk (lv' := [some (.ref Q), none]) (by simp [wk]) (ihx h73 (mFr_tr F0 (fun j p q => (q73.1 j p q).trans (by simp (disch := omega) only [hu_n]))) (by rw [ik]; exact tE_L h1) (by rw [ik]; have := tE_gt c0; omega) (INV_cl hI cc.2) (MR_cl hI R cc.2) q73.2)
      · have fin : ∀ x80 h80, aPo h h80 Q n t L s.1.2.1 s.1.2.2 so mu (upd fr s.1.2.1 (nI (tS t L s.1.1))) un op (dR t L s.1.1 s.1.2.1 s.1.2.2) x80 → Z G m_X11_readText dd9 0 0 0 0 83 [some (.ref Q), none] [.int x80] h80 (fun r h' => ∃ x, r = some (.int x) ∧ rPo h0 h' Q n t L (rdF t L (f + 1) s) x) := by
          intro x80 h80 q80
          rcases dR_cases (dR t L s.1.1 s.1.2.1 s.1.2.2) with ⟨fx, px, er⟩ | ⟨v, num, right, k', er⟩
          · obtain ⟨y1, y2, y3⟩ := q80.2.1 _ _ er
            rw [rdF_b hz0 cc er, ← y1]
            refine z_ist1 (n := 84) (by decide +kernel) rfl ?_
            refine z_ild1 (n := 85) (by decide +kernel) ?_
            refine z_if_eq_f (n := 88) (off := 5) (tgt := 90) (by decide +kernel) (y2) ?_
            refine z_ild1 (n := 89) (by decide +kernel) ?_
            refine z_iret (by decide +kernel) rfl (Nat.le_refl _) ?_
            exact ⟨_, rfl, rPo_l (mFr_tr F0 q80.1) y3 y2⟩
          · obtain ⟨y1, y2⟩ := q80.2.2 _ _ _ _ er
            rw [rdF_o hz0 cc er]
            have ro := dR_ok er
            refine z_ist1 (n := 84) (by decide +kernel) rfl ?_
            refine z_ild1 (n := 85) (by decide +kernel) ?_
            refine z_if_eq_t (n := 88) (off := 5) (tgt := 90) (by decide +kernel) (y1) ?_
            refine z_goto (n := 93) (off := -71) (tgt := 19) (by decide +kernel) ?_
            exact z_wk (lv' := [some (.ref Q), none]) (by simp [wk]) (ih (okN t L s v num right k') h80 _ _ _ _ _ (mFr_tr F0 q80.1) (ro.2.1 h1) (by show L + 1 ≤ k' + f; have := ro.1; omega) (INV_ok I er) (MR_ok R) y2)
        refine z_ald0 (n := 20) (by decide +kernel) ?_
        refine z_getf (n := 23) (idx := 129) (by decide +kernel) fl_X11_129 (by first | assumption | (simp (disch := omega) only [hu_s, hu_n]; first | assumption | rfl)) (by rfl) ?_
        refine z_top g6 ?_
        refine z_if_eq_f (n := 26) (off := 70) (tgt := 93) (by decide +kernel) (fun z => c0 (tT_0.mp z)) ?_
        refine z_iconst (n := 27) (q := 0) (v := 0) (by decide +kernel) ?_
        refine z_ist1 (n := 28) (by decide +kernel) rfl ?_
        refine z_ald0 (n := 29) (by decide +kernel) ?_
        refine z_getf (n := 32) (idx := 129) (by decide +kernel) fl_X11_129 (by first | assumption | (simp (disch := omega) only [hu_s, hu_n]; first | assumption | rfl)) (by rfl) ?_
        refine z_top g6 ?_
        refine z_bipush (n := 34) (q := 41) (v := 41) (by decide +kernel) ?_
        refine z_icmp_ne (n := 37) (off := 45) (tgt := 79) (by decide +kernel) (fun c34 => ?_) (fun c34 => ?_)
        · refine z_ald0 (n := 80) (by decide +kernel) ?_
          refine z_e0 (n := 83) (idx := 180) (by decide +kernel) ml_X11_180 (by first | assumption | (simp (disch := omega) only [hu_s, hu_n]; first | assumption | rfl)) rfl (Nat.le_of_ble_eq_true rfl) (by omega) ⟨Nat.le_refl _, Nat.le_refl _⟩ (m_act (d := s.1.2.1) (e := s.1.2.2) (k := s.1.1) 5 (by omega) I.2.1 I.1 hL hk1 hp H') (fun x80 h80 q80 => ?_)
          exact z_wk (lv' := [some (.ref Q), none]) (by simp [wk]) (fin x80 h80 q80)
        · refine z_ald0 (n := 38) (by decide +kernel) ?_
          refine z_getf (n := 41) (idx := 159) (by decide +kernel) fl_X11_159 (by first | assumption | (simp (disch := omega) only [hu_s, hu_n]; first | assumption | rfl)) (by rfl) ?_
          refine z_top e3 ?_
          refine z_if_le (n := 44) (off := 38) (tgt := 79) (by decide +kernel) (fun c41 => ?_) (fun c41 => ?_)
          · refine z_ald0 (n := 80) (by decide +kernel) ?_
            refine z_e0 (n := 83) (idx := 180) (by decide +kernel) ml_X11_180 (by first | assumption | (simp (disch := omega) only [hu_s, hu_n]; first | assumption | rfl)) rfl (Nat.le_of_ble_eq_true rfl) (by omega) ⟨Nat.le_refl _, Nat.le_refl _⟩ (m_act (d := s.1.2.1) (e := s.1.2.2) (k := s.1.1) 5 (by omega) I.2.1 I.1 hL hk1 hp H') (fun x80 h80 q80 => ?_)
            exact z_wk (lv' := [some (.ref Q), none]) (by simp [wk]) (fin x80 h80 q80)
          · exact absurd ⟨(tT_s (by decide)).mp c34, fun z => c41 (by rw [z]; decide)⟩ cc
theorem MR_0 {v1 v2 v4 v5 v6 : Nat → Int32} {v3 : Nat → Bool} {so mu fr un op : Nat → Int32} : MR ((0, 0, 0), (v1, v2, v3), (v4, v5, v6)) so mu fr un op := ⟨fun i hi => absurd hi (Nat.not_lt_zero _), fun i hi => absurd hi (Nat.not_lt_zero _)⟩
theorem INV_0 {v1 v2 v4 v5 v6 : Nat → Int32} {v3 : Nat → Bool} : INV ((0, 0, 0), (v1, v2, v3), (v4, v5, v6)) := ⟨Nat.zero_le _, Nat.zero_le _, fun i hi => absurd hi (Nat.not_lt_zero _), fun _ => 0, fun i hi => absurd hi (Nat.not_lt_zero _), fun j hj => by have : j = 0 := Nat.le_zero.mp hj; subst this; exact WR_nil _ _⟩
theorem m_readText {G : mG} {h : mH} {Q n L : Nat} {m : Nat → Int32} {wd : Int64} {t so mu fr un op : Nat → Int32} {v1 v2 v4 v5 v6 : Nat → Int32} {v3 : Nat → Bool} (dd9 : Nat) (hd : 6 ≤ dd9) (hL : L ≤ 300) (hp : ∀ i, i < L → 0 ≤ t i) (h0 : h Q = oMod Q (nI (n + 1)) m wd) (hm : m 0 = nI L) (h4 : h (Q + 4) = aI 300 t) (h5 : h (Q + 5) = aI 41 so) (h6 : h (Q + 6) = aI 41 mu) (h7 : h (Q + 7) = aI 41 fr) (h8 : h (Q + 8) = aI 41 un) (h9 : h (Q + 9) = aI 5 op) : EV G m_X11_readText dd9 0 0 [.ref Q] h (fun r h' => ∃ x, r = some (.int x) ∧ rPo h h' Q n t L (rdF t L 301 ((0, 0, 0), (v1, v2, v3), (v4, v5, v6))) x) := by
  refine ev_1_1 rfl (by decide +kernel) (by decide +kernel) ?_
  refine z_ald0 (n := 1) (by decide +kernel) ?_
  refine z_iconst (n := 2) (q := 0) (v := 0) (by decide +kernel) ?_
  refine z_putf (n := 5) (idx := 152) (ty := .int) (by decide +kernel) fl_X11_152 (by first | assumption | (simp (disch := omega) only [hu_s, hu_n]; first | assumption | rfl)) ⟨_, _, _, rfl, rfl, by decide +kernel⟩ rfl rfl (Nat.le_of_ble_eq_true rfl) ?_
  refine z_ald0 (n := 6) (by decide +kernel) ?_
  refine z_iconst (n := 7) (q := 0) (v := 0) (by decide +kernel) ?_
  refine z_putf (n := 10) (idx := 159) (ty := .int) (by decide +kernel) fl_X11_159 (by first | assumption | (simp (disch := omega) only [hu_s, hu_n]; first | assumption | rfl)) ⟨_, _, _, rfl, rfl, by decide +kernel⟩ rfl rfl (Nat.le_of_ble_eq_true rfl) ?_
  refine z_ald0 (n := 11) (by decide +kernel) ?_
  refine z_iconst (n := 12) (q := 0) (v := 0) (by decide +kernel) ?_
  refine z_putf (n := 15) (idx := 120) (ty := .int) (by decide +kernel) fl_X11_120 (by first | assumption | (simp (disch := omega) only [hu_s, hu_n]; first | assumption | rfl)) ⟨_, _, _, rfl, rfl, by decide +kernel⟩ rfl rfl (Nat.le_of_ble_eq_true rfl) ?_
  refine z_ald0 (n := 16) (by decide +kernel) ?_
  refine z_v0v (n := 19) (idx := 149) (by decide +kernel) ml_X11_149 (by first | assumption | (simp (disch := omega) only [hu_s, hu_n]; first | assumption | rfl)) rfl (Nat.le_of_ble_eq_true rfl) (by omega) ⟨Nat.le_refl _, Nat.le_refl _⟩ (m_nextToken (n := n) (k := 0) (t := t) (L := L) (m := upd (upd (upd m 8 0) 9 0) 4 0) (wd := wd) 3 (by omega) (by simp (disch := omega) only [hTn, hCr, hFl, hu_s, hu_n]; first | done | assumption | rfl) (by simp (disch := omega) only [hTn, hCr, hFl, hu_s, hu_n]; first | done | assumption | rfl) hm hL rfl (by omega) hp) ?_
  skip
  refine m_readLoop dd9 hd hL hp 301 ((0, 0, 0), (v1, v2, v3), (v4, v5, v6)) _ so mu fr un op (fun j p q => by simp (disch := omega) only [hu_n]) (Nat.zero_le _) (by show L + 1 ≤ 0 + 301; omega) INV_0 MR_0 ?_
  exact ⟨ntM t L 0 (upd (upd (upd m 8 0) 9 0) 4 0), ntW t L 0 wd, (by simp (disch := omega) only [hTn, hCr, hFl, hu_s, hu_n]; first | done | assumption | rfl), mTok_nt hm, rfl, rfl, (by simp (disch := omega) only [hTn, hCr, hFl, hu_s, hu_n]; first | done | assumption | rfl), (by simp (disch := omega) only [hTn, hCr, hFl, hu_s, hu_n]; first | done | assumption | rfl), (by simp (disch := omega) only [hTn, hCr, hFl, hu_s, hu_n]; first | done | assumption | rfl), (by simp (disch := omega) only [hTn, hCr, hFl, hu_s, hu_n]; first | done | assumption | rfl), (by simp (disch := omega) only [hTn, hCr, hFl, hu_s, hu_n]; first | done | assumption | rfl), (by simp (disch := omega) only [hTn, hCr, hFl, hu_s, hu_n]; first | done | assumption | rfl)⟩
