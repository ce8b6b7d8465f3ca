/-! Text: readFrom -/
def cPo (h h' : mH) (P : Nat) (t : Nat → Int32) (L : Nat) (ad : Int32) (res : Sum (Int32 × Nat) tSt) (x : Bool) : Prop :=
  frm h h' P (P + 9) ∧ (∀ f p, res = .inl (f, p) → x = false ∧ cBd h' P t L f p) ∧ (∀ s, res = .inr s → x = true ∧ s.1.2.2 = 0 ∧ INV s ∧ cTk h' P t L s.1.1 s.1.2.1 s.1.2.2 ad s.2.1.1 s.2.1.2.1 s.2.1.2.2 s.2.2.1 s.2.2.2.1 s.2.2.2.2)
theorem cPo_l {h h' : mH} {P L : Nat} {t : Nat → Int32} {ad f : Int32} {p : Nat} (h1 : frm h h' P (P + 9)) (h2 : cBd h' P t L f p) : cPo h h' P t L ad (.inl (f, p)) false :=
  ⟨h1, fun f' p' q => (by cases q; exact ⟨rfl, h2⟩), fun s q => (by cases q)⟩
theorem cPo_r {h h' : mH} {P L : Nat} {t : Nat → Int32} {ad : Int32} {s : tSt} (h1 : frm h h' P (P + 9)) (h2 : s.1.2.2 = 0 ∧ INV s ∧ cTk h' P t L s.1.1 s.1.2.1 s.1.2.2 ad s.2.1.1 s.2.1.2.1 s.2.1.2.2 s.2.2.1 s.2.2.2.1 s.2.2.2.2) : cPo h h' P t L ad (.inr s) true :=
  ⟨h1, fun f' p' q => (by cases q), fun s q => (by cases q; exact ⟨rfl, h2⟩)⟩
theorem k_readLoop {G : mG} {h0 : mH} {P L : Nat} {ad : Int32} {t : Nat → Int32} (dd9 : Nat) (hd : 7 ≤ dd9) (hST : ∀ U, gI G U → sOK G U) (hL : L ≤ 300) : ∀ f (s : tSt) (h : mH) (j : Nat), j + f = 301 → frm h0 h P (P + 9) → s.1.1 ≤ L → L + 1 ≤ s.1.1 + f → INV s → cHd h P t L s.1.1 s.1.2.1 s.1.2.2 ad s.2.1.1 s.2.1.2.1 s.2.1.2.2 s.2.2.1 s.2.2.2.1 s.2.2.2.2 → Z G m_X9_readFrom dd9 0 0 0 0 36 [some (.ref (P + 2)), some (.ref P), some (.int (nI j))] [] h (fun r h' => ∃ x, r = some (.int (bI x)) ∧ cPo h0 h' P t L ad (rdF t L f s) x) := by
  intro f
  induction f with
  | zero => intro s h j _ _ h1 h2; omega
  | succ f ih =>
    intro s h j hj F0 h1 h2 I H
    have HH := H
    obtain ⟨⟨kd, sa, vl, g0⟩, g1, g2⟩ := HH
    refine z_ild2 (n := 37) (by decide +kernel) ?_
    refine z_sipush (n := 40) (q := 300) (v := 300) (by decide +kernel) ?_
    refine z_icmp_gt_f (n := 43) (off := 62) (tgt := 102) (by decide +kernel) (nI_nlt (a := 300) (by omega) (by omega)) ?_
    refine z_ald1 (n := 44) (by decide +kernel) ?_
    refine z_w0v (n := 47) (idx := 56) (by decide +kernel) ml_X9_56 (by first | assumption | (simp (disch := omega) only [hu_s, hu_n]; first | assumption | rfl)) rfl (Nat.le_of_ble_eq_true rfl) (by omega) ⟨Nat.le_refl _, Nat.le_refl _⟩ (cHd_next (k := s.1.1) (d := s.1.2.1) (e := s.1.2.2) 2 (by omega) hL h1 H) (fun h44 q44 => ?_)
    skip
    obtain ⟨f1, T⟩ := q44
    have T' := T
    obtain ⟨⟨vl', e0⟩, e1, e2, e3, e4, e5, e6, e7, e8⟩ := T
    have e0' := e0
    unfold oTok at e0
    have b4 := tC_b t L s.1.1
    have bd4 := I.1
    have bd40 := I.2.1
    have F1 := frm_tr F0 f1
    by_cases c0 : tC t L s.1.1 = 0 ∧ s.1.2.2 = 0
    · rw [rdF_d c0]
      refine z_ald1 (n := 48) (by decide +kernel) ?_
      refine z_getf (n := 51) (idx := 59) (by decide +kernel) fl_X9_59 (by first | assumption | (simp (disch := omega) only [hu_s, hu_n]; first | assumption | rfl)) (by rfl) ?_
      refine z_if_ne_f (n := 54) (off := 12) (tgt := 63) (by decide +kernel) (by rw [c0.1]; rfl) ?_
      refine z_ald0 (n := 55) (by decide +kernel) ?_
      refine z_getf (n := 58) (idx := 48) (by decide +kernel) fl_X9_48 (by first | assumption | (simp (disch := omega) only [hu_s, hu_n]; first | assumption | rfl)) (by rfl) ?_
      refine z_if_ne_f (n := 61) (off := 5) (tgt := 63) (by decide +kernel) (by rw [c0.2]; rfl) ?_
      refine z_iconst (n := 62) (q := 1) (v := 1) (by decide +kernel) ?_
      first | refine z_zr1 (by decide +kernel) rfl (Nat.le_refl _) ?_ | refine z_zr0 (by decide +kernel) rfl (Nat.le_refl _) ?_ | refine z_zrb (by decide +kernel) rfl (Nat.le_refl _) ?_
      exact ⟨true, rfl, cPo_r F1 ⟨c0.2, I, T'⟩⟩
    by_cases cc : sgn t L s.1.1 41 = true ∧ ¬ s.1.2.2 = 0
    · rw [rdF_c cc]
      have c4 : ¬ tC t L s.1.1 = 0 := fun z => by have := cc.1; unfold sgn at this; rw [z] at this; exact absurd this (by simp)
      obtain ⟨e', he'⟩ : ∃ e', s.1.2.2 = e' + 1 := ⟨s.1.2.2 - 1, by omega⟩
      have ikx : (clN t L s).1.1 = tE t L s.1.1 := rfl
      have hg : ∃ g, s.2.2.2.2 e' = nI g ∧ g < 40 := by
        obtain ⟨_, _, _, gg, h4, _⟩ := I
        obtain ⟨o1, _, _, o4⟩ := h4 e' (by omega)
        exact ⟨gg e', o1, by omega⟩
      obtain ⟨g, hg, hg4⟩ := hg
      have T2 := T'.2.2
      rw [he'] at T2
      have hn : cHd (hu (hu h44 (P + 2) (oTex (P + 2) true 0 (-1) (-1) (nI s.1.2.1) (nI e') ad)) (P + 2 + 5) (aI 40 (upd s.2.2.2.1 (s.2.2.2.2 e').toNatClampNeg (nI s.1.2.1)))) P t L (clN t L s).1.1 (clN t L s).1.2.1 (clN t L s).1.2.2 ad (clN t L s).2.1.1 (clN t L s).2.1.2.1 (clN t L s).2.1.2.2 (clN t L s).2.2.1 (clN t L s).2.2.2.1 (clN t L s).2.2.2.2 := by
        unfold clN
        dsimp only
        rw [he', Nat.add_sub_cancel]
        exact ⟨⟨_, _, _, (by simp (disch := omega) only [hTn, hCr, hFl, hu_s, hu_n]; first | done | assumption | rfl)⟩, (by simp (disch := omega) only [hTn, hCr, hFl, hu_s, hu_n]; first | done | assumption | rfl), (by simp (disch := omega) only [hTn, hCr, hFl, hu_s, hu_n]; first | done | assumption | rfl), (by simp (disch := omega) only [hTn, hCr, hFl, hu_s, hu_n]; first | done | assumption | rfl), (by simp (disch := omega) only [hTn, hCr, hFl, hu_s, hu_n]; first | done | assumption | rfl), (by simp (disch := omega) only [hTn, hCr, hFl, hu_s, hu_n]; first | done | assumption | rfl), (by simp (disch := omega) only [hTn, hCr, hFl, hu_s, hu_n]; first | done | assumption | rfl), (by simp (disch := omega) only [hTn, hCr, hFl, hu_s, hu_n]; first | done | assumption | rfl), (by simp (disch := omega) only [hTn, hCr, hFl, hu_s, hu_n]; first | done | assumption | rfl)⟩
      refine z_ald1 (n := 48) (by decide +kernel) ?_
      refine z_getf (n := 51) (idx := 59) (by decide +kernel) fl_X9_59 (by first | assumption | (simp (disch := omega) only [hu_s, hu_n]; first | assumption | rfl)) (by rfl) ?_
      refine z_if_ne_t (n := 54) (off := 12) (tgt := 63) (by decide +kernel) (fun z => c4 ((nI_ij (b := 0) (by omega) (by omega)).mp z)) ?_
      refine z_ald1 (n := 64) (by decide +kernel) ?_
      refine z_bipush (n := 66) (q := 41) (v := 41) (by decide +kernel) ?_
      refine z_v1 (n := 69) (idx := 62) (by decide +kernel) ml_X9_62 (by first | assumption | (simp (disch := omega) only [hu_s, hu_n]; first | assumption | rfl)) rfl (Nat.le_of_ble_eq_true rfl) (by omega) ⟨Nat.le_refl _, Nat.le_refl _⟩ (k_isSign (k := s.1.1) (t := t) (L := L) 0 e0' e1 hL) ?_
      refine z_ifb_eq_f (n := 72) (off := 17) (tgt := 86) (by decide +kernel) (cc.1) ?_
      refine z_ald0 (n := 73) (by decide +kernel) ?_
      refine z_getf (n := 76) (idx := 48) (by decide +kernel) fl_X9_48 (by first | assumption | (simp (disch := omega) only [hu_s, hu_n]; first | assumption | rfl)) (by rfl) ?_
      refine z_if_le_f (n := 79) (off := 10) (tgt := 86) (by decide +kernel) (by rw [he']; exact Int32.not_le.mpr (nI_lt (a := 0) (by omega) (by omega))) ?_
      refine z_ald0 (n := 80) (by decide +kernel) ?_
      refine z_v0v (n := 83) (idx := 66) (by decide +kernel) ml_X9_66 (by first | assumption | (simp (disch := omega) only [hu_s, hu_n]; first | assumption | rfl)) rfl (Nat.le_of_ble_eq_true rfl) (by omega) ⟨Nat.le_refl _, Nat.le_refl _⟩ (k_closeAgain (e := e') (g := g) 0 (by omega) hg hg4 T2) ?_
      refine z_goto (n := 86) (off := 13) (tgt := 96) (by decide +kernel) ?_
      refine z_inc2 (n := 99) (q := 1) (by decide +kernel) rfl (nI_1 _) ?_
      refine z_goto (n := 102) (off := -63) (tgt := 36) (by decide +kernel) ?_
      exact ih (clN t L s) _ (j + 1) (by omega) (frm_tr F1 (fun j9 h9 => by simp (disch := omega) only [hu_n])) (by rw [ikx]; exact tE_L h1) (by rw [ikx]; have := tE_gt c4; omega) (INV_cl I cc.2) hn
    · have fin : ∀ x88 h88, dPo h44 h88 P t L s.1.1 s.1.2.1 s.1.2.2 ad s.2.1.1 s.2.1.2.1 s.2.1.2.2 s.2.2.1 s.2.2.2.1 s.2.2.2.2 (dR t L s.1.1 s.1.2.1 s.1.2.2) x88 → Z G m_X9_readFrom dd9 0 0 0 0 91 [some (.ref (P + 2)), some (.ref P), some (.int (nI j))] [.int (bI x88)] h88 (fun r h' => ∃ x, r = some (.int (bI x)) ∧ cPo h0 h' P t L ad (rdF t L (f + 1) s) x) := by
        intro x88 h88 q88
        rcases dR_cases (dR t L s.1.1 s.1.2.1 s.1.2.2) with ⟨fx, px, er⟩ | ⟨v, num, right, k', er⟩
        · obtain ⟨y1, y2⟩ := q88.2.1 _ _ er
          rw [rdF_b c0 cc er]
          refine z_ifb_ne_f (n := 94) (off := 5) (tgt := 96) (by decide +kernel) (y1) ?_
          refine z_iconst (n := 95) (q := 0) (v := 0) (by decide +kernel) ?_
          first | refine z_zr1 (by decide +kernel) rfl (Nat.le_refl _) ?_ | refine z_zr0 (by decide +kernel) rfl (Nat.le_refl _) ?_ | refine z_zrb (by decide +kernel) rfl (Nat.le_refl _) ?_
          exact ⟨false, rfl, cPo_l (frm_tr F1 q88.1) y2⟩
        · obtain ⟨y1, y2⟩ := q88.2.2 _ _ _ _ er
          rw [rdF_o c0 cc er]
          have ro := dR_ok er
          refine z_ifb_ne_t (n := 94) (off := 5) (tgt := 96) (by decide +kernel) (y1) ?_
          refine z_inc2 (n := 99) (q := 1) (by decide +kernel) rfl (nI_1 _) ?_
          refine z_goto (n := 102) (off := -63) (tgt := 36) (by decide +kernel) ?_
          exact ih (okN t L s v num right k') _ (j + 1) (by omega) (frm_tr F1 q88.1) (ro.2.1 h1) (by show L + 1 ≤ k' + f; have := ro.1; omega) (INV_ok I er) y2
      refine z_ald1 (n := 48) (by decide +kernel) ?_
      refine z_getf (n := 51) (idx := 59) (by decide +kernel) fl_X9_59 (by first | assumption | (simp (disch := omega) only [hu_s, hu_n]; first | assumption | rfl)) (by rfl) ?_
      refine z_if_ne (n := 54) (off := 12) (tgt := 63) (by decide +kernel) (fun c51 => ?_) (fun c51 => ?_)
      · refine z_ald1 (n := 64) (by decide +kernel) ?_
        refine z_bipush (n := 66) (q := 41) (v := 41) (by decide +kernel) ?_
        refine z_v1 (n := 69) (idx := 62) (by decide +kernel) ml_X9_62 (by first | assumption | (simp (disch := omega) only [hu_s, hu_n]; first | assumption | rfl)) rfl (Nat.le_of_ble_eq_true rfl) (by omega) ⟨Nat.le_refl _, Nat.le_refl _⟩ (k_isSign (k := s.1.1) (t := t) (L := L) 0 e0' e1 hL) ?_
        refine z_ifb_eq (n := 72) (off := 17) (tgt := 86) (by decide +kernel) (fun c69 => ?_) (fun c69 => ?_)
        · refine z_ald0 (n := 87) (by decide +kernel) ?_
          refine z_ald1 (n := 88) (by decide +kernel) ?_
          refine z_g1 (n := 91) (idx := 69) (by decide +kernel) ml_X9_69 (by first | assumption | (simp (disch := omega) only [hu_s, hu_n]; first | assumption | rfl)) rfl (Nat.le_of_ble_eq_true rfl) (by omega) ⟨Nat.le_refl _, Nat.le_refl _⟩ (k_readDo (k := s.1.1) (d := s.1.2.1) (e := s.1.2.2) 6 (by omega) hST bd40 bd4 hL h1 T') (fun x88 h88 q88 => ?_)
          exact fin _ _ q88
        · refine z_ald0 (n := 73) (by decide +kernel) ?_
          refine z_getf (n := 76) (idx := 48) (by decide +kernel) fl_X9_48 (by first | assumption | (simp (disch := omega) only [hu_s, hu_n]; first | assumption | rfl)) (by rfl) ?_
          refine z_if_le (n := 79) (off := 10) (tgt := 86) (by decide +kernel) (fun c76 => ?_) (fun c76 => ?_)
          · refine z_ald0 (n := 87) (by decide +kernel) ?_
            refine z_ald1 (n := 88) (by decide +kernel) ?_
            refine z_g1 (n := 91) (idx := 69) (by decide +kernel) ml_X9_69 (by first | assumption | (simp (disch := omega) only [hu_s, hu_n]; first | assumption | rfl)) rfl (Nat.le_of_ble_eq_true rfl) (by omega) ⟨Nat.le_refl _, Nat.le_refl _⟩ (k_readDo (k := s.1.1) (d := s.1.2.1) (e := s.1.2.2) 6 (by omega) hST bd40 bd4 hL h1 T') (fun x88 h88 q88 => ?_)
            exact fin _ _ q88
          · exact absurd ⟨c69, fun z => c76 (by rw [z]; decide)⟩ cc
      · refine z_ald0 (n := 55) (by decide +kernel) ?_
        refine z_getf (n := 58) (idx := 48) (by decide +kernel) fl_X9_48 (by first | assumption | (simp (disch := omega) only [hu_s, hu_n]; first | assumption | rfl)) (by rfl) ?_
        refine z_if_ne (n := 61) (off := 5) (tgt := 63) (by decide +kernel) (fun c58 => ?_) (fun c58 => ?_)
        · refine z_ald1 (n := 64) (by decide +kernel) ?_
          refine z_bipush (n := 66) (q := 41) (v := 41) (by decide +kernel) ?_
          refine z_v1 (n := 69) (idx := 62) (by decide +kernel) ml_X9_62 (by first | assumption | (simp (disch := omega) only [hu_s, hu_n]; first | assumption | rfl)) rfl (Nat.le_of_ble_eq_true rfl) (by omega) ⟨Nat.le_refl _, Nat.le_refl _⟩ (k_isSign (k := s.1.1) (t := t) (L := L) 0 e0' e1 hL) ?_
          refine z_ifb_eq (n := 72) (off := 17) (tgt := 86) (by decide +kernel) (fun c69 => ?_) (fun c69 => ?_)
          · refine z_ald0 (n := 87) (by decide +kernel) ?_
            refine z_ald1 (n := 88) (by decide +kernel) ?_
            refine z_g1 (n := 91) (idx := 69) (by decide +kernel) ml_X9_69 (by first | assumption | (simp (disch := omega) only [hu_s, hu_n]; first | assumption | rfl)) rfl (Nat.le_of_ble_eq_true rfl) (by omega) ⟨Nat.le_refl _, Nat.le_refl _⟩ (k_readDo (k := s.1.1) (d := s.1.2.1) (e := s.1.2.2) 6 (by omega) hST bd40 bd4 hL h1 T') (fun x88 h88 q88 => ?_)
            exact fin _ _ q88
          · refine z_ald0 (n := 73) (by decide +kernel) ?_
            refine z_getf (n := 76) (idx := 48) (by decide +kernel) fl_X9_48 (by first | assumption | (simp (disch := omega) only [hu_s, hu_n]; first | assumption | rfl)) (by rfl) ?_
            refine z_if_le (n := 79) (off := 10) (tgt := 86) (by decide +kernel) (fun c76 => ?_) (fun c76 => ?_)
            · refine z_ald0 (n := 87) (by decide +kernel) ?_
              refine z_ald1 (n := 88) (by decide +kernel) ?_
              refine z_g1 (n := 91) (idx := 69) (by decide +kernel) ml_X9_69 (by first | assumption | (simp (disch := omega) only [hu_s, hu_n]; first | assumption | rfl)) rfl (Nat.le_of_ble_eq_true rfl) (by omega) ⟨Nat.le_refl _, Nat.le_refl _⟩ (k_readDo (k := s.1.1) (d := s.1.2.1) (e := s.1.2.2) 6 (by omega) hST bd40 bd4 hL h1 T') (fun x88 h88 q88 => ?_)
              exact fin _ _ q88
            · exact absurd ⟨c69, fun z => c76 (by rw [z]; decide)⟩ cc
        · refine z_iconst (n := 62) (q := 1) (v := 1) (by decide +kernel) ?_
          first | refine z_zr1 (by decide +kernel) rfl (Nat.le_refl _) ?_ | refine z_zr0 (by decide +kernel) rfl (Nat.le_refl _) ?_ | refine z_zrb (by decide +kernel) rfl (Nat.le_refl _) ?_
          exact absurd ⟨(nI_ij (b := 0) (by omega) (by omega)).mp c51, (nI_ij (b := 0) (by omega) (by omega)).mp c58⟩ c0
theorem k_readFrom {G : mG} {h : mH} {P L : Nat} {wr : Bool} {kd sa bh0 vl fk fp sp ds dp ad : Int32} {t vb nu fb bh oa : Nat → Int32} {tr : Nat → Bool} (dd9 : Nat) (hd : 7 ≤ dd9) (hST : ∀ U, gI G U → sOK G U) (hL : L ≤ 300) (h0 : h P = oTap P (nI L) kd sa bh0 vl) (h1 : h (P + 1) = aI 300 t) (H : txt h (P + 2) wr fk fp sp ds dp ad vb nu fb bh oa tr) : EV G m_X9_readFrom dd9 0 0 [.ref (P + 2), .ref P] h (fun r h' => ∃ x, r = some (.int (bI x)) ∧ cPo h h' P t L ad (rdF t L 301 ((0, 0, 0), (vb, nu, tr), (fb, bh, oa))) x) := by
  obtain ⟨h2, h3, h4, h5, h6, h7, h8⟩ := H
  refine ev_2_1 rfl rfl (by decide +kernel) (by decide +kernel) ?_
  refine z_ald0 (n := 1) (by decide +kernel) ?_
  refine z_iconst (n := 2) (q := 1) (v := 1) (by decide +kernel) ?_
  refine z_putf (n := 5) (idx := 38) (ty := .boolean) (by decide +kernel) fl_X9_38 (by first | assumption | (simp (disch := omega) only [hu_s, hu_n]; first | assumption | rfl)) ⟨_, _, _, rfl, rfl, by decide +kernel⟩ rfl rfl (Nat.le_of_ble_eq_true rfl) ?_
  refine z_ald0 (n := 6) (by decide +kernel) ?_
  refine z_iconst (n := 7) (q := 0) (v := 0) (by decide +kernel) ?_
  refine z_putf (n := 10) (idx := 42) (ty := .int) (by decide +kernel) fl_X9_42 (by first | assumption | (simp (disch := omega) only [hu_s, hu_n]; first | assumption | rfl)) ⟨_, _, _, rfl, rfl, by decide +kernel⟩ rfl rfl (Nat.le_of_ble_eq_true rfl) ?_
  refine z_ald0 (n := 11) (by decide +kernel) ?_
  refine z_iconst (n := 12) (q := -1) (v := -1) (by decide +kernel) ?_
  refine z_putf (n := 15) (idx := 9) (ty := .int) (by decide +kernel) fl_X9_9 (by first | assumption | (simp (disch := omega) only [hu_s, hu_n]; first | assumption | rfl)) ⟨_, _, _, rfl, rfl, by decide +kernel⟩ rfl rfl (Nat.le_of_ble_eq_true rfl) ?_
  refine z_ald0 (n := 16) (by decide +kernel) ?_
  refine z_iconst (n := 17) (q := -1) (v := -1) (by decide +kernel) ?_
  refine z_putf (n := 20) (idx := 15) (ty := .int) (by decide +kernel) fl_X9_15 (by first | assumption | (simp (disch := omega) only [hu_s, hu_n]; first | assumption | rfl)) ⟨_, _, _, rfl, rfl, by decide +kernel⟩ rfl rfl (Nat.le_of_ble_eq_true rfl) ?_
  refine z_ald0 (n := 21) (by decide +kernel) ?_
  refine z_iconst (n := 22) (q := 0) (v := 0) (by decide +kernel) ?_
  refine z_putf (n := 25) (idx := 45) (ty := .int) (by decide +kernel) fl_X9_45 (by first | assumption | (simp (disch := omega) only [hu_s, hu_n]; first | assumption | rfl)) ⟨_, _, _, rfl, rfl, by decide +kernel⟩ rfl rfl (Nat.le_of_ble_eq_true rfl) ?_
  refine z_ald0 (n := 26) (by decide +kernel) ?_
  refine z_iconst (n := 27) (q := 0) (v := 0) (by decide +kernel) ?_
  refine z_putf (n := 30) (idx := 48) (ty := .int) (by decide +kernel) fl_X9_48 (by first | assumption | (simp (disch := omega) only [hu_s, hu_n]; first | assumption | rfl)) ⟨_, _, _, rfl, rfl, by decide +kernel⟩ rfl rfl (Nat.le_of_ble_eq_true rfl) ?_
  refine z_ald1 (n := 31) (by decide +kernel) ?_
  refine z_v0v (n := 34) (idx := 51) (by decide +kernel) ml_X9_51 (by first | assumption | (simp (disch := omega) only [hu_s, hu_n]; first | assumption | rfl)) rfl (Nat.le_of_ble_eq_true rfl) (by omega) ⟨Nat.le_refl _, Nat.le_refl _⟩ (k_rewind (t := t) (L := L) 0 (by simp (disch := omega) only [hTn, hCr, hFl, hu_s, hu_n]; first | done | assumption | rfl)) ?_
  refine z_iconst (n := 35) (q := 0) (v := 0) (by decide +kernel) ?_
  refine z_ist2 (n := 36) (by decide +kernel) rfl ?_
  skip
  refine k_readLoop dd9 hd hST hL 301 ((0, 0, 0), (vb, nu, tr), (fb, bh, oa)) _ 0 (by omega) (fun j hj => by simp (disch := omega) only [hu_n]) (Nat.zero_le _) (by show L + 1 ≤ 0 + 301; omega) INV_0 ?_
  exact ⟨⟨_, _, _, (by simp (disch := omega) only [hTn, hCr, hFl, hu_s, hu_n]; first | done | assumption | rfl)⟩, (by simp (disch := omega) only [hTn, hCr, hFl, hu_s, hu_n]; first | done | assumption | rfl), (by simp (disch := omega) only [hTn, hCr, hFl, hu_s, hu_n]; first | done | assumption | rfl), (by simp (disch := omega) only [hTn, hCr, hFl, hu_s, hu_n]; first | done | assumption | rfl), (by simp (disch := omega) only [hTn, hCr, hFl, hu_s, hu_n]; first | done | assumption | rfl), (by simp (disch := omega) only [hTn, hCr, hFl, hu_s, hu_n]; first | done | assumption | rfl), (by simp (disch := omega) only [hTn, hCr, hFl, hu_s, hu_n]; first | done | assumption | rfl), (by simp (disch := omega) only [hTn, hCr, hFl, hu_s, hu_n]; first | done | assumption | rfl), (by simp (disch := omega) only [hTn, hCr, hFl, hu_s, hu_n]; first | done | assumption | rfl)⟩
