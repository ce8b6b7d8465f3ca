/-! CreasedPaperModel: reading a text -/
/-- the token that lies at k is read -/
def mTok (t : Nat → Int32) (L k : Nat) (m : Nat → Int32) (wd : Int64) : Prop := m 0 = nI L ∧ m 4 = nI (tE t L k) ∧ m 5 = nI (tS t L k) ∧ m 6 = tT t L k ∧ (tC t L k = 3 → m 7 = tV t L k) ∧ (tC t L k = 2 → wd = tW t L k)
theorem mTok_nt {t : Nat → Int32} {L k : Nat} {m : Nat → Int32} {wd : Int64} (hm : m 0 = nI L) : mTok t L k (ntM t L k m) (ntW t L k wd) := by
  refine ⟨hm, rfl, rfl, rfl, fun q => ?_, fun q => ?_⟩
  · show (if tC t L k = 3 then tV t L k else m 7) = _
    rw [if_pos q]
  · unfold ntW
    rw [if_pos q]
/-- the model's rows of a text that is read as far as the token at k: d DOs, e of them open -/
def mTx (h : mH) (Q n : Nat) (t : Nat → Int32) (L k d e : Nat) (so mu fr un op : Nat → Int32) : Prop :=
  ∃ m wd, h Q = oMod Q (nI (n + 1)) m wd ∧ mTok t L k m wd ∧ m 8 = nI d ∧ m 9 = nI e ∧ h (Q + 4) = aI 300 t ∧ h (Q + 5) = aI 41 so ∧ h (Q + 6) = aI 41 mu ∧ h (Q + 7) = aI 41 fr ∧ h (Q + 8) = aI 41 un ∧ h (Q + 9) = aI 5 op
/-- what reading leaves as it is -/
def mFr (h h' : mH) (Q : Nat) : Prop := ∀ j, j ≠ Q → (j < Q + 5 ∨ Q + 10 ≤ j) → h' j = h j
theorem mFr_rf {h : mH} {Q : Nat} : mFr h h Q := fun _ _ _ => rfl
theorem mFr_tr {h h1 h2 : mH} {Q : Nat} (a : mFr h h1 Q) (b : mFr h1 h2 Q) : mFr h h2 Q := fun j p q => (b j p q).trans (a j p q)
/-- all that is held of a text with a fault at p -/
def mBd (h : mH) (Q n : Nat) (p : Nat) : Prop := ∃ m wd so mu fr un op, h Q = oMod Q (nI (n + 1)) m wd ∧ m 5 = nI p ∧ h (Q + 5) = aI 41 so ∧ h (Q + 6) = aI 41 mu ∧ h (Q + 7) = aI 41 fr ∧ h (Q + 8) = aI 41 un ∧ h (Q + 9) = aI 5 op
theorem mTx_bd {h : mH} {Q n : Nat} {t : Nat → Int32} {L k d e : Nat} {so mu fr un op : Nat → Int32} (H : mTx h Q n t L k d e so mu fr un op) : mBd h Q n (tS t L k) := by
  obtain ⟨m, wd, h0, h1, h2, h3, h4, h5, h6, h7, h8, h9⟩ := H
  exact ⟨m, wd, so, mu, fr, un, op, h0, h1.2.2.1, h5, h6, h7, h8, h9⟩
theorem tE_le {t : Nat → Int32} {L k : Nat} (hL : L ≤ 300) (hk : k ≤ 301) : tE t L k ≤ 301 := by
  have h1 : tS t L k ≤ 301 := by
    unfold tS
    by_cases c : k ≤ L
    · exact Nat.le_trans (sk_le _ k rfl c) (by omega)
    · rw [sk_e (by omega)]; exact hk
  unfold tE
  split
  · exact h1
  · split
    · exact Nat.le_trans (sk_le _ _ rfl (by omega)) (by omega)
    · split
      · exact Nat.le_trans (sk_le _ _ rfl (by omega)) (by omega)
      · omega
theorem mTx_next {G : mG} {h : mH} {Q n L k d e : Nat} {t so mu fr un op : Nat → Int32} (dd9 : Nat) (hd : 2 ≤ dd9) (hL : L ≤ 300) (hk : k ≤ 301) (hp : ∀ i, i < L → 0 ≤ t i) (H : mTx h Q n t L k d e so mu fr un op) : EV G m_X11_nextToken dd9 0 0 [.ref Q] h (fun r h' => r = none ∧ (mFr h h' Q ∧ mTx h' Q n t L (tE t L k) d e so mu fr un op)) := by
  obtain ⟨m, wd, h0, h1, h2, h3, h4, h5, h6, h7, h8, h9⟩ := H
  refine ev_mono (m_nextToken (n := n) (k := tE t L k) (t := t) (L := L) dd9 hd h0 h4 h1.1 hL h1.2.1 (tE_le hL hk) hp) ?_
  rintro r h' ⟨rfl, rfl⟩
  refine ⟨rfl, fun j p q => hu_n p, ntM t L (tE t L k) m, ntW t L (tE t L k) wd, hu_s, mTok_nt h1.1, h2, h3, ?_, ?_, ?_, ?_, ?_, ?_⟩ <;> (rw [hu_n (by omega)]; assumption)
theorem m_take {G : mG} {h : mH} {Q n L k d e : Nat} {t so mu fr un op : Nat → Int32} {lo hi : Int32} (dd9 : Nat) (hd : 3 ≤ dd9) (hd4 : d ≤ 40) (hL : L ≤ 300) (hk : k ≤ 301) (hp : ∀ i, i < L → 0 ≤ t i) (H : mTx h Q n t L k d e so mu fr un op) : EV G m_X11_take dd9 0 0 [.ref Q, .int lo, .int hi] h (fun r h' => ∃ x, r = some (.int x) ∧ (x = nuC t L (tE t L k) lo hi ∧ mFr h h' Q ∧ (x ≠ 0 → mTx h' Q n t L (tE t L k) d e so mu fr un op) ∧ (x = 0 → mTx h' Q n t L (tE t L (tE t L k)) d e so (upd mu d (tV t L (tE t L k))) fr un op))) := by
  have hk1 := tE_le (t := t) (k := k) hL hk
  have HQ := H
  obtain ⟨m, wd, h0, _⟩ := HQ
  refine ev_3_0 rfl rfl rfl (by decide +kernel) (by decide +kernel) ?_
  refine z_ald0 (n := 1) (by decide +kernel) ?_
  refine z_w0v (n := 4) (idx := 149) (by decide +kernel) ml_X11_149 (by assumption) rfl (Nat.le_of_ble_eq_true rfl) (by omega) ⟨Nat.le_refl _, Nat.le_refl _⟩ (mTx_next (d := d) (e := e) 2 (by omega) hL hk hp H) (fun h1 q1 => ?_)
  skip
  obtain ⟨f1, H1⟩ := q1
  have H1' := H1
  obtain ⟨m1, wd1, e0, e1, e2, e3, e4, e5, e6, e7, e8, e9⟩ := H1
  obtain ⟨g0, g4, g5, g6, g7, gw⟩ := e1
  by_cases c : tC t L (tE t L k) = 3
  · have c9 : nuC t L (tE t L k) lo hi = if win (tV t L (tE t L k)) lo hi = true then 0 else 2 := by unfold nuC; rw [if_pos c]
    refine z_ald0 (n := 5) (by decide +kernel) ?_
    refine z_getf (n := 8) (idx := 129) (by decide +kernel) fl_X11_129 (by first | assumption | (simp (disch := omega) only [hu_s, hu_n]; first | assumption | rfl)) (by rfl) ?_
    refine z_top g6 ?_
    refine z_iconst (n := 9) (q := 1) (v := 1) (by decide +kernel) ?_
    refine z_icmp_eq_t (n := 12) (off := 5) (tgt := 14) (by decide +kernel) (tT_1.mpr c) ?_
    refine z_ald0 (n := 15) (by decide +kernel) ?_
    refine z_getf (n := 18) (idx := 135) (by decide +kernel) fl_X11_135 (by first | assumption | (simp (disch := omega) only [hu_s, hu_n]; first | assumption | rfl)) (by rfl) ?_
    refine z_top (g7 c) ?_
    refine z_ild1 (n := 19) (by decide +kernel) ?_
    refine z_ild2 (n := 20) (by decide +kernel) ?_
    refine z_s3 (n := 23) (idx := 81) (by decide +kernel) ml_X11_81 (Nat.le_of_ble_eq_true rfl) (by omega) ⟨Nat.le_refl _, Nat.le_refl _⟩ (m_isIn 0) ?_
    refine z_ifb_ne (n := 26) (off := 5) (tgt := 28) (by decide +kernel) (fun c23 => ?_) (fun c23 => ?_)
    · refine z_ald0 (n := 29) (by decide +kernel) ?_
      refine z_getf (n := 32) (idx := 35) (by decide +kernel) fl_X11_35 (by first | assumption | (simp (disch := omega) only [hu_s, hu_n]; first | assumption | rfl)) (by rfl) ?_
      refine z_ald0 (n := 33) (by decide +kernel) ?_
      refine z_getf (n := 36) (idx := 152) (by decide +kernel) fl_X11_152 (by first | assumption | (simp (disch := omega) only [hu_s, hu_n]; first | assumption | rfl)) (by rfl) ?_
      refine z_top e2 ?_
      refine z_ald0 (n := 37) (by decide +kernel) ?_
      refine z_getf (n := 40) (idx := 135) (by decide +kernel) fl_X11_135 (by first | assumption | (simp (disch := omega) only [hu_s, hu_n]; first | assumption | rfl)) (by rfl) ?_
      refine z_top (g7 c) ?_
      refine z_iast (n := 41) (by decide +kernel) (by first | assumption | (simp (disch := omega) only [hu_s, hu_n]; first | assumption | rfl)) (by first | assumption | exact ix_nI (by omega) (by omega) | exact ix_of (by simp only [n_0, n_1, n_2, n_3, n_4, n_5, n_6, n_7, n_8, n_10, n_50, n_90, n_130, n_370, n_570, nI_add, pk_mul]; rfl) (by omega) (by omega)) ?_
      refine z_ald0 (n := 42) (by decide +kernel) ?_
      refine z_w0v (n := 45) (idx := 149) (by decide +kernel) ml_X11_149 (by first | assumption | (simp (disch := omega) only [hu_s, hu_n]; first | assumption | rfl)) rfl (Nat.le_of_ble_eq_true rfl) (by omega) ⟨Nat.le_refl _, Nat.le_refl _⟩ (mTx_next (d := d) (e := e) (mu := upd mu d (tV t L (tE t L k))) 2 (by omega) hL hk1 hp ⟨m1, wd1, (by simp (disch := omega) only [hTn, hCr, hFl, hu_s, hu_n]; first | done | assumption | rfl), ⟨g0, g4, g5, g6, g7, gw⟩, e2, e3, (by simp (disch := omega) only [hTn, hCr, hFl, hu_s, hu_n]; first | done | assumption | rfl), (by simp (disch := omega) only [hTn, hCr, hFl, hu_s, hu_n]; first | done | assumption | rfl), (by simp (disch := omega) only [hTn, hCr, hFl, hu_s, hu_n]; first | done | assumption | rfl), (by simp (disch := omega) only [hTn, hCr, hFl, hu_s, hu_n]; first | done | assumption | rfl), (by simp (disch := omega) only [hTn, hCr, hFl, hu_s, hu_n]; first | done | assumption | rfl), (by simp (disch := omega) only [hTn, hCr, hFl, hu_s, hu_n]; first | done | assumption | rfl)⟩) (fun h42 q42 => ?_)
      refine z_iconst (n := 46) (q := 0) (v := 0) (by decide +kernel) ?_
      refine z_iret (by decide +kernel) rfl (Nat.le_refl _) ?_
      first | (have z9 := q42; exact ⟨_, rfl, by rw [c9, c23]; rfl, mFr_tr f1 (fun j p q => (q42.1 j p q).trans (hu_n (by omega))), fun q => absurd rfl q, fun _ => q42.2⟩) | exact ⟨_, rfl, by rw [c9, c23]; rfl, f1, fun _ => H1', fun q => absurd q (by decide)⟩
    · refine z_iconst (n := 27) (q := 2) (v := 2) (by decide +kernel) ?_
      refine z_iret (by decide +kernel) rfl (Nat.le_refl _) ?_
      first | (have z9 := q42; exact ⟨_, rfl, by rw [c9, c23]; rfl, mFr_tr f1 (fun j p q => (q42.1 j p q).trans (hu_n (by omega))), fun q => absurd rfl q, fun _ => q42.2⟩) | exact ⟨_, rfl, by rw [c9, c23]; rfl, f1, fun _ => H1', fun q => absurd q (by decide)⟩
  · refine z_ald0 (n := 5) (by decide +kernel) ?_
    refine z_getf (n := 8) (idx := 129) (by decide +kernel) fl_X11_129 (by first | assumption | (simp (disch := omega) only [hu_s, hu_n]; first | assumption | rfl)) (by rfl) ?_
    refine z_top g6 ?_
    refine z_iconst (n := 9) (q := 1) (v := 1) (by decide +kernel) ?_
    refine z_icmp_eq_f (n := 12) (off := 5) (tgt := 14) (by decide +kernel) (fun q => c (tT_1.mp q)) ?_
    refine z_iconst (n := 13) (q := 1) (v := 1) (by decide +kernel) ?_
    refine z_iret (by decide +kernel) rfl (Nat.le_refl _) ?_
    exact ⟨_, rfl, by unfold nuC; rw [if_neg c], f1, fun _ => H1', fun q => absurd q (by decide)⟩
theorem m_close {G : mG} {h : mH} {Q n L k d e : Nat} {t so mu fr un op : Nat → Int32} (dd9 : Nat) (hd : 3 ≤ dd9) (hL : L ≤ 300) (hk : k ≤ 301) (hp : ∀ i, i < L → 0 ≤ t i) (H : mTx h Q n t L k d e so mu fr un op) : EV G m_X11_close dd9 0 0 [.ref Q] h (fun r h' => ∃ x, r = some (.int x) ∧ (x = (if sgn t L k 59 = true then 0 else 1) ∧ mFr h h' Q ∧ (x ≠ 0 → h' = h) ∧ (x = 0 → mTx h' Q n t L (tE t L k) (d + 1) e so mu fr un op))) := by
  have H1' := H
  obtain ⟨m1, wd1, e0, e1, e2, e3, e4, e5, e6, e7, e8, e9⟩ := H
  obtain ⟨g0, g4, g5, g6, g7, gw⟩ := e1
  refine ev_1_0 rfl (by decide +kernel) (by decide +kernel) ?_
  by_cases c : sgn t L k 59 = true
  · rw [if_pos c]
    refine z_ald0 (n := 1) (by decide +kernel) ?_
    refine z_getf (n := 4) (idx := 129) (by decide +kernel) fl_X11_129 (by first | assumption | (simp (disch := omega) only [hu_s, hu_n]; first | assumption | rfl)) (by rfl) ?_
    refine z_top g6 ?_
    refine z_bipush (n := 6) (q := 59) (v := 59) (by decide +kernel) ?_
    refine z_icmp_eq_t (n := 9) (off := 5) (tgt := 11) (by decide +kernel) ((tT_s (by decide)).mpr c) ?_
    refine z_ald0 (n := 12) (by decide +kernel) ?_
    refine z_dup (n := 13) (by decide +kernel) rfl ?_
    refine z_getf (n := 16) (idx := 152) (by decide +kernel) fl_X11_152 (by first | assumption | (simp (disch := omega) only [hu_s, hu_n]; first | assumption | rfl)) (by rfl) ?_
    refine z_top e2 ?_
    refine z_iconst (n := 17) (q := 1) (v := 1) (by decide +kernel) ?_
    refine z_iadd (n := 18) (by decide +kernel) ?_
    refine z_top (nI_1 _) ?_
    refine z_putf (n := 21) (idx := 152) (ty := .int) (by decide +kernel) fl_X11_152 (by first | assumption | (simp (disch := omega) only [hu_s, hu_n]; first | assumption | rfl)) ⟨_, _, _, rfl, rfl, by decide +kernel⟩ rfl rfl (Nat.le_of_ble_eq_true rfl) ?_
    refine z_ald0 (n := 22) (by decide +kernel) ?_
    refine z_w0v (n := 25) (idx := 149) (by decide +kernel) ml_X11_149 (by first | assumption | (simp (disch := omega) only [hu_s, hu_n]; first | assumption | rfl)) rfl (Nat.le_of_ble_eq_true rfl) (by omega) ⟨Nat.le_refl _, Nat.le_refl _⟩ (mTx_next (d := d + 1) (e := e) (k := k) 2 (by omega) hL hk hp ⟨upd m1 8 (nI (d + 1)), wd1, (by simp (disch := omega) only [hTn, hCr, hFl, hu_s, hu_n]; first | done | assumption | rfl), ⟨g0, g4, g5, g6, g7, gw⟩, rfl, e3, (by simp (disch := omega) only [hTn, hCr, hFl, hu_s, hu_n]; first | done | assumption | rfl), (by simp (disch := omega) only [hTn, hCr, hFl, hu_s, hu_n]; first | done | assumption | rfl), (by simp (disch := omega) only [hTn, hCr, hFl, hu_s, hu_n]; first | done | assumption | rfl), (by simp (disch := omega) only [hTn, hCr, hFl, hu_s, hu_n]; first | done | assumption | rfl), (by simp (disch := omega) only [hTn, hCr, hFl, hu_s, hu_n]; first | done | assumption | rfl), (by simp (disch := omega) only [hTn, hCr, hFl, hu_s, hu_n]; first | done | assumption | rfl)⟩) (fun h22 q22 => ?_)
    refine z_iconst (n := 26) (q := 0) (v := 0) (by decide +kernel) ?_
    refine z_iret (by decide +kernel) rfl (Nat.le_refl _) ?_
    exact ⟨_, rfl, rfl, fun j p q => (q22.1 j p q).trans (hu_n p), fun q => absurd rfl q, fun _ => q22.2⟩
  · rw [if_neg c]
    refine z_ald0 (n := 1) (by decide +kernel) ?_
    refine z_getf (n := 4) (idx := 129) (by decide +kernel) fl_X11_129 (by first | assumption | (simp (disch := omega) only [hu_s, hu_n]; first | assumption | rfl)) (by rfl) ?_
    refine z_top g6 ?_
    refine z_bipush (n := 6) (q := 59) (v := 59) (by decide +kernel) ?_
    refine z_icmp_eq_f (n := 9) (off := 5) (tgt := 11) (by decide +kernel) (fun q => c ((tT_s (by decide)).mp q)) ?_
    refine z_iconst (n := 10) (q := 1) (v := 1) (by decide +kernel) ?_
    refine z_iret (by decide +kernel) rfl (Nat.le_refl _) ?_
    exact ⟨_, rfl, rfl, mFr_rf, fun _ => rfl, fun q => absurd q (by decide)⟩
