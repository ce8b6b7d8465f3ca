/-! CreasedPaperModel: the words of a text, its acts -/
theorem mw_Fo {t : Nat → Int32} {L k : Nat} {m : Nat → Int32} {wd : Int64} (H : mTok t L k m wd) : bI (decide (m 6 = 2) && decide (wd = ((((102 : Int32).toInt64 <<< ((8 : Int32).toInt64 &&& 63) ||| (111 : Int32).toInt64) <<< ((8 : Int32).toInt64 &&& 63) ||| (108 : Int32).toInt64) <<< ((8 : Int32).toInt64 &&& 63) ||| (100 : Int32).toInt64))) = bI (wIs t L k wFo) := by
  rw [H.2.2.2.1]
  exact congrArg bI (wIs_4 (c0 := 102) (c1 := 111) (c2 := 108) (c3 := 100) (show _ = ((102 * 256 + 111) * 256 + 108) * 256 + 100 by decide +kernel) (by omega) (by omega) (by omega) (by omega)  H.2.2.2.2.2)
theorem mw_Ho {t : Nat → Int32} {L k : Nat} {m : Nat → Int32} {wd : Int64} (H : mTok t L k m wd) : bI (decide (m 6 = 2) && decide (wd = ((((104 : Int32).toInt64 <<< ((8 : Int32).toInt64 &&& 63) ||| (111 : Int32).toInt64) <<< ((8 : Int32).toInt64 &&& 63) ||| (108 : Int32).toInt64) <<< ((8 : Int32).toInt64 &&& 63) ||| (100 : Int32).toInt64))) = bI (wIs t L k wHo) := by
  rw [H.2.2.2.1]
  exact congrArg bI (wIs_4 (c0 := 104) (c1 := 111) (c2 := 108) (c3 := 100) (show _ = ((104 * 256 + 111) * 256 + 108) * 256 + 100 by decide +kernel) (by omega) (by omega) (by omega) (by omega)  H.2.2.2.2.2)
theorem mw_Op {t : Nat → Int32} {L k : Nat} {m : Nat → Int32} {wd : Int64} (H : mTok t L k m wd) : bI (decide (m 6 = 2) && decide (wd = ((((111 : Int32).toInt64 <<< ((8 : Int32).toInt64 &&& 63) ||| (112 : Int32).toInt64) <<< ((8 : Int32).toInt64 &&& 63) ||| (101 : Int32).toInt64) <<< ((8 : Int32).toInt64 &&& 63) ||| (110 : Int32).toInt64))) = bI (wIs t L k wOp) := by
  rw [H.2.2.2.1]
  exact congrArg bI (wIs_4 (c0 := 111) (c1 := 112) (c2 := 101) (c3 := 110) (show _ = ((111 * 256 + 112) * 256 + 101) * 256 + 110 by decide +kernel) (by omega) (by omega) (by omega) (by omega)  H.2.2.2.2.2)
theorem mw_Ag {t : Nat → Int32} {L k : Nat} {m : Nat → Int32} {wd : Int64} (H : mTok t L k m wd) : bI (decide (m 6 = 2) && decide (wd = (((((97 : Int32).toInt64 <<< ((8 : Int32).toInt64 &&& 63) ||| (103 : Int32).toInt64) <<< ((8 : Int32).toInt64 &&& 63) ||| (97 : Int32).toInt64) <<< ((8 : Int32).toInt64 &&& 63) ||| (105 : Int32).toInt64) <<< ((8 : Int32).toInt64 &&& 63) ||| (110 : Int32).toInt64))) = bI (wIs t L k wAg) := by
  rw [H.2.2.2.1]
  exact congrArg bI (wIs_5 (c0 := 97) (c1 := 103) (c2 := 97) (c3 := 105) (c4 := 110) (show _ = (((97 * 256 + 103) * 256 + 97) * 256 + 105) * 256 + 110 by decide +kernel) (by omega) (by omega) (by omega) (by omega) (by omega)  H.2.2.2.2.2)
theorem mw_Ri {t : Nat → Int32} {L k : Nat} {m : Nat → Int32} {wd : Int64} (H : mTok t L k m wd) : bI (decide (m 6 = 2) && decide (wd = (((((114 : Int32).toInt64 <<< ((8 : Int32).toInt64 &&& 63) ||| (105 : Int32).toInt64) <<< ((8 : Int32).toInt64 &&& 63) ||| (103 : Int32).toInt64) <<< ((8 : Int32).toInt64 &&& 63) ||| (104 : Int32).toInt64) <<< ((8 : Int32).toInt64 &&& 63) ||| (116 : Int32).toInt64))) = bI (wIs t L k wRi) := by
  rw [H.2.2.2.1]
  exact congrArg bI (wIs_5 (c0 := 114) (c1 := 105) (c2 := 103) (c3 := 104) (c4 := 116) (show _ = (((114 * 256 + 105) * 256 + 103) * 256 + 104) * 256 + 116 by decide +kernel) (by omega) (by omega) (by omega) (by omega) (by omega)  H.2.2.2.2.2)
theorem mw_Le {t : Nat → Int32} {L k : Nat} {m : Nat → Int32} {wd : Int64} (H : mTok t L k m wd) : bI (decide (m 6 = 2) && decide (wd = ((((108 : Int32).toInt64 <<< ((8 : Int32).toInt64 &&& 63) ||| (101 : Int32).toInt64) <<< ((8 : Int32).toInt64 &&& 63) ||| (102 : Int32).toInt64) <<< ((8 : Int32).toInt64 &&& 63) ||| (116 : Int32).toInt64))) = bI (wIs t L k wLe) := by
  rw [H.2.2.2.1]
  exact congrArg bI (wIs_4 (c0 := 108) (c1 := 101) (c2 := 102) (c3 := 116) (show _ = ((108 * 256 + 101) * 256 + 102) * 256 + 116 by decide +kernel) (by omega) (by omega) (by omega) (by omega)  H.2.2.2.2.2)
def sC (v : Int32) (right : Bool) : Int32 := if v = 0 then (if right = true then 1 else 2) else v + 2
/-- behind a DO that began at a token: a fault, or one DO more -/
def aPo (h h' : mH) (Q n : Nat) (t : Nat → Int32) (L d e : Nat) (so mu fr un op : Nat → Int32) (res : DRes) (x : Int32) : Prop :=
  mFr h h' Q ∧ (∀ f p, res = bd f p → x = f ∧ ¬ x = 0 ∧ mBd h' Q n p) ∧ (∀ v num right k, res = okd v num right k → x = 0 ∧ mTx h' Q n t L k (d + 1) (if v = 3 then e + 1 else e) (upd so d (sC v right)) (if v = 2 then mu else upd mu d num) fr un (if v = 3 then upd op e (nI d) else op))
theorem aPo_bd {h h' : mH} {Q n : Nat} {t : Nat → Int32} {L d e : Nat} {so mu fr un op : Nat → Int32} {f : Int32} {p : Nat} (h1 : mFr h h' Q) (h2 : mBd h' Q n p) (h3 : ¬ f = 0) : aPo h h' Q n t L d e so mu fr un op (bd f p) f :=
  ⟨h1, fun f' p' q => by unfold bd at q; cases q; exact ⟨rfl, h3, h2⟩, fun v num right k q => by unfold bd okd at q; cases q⟩
theorem aPo_ok {h h' : mH} {Q n : Nat} {t : Nat → Int32} {L d e : Nat} {so mu fr un op : Nat → Int32} {v num : Int32} {right : Bool} {k : Nat} (h1 : mFr h h' Q) (h2 : mTx h' Q n t L k (d + 1) (if v = 3 then e + 1 else e) (upd so d (sC v right)) (if v = 2 then mu else upd mu d num) fr un (if v = 3 then upd op e (nI d) else op)) : aPo h h' Q n t L d e so mu fr un op (okd v num right k) 0 :=
  ⟨h1, fun f' p' q => (by unfold bd okd at q; cases q), fun v' num' right' k' q => (by unfold okd at q; cases q; exact ⟨rfl, h2⟩)⟩
theorem m_again {G : mG} {h : mH} {Q n L k d e : Nat} {t so mu fr un op : Nat → Int32} (dd9 : Nat) (hd : 4 ≤ dd9) (hd4 : d < 40) (he4 : e ≤ 4) (hL : L ≤ 300) (hk : k ≤ 301) (hp : ∀ i, i < L → 0 ≤ t i) (H : mTx h Q n t L k d e so mu fr un op) : EV G m_X11_again dd9 0 0 [.ref Q] h (fun r h' => ∃ x, r = some (.int x) ∧ aPo h h' Q n t L d e so mu fr un op (dAg t L k e) x) := by
  have hk1 := tE_le (t := t) (k := k) hL hk
  have hk2 := tE_le (t := t) (k := tE t L k) hL hk1
  have fin : nuC t L (tE t L k) 1 50 = 0 → ∀ h4, mFr h h4 Q → mTx h4 Q n t L (tE t L (tE t L k)) d e so (upd mu d (tV t L (tE t L k))) fr un op → Z G m_X11_again dd9 0 0 0 0 14 [some (.ref Q), none] [] h4 (fun r h' => ∃ x, r = some (.int x) ∧ aPo h h' Q n t L d e so mu fr un op (dAg t L k e) x) := by
    intro hnu h4 f4 H4
    have eD : dAg t L k e = if sgn t L (tE t L (tE t L k)) 40 = true then (if e = 4 then bd 3 (tS t L (tE t L (tE t L k))) else okd 3 (tV t L (tE t L k)) false (tE t L (tE t L (tE t L k)))) else bd 1 (tS t L (tE t L (tE t L k))) := by unfold dAg; rw [if_pos hnu]
    have B4 := mTx_bd H4
    obtain ⟨m1, wd1, e0, e1, e2, e3, e4, e5, e6, e7, e8, e9⟩ := H4
    have e1' := e1
    obtain ⟨g0, g4, g5, g6, g7, gw⟩ := e1
    by_cases c : sgn t L (tE t L (tE t L k)) 40 = true
    · rw [if_pos c] at eD
      by_cases c4 : e = 4
      · rw [if_pos c4] at eD
        refine z_ald0 (n := 15) (by decide +kernel) ?_
        refine z_getf (n := 18) (idx := 129) (by decide +kernel) fl_X11_129 (by first | assumption | (simp (disch := omega) only [hu_s, hu_n]; first | assumption | rfl)) (by rfl) ?_
        refine z_top g6 ?_
        refine z_bipush (n := 20) (q := 40) (v := 40) (by decide +kernel) ?_
        refine z_icmp_eq_t (n := 23) (off := 5) (tgt := 25) (by decide +kernel) ((tT_s (by decide)).mpr c) ?_
        refine z_ald0 (n := 26) (by decide +kernel) ?_
        refine z_getf (n := 29) (idx := 159) (by decide +kernel) fl_X11_159 (by first | assumption | (simp (disch := omega) only [hu_s, hu_n]; first | assumption | rfl)) (by rfl) ?_
        refine z_top e3 ?_
        refine z_iconst (n := 30) (q := 4) (v := 4) (by decide +kernel) ?_
        refine z_icmp_ne_f (n := 33) (off := 5) (tgt := 35) (by decide +kernel) (by rw [c4]; rfl) ?_
        refine z_iconst (n := 34) (q := 3) (v := 3) (by decide +kernel) ?_
        refine z_iret (by decide +kernel) rfl (Nat.le_refl _) ?_
        exact ⟨_, rfl, by rw [eD]; exact aPo_bd f4 B4 (by decide)⟩
      · rw [if_neg c4] at eD
        refine z_ald0 (n := 15) (by decide +kernel) ?_
        refine z_getf (n := 18) (idx := 129) (by decide +kernel) fl_X11_129 (by first | assumption | (simp (disch := omega) only [hu_s, hu_n]; first | assumption | rfl)) (by rfl) ?_
        refine z_top g6 ?_
        refine z_bipush (n := 20) (q := 40) (v := 40) (by decide +kernel) ?_
        refine z_icmp_eq_t (n := 23) (off := 5) (tgt := 25) (by decide +kernel) ((tT_s (by decide)).mpr c) ?_
        refine z_ald0 (n := 26) (by decide +kernel) ?_
        refine z_getf (n := 29) (idx := 159) (by decide +kernel) fl_X11_159 (by first | assumption | (simp (disch := omega) only [hu_s, hu_n]; first | assumption | rfl)) (by rfl) ?_
        refine z_top e3 ?_
        refine z_iconst (n := 30) (q := 4) (v := 4) (by decide +kernel) ?_
        refine z_icmp_ne_t (n := 33) (off := 5) (tgt := 35) (by decide +kernel) (fun q => c4 ((nI_ij (b := 4) (by omega) (by omega)).mp q)) ?_
        refine z_ald0 (n := 36) (by decide +kernel) ?_
        refine z_getf (n := 39) (idx := 44) (by decide +kernel) fl_X11_44 (by first | assumption | (simp (disch := omega) only [hu_s, hu_n]; first | assumption | rfl)) (by rfl) ?_
        refine z_ald0 (n := 40) (by decide +kernel) ?_
        refine z_getf (n := 43) (idx := 159) (by decide +kernel) fl_X11_159 (by first | assumption | (simp (disch := omega) only [hu_s, hu_n]; first | assumption | rfl)) (by rfl) ?_
        refine z_top e3 ?_
        refine z_ald0 (n := 44) (by decide +kernel) ?_
        refine z_getf (n := 47) (idx := 152) (by decide +kernel) fl_X11_152 (by first | assumption | (simp (disch := omega) only [hu_s, hu_n]; first | assumption | rfl)) (by rfl) ?_
        refine z_top e2 ?_
        refine z_iast (n := 48) (by decide +kernel) (by first | assumption | (simp (disch := omega) only [hu_s, hu_n]; first | assumption | rfl)) (by first | assumption | exact ix_nI (by omega) (by omega) | exact ix_of (by simp only [n_0, n_1, n_2, n_3, n_4, n_5, n_6, n_7, n_8, n_10, n_50, n_90, n_130, n_370, n_570, nI_add, pk_mul]; rfl) (by omega) (by omega)) ?_
        refine z_ald0 (n := 49) (by decide +kernel) ?_
        refine z_dup (n := 50) (by decide +kernel) rfl ?_
        refine z_getf (n := 53) (idx := 159) (by decide +kernel) fl_X11_159 (by first | assumption | (simp (disch := omega) only [hu_s, hu_n]; first | assumption | rfl)) (by rfl) ?_
        refine z_top e3 ?_
        refine z_iconst (n := 54) (q := 1) (v := 1) (by decide +kernel) ?_
        refine z_iadd (n := 55) (by decide +kernel) ?_
        refine z_top (nI_1 _) ?_
        refine z_putf (n := 58) (idx := 159) (ty := .int) (by decide +kernel) fl_X11_159 (by first | assumption | (simp (disch := omega) only [hu_s, hu_n]; first | assumption | rfl)) ⟨_, _, _, rfl, rfl, by decide +kernel⟩ rfl rfl (Nat.le_of_ble_eq_true rfl) ?_
        refine z_ald0 (n := 59) (by decide +kernel) ?_
        refine z_getf (n := 62) (idx := 32) (by decide +kernel) fl_X11_32 (by first | assumption | (simp (disch := omega) only [hu_s, hu_n]; first | assumption | rfl)) (by rfl) ?_
        refine z_ald0 (n := 63) (by decide +kernel) ?_
        refine z_getf (n := 66) (idx := 152) (by decide +kernel) fl_X11_152 (by first | assumption | (simp (disch := omega) only [hu_s, hu_n]; first | assumption | rfl)) (by rfl) ?_
        refine z_top e2 ?_
        refine z_iconst (n := 67) (q := 5) (v := 5) (by decide +kernel) ?_
        refine z_iast (n := 68) (by decide +kernel) (by first | assumption | (simp (disch := omega) only [hu_s, hu_n]; first | assumption | rfl)) (by first | assumption | exact ix_nI (by omega) (by omega) | exact ix_of (by simp only [n_0, n_1, n_2, n_3, n_4, n_5, n_6, n_7, n_8, n_10, n_50, n_90, n_130, n_370, n_570, nI_add, pk_mul]; rfl) (by omega) (by omega)) ?_
        refine z_ald0 (n := 69) (by decide +kernel) ?_
        refine z_dup (n := 70) (by decide +kernel) rfl ?_
        refine z_getf (n := 73) (idx := 152) (by decide +kernel) fl_X11_152 (by first | assumption | (simp (disch := omega) only [hu_s, hu_n]; first | assumption | rfl)) (by rfl) ?_
        refine z_top e2 ?_
        refine z_iconst (n := 74) (q := 1) (v := 1) (by decide +kernel) ?_
        refine z_iadd (n := 75) (by decide +kernel) ?_
        refine z_top (nI_1 _) ?_
        refine z_putf (n := 78) (idx := 152) (ty := .int) (by decide +kernel) fl_X11_152 (by first | assumption | (simp (disch := omega) only [hu_s, hu_n]; first | assumption | rfl)) ⟨_, _, _, rfl, rfl, by decide +kernel⟩ rfl rfl (Nat.le_of_ble_eq_true rfl) ?_
        refine z_ald0 (n := 79) (by decide +kernel) ?_
        refine z_w0v (n := 82) (idx := 149) (by decide +kernel) ml_X11_149 (by first | assumption | (simp (disch := omega) only [hu_s, hu_n]; first | assumption | rfl)) rfl (Nat.le_of_ble_eq_true rfl) (by omega) ⟨Nat.le_refl _, Nat.le_refl _⟩ (mTx_next (d := d + 1) (e := e + 1) (k := tE t L (tE t L k)) (so := upd so d 5) (mu := upd mu d (tV t L (tE t L k))) (op := upd op e (nI d)) 3 (by omega) hL hk2 hp ⟨upd (upd m1 9 (nI (e + 1))) 8 (nI (d + 1)), wd1, (by simp (disch := omega) only [hTn, hCr, hFl, hu_s, hu_n]; first | done | assumption | rfl), ⟨g0, g4, g5, g6, g7, gw⟩, rfl, rfl, (by simp (disch := omega) only [hTn, hCr, hFl, hu_s, hu_n]; first | done | assumption | rfl), (by simp (disch := omega) only [hTn, hCr, hFl, hu_s, hu_n]; first | done | assumption | rfl), (by simp (disch := omega) only [hTn, hCr, hFl, hu_s, hu_n]; first | done | assumption | rfl), (by simp (disch := omega) only [hTn, hCr, hFl, hu_s, hu_n]; first | done | assumption | rfl), (by simp (disch := omega) only [hTn, hCr, hFl, hu_s, hu_n]; first | done | assumption | rfl), (by simp (disch := omega) only [hTn, hCr, hFl, hu_s, hu_n]; first | done | assumption | rfl)⟩) (fun h79 q79 => ?_)
        refine z_iconst (n := 83) (q := 0) (v := 0) (by decide +kernel) ?_
        refine z_iret (by decide +kernel) rfl (Nat.le_refl _) ?_
        exact ⟨_, rfl, by rw [eD]; exact aPo_ok (mFr_tr f4 (fun j p q => (q79.1 j p q).trans (by simp (disch := omega) only [hu_n]))) q79.2⟩
    · rw [if_neg c] at eD
      refine z_ald0 (n := 15) (by decide +kernel) ?_
      refine z_getf (n := 18) (idx := 129) (by decide +kernel) fl_X11_129 (by first | assumption | (simp (disch := omega) only [hu_s, hu_n]; first | assumption | rfl)) (by rfl) ?_
      refine z_top g6 ?_
      refine z_bipush (n := 20) (q := 40) (v := 40) (by decide +kernel) ?_
      refine z_icmp_eq_f (n := 23) (off := 5) (tgt := 25) (by decide +kernel) (fun q => c ((tT_s (by decide)).mp q)) ?_
      refine z_iconst (n := 24) (q := 1) (v := 1) (by decide +kernel) ?_
      refine z_iret (by decide +kernel) rfl (Nat.le_refl _) ?_
      exact ⟨_, rfl, by rw [eD]; exact aPo_bd f4 B4 (by decide)⟩
  have HQ := H
  obtain ⟨m, wd, h0, _⟩ := HQ
  refine ev_1_1 rfl (by decide +kernel) (by decide +kernel) ?_
  refine z_ald0 (n := 1) (by decide +kernel) ?_
  refine z_iconst (n := 2) (q := 1) (v := 1) (by decide +kernel) ?_
  refine z_bipush (n := 4) (q := 50) (v := 50) (by decide +kernel) ?_
  refine z_e2 (n := 7) (idx := 155) (by decide +kernel) ml_X11_155 (by first | assumption | (simp (disch := omega) only [hu_s, hu_n]; first | assumption | rfl)) rfl (Nat.le_of_ble_eq_true rfl) (by omega) ⟨Nat.le_refl _, Nat.le_refl _⟩ (m_take (d := d) (e := e) 3 (by omega) (by omega) hL hk hp H) (fun x4 h4 q4 => ?_)
  refine z_ist1 (n := 8) (by decide +kernel) rfl ?_
  refine z_ild1 (n := 9) (by decide +kernel) ?_
  refine z_if_eq (n := 12) (off := 5) (tgt := 14) (by decide +kernel) (fun c9 => ?_) (fun c9 => ?_)
  · exact z_wk (lv' := [some (.ref Q), none]) (by simp [wk]) (fin (by rw [← q4.1]; exact c9) h4 q4.2.1 (q4.2.2.2 c9))
  · refine z_ild1 (n := 13) (by decide +kernel) ?_
    refine z_iret (by decide +kernel) rfl (Nat.le_refl _) ?_
    exact ⟨_, rfl, by rw [show dAg t L k e = bd x4 (tS t L (tE t L k)) by unfold dAg; rw [if_neg (by rw [← q4.1]; exact c9), ← q4.1]]; exact aPo_bd q4.2.1 (mTx_bd (q4.2.2.1 c9)) c9⟩
theorem m_foldAct {G : mG} {h : mH} {Q n L k d e : Nat} {t so mu fr un op : Nat → Int32} (dd9 : Nat) (hd : 4 ≤ dd9) (hd4 : d < 40) (hL : L ≤ 300) (hk : k ≤ 301) (hp : ∀ i, i < L → 0 ≤ t i) (H : mTx h Q n t L k d e so mu fr un op) : EV G m_X11_foldAct dd9 0 0 [.ref Q] h (fun r h' => ∃ x, r = some (.int x) ∧ aPo h h' Q n t L d e so mu fr un op (dFo t L k) x) := by
  have hk1 := tE_le (t := t) (k := k) hL hk
  have hk2 := tE_le (t := t) (k := tE t L k) hL hk1
  have hk3 := tE_le (t := t) (k := tE t L (tE t L k)) hL hk2
  have fin : nuC t L (tE t L k) 0 80 = 0 → ∀ h4, mFr h h4 Q → mTx h4 Q n t L (tE t L (tE t L k)) d e so (upd mu d (tV t L (tE t L k))) fr un op → Z G m_X11_foldAct dd9 0 0 0 0 14 [some (.ref Q), none, none] [] h4 (fun r h' => ∃ x, r = some (.int x) ∧ aPo h h' Q n t L d e so mu fr un op (dFo t L k) x) := by
    intro hnu h4 f4 H4
    have B4 := mTx_bd H4
    obtain ⟨m1, wd1, e0, e1, e2, e3, e4, e5, e6, e7, e8, e9⟩ := H4
    have e1' := e1
    obtain ⟨g0, g4, g5, g6, g7, gw⟩ := e1
    have fin2 : ∀ x : Int32, x = (if wIs t L (tE t L (tE t L k)) wRi = true then 1 else 2) → (wIs t L (tE t L (tE t L k)) wRi || wIs t L (tE t L (tE t L k)) wLe) = true → Z G m_X11_foldAct dd9 0 0 0 0 73 [some (.ref Q), none, none] [.int x, .int (m1 8), .ref (Q + 5)] h4 (fun r h' => ∃ x, r = some (.int x) ∧ aPo h h' Q n t L d e so mu fr un op (dFo t L k) x) := by
      intro x hx hw
      have eD : dFo t L k = if sgn t L (tE t L (tE t L (tE t L k))) 59 = true then okd 0 (tV t L (tE t L k)) (wIs t L (tE t L (tE t L k)) wRi) (tE t L (tE t L (tE t L (tE t L k)))) else bd 1 (tS t L (tE t L (tE t L (tE t L k)))) := by unfold dFo; rw [if_pos hnu, if_pos hw]
      have ix8 : ix (m1 8) d 41 := by rw [e2]; exact ix_nI (by omega) (by omega)
      have sx : sC 0 (wIs t L (tE t L (tE t L k)) wRi) = x := by rw [hx]; rfl
      refine z_iast (n := 74) (by decide +kernel) (by first | assumption | (simp (disch := omega) only [hu_s, hu_n]; first | assumption | rfl)) (by first | assumption | exact ix_nI (by omega) (by omega) | exact ix_of (by simp only [n_0, n_1, n_2, n_3, n_4, n_5, n_6, n_7, n_8, n_10, n_50, n_90, n_130, n_370, n_570, nI_add, pk_mul]; rfl) (by omega) (by omega)) ?_
      refine z_ald0 (n := 75) (by decide +kernel) ?_
      refine z_w0v (n := 78) (idx := 149) (by decide +kernel) ml_X11_149 (by first | assumption | (simp (disch := omega) only [hu_s, hu_n]; first | assumption | rfl)) rfl (Nat.le_of_ble_eq_true rfl) (by omega) ⟨Nat.le_refl _, Nat.le_refl _⟩ (mTx_next (d := d) (e := e) (k := tE t L (tE t L k)) (so := upd so d x) (mu := upd mu d (tV t L (tE t L k))) 3 (by omega) hL hk2 hp ⟨m1, wd1, (by simp (disch := omega) only [hTn, hCr, hFl, hu_s, hu_n]; first | done | assumption | rfl), e1', e2, e3, (by simp (disch := omega) only [hTn, hCr, hFl, hu_s, hu_n]; first | done | assumption | rfl), (by simp (disch := omega) only [hTn, hCr, hFl, hu_s, hu_n]; first | done | assumption | rfl), (by simp (disch := omega) only [hTn, hCr, hFl, hu_s, hu_n]; first | done | assumption | rfl), (by simp (disch := omega) only [hTn, hCr, hFl, hu_s, hu_n]; first | done | assumption | rfl), (by simp (disch := omega) only [hTn, hCr, hFl, hu_s, hu_n]; first | done | assumption | rfl), (by simp (disch := omega) only [hTn, hCr, hFl, hu_s, hu_n]; first | done | assumption | rfl)⟩) (fun h75 q75 => ?_)
      skip
      obtain ⟨f75, H75⟩ := q75
      have F75 : mFr h h75 Q := mFr_tr f4 (fun j p q => (f75 j p q).trans (by simp (disch := omega) only [hu_n]))
      have B75 := mTx_bd H75
      have H75' := H75
      obtain ⟨m9, wd9, i0, _⟩ := H75'
      refine z_ald0 (n := 79) (by decide +kernel) ?_
      refine z_e0 (n := 82) (idx := 170) (by decide +kernel) ml_X11_170 (by first | assumption | (simp (disch := omega) only [hu_s, hu_n]; first | assumption | rfl)) rfl (Nat.le_of_ble_eq_true rfl) (by omega) ⟨Nat.le_refl _, Nat.le_refl _⟩ (m_close (d := d) (e := e) 3 (by omega) hL hk3 hp H75) (fun x79 h79 q79 => ?_)
      refine z_iret (by decide +kernel) rfl (Nat.le_refl _) ?_
      skip
      obtain ⟨y1, y2, y3, y4⟩ := q79
      by_cases c : sgn t L (tE t L (tE t L (tE t L k))) 59 = true
      · rw [if_pos c] at y1 eD
        rw [eD, y1]
        exact ⟨_, rfl, aPo_ok (mFr_tr F75 y2) (by rw [sx]; exact y4 y1)⟩
      · rw [if_neg c] at y1 eD
        rw [eD, y1]
        exact ⟨_, rfl, aPo_bd (mFr_tr F75 y2) (by rw [y3 (by rw [y1]; decide)]; exact B75) (by decide)⟩
    refine z_ald0 (n := 15) (by decide +kernel) ?_
    refine z_bipush (n := 17) (q := 114) (v := 114) (by decide +kernel) ?_
    refine z_bipush (n := 19) (q := 105) (v := 105) (by decide +kernel) ?_
    refine z_bipush (n := 21) (q := 103) (v := 103) (by decide +kernel) ?_
    refine z_bipush (n := 23) (q := 104) (v := 104) (by decide +kernel) ?_
    refine z_bipush (n := 25) (q := 116) (v := 116) (by decide +kernel) ?_
    refine z_s5 (n := 28) (idx := 162) (by decide +kernel) ml_X11_162 (Nat.le_of_ble_eq_true rfl) (by omega) ⟨Nat.le_refl _, Nat.le_refl _⟩ (m_w5 1 (by omega)) ?_
    refine z_v1 (n := 31) (idx := 166) (by decide +kernel) ml_X11_166 (by first | assumption | (simp (disch := omega) only [hu_s, hu_n]; first | assumption | rfl)) rfl (Nat.le_of_ble_eq_true rfl) (by omega) ⟨Nat.le_refl _, Nat.le_refl _⟩ (m_isWord (n := n) (m := m1) (wd := wd1) 0 e0) ?_
    refine z_top (mw_Ri e1') ?_
    refine z_ist2 (n := 32) (by decide +kernel) rfl ?_
    refine z_ild2 (n := 33) (by decide +kernel) ?_
    refine z_ifb_ne (n := 36) (off := 23) (tgt := 56) (by decide +kernel) (fun c33 => ?_) (fun c33 => ?_)
    · refine z_ald0 (n := 57) (by decide +kernel) ?_
      refine z_getf (n := 60) (idx := 32) (by decide +kernel) fl_X11_32 (by first | assumption | (simp (disch := omega) only [hu_s, hu_n]; first | assumption | rfl)) (by rfl) ?_
      refine z_ald0 (n := 61) (by decide +kernel) ?_
      refine z_getf (n := 64) (idx := 152) (by decide +kernel) fl_X11_152 (by first | assumption | (simp (disch := omega) only [hu_s, hu_n]; first | assumption | rfl)) (by rfl) ?_
      refine z_ild2 (n := 65) (by decide +kernel) ?_
      refine z_ifb_eq (n := 68) (off := 7) (tgt := 72) (by decide +kernel) (fun c65 => ?_) (fun c65 => ?_)
      · refine z_iconst (n := 73) (q := 2) (v := 2) (by decide +kernel) ?_
        first | (rw [c33] at c65; exact absurd c65 (by decide)) | exact z_wk (lv' := [some (.ref Q), none, none]) (by simp [wk]) (fin2 _ (by rw [c33]; rfl) (by simp only [c33, c65, Bool.or_true, Bool.true_or]))
      · refine z_iconst (n := 69) (q := 1) (v := 1) (by decide +kernel) ?_
        refine z_goto (n := 72) (off := 4) (tgt := 73) (by decide +kernel) ?_
        first | (rw [c33] at c65; exact absurd c65 (by decide)) | exact z_wk (lv' := [some (.ref Q), none, none]) (by simp [wk]) (fin2 _ (by rw [c33]; rfl) (by simp only [c33, c65, Bool.or_true, Bool.true_or]))
    · refine z_ald0 (n := 37) (by decide +kernel) ?_
      refine z_bipush (n := 39) (q := 108) (v := 108) (by decide +kernel) ?_
      refine z_bipush (n := 41) (q := 101) (v := 101) (by decide +kernel) ?_
      refine z_bipush (n := 43) (q := 102) (v := 102) (by decide +kernel) ?_
      refine z_bipush (n := 45) (q := 116) (v := 116) (by decide +kernel) ?_
      refine z_s4 (n := 48) (idx := 145) (by decide +kernel) ml_X11_145 (Nat.le_of_ble_eq_true rfl) (by omega) ⟨Nat.le_refl _, Nat.le_refl _⟩ (m_w4 0) ?_
      refine z_v1 (n := 51) (idx := 166) (by decide +kernel) ml_X11_166 (by first | assumption | (simp (disch := omega) only [hu_s, hu_n]; first | assumption | rfl)) rfl (Nat.le_of_ble_eq_true rfl) (by omega) ⟨Nat.le_refl _, Nat.le_refl _⟩ (m_isWord (n := n) (m := m1) (wd := wd1) 0 e0) ?_
      refine z_top (mw_Le e1') ?_
      refine z_ifb_ne (n := 54) (off := 5) (tgt := 56) (by decide +kernel) (fun c51 => ?_) (fun c51 => ?_)
      · refine z_ald0 (n := 57) (by decide +kernel) ?_
        refine z_getf (n := 60) (idx := 32) (by decide +kernel) fl_X11_32 (by first | assumption | (simp (disch := omega) only [hu_s, hu_n]; first | assumption | rfl)) (by rfl) ?_
        refine z_ald0 (n := 61) (by decide +kernel) ?_
        refine z_getf (n := 64) (idx := 152) (by decide +kernel) fl_X11_152 (by first | assumption | (simp (disch := omega) only [hu_s, hu_n]; first | assumption | rfl)) (by rfl) ?_
        refine z_ild2 (n := 65) (by decide +kernel) ?_
        refine z_ifb_eq (n := 68) (off := 7) (tgt := 72) (by decide +kernel) (fun c65 => ?_) (fun c65 => ?_)
        · refine z_iconst (n := 73) (q := 2) (v := 2) (by decide +kernel) ?_
          first | (rw [c33] at c65; exact absurd c65 (by decide)) | exact z_wk (lv' := [some (.ref Q), none, none]) (by simp [wk]) (fin2 _ (by rw [c33]; rfl) (by simp only [c33, c51, c65, Bool.or_true, Bool.true_or]))
        · refine z_iconst (n := 69) (q := 1) (v := 1) (by decide +kernel) ?_
          refine z_goto (n := 72) (off := 4) (tgt := 73) (by decide +kernel) ?_
          first | (rw [c33] at c65; exact absurd c65 (by decide)) | exact z_wk (lv' := [some (.ref Q), none, none]) (by simp [wk]) (fin2 _ (by rw [c33]; rfl) (by simp only [c33, c51, c65, Bool.or_true, Bool.true_or]))
      · refine z_iconst (n := 55) (q := 1) (v := 1) (by decide +kernel) ?_
        refine z_iret (by decide +kernel) rfl (Nat.le_refl _) ?_
        exact ⟨_, rfl, by rw [show dFo t L k = bd 1 (tS t L (tE t L (tE t L k))) by unfold dFo; rw [if_pos hnu, if_neg (by simp only [c33, c51]; decide)]]; exact aPo_bd f4 B4 (by decide)⟩
  have HQ := H
  obtain ⟨m, wd, h0, _⟩ := HQ
  refine ev_1_2 rfl (by decide +kernel) (by decide +kernel) ?_
  refine z_ald0 (n := 1) (by decide +kernel) ?_
  refine z_iconst (n := 2) (q := 0) (v := 0) (by decide +kernel) ?_
  refine z_bipush (n := 4) (q := 80) (v := 80) (by decide +kernel) ?_
  refine z_e2 (n := 7) (idx := 155) (by decide +kernel) ml_X11_155 (by first | assumption | (simp (disch := omega) only [hu_s, hu_n]; first | assumption | rfl)) rfl (Nat.le_of_ble_eq_true rfl) (by omega) ⟨Nat.le_refl _, Nat.le_refl _⟩ (m_take (d := d) (e := e) 3 (by omega) (by omega) hL hk hp H) (fun x4 h4 q4 => ?_)
  refine z_ist1 (n := 8) (by decide +kernel) rfl ?_
  refine z_ild1 (n := 9) (by decide +kernel) ?_
  refine z_if_eq (n := 12) (off := 5) (tgt := 14) (by decide +kernel) (fun c9 => ?_) (fun c9 => ?_)
  · exact z_wk (lv' := [some (.ref Q), none, none]) (by simp [wk]) (fin (by rw [← q4.1]; exact c9) h4 q4.2.1 (q4.2.2.2 c9))
  · refine z_ild1 (n := 13) (by decide +kernel) ?_
    refine z_iret (by decide +kernel) rfl (Nat.le_refl _) ?_
    exact ⟨_, rfl, by rw [show dFo t L k = bd x4 (tS t L (tE t L k)) by unfold dFo; rw [if_neg (by rw [← q4.1]; exact c9), ← q4.1]]; exact aPo_bd q4.2.1 (mTx_bd (q4.2.2.1 c9)) c9⟩
theorem aPo_fr {h h1 h' : mH} {Q n : Nat} {t : Nat → Int32} {L d e : Nat} {so mu fr un op : Nat → Int32} {res : DRes} {x : Int32} (f : mFr h h1 Q) (p : aPo h1 h' Q n t L d e so mu fr un op res x) : aPo h h' Q n t L d e so mu fr un op res x := ⟨mFr_tr f p.1, p.2⟩
theorem m_act {G : mG} {h : mH} {Q n L k d e : Nat} {t so mu fr un op : Nat → Int32} (dd9 : Nat) (hd : 5 ≤ dd9) (hd4 : d ≤ 40) (he4 : e ≤ 4) (hL : L ≤ 300) (hk : k ≤ 301) (hp : ∀ i, i < L → 0 ≤ t i) (H : mTx h Q n t L k d e so mu fr un op) : EV G m_X11_act dd9 0 0 [.ref Q] h (fun r h' => ∃ x, r = some (.int x) ∧ aPo h h' Q n t L d e so mu (upd fr d (nI (tS t L k))) un op (dR t L k d e) x) := by
  have hk1 := tE_le (t := t) (k := k) hL hk
  have hk2 := tE_le (t := t) (k := tE t L k) hL hk1
  have B := mTx_bd H
  have H' := H
  obtain ⟨m1, wd1, e0, e1, e2, e3, e4, e5, e6, e7, e8, e9⟩ := H
  have e1' := e1
  obtain ⟨g0, g4, g5, g6, g7, gw⟩ := e1
  refine ev_1_4 rfl (by decide +kernel) (by decide +kernel) ?_
  by_cases hF : wIs t L k wFo = true
  · have v0 : vbO t L k = 0 := by unfold vbO; rw [if_pos hF]
    by_cases c4 : d = 40
    · have eD : dR t L k d e = bd 4 (tS t L k) := by unfold dR; rw [v0, if_neg (by decide), if_pos c4]
      refine z_ald0 (n := 1) (by decide +kernel) ?_
      refine z_bipush (n := 3) (q := 102) (v := 102) (by decide +kernel) ?_
      refine z_bipush (n := 5) (q := 111) (v := 111) (by decide +kernel) ?_
      refine z_bipush (n := 7) (q := 108) (v := 108) (by decide +kernel) ?_
      refine z_bipush (n := 9) (q := 100) (v := 100) (by decide +kernel) ?_
      refine z_s4 (n := 12) (idx := 145) (by decide +kernel) ml_X11_145 (Nat.le_of_ble_eq_true rfl) (by omega) ⟨Nat.le_refl _, Nat.le_refl _⟩ (m_w4 0) ?_
      refine z_v1 (n := 15) (idx := 166) (by decide +kernel) ml_X11_166 (by first | assumption | (simp (disch := omega) only [hu_s, hu_n]; first | assumption | rfl)) rfl (Nat.le_of_ble_eq_true rfl) (by omega) ⟨Nat.le_refl _, Nat.le_refl _⟩ (m_isWord (n := n) (m := m1) (wd := wd1) 0 e0) ?_
      refine z_top (mw_Fo e1') ?_
      refine z_ist1 (n := 16) (by decide +kernel) rfl ?_
      refine z_ald0 (n := 17) (by decide +kernel) ?_
      refine z_bipush (n := 19) (q := 104) (v := 104) (by decide +kernel) ?_
      refine z_bipush (n := 21) (q := 111) (v := 111) (by decide +kernel) ?_
      refine z_bipush (n := 23) (q := 108) (v := 108) (by decide +kernel) ?_
      refine z_bipush (n := 25) (q := 100) (v := 100) (by decide +kernel) ?_
      refine z_s4 (n := 28) (idx := 145) (by decide +kernel) ml_X11_145 (Nat.le_of_ble_eq_true rfl) (by omega) ⟨Nat.le_refl _, Nat.le_refl _⟩ (m_w4 0) ?_
      refine z_v1 (n := 31) (idx := 166) (by decide +kernel) ml_X11_166 (by first | assumption | (simp (disch := omega) only [hu_s, hu_n]; first | assumption | rfl)) rfl (Nat.le_of_ble_eq_true rfl) (by omega) ⟨Nat.le_refl _, Nat.le_refl _⟩ (m_isWord (n := n) (m := m1) (wd := wd1) 0 e0) ?_
      refine z_top (mw_Ho e1') ?_
      refine z_ist2 (n := 32) (by decide +kernel) rfl ?_
      refine z_ald0 (n := 33) (by decide +kernel) ?_
      refine z_bipush (n := 35) (q := 111) (v := 111) (by decide +kernel) ?_
      refine z_bipush (n := 37) (q := 112) (v := 112) (by decide +kernel) ?_
      refine z_bipush (n := 39) (q := 101) (v := 101) (by decide +kernel) ?_
      refine z_bipush (n := 41) (q := 110) (v := 110) (by decide +kernel) ?_
      refine z_s4 (n := 44) (idx := 145) (by decide +kernel) ml_X11_145 (Nat.le_of_ble_eq_true rfl) (by omega) ⟨Nat.le_refl _, Nat.le_refl _⟩ (m_w4 0) ?_
      refine z_v1 (n := 47) (idx := 166) (by decide +kernel) ml_X11_166 (by first | assumption | (simp (disch := omega) only [hu_s, hu_n]; first | assumption | rfl)) rfl (Nat.le_of_ble_eq_true rfl) (by omega) ⟨Nat.le_refl _, Nat.le_refl _⟩ (m_isWord (n := n) (m := m1) (wd := wd1) 0 e0) ?_
      refine z_top (mw_Op e1') ?_
      refine z_ist3 (n := 48) (by decide +kernel) rfl ?_
      refine z_ild1 (n := 49) (by decide +kernel) ?_
      refine z_ifb_ne_t (n := 52) (off := 33) (tgt := 82) (by decide +kernel) (hF) ?_
      refine z_ald0 (n := 83) (by decide +kernel) ?_
      refine z_getf (n := 86) (idx := 152) (by decide +kernel) fl_X11_152 (by first | assumption | (simp (disch := omega) only [hu_s, hu_n]; first | assumption | rfl)) (by rfl) ?_
      refine z_top e2 ?_
      refine z_bipush (n := 88) (q := 40) (v := 40) (by decide +kernel) ?_
      refine z_icmp_ne_f (n := 91) (off := 5) (tgt := 93) (by decide +kernel) (by rw [c4]; rfl) ?_
      refine z_iconst (n := 92) (q := 4) (v := 4) (by decide +kernel) ?_
      refine z_iret (by decide +kernel) rfl (Nat.le_refl _) ?_
      exact ⟨_, rfl, by rw [eD]; exact aPo_bd mFr_rf B (by decide)⟩
    · have eD : dR t L k d e = dFo t L k := by unfold dR; rw [v0, if_neg (by decide), if_neg c4, if_pos rfl]
      refine z_ald0 (n := 1) (by decide +kernel) ?_
      refine z_bipush (n := 3) (q := 102) (v := 102) (by decide +kernel) ?_
      refine z_bipush (n := 5) (q := 111) (v := 111) (by decide +kernel) ?_
      refine z_bipush (n := 7) (q := 108) (v := 108) (by decide +kernel) ?_
      refine z_bipush (n := 9) (q := 100) (v := 100) (by decide +kernel) ?_
      refine z_s4 (n := 12) (idx := 145) (by decide +kernel) ml_X11_145 (Nat.le_of_ble_eq_true rfl) (by omega) ⟨Nat.le_refl _, Nat.le_refl _⟩ (m_w4 0) ?_
      refine z_v1 (n := 15) (idx := 166) (by decide +kernel) ml_X11_166 (by first | assumption | (simp (disch := omega) only [hu_s, hu_n]; first | assumption | rfl)) rfl (Nat.le_of_ble_eq_true rfl) (by omega) ⟨Nat.le_refl _, Nat.le_refl _⟩ (m_isWord (n := n) (m := m1) (wd := wd1) 0 e0) ?_
      refine z_top (mw_Fo e1') ?_
      refine z_ist1 (n := 16) (by decide +kernel) rfl ?_
      refine z_ald0 (n := 17) (by decide +kernel) ?_
      refine z_bipush (n := 19) (q := 104) (v := 104) (by decide +kernel) ?_
      refine z_bipush (n := 21) (q := 111) (v := 111) (by decide +kernel) ?_
      refine z_bipush (n := 23) (q := 108) (v := 108) (by decide +kernel) ?_
      refine z_bipush (n := 25) (q := 100) (v := 100) (by decide +kernel) ?_
      refine z_s4 (n := 28) (idx := 145) (by decide +kernel) ml_X11_145 (Nat.le_of_ble_eq_true rfl) (by omega) ⟨Nat.le_refl _, Nat.le_refl _⟩ (m_w4 0) ?_
      refine z_v1 (n := 31) (idx := 166) (by decide +kernel) ml_X11_166 (by first | assumption | (simp (disch := omega) only [hu_s, hu_n]; first | assumption | rfl)) rfl (Nat.le_of_ble_eq_true rfl) (by omega) ⟨Nat.le_refl _, Nat.le_refl _⟩ (m_isWord (n := n) (m := m1) (wd := wd1) 0 e0) ?_
      refine z_top (mw_Ho e1') ?_
      refine z_ist2 (n := 32) (by decide +kernel) rfl ?_
      refine z_ald0 (n := 33) (by decide +kernel) ?_
      refine z_bipush (n := 35) (q := 111) (v := 111) (by decide +kernel) ?_
      refine z_bipush (n := 37) (q := 112) (v := 112) (by decide +kernel) ?_
      refine z_bipush (n := 39) (q := 101) (v := 101) (by decide +kernel) ?_
      refine z_bipush (n := 41) (q := 110) (v := 110) (by decide +kernel) ?_
      refine z_s4 (n := 44) (idx := 145) (by decide +kernel) ml_X11_145 (Nat.le_of_ble_eq_true rfl) (by omega) ⟨Nat.le_refl _, Nat.le_refl _⟩ (m_w4 0) ?_
      refine z_v1 (n := 47) (idx := 166) (by decide +kernel) ml_X11_166 (by first | assumption | (simp (disch := omega) only [hu_s, hu_n]; first | assumption | rfl)) rfl (Nat.le_of_ble_eq_true rfl) (by omega) ⟨Nat.le_refl _, Nat.le_refl _⟩ (m_isWord (n := n) (m := m1) (wd := wd1) 0 e0) ?_
      refine z_top (mw_Op e1') ?_
      refine z_ist3 (n := 48) (by decide +kernel) rfl ?_
      refine z_ild1 (n := 49) (by decide +kernel) ?_
      refine z_ifb_ne_t (n := 52) (off := 33) (tgt := 82) (by decide +kernel) (hF) ?_
      refine z_ald0 (n := 83) (by decide +kernel) ?_
      refine z_getf (n := 86) (idx := 152) (by decide +kernel) fl_X11_152 (by first | assumption | (simp (disch := omega) only [hu_s, hu_n]; first | assumption | rfl)) (by rfl) ?_
      refine z_top e2 ?_
      refine z_bipush (n := 88) (q := 40) (v := 40) (by decide +kernel) ?_
      refine z_icmp_ne_t (n := 91) (off := 5) (tgt := 93) (by decide +kernel) (fun q => c4 ((nI_ij (b := 40) (by omega) (by omega)).mp q)) ?_
      refine z_ald0 (n := 94) (by decide +kernel) ?_
      refine z_getf (n := 97) (idx := 38) (by decide +kernel) fl_X11_38 (by first | assumption | (simp (disch := omega) only [hu_s, hu_n]; first | assumption | rfl)) (by rfl) ?_
      refine z_ald0 (n := 98) (by decide +kernel) ?_
      refine z_getf (n := 101) (idx := 152) (by decide +kernel) fl_X11_152 (by first | assumption | (simp (disch := omega) only [hu_s, hu_n]; first | assumption | rfl)) (by rfl) ?_
      refine z_top e2 ?_
      refine z_ald0 (n := 102) (by decide +kernel) ?_
      refine z_getf (n := 105) (idx := 126) (by decide +kernel) fl_X11_126 (by first | assumption | (simp (disch := omega) only [hu_s, hu_n]; first | assumption | rfl)) (by rfl) ?_
      refine z_top g5 ?_
      refine z_iast (n := 106) (by decide +kernel) (by first | assumption | (simp (disch := omega) only [hu_s, hu_n]; first | assumption | rfl)) (by first | assumption | exact ix_nI (by omega) (by omega) | exact ix_of (by simp only [n_0, n_1, n_2, n_3, n_4, n_5, n_6, n_7, n_8, n_10, n_50, n_90, n_130, n_370, n_570, nI_add, pk_mul]; rfl) (by omega) (by omega)) ?_
      refine z_ild1 (n := 107) (by decide +kernel) ?_
      refine z_ifb_eq_f (n := 110) (off := 8) (tgt := 115) (by decide +kernel) (hF) ?_
      refine z_ald0 (n := 111) (by decide +kernel) ?_
      refine z_e0 (n := 114) (idx := 174) (by decide +kernel) ml_X11_174 (by first | assumption | (simp (disch := omega) only [hu_s, hu_n]; first | assumption | rfl)) rfl (Nat.le_of_ble_eq_true rfl) (by omega) ⟨Nat.le_refl _, Nat.le_refl _⟩ (m_foldAct (d := d) (e := e) (k := k) (fr := upd fr d (nI (tS t L k))) 4 (by omega) (by omega) hL hk hp ⟨m1, wd1, (by simp (disch := omega) only [hTn, hCr, hFl, hu_s, hu_n]; first | done | assumption | rfl), e1', e2, e3, (by simp (disch := omega) only [hTn, hCr, hFl, hu_s, hu_n]; first | done | assumption | rfl), (by simp (disch := omega) only [hTn, hCr, hFl, hu_s, hu_n]; first | done | assumption | rfl), (by simp (disch := omega) only [hTn, hCr, hFl, hu_s, hu_n]; first | done | assumption | rfl), (by simp (disch := omega) only [hTn, hCr, hFl, hu_s, hu_n]; first | done | assumption | rfl), (by simp (disch := omega) only [hTn, hCr, hFl, hu_s, hu_n]; first | done | assumption | rfl), (by simp (disch := omega) only [hTn, hCr, hFl, hu_s, hu_n]; first | done | assumption | rfl)⟩) (fun x111 h111 q111 => ?_)
      refine z_iret (by decide +kernel) rfl (Nat.le_refl _) ?_
      exact ⟨_, rfl, by rw [eD]; exact aPo_fr (fun j p q => hu_n (by omega)) q111⟩
  by_cases hH : wIs t L k wHo = true
  · have v0 : vbO t L k = 1 := by unfold vbO; rw [if_neg hF, if_pos hH]
    by_cases c4 : d = 40
    · have eD : dR t L k d e = bd 4 (tS t L k) := by unfold dR; rw [v0, if_neg (by decide), if_pos c4]
      refine z_ald0 (n := 1) (by decide +kernel) ?_
      refine z_bipush (n := 3) (q := 102) (v := 102) (by decide +kernel) ?_
      refine z_bipush (n := 5) (q := 111) (v := 111) (by decide +kernel) ?_
      refine z_bipush (n := 7) (q := 108) (v := 108) (by decide +kernel) ?_
      refine z_bipush (n := 9) (q := 100) (v := 100) (by decide +kernel) ?_
      refine z_s4 (n := 12) (idx := 145) (by decide +kernel) ml_X11_145 (Nat.le_of_ble_eq_true rfl) (by omega) ⟨Nat.le_refl _, Nat.le_refl _⟩ (m_w4 0) ?_
      refine z_v1 (n := 15) (idx := 166) (by decide +kernel) ml_X11_166 (by first | assumption | (simp (disch := omega) only [hu_s, hu_n]; first | assumption | rfl)) rfl (Nat.le_of_ble_eq_true rfl) (by omega) ⟨Nat.le_refl _, Nat.le_refl _⟩ (m_isWord (n := n) (m := m1) (wd := wd1) 0 e0) ?_
      refine z_top (mw_Fo e1') ?_
      refine z_ist1 (n := 16) (by decide +kernel) rfl ?_
      refine z_ald0 (n := 17) (by decide +kernel) ?_
      refine z_bipush (n := 19) (q := 104) (v := 104) (by decide +kernel) ?_
      refine z_bipush (n := 21) (q := 111) (v := 111) (by decide +kernel) ?_
      refine z_bipush (n := 23) (q := 108) (v := 108) (by decide +kernel) ?_
      refine z_bipush (n := 25) (q := 100) (v := 100) (by decide +kernel) ?_
      refine z_s4 (n := 28) (idx := 145) (by decide +kernel) ml_X11_145 (Nat.le_of_ble_eq_true rfl) (by omega) ⟨Nat.le_refl _, Nat.le_refl _⟩ (m_w4 0) ?_
      refine z_v1 (n := 31) (idx := 166) (by decide +kernel) ml_X11_166 (by first | assumption | (simp (disch := omega) only [hu_s, hu_n]; first | assumption | rfl)) rfl (Nat.le_of_ble_eq_true rfl) (by omega) ⟨Nat.le_refl _, Nat.le_refl _⟩ (m_isWord (n := n) (m := m1) (wd := wd1) 0 e0) ?_
      refine z_top (mw_Ho e1') ?_
      refine z_ist2 (n := 32) (by decide +kernel) rfl ?_
      refine z_ald0 (n := 33) (by decide +kernel) ?_
      refine z_bipush (n := 35) (q := 111) (v := 111) (by decide +kernel) ?_
      refine z_bipush (n := 37) (q := 112) (v := 112) (by decide +kernel) ?_
      refine z_bipush (n := 39) (q := 101) (v := 101) (by decide +kernel) ?_
      refine z_bipush (n := 41) (q := 110) (v := 110) (by decide +kernel) ?_
      refine z_s4 (n := 44) (idx := 145) (by decide +kernel) ml_X11_145 (Nat.le_of_ble_eq_true rfl) (by omega) ⟨Nat.le_refl _, Nat.le_refl _⟩ (m_w4 0) ?_
      refine z_v1 (n := 47) (idx := 166) (by decide +kernel) ml_X11_166 (by first | assumption | (simp (disch := omega) only [hu_s, hu_n]; first | assumption | rfl)) rfl (Nat.le_of_ble_eq_true rfl) (by omega) ⟨Nat.le_refl _, Nat.le_refl _⟩ (m_isWord (n := n) (m := m1) (wd := wd1) 0 e0) ?_
      refine z_top (mw_Op e1') ?_
      refine z_ist3 (n := 48) (by decide +kernel) rfl ?_
      refine z_ild1 (n := 49) (by decide +kernel) ?_
      refine z_ifb_ne_f (n := 52) (off := 33) (tgt := 82) (by decide +kernel) (Bool.eq_false_iff.mpr hF) ?_
      refine z_ild2 (n := 53) (by decide +kernel) ?_
      refine z_ifb_ne_t (n := 56) (off := 29) (tgt := 82) (by decide +kernel) (hH) ?_
      refine z_ald0 (n := 83) (by decide +kernel) ?_
      refine z_getf (n := 86) (idx := 152) (by decide +kernel) fl_X11_152 (by first | assumption | (simp (disch := omega) only [hu_s, hu_n]; first | assumption | rfl)) (by rfl) ?_
      refine z_top e2 ?_
      refine z_bipush (n := 88) (q := 40) (v := 40) (by decide +kernel) ?_
      refine z_icmp_ne_f (n := 91) (off := 5) (tgt := 93) (by decide +kernel) (by rw [c4]; rfl) ?_
      refine z_iconst (n := 92) (q := 4) (v := 4) (by decide +kernel) ?_
      refine z_iret (by decide +kernel) rfl (Nat.le_refl _) ?_
      exact ⟨_, rfl, by rw [eD]; exact aPo_bd mFr_rf B (by decide)⟩
    · have eD : dR t L k d e = dHo t L k := by unfold dR; rw [v0, if_neg (by decide), if_neg c4, if_neg (by decide), if_pos rfl]
      rw [eD]
      refine z_ald0 (n := 1) (by decide +kernel) ?_
      refine z_bipush (n := 3) (q := 102) (v := 102) (by decide +kernel) ?_
      refine z_bipush (n := 5) (q := 111) (v := 111) (by decide +kernel) ?_
      refine z_bipush (n := 7) (q := 108) (v := 108) (by decide +kernel) ?_
      refine z_bipush (n := 9) (q := 100) (v := 100) (by decide +kernel) ?_
      refine z_s4 (n := 12) (idx := 145) (by decide +kernel) ml_X11_145 (Nat.le_of_ble_eq_true rfl) (by omega) ⟨Nat.le_refl _, Nat.le_refl _⟩ (m_w4 0) ?_
      refine z_v1 (n := 15) (idx := 166) (by decide +kernel) ml_X11_166 (by first | assumption | (simp (disch := omega) only [hu_s, hu_n]; first | assumption | rfl)) rfl (Nat.le_of_ble_eq_true rfl) (by omega) ⟨Nat.le_refl _, Nat.le_refl _⟩ (m_isWord (n := n) (m := m1) (wd := wd1) 0 e0) ?_
      refine z_top (mw_Fo e1') ?_
      refine z_ist1 (n := 16) (by decide +kernel) rfl ?_
      refine z_ald0 (n := 17) (by decide +kernel) ?_
      refine z_bipush (n := 19) (q := 104) (v := 104) (by decide +kernel) ?_
      refine z_bipush (n := 21) (q := 111) (v := 111) (by decide +kernel) ?_
      refine z_bipush (n := 23) (q := 108) (v := 108) (by decide +kernel) ?_
      refine z_bipush (n := 25) (q := 100) (v := 100) (by decide +kernel) ?_
      refine z_s4 (n := 28) (idx := 145) (by decide +kernel) ml_X11_145 (Nat.le_of_ble_eq_true rfl) (by omega) ⟨Nat.le_refl _, Nat.le_refl _⟩ (m_w4 0) ?_
      refine z_v1 (n := 31) (idx := 166) (by decide +kernel) ml_X11_166 (by first | assumption | (simp (disch := omega) only [hu_s, hu_n]; first | assumption | rfl)) rfl (Nat.le_of_ble_eq_true rfl) (by omega) ⟨Nat.le_refl _, Nat.le_refl _⟩ (m_isWord (n := n) (m := m1) (wd := wd1) 0 e0) ?_
      refine z_top (mw_Ho e1') ?_
      refine z_ist2 (n := 32) (by decide +kernel) rfl ?_
      refine z_ald0 (n := 33) (by decide +kernel) ?_
      refine z_bipush (n := 35) (q := 111) (v := 111) (by decide +kernel) ?_
      refine z_bipush (n := 37) (q := 112) (v := 112) (by decide +kernel) ?_
      refine z_bipush (n := 39) (q := 101) (v := 101) (by decide +kernel) ?_
      refine z_bipush (n := 41) (q := 110) (v := 110) (by decide +kernel) ?_
      refine z_s4 (n := 44) (idx := 145) (by decide +kernel) ml_X11_145 (Nat.le_of_ble_eq_true rfl) (by omega) ⟨Nat.le_refl _, Nat.le_refl _⟩ (m_w4 0) ?_
      refine z_v1 (n := 47) (idx := 166) (by decide +kernel) ml_X11_166 (by first | assumption | (simp (disch := omega) only [hu_s, hu_n]; first | assumption | rfl)) rfl (Nat.le_of_ble_eq_true rfl) (by omega) ⟨Nat.le_refl _, Nat.le_refl _⟩ (m_isWord (n := n) (m := m1) (wd := wd1) 0 e0) ?_
      refine z_top (mw_Op e1') ?_
      refine z_ist3 (n := 48) (by decide +kernel) rfl ?_
      refine z_ild1 (n := 49) (by decide +kernel) ?_
      refine z_ifb_ne_f (n := 52) (off := 33) (tgt := 82) (by decide +kernel) (Bool.eq_false_iff.mpr hF) ?_
      refine z_ild2 (n := 53) (by decide +kernel) ?_
      refine z_ifb_ne_t (n := 56) (off := 29) (tgt := 82) (by decide +kernel) (hH) ?_
      refine z_ald0 (n := 83) (by decide +kernel) ?_
      refine z_getf (n := 86) (idx := 152) (by decide +kernel) fl_X11_152 (by first | assumption | (simp (disch := omega) only [hu_s, hu_n]; first | assumption | rfl)) (by rfl) ?_
      refine z_top e2 ?_
      refine z_bipush (n := 88) (q := 40) (v := 40) (by decide +kernel) ?_
      refine z_icmp_ne_t (n := 91) (off := 5) (tgt := 93) (by decide +kernel) (fun q => c4 ((nI_ij (b := 40) (by omega) (by omega)).mp q)) ?_
      refine z_ald0 (n := 94) (by decide +kernel) ?_
      refine z_getf (n := 97) (idx := 38) (by decide +kernel) fl_X11_38 (by first | assumption | (simp (disch := omega) only [hu_s, hu_n]; first | assumption | rfl)) (by rfl) ?_
      refine z_ald0 (n := 98) (by decide +kernel) ?_
      refine z_getf (n := 101) (idx := 152) (by decide +kernel) fl_X11_152 (by first | assumption | (simp (disch := omega) only [hu_s, hu_n]; first | assumption | rfl)) (by rfl) ?_
      refine z_top e2 ?_
      refine z_ald0 (n := 102) (by decide +kernel) ?_
      refine z_getf (n := 105) (idx := 126) (by decide +kernel) fl_X11_126 (by first | assumption | (simp (disch := omega) only [hu_s, hu_n]; first | assumption | rfl)) (by rfl) ?_
      refine z_top g5 ?_
      refine z_iast (n := 106) (by decide +kernel) (by first | assumption | (simp (disch := omega) only [hu_s, hu_n]; first | assumption | rfl)) (by first | assumption | exact ix_nI (by omega) (by omega) | exact ix_of (by simp only [n_0, n_1, n_2, n_3, n_4, n_5, n_6, n_7, n_8, n_10, n_50, n_90, n_130, n_370, n_570, nI_add, pk_mul]; rfl) (by omega) (by omega)) ?_
      refine z_ild1 (n := 107) (by decide +kernel) ?_
      refine z_ifb_eq_t (n := 110) (off := 8) (tgt := 115) (by decide +kernel) (Bool.eq_false_iff.mpr hF) ?_
      refine z_ild2 (n := 116) (by decide +kernel) ?_
      refine z_ifb_eq_f (n := 119) (off := 38) (tgt := 154) (by decide +kernel) (hH) ?_
      refine z_ald0 (n := 120) (by decide +kernel) ?_
      refine z_iconst (n := 121) (q := 1) (v := 1) (by decide +kernel) ?_
      refine z_sipush (n := 124) (q := 1000) (v := 1000) (by decide +kernel) ?_
      refine z_e2 (n := 127) (idx := 155) (by decide +kernel) ml_X11_155 (by first | assumption | (simp (disch := omega) only [hu_s, hu_n]; first | assumption | rfl)) rfl (Nat.le_of_ble_eq_true rfl) (by omega) ⟨Nat.le_refl _, Nat.le_refl _⟩ (m_take (d := d) (e := e) (k := k) (fr := upd fr d (nI (tS t L k))) 4 (by omega) (by omega) hL hk hp ⟨m1, wd1, (by simp (disch := omega) only [hTn, hCr, hFl, hu_s, hu_n]; first | done | assumption | rfl), e1', e2, e3, (by simp (disch := omega) only [hTn, hCr, hFl, hu_s, hu_n]; first | done | assumption | rfl), (by simp (disch := omega) only [hTn, hCr, hFl, hu_s, hu_n]; first | done | assumption | rfl), (by simp (disch := omega) only [hTn, hCr, hFl, hu_s, hu_n]; first | done | assumption | rfl), (by simp (disch := omega) only [hTn, hCr, hFl, hu_s, hu_n]; first | done | assumption | rfl), (by simp (disch := omega) only [hTn, hCr, hFl, hu_s, hu_n]; first | done | assumption | rfl), (by simp (disch := omega) only [hTn, hCr, hFl, hu_s, hu_n]; first | done | assumption | rfl)⟩) (fun x124 h124 q124 => ?_)
      skip
      obtain ⟨y1, y2, y3, y4⟩ := q124
      have F : mFr h h124 Q := fun j p q => (y2 j p q).trans (hu_n (by omega))
      by_cases cx : x124 = 0
      · have H2 := y4 cx
        obtain ⟨m2, wd2, a0, a1, a2, a3, a4, a5, a6, a7, a8, a9⟩ := H2
        have H3 : mTx (hu h124 (Q + 5) (aI 41 (upd so d 3))) Q n t L (tE t L (tE t L k)) d e (upd so d 3) (upd mu d (tV t L (tE t L k))) (upd fr d (nI (tS t L k))) un op := ⟨m2, wd2, (by simp (disch := omega) only [hTn, hCr, hFl, hu_s, hu_n]; first | done | assumption | rfl), a1, a2, a3, (by simp (disch := omega) only [hTn, hCr, hFl, hu_s, hu_n]; first | done | assumption | rfl), (by simp (disch := omega) only [hTn, hCr, hFl, hu_s, hu_n]; first | done | assumption | rfl), (by simp (disch := omega) only [hTn, hCr, hFl, hu_s, hu_n]; first | done | assumption | rfl), (by simp (disch := omega) only [hTn, hCr, hFl, hu_s, hu_n]; first | done | assumption | rfl), (by simp (disch := omega) only [hTn, hCr, hFl, hu_s, hu_n]; first | done | assumption | rfl), (by simp (disch := omega) only [hTn, hCr, hFl, hu_s, hu_n]; first | done | assumption | rfl)⟩
        have B3 := mTx_bd H3
        refine z_ist4 (n := 129) (by decide +kernel) rfl ?_
        refine z_ald0 (n := 130) (by decide +kernel) ?_
        refine z_getf (n := 133) (idx := 32) (by decide +kernel) fl_X11_32 (by first | assumption | (simp (disch := omega) only [hu_s, hu_n]; first | assumption | rfl)) (by rfl) ?_
        refine z_ald0 (n := 134) (by decide +kernel) ?_
        refine z_getf (n := 137) (idx := 152) (by decide +kernel) fl_X11_152 (by first | assumption | (simp (disch := omega) only [hu_s, hu_n]; first | assumption | rfl)) (by rfl) ?_
        refine z_top a2 ?_
        refine z_iconst (n := 138) (q := 3) (v := 3) (by decide +kernel) ?_
        refine z_iast (n := 139) (by decide +kernel) (by first | assumption | (simp (disch := omega) only [hu_s, hu_n]; first | assumption | rfl)) (by first | assumption | exact ix_nI (by omega) (by omega) | exact ix_of (by simp only [n_0, n_1, n_2, n_3, n_4, n_5, n_6, n_7, n_8, n_10, n_50, n_90, n_130, n_370, n_570, nI_add, pk_mul]; rfl) (by omega) (by omega)) ?_
        refine z_ild4 (n := 141) (by decide +kernel) ?_
        refine z_if_eq_t (n := 144) (off := 8) (tgt := 149) (by decide +kernel) (cx) ?_
        refine z_ald0 (n := 150) (by decide +kernel) ?_
        refine z_e0 (n := 153) (idx := 170) (by decide +kernel) ml_X11_170 (by first | assumption | (simp (disch := omega) only [hu_s, hu_n]; first | assumption | rfl)) rfl (Nat.le_of_ble_eq_true rfl) (by omega) ⟨Nat.le_refl _, Nat.le_refl _⟩ (m_close (d := d) (e := e) 3 (by omega) hL hk2 hp H3) (fun x150 h150 q150 => ?_)
        refine z_iret (by decide +kernel) rfl (Nat.le_refl _) ?_
        skip
        obtain ⟨z1, z2, z3, z4⟩ := q150
        have F2 : mFr h h150 Q := mFr_tr F (fun j p q => (z2 j p q).trans (hu_n (by omega)))
        have eH : dHo t L k = if sgn t L (tE t L (tE t L k)) 59 = true then okd 1 (tV t L (tE t L k)) false (tE t L (tE t L (tE t L k))) else bd 1 (tS t L (tE t L (tE t L k))) := by unfold dHo; rw [if_pos (by rw [← y1]; exact cx)]
        by_cases c : sgn t L (tE t L (tE t L k)) 59 = true
        · rw [if_pos c] at z1 eH
          rw [eH, z1]
          exact ⟨_, rfl, aPo_ok F2 (z4 z1)⟩
        · rw [if_neg c] at z1 eH
          rw [eH, z1]
          exact ⟨_, rfl, aPo_bd F2 (by rw [z3 (by rw [z1]; decide)]; exact B3) (by decide)⟩
      · have H2 := y3 cx
        obtain ⟨m2, wd2, a0, a1, a2, a3, a4, a5, a6, a7, a8, a9⟩ := H2
        have H3 : mTx (hu h124 (Q + 5) (aI 41 (upd so d 3))) Q n t L (tE t L k) d e (upd so d 3) mu (upd fr d (nI (tS t L k))) un op := ⟨m2, wd2, (by simp (disch := omega) only [hTn, hCr, hFl, hu_s, hu_n]; first | done | assumption | rfl), a1, a2, a3, (by simp (disch := omega) only [hTn, hCr, hFl, hu_s, hu_n]; first | done | assumption | rfl), (by simp (disch := omega) only [hTn, hCr, hFl, hu_s, hu_n]; first | done | assumption | rfl), (by simp (disch := omega) only [hTn, hCr, hFl, hu_s, hu_n]; first | done | assumption | rfl), (by simp (disch := omega) only [hTn, hCr, hFl, hu_s, hu_n]; first | done | assumption | rfl), (by simp (disch := omega) only [hTn, hCr, hFl, hu_s, hu_n]; first | done | assumption | rfl), (by simp (disch := omega) only [hTn, hCr, hFl, hu_s, hu_n]; first | done | assumption | rfl)⟩
        have B3 := mTx_bd H3
        refine z_ist4 (n := 129) (by decide +kernel) rfl ?_
        refine z_ald0 (n := 130) (by decide +kernel) ?_
        refine z_getf (n := 133) (idx := 32) (by decide +kernel) fl_X11_32 (by first | assumption | (simp (disch := omega) only [hu_s, hu_n]; first | assumption | rfl)) (by rfl) ?_
        refine z_ald0 (n := 134) (by decide +kernel) ?_
        refine z_getf (n := 137) (idx := 152) (by decide +kernel) fl_X11_152 (by first | assumption | (simp (disch := omega) only [hu_s, hu_n]; first | assumption | rfl)) (by rfl) ?_
        refine z_top a2 ?_
        refine z_iconst (n := 138) (q := 3) (v := 3) (by decide +kernel) ?_
        refine z_iast (n := 139) (by decide +kernel) (by first | assumption | (simp (disch := omega) only [hu_s, hu_n]; first | assumption | rfl)) (by first | assumption | exact ix_nI (by omega) (by omega) | exact ix_of (by simp only [n_0, n_1, n_2, n_3, n_4, n_5, n_6, n_7, n_8, n_10, n_50, n_90, n_130, n_370, n_570, nI_add, pk_mul]; rfl) (by omega) (by omega)) ?_
        refine z_ild4 (n := 141) (by decide +kernel) ?_
        refine z_if_eq_f (n := 144) (off := 8) (tgt := 149) (by decide +kernel) (cx) ?_
        refine z_ild4 (n := 146) (by decide +kernel) ?_
        refine z_goto (n := 149) (off := 7) (tgt := 153) (by decide +kernel) ?_
        refine z_iret (by decide +kernel) rfl (Nat.le_refl _) ?_
        exact ⟨_, rfl, by rw [show dHo t L k = bd x124 (tS t L (tE t L k)) by unfold dHo; rw [if_neg (by rw [← y1]; exact cx), ← y1]]; exact aPo_bd (mFr_tr F (fun j p q => hu_n (by omega))) B3 cx⟩
  by_cases hO : wIs t L k wOp = true
  · have v0 : vbO t L k = 2 := by unfold vbO; rw [if_neg hF, if_neg hH, if_pos hO]
    by_cases c4 : d = 40
    · have eD : dR t L k d e = bd 4 (tS t L k) := by unfold dR; rw [v0, if_neg (by decide), if_pos c4]
      refine z_ald0 (n := 1) (by decide +kernel) ?_
      refine z_bipush (n := 3) (q := 102) (v := 102) (by decide +kernel) ?_
      refine z_bipush (n := 5) (q := 111) (v := 111) (by decide +kernel) ?_
      refine z_bipush (n := 7) (q := 108) (v := 108) (by decide +kernel) ?_
      refine z_bipush (n := 9) (q := 100) (v := 100) (by decide +kernel) ?_
      refine z_s4 (n := 12) (idx := 145) (by decide +kernel) ml_X11_145 (Nat.le_of_ble_eq_true rfl) (by omega) ⟨Nat.le_refl _, Nat.le_refl _⟩ (m_w4 0) ?_
      refine z_v1 (n := 15) (idx := 166) (by decide +kernel) ml_X11_166 (by first | assumption | (simp (disch := omega) only [hu_s, hu_n]; first | assumption | rfl)) rfl (Nat.le_of_ble_eq_true rfl) (by omega) ⟨Nat.le_refl _, Nat.le_refl _⟩ (m_isWord (n := n) (m := m1) (wd := wd1) 0 e0) ?_
      refine z_top (mw_Fo e1') ?_
      refine z_ist1 (n := 16) (by decide +kernel) rfl ?_
      refine z_ald0 (n := 17) (by decide +kernel) ?_
      refine z_bipush (n := 19) (q := 104) (v := 104) (by decide +kernel) ?_
      refine z_bipush (n := 21) (q := 111) (v := 111) (by decide +kernel) ?_
      refine z_bipush (n := 23) (q := 108) (v := 108) (by decide +kernel) ?_
      refine z_bipush (n := 25) (q := 100) (v := 100) (by decide +kernel) ?_
      refine z_s4 (n := 28) (idx := 145) (by decide +kernel) ml_X11_145 (Nat.le_of_ble_eq_true rfl) (by omega) ⟨Nat.le_refl _, Nat.le_refl _⟩ (m_w4 0) ?_
      refine z_v1 (n := 31) (idx := 166) (by decide +kernel) ml_X11_166 (by first | assumption | (simp (disch := omega) only [hu_s, hu_n]; first | assumption | rfl)) rfl (Nat.le_of_ble_eq_true rfl) (by omega) ⟨Nat.le_refl _, Nat.le_refl _⟩ (m_isWord (n := n) (m := m1) (wd := wd1) 0 e0) ?_
      refine z_top (mw_Ho e1') ?_
      refine z_ist2 (n := 32) (by decide +kernel) rfl ?_
      refine z_ald0 (n := 33) (by decide +kernel) ?_
      refine z_bipush (n := 35) (q := 111) (v := 111) (by decide +kernel) ?_
      refine z_bipush (n := 37) (q := 112) (v := 112) (by decide +kernel) ?_
      refine z_bipush (n := 39) (q := 101) (v := 101) (by decide +kernel) ?_
      refine z_bipush (n := 41) (q := 110) (v := 110) (by decide +kernel) ?_
      refine z_s4 (n := 44) (idx := 145) (by decide +kernel) ml_X11_145 (Nat.le_of_ble_eq_true rfl) (by omega) ⟨Nat.le_refl _, Nat.le_refl _⟩ (m_w4 0) ?_
      refine z_v1 (n := 47) (idx := 166) (by decide +kernel) ml_X11_166 (by first | assumption | (simp (disch := omega) only [hu_s, hu_n]; first | assumption | rfl)) rfl (Nat.le_of_ble_eq_true rfl) (by omega) ⟨Nat.le_refl _, Nat.le_refl _⟩ (m_isWord (n := n) (m := m1) (wd := wd1) 0 e0) ?_
      refine z_top (mw_Op e1') ?_
      refine z_ist3 (n := 48) (by decide +kernel) rfl ?_
      refine z_ild1 (n := 49) (by decide +kernel) ?_
      refine z_ifb_ne_f (n := 52) (off := 33) (tgt := 82) (by decide +kernel) (Bool.eq_false_iff.mpr hF) ?_
      refine z_ild2 (n := 53) (by decide +kernel) ?_
      refine z_ifb_ne_f (n := 56) (off := 29) (tgt := 82) (by decide +kernel) (Bool.eq_false_iff.mpr hH) ?_
      refine z_ild3 (n := 57) (by decide +kernel) ?_
      refine z_ifb_ne_t (n := 60) (off := 25) (tgt := 82) (by decide +kernel) (hO) ?_
      refine z_ald0 (n := 83) (by decide +kernel) ?_
      refine z_getf (n := 86) (idx := 152) (by decide +kernel) fl_X11_152 (by first | assumption | (simp (disch := omega) only [hu_s, hu_n]; first | assumption | rfl)) (by rfl) ?_
      refine z_top e2 ?_
      refine z_bipush (n := 88) (q := 40) (v := 40) (by decide +kernel) ?_
      refine z_icmp_ne_f (n := 91) (off := 5) (tgt := 93) (by decide +kernel) (by rw [c4]; rfl) ?_
      refine z_iconst (n := 92) (q := 4) (v := 4) (by decide +kernel) ?_
      refine z_iret (by decide +kernel) rfl (Nat.le_refl _) ?_
      exact ⟨_, rfl, by rw [eD]; exact aPo_bd mFr_rf B (by decide)⟩
    · have eD : dR t L k d e = dOp t L k := by unfold dR; rw [v0, if_neg (by decide), if_neg c4, if_neg (by decide), if_neg (by decide), if_pos rfl]
      rw [eD]
      refine z_ald0 (n := 1) (by decide +kernel) ?_
      refine z_bipush (n := 3) (q := 102) (v := 102) (by decide +kernel) ?_
      refine z_bipush (n := 5) (q := 111) (v := 111) (by decide +kernel) ?_
      refine z_bipush (n := 7) (q := 108) (v := 108) (by decide +kernel) ?_
      refine z_bipush (n := 9) (q := 100) (v := 100) (by decide +kernel) ?_
      refine z_s4 (n := 12) (idx := 145) (by decide +kernel) ml_X11_145 (Nat.le_of_ble_eq_true rfl) (by omega) ⟨Nat.le_refl _, Nat.le_refl _⟩ (m_w4 0) ?_
      refine z_v1 (n := 15) (idx := 166) (by decide +kernel) ml_X11_166 (by first | assumption | (simp (disch := omega) only [hu_s, hu_n]; first | assumption | rfl)) rfl (Nat.le_of_ble_eq_true rfl) (by omega) ⟨Nat.le_refl _, Nat.le_refl _⟩ (m_isWord (n := n) (m := m1) (wd := wd1) 0 e0) ?_
      refine z_top (mw_Fo e1') ?_
      refine z_ist1 (n := 16) (by decide +kernel) rfl ?_
      refine z_ald0 (n := 17) (by decide +kernel) ?_
      refine z_bipush (n := 19) (q := 104) (v := 104) (by decide +kernel) ?_
      refine z_bipush (n := 21) (q := 111) (v := 111) (by decide +kernel) ?_
      refine z_bipush (n := 23) (q := 108) (v := 108) (by decide +kernel) ?_
      refine z_bipush (n := 25) (q := 100) (v := 100) (by decide +kernel) ?_
      refine z_s4 (n := 28) (idx := 145) (by decide +kernel) ml_X11_145 (Nat.le_of_ble_eq_true rfl) (by omega) ⟨Nat.le_refl _, Nat.le_refl _⟩ (m_w4 0) ?_
      refine z_v1 (n := 31) (idx := 166) (by decide +kernel) ml_X11_166 (by first | assumption | (simp (disch := omega) only [hu_s, hu_n]; first | assumption | rfl)) rfl (Nat.le_of_ble_eq_true rfl) (by omega) ⟨Nat.le_refl _, Nat.le_refl _⟩ (m_isWord (n := n) (m := m1) (wd := wd1) 0 e0) ?_
      refine z_top (mw_Ho e1') ?_
      refine z_ist2 (n := 32) (by decide +kernel) rfl ?_
      refine z_ald0 (n := 33) (by decide +kernel) ?_
      refine z_bipush (n := 35) (q := 111) (v := 111) (by decide +kernel) ?_
      refine z_bipush (n := 37) (q := 112) (v := 112) (by decide +kernel) ?_
      refine z_bipush (n := 39) (q := 101) (v := 101) (by decide +kernel) ?_
      refine z_bipush (n := 41) (q := 110) (v := 110) (by decide +kernel) ?_
      refine z_s4 (n := 44) (idx := 145) (by decide +kernel) ml_X11_145 (Nat.le_of_ble_eq_true rfl) (by omega) ⟨Nat.le_refl _, Nat.le_refl _⟩ (m_w4 0) ?_
      refine z_v1 (n := 47) (idx := 166) (by decide +kernel) ml_X11_166 (by first | assumption | (simp (disch := omega) only [hu_s, hu_n]; first | assumption | rfl)) rfl (Nat.le_of_ble_eq_true rfl) (by omega) ⟨Nat.le_refl _, Nat.le_refl _⟩ (m_isWord (n := n) (m := m1) (wd := wd1) 0 e0) ?_
      refine z_top (mw_Op e1') ?_
      refine z_ist3 (n := 48) (by decide +kernel) rfl ?_
      refine z_ild1 (n := 49) (by decide +kernel) ?_
      refine z_ifb_ne_f (n := 52) (off := 33) (tgt := 82) (by decide +kernel) (Bool.eq_false_iff.mpr hF) ?_
      refine z_ild2 (n := 53) (by decide +kernel) ?_
      refine z_ifb_ne_f (n := 56) (off := 29) (tgt := 82) (by decide +kernel) (Bool.eq_false_iff.mpr hH) ?_
      refine z_ild3 (n := 57) (by decide +kernel) ?_
      refine z_ifb_ne_t (n := 60) (off := 25) (tgt := 82) (by decide +kernel) (hO) ?_
      refine z_ald0 (n := 83) (by decide +kernel) ?_
      refine z_getf (n := 86) (idx := 152) (by decide +kernel) fl_X11_152 (by first | assumption | (simp (disch := omega) only [hu_s, hu_n]; first | assumption | rfl)) (by rfl) ?_
      refine z_top e2 ?_
      refine z_bipush (n := 88) (q := 40) (v := 40) (by decide +kernel) ?_
      refine z_icmp_ne_t (n := 91) (off := 5) (tgt := 93) (by decide +kernel) (fun q => c4 ((nI_ij (b := 40) (by omega) (by omega)).mp q)) ?_
      refine z_ald0 (n := 94) (by decide +kernel) ?_
      refine z_getf (n := 97) (idx := 38) (by decide +kernel) fl_X11_38 (by first | assumption | (simp (disch := omega) only [hu_s, hu_n]; first | assumption | rfl)) (by rfl) ?_
      refine z_ald0 (n := 98) (by decide +kernel) ?_
      refine z_getf (n := 101) (idx := 152) (by decide +kernel) fl_X11_152 (by first | assumption | (simp (disch := omega) only [hu_s, hu_n]; first | assumption | rfl)) (by rfl) ?_
      refine z_top e2 ?_
      refine z_ald0 (n := 102) (by decide +kernel) ?_
      refine z_getf (n := 105) (idx := 126) (by decide +kernel) fl_X11_126 (by first | assumption | (simp (disch := omega) only [hu_s, hu_n]; first | assumption | rfl)) (by rfl) ?_
      refine z_top g5 ?_
      refine z_iast (n := 106) (by decide +kernel) (by first | assumption | (simp (disch := omega) only [hu_s, hu_n]; first | assumption | rfl)) (by first | assumption | exact ix_nI (by omega) (by omega) | exact ix_of (by simp only [n_0, n_1, n_2, n_3, n_4, n_5, n_6, n_7, n_8, n_10, n_50, n_90, n_130, n_370, n_570, nI_add, pk_mul]; rfl) (by omega) (by omega)) ?_
      refine z_ild1 (n := 107) (by decide +kernel) ?_
      refine z_ifb_eq_t (n := 110) (off := 8) (tgt := 115) (by decide +kernel) (Bool.eq_false_iff.mpr hF) ?_
      refine z_ild2 (n := 116) (by decide +kernel) ?_
      refine z_ifb_eq_t (n := 119) (off := 38) (tgt := 154) (by decide +kernel) (Bool.eq_false_iff.mpr hH) ?_
      refine z_ild3 (n := 155) (by decide +kernel) ?_
      refine z_ifb_ne_t (n := 158) (off := 8) (tgt := 163) (by decide +kernel) (hO) ?_
      refine z_ald0 (n := 164) (by decide +kernel) ?_
      refine z_getf (n := 167) (idx := 32) (by decide +kernel) fl_X11_32 (by first | assumption | (simp (disch := omega) only [hu_s, hu_n]; first | assumption | rfl)) (by rfl) ?_
      refine z_ald0 (n := 168) (by decide +kernel) ?_
      refine z_getf (n := 171) (idx := 152) (by decide +kernel) fl_X11_152 (by first | assumption | (simp (disch := omega) only [hu_s, hu_n]; first | assumption | rfl)) (by rfl) ?_
      refine z_top e2 ?_
      refine z_iconst (n := 172) (q := 4) (v := 4) (by decide +kernel) ?_
      refine z_iast (n := 173) (by decide +kernel) (by first | assumption | (simp (disch := omega) only [hu_s, hu_n]; first | assumption | rfl)) (by first | assumption | exact ix_nI (by omega) (by omega) | exact ix_of (by simp only [n_0, n_1, n_2, n_3, n_4, n_5, n_6, n_7, n_8, n_10, n_50, n_90, n_130, n_370, n_570, nI_add, pk_mul]; rfl) (by omega) (by omega)) ?_
      refine z_ald0 (n := 174) (by decide +kernel) ?_
      refine z_w0v (n := 177) (idx := 149) (by decide +kernel) ml_X11_149 (by first | assumption | (simp (disch := omega) only [hu_s, hu_n]; first | assumption | rfl)) rfl (Nat.le_of_ble_eq_true rfl) (by omega) ⟨Nat.le_refl _, Nat.le_refl _⟩ (mTx_next (d := d) (e := e) (k := k) (so := upd so d 4) (fr := upd fr d (nI (tS t L k))) 4 (by omega) hL hk hp ⟨m1, wd1, (by simp (disch := omega) only [hTn, hCr, hFl, hu_s, hu_n]; first | done | assumption | rfl), e1', e2, e3, (by simp (disch := omega) only [hTn, hCr, hFl, hu_s, hu_n]; first | done | assumption | rfl), (by simp (disch := omega) only [hTn, hCr, hFl, hu_s, hu_n]; first | done | assumption | rfl), (by simp (disch := omega) only [hTn, hCr, hFl, hu_s, hu_n]; first | done | assumption | rfl), (by simp (disch := omega) only [hTn, hCr, hFl, hu_s, hu_n]; first | done | assumption | rfl), (by simp (disch := omega) only [hTn, hCr, hFl, hu_s, hu_n]; first | done | assumption | rfl), (by simp (disch := omega) only [hTn, hCr, hFl, hu_s, hu_n]; first | done | assumption | rfl)⟩) (fun h174 q174 => ?_)
      skip
      obtain ⟨f75, H75⟩ := q174
      have F75 : mFr h h174 Q := fun j p q => (f75 j p q).trans (by simp (disch := omega) only [hu_n])
      have B75 := mTx_bd H75
      have H75' := H75
      obtain ⟨m9, wd9, i0, _⟩ := H75'
      refine z_ald0 (n := 178) (by decide +kernel) ?_
      refine z_e0 (n := 181) (idx := 170) (by decide +kernel) ml_X11_170 (by first | assumption | (simp (disch := omega) only [hu_s, hu_n]; first | assumption | rfl)) rfl (Nat.le_of_ble_eq_true rfl) (by omega) ⟨Nat.le_refl _, Nat.le_refl _⟩ (m_close (d := d) (e := e) 3 (by omega) hL hk1 hp H75) (fun x178 h178 q178 => ?_)
      refine z_iret (by decide +kernel) rfl (Nat.le_refl _) ?_
      skip
      obtain ⟨y1, y2, y3, y4⟩ := q178
      have eH : dOp t L k = if sgn t L (tE t L k) 59 = true then okd 2 0 false (tE t L (tE t L k)) else bd 1 (tS t L (tE t L k)) := rfl
      by_cases c : sgn t L (tE t L k) 59 = true
      · rw [if_pos c] at y1 eH
        rw [eH, y1]
        exact ⟨_, rfl, aPo_ok (mFr_tr F75 y2) (y4 y1)⟩
      · rw [if_neg c] at y1 eH
        rw [eH, y1]
        exact ⟨_, rfl, aPo_bd (mFr_tr F75 y2) (by rw [y3 (by rw [y1]; decide)]; exact B75) (by decide)⟩
  by_cases hA : wIs t L k wAg = true
  · have v0 : vbO t L k = 3 := by unfold vbO; rw [if_neg hF, if_neg hH, if_neg hO, if_pos hA]
    by_cases c4 : d = 40
    · have eD : dR t L k d e = bd 4 (tS t L k) := by unfold dR; rw [v0, if_neg (by decide), if_pos c4]
      refine z_ald0 (n := 1) (by decide +kernel) ?_
      refine z_bipush (n := 3) (q := 102) (v := 102) (by decide +kernel) ?_
      refine z_bipush (n := 5) (q := 111) (v := 111) (by decide +kernel) ?_
      refine z_bipush (n := 7) (q := 108) (v := 108) (by decide +kernel) ?_
      refine z_bipush (n := 9) (q := 100) (v := 100) (by decide +kernel) ?_
      refine z_s4 (n := 12) (idx := 145) (by decide +kernel) ml_X11_145 (Nat.le_of_ble_eq_true rfl) (by omega) ⟨Nat.le_refl _, Nat.le_refl _⟩ (m_w4 0) ?_
      refine z_v1 (n := 15) (idx := 166) (by decide +kernel) ml_X11_166 (by first | assumption | (simp (disch := omega) only [hu_s, hu_n]; first | assumption | rfl)) rfl (Nat.le_of_ble_eq_true rfl) (by omega) ⟨Nat.le_refl _, Nat.le_refl _⟩ (m_isWord (n := n) (m := m1) (wd := wd1) 0 e0) ?_
      refine z_top (mw_Fo e1') ?_
      refine z_ist1 (n := 16) (by decide +kernel) rfl ?_
      refine z_ald0 (n := 17) (by decide +kernel) ?_
      refine z_bipush (n := 19) (q := 104) (v := 104) (by decide +kernel) ?_
      refine z_bipush (n := 21) (q := 111) (v := 111) (by decide +kernel) ?_
      refine z_bipush (n := 23) (q := 108) (v := 108) (by decide +kernel) ?_
      refine z_bipush (n := 25) (q := 100) (v := 100) (by decide +kernel) ?_
      refine z_s4 (n := 28) (idx := 145) (by decide +kernel) ml_X11_145 (Nat.le_of_ble_eq_true rfl) (by omega) ⟨Nat.le_refl _, Nat.le_refl _⟩ (m_w4 0) ?_
      refine z_v1 (n := 31) (idx := 166) (by decide +kernel) ml_X11_166 (by first | assumption | (simp (disch := omega) only [hu_s, hu_n]; first | assumption | rfl)) rfl (Nat.le_of_ble_eq_true rfl) (by omega) ⟨Nat.le_refl _, Nat.le_refl _⟩ (m_isWord (n := n) (m := m1) (wd := wd1) 0 e0) ?_
      refine z_top (mw_Ho e1') ?_
      refine z_ist2 (n := 32) (by decide +kernel) rfl ?_
      refine z_ald0 (n := 33) (by decide +kernel) ?_
      refine z_bipush (n := 35) (q := 111) (v := 111) (by decide +kernel) ?_
      refine z_bipush (n := 37) (q := 112) (v := 112) (by decide +kernel) ?_
      refine z_bipush (n := 39) (q := 101) (v := 101) (by decide +kernel) ?_
      refine z_bipush (n := 41) (q := 110) (v := 110) (by decide +kernel) ?_
      refine z_s4 (n := 44) (idx := 145) (by decide +kernel) ml_X11_145 (Nat.le_of_ble_eq_true rfl) (by omega) ⟨Nat.le_refl _, Nat.le_refl _⟩ (m_w4 0) ?_
      refine z_v1 (n := 47) (idx := 166) (by decide +kernel) ml_X11_166 (by first | assumption | (simp (disch := omega) only [hu_s, hu_n]; first | assumption | rfl)) rfl (Nat.le_of_ble_eq_true rfl) (by omega) ⟨Nat.le_refl _, Nat.le_refl _⟩ (m_isWord (n := n) (m := m1) (wd := wd1) 0 e0) ?_
      refine z_top (mw_Op e1') ?_
      refine z_ist3 (n := 48) (by decide +kernel) rfl ?_
      refine z_ild1 (n := 49) (by decide +kernel) ?_
      refine z_ifb_ne_f (n := 52) (off := 33) (tgt := 82) (by decide +kernel) (Bool.eq_false_iff.mpr hF) ?_
      refine z_ild2 (n := 53) (by decide +kernel) ?_
      refine z_ifb_ne_f (n := 56) (off := 29) (tgt := 82) (by decide +kernel) (Bool.eq_false_iff.mpr hH) ?_
      refine z_ild3 (n := 57) (by decide +kernel) ?_
      refine z_ifb_ne_f (n := 60) (off := 25) (tgt := 82) (by decide +kernel) (Bool.eq_false_iff.mpr hO) ?_
      refine z_ald0 (n := 61) (by decide +kernel) ?_
      refine z_bipush (n := 63) (q := 97) (v := 97) (by decide +kernel) ?_
      refine z_bipush (n := 65) (q := 103) (v := 103) (by decide +kernel) ?_
      refine z_bipush (n := 67) (q := 97) (v := 97) (by decide +kernel) ?_
      refine z_bipush (n := 69) (q := 105) (v := 105) (by decide +kernel) ?_
      refine z_bipush (n := 71) (q := 110) (v := 110) (by decide +kernel) ?_
      refine z_s5 (n := 74) (idx := 162) (by decide +kernel) ml_X11_162 (Nat.le_of_ble_eq_true rfl) (by omega) ⟨Nat.le_refl _, Nat.le_refl _⟩ (m_w5 1 (by omega)) ?_
      refine z_v1 (n := 77) (idx := 166) (by decide +kernel) ml_X11_166 (by first | assumption | (simp (disch := omega) only [hu_s, hu_n]; first | assumption | rfl)) rfl (Nat.le_of_ble_eq_true rfl) (by omega) ⟨Nat.le_refl _, Nat.le_refl _⟩ (m_isWord (n := n) (m := m1) (wd := wd1) 0 e0) ?_
      refine z_top (mw_Ag e1') ?_
      refine z_ifb_ne_t (n := 80) (off := 5) (tgt := 82) (by decide +kernel) (hA) ?_
      refine z_ald0 (n := 83) (by decide +kernel) ?_
      refine z_getf (n := 86) (idx := 152) (by decide +kernel) fl_X11_152 (by first | assumption | (simp (disch := omega) only [hu_s, hu_n]; first | assumption | rfl)) (by rfl) ?_
      refine z_top e2 ?_
      refine z_bipush (n := 88) (q := 40) (v := 40) (by decide +kernel) ?_
      refine z_icmp_ne_f (n := 91) (off := 5) (tgt := 93) (by decide +kernel) (by rw [c4]; rfl) ?_
      refine z_iconst (n := 92) (q := 4) (v := 4) (by decide +kernel) ?_
      refine z_iret (by decide +kernel) rfl (Nat.le_refl _) ?_
      exact ⟨_, rfl, by rw [eD]; exact aPo_bd mFr_rf B (by decide)⟩
    · have eD : dR t L k d e = dAg t L k e := by unfold dR; rw [v0, if_neg (by decide), if_neg c4, if_neg (by decide), if_neg (by decide), if_neg (by decide)]
      rw [eD]
      refine z_ald0 (n := 1) (by decide +kernel) ?_
      refine z_bipush (n := 3) (q := 102) (v := 102) (by decide +kernel) ?_
      refine z_bipush (n := 5) (q := 111) (v := 111) (by decide +kernel) ?_
      refine z_bipush (n := 7) (q := 108) (v := 108) (by decide +kernel) ?_
      refine z_bipush (n := 9) (q := 100) (v := 100) (by decide +kernel) ?_
      refine z_s4 (n := 12) (idx := 145) (by decide +kernel) ml_X11_145 (Nat.le_of_ble_eq_true rfl) (by omega) ⟨Nat.le_refl _, Nat.le_refl _⟩ (m_w4 0) ?_
      refine z_v1 (n := 15) (idx := 166) (by decide +kernel) ml_X11_166 (by first | assumption | (simp (disch := omega) only [hu_s, hu_n]; first | assumption | rfl)) rfl (Nat.le_of_ble_eq_true rfl) (by omega) ⟨Nat.le_refl _, Nat.le_refl _⟩ (m_isWord (n := n) (m := m1) (wd := wd1) 0 e0) ?_
      refine z_top (mw_Fo e1') ?_
      refine z_ist1 (n := 16) (by decide +kernel) rfl ?_
      refine z_ald0 (n := 17) (by decide +kernel) ?_
      refine z_bipush (n := 19) (q := 104) (v := 104) (by decide +kernel) ?_
      refine z_bipush (n := 21) (q := 111) (v := 111) (by decide +kernel) ?_
      refine z_bipush (n := 23) (q := 108) (v := 108) (by decide +kernel) ?_
      refine z_bipush (n := 25) (q := 100) (v := 100) (by decide +kernel) ?_
      refine z_s4 (n := 28) (idx := 145) (by decide +kernel) ml_X11_145 (Nat.le_of_ble_eq_true rfl) (by omega) ⟨Nat.le_refl _, Nat.le_refl _⟩ (m_w4 0) ?_
      refine z_v1 (n := 31) (idx := 166) (by decide +kernel) ml_X11_166 (by first | assumption | (simp (disch := omega) only [hu_s, hu_n]; first | assumption | rfl)) rfl (Nat.le_of_ble_eq_true rfl) (by omega) ⟨Nat.le_refl _, Nat.le_refl _⟩ (m_isWord (n := n) (m := m1) (wd := wd1) 0 e0) ?_
      refine z_top (mw_Ho e1') ?_
      refine z_ist2 (n := 32) (by decide +kernel) rfl ?_
      refine z_ald0 (n := 33) (by decide +kernel) ?_
      refine z_bipush (n := 35) (q := 111) (v := 111) (by decide +kernel) ?_
      refine z_bipush (n := 37) (q := 112) (v := 112) (by decide +kernel) ?_
      refine z_bipush (n := 39) (q := 101) (v := 101) (by decide +kernel) ?_
      refine z_bipush (n := 41) (q := 110) (v := 110) (by decide +kernel) ?_
      refine z_s4 (n := 44) (idx := 145) (by decide +kernel) ml_X11_145 (Nat.le_of_ble_eq_true rfl) (by omega) ⟨Nat.le_refl _, Nat.le_refl _⟩ (m_w4 0) ?_
      refine z_v1 (n := 47) (idx := 166) (by decide +kernel) ml_X11_166 (by first | assumption | (simp (disch := omega) only [hu_s, hu_n]; first | assumption | rfl)) rfl (Nat.le_of_ble_eq_true rfl) (by omega) ⟨Nat.le_refl _, Nat.le_refl _⟩ (m_isWord (n := n) (m := m1) (wd := wd1) 0 e0) ?_
      refine z_top (mw_Op e1') ?_
      refine z_ist3 (n := 48) (by decide +kernel) rfl ?_
      refine z_ild1 (n := 49) (by decide +kernel) ?_
      refine z_ifb_ne_f (n := 52) (off := 33) (tgt := 82) (by decide +kernel) (Bool.eq_false_iff.mpr hF) ?_
      refine z_ild2 (n := 53) (by decide +kernel) ?_
      refine z_ifb_ne_f (n := 56) (off := 29) (tgt := 82) (by decide +kernel) (Bool.eq_false_iff.mpr hH) ?_
      refine z_ild3 (n := 57) (by decide +kernel) ?_
      refine z_ifb_ne_f (n := 60) (off := 25) (tgt := 82) (by decide +kernel) (Bool.eq_false_iff.mpr hO) ?_
      refine z_ald0 (n := 61) (by decide +kernel) ?_
      refine z_bipush (n := 63) (q := 97) (v := 97) (by decide +kernel) ?_
      refine z_bipush (n := 65) (q := 103) (v := 103) (by decide +kernel) ?_
      refine z_bipush (n := 67) (q := 97) (v := 97) (by decide +kernel) ?_
      refine z_bipush (n := 69) (q := 105) (v := 105) (by decide +kernel) ?_
      refine z_bipush (n := 71) (q := 110) (v := 110) (by decide +kernel) ?_
      refine z_s5 (n := 74) (idx := 162) (by decide +kernel) ml_X11_162 (Nat.le_of_ble_eq_true rfl) (by omega) ⟨Nat.le_refl _, Nat.le_refl _⟩ (m_w5 1 (by omega)) ?_
      refine z_v1 (n := 77) (idx := 166) (by decide +kernel) ml_X11_166 (by first | assumption | (simp (disch := omega) only [hu_s, hu_n]; first | assumption | rfl)) rfl (Nat.le_of_ble_eq_true rfl) (by omega) ⟨Nat.le_refl _, Nat.le_refl _⟩ (m_isWord (n := n) (m := m1) (wd := wd1) 0 e0) ?_
      refine z_top (mw_Ag e1') ?_
      refine z_ifb_ne_t (n := 80) (off := 5) (tgt := 82) (by decide +kernel) (hA) ?_
      refine z_ald0 (n := 83) (by decide +kernel) ?_
      refine z_getf (n := 86) (idx := 152) (by decide +kernel) fl_X11_152 (by first | assumption | (simp (disch := omega) only [hu_s, hu_n]; first | assumption | rfl)) (by rfl) ?_
      refine z_top e2 ?_
      refine z_bipush (n := 88) (q := 40) (v := 40) (by decide +kernel) ?_
      refine z_icmp_ne_t (n := 91) (off := 5) (tgt := 93) (by decide +kernel) (fun q => c4 ((nI_ij (b := 40) (by omega) (by omega)).mp q)) ?_
      refine z_ald0 (n := 94) (by decide +kernel) ?_
      refine z_getf (n := 97) (idx := 38) (by decide +kernel) fl_X11_38 (by first | assumption | (simp (disch := omega) only [hu_s, hu_n]; first | assumption | rfl)) (by rfl) ?_
      refine z_ald0 (n := 98) (by decide +kernel) ?_
      refine z_getf (n := 101) (idx := 152) (by decide +kernel) fl_X11_152 (by first | assumption | (simp (disch := omega) only [hu_s, hu_n]; first | assumption | rfl)) (by rfl) ?_
      refine z_top e2 ?_
      refine z_ald0 (n := 102) (by decide +kernel) ?_
      refine z_getf (n := 105) (idx := 126) (by decide +kernel) fl_X11_126 (by first | assumption | (simp (disch := omega) only [hu_s, hu_n]; first | assumption | rfl)) (by rfl) ?_
      refine z_top g5 ?_
      refine z_iast (n := 106) (by decide +kernel) (by first | assumption | (simp (disch := omega) only [hu_s, hu_n]; first | assumption | rfl)) (by first | assumption | exact ix_nI (by omega) (by omega) | exact ix_of (by simp only [n_0, n_1, n_2, n_3, n_4, n_5, n_6, n_7, n_8, n_10, n_50, n_90, n_130, n_370, n_570, nI_add, pk_mul]; rfl) (by omega) (by omega)) ?_
      refine z_ild1 (n := 107) (by decide +kernel) ?_
      refine z_ifb_eq_t (n := 110) (off := 8) (tgt := 115) (by decide +kernel) (Bool.eq_false_iff.mpr hF) ?_
      refine z_ild2 (n := 116) (by decide +kernel) ?_
      refine z_ifb_eq_t (n := 119) (off := 38) (tgt := 154) (by decide +kernel) (Bool.eq_false_iff.mpr hH) ?_
      refine z_ild3 (n := 155) (by decide +kernel) ?_
      refine z_ifb_ne_f (n := 158) (off := 8) (tgt := 163) (by decide +kernel) (Bool.eq_false_iff.mpr hO) ?_
      refine z_ald0 (n := 159) (by decide +kernel) ?_
      refine z_e0 (n := 162) (idx := 177) (by decide +kernel) ml_X11_177 (by first | assumption | (simp (disch := omega) only [hu_s, hu_n]; first | assumption | rfl)) rfl (Nat.le_of_ble_eq_true rfl) (by omega) ⟨Nat.le_refl _, Nat.le_refl _⟩ (m_again (d := d) (e := e) (k := k) (fr := upd fr d (nI (tS t L k))) 4 (by omega) (by omega) he4 hL hk hp ⟨m1, wd1, (by simp (disch := omega) only [hTn, hCr, hFl, hu_s, hu_n]; first | done | assumption | rfl), e1', e2, e3, (by simp (disch := omega) only [hTn, hCr, hFl, hu_s, hu_n]; first | done | assumption | rfl), (by simp (disch := omega) only [hTn, hCr, hFl, hu_s, hu_n]; first | done | assumption | rfl), (by simp (disch := omega) only [hTn, hCr, hFl, hu_s, hu_n]; first | done | assumption | rfl), (by simp (disch := omega) only [hTn, hCr, hFl, hu_s, hu_n]; first | done | assumption | rfl), (by simp (disch := omega) only [hTn, hCr, hFl, hu_s, hu_n]; first | done | assumption | rfl), (by simp (disch := omega) only [hTn, hCr, hFl, hu_s, hu_n]; first | done | assumption | rfl)⟩) (fun x159 h159 q159 => ?_)
      refine z_iret (by decide +kernel) rfl (Nat.le_refl _) ?_
      exact ⟨_, rfl, aPo_fr (fun j p q => hu_n (by omega)) q159⟩
  · have eD : dR t L k d e = bd 1 (tS t L k) := by unfold dR vbO; rw [if_neg hF, if_neg hH, if_neg hO, if_neg hA, if_pos rfl]
    refine z_ald0 (n := 1) (by decide +kernel) ?_
    refine z_bipush (n := 3) (q := 102) (v := 102) (by decide +kernel) ?_
    refine z_bipush (n := 5) (q := 111) (v := 111) (by decide +kernel) ?_
    refine z_bipush (n := 7) (q := 108) (v := 108) (by decide +kernel) ?_
    refine z_bipush (n := 9) (q := 100) (v := 100) (by decide +kernel) ?_
    refine z_s4 (n := 12) (idx := 145) (by decide +kernel) ml_X11_145 (Nat.le_of_ble_eq_true rfl) (by omega) ⟨Nat.le_refl _, Nat.le_refl _⟩ (m_w4 0) ?_
    refine z_v1 (n := 15) (idx := 166) (by decide +kernel) ml_X11_166 (by first | assumption | (simp (disch := omega) only [hu_s, hu_n]; first | assumption | rfl)) rfl (Nat.le_of_ble_eq_true rfl) (by omega) ⟨Nat.le_refl _, Nat.le_refl _⟩ (m_isWord (n := n) (m := m1) (wd := wd1) 0 e0) ?_
    refine z_top (mw_Fo e1') ?_
    refine z_ist1 (n := 16) (by decide +kernel) rfl ?_
    refine z_ald0 (n := 17) (by decide +kernel) ?_
    refine z_bipush (n := 19) (q := 104) (v := 104) (by decide +kernel) ?_
    refine z_bipush (n := 21) (q := 111) (v := 111) (by decide +kernel) ?_
    refine z_bipush (n := 23) (q := 108) (v := 108) (by decide +kernel) ?_
    refine z_bipush (n := 25) (q := 100) (v := 100) (by decide +kernel) ?_
    refine z_s4 (n := 28) (idx := 145) (by decide +kernel) ml_X11_145 (Nat.le_of_ble_eq_true rfl) (by omega) ⟨Nat.le_refl _, Nat.le_refl _⟩ (m_w4 0) ?_
    refine z_v1 (n := 31) (idx := 166) (by decide +kernel) ml_X11_166 (by first | assumption | (simp (disch := omega) only [hu_s, hu_n]; first | assumption | rfl)) rfl (Nat.le_of_ble_eq_true rfl) (by omega) ⟨Nat.le_refl _, Nat.le_refl _⟩ (m_isWord (n := n) (m := m1) (wd := wd1) 0 e0) ?_
    refine z_top (mw_Ho e1') ?_
    refine z_ist2 (n := 32) (by decide +kernel) rfl ?_
    refine z_ald0 (n := 33) (by decide +kernel) ?_
    refine z_bipush (n := 35) (q := 111) (v := 111) (by decide +kernel) ?_
    refine z_bipush (n := 37) (q := 112) (v := 112) (by decide +kernel) ?_
    refine z_bipush (n := 39) (q := 101) (v := 101) (by decide +kernel) ?_
    refine z_bipush (n := 41) (q := 110) (v := 110) (by decide +kernel) ?_
    refine z_s4 (n := 44) (idx := 145) (by decide +kernel) ml_X11_145 (Nat.le_of_ble_eq_true rfl) (by omega) ⟨Nat.le_refl _, Nat.le_refl _⟩ (m_w4 0) ?_
    refine z_v1 (n := 47) (idx := 166) (by decide +kernel) ml_X11_166 (by first | assumption | (simp (disch := omega) only [hu_s, hu_n]; first | assumption | rfl)) rfl (Nat.le_of_ble_eq_true rfl) (by omega) ⟨Nat.le_refl _, Nat.le_refl _⟩ (m_isWord (n := n) (m := m1) (wd := wd1) 0 e0) ?_
    refine z_top (mw_Op e1') ?_
    refine z_ist3 (n := 48) (by decide +kernel) rfl ?_
    refine z_ild1 (n := 49) (by decide +kernel) ?_
    refine z_ifb_ne_f (n := 52) (off := 33) (tgt := 82) (by decide +kernel) (Bool.eq_false_iff.mpr hF) ?_
    refine z_ild2 (n := 53) (by decide +kernel) ?_
    refine z_ifb_ne_f (n := 56) (off := 29) (tgt := 82) (by decide +kernel) (Bool.eq_false_iff.mpr hH) ?_
    refine z_ild3 (n := 57) (by decide +kernel) ?_
    refine z_ifb_ne_f (n := 60) (off := 25) (tgt := 82) (by decide +kernel) (Bool.eq_false_iff.mpr hO) ?_
    refine z_ald0 (n := 61) (by decide +kernel) ?_
    refine z_bipush (n := 63) (q := 97) (v := 97) (by decide +kernel) ?_
    refine z_bipush (n := 65) (q := 103) (v := 103) (by decide +kernel) ?_
    refine z_bipush (n := 67) (q := 97) (v := 97) (by decide +kernel) ?_
    refine z_bipush (n := 69) (q := 105) (v := 105) (by decide +kernel) ?_
    refine z_bipush (n := 71) (q := 110) (v := 110) (by decide +kernel) ?_
    refine z_s5 (n := 74) (idx := 162) (by decide +kernel) ml_X11_162 (Nat.le_of_ble_eq_true rfl) (by omega) ⟨Nat.le_refl _, Nat.le_refl _⟩ (m_w5 1 (by omega)) ?_
    refine z_v1 (n := 77) (idx := 166) (by decide +kernel) ml_X11_166 (by first | assumption | (simp (disch := omega) only [hu_s, hu_n]; first | assumption | rfl)) rfl (Nat.le_of_ble_eq_true rfl) (by omega) ⟨Nat.le_refl _, Nat.le_refl _⟩ (m_isWord (n := n) (m := m1) (wd := wd1) 0 e0) ?_
    refine z_top (mw_Ag e1') ?_
    refine z_ifb_ne_f (n := 80) (off := 5) (tgt := 82) (by decide +kernel) (Bool.eq_false_iff.mpr hA) ?_
    refine z_iconst (n := 81) (q := 1) (v := 1) (by decide +kernel) ?_
    refine z_iret (by decide +kernel) rfl (Nat.le_refl _) ?_
    exact ⟨_, rfl, by rw [eD]; exact aPo_bd mFr_rf B (by decide)⟩
