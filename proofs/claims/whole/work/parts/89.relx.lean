/-! class and model side by side -/
def Re (e : eS) (a : Nat → Int32) : Prop := e.1 ≤ 6 ∧ a 4 = nI e.1 ∧ ∀ i, i < 6 → ∀ r, r < 5 → a (570 + 5 * i + r) = e.2 r i
def Ry (y : yS) (a : Nat → Int32) : Prop := (y.1.1 ≤ 100 ∧ y.1.2 ≤ y.1.1) ∧ a 2 = nI y.1.1 ∧ a 3 = nI y.1.2 ∧ (∀ t, t < 100 → a (370 + 2 * t) = y.2.1 t ∧ a (370 + 2 * t + 1) = y.2.2 t) ∧ ∀ t, t < y.1.1 → (∃ q, q < 12 ∧ y.2.1 t = nI q) ∧ 0 ≤ y.2.2 t
def RA (n : Nat) (p : pS) (e : eS) (y : yS) (a : Nat → Int32) : Prop := Rp n p a ∧ Ip n p ∧ Re e a ∧ Ry y a
def Rf (wr : Bool) (fk fp sp fl f2 fd : Int32) : Prop := (wr = false ∧ fl = -1 ∧ f2 = -1 ∧ fd = -1) ∨ (wr = true ∧ fl = fk ∧ f2 = fp ∧ fd = sp)
def RelX (C Q n : Nat) (h : mH) : Prop := ∃ p po e eo y yo ln bt wr fk fp sp s im fl f2 fd, clsP h C n p po e eo y yo ln bt wr fk fp sp ∧ mdP h Q n s im ln bt fl f2 fd ∧ RA n p e y s.1 ∧ RA n po eo yo im ∧ ln ≤ 300 ∧ (∀ i, 0 ≤ bt i) ∧ Rf wr fk fp sp fl f2 fd
theorem cls_fr {h h' : mH} {C n : Nat} {p po : pS} {e eo : eS} {y yo : yS} {ln : Nat} {bt : Nat → Int32} {wr : Bool} {fk fp sp : Int32} (hf : ∀ j, C ≤ j → j < C + 102 → h' j = h j) (H : clsP h C n p po e eo y yo ln bt wr fk fp sp) : clsP h' C n p po e eo y yo ln bt wr fk fp sp := by
  obtain ⟨q0, q1, q2, q3, q4, q5, q6, ⟨kd, sa, bh, vl, q7⟩, ⟨ds, dp, ad, vb, nu, fb, bhh, oa, tr, q8⟩, q9, q10, q11⟩ := H
  exact ⟨(hf C (by omega) (by omega)).trans q0, pap_in (fun j a b => hf j (by omega) (by omega)) q1, pap_in (fun j a b => hf j (by omega) (by omega)) q2, she_in (fun j a b => hf j (by omega) (by omega)) q3, she_in (fun j a b => hf j (by omega) (by omega)) q4, see_in (fun j a b => hf j (by omega) (by omega)) q5, see_in (fun j a b => hf j (by omega) (by omega)) q6, ⟨kd, sa, bh, vl, tap_in (fun j a b => hf j (by omega) (by omega)) q7⟩, ⟨ds, dp, ad, vb, nu, fb, bhh, oa, tr, txt_in (fun j a b => hf j (by omega) (by omega)) q8⟩, shaX_in (fun j a b => hf j (by omega) (by omega)) q9, panX_in (fun j a b => hf j (by omega) (by omega)) q10, seaX_in (fun j a b => hf j (by omega) (by omega)) q11⟩
theorem moC_fr {h h' : mH} {Q : Nat} (hf : ∀ j, Q ≤ j → j < Q + 18 → h' j = h j) (H : moC h Q) : moC h' Q := by
  obtain ⟨⟨x13, k13⟩, ⟨x14, k14⟩, ⟨x15, k15⟩, ⟨x16, k16⟩⟩ := H
  exact ⟨⟨_, (hf _ (by omega) (by omega)).trans k13⟩, ⟨_, (hf _ (by omega) (by omega)).trans k14⟩, ⟨_, (hf _ (by omega) (by omega)).trans k15⟩, ⟨_, (hf _ (by omega) (by omega)).trans k16⟩⟩
theorem mdX_fr {h h' : mH} {Q : Nat} (hf : ∀ j, Q ≤ j → j < Q + 18 → h' j = h j) (H : mdX h Q) : mdX h' Q := by
  obtain ⟨⟨x5, k5⟩, ⟨x6, k6⟩, ⟨x7, k7⟩, ⟨x8, k8⟩, ⟨x9, k9⟩, ⟨x10, k10⟩, ⟨x11, k11⟩, ⟨x12, k12⟩, kC, ⟨x17, k17⟩⟩ := H
  exact ⟨⟨_, (hf _ (by omega) (by omega)).trans k5⟩, ⟨_, (hf _ (by omega) (by omega)).trans k6⟩, ⟨_, (hf _ (by omega) (by omega)).trans k7⟩, ⟨_, (hf _ (by omega) (by omega)).trans k8⟩, ⟨_, (hf _ (by omega) (by omega)).trans k9⟩, ⟨_, (hf _ (by omega) (by omega)).trans k10⟩, ⟨_, (hf _ (by omega) (by omega)).trans k11⟩, ⟨_, (hf _ (by omega) (by omega)).trans k12⟩, moC_fr hf kC, ⟨_, (hf _ (by omega) (by omega)).trans k17⟩⟩
theorem md_fr {h h' : mH} {Q n : Nat} {s : mS} {im : Nat → Int32} {L : Nat} {t : Nat → Int32} {fl fp fd : Int32} (hf : ∀ j, Q ≤ j → j < Q + 18 → h' j = h j) (H : mdP h Q n s im L t fl fp fd) : mdP h' Q n s im L t fl fp fd := by
  obtain ⟨⟨m, wd, h0, hm⟩, hw, h2, h4, hX⟩ := H
  exact ⟨⟨m, wd, (hf Q (by omega) (by omega)).trans h0, hm⟩, ⟨(hf _ (by omega) (by omega)).trans hw.1, (hf _ (by omega) (by omega)).trans hw.2⟩, (hf _ (by omega) (by omega)).trans h2, (hf _ (by omega) (by omega)).trans h4, mdX_fr hf hX⟩
/-- the model's cells alone are written -/
theorem md_a {h : mH} {Q n : Nat} {s : mS} {im : Nat → Int32} {L : Nat} {t : Nat → Int32} {fl fp fd : Int32} (a' : Nat → Int32) (H : mdP h Q n s im L t fl fp fd) : mdP (hu h (Q + 1) (aI 600 a')) Q n (a', s.2) im L t fl fp fd := by
  obtain ⟨⟨m, wd, h0, hm⟩, hw, h2, h4, ⟨x5, k5⟩, ⟨x6, k6⟩, ⟨x7, k7⟩, ⟨x8, k8⟩, ⟨x9, k9⟩, ⟨x10, k10⟩, ⟨x11, k11⟩, ⟨x12, k12⟩, ⟨⟨x13, k13⟩, ⟨x14, k14⟩, ⟨x15, k15⟩, ⟨x16, k16⟩⟩, ⟨x17, k17⟩⟩ := H
  exact ⟨⟨m, wd, (hu_n (by omega)).trans h0, hm⟩, ⟨hu_s, (hu_n (by omega)).trans hw.2⟩, (hu_n (by omega)).trans h2, (hu_n (by omega)).trans h4, ⟨_, (hu_n (by omega)).trans k5⟩, ⟨_, (hu_n (by omega)).trans k6⟩, ⟨_, (hu_n (by omega)).trans k7⟩, ⟨_, (hu_n (by omega)).trans k8⟩, ⟨_, (hu_n (by omega)).trans k9⟩, ⟨_, (hu_n (by omega)).trans k10⟩, ⟨_, (hu_n (by omega)).trans k11⟩, ⟨_, (hu_n (by omega)).trans k12⟩, ⟨⟨_, (hu_n (by omega)).trans k13⟩, ⟨_, (hu_n (by omega)).trans k14⟩, ⟨_, (hu_n (by omega)).trans k15⟩, ⟨_, (hu_n (by omega)).trans k16⟩⟩, ⟨_, (hu_n (by omega)).trans k17⟩⟩
theorem md_ob {h : mH} {Q n : Nat} {s : mS} {im : Nat → Int32} {L : Nat} {t : Nat → Int32} {fl fp fd : Int32} (H : mdP h Q n s im L t fl fp fd) : ∃ fs, h Q = oB 11 fs := by
  obtain ⟨⟨m, wd, h0, hm⟩, -⟩ := H
  exact ⟨_, h0⟩
theorem rl_ob {C Q n : Nat} {h : mH} (H : RelX C Q n h) : (∃ fs, h C = oB 10 fs) ∧ ∃ fs, h Q = oB 11 fs := by
  obtain ⟨p, po, e, eo, y, yo, ln, bt, wr, fk, fp, sp, s, im, fl, f2, fd, c, M, -⟩ := H
  exact ⟨⟨_, c.1⟩, md_ob M⟩
/-- a call of both: the same answer, and they go on alike -/
def prI (G : mG) (C Q n : Nat) (MX MY : mD) (d : Nat) (as : List Value) (h : mH) : Prop := EV G MX d 0 0 (.ref C :: as) h (fun r h' => ∃ v, r = some (.int v) ∧ (∃ fs, h' Q = oB 11 fs) ∧ EV G MY d 0 0 (.ref Q :: as) h' (fun r' h'' => r' = some (.int v) ∧ RelX C Q n h''))
def prB (G : mG) (C Q n : Nat) (MX MY : mD) (d : Nat) (as : List Value) (h : mH) : Prop := EV G MX d 0 0 (.ref C :: as) h (fun r h' => ∃ v, r = some (.int (bI v)) ∧ (∃ fs, h' Q = oB 11 fs) ∧ EV G MY d 0 0 (.ref Q :: as) h' (fun r' h'' => r' = some (.int (bI v)) ∧ RelX C Q n h''))
/-- where nothing is written -/
theorem pr_ro {G : mG} {C Q n : Nat} {h : mH} {MX MY : mD} {d : Nat} {as : List Value} {v1 v2 : Int32} (H : RelX C Q n h) (k1 : EV G MX d 0 0 (.ref C :: as) h (RE (some (.int v1)) h)) (k2 : EV G MY d 0 0 (.ref Q :: as) h (RE (some (.int v2)) h)) (e : v1 = v2) : prI G C Q n MX MY d as h := by
  refine ev_mono k1 ?_
  rintro r h' ⟨rfl, rfl⟩
  refine ⟨v1, rfl, (rl_ob H).2, ev_mono k2 ?_⟩
  rintro r h' ⟨rfl, rfl⟩
  exact ⟨by rw [e], H⟩
theorem x_cell {G : mG} {C Q n : Nat} {h : mH} {x w : Int32} (d : Nat) (hd : 20 ≤ d) (hn : n < 40) (hCQ : C + 102 ≤ Q) (H : RelX C Q n h) : prI G C Q n m_X10_cell m_X11_cell d [.int x, .int w] h := by
  have H0 := H
  obtain ⟨p, po, e, eo, y, yo, ln, bt, wr, fk, fp, sp, s, im, fl, f2, fd, c, ⟨⟨m, wd, m0, hm⟩, mw, -⟩, A, -⟩ := H
  refine pr_ro H0 (k_cell d (by omega) (by omega) c) (m_cell d (by omega) m0 mw.1 (by omega)) ?_
  unfold celF
  by_cases k : win x 0 (nI n) = true
  · obtain ⟨u, hu9, rfl⟩ := win_nat (by omega) k
    obtain ⟨e1, e2, e3⟩ := A.1.1 u hu9
    rw [if_pos k, if_pos k, nI_clamp (by omega), e1, e2, e3]
  · rw [if_neg k, if_neg k]
theorem x_layers {G : mG} {C Q n : Nat} {h : mH} {x : Int32} (d : Nat) (hd : 20 ≤ d) (hn : n < 40) (hCQ : C + 102 ≤ Q) (H : RelX C Q n h) : prI G C Q n m_X10_layers m_X11_layers d [.int x] h := by
  have H0 := H
  obtain ⟨p, po, e, eo, y, yo, ln, bt, wr, fk, fp, sp, s, im, fl, f2, fd, c, ⟨⟨m, wd, m0, hm⟩, mw, -⟩, A, -⟩ := H
  refine pr_ro H0 (k_layers d (by omega) (by omega) c) (m_layers d m0 mw.1 (by omega)) ?_
  rw [cnt_ag (n + 1) (fun u hu9 => (A.1.1 u (by omega)).1)]
theorem fsT_ag {f g : Nat → Bool} : ∀ r u, (∀ v, u ≤ v → v < u + r → f v = g v) → fsT f r u = fsT g r u
  | 0, _, _ => rfl
  | r + 1, u, h => by rw [fsT, fsT, h u (Nat.le_refl _) (by omega), fsT_ag r (u + 1) (fun v a b => h v (by omega) (by omega))]
theorem x_at {G : mG} {C Q n : Nat} {h : mH} {x z : Int32} (d : Nat) (hd : 20 ≤ d) (hn : n < 40) (hCQ : C + 102 ≤ Q) (H : RelX C Q n h) : prI G C Q n m_X10_at m_X11_at d [.int x, .int z] h := by
  have H0 := H
  obtain ⟨p, po, e, eo, y, yo, ln, bt, wr, fk, fp, sp, s, im, fl, f2, fd, c, ⟨⟨m, wd, m0, hm⟩, mw, -⟩, A, -⟩ := H
  refine pr_ro H0 (k_at d (by omega) (by omega) c) (m_at d m0 mw.1 (by omega)) ?_
  have e9 : fsT (fun u => decide (s.1 (10 + u) = x) && decide (s.1 (50 + u) = z)) (n + 1) 0 = fsT (fun u => decide (p.2.1 0 u = x) && decide (p.2.1 1 u = z)) (n + 1) 0 := fsT_ag _ _ (fun v _ hv => by
    obtain ⟨e1, e2, -⟩ := A.1.1 v (by omega)
    rw [e1, e2])
  rw [e9]
theorem x_crease {G : mG} {C Q n : Nat} {h : mH} {x w : Int32} (d : Nat) (hd : 20 ≤ d) (hn : n < 40) (hCQ : C + 102 ≤ Q) (H : RelX C Q n h) : prI G C Q n m_X10_crease m_X11_crease d [.int x, .int w] h := by
  have H0 := H
  obtain ⟨p, po, e, eo, y, yo, ln, bt, wr, fk, fp, sp, s, im, fl, f2, fd, c, ⟨⟨m, wd, m0, hm⟩, mw, -⟩, A, -⟩ := H
  refine pr_ro H0 (k_crease d (by omega) (by omega) c) (m_crease d (by omega) m0 mw.1 (by omega)) ?_
  unfold creF
  by_cases k : win x 1 (nI n) = true
  · obtain ⟨u, hu9, rfl⟩ := win1_nat (by omega) k
    obtain ⟨e0, e1, e2, e3, e4, e5⟩ := A.1.2.1 u (by omega)
    have p1 := (A.1.1 u (by omega)).1
    have p2 := (A.1.1 (u + 1) (by omega)).1
    rw [if_pos k, if_pos k, nI_clamp (by omega), Nat.add_sub_cancel, p1, p2]
    by_cases k6 : win w 0 6 = true
    · obtain ⟨v, hv, rfl⟩ := win_nat (m := 6) (by omega) k6
      rw [if_pos k6, nI_clamp (by omega)]
      rcases (show v = 0 ∨ v = 1 ∨ v = 2 ∨ v = 3 ∨ v = 4 ∨ v = 5 ∨ v = 6 by omega) with rfl | rfl | rfl | rfl | rfl | rfl | rfl
      · exact e0.symm
      · exact e1.symm
      · exact e2.symm
      · exact e3.symm
      · exact e4.symm
      · exact e5.symm
      · rfl
    · rw [if_neg k6]
      have ne : ∀ v : Nat, v ≤ 6 → ¬ w = nI v := fun v hv z => k6 (by
        have h6 : ¬ (6 : Int32) < nI v := nI_nlt (a := 6) (b := v) hv (by omega)
        have h0 : ¬ nI v < 0 := nI_pos (by omega)
        rw [z]
        unfold win
        rw [decide_eq_false h0, decide_eq_false h6]
        rfl)
      rw [if_neg (show ¬ w = 0 from ne 0 (by omega)), if_neg (show ¬ w = 1 from ne 1 (by omega)), if_neg (show ¬ w = 2 from ne 2 (by omega)), if_neg (show ¬ w = 3 from ne 3 (by omega)), if_neg (show ¬ w = 4 from ne 4 (by omega)), if_neg (show ¬ w = 5 from ne 5 (by omega)), if_neg (show ¬ w = 6 from ne 6 (by omega))]
  · rw [if_neg k, if_neg k]
