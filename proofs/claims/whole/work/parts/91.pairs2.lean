/-! both sides: tape, texts, sheets -/
theorem md_t {h : mH} {Q n : Nat} {s : mS} {im : Nat → Int32} {L : Nat} {t : Nat → Int32} {fl fp fd : Int32} {m : Nat → Int32} {wd : Int64} (L' : Nat) (t' : Nat → Int32) (H : mdP h Q n s im L t fl fp fd) (hQ : h Q = oMod Q (nI (n + 1)) m wd) (hm : m 1 = fl ∧ m 2 = fp ∧ m 3 = fd) : mdP (hu (hu h (Q + 4) (aI 300 t')) Q (oMod Q (nI (n + 1)) (upd m 0 (nI L')) wd)) Q n s im L' t' fl fp fd := by
  obtain ⟨-, hw, h2, h4, ⟨x5, k5⟩, ⟨x6, k6⟩, ⟨x7, k7⟩, ⟨x8, k8⟩, ⟨x9, k9⟩, ⟨x10, k10⟩, ⟨x11, k11⟩, ⟨x12, k12⟩, ⟨⟨x13, k13⟩, ⟨x14, k14⟩, ⟨x15, k15⟩, ⟨x16, k16⟩⟩, ⟨x17, k17⟩⟩ := H
  have o : ∀ j, j ≠ Q → j ≠ Q + 4 → (hu (hu h (Q + 4) (aI 300 t')) Q (oMod Q (nI (n + 1)) (upd m 0 (nI L')) wd)) j = h j := fun j a b => by rw [hu_n a, hu_n b]
  exact ⟨⟨_, _, hu_s, rfl, hm.1, hm.2.1, hm.2.2⟩, ⟨(o _ (by omega) (by omega)).trans hw.1, (o _ (by omega) (by omega)).trans hw.2⟩, (o _ (by omega) (by omega)).trans h2, (hu_n (by omega)).trans hu_s, ⟨_, (o _ (by omega) (by omega)).trans k5⟩, ⟨_, (o _ (by omega) (by omega)).trans k6⟩, ⟨_, (o _ (by omega) (by omega)).trans k7⟩, ⟨_, (o _ (by omega) (by omega)).trans k8⟩, ⟨_, (o _ (by omega) (by omega)).trans k9⟩, ⟨_, (o _ (by omega) (by omega)).trans k10⟩, ⟨_, (o _ (by omega) (by omega)).trans k11⟩, ⟨_, (o _ (by omega) (by omega)).trans k12⟩, ⟨⟨_, (o _ (by omega) (by omega)).trans k13⟩, ⟨_, (o _ (by omega) (by omega)).trans k14⟩, ⟨_, (o _ (by omega) (by omega)).trans k15⟩, ⟨_, (o _ (by omega) (by omega)).trans k16⟩⟩, ⟨_, (o _ (by omega) (by omega)).trans k17⟩⟩
theorem x_feed {G : mG} {C Q n : Nat} {h : mH} {x1 x2 x3 x4 x5 : Int32} (d : Nat) (hd : 20 ≤ d) (hn : n < 40) (hCQ : C + 102 ≤ Q) (H : RelX C Q n h) : prI G C Q n m_X10_feed m_X11_feed d [.int x1, .int x2, .int x3, .int x4, .int x5] h := by
  obtain ⟨p, po, e, eo, y, yo, ln, bt, wr, fk, fp, sp, s, im, fl, f2, fd, c, M, A, B, hl, hb, hf⟩ := H
  refine ev_mono (k_feed d (by omega) hl c) ?_
  rintro r h' ⟨rfl, F, c'⟩
  have M' := md_fr (fun j a b => F j (by omega)) M
  have M0 := M'
  obtain ⟨⟨m, wd, m0, hm0, hm⟩, mw, m2, m4, mX⟩ := M0
  refine ⟨_, rfl, md_ob M', ev_mono (m_feed (n := n) d (by omega) m0 m4 hm0 hl) ?_⟩
  rintro r h'' ⟨rfl, rfl⟩
  refine ⟨rfl, ?_⟩
  by_cases k : ln + 20 ≤ 300
  · rw [if_pos k] at c' ⊢
    rw [if_pos k] at c'
    rw [f20_g20]
    exact ⟨p, po, e, eo, y, yo, ln + 20, _, wr, fk, fp, sp, s, im, fl, f2, fd, cls_fr (fun j a b => by rw [hu_n (by omega), hu_n (by omega)]) c', md_t _ _ M' m0 hm, A, B, k, g20_p hb, hf⟩
  · rw [if_neg k] at c' ⊢
    rw [if_neg k] at c'
    exact ⟨p, po, e, eo, y, yo, ln, bt, wr, fk, fp, sp, s, im, fl, f2, fd, c', M', A, B, hl, hb, hf⟩
theorem x_end {G : mG} {C Q n : Nat} {h : mH} {x : Int32} (d : Nat) (hd : 20 ≤ d) (hn : n < 40) (hCQ : C + 102 ≤ Q) (H : RelX C Q n h) : prI G C Q n m_X10_end m_X11_end d [.int x] h := by
  obtain ⟨p, po, e, eo, y, yo, ln, bt, wr, fk, fp, sp, s, im, fl, f2, fd, c, M, A, B, hl, hb, hf⟩ := H
  refine ev_mono (k_end d (by omega) hl c) ?_
  rintro r h' ⟨rfl, F, c'⟩
  have M' := md_fr (fun j a b => F j (by omega)) M
  have M0 := M'
  obtain ⟨⟨m, wd, m0, hm0, hm⟩, mw, m2, m4, mX⟩ := M0
  refine ⟨_, rfl, md_ob M', ev_mono (m_end (n := n) (L := 0) (t := fun _ => 0) d (by omega) m0) ?_⟩
  rintro r h'' ⟨rfl, rfl⟩
  rw [hm0]
  refine ⟨rfl, ?_⟩
  by_cases k : win x 0 (nI ln) = true
  · rw [if_pos k] at c' ⊢
    obtain ⟨u, hu9, rfl⟩ := win_nat (by omega) k
    rw [nI_clamp (by omega)] at c'
    have q := md_t u bt M' m0 hm
    rw [show hu h' (Q + 4) (aI 300 bt) = h' from by rw [← m4]; exact hu_same] at q
    exact ⟨p, po, e, eo, y, yo, u, bt, wr, fk, fp, sp, s, im, fl, f2, fd, cls_fr (fun j a b => hu_n (by omega)) c', q, A, B, by omega, hb, hf⟩
  · rw [if_neg k] at c' ⊢
    exact ⟨p, po, e, eo, y, yo, ln, bt, wr, fk, fp, sp, s, im, fl, f2, fd, c', M', A, B, hl, hb, hf⟩
theorem x_hands {G : mG} {C Q n : Nat} {h : mH} (hST : ∀ U, gI G U → sOK G U) (d : Nat) (hd : 20 ≤ d) (hn : n < 40) (hCQ : C + 102 ≤ Q) (H : RelX C Q n h) : prI G C Q n m_X10_hands m_X11_hands d [] h := by
  obtain ⟨p, po, e, eo, y, yo, ln, bt, wr, fk, fp, sp, s, im, fl, f2, fd, c, M, A, B, hl, hb, hf⟩ := H
  obtain ⟨r0, r1, k⟩ := k_hands (G := G) d (by omega) hST hl (by omega) c
  obtain ⟨l, hF⟩ := rdF_FL (t := bt) (L := ln) (r0 := r0) (r1 := r1)
  refine ev_mono (k l hF) ?_
  rintro r h' ⟨v, rfl, F, z1, z2⟩
  have M' := md_fr (fun j a b => F j (by omega)) M
  refine ⟨v, rfl, md_ob M', ev_mono (m_hands d (by omega) (by omega) hl (fun i _ => hb i) M' r0 r1 l hF) ?_⟩
  rintro r h'' ⟨v2, rfl, F2, w1, w2⟩
  have ff : ∀ j, C ≤ j → j < C + 102 → h'' j = h' j := fun j a b => F2 j (by omega)
  cases er : rdF bt ln 301 ((0, 0, 0), r0, r1) with
  | inl fq =>
    obtain ⟨f, q⟩ := fq
    obtain ⟨rfl, c'⟩ := z1 f q er
    obtain ⟨rfl, M2⟩ := w1 f q er
    exact ⟨rfl, p, po, e, eo, y, yo, 0, bt, true, f, nI q, -1, s, im, f, nI q, -1, cls_fr ff c', M2, A, B, by omega, hb, .inr ⟨rfl, rfl, rfl, rfl⟩⟩
  | inr t =>
    obtain ⟨rfl, c'⟩ := z2 t er
    obtain ⟨rfl, M2⟩ := w2 t er
    obtain ⟨k1, k2, k3, k4, k5⟩ := R_ex (vb := t.2.1.1) (nu := t.2.1.2.1) (tr := t.2.1.2.2) hn l 0 p s A.1 A.2.1
    rw [← k1] at M2
    refine ⟨by rw [k2], _, po, e, eo, y, yo, 0, bt, true, 0, -1, _, _, im, 0, -1, _, cls_fr ff c', M2, RA_act A k3 k4 k5, B, by omega, hb, .inr ⟨rfl, rfl, rfl, rfl⟩⟩
theorem x_fault {G : mG} {C Q n : Nat} {h : mH} {x : Int32} (d : Nat) (hd : 20 ≤ d) (hn : n < 40) (hCQ : C + 102 ≤ Q) (H : RelX C Q n h) : prI G C Q n m_X10_fault m_X11_fault d [.int x] h := by
  have H0 := H
  obtain ⟨p, po, e, eo, y, yo, ln, bt, wr, fk, fp, sp, s, im, fl, f2, fd, c, M, A, B, hl, hb, hf⟩ := H
  obtain ⟨⟨m, wd, m0, hm0, e1, e2, e3⟩, mw, m2, m4, mX⟩ := M
  refine pr_ro H0 (k_fault d c) (m_fault (a := fun _ => 0) d m0) ?_
  rcases hf with ⟨rfl, rfl, rfl, rfl⟩ | ⟨rfl, rfl, rfl, rfl⟩
  · rw [if_neg (by decide), e1, e2, e3]
    (repeat' split) <;> rfl
  · rw [if_pos rfl, e1, e2, e3]
theorem x_about {G : mG} {C Q n : Nat} {h : mH} {x : Int32} (d : Nat) (hd : 20 ≤ d) (hn : n < 40) (hCQ : C + 102 ≤ Q) (H : RelX C Q n h) : prI G C Q n m_X10_about m_X11_about d [.int x] h := by
  have H0 := H
  obtain ⟨p, po, e, eo, y, yo, ln, bt, wr, fk, fp, sp, s, im, fl, f2, fd, c, M, A, B, hl, hb, hf⟩ := H
  obtain ⟨⟨m, wd, m0, hm0, e1, e2, e3⟩, mw, m2, m4, mX⟩ := M
  refine pr_ro H0 (k_about d (by omega) (by omega) c) (m_about d (by omega) m0 mw.1 (by omega)) ?_
  obtain ⟨⟨R1, R2, r0, r1, r5, r6, r7, r8⟩, I, A3, A4⟩ := A
  unfold aboF
  have g3 : cnb (fun j => decide (0 < s.1 (130 + 6 * (j + 1) + 0))) n = cnb (fun j => !decide (p.2.1 2 (j + 1) = 0)) n := cnb_ag n (fun j hj => by
    have e := (R2 j hj).1
    show decide (0 < s.1 (130 + 6 * (j + 1))) = _
    rw [e]
    rcases I.2.2.2.2 j hj with k | k | k <;> rw [k] <;> rfl)
  have g4 : cnb (fun j => decide (0 < s.1 (130 + 6 * (j + 1) + 5))) n = cnb (fun j => p.2.2 1 (j + 1)) n := cnb_ag n (fun j hj => by
    rw [(R2 j hj).2.2.2.2.2]
    cases p.2.2 1 (j + 1) <;> rfl)
  have g9 : mnF (fun u => s.1 (10 + u)) (n + 1) = mnF (p.2.1 0) (n + 1) := mnF_ag _ (by omega) (fun u hu9 => (R1 u (by omega)).1)
  have g10 : mxF (fun u => s.1 (10 + u)) (n + 1) = mxF (p.2.1 0) (n + 1) := mxF_ag _ (by omega) (fun u hu9 => (R1 u (by omega)).1)
  rw [g3, g4, g9, g10, r0, r1, A4.2.1, A4.2.2.1, A3.2.1, hm0]
theorem Re_add {e : eS} {a : Nat → Int32} {x1 x2 x3 x4 x5 : Int32} (R : Re e a) (h6 : e.1 < 6) : Re (addS x1 x2 x3 x4 x5 e) (sheA e.1 x1 x2 x3 x4 x5 a) := by
  obtain ⟨r1, r2, r3⟩ := R
  refine ⟨by show e.1 + 1 ≤ 6; omega, upd_ss, fun i hi r hr => ?_⟩
  unfold sheA
  rw [upd_nn (by omega)]
  by_cases c : i = e.1
  · subst c
    rcases (show r = 0 ∨ r = 1 ∨ r = 2 ∨ r = 3 ∨ r = 4 by omega) with rfl | rfl | rfl | rfl | rfl
    · rw [upd_nn (by omega), upd_nn (by omega), upd_nn (by omega), upd_nn (by omega), Nat.add_zero, upd_ss]
      exact upd_ss.symm
    · rw [upd_nn (by omega), upd_nn (by omega), upd_nn (by omega), upd_ss]
      exact upd_ss.symm
    · rw [upd_nn (by omega), upd_nn (by omega), upd_ss]
      exact upd_ss.symm
    · rw [upd_nn (by omega), upd_ss]
      exact upd_ss.symm
    · rw [upd_ss]
      exact upd_ss.symm
  · rw [upd_nn (by omega), upd_nn (by omega), upd_nn (by omega), upd_nn (by omega), upd_nn (by omega), r3 i hi r hr]
    rcases (show r = 0 ∨ r = 1 ∨ r = 2 ∨ r = 3 ∨ r = 4 by omega) with rfl | rfl | rfl | rfl | rfl <;> exact (upd_nn c).symm
theorem Rp_o {n : Nat} {p : pS} {a a' : Nat → Int32} (hn : n < 40) (R : Rp n p a) (o : ∀ j, (j < 2 ∨ (5 ≤ j ∧ j < 370)) → a' j = a j) : Rp n p a' := by
  obtain ⟨R1, R2, r0, r1, r5, r6, r7, r8⟩ := R
  refine ⟨fun u hu9 => ?_, fun q hq => ?_, (o _ (by omega)).trans r0, (o _ (by omega)).trans r1, (o _ (by omega)).trans r5, (o _ (by omega)).trans r6, (o _ (by omega)).trans r7, (o _ (by omega)).trans r8⟩
  · rw [o _ (by omega), o _ (by omega), o _ (by omega)]; exact R1 u hu9
  · rw [o _ (by omega), o _ (by omega), o _ (by omega), o _ (by omega), o _ (by omega), o _ (by omega)]; exact R2 q hq
theorem x_sheet {G : mG} {C Q n : Nat} {h : mH} {x1 x2 x3 x4 x5 : Int32} (d : Nat) (hd : 20 ≤ d) (hn : n < 40) (hCQ : C + 102 ≤ Q) (H : RelX C Q n h) : prI G C Q n m_X10_sheet m_X11_sheet d [.int x1, .int x2, .int x3, .int x4, .int x5] h := by
  obtain ⟨p, po, e, eo, y, yo, ln, bt, wr, fk, fp, sp, s, im, fl, f2, fd, c, M, A, B, hl, hb, hf⟩ := H
  refine ev_mono (k_sheet (k := x1) (r := x2) (b := x3) (m := x4) (q := x5) d (by omega) A.2.2.1.1 c) ?_
  rintro r h' ⟨rfl, F, c'⟩
  have M' := md_fr (fun j a b => F j (by omega)) M
  have M0 := M'
  obtain ⟨⟨m, wd, m0, hm⟩, mw, -⟩ := M0
  refine ⟨_, rfl, md_ob M', ev_mono (m_sheet (n := n) d (by omega) A.2.2.1.2.1 A.2.2.1.1 m0 mw.1 (by omega)) ?_⟩
  rintro r h'' ⟨rfl, rfl⟩
  have eT : sheT x1 x2 x3 x4 x5 e.1 = (shB x1 x2 x3 x4 x5 && decide (e.1 < 6)) := by
    unfold sheT shB
    have : (!decide (e.1 = 6)) = decide (e.1 < 6) := by
      have := A.2.2.1.1
      by_cases k : e.1 = 6
      · rw [decide_eq_true k, decide_eq_false (by omega)]; rfl
      · rw [decide_eq_false k, decide_eq_true (by omega)]; rfl
    rw [this]
    simp only [Bool.and_assoc]
  rw [eT]
  have no : clsP h' C n p po e eo y yo ln bt wr fk fp sp → RelX C Q n h' := fun c9 => ⟨p, po, e, eo, y, yo, ln, bt, wr, fk, fp, sp, s, im, fl, f2, fd, c9, M', A, B, hl, hb, hf⟩
  by_cases k : shB x1 x2 x3 x4 x5 = true
  · rw [if_pos k] at c' ⊢
    by_cases k6 : e.1 < 6
    · rw [if_pos k6] at c' ⊢
      rw [k, decide_eq_true k6, Bool.and_self, if_pos rfl, if_pos rfl]
      refine ⟨rfl, p, po, _, eo, y, yo, ln, bt, wr, fk, fp, sp, _, im, fl, f2, fd, cls_fr (fun j a b => hu_n (by omega)) c', md_a _ M', ?_, B, hl, hb, hf⟩
      have o : ∀ j, (j < 4 ∨ (5 ≤ j ∧ j < 570)) → sheA e.1 x1 x2 x3 x4 x5 s.1 j = s.1 j := fun j hj => by
        unfold sheA
        rw [upd_nn (by omega), upd_nn (by omega), upd_nn (by omega), upd_nn (by omega), upd_nn (by omega), upd_nn (by omega)]
      obtain ⟨A1, A2, A3, A4⟩ := A
      exact ⟨Rp_o hn A1 (fun j hj => o j (by omega)), A2, Re_add A3 k6, ⟨A4.1, (o 2 (by omega)).trans A4.2.1, (o 3 (by omega)).trans A4.2.2.1, fun t ht => ⟨(o _ (by omega)).trans (A4.2.2.2.1 t ht).1, (o _ (by omega)).trans (A4.2.2.2.1 t ht).2⟩, A4.2.2.2.2⟩⟩
    · rw [if_neg k6] at c' ⊢
      rw [decide_eq_false k6, Bool.and_false, if_neg (by decide), if_neg (by decide)]
      exact ⟨rfl, no c'⟩
  · rw [if_neg k] at c' ⊢
    rw [Bool.eq_false_iff.mpr k, Bool.false_and, if_neg (by decide), if_neg (by decide)]
    exact ⟨rfl, no c'⟩
