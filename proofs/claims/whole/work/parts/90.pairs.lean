/-! both sides, call by call -/
/-- acts leave the rest -/
theorem Re_o {e : eS} {a a' : Nat → Int32} (h : Re e a) (o : ∀ j, oth j → a' j = a j) : Re e a' := ⟨h.1, (o 4 (by unfold oth; omega)).trans h.2.1, fun i hi r hr => (o _ (by unfold oth; omega)).trans (h.2.2 i hi r hr)⟩
theorem Ry_o {y : yS} {a a' : Nat → Int32} (h : Ry y a) (o : ∀ j, oth j → a' j = a j) : Ry y a' := ⟨h.1, (o 2 (by unfold oth; omega)).trans h.2.1, (o 3 (by unfold oth; omega)).trans h.2.2.1, fun t ht => ⟨(o _ (by unfold oth; omega)).trans (h.2.2.2.1 t ht).1, (o _ (by unfold oth; omega)).trans (h.2.2.2.1 t ht).2⟩, h.2.2.2.2⟩
theorem RA_act {n : Nat} {p p' : pS} {e : eS} {y : yS} {a a' : Nat → Int32} (A : RA n p e y a) (R : Rp n p' a') (I : Ip n p') (o : ∀ j, oth j → a' j = a j) : RA n p' e y a' := ⟨R, I, Re_o A.2.2.1 o, Ry_o A.2.2.2 o⟩
theorem x_rules {G : mG} {C Q n : Nat} {h : mH} {x1 x2 x3 x4 : Int32} (d : Nat) (hd : 20 ≤ d) (hn : n < 40) (hCQ : C + 102 ≤ Q) (H : RelX C Q n h) : prB G C Q n m_X10_rules m_X11_rules d [.int x1, .int x2, .int x3, .int x4] h := by
  obtain ⟨p, po, e, eo, y, yo, ln, bt, wr, fk, fp, sp, s, im, fl, f2, fd, c, M, A, B, hl, hb, hf⟩ := H
  refine ev_mono (k_rules (a := x1) (b := x2) (c := x3) (f := x4) d (by omega) c) ?_
  rintro r h' ⟨rfl, F, c'⟩
  have M' := md_fr (fun j a b => F j (by omega)) M
  have M0 := M'
  obtain ⟨⟨m, wd, m0, hm⟩, mw, -⟩ := M0
  refine ⟨_, rfl, md_ob M', ev_mono (m_rules (n := n) d (by omega) m0 mw.1 (by omega)) ?_⟩
  rintro r h'' ⟨rfl, rfl⟩
  refine ⟨rfl, ?_⟩
  by_cases k : rulB x1 x2 x3 x4 = true
  · rw [if_pos k] at c' ⊢
    refine ⟨_, po, e, eo, y, yo, ln, bt, wr, fk, fp, sp, _, im, fl, f2, fd, cls_fr (fun j a b => hu_n (by omega)) c', md_a _ M', ?_, B, hl, hb, hf⟩
    obtain ⟨⟨R1, R2, r0, r1, r5, r6, r7, r8⟩, ⟨i1, i3, i4, i5, i6⟩, A3, A4⟩ := A
    have o : ∀ j, (j < 5 ∨ 9 ≤ j) → (upd (upd (upd (upd s.1 5 x1) 6 x2) 7 x3) 8 x4) j = s.1 j := fun j hj => by rw [upd_nn (by omega), upd_nn (by omega), upd_nn (by omega), upd_nn (by omega)]
    refine ⟨⟨fun u hu9 => ?_, fun q hq => ?_, ?_, ?_, ?_, ?_, ?_, ?_⟩, ⟨i1, ?_, i4, i5, i6⟩, Re_o A3 (fun j hj => o j (by unfold oth at hj; omega)), Ry_o A4 (fun j hj => o j (by unfold oth at hj; omega))⟩
    · dsimp only
      rw [o _ (by omega), o _ (by omega), o _ (by omega)]
      exact R1 u hu9
    · dsimp only
      rw [o _ (by omega), o _ (by omega), o _ (by omega), o _ (by omega), o _ (by omega), o _ (by omega)]
      exact R2 q hq
    · exact (o 0 (by omega)).trans r0
    · exact (o 1 (by omega)).trans r1
    · show (upd (upd (upd (upd s.1 5 x1) 6 x2) 7 x3) 8 x4) 5 = x1
      rw [upd_nn (by omega), upd_nn (by omega), upd_nn (by omega), upd_ss]
    · show (upd (upd (upd (upd s.1 5 x1) 6 x2) 7 x3) 8 x4) 6 = x2
      rw [upd_nn (by omega), upd_nn (by omega), upd_ss]
    · show (upd (upd (upd (upd s.1 5 x1) 6 x2) 7 x3) 8 x4) 7 = x3
      rw [upd_nn (by omega), upd_ss]
    · show (upd (upd (upd (upd s.1 5 x1) 6 x2) 7 x3) 8 x4) 8 = x4
      exact upd_ss
    · show 0 ≤ x4
      unfold rulB at k
      simp only [Bool.and_eq_true] at k
      obtain ⟨v, _, _, rfl⟩ := win_28 (lo := 1) (hi := 40) k.2 (by omega) (by omega)
      exact nI_pos' (by omega)
  · rw [if_neg k] at c' ⊢
    exact ⟨p, po, e, eo, y, yo, ln, bt, wr, fk, fp, sp, s, im, fl, f2, fd, c', M', A, B, hl, hb, hf⟩
theorem x_fold {G : mG} {C Q n : Nat} {h : mH} {x : Int32} {right : Bool} (d : Nat) (hd : 20 ≤ d) (hn : n < 40) (hCQ : C + 102 ≤ Q) (H : RelX C Q n h) : prI G C Q n m_X10_fold m_X11_fold d [.int x, .int (bI right)] h := by
  obtain ⟨p, po, e, eo, y, yo, ln, bt, wr, fk, fp, sp, s, im, fl, f2, fd, c, M, A, B, hl, hb, hf⟩ := H
  refine ev_mono (k_fold d (by omega) (by omega) c) ?_
  rintro r h' ⟨rfl, F, c'⟩
  have M' := md_fr (fun j a b => F j (by omega)) M
  have M0 := M'
  obtain ⟨⟨m, wd, m0, hm⟩, mw, m2, m4, mX⟩ := M0
  obtain ⟨f1, f3, f4⟩ := R_fold (x := x) (right := right) (l := s.2) hn A.1 A.2.1
  refine ⟨_, rfl, md_ob M', ev_mono (m_fold (n := n) d (by omega) m0 mw.1 (by omega) mw.2) ?_⟩
  rintro r h'' ⟨rfl, rfl⟩
  refine ⟨by rw [← f1]; rfl, ?_⟩
  by_cases k : agF n x right s.1 < 0
  · rw [f3 k] at c'
    rw [if_pos k]
    exact ⟨p, po, e, eo, y, yo, ln, bt, wr, fk, fp, sp, s, im, fl, f2, fd, c', M', A, B, hl, hb, hf⟩
  · obtain ⟨g1, g2⟩ := f4 k
    rw [if_neg k]
    refine ⟨_, po, e, eo, y, yo, ln, bt, wr, fk, fp, sp, (fldA n x right s.1 s.2, flL n x right s.1 s.2), im, fl, f2, fd, cls_fr (fun j a b => by rw [hu_n (by omega), hu_n (by omega)]) c', ?_, RA_act A g1 g2 (fun j hj => oth_fd hn hj), B, hl, hb, hf⟩
    have M1 := md_a (fldA n x right s.1 s.2) M'
    obtain ⟨⟨m9, wd9, a0, am⟩, aw, a2, a4, aX⟩ := M1
    have hh : ∀ j, j ≠ Q + 3 → (hu (hu h' (Q + 3) (aI 40 (flL n x right s.1 s.2))) (Q + 1) (aI 600 (fldA n x right s.1 s.2))) j = (hu h' (Q + 1) (aI 600 (fldA n x right s.1 s.2))) j := fun j hj => by
      by_cases c9 : j = Q + 1
      · subst c9; rw [hu_s, hu_s]
      · rw [hu_n c9, hu_n c9, hu_n hj]
    refine ⟨⟨m9, wd9, (hh _ (by omega)).trans a0, am⟩, ⟨(hh _ (by omega)).trans aw.1, (hu_n (by omega)).trans hu_s⟩, (hh _ (by omega)).trans a2, (hh _ (by omega)).trans a4, ?_⟩
    obtain ⟨⟨x5, k5⟩, ⟨x6, k6⟩, ⟨x7, k7⟩, ⟨x8, k8⟩, ⟨x9, k9⟩, ⟨x10, k10⟩, ⟨x11, k11⟩, ⟨x12, k12⟩, ⟨⟨x13, k13⟩, ⟨x14, k14⟩, ⟨x15, k15⟩, ⟨x16, k16⟩⟩, ⟨x17, k17⟩⟩ := aX
    exact ⟨⟨_, (hh _ (by omega)).trans k5⟩, ⟨_, (hh _ (by omega)).trans k6⟩, ⟨_, (hh _ (by omega)).trans k7⟩, ⟨_, (hh _ (by omega)).trans k8⟩, ⟨_, (hh _ (by omega)).trans k9⟩, ⟨_, (hh _ (by omega)).trans k10⟩, ⟨_, (hh _ (by omega)).trans k11⟩, ⟨_, (hh _ (by omega)).trans k12⟩, ⟨⟨_, (hh _ (by omega)).trans k13⟩, ⟨_, (hh _ (by omega)).trans k14⟩, ⟨_, (hh _ (by omega)).trans k15⟩, ⟨_, (hh _ (by omega)).trans k16⟩⟩, ⟨_, (hh _ (by omega)).trans k17⟩⟩
theorem x_hold {G : mG} {C Q n : Nat} {h : mH} {x : Int32} (d : Nat) (hd : 20 ≤ d) (hn : n < 40) (hCQ : C + 102 ≤ Q) (H : RelX C Q n h) : prI G C Q n m_X10_hold m_X11_hold d [.int x] h := by
  obtain ⟨p, po, e, eo, y, yo, ln, bt, wr, fk, fp, sp, s, im, fl, f2, fd, c, M, A, B, hl, hb, hf⟩ := H
  refine ev_mono (k_hold (x := x) d (by omega) (by omega) c) ?_
  rintro r h' ⟨rfl, F, c'⟩
  have M' := md_fr (fun j a b => F j (by omega)) M
  have M0 := M'
  obtain ⟨⟨m, wd, m0, hm⟩, mw, -⟩ := M0
  obtain ⟨f1, f3, f4⟩ := R_hold (x := x) hn A.1 A.2.1
  refine ⟨_, rfl, md_ob M', ev_mono (m_hold (n := n) (x := x) d (by omega) m0 mw.1 (by omega)) ?_⟩
  rintro r h'' ⟨rfl, rfl⟩
  rw [← f1]
  cases k : (hldP n x p).1 with
  | false =>
    rw [f4 k] at c'
    refine ⟨rfl, ?_⟩
    rw [if_neg (by decide)]
    exact ⟨p, po, e, eo, y, yo, ln, bt, wr, fk, fp, sp, s, im, fl, f2, fd, c', M', A, B, hl, hb, hf⟩
  | true =>
    obtain ⟨g1, g2, g3⟩ := f3 k
    rw [if_pos rfl, if_pos rfl, if_pos rfl]
    refine ⟨by rw [g1.2.2.1], ?_⟩
    exact ⟨_, po, e, eo, y, yo, ln, bt, wr, fk, fp, sp, _, im, fl, f2, fd, cls_fr (fun j a b => hu_n (by omega)) c', md_a _ M', RA_act A g1 g2 (fun j hj => oth_pa hn hj), B, hl, hb, hf⟩
theorem x_open {G : mG} {C Q n : Nat} {h : mH} (d : Nat) (hd : 20 ≤ d) (hn : n < 40) (hCQ : C + 102 ≤ Q) (H : RelX C Q n h) : prI G C Q n m_X10_open m_X11_open d [] h := by
  obtain ⟨p, po, e, eo, y, yo, ln, bt, wr, fk, fp, sp, s, im, fl, f2, fd, c, M, A, B, hl, hb, hf⟩ := H
  refine ev_mono (k_open d (by omega) (by omega) c) ?_
  rintro r h' ⟨rfl, F, c'⟩
  have M' := md_fr (fun j a b => F j (by omega)) M
  have M0 := M'
  obtain ⟨⟨m, wd, m0, hm⟩, mw, -⟩ := M0
  obtain ⟨f1, f3, f4⟩ := R_open hn A.1 A.2.1
  refine ⟨_, rfl, md_ob M', ev_mono (m_open (n := n) d (by omega) m0 mw.1 (by omega)) ?_⟩
  rintro r h'' ⟨rfl, rfl⟩
  by_cases k : s.1 0 = 100000
  · rw [decide_eq_true k] at f1
    rw [f4 f1] at c'
    rw [if_pos k, if_pos k, f1]
    refine ⟨rfl, ?_⟩
    exact ⟨p, po, e, eo, y, yo, ln, bt, wr, fk, fp, sp, s, im, fl, f2, fd, c', M', A, B, hl, hb, hf⟩
  · rw [decide_eq_false k] at f1
    obtain ⟨g1, g2, g3⟩ := f3 f1
    rw [if_neg k, if_neg k, f1]
    refine ⟨by rw [g1.2.2.1]; rfl, ?_⟩
    exact ⟨_, po, e, eo, y, yo, ln, bt, wr, fk, fp, sp, _, im, fl, f2, fd, cls_fr (fun j a b => hu_n (by omega)) c', md_a _ M', RA_act A g1 g2 (fun j hj => (oth_pa hn hj).trans (oth_fl (by omega) hj)), B, hl, hb, hf⟩
