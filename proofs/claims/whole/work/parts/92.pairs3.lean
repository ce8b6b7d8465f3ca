/-! both sides: shapes, ways, what was seen, images -/
theorem tq_eq {e : eS} {a : Nat → Int32} {i : Nat} (R : Re e a) (hi : i < 6) (x : Int32) : tqF e i x = tqM a i x := by
  have e0 : a (570 + 5 * i) = e.2 0 i := R.2.2 i hi 0 (by omega)
  unfold tqF tqM
  rw [e0, R.2.2 i hi 1 (by omega), R.2.2 i hi 2 (by omega), R.2.2 i hi 3 (by omega), R.2.2 i hi 4 (by omega), Int64.toInt32_add, Int64.toInt32_mul, Int32.toInt32_toInt64, Int32.toInt32_toInt64]
theorem tb_eq {e : eS} {a : Nat → Int32} {i : Nat} (R : Re e a) (hi : i < 6) : tqA e i = tbM a i := by
  funext j
  exact tq_eq R hi _
theorem hs_eq {e : eS} {a : Nat → Int32} (R : Re e a) (x : Int32) : hasB (nI e.1) x = win x 0 (a 4 - 1) := by
  rw [R.2.1]
  have h6 := R.1
  unfold hasB win
  by_cases c : x < 0
  · rw [decide_eq_true c]; rfl
  · rw [decide_eq_false c]
    obtain ⟨j, hj, rfl⟩ := nI_of c
    refine congrArg (!false && ·) ?_
    by_cases k0 : e.1 = 0
    · rw [k0, decide_eq_true (nI_le (Nat.zero_le j) hj), decide_eq_true (Int32.lt_of_lt_of_le (show nI 0 - 1 < 0 by decide) (nI_pos' hj))]
    · obtain ⟨v, hv⟩ : ∃ v, e.1 = v + 1 := ⟨e.1 - 1, by omega⟩
      rw [hv, nI_pred]
      by_cases k : v + 1 ≤ j
      · rw [decide_eq_true (nI_le k hj), decide_eq_true (nI_lt (by omega) hj)]
      · rw [decide_eq_false (nI_ge (by omega) (by omega)), decide_eq_false (nI_nlt (by omega) (by omega))]
theorem hs_i {e : eS} {a : Nat → Int32} {x : Int32} (R : Re e a) (h : win x 0 (a 4 - 1) = true) : ∃ i, i < 6 ∧ x = nI i := sh_of R.2.1 R.1 h
theorem x_torque {G : mG} {C Q n : Nat} {h : mH} {x z : Int32} (d : Nat) (hd : 20 ≤ d) (hn : n < 40) (hCQ : C + 102 ≤ Q) (H : RelX C Q n h) : prI G C Q n m_X10_torque m_X11_torque d [.int x, .int z] h := by
  have H0 := H
  obtain ⟨p, po, e, eo, y, yo, ln, bt, wr, fk, fp, sp, s, im, fl, f2, fd, c, M, A, B, hl, hb, hf⟩ := H
  obtain ⟨⟨m, wd, m0, hm⟩, mw, -⟩ := M
  refine pr_ro H0 (k_torque d (by omega) A.2.2.1.1 c) (m_torque (sh := 0) (n := n) d (by omega) A.2.2.1.2.1 A.2.2.1.1 m0 mw.1 (by omega)) ?_
  rw [hs_eq A.2.2.1]
  by_cases k : win x 0 (s.1 4 - 1) = true
  · obtain ⟨i, hi, rfl⟩ := hs_i A.2.2.1 k
    rw [if_pos k, k, Bool.true_and, nI_clamp (by omega), tq_eq A.2.2.1 hi]
  · rw [if_neg k, Bool.eq_false_iff.mpr k, Bool.false_and, if_neg (by decide)]
/-- where the class alone writes, and only for itself -/
theorem pr_ro2 {G : mG} {C Q n : Nat} {h : mH} {MX MY : mD} {d : Nat} {as : List Value} {v1 v2 : Int32} {p po : pS} {e eo : eS} {y yo : yS} {ln : Nat} {bt : Nat → Int32} {wr : Bool} {fk fp sp : Int32} {s : mS} {im : Nat → Int32} {fl f2 fd : Int32} (hCQ : C + 102 ≤ Q) (M : mdP h Q n s im ln bt fl f2 fd) (A : RA n p e y s.1) (B : RA n po eo yo im) (hl : ln ≤ 300) (hb : ∀ i, 0 ≤ bt i) (hf : Rf wr fk fp sp fl f2 fd) (k1 : EV G MX d 0 0 (.ref C :: as) h (fun r h' => r = some (.int v1) ∧ frm h h' C (C + 102) ∧ clsP h' C n p po e eo y yo ln bt wr fk fp sp)) (k2 : ∀ h', mdP h' Q n s im ln bt fl f2 fd → EV G MY d 0 0 (.ref Q :: as) h' (fun r h'' => r = some (.int v2) ∧ frm h' h'' Q (Q + 18) ∧ mdP h'' Q n s im ln bt fl f2 fd)) (e9 : v1 = v2) : prI G C Q n MX MY d as h := by
  refine ev_mono k1 ?_
  rintro r h' ⟨rfl, F, c'⟩
  refine ⟨v1, rfl, md_ob (md_fr (fun j a b => F j (by omega)) M), ev_mono (k2 h' (md_fr (fun j a b => F j (by omega)) M)) ?_⟩
  rintro r h'' ⟨rfl, F2, M2⟩
  exact ⟨by rw [e9], p, po, e, eo, y, yo, ln, bt, wr, fk, fp, sp, s, im, fl, f2, fd, cls_fr (fun j a b => F2 j (by omega)) c', M2, A, B, hl, hb, hf⟩
theorem re_md {G : mG} {Q n : Nat} {h : mH} {MY : mD} {d : Nat} {as : List Value} {v : Int32} {s : mS} {im : Nat → Int32} {L : Nat} {t : Nat → Int32} {fl f2 fd : Int32} (M : mdP h Q n s im L t fl f2 fd) (k : EV G MY d 0 0 as h (RE (some (.int v)) h)) : EV G MY d 0 0 as h (fun r h'' => r = some (.int v) ∧ frm h h'' Q (Q + 18) ∧ mdP h'' Q n s im L t fl f2 fd) := by
  refine ev_mono k ?_
  rintro r h' ⟨rfl, rfl⟩
  exact ⟨rfl, frm_rf, M⟩
theorem x_rests {G : mG} {C Q n : Nat} {h : mH} {x z i : Int32} (d : Nat) (hd : 20 ≤ d) (hn : n < 40) (hCQ : C + 102 ≤ Q) (H : RelX C Q n h) : prI G C Q n m_X10_rests m_X11_rests d [.int x, .int z, .int i] h := by
  obtain ⟨p, po, e, eo, y, yo, ln, bt, wr, fk, fp, sp, s, im, fl, f2, fd, c, M, A, B, hl, hb, hf⟩ := H
  refine pr_ro2 hCQ M A B hl hb hf (k_rests d (by omega) A.2.2.1.1 c) (fun h' M' => by
    have M0 := M'
    obtain ⟨⟨m, wd, m0, hm⟩, mw, -⟩ := M0
    exact re_md M' (m_rests (sh := 0) (n := n) d (by omega) A.2.2.1.2.1 A.2.2.1.1 m0 mw.1 (by omega))) ?_
  unfold resF
  rw [hs_eq A.2.2.1, Bool.and_assoc]
  by_cases k : win x 0 (s.1 4 - 1) = true
  · obtain ⟨j, hj, rfl⟩ := hs_i A.2.2.1 k
    rw [nI_clamp (by omega), tb_eq A.2.2.1 hj]
  · rw [Bool.eq_false_iff.mpr k, Bool.false_and, if_neg (by decide), if_neg (by decide)]
theorem x_stays {G : mG} {C Q n : Nat} {h : mH} {x z i : Int32} (d : Nat) (hd : 20 ≤ d) (hn : n < 40) (hCQ : C + 102 ≤ Q) (H : RelX C Q n h) : prI G C Q n m_X10_stays m_X11_stays d [.int x, .int z, .int i] h := by
  obtain ⟨p, po, e, eo, y, yo, ln, bt, wr, fk, fp, sp, s, im, fl, f2, fd, c, M, A, B, hl, hb, hf⟩ := H
  refine pr_ro2 hCQ M A B hl hb hf (k_stays d (by omega) A.2.2.1.1 c) (fun h' M' => by
    have M0 := M'
    obtain ⟨⟨m, wd, m0, hm⟩, mw, -⟩ := M0
    exact re_md M' (m_stays (sh := 0) (n := n) d (by omega) A.2.2.1.2.1 A.2.2.1.1 m0 mw.1 (by omega))) ?_
  unfold staF
  rw [hs_eq A.2.2.1, Bool.and_assoc]
  by_cases k : win x 0 (s.1 4 - 1) = true
  · obtain ⟨j, hj, rfl⟩ := hs_i A.2.2.1 k
    rw [nI_clamp (by omega), tb_eq A.2.2.1 hj]
  · rw [Bool.eq_false_iff.mpr k, Bool.false_and, if_neg (by decide), if_neg (by decide)]
theorem x_snap {G : mG} {C Q n : Nat} {h : mH} {x a q t w : Int32} (d : Nat) (hd : 20 ≤ d) (hn : n < 40) (hCQ : C + 102 ≤ Q) (H : RelX C Q n h) : prI G C Q n m_X10_snap m_X11_snap d [.int x, .int a, .int q, .int t, .int w] h := by
  obtain ⟨p, po, e, eo, y, yo, ln, bt, wr, fk, fp, sp, s, im, fl, f2, fd, c, M, A, B, hl, hb, hf⟩ := H
  refine pr_ro2 hCQ M A B hl hb hf (k_snap d (by omega) A.2.2.1.1 c) (fun h' M' => by
    have M0 := M'
    obtain ⟨⟨m, wd, m0, hm⟩, mw, -⟩ := M0
    exact re_md M' (m_snap (sh := 0) (n := n) d (by omega) A.2.2.1.2.1 A.2.2.1.1 m0 mw.1 (by omega))) ?_
  unfold snaF snM snaB
  rw [hs_eq A.2.2.1]
  by_cases k : win x 0 (s.1 4 - 1) = true
  · obtain ⟨j, hj, rfl⟩ := hs_i A.2.2.1 k
    rw [nI_clamp (by omega), tb_eq A.2.2.1 hj]
    rfl
  · rw [Bool.eq_false_iff.mpr k]
    simp only [Bool.false_and]
    rw [if_neg (by decide), if_neg (by decide)]
theorem md_x {h h' : mH} {Q n : Nat} {s : mS} {im : Nat → Int32} {L : Nat} {t : Nat → Int32} {fl fp fd : Int32} (H : mdP h Q n s im L t fl fp fd) (o : ∀ j, j ≠ Q + 11 → j ≠ Q + 12 → j ≠ Q + 13 → j ≠ Q + 14 → j ≠ Q + 15 → j ≠ Q + 16 → j ≠ Q + 17 → h' j = h j) (k11 : ∃ f, h' (Q + 11) = aI 8 f) (k12 : ∃ f, h' (Q + 12) = aI 8 f) (kC : moC h' Q) (k17 : ∃ f, h' (Q + 17) = aI 36 f) : frm h h' Q (Q + 18) ∧ mdP h' Q n s im L t fl fp fd := by
  obtain ⟨⟨m, wd, h0, hm⟩, hw, h2, h4, ⟨x5, k5⟩, ⟨x6, k6⟩, ⟨x7, k7⟩, ⟨x8, k8⟩, ⟨x9, k9⟩, ⟨x10, k10⟩, -⟩ := H
  have o2 : ∀ j, (j < Q + 11 ∨ Q + 18 ≤ j) → h' j = h j := fun j hj => o j (by omega) (by omega) (by omega) (by omega) (by omega) (by omega) (by omega)
  exact ⟨fun j hj => o2 j (by omega), ⟨m, wd, (o2 _ (by omega)).trans h0, hm⟩, ⟨(o2 _ (by omega)).trans hw.1, (o2 _ (by omega)).trans hw.2⟩, (o2 _ (by omega)).trans h2, (o2 _ (by omega)).trans h4, ⟨_, (o2 _ (by omega)).trans k5⟩, ⟨_, (o2 _ (by omega)).trans k6⟩, ⟨_, (o2 _ (by omega)).trans k7⟩, ⟨_, (o2 _ (by omega)).trans k8⟩, ⟨_, (o2 _ (by omega)).trans k9⟩, ⟨_, (o2 _ (by omega)).trans k10⟩, k11, k12, kC, k17⟩
theorem x_ways {G : mG} {C Q n : Nat} {h : mH} {x t i l : Int32} (d : Nat) (hd : 20 ≤ d) (hn : n < 40) (hCQ : C + 102 ≤ Q) (H : RelX C Q n h) : prI G C Q n m_X10_ways m_X11_ways d [.int x, .int t, .int i, .int l] h := by
  obtain ⟨p, po, e, eo, y, yo, ln, bt, wr, fk, fp, sp, s, im, fl, f2, fd, c, M, A, B, hl, hb, hf⟩ := H
  refine pr_ro2 hCQ M A B hl hb hf (k_ways d (by omega) c) (fun h' M' => ?_) rfl
  have M0 := M'
  obtain ⟨⟨m, wd, m0, hm⟩, mw, m2, m4, k5, k6, k7, k8, k9, k10, ⟨o, k11⟩, ⟨li, k12⟩, kC, k17⟩ := M0
  refine ev_mono (m_ways d (by omega) m0 k11 k12) ?_
  rintro r h'' ⟨rfl, F, o', li', w0, w1, w2⟩
  refine ⟨rfl, ?_⟩
  obtain ⟨⟨x13, k13⟩, ⟨x14, k14⟩, ⟨x15, k15⟩, ⟨x16, k16⟩⟩ := kC
  obtain ⟨x17, k17⟩ := k17
  exact md_x M' (fun j a b _ _ _ _ _ => F j a b) ⟨_, w1⟩ ⟨_, w2⟩ ⟨⟨_, (F _ (by omega) (by omega)).trans k13⟩, ⟨_, (F _ (by omega) (by omega)).trans k14⟩, ⟨_, (F _ (by omega) (by omega)).trans k15⟩, ⟨_, (F _ (by omega) (by omega)).trans k16⟩⟩ ⟨_, (F _ (by omega) (by omega)).trans k17⟩
theorem sgO_ag {f g f' g' : Nat → Int32} {x : Int32} : ∀ k, (∀ t, t < k → f t = f' t ∧ g t = g' t) → sgO f g x k = sgO f' g' x k
  | 0, _ => rfl
  | k + 1, h => by
    rw [sgO, sgO, (h k (by omega)).1, (h k (by omega)).2, sgO_ag k (fun t ht => h t (by omega))]
theorem sgO_p {f g : Nat → Int32} {x : Int32} : ∀ k, (∀ t, t < k → 0 ≤ g t) → sgO f g x k = -1 ∨ 0 ≤ sgO f g x k
  | 0, _ => .inl rfl
  | k + 1, h => by
    rw [sgO]
    split
    · exact .inr (h k (by omega))
    · exact sgO_p k (fun t ht => h t (by omega))
theorem tol_eq {y : yS} {a : Nat → Int32} (R : Ry y a) : wtM a = tolF y := by
  funext p
  unfold wtM tolF
  rw [R.2.2.1, nI_clamp (by have := R.1; omega)]
  exact sgO_ag _ (fun t ht => R.2.2.2.1 t (by have := R.1; omega))
theorem tol_p {y : yS} {a : Nat → Int32} (R : Ry y a) (p : Nat) : wtM a p = -1 ∨ 0 ≤ wtM a p := by
  rw [tol_eq R]
  exact sgO_p _ (fun t ht => (R.2.2.2.2 t (by have := R.1; omega)).2)
theorem tol_q {y : yS} {a : Nat → Int32} (R : Ry y a) : ∀ t, t < y.1.2 → ∃ q, q < 12 ∧ a (370 + 2 * t) = nI q := by
  intro t ht
  have b := R.1
  obtain ⟨q, h1, h2⟩ := (R.2.2.2.2 t (by omega)).1
  exact ⟨q, h1, ((R.2.2.2.1 t (by omega)).1).trans h2⟩
theorem x_orders {G : mG} {C Q n : Nat} {h : mH} {x k i j : Int32} (d : Nat) (hd : 20 ≤ d) (hn : n < 40) (hCQ : C + 102 ≤ Q) (H : RelX C Q n h) : prI G C Q n m_X10_orders m_X11_orders d [.int x, .int k, .int i, .int j] h := by
  obtain ⟨p, po, e, eo, y, yo, ln, bt, wr, fk, fp, sp, s, im, fl, f2, fd, c, M, A, B, hl, hb, hf⟩ := H
  have b := A.2.2.2.1
  refine pr_ro2 hCQ M A B hl hb hf (k_orders d (by omega) (by omega) c) (fun h' M' => ?_) (show ordC (tolF y) x k i j = ordC (wtM s.1) x k i j by rw [tol_eq A.2.2.2])
  have M0 := M'
  obtain ⟨⟨m, wd, m0, hm⟩, mw, m2, m4, k5, k6, k7, k8, k9, k10, ⟨o, k11⟩, ⟨li, k12⟩, kC, ⟨x17, k17⟩⟩ := M0
  refine ev_mono (m_orders (lk := y.1.2) d (by omega) m0 mw.1 kC A.2.2.2.2.2.1 (by omega) (tol_q A.2.2.2) (fun p _ => tol_p A.2.2.2 p)) ?_
  rintro r h'' ⟨rfl, F, kC'⟩
  refine ⟨rfl, ?_⟩
  exact md_x M' (fun j _ _ a b c d _ => F j a b c d) ⟨_, (F _ (by omega) (by omega) (by omega) (by omega)).trans k11⟩ ⟨_, (F _ (by omega) (by omega) (by omega) (by omega)).trans k12⟩ kC' ⟨_, (F _ (by omega) (by omega) (by omega) (by omega)).trans k17⟩
theorem x_next {G : mG} {C Q n : Nat} {h : mH} {x k : Int32} (d : Nat) (hd : 20 ≤ d) (hn : n < 40) (hCQ : C + 102 ≤ Q) (H : RelX C Q n h) : prI G C Q n m_X10_next m_X11_next d [.int x, .int k] h := by
  obtain ⟨p, po, e, eo, y, yo, ln, bt, wr, fk, fp, sp, s, im, fl, f2, fd, c, M, A, B, hl, hb, hf⟩ := H
  have b := A.2.2.2.1
  refine pr_ro2 hCQ M A B hl hb hf (k_next d (by omega) (by omega) c) (fun h' M' => ?_) (show nxtC (tolF y) x k = nxtC (wtM s.1) x k by rw [tol_eq A.2.2.2])
  have M0 := M'
  obtain ⟨⟨m, wd, m0, hm⟩, mw, m2, m4, k5, k6, k7, k8, k9, k10, ⟨o, k11⟩, ⟨li, k12⟩, kC, ⟨x17, k17⟩⟩ := M0
  refine ev_mono (m_nextP (lk := y.1.2) d (by omega) m0 mw.1 kC k17 A.2.2.2.2.2.1 (by omega) (tol_q A.2.2.2) (fun p _ => tol_p A.2.2.2 p)) ?_
  rintro r h'' ⟨rfl, F, kC', k17'⟩
  refine ⟨rfl, ?_⟩
  exact md_x M' (fun j _ _ a b c d e => F j a b c d e) ⟨_, (F _ (by omega) (by omega) (by omega) (by omega) (by omega)).trans k11⟩ ⟨_, (F _ (by omega) (by omega) (by omega) (by omega) (by omega)).trans k12⟩ kC' k17'
theorem x_see {G : mG} {C Q n : Nat} {h : mH} {x z : Int32} (d : Nat) (hd : 20 ≤ d) (hn : n < 40) (hCQ : C + 102 ≤ Q) (H : RelX C Q n h) : prI G C Q n m_X10_see m_X11_see d [.int x, .int z] h := by
  obtain ⟨p, po, e, eo, y, yo, ln, bt, wr, fk, fp, sp, s, im, fl, f2, fd, c, M, A, B, hl, hb, hf⟩ := H
  have b := A.2.2.2.1
  refine ev_mono (k_see (x := x) (z := z) d (by omega) b.1 c) ?_
  rintro r h' ⟨rfl, F, c'⟩
  have M' := md_fr (fun j a b => F j (by omega)) M
  have M0 := M'
  obtain ⟨⟨m, wd, m0, hm⟩, mw, -⟩ := M0
  refine ⟨_, rfl, md_ob M', ev_mono (m_see (n := n) (x := x) (z := z) d (by omega) A.2.2.2.2.1 b.1 m0 mw.1 (by omega)) ?_⟩
  rintro r h'' ⟨rfl, rfl⟩
  have e9 : (!decide (y.1.1 = 100)) = decide (y.1.1 < 100) := by
    by_cases k : y.1.1 = 100
    · rw [decide_eq_true k, decide_eq_false (by omega)]; rfl
    · rw [decide_eq_false k, decide_eq_true (by omega)]; rfl
  rw [e9]
  have no : clsP h' C n p po e eo y yo ln bt wr fk fp sp → RelX C Q n h' := fun c9 => ⟨p, po, e, eo, y, yo, ln, bt, wr, fk, fp, sp, s, im, fl, f2, fd, c9, M', A, B, hl, hb, hf⟩
  by_cases k : (win x 1 11 && win z 0 2) = true
  · rw [if_pos k] at c' ⊢
    by_cases k6 : y.1.1 < 100
    · rw [if_pos k6] at c' ⊢
      rw [k, decide_eq_true k6, Bool.and_self, if_pos rfl, if_pos rfl]
      refine ⟨rfl, p, po, e, eo, _, yo, ln, bt, wr, fk, fp, sp, _, im, fl, f2, fd, cls_fr (fun j a b => hu_n (by omega)) c', md_a _ M', ?_, B, hl, hb, hf⟩
      have o : ∀ j, j ≠ 2 → j ≠ 3 → j ≠ 370 + 2 * y.1.1 → j ≠ 370 + 2 * y.1.1 + 1 → seeA y.1.1 x z s.1 j = s.1 j := fun j a b c d => by
        unfold seeA
        rw [upd_nn b, upd_nn a, upd_nn d, upd_nn c]
      obtain ⟨A1, A2, A3, A4⟩ := A
      simp only [Bool.and_eq_true] at k
      obtain ⟨qx, qx1, qx2, rfl⟩ := win_28 (lo := 1) (hi := 11) k.1 (by omega) (by omega)
      obtain ⟨qz, _, qz2, rfl⟩ := win_28 (lo := 0) (hi := 2) k.2 (by omega) (by omega)
      refine ⟨Rp_o hn A1 (fun j hj => o j (by omega) (by omega) (by omega) (by omega)), A2, ⟨A3.1, (o 4 (by omega) (by omega) (by omega) (by omega)).trans A3.2.1, fun i hi r hr => (o _ (by omega) (by omega) (by omega) (by omega)).trans (A3.2.2 i hi r hr)⟩, ⟨by show y.1.1 + 1 ≤ 100 ∧ y.1.1 + 1 ≤ y.1.1 + 1; omega, ?_, show upd (upd (upd (upd s.1 (370 + 2 * y.1.1) (nI qx)) (370 + 2 * y.1.1 + 1) (nI qz)) 2 (nI (y.1.1 + 1))) 3 (nI (y.1.1 + 1)) 3 = nI (y.1.1 + 1) from upd_ss, fun t ht => ?_, fun t ht => ?_⟩⟩
      · show upd (upd (upd (upd s.1 (370 + 2 * y.1.1) (nI qx)) (370 + 2 * y.1.1 + 1) (nI qz)) 2 (nI (y.1.1 + 1))) 3 (nI (y.1.1 + 1)) 2 = nI (y.1.1 + 1)
        rw [upd_nn (by omega), upd_ss]
      · show seeA y.1.1 (nI qx) (nI qz) s.1 (370 + 2 * t) = upd y.2.1 y.1.1 (nI qx) t ∧ seeA y.1.1 (nI qx) (nI qz) s.1 (370 + 2 * t + 1) = upd y.2.2 y.1.1 (nI qz) t
        by_cases ce : t = y.1.1
        · rw [ce, upd_ss, upd_ss]
          unfold seeA
          exact ⟨by rw [upd_nn (by omega), upd_nn (by omega), upd_nn (by omega), upd_ss], by rw [upd_nn (by omega), upd_nn (by omega), upd_ss]⟩
        · rw [upd_nn ce, upd_nn ce, o _ (by omega) (by omega) (by omega) (by omega), o _ (by omega) (by omega) (by omega) (by omega)]
          exact A4.2.2.2.1 t ht
      · have ht : t < y.1.1 + 1 := ht
        show (∃ q, q < 12 ∧ upd y.2.1 y.1.1 (nI qx) t = nI q) ∧ 0 ≤ upd y.2.2 y.1.1 (nI qz) t
        by_cases ce : t = y.1.1
        · rw [ce, upd_ss, upd_ss]
          exact ⟨⟨qx, by omega, rfl⟩, nI_pos' (by omega)⟩
        · rw [upd_nn ce, upd_nn ce]
          exact A4.2.2.2.2 t (by omega)
    · rw [if_neg k6] at c' ⊢
      rw [decide_eq_false k6, Bool.and_false, if_neg (by decide), if_neg (by decide)]
      exact ⟨rfl, no c'⟩
  · rw [if_neg k] at c' ⊢
    rw [Bool.eq_false_iff.mpr k, Bool.false_and, if_neg (by decide), if_neg (by decide)]
    exact ⟨rfl, no c'⟩
theorem x_look {G : mG} {C Q n : Nat} {h : mH} {x : Int32} (d : Nat) (hd : 20 ≤ d) (hn : n < 40) (hCQ : C + 102 ≤ Q) (H : RelX C Q n h) : prB G C Q n m_X10_look m_X11_look d [.int x] h := by
  obtain ⟨p, po, e, eo, y, yo, ln, bt, wr, fk, fp, sp, s, im, fl, f2, fd, c, M, A, B, hl, hb, hf⟩ := H
  have b := A.2.2.2.1
  refine ev_mono (k_look (x := x) d (by omega) b.1 c) ?_
  rintro r h' ⟨rfl, F, c'⟩
  have M' := md_fr (fun j a b => F j (by omega)) M
  have M0 := M'
  obtain ⟨⟨m, wd, m0, hm⟩, mw, -⟩ := M0
  refine ⟨_, rfl, md_ob M', ev_mono (m_look (n := n) (x := x) d (by omega) m0 mw.1 (by omega)) ?_⟩
  rintro r h'' ⟨rfl, rfl⟩
  rw [A.2.2.2.2.1]
  refine ⟨rfl, ?_⟩
  by_cases k : win x 0 (nI y.1.1) = true
  · rw [if_pos k] at c' ⊢
    obtain ⟨u, hu9, rfl⟩ := win_nat (by omega) k
    rw [nI_clamp (by omega)] at c'
    refine ⟨p, po, e, eo, _, yo, ln, bt, wr, fk, fp, sp, _, im, fl, f2, fd, cls_fr (fun j a b => hu_n (by omega)) c', md_a _ M', ?_, B, hl, hb, hf⟩
    obtain ⟨A1, A2, A3, A4⟩ := A
    have o : ∀ j, j ≠ 3 → upd s.1 3 (nI u) j = s.1 j := fun j hj => upd_nn hj
    exact ⟨Rp_o hn A1 (fun j hj => o j (by omega)), A2, ⟨A3.1, (o 4 (by omega)).trans A3.2.1, fun i hi r hr => (o _ (by omega)).trans (A3.2.2 i hi r hr)⟩, ⟨⟨b.1, hu9⟩, (o 2 (by omega)).trans A4.2.1, show upd s.1 3 (nI u) 3 = nI u from upd_ss, fun t ht => ⟨(o _ (by omega)).trans (A4.2.2.2.1 t ht).1, (o _ (by omega)).trans (A4.2.2.2.1 t ht).2⟩, A4.2.2.2.2⟩⟩
  · rw [if_neg k] at c' ⊢
    exact ⟨p, po, e, eo, y, yo, ln, bt, wr, fk, fp, sp, s, im, fl, f2, fd, c', M', A, B, hl, hb, hf⟩
/-- an image holds what was imaged -/
theorem RA_cp {n : Nat} {p p' : pS} {e e' : eS} {y y' : yS} {a b : Nat → Int32} (hn : n < 40) (A : RA n p e y a) : RA n (cpyS n p p') (cpE e e') (cpY y y') (cpA a b 600) := by
  have o : ∀ j, j < 600 → cpA a b 600 j = a j := fun j hj => if_pos hj
  obtain ⟨⟨R1, R2, r0, r1, r5, r6, r7, r8⟩, ⟨i1, i3, i4, i5, i6⟩, A3, A4⟩ := A
  have q1 : ∀ i u, u ≤ n → (cpyS n p p').2.1 i u = p.2.1 i u := fun i u hu9 => cpN_at (by omega)
  have q2 : ∀ i u, u ≤ n → (cpyS n p p').2.2 i u = p.2.2 i u := fun i u hu9 => cpN_at (by omega)
  refine ⟨⟨fun u hu9 => ?_, fun q hq => ?_, (o _ (by omega)).trans r0, (o _ (by omega)).trans r1, (o _ (by omega)).trans r5, (o _ (by omega)).trans r6, (o _ (by omega)).trans r7, (o _ (by omega)).trans r8⟩, ⟨i1, i3, fun u hu9 => ?_, fun u hu9 => ?_, fun q hq => ?_⟩, ⟨A3.1, (o _ (by omega)).trans A3.2.1, fun i hi r hr => ?_⟩, ⟨A4.1, (o _ (by omega)).trans A4.2.1, (o _ (by omega)).trans A4.2.2.1, fun t ht => ?_, fun t ht => ?_⟩⟩
  · rw [o _ (by omega), o _ (by omega), o _ (by omega), q1 0 u hu9, q1 1 u hu9, q2 0 u hu9]
    exact R1 u hu9
  · rw [o _ (by omega), o _ (by omega), o _ (by omega), o _ (by omega), o _ (by omega), o _ (by omega), q1 2 _ (by omega), q1 3 _ (by omega), q1 4 _ (by omega), q1 5 _ (by omega), q1 6 _ (by omega), q2 1 _ (by omega)]
    exact R2 q hq
  · rw [q1 0 u hu9]; exact i4 u hu9
  · rw [q1 0 u (by omega), q1 0 (u + 1) (by omega)]; exact i5 u hu9
  · rw [q1 2 _ (by omega)]; exact i6 q hq
  · rw [o _ (by omega), A3.2.2 i hi r hr]
    exact (cpN_at hi).symm
  · rw [o _ (by omega), o _ (by omega), (A4.2.2.2.1 t ht).1, (A4.2.2.2.1 t ht).2]
    exact ⟨(cpN_at ht).symm, (cpN_at ht).symm⟩
  · have ht : t < y.1.1 := ht
    have b := A4.1
    show (∃ q, q < 12 ∧ cpN y.2.1 y'.2.1 100 t = nI q) ∧ 0 ≤ cpN y.2.2 y'.2.2 100 t
    rw [cpN_at (by omega), cpN_at (by omega)]
    exact A4.2.2.2.2 t ht
theorem x_image {G : mG} {C Q n : Nat} {h : mH} (d : Nat) (hd : 20 ≤ d) (hn : n < 40) (hCQ : C + 102 ≤ Q) (H : RelX C Q n h) : prI G C Q n m_X10_image m_X11_image d [] h := by
  obtain ⟨p, po, e, eo, y, yo, ln, bt, wr, fk, fp, sp, s, im, fl, f2, fd, c, M, A, B, hl, hb, hf⟩ := H
  refine ev_mono (k_image d (by omega) (by omega) c) ?_
  rintro r h' ⟨rfl, F, c'⟩
  have M' := md_fr (fun j a b => F j (by omega)) M
  have M0 := M'
  obtain ⟨⟨m, wd, m0, hm⟩, mw, m2, m4, mX⟩ := M0
  refine ⟨_, rfl, md_ob M', ev_mono (m_image (n := n) d (by omega) m0 mw.1 (by omega) m2) ?_⟩
  rintro r h'' ⟨rfl, rfl⟩
  refine ⟨by rw [A.1.2.2.1], p, _, e, _, y, _, ln, bt, wr, fk, fp, sp, s, cpA s.1 im 600, fl, f2, fd, cls_fr (fun j a b => hu_n (by omega)) c', ?_, A, RA_cp hn A, hl, hb, hf⟩
  obtain ⟨⟨x5, k5⟩, ⟨x6, k6⟩, ⟨x7, k7⟩, ⟨x8, k8⟩, ⟨x9, k9⟩, ⟨x10, k10⟩, ⟨x11, k11⟩, ⟨x12, k12⟩, ⟨⟨x13, k13⟩, ⟨x14, k14⟩, ⟨x15, k15⟩, ⟨x16, k16⟩⟩, ⟨x17, k17⟩⟩ := mX
  exact ⟨⟨m, wd, (hu_n (by omega)).trans m0, hm⟩, ⟨(hu_n (by omega)).trans mw.1, (hu_n (by omega)).trans mw.2⟩, hu_s, (hu_n (by omega)).trans m4, ⟨_, (hu_n (by omega)).trans k5⟩, ⟨_, (hu_n (by omega)).trans k6⟩, ⟨_, (hu_n (by omega)).trans k7⟩, ⟨_, (hu_n (by omega)).trans k8⟩, ⟨_, (hu_n (by omega)).trans k9⟩, ⟨_, (hu_n (by omega)).trans k10⟩, ⟨_, (hu_n (by omega)).trans k11⟩, ⟨_, (hu_n (by omega)).trans k12⟩, ⟨⟨_, (hu_n (by omega)).trans k13⟩, ⟨_, (hu_n (by omega)).trans k14⟩, ⟨_, (hu_n (by omega)).trans k15⟩, ⟨_, (hu_n (by omega)).trans k16⟩⟩, ⟨_, (hu_n (by omega)).trans k17⟩⟩
theorem x_back {G : mG} {C Q n : Nat} {h : mH} (d : Nat) (hd : 20 ≤ d) (hn : n < 40) (hCQ : C + 102 ≤ Q) (H : RelX C Q n h) : prI G C Q n m_X10_back m_X11_back d [] h := by
  obtain ⟨p, po, e, eo, y, yo, ln, bt, wr, fk, fp, sp, s, im, fl, f2, fd, c, M, A, B, hl, hb, hf⟩ := H
  refine ev_mono (k_back d (by omega) (by omega) c) ?_
  rintro r h' ⟨rfl, F, c'⟩
  have M' := md_fr (fun j a b => F j (by omega)) M
  have M0 := M'
  obtain ⟨⟨m, wd, m0, hm⟩, mw, m2, m4, mX⟩ := M0
  refine ⟨_, rfl, md_ob M', ev_mono (m_back (n := n) d (by omega) m0 mw.1 (by omega) m2) ?_⟩
  rintro r h'' ⟨rfl, rfl⟩
  exact ⟨by rw [B.1.2.2.1], _, po, _, eo, _, yo, ln, bt, wr, fk, fp, sp, _, im, fl, f2, fd, cls_fr (fun j a b => hu_n (by omega)) c', md_a _ M', RA_cp hn B, B, hl, hb, hf⟩
