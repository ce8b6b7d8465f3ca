/-! CreasedPaperModel: hands -/
theorem FL_mem {vb bh nm : Nat → Int32} {r k to : Nat} {l : List Nat} (h : FL vb bh nm r k to l) : k ≤ to ∧ ∀ i, i ∈ l → k ≤ i ∧ i < to ∧ ¬ vb i = 3 := by
  refine h (fun r k to l => k ≤ to ∧ ∀ i, i ∈ l → k ≤ i ∧ i < to ∧ ¬ vb i = 3) ?_ ?_ ?_
  · exact fun r k => ⟨Nat.le_refl _, fun i hi => absurd hi (by simp)⟩
  · intro r k to l h1 h2 h3
    refine ⟨by omega, fun i hi => ?_⟩
    rcases List.mem_cons.mp hi with rfl | hi
    · exact ⟨Nat.le_refl _, h1, h2⟩
    · have := h3.2 i hi
      exact ⟨by omega, this.2⟩
  · intro r k b to N l1 l2 h1 h2 h3 h4 h5 h51 h52 h6 h7
    refine ⟨by omega, fun i hi => ?_⟩
    rcases List.mem_append.mp hi with hi | hi
    · obtain ⟨l, hl, hi⟩ := List.mem_flatten.mp hi
      rw [List.mem_replicate] at hl
      rw [hl.2] at hi
      have := h6.2 i hi
      exact ⟨by omega, by omega, this.2.2⟩
    · have := h7.2 i hi
      exact ⟨by omega, this.2⟩
theorem exL_cg {σ : Type} {act act' : Nat → σ → Bool × σ} : ∀ (l : List Nat) (dn : Nat) (s : σ), (∀ i, i ∈ l → ∀ s, act i s = act' i s) → exL act l dn s = exL act' l dn s
  | [], _, _, _ => rfl
  | i :: l, dn, s, h => by
    rw [exL, exL, h i (by simp) s]
    rw [exL_cg l _ _ (fun j hj => h j (by simp [hj]))]
theorem exL_mem {σ : Type} {act : Nat → σ → Bool × σ} : ∀ {l : List Nat} {dn dn' i : Nat} {s s' : σ}, exL act l dn s = (some i, dn', s') → i ∈ l
  | [], _, _, _, _, _, h => by rw [exL] at h; cases h
  | j :: l, dn, dn', i, s, s', h => by
    by_cases c : dn = 300
    · rw [exL_full c] at h; cases h; simp
    · by_cases c1 : (act j s).1 = true
      · rw [exL_ok c c1] at h
        have := exL_mem h
        simp [this]
      · rw [exL_no c (Bool.eq_false_iff.mpr c1)] at h; cases h; simp
/-- an act of a text, as the model does it -/
def actQ (n : Nat) (vb nu : Nat → Int32) (tr : Nat → Bool) (i : Nat) (s : mS) : Bool × mS :=
  if vb i = 0 then (!decide (fldR n (nu i) (tr i) s.1 < 0), if agF n (nu i) (tr i) s.1 < 0 then s else (fldA n (nu i) (tr i) s.1 s.2, flL n (nu i) (tr i) s.1 s.2))
  else if vb i = 1 then (!decide (holR n (nu i) s.1 < 0), if (win (nu i) 1 1000 && decide (s.1 0 + nu i ≤ 100000)) = true then (paA n (nu i).toNatClampNeg s.1, s.2) else s)
  else (!decide (opnR n s.1 < 0), if s.1 0 = 100000 then s else (paA n 1 (flA s.1 (n + 1)), s.2))
theorem actM_Q {n : Nat} {s : tSt} {so mu fr un op : Nat → Int32} (I : INV s) (R : MR s so mu fr un op) {i : Nat} (hi : i < s.1.2.1) (h3 : ¬ s.2.1.1 i = 3) (z : mS) : actM n so mu i z = actQ n s.2.1.1 s.2.1.2.1 s.2.1.2.2 i z := by
  obtain ⟨a1, a2, -, -⟩ := R.1 i hi
  have v := I.2.2.1 i hi
  unfold actM actQ
  rcases v with v | v | v | v
  · have e1 : so i = if s.2.1.2.2 i = true then 1 else 2 := by rw [a1, v]; rfl
    have m1 := a2 (by rw [v]; decide)
    rw [v, m1]
    by_cases c : s.2.1.2.2 i = true
    · rw [if_pos c] at e1
      rw [e1, c, if_pos (by decide), if_pos rfl]
      rfl
    · rw [if_neg c] at e1
      rw [e1, Bool.eq_false_iff.mpr c, if_pos (by decide), if_pos rfl]
      rfl
  · have e1 : so i = 3 := by rw [a1, v]; rfl
    have m1 := a2 (by rw [v]; decide)
    rw [v, m1, e1, if_neg (show ¬ (3 : Int32) < 3 by decide), if_pos rfl, if_neg (show ¬ (1 : Int32) = 0 by decide), if_pos rfl]
  · have e1 : so i = 4 := by rw [a1, v]; rfl
    rw [v, e1, if_neg (show ¬ (4 : Int32) < 3 by decide), if_neg (show ¬ (4 : Int32) = 3 by decide), if_neg (show ¬ (2 : Int32) = 0 by decide), if_neg (show ¬ (2 : Int32) = 1 by decide)]
  · exact absurd v h3
/-- all that a model holds beside the cells, the tape and the fault -/
def mdX (h : mH) (Q : Nat) : Prop := (∃ f, h (Q + 5) = aI 41 f) ∧ (∃ f, h (Q + 6) = aI 41 f) ∧ (∃ f, h (Q + 7) = aI 41 f) ∧ (∃ f, h (Q + 8) = aI 41 f) ∧ (∃ f, h (Q + 9) = aI 5 f) ∧ (∃ f, h (Q + 10) = aI 41 f) ∧ (∃ f, h (Q + 11) = aI 8 f) ∧ (∃ f, h (Q + 12) = aI 8 f) ∧ moC h Q ∧ ∃ f, h (Q + 17) = aI 36 f
def mdO (h : mH) (Q n : Nat) (L : Int32) (fl fp fd : Int32) : Prop := ∃ m wd, h Q = oMod Q (nI (n + 1)) m wd ∧ m 0 = L ∧ m 1 = fl ∧ m 2 = fp ∧ m 3 = fd
def mdP (h : mH) (Q n : Nat) (s : mS) (im : Nat → Int32) (L : Nat) (t : Nat → Int32) (fl fp fd : Int32) : Prop := mdO h Q n (nI L) fl fp fd ∧ wSt h Q s ∧ h (Q + 2) = aI 600 im ∧ h (Q + 4) = aI 300 t ∧ mdX h Q
def hnM (h' : mH) (Q n : Nat) (s0 : mS) (im t : Nat → Int32) (l : List Nat) (res : Sum (Int32 × Nat) tSt) (v : Int32) : Prop :=
  (∀ f q, res = .inl (f, q) → v = -1 ∧ mdP h' Q n s0 im 0 t f (nI q) (-1)) ∧
  (∀ s, res = .inr s → v = nI (exL (actQ n s.2.1.1 s.2.1.2.1 s.2.1.2.2) l 0 s0).2.1 ∧ mdP h' Q n (exL (actQ n s.2.1.1 s.2.1.2.1 s.2.1.2.2) l 0 s0).2.2 im 0 t 0 (-1) (eSp s.2.2.1 (exL (actQ n s.2.1.1 s.2.1.2.1 s.2.1.2.2) l 0 s0).1))
theorem m_doAll {G : mG} {h : mH} {Q n : Nat} {m0 so mu fr un op tn : Nat → Int32} {wd : Int64} {s : tSt} {z : mS} {l : List Nat} (dd9 : Nat) (hd : 4 ≤ dd9) (hn : n + 1 ≤ 40) (I : INV s) (hs0 : s.1.2.2 = 0) (R : MR s so mu fr un op) (F : FL s.2.1.1 s.2.2.2.1 s.2.1.2.1 4 0 s.1.2.1 l) (hQ : h Q = oMod Q (nI (n + 1)) m0 wd) (hm8 : m0 8 = nI s.1.2.1) (hm3 : m0 3 = -1) (hw : wSt h Q z) (h5 : h (Q + 5) = aI 41 so) (h6 : h (Q + 6) = aI 41 mu) (h7 : h (Q + 7) = aI 41 fr) (h8 : h (Q + 8) = aI 41 un) (h9 : h (Q + 9) = aI 5 op) (h10 : h (Q + 10) = aI 41 tn) : EV G m_X11_doAll dd9 0 0 [.ref Q] h (fun r h' => r = some (.int (nI (exL (actQ n s.2.1.1 s.2.1.2.1 s.2.1.2.2) l 0 z).2.1)) ∧ (dFr h h' Q ∧ dEn h' Q n m0 (eSp s.2.2.1 (exL (actQ n s.2.1.1 s.2.1.2.1 s.2.1.2.2) l 0 z).1) so mu fr un (exL (actQ n s.2.1.1 s.2.1.2.1 s.2.1.2.2) l 0 z).2.2)) := by
  have d4 := I.2.1
  have cg : exL (actQ n s.2.1.1 s.2.1.2.1 s.2.1.2.2) l 0 z = exL (actM n so mu) l 0 z := exL_cg l 0 z (fun i hi w => by
    obtain ⟨_, q2, q3⟩ := (FL_mem F).2 i hi
    exact (actM_Q I R q2 q3 w).symm)
  have R2 : dMR s.1.2.1 so mu un s.2.1.1 s.2.2.2.1 s.2.1.2.1 := by
    intro i hi
    obtain ⟨a1, a2, a3, a4⟩ := R.1 i hi
    refine ⟨fun v => ⟨by rw [a1, v]; rfl, ?_, a2 (by rw [v]; decide)⟩, fun v => ?_⟩
    · rcases a4 v with ⟨j, j1, _⟩ | w
      · omega
      · exact w
    · rcases I.2.2.1 i hi with w | w | w | w
      · rw [a1, w]
        unfold sC
        rw [if_pos rfl]
        split <;> decide
      · rw [a1, w]; show (3 : Int32) < 5; decide
      · rw [a1, w]; show (4 : Int32) < 5; decide
      · exact absurd w v
  refine ev_1_3 rfl (by decide +kernel) (by decide +kernel) ?_
  refine z_iconst (n := 1) (q := 0) (v := 0) (by decide +kernel) ?_
  refine z_ist1 (n := 2) (by decide +kernel) rfl ?_
  refine z_iconst (n := 3) (q := 0) (v := 0) (by decide +kernel) ?_
  refine z_ist2 (n := 4) (by decide +kernel) rfl ?_
  refine z_ald0 (n := 5) (by decide +kernel) ?_
  refine z_iconst (n := 6) (q := 0) (v := 0) (by decide +kernel) ?_
  refine z_putf (n := 9) (idx := 159) (ty := .int) (by decide +kernel) fl_X11_159 (by first | assumption | (simp (disch := omega) only [hu_s, hu_n]; first | assumption | rfl)) ⟨_, _, _, rfl, rfl, by decide +kernel⟩ rfl rfl (Nat.le_of_ble_eq_true rfl) ?_
  skip
  rw [cg]
  have S0 : dSt (hu h Q (oMod Q (nI (n + 1)) (upd m0 9 0) wd)) Q n m0 s.1.2.1 0 so mu fr un op tn z := ⟨⟨upd m0 9 0, wd, hu_s, fun q hq => upd_nn (by omega), hm8, rfl⟩, ⟨(hu_n (by omega)).trans hw.1, (hu_n (by omega)).trans hw.2⟩, (by simp (disch := omega) only [hTn, hCr, hFl, hu_s, hu_n]; first | done | assumption | rfl), (by simp (disch := omega) only [hTn, hCr, hFl, hu_s, hu_n]; first | done | assumption | rfl), (by simp (disch := omega) only [hTn, hCr, hFl, hu_s, hu_n]; first | done | assumption | rfl), (by simp (disch := omega) only [hTn, hCr, hFl, hu_s, hu_n]; first | done | assumption | rfl), (by simp (disch := omega) only [hTn, hCr, hFl, hu_s, hu_n]; first | done | assumption | rfl), (by simp (disch := omega) only [hTn, hCr, hFl, hu_s, hu_n]; first | done | assumption | rfl)⟩
  refine (m_dAl (rt := fun _ => false) hn d4 R2 (Nat.le_refl 4) F (Nat.le_refl _)).2 dd9 0 0 _ op tn z _ hd (by omega) (by omega) S0 (.inl rfl) ?_ ?_
  · intro dn' h' op' tn' s' x1 x2 x3 x4 x5 x6
    obtain ⟨⟨m, wd2, g0, gm, g8, g9⟩, gw, e5, e6, e7, e8, e9, e10⟩ := x6
    rw [x1]
    refine z_ild2 (n := 10) (by decide +kernel) ?_
    refine z_ald0 (n := 11) (by decide +kernel) ?_
    refine z_getf (n := 14) (idx := 152) (by decide +kernel) fl_X11_152 (by first | assumption | (simp (disch := omega) only [hu_s, hu_n]; first | assumption | rfl)) (by rfl) ?_
    refine z_top g8 ?_
    refine z_icmp_lt_f (n := 17) (off := 10) (tgt := 24) (by decide +kernel) (nI_nlt (Nat.le_refl _) (by omega)) ?_
    refine z_ald0 (n := 18) (by decide +kernel) ?_
    refine z_getf (n := 21) (idx := 159) (by decide +kernel) fl_X11_159 (by first | assumption | (simp (disch := omega) only [hu_s, hu_n]; first | assumption | rfl)) (by rfl) ?_
    refine z_top g9 ?_
    refine z_if_le_t (n := 24) (off := 183) (tgt := 204) (by decide +kernel) (by decide) ?_
    refine z_ild1 (n := 205) (by decide +kernel) ?_
    refine z_iret (by decide +kernel) rfl (Nat.le_refl _) ?_
    exact ⟨rfl, dFr_tr (fun j a b c d e => hu_n a) x3, ⟨m, wd2, g0, fun q hq => gm q (by omega), (gm 3 (by omega)).trans hm3⟩, gw, e5, e6, e7, e8, ⟨_, e9⟩, ⟨_, e10⟩⟩
  · intro i dn' h' s' x1 x2 x3
    rw [x1]
    have hi : i < s.1.2.1 := by
      have := exL_mem x1
      exact ((FL_mem F).2 i this).2.1
    refine ⟨rfl, dFr_tr (fun j a b c d e => hu_n a) x2, ?_⟩
    have : fr i = s.2.2.1 i := (R.1 i hi).2.2.1
    show dEn h' Q n m0 (s.2.2.1 i) so mu fr un s'
    rw [← this]
    exact x3
theorem m_hands {G : mG} {h : mH} {Q n L : Nat} {z : mS} {im t : Nat → Int32} {fl fp fd : Int32} (dd9 : Nat) (hd : 7 ≤ dd9) (hn : n + 1 ≤ 40) (hL : L ≤ 300) (hp : ∀ i, i < L → 0 ≤ t i) (H : mdP h Q n z im L t fl fp fd) (r0 : (Nat → Int32) × (Nat → Int32) × (Nat → Bool)) (r1 : (Nat → Int32) × (Nat → Int32) × (Nat → Int32)) (l : List Nat) (hF : ∀ s, rdF t L 301 ((0, 0, 0), r0, r1) = .inr s → FL s.2.1.1 s.2.2.2.1 s.2.1.2.1 4 0 s.1.2.1 l) : EV G m_X11_hands dd9 0 0 [.ref Q] h (fun r h' => ∃ v, r = some (.int v) ∧ (frm h h' Q (Q + 18) ∧ hnM h' Q n z im t l (rdF t L 301 ((0, 0, 0), r0, r1)) v)) := by
  obtain ⟨⟨m, wd, h0, hm0, -⟩, hw, hIm, h4, ⟨so, h5⟩, ⟨mu, h6⟩, ⟨fr, h7⟩, ⟨un, h8⟩, ⟨op, h9⟩, ⟨tn, h10⟩, ⟨o, h11⟩, ⟨li, h12⟩, ⟨⟨s13, h13⟩, ⟨s14, h14⟩, ⟨s15, h15⟩, ⟨s16, h16⟩⟩, ⟨ct, h17⟩⟩ := H
  refine ev_1_0 rfl (by decide +kernel) (by decide +kernel) ?_
  refine z_ald0 (n := 1) (by decide +kernel) ?_
  refine z_ald0 (n := 2) (by decide +kernel) ?_
  refine z_e0 (n := 5) (idx := 197) (by decide +kernel) ml_X11_197 (by first | assumption | (simp (disch := omega) only [hu_s, hu_n]; first | assumption | rfl)) rfl (Nat.le_of_ble_eq_true rfl) (by omega) ⟨Nat.le_refl _, Nat.le_refl _⟩ (m_readText (n := n) (L := L) (t := t) (v1 := r0.1) (v2 := r0.2.1) (v3 := r0.2.2) (v4 := r1.1) (v5 := r1.2.1) (v6 := r1.2.2) 6 (by omega) hL hp h0 hm0 h4 h5 h6 h7 h8 h9) (fun x2 h2 q2 => ?_)
  skip
  obtain ⟨F, z1, z2⟩ := q2
  have k4 := (F (Q + 4) (by omega) (by omega)).trans h4
  have k1 := (F (Q + 1) (by omega) (by omega)).trans hw.1
  have k3 := (F (Q + 3) (by omega) (by omega)).trans hw.2
  have k2 := (F (Q + 2) (by omega) (by omega)).trans hIm
  have k10 := (F (Q + 10) (by omega) (by omega)).trans h10
  have k11 := (F (Q + 11) (by omega) (by omega)).trans h11
  have k12 := (F (Q + 12) (by omega) (by omega)).trans h12
  have k13 := (F (Q + 13) (by omega) (by omega)).trans h13
  have k14 := (F (Q + 14) (by omega) (by omega)).trans h14
  have k15 := (F (Q + 15) (by omega) (by omega)).trans h15
  have k16 := (F (Q + 16) (by omega) (by omega)).trans h16
  have k17 := (F (Q + 17) (by omega) (by omega)).trans h17
  have F9 : frm h h2 Q (Q + 18) := fun j hj => F j (by omega) (by omega)
  cases er : rdF t L 301 ((0, 0, 0), r0, r1) with
  | inl fq =>
    obtain ⟨f, q⟩ := fq
    obtain ⟨rfl, z3, m2, wd2, so2, mu2, fr2, un2, op2, b0, b1, b5, b6, b7, b8, b9⟩ := z1 f q er
    refine z_putf (n := 8) (idx := 22) (ty := .int) (by decide +kernel) fl_X11_22 (by first | assumption | (simp (disch := omega) only [hu_s, hu_n]; first | assumption | rfl)) ⟨_, _, _, rfl, rfl, by decide +kernel⟩ rfl rfl (Nat.le_of_ble_eq_true rfl) ?_
    refine z_ald0 (n := 9) (by decide +kernel) ?_
    refine z_ald0 (n := 10) (by decide +kernel) ?_
    refine z_getf (n := 13) (idx := 22) (by decide +kernel) fl_X11_22 (by first | assumption | (simp (disch := omega) only [hu_s, hu_n]; first | assumption | rfl)) (by rfl) ?_
    refine z_if_ne_t (n := 16) (off := 7) (tgt := 20) (by decide +kernel) (z3) ?_
    refine z_ald0 (n := 21) (by decide +kernel) ?_
    refine z_getf (n := 24) (idx := 126) (by decide +kernel) fl_X11_126 (by first | assumption | (simp (disch := omega) only [hu_s, hu_n]; first | assumption | rfl)) (by rfl) ?_
    refine z_top b1 ?_
    refine z_putf (n := 27) (idx := 26) (ty := .int) (by decide +kernel) fl_X11_26 (by first | assumption | (simp (disch := omega) only [hu_s, hu_n]; first | assumption | rfl)) ⟨_, _, _, rfl, rfl, by decide +kernel⟩ rfl rfl (Nat.le_of_ble_eq_true rfl) ?_
    refine z_ald0 (n := 28) (by decide +kernel) ?_
    refine z_iconst (n := 29) (q := -1) (v := -1) (by decide +kernel) ?_
    refine z_putf (n := 32) (idx := 29) (ty := .int) (by decide +kernel) fl_X11_29 (by first | assumption | (simp (disch := omega) only [hu_s, hu_n]; first | assumption | rfl)) ⟨_, _, _, rfl, rfl, by decide +kernel⟩ rfl rfl (Nat.le_of_ble_eq_true rfl) ?_
    refine z_ald0 (n := 33) (by decide +kernel) ?_
    refine z_iconst (n := 34) (q := 0) (v := 0) (by decide +kernel) ?_
    refine z_putf (n := 37) (idx := 114) (ty := .int) (by decide +kernel) fl_X11_114 (by first | assumption | (simp (disch := omega) only [hu_s, hu_n]; first | assumption | rfl)) ⟨_, _, _, rfl, rfl, by decide +kernel⟩ rfl rfl (Nat.le_of_ble_eq_true rfl) ?_
    refine z_ald0 (n := 38) (by decide +kernel) ?_
    refine z_getf (n := 41) (idx := 22) (by decide +kernel) fl_X11_22 (by first | assumption | (simp (disch := omega) only [hu_s, hu_n]; first | assumption | rfl)) (by rfl) ?_
    refine z_if_eq_f (n := 44) (off := 7) (tgt := 48) (by decide +kernel) (z3) ?_
    refine z_iconst (n := 45) (q := -1) (v := -1) (by decide +kernel) ?_
    refine z_goto (n := 48) (off := 7) (tgt := 52) (by decide +kernel) ?_
    refine z_iret (by decide +kernel) rfl (Nat.le_refl _) ?_
    exact ⟨-1, rfl, frm_tr F9 (fun j hj => by simp (disch := omega) only [hu_n]), fun f' q' e' => (by cases e'; exact ⟨rfl, ⟨upd (upd (upd (upd m2 1 x2) 2 (nI q)) 3 (-1)) 0 0, wd2, (by simp (disch := omega) only [hTn, hCr, hFl, hu_s, hu_n]; first | done | assumption | rfl), rfl, rfl, rfl, rfl⟩, ⟨(by simp (disch := omega) only [hTn, hCr, hFl, hu_s, hu_n]; first | done | assumption | rfl), (by simp (disch := omega) only [hTn, hCr, hFl, hu_s, hu_n]; first | done | assumption | rfl)⟩, (by simp (disch := omega) only [hTn, hCr, hFl, hu_s, hu_n]; first | done | assumption | rfl), (by simp (disch := omega) only [hTn, hCr, hFl, hu_s, hu_n]; first | done | assumption | rfl), ⟨_, (by simp (disch := omega) only [hTn, hCr, hFl, hu_s, hu_n]; first | done | assumption | rfl)⟩, ⟨_, (by simp (disch := omega) only [hTn, hCr, hFl, hu_s, hu_n]; first | done | assumption | rfl)⟩, ⟨_, (by simp (disch := omega) only [hTn, hCr, hFl, hu_s, hu_n]; first | done | assumption | rfl)⟩, ⟨_, (by simp (disch := omega) only [hTn, hCr, hFl, hu_s, hu_n]; first | done | assumption | rfl)⟩, ⟨_, (by simp (disch := omega) only [hTn, hCr, hFl, hu_s, hu_n]; first | done | assumption | rfl)⟩, ⟨_, (by simp (disch := omega) only [hTn, hCr, hFl, hu_s, hu_n]; first | done | assumption | rfl)⟩, ⟨_, (by simp (disch := omega) only [hTn, hCr, hFl, hu_s, hu_n]; first | done | assumption | rfl)⟩, ⟨_, (by simp (disch := omega) only [hTn, hCr, hFl, hu_s, hu_n]; first | done | assumption | rfl)⟩, ⟨⟨_, (by simp (disch := omega) only [hTn, hCr, hFl, hu_s, hu_n]; first | done | assumption | rfl)⟩, ⟨_, (by simp (disch := omega) only [hTn, hCr, hFl, hu_s, hu_n]; first | done | assumption | rfl)⟩, ⟨_, (by simp (disch := omega) only [hTn, hCr, hFl, hu_s, hu_n]; first | done | assumption | rfl)⟩, ⟨_, (by simp (disch := omega) only [hTn, hCr, hFl, hu_s, hu_n]; first | done | assumption | rfl)⟩⟩, ⟨_, (by simp (disch := omega) only [hTn, hCr, hFl, hu_s, hu_n]; first | done | assumption | rfl)⟩⟩), fun s' e' => (by cases e')⟩
  | inr s =>
    obtain ⟨rfl, z3, I, so2, mu2, fr2, un2, op2, T, R⟩ := z2 s er
    obtain ⟨m2, wd2, b0, bT, b8m, b9m, b4, b5, b6, b7, b8, b9⟩ := T
    have dA := m_doAll (G := G) (h := hu h2 Q (oMod Q (nI (n + 1)) (upd (upd (upd (upd m2 1 0) 2 (-1)) 3 (-1)) 0 0) wd2)) (z := z) (n := n) (tn := tn) 6 (by omega) hn I z3 R (hF s er) hu_s b8m rfl ⟨(by simp (disch := omega) only [hTn, hCr, hFl, hu_s, hu_n]; first | done | assumption | rfl), (by simp (disch := omega) only [hTn, hCr, hFl, hu_s, hu_n]; first | done | assumption | rfl)⟩ (by simp (disch := omega) only [hTn, hCr, hFl, hu_s, hu_n]; first | done | assumption | rfl) (by simp (disch := omega) only [hTn, hCr, hFl, hu_s, hu_n]; first | done | assumption | rfl) (by simp (disch := omega) only [hTn, hCr, hFl, hu_s, hu_n]; first | done | assumption | rfl) (by simp (disch := omega) only [hTn, hCr, hFl, hu_s, hu_n]; first | done | assumption | rfl) (by simp (disch := omega) only [hTn, hCr, hFl, hu_s, hu_n]; first | done | assumption | rfl) (by simp (disch := omega) only [hTn, hCr, hFl, hu_s, hu_n]; first | done | assumption | rfl)
    refine z_putf (n := 8) (idx := 22) (ty := .int) (by decide +kernel) fl_X11_22 (by first | assumption | (simp (disch := omega) only [hu_s, hu_n]; first | assumption | rfl)) ⟨_, _, _, rfl, rfl, by decide +kernel⟩ rfl rfl (Nat.le_of_ble_eq_true rfl) ?_
    refine z_ald0 (n := 9) (by decide +kernel) ?_
    refine z_ald0 (n := 10) (by decide +kernel) ?_
    refine z_getf (n := 13) (idx := 22) (by decide +kernel) fl_X11_22 (by first | assumption | (simp (disch := omega) only [hu_s, hu_n]; first | assumption | rfl)) (by rfl) ?_
    refine z_if_ne_f (n := 16) (off := 7) (tgt := 20) (by decide +kernel) (rfl) ?_
    refine z_iconst (n := 17) (q := -1) (v := -1) (by decide +kernel) ?_
    refine z_goto (n := 20) (off := 7) (tgt := 24) (by decide +kernel) ?_
    refine z_putf (n := 27) (idx := 26) (ty := .int) (by decide +kernel) fl_X11_26 (by first | assumption | (simp (disch := omega) only [hu_s, hu_n]; first | assumption | rfl)) ⟨_, _, _, rfl, rfl, by decide +kernel⟩ rfl rfl (Nat.le_of_ble_eq_true rfl) ?_
    refine z_ald0 (n := 28) (by decide +kernel) ?_
    refine z_iconst (n := 29) (q := -1) (v := -1) (by decide +kernel) ?_
    refine z_putf (n := 32) (idx := 29) (ty := .int) (by decide +kernel) fl_X11_29 (by first | assumption | (simp (disch := omega) only [hu_s, hu_n]; first | assumption | rfl)) ⟨_, _, _, rfl, rfl, by decide +kernel⟩ rfl rfl (Nat.le_of_ble_eq_true rfl) ?_
    refine z_ald0 (n := 33) (by decide +kernel) ?_
    refine z_iconst (n := 34) (q := 0) (v := 0) (by decide +kernel) ?_
    refine z_putf (n := 37) (idx := 114) (ty := .int) (by decide +kernel) fl_X11_114 (by first | assumption | (simp (disch := omega) only [hu_s, hu_n]; first | assumption | rfl)) ⟨_, _, _, rfl, rfl, by decide +kernel⟩ rfl rfl (Nat.le_of_ble_eq_true rfl) ?_
    refine z_ald0 (n := 38) (by decide +kernel) ?_
    refine z_getf (n := 41) (idx := 22) (by decide +kernel) fl_X11_22 (by first | assumption | (simp (disch := omega) only [hu_s, hu_n]; first | assumption | rfl)) (by rfl) ?_
    refine z_if_eq_t (n := 44) (off := 7) (tgt := 48) (by decide +kernel) (rfl) ?_
    skip
    simp only [hu_hu]
    refine z_ald0 (n := 49) (by decide +kernel) ?_
    refine z_w0 (n := 52) (idx := 200) (by decide +kernel) ml_X11_200 (by first | assumption | (simp (disch := omega) only [hu_s, hu_n]; first | assumption | rfl)) rfl (Nat.le_of_ble_eq_true rfl) (by omega) ⟨Nat.le_refl _, Nat.le_refl _⟩ (dA) (fun h49 q49 => ?_)
    refine z_iret (by decide +kernel) rfl (Nat.le_refl _) ?_
    refine ⟨_, rfl, ?_, fun f' q' e' => (by cases e'), fun s' e' => ?_⟩
    · intro j hj
      rw [q49.1 j (by omega) (by omega) (by omega) (by omega) (by omega), hu_n (by omega)]
      exact F9 j hj
    · cases e'
      obtain ⟨D, ⟨m3, wd3, c0, c1, c2⟩, cw, c5, c6, c7, c8, ⟨op3, c9⟩, ⟨tn3, c10⟩⟩ := q49
      have dd : ∀ j, j ≠ Q → j ≠ Q + 1 → j ≠ Q + 3 → j ≠ Q + 9 → j ≠ Q + 10 → h49 j = h2 j := fun j a b c d e => (D j a b c d e).trans (hu_n a)
      exact ⟨rfl, ⟨m3, wd3, c0, c1 0 (by omega), c1 1 (by omega), c1 2 (by omega), c2⟩, cw, (dd _ (by omega) (by omega) (by omega) (by omega) (by omega)).trans k2, (dd _ (by omega) (by omega) (by omega) (by omega) (by omega)).trans k4, ⟨_, c5⟩, ⟨_, c6⟩, ⟨_, c7⟩, ⟨_, c8⟩, ⟨_, c9⟩, ⟨_, c10⟩, ⟨_, (dd _ (by omega) (by omega) (by omega) (by omega) (by omega)).trans k11⟩, ⟨_, (dd _ (by omega) (by omega) (by omega) (by omega) (by omega)).trans k12⟩, ⟨⟨_, (dd _ (by omega) (by omega) (by omega) (by omega) (by omega)).trans k13⟩, ⟨_, (dd _ (by omega) (by omega) (by omega) (by omega) (by omega)).trans k14⟩, ⟨_, (dd _ (by omega) (by omega) (by omega) (by omega) (by omega)).trans k15⟩, ⟨_, (dd _ (by omega) (by omega) (by omega) (by omega) (by omega)).trans k16⟩⟩, ⟨_, (dd _ (by omega) (by omega) (by omega) (by omega) (by omega)).trans k17⟩⟩
