/-! CreasedPaperModel: the acts of a text -/
/-- the model's acts -/
def fldR (n : Nat) (x : Int32) (right : Bool) (a : Nat → Int32) : Int32 := if agF n x right a < 0 then agF n x right a else nI (cnb (fun j => crs (fun u => a (10 + u)) j x) n)
def holR (n : Nat) (x : Int32) (a : Nat → Int32) : Int32 := if (win x 1 1000 && decide (a 0 + x ≤ 100000)) = true then paA n x.toNatClampNeg a 0 else -1
def opnR (n : Nat) (a : Nat → Int32) : Int32 := if a 0 = 100000 then -1 else paA n 1 (flA a (n + 1)) 0
abbrev mS : Type := (Nat → Int32) × (Nat → Int32)
def actM (n : Nat) (so mu : Nat → Int32) (i : Nat) (s : mS) : Bool × mS :=
  if so i < 3 then (!decide (fldR n (mu i) (decide (so i = 1)) s.1 < 0), if agF n (mu i) (decide (so i = 1)) s.1 < 0 then s else (fldA n (mu i) (decide (so i = 1)) s.1 s.2, flL n (mu i) (decide (so i = 1)) s.1 s.2))
  else if so i = 3 then (!decide (holR n (mu i) s.1 < 0), if (win (mu i) 1 1000 && decide (s.1 0 + mu i ≤ 100000)) = true then (paA n (mu i).toNatClampNeg s.1, s.2) else s)
  else (!decide (opnR n s.1 < 0), if s.1 0 = 100000 then s else (paA n 1 (flA s.1 (n + 1)), s.2))
def wSt (h : mH) (Q : Nat) (s : mS) : Prop := h (Q + 1) = aI 600 s.1 ∧ h (Q + 3) = aI 40 s.2
def wFr (h h' : mH) (Q : Nat) : Prop := ∀ j, j ≠ Q + 1 → j ≠ Q + 3 → h' j = h j
theorem m_does {G : mG} {h : mH} {Q n i : Nat} {m so mu : Nat → Int32} {wd : Int64} {s : mS} (dd9 : Nat) (hd : 3 ≤ dd9) (hn : n + 1 ≤ 40) (hi : i < 41) (hQ : h Q = oMod Q (nI (n + 1)) m wd) (h5 : h (Q + 5) = aI 41 so) (h6 : h (Q + 6) = aI 41 mu) (S : wSt h Q s) : EV G m_X11_does dd9 0 0 [.ref Q, .int (nI i)] h (fun r h' => ∃ x, r = some (.int (bI x)) ∧ x = (actM n so mu i s).1 ∧ wFr h h' Q ∧ wSt h' Q (actM n so mu i s).2) := by
  obtain ⟨h1, h3⟩ := S
  refine ev_2_0 rfl rfl (by decide +kernel) (by decide +kernel) ?_
  by_cases c3 : so i < 3
  · have fin : ∀ b : Bool, decide (so i = 1) = b → Z G m_X11_does dd9 0 0 0 0 32 [some (.ref Q), some (.int (nI i))] [.int (bI b), .int (mu i), .ref Q] h (fun r h' => ∃ x, r = some (.int (bI x)) ∧ x = (actM n so mu i s).1 ∧ wFr h h' Q ∧ wSt h' Q (actM n so mu i s).2) := by
      intro b hb
      have ea : actM n so mu i s = (!decide (fldR n (mu i) b s.1 < 0), if agF n (mu i) b s.1 < 0 then s else (fldA n (mu i) b s.1 s.2, flL n (mu i) b s.1 s.2)) := by unfold actM; rw [if_pos c3, hb]
      have go : ∀ h', h' = (if agF n (mu i) b s.1 < 0 then h else hu (hu h (Q + 3) (aI 40 (flL n (mu i) b s.1 s.2))) (Q + 1) (aI 600 (fldA n (mu i) b s.1 s.2))) → wFr h h' Q ∧ wSt h' Q (actM n so mu i s).2 := by
        intro h' e
        subst e
        rw [ea]
        by_cases c : agF n (mu i) b s.1 < 0
        · simp only [if_pos c]
          exact ⟨fun _ _ _ => rfl, h1, h3⟩
        · simp only [if_neg c]
          exact ⟨fun j a b => by rw [hu_n a, hu_n b], hu_s, (hu_n (by omega)).trans hu_s⟩
      refine z_v2 (n := 35) (idx := 183) (by decide +kernel) ml_X11_183 (by assumption) rfl (Nat.le_of_ble_eq_true rfl) (by omega) ⟨Nat.le_refl _, Nat.le_refl _⟩ (m_fold (n := n) (a := s.1) (l := s.2) (x := mu i) (right := b) 2 (by omega) hQ h1 hn h3) ?_
      refine z_if_lt (n := 38) (off := 7) (tgt := 42) (by decide +kernel) (fun c35 => ?_) (fun c35 => ?_)
      · refine z_iconst (n := 43) (q := 0) (v := 0) (by decide +kernel) ?_
        first | refine z_zr1 (by decide +kernel) rfl (Nat.le_refl _) ?_ | refine z_zr0 (by decide +kernel) rfl (Nat.le_refl _) ?_ | refine z_zrb (by decide +kernel) rfl (Nat.le_refl _) ?_
        first | (have z9 : fldR n (mu i) b s.1 < 0 := c35; exact ⟨false, rfl, by rw [ea, decide_eq_true z9]; rfl, go _ rfl⟩) | (have z9 : ¬ fldR n (mu i) b s.1 < 0 := c35; exact ⟨true, rfl, by rw [ea, decide_eq_false z9]; rfl, go _ rfl⟩)
      · refine z_iconst (n := 39) (q := 1) (v := 1) (by decide +kernel) ?_
        refine z_goto (n := 42) (off := 4) (tgt := 43) (by decide +kernel) ?_
        first | refine z_zr1 (by decide +kernel) rfl (Nat.le_refl _) ?_ | refine z_zr0 (by decide +kernel) rfl (Nat.le_refl _) ?_ | refine z_zrb (by decide +kernel) rfl (Nat.le_refl _) ?_
        first | (have z9 : fldR n (mu i) b s.1 < 0 := c35; exact ⟨false, rfl, by rw [ea, decide_eq_true z9]; rfl, go _ rfl⟩) | (have z9 : ¬ fldR n (mu i) b s.1 < 0 := c35; exact ⟨true, rfl, by rw [ea, decide_eq_false z9]; rfl, go _ rfl⟩)
    refine z_ald0 (n := 1) (by decide +kernel) ?_
    refine z_getf (n := 4) (idx := 32) (by decide +kernel) fl_X11_32 (by assumption) (by rfl) ?_
    refine z_ild1 (n := 5) (by decide +kernel) ?_
    refine z_iald (n := 6) (by decide +kernel) (by assumption) (by first | assumption | exact ix_nI (by omega) (by omega)) ?_
    refine z_iconst (n := 7) (q := 3) (v := 3) (by decide +kernel) ?_
    refine z_icmp_ge_f (n := 10) (off := 37) (tgt := 44) (by decide +kernel) (Int32.not_le.mpr c3) ?_
    refine z_ald0 (n := 11) (by decide +kernel) ?_
    refine z_ald0 (n := 12) (by decide +kernel) ?_
    refine z_getf (n := 15) (idx := 35) (by decide +kernel) fl_X11_35 (by assumption) (by rfl) ?_
    refine z_ild1 (n := 16) (by decide +kernel) ?_
    refine z_iald (n := 17) (by decide +kernel) (by assumption) (by first | assumption | exact ix_nI (by omega) (by omega)) ?_
    refine z_ald0 (n := 18) (by decide +kernel) ?_
    refine z_getf (n := 21) (idx := 32) (by decide +kernel) fl_X11_32 (by assumption) (by rfl) ?_
    refine z_ild1 (n := 22) (by decide +kernel) ?_
    refine z_iald (n := 23) (by decide +kernel) (by assumption) (by first | assumption | exact ix_nI (by omega) (by omega)) ?_
    refine z_iconst (n := 24) (q := 1) (v := 1) (by decide +kernel) ?_
    refine z_icmp_ne (n := 27) (off := 7) (tgt := 31) (by decide +kernel) (fun c24 => ?_) (fun c24 => ?_)
    · refine z_iconst (n := 32) (q := 0) (v := 0) (by decide +kernel) ?_
      first | exact fin false (decide_eq_false c24) | exact fin true (decide_eq_true c24)
    · refine z_iconst (n := 28) (q := 1) (v := 1) (by decide +kernel) ?_
      refine z_goto (n := 31) (off := 4) (tgt := 32) (by decide +kernel) ?_
      first | exact fin false (decide_eq_false c24) | exact fin true (decide_eq_true c24)
  · by_cases c33 : so i = 3
    · have ea : actM n so mu i s = (!decide (holR n (mu i) s.1 < 0), if (win (mu i) 1 1000 && decide (s.1 0 + mu i ≤ 100000)) = true then (paA n (mu i).toNatClampNeg s.1, s.2) else s) := by unfold actM; rw [if_neg c3, if_pos c33]
      have go : ∀ h', h' = (if (win (mu i) 1 1000 && decide (s.1 0 + mu i ≤ 100000)) = true then hu h (Q + 1) (aI 600 (paA n (mu i).toNatClampNeg s.1)) else h) → wFr h h' Q ∧ wSt h' Q (actM n so mu i s).2 := by
        intro h' e
        subst e
        rw [ea]
        by_cases c : (win (mu i) 1 1000 && decide (s.1 0 + mu i ≤ 100000)) = true
        · simp only [if_pos c]
          exact ⟨fun j a b => hu_n a, hu_s, (hu_n (by omega)).trans h3⟩
        · simp only [if_neg c]
          exact ⟨fun _ _ _ => rfl, h1, h3⟩
      refine z_ald0 (n := 1) (by decide +kernel) ?_
      refine z_getf (n := 4) (idx := 32) (by decide +kernel) fl_X11_32 (by assumption) (by rfl) ?_
      refine z_ild1 (n := 5) (by decide +kernel) ?_
      refine z_iald (n := 6) (by decide +kernel) (by assumption) (by first | assumption | exact ix_nI (by omega) (by omega)) ?_
      refine z_iconst (n := 7) (q := 3) (v := 3) (by decide +kernel) ?_
      refine z_icmp_ge_t (n := 10) (off := 37) (tgt := 44) (by decide +kernel) (Int32.not_lt.mp c3) ?_
      refine z_ald0 (n := 45) (by decide +kernel) ?_
      refine z_getf (n := 48) (idx := 32) (by decide +kernel) fl_X11_32 (by assumption) (by rfl) ?_
      refine z_ild1 (n := 49) (by decide +kernel) ?_
      refine z_iald (n := 50) (by decide +kernel) (by assumption) (by first | assumption | exact ix_nI (by omega) (by omega)) ?_
      refine z_iconst (n := 51) (q := 3) (v := 3) (by decide +kernel) ?_
      refine z_icmp_ne_f (n := 54) (off := 24) (tgt := 75) (by decide +kernel) (c33) ?_
      refine z_ald0 (n := 55) (by decide +kernel) ?_
      refine z_ald0 (n := 56) (by decide +kernel) ?_
      refine z_getf (n := 59) (idx := 35) (by decide +kernel) fl_X11_35 (by assumption) (by rfl) ?_
      refine z_ild1 (n := 60) (by decide +kernel) ?_
      refine z_iald (n := 61) (by decide +kernel) (by assumption) (by first | assumption | exact ix_nI (by omega) (by omega)) ?_
      refine z_v1 (n := 64) (idx := 186) (by decide +kernel) ml_X11_186 (by assumption) rfl (Nat.le_of_ble_eq_true rfl) (by omega) ⟨Nat.le_refl _, Nat.le_refl _⟩ (m_hold (n := n) (a := s.1) (x := mu i) 2 (by omega) hQ h1 hn) ?_
      refine z_if_lt (n := 67) (off := 7) (tgt := 71) (by decide +kernel) (fun c64 => ?_) (fun c64 => ?_)
      · refine z_iconst (n := 72) (q := 0) (v := 0) (by decide +kernel) ?_
        refine z_goto (n := 75) (off := 15) (tgt := 87) (by decide +kernel) ?_
        first | refine z_zr1 (by decide +kernel) rfl (Nat.le_refl _) ?_ | refine z_zr0 (by decide +kernel) rfl (Nat.le_refl _) ?_ | refine z_zrb (by decide +kernel) rfl (Nat.le_refl _) ?_
        first | (have z9 : holR n (mu i) s.1 < 0 := c64; exact ⟨false, rfl, by rw [ea, decide_eq_true z9]; rfl, go _ rfl⟩) | (have z9 : ¬ holR n (mu i) s.1 < 0 := c64; exact ⟨true, rfl, by rw [ea, decide_eq_false z9]; rfl, go _ rfl⟩)
      · refine z_iconst (n := 68) (q := 1) (v := 1) (by decide +kernel) ?_
        refine z_goto (n := 71) (off := 19) (tgt := 87) (by decide +kernel) ?_
        first | refine z_zr1 (by decide +kernel) rfl (Nat.le_refl _) ?_ | refine z_zr0 (by decide +kernel) rfl (Nat.le_refl _) ?_ | refine z_zrb (by decide +kernel) rfl (Nat.le_refl _) ?_
        first | (have z9 : holR n (mu i) s.1 < 0 := c64; exact ⟨false, rfl, by rw [ea, decide_eq_true z9]; rfl, go _ rfl⟩) | (have z9 : ¬ holR n (mu i) s.1 < 0 := c64; exact ⟨true, rfl, by rw [ea, decide_eq_false z9]; rfl, go _ rfl⟩)
    · have ea : actM n so mu i s = (!decide (opnR n s.1 < 0), if s.1 0 = 100000 then s else (paA n 1 (flA s.1 (n + 1)), s.2)) := by unfold actM; rw [if_neg c3, if_neg c33]
      have go : ∀ h', h' = (if s.1 0 = 100000 then h else hu h (Q + 1) (aI 600 (paA n 1 (flA s.1 (n + 1))))) → wFr h h' Q ∧ wSt h' Q (actM n so mu i s).2 := by
        intro h' e
        subst e
        rw [ea]
        by_cases c : s.1 0 = 100000
        · simp only [if_pos c]
          exact ⟨fun _ _ _ => rfl, h1, h3⟩
        · simp only [if_neg c]
          exact ⟨fun j a b => hu_n a, hu_s, (hu_n (by omega)).trans h3⟩
      refine z_ald0 (n := 1) (by decide +kernel) ?_
      refine z_getf (n := 4) (idx := 32) (by decide +kernel) fl_X11_32 (by assumption) (by rfl) ?_
      refine z_ild1 (n := 5) (by decide +kernel) ?_
      refine z_iald (n := 6) (by decide +kernel) (by assumption) (by first | assumption | exact ix_nI (by omega) (by omega)) ?_
      refine z_iconst (n := 7) (q := 3) (v := 3) (by decide +kernel) ?_
      refine z_icmp_ge_t (n := 10) (off := 37) (tgt := 44) (by decide +kernel) (Int32.not_lt.mp c3) ?_
      refine z_ald0 (n := 45) (by decide +kernel) ?_
      refine z_getf (n := 48) (idx := 32) (by decide +kernel) fl_X11_32 (by assumption) (by rfl) ?_
      refine z_ild1 (n := 49) (by decide +kernel) ?_
      refine z_iald (n := 50) (by decide +kernel) (by assumption) (by first | assumption | exact ix_nI (by omega) (by omega)) ?_
      refine z_iconst (n := 51) (q := 3) (v := 3) (by decide +kernel) ?_
      refine z_icmp_ne_t (n := 54) (off := 24) (tgt := 75) (by decide +kernel) (c33) ?_
      refine z_ald0 (n := 76) (by decide +kernel) ?_
      refine z_v0 (n := 79) (idx := 189) (by decide +kernel) ml_X11_189 (by assumption) rfl (Nat.le_of_ble_eq_true rfl) (by omega) ⟨Nat.le_refl _, Nat.le_refl _⟩ (m_open (n := n) (a := s.1) 2 (by omega) hQ h1 hn) ?_
      refine z_if_lt (n := 82) (off := 7) (tgt := 86) (by decide +kernel) (fun c79 => ?_) (fun c79 => ?_)
      · refine z_iconst (n := 87) (q := 0) (v := 0) (by decide +kernel) ?_
        first | refine z_zr1 (by decide +kernel) rfl (Nat.le_refl _) ?_ | refine z_zr0 (by decide +kernel) rfl (Nat.le_refl _) ?_ | refine z_zrb (by decide +kernel) rfl (Nat.le_refl _) ?_
        first | (have z9 : opnR n s.1 < 0 := c79; exact ⟨false, rfl, by rw [ea, decide_eq_true z9]; rfl, go _ rfl⟩) | (have z9 : ¬ opnR n s.1 < 0 := c79; exact ⟨true, rfl, by rw [ea, decide_eq_false z9]; rfl, go _ rfl⟩)
      · refine z_iconst (n := 83) (q := 1) (v := 1) (by decide +kernel) ?_
        refine z_goto (n := 86) (off := 4) (tgt := 87) (by decide +kernel) ?_
        first | refine z_zr1 (by decide +kernel) rfl (Nat.le_refl _) ?_ | refine z_zr0 (by decide +kernel) rfl (Nat.le_refl _) ?_ | refine z_zrb (by decide +kernel) rfl (Nat.le_refl _) ?_
        first | (have z9 : opnR n s.1 < 0 := c79; exact ⟨false, rfl, by rw [ea, decide_eq_true z9]; rfl, go _ rfl⟩) | (have z9 : ¬ opnR n s.1 < 0 := c79; exact ⟨true, rfl, by rw [ea, decide_eq_false z9]; rfl, go _ rfl⟩)
theorem m_hasActs {G : mG} {h : mH} {Q n k b : Nat} {m so un vb : Nat → Int32} {wd : Int64} (dd9 : Nat) (hk : k < b) (hb : b ≤ 40) (hQ : h Q = oMod Q (nI (n + 1)) m wd) (h5 : h (Q + 5) = aI 41 so) (h8 : h (Q + 8) = aI 41 un) (hu9 : un k = nI b) (hs : ∀ i, i < b → (vb i = 3 → so i = 5) ∧ (¬ vb i = 3 → so i < 5)) : EV G m_X11_hasActs dd9 0 0 [.ref Q, .int (nI k)] h (RE (some (.int (bI (anyA vb (k + 1) (b - (k + 1)))))) h) := by
  refine ev_2_1 rfl rfl (by decide +kernel) (by decide +kernel) ?_
  have hk1 : k < 41 := by omega
  refine z_ild1 (n := 1) (by decide +kernel) ?_
  refine z_iconst (n := 2) (q := 1) (v := 1) (by decide +kernel) ?_
  refine z_iadd (n := 3) (by decide +kernel) ?_
  refine z_top (nI_1 _) ?_
  refine z_ist2 (n := 4) (by decide +kernel) rfl ?_
  skip
  have lp : ∀ w j, j + w = b → Z G m_X11_hasActs dd9 0 0 0 0 4 [some (.ref Q), some (.int (nI k)), some (.int (nI j))] [] h (RE (some (.int (bI (anyA vb j w)))) h) := by
    intro w
    induction w with
    | zero =>
      intro j hj
      refine z_ild2 (n := 5) (by decide +kernel) ?_
      refine z_ald0 (n := 6) (by decide +kernel) ?_
      refine z_getf (n := 9) (idx := 41) (by decide +kernel) fl_X11_41 (by assumption) (by rfl) ?_
      refine z_ild1 (n := 10) (by decide +kernel) ?_
      refine z_iald (n := 11) (by decide +kernel) (by assumption) (by first | assumption | exact ix_nI (by omega) (by omega)) ?_
      refine z_top hu9 ?_
      refine z_icmp_ge_t (n := 14) (off := 21) (tgt := 32) (by decide +kernel) (by rw [show j = b by omega]; exact Int32.le_refl _) ?_
      refine z_iconst (n := 33) (q := 0) (v := 0) (by decide +kernel) ?_
      first | refine z_zr1 (by decide +kernel) rfl (Nat.le_refl _) ?_ | refine z_zr0 (by decide +kernel) rfl (Nat.le_refl _) ?_ | refine z_zrb (by decide +kernel) rfl (Nat.le_refl _) ?_
      exact ⟨rfl, rfl⟩
    | succ w ih =>
      intro j hj
      have hj1 : j < 41 := by omega
      obtain ⟨s1, s2⟩ := hs j (by omega)
      by_cases c : vb j = 3
      · rw [anyA, if_pos c]
        refine z_ild2 (n := 5) (by decide +kernel) ?_
        refine z_ald0 (n := 6) (by decide +kernel) ?_
        refine z_getf (n := 9) (idx := 41) (by decide +kernel) fl_X11_41 (by assumption) (by rfl) ?_
        refine z_ild1 (n := 10) (by decide +kernel) ?_
        refine z_iald (n := 11) (by decide +kernel) (by assumption) (by first | assumption | exact ix_nI (by omega) (by omega)) ?_
        refine z_top hu9 ?_
        refine z_icmp_ge_f (n := 14) (off := 21) (tgt := 32) (by decide +kernel) (nI_ge (by omega) (by omega)) ?_
        refine z_ald0 (n := 15) (by decide +kernel) ?_
        refine z_getf (n := 18) (idx := 32) (by decide +kernel) fl_X11_32 (by assumption) (by rfl) ?_
        refine z_ild2 (n := 19) (by decide +kernel) ?_
        refine z_iald (n := 20) (by decide +kernel) (by assumption) (by first | assumption | exact ix_nI (by omega) (by omega)) ?_
        refine z_iconst (n := 21) (q := 5) (v := 5) (by decide +kernel) ?_
        refine z_icmp_ge_t (n := 24) (off := 5) (tgt := 26) (by decide +kernel) (by rw [s1 c]; exact Int32.le_refl _) ?_
        refine z_inc2 (n := 29) (q := 1) (by decide +kernel) rfl (nI_1 _) ?_
        refine z_goto (n := 32) (off := -25) (tgt := 4) (by decide +kernel) ?_
        exact ih (j + 1) (by omega)
      · rw [anyA, if_neg c]
        refine z_ild2 (n := 5) (by decide +kernel) ?_
        refine z_ald0 (n := 6) (by decide +kernel) ?_
        refine z_getf (n := 9) (idx := 41) (by decide +kernel) fl_X11_41 (by assumption) (by rfl) ?_
        refine z_ild1 (n := 10) (by decide +kernel) ?_
        refine z_iald (n := 11) (by decide +kernel) (by assumption) (by first | assumption | exact ix_nI (by omega) (by omega)) ?_
        refine z_top hu9 ?_
        refine z_icmp_ge_f (n := 14) (off := 21) (tgt := 32) (by decide +kernel) (nI_ge (by omega) (by omega)) ?_
        refine z_ald0 (n := 15) (by decide +kernel) ?_
        refine z_getf (n := 18) (idx := 32) (by decide +kernel) fl_X11_32 (by assumption) (by rfl) ?_
        refine z_ild2 (n := 19) (by decide +kernel) ?_
        refine z_iald (n := 20) (by decide +kernel) (by assumption) (by first | assumption | exact ix_nI (by omega) (by omega)) ?_
        refine z_iconst (n := 21) (q := 5) (v := 5) (by decide +kernel) ?_
        refine z_icmp_ge_f (n := 24) (off := 5) (tgt := 26) (by decide +kernel) (Int32.not_le.mpr (s2 c)) ?_
        refine z_iconst (n := 25) (q := 1) (v := 1) (by decide +kernel) ?_
        first | refine z_zr1 (by decide +kernel) rfl (Nat.le_refl _) ?_ | refine z_zr0 (by decide +kernel) rfl (Nat.le_refl _) ?_ | refine z_zrb (by decide +kernel) rfl (Nat.le_refl _) ?_
        exact ⟨rfl, rfl⟩
  exact lp (b - (k + 1)) (k + 1) (by omega)
