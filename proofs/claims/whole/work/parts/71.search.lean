/-! Search: what it holds; is the pattern the one that was told? -/
abbrev sS : Type := (Nat → Int32) × (Nat → Bool) × (Nat → Nat)
def lvl (h : mH) (S n q : Nat) (st : sS) : Prop := ∃ tl pl ly up ht sg, stp h (S + 22 + 5 * q) 12 n tl pl ly up ht ∧ h (S + 3 + 1 + q) = aI 12 sg ∧ (∀ u, u < n → pl u = st.1 u ∧ up u = st.2.1 u) ∧ ∀ p, p + 1 < n → sg (p + 1) = nI (st.2.2 (p + 1))
def scr (h : mH) (S q : Nat) : Prop := ∃ sz tl pl ly up ht sg, stp h (S + 22 + 5 * q) 12 sz tl pl ly up ht ∧ h (S + 3 + 1 + q) = aI 12 sg
def sea (h : mH) (S n k : Nat) (wa fd : Int32) (li to : Nat → Int32) (ta : Nat → Nat → Int32) (done : Nat) (sts : Nat → sS) : Prop := h S = oSea S (nI n) (nI k) wa fd ∧ h (S + 1) = aI 3 li ∧ seaC h S 4 ∧ (∀ q, q < 4 → scr h S q) ∧ (∀ q, q ≤ done → lvl h S n q (sts q)) ∧ h (S + 8) = aI 12 to ∧ ∀ p, p < 12 → h (S + 9 + 1 + p) = aI 3 (ta p)
def fitB (n : Nat) (to : Nat → Int32) (sg : Nat → Nat) : Bool := allN (fun p => decide (to (p + 1) = -1) || decide (to (p + 1) = nI (sg (p + 1)))) (n - 1) 0
theorem stp_in {h h' : mH} {S N k : Nat} {tl : Int32} {pl ly : Nat → Int32} {up : Nat → Bool} {ht : Nat → Int32} (hf : ∀ j, S ≤ j → j < S + 5 → h' j = h j) (p : stp h S N k tl pl ly up ht) : stp h' S N k tl pl ly up ht :=
  ⟨(hf _ (by omega) (by omega)).trans p.1, (hf _ (by omega) (by omega)).trans p.2.1, (hf _ (by omega) (by omega)).trans p.2.2.1, (hf _ (by omega) (by omega)).trans p.2.2.2.1, (hf _ (by omega) (by omega)).trans p.2.2.2.2⟩
theorem lvl_in {h h' : mH} {S n q : Nat} {st : sS} (h1 : ∀ j, S + 22 + 5 * q ≤ j → j < S + 22 + 5 * q + 5 → h' j = h j) (h2 : h' (S + 3 + 1 + q) = h (S + 3 + 1 + q)) (p : lvl h S n q st) : lvl h' S n q st := by
  obtain ⟨tl, pl, ly, up, ht, sg, p1, p2, p3⟩ := p
  exact ⟨tl, pl, ly, up, ht, sg, stp_in h1 p1, h2.trans p2, p3⟩
theorem scr_in {h h' : mH} {S q : Nat} (h1 : ∀ j, S + 22 + 5 * q ≤ j → j < S + 22 + 5 * q + 5 → h' j = h j) (h2 : h' (S + 3 + 1 + q) = h (S + 3 + 1 + q)) (p : scr h S q) : scr h' S q := by
  obtain ⟨sz, tl, pl, ly, up, ht, sg, p1, p2⟩ := p
  exact ⟨sz, tl, pl, ly, up, ht, sg, stp_in h1 p1, h2.trans p2⟩
theorem seaC_in {h h' : mH} {S m : Nat} (h1 : h' (S + 2) = h (S + 2)) (h2 : h' (S + 3) = h (S + 3)) (h3 : h' (S + 9) = h (S + 9)) (p : seaC h S m) : seaC h' S m := by
  obtain ⟨⟨f, p1, p2⟩, p3, p4⟩ := p
  exact ⟨⟨f, h1.trans p1, p2⟩, h2.trans p3, h3.trans p4⟩
/-- tallies: a pattern that fits is counted -/
def tck (n : Nat) (sg : Nat → Nat) (ta : Nat → Nat → Int32) (w : Nat) : Nat → Nat → Int32 := fun p => if 1 ≤ p ∧ p < w + 1 then upd (ta p) (sg p) (ta p (sg p) + 1) else ta p
theorem tck_s {n : Nat} {sg : Nat → Nat} {ta : Nat → Nat → Int32} {w p : Nat} (h : ¬ p = w + 1) : tck n sg ta (w + 1) p = tck n sg ta w p := by
  unfold tck
  by_cases c : 1 ≤ p ∧ p < w + 1
  · rw [if_pos c, if_pos (by omega)]
  · rw [if_neg c, if_neg (by omega)]
theorem k_countIf {G : mG} {h : mH} {S n k f : Nat} {wa : Int32} {li to : Nat → Int32} {ta : Nat → Nat → Int32} {sts : Nat → sS} (d : Nat) (hn2 : 2 ≤ n) (hn : n ≤ 12) (hk : k ≤ 3) (hs3 : ∀ p, p < n → (sts k).2.2 p < 3) (H : sea h S n k wa (nI f) li to ta k sts) : EV G m_X3_countIfFitting d 0 0 [.ref S] h (fun r h' => ∃ x, r = some (.int (bI x)) ∧ (frm h h' S (S + 42) ∧ ((fitB n to (sts k).2.2 = false ∧ x = false ∧ h' = h) ∨ (fitB n to (sts k).2.2 = true ∧ x = decide (wa = nI f) ∧ sea h' S n k wa (nI (f + 1)) li to (tck n (sts k).2.2 ta (n - 1)) k sts)))) := by
  have H' := H
  obtain ⟨h0, h1, ⟨⟨fS, hC1, hC2⟩, hC3, hC4⟩, hsc, hlv, h8, hta⟩ := H
  obtain ⟨tl, pl, ly, up, ht, sg, l1, l2, l3, l4⟩ := hlv k (Nat.le_refl _)
  obtain ⟨n', rfl⟩ : ∃ n', n = n' + 1 := ⟨n - 1, by omega⟩
  rw [Nat.add_sub_cancel]
  have k4 : k < 4 := by omega
  -- the tallies
  have l5 : fitB (n' + 1) to (sts k).2.2 = true → ∀ w u, u + w = n' → ∀ hX, frm h hX (S + 10) (S + 22) → (∀ p, p < 12 → hX (S + 9 + 1 + p) = aI 3 (tck (n' + 1) (sts k).2.2 ta u p)) → Z G m_X3_countIfFitting d 0 0 0 0 52 [some (.ref S), some (.ref (S + 3 + 1 + k)), some (.int (nI (u + 1)))] [] hX (fun r h' => ∃ x, r = some (.int (bI x)) ∧ (frm h h' S (S + 42) ∧ ((fitB (n' + 1) to (sts k).2.2 = false ∧ x = false ∧ h' = h) ∨ (fitB (n' + 1) to (sts k).2.2 = true ∧ x = decide (wa = nI f) ∧ sea h' S (n' + 1) k wa (nI (f + 1)) li to (tck (n' + 1) (sts k).2.2 ta n') k sts)))) := by
    intro hfit w
    induction w with
    | zero =>
      intro u hu9 hX F ht9
      have e : u = n' := by omega
      subst e
      have g0 := (F S (by omega)).trans h0
      have fin : ∀ x : Bool, x = decide (wa = nI f) → ∃ x', some (Value.int (bI x)) = some (Value.int (bI x')) ∧ (frm h (hu hX S (oSea S (nI (u + 1)) (nI k) wa (nI (f + 1)))) S (S + 42) ∧ ((fitB (u + 1) to (sts k).2.2 = false ∧ x' = false ∧ (hu hX S (oSea S (nI (u + 1)) (nI k) wa (nI (f + 1)))) = h) ∨ (fitB (u + 1) to (sts k).2.2 = true ∧ x' = decide (wa = nI f) ∧ sea (hu hX S (oSea S (nI (u + 1)) (nI k) wa (nI (f + 1)))) S (u + 1) k wa (nI (f + 1)) li to (tck (u + 1) (sts k).2.2 ta u) k sts))) := by
        intro x hx
        refine ⟨x, rfl, fun j hj => by rw [hu_n (by omega)]; exact F j (by omega), .inr ⟨hfit, hx, hu_s, ?_, seaC_in ?_ ?_ ?_ ⟨⟨fS, hC1, hC2⟩, hC3, hC4⟩, fun q hq => scr_in ?_ ?_ (hsc q hq), fun q hq => lvl_in ?_ ?_ (hlv q hq), ?_, fun p hp => ?_⟩⟩
        · rw [hu_n (by omega)]; exact (F _ (by omega)).trans h1
        · rw [hu_n (by omega)]; exact F _ (by omega)
        · rw [hu_n (by omega)]; exact F _ (by omega)
        · rw [hu_n (by omega)]; exact F _ (by omega)
        · intro j a b; rw [hu_n (by omega)]; exact F _ (by omega)
        · rw [hu_n (by omega)]; exact F _ (by omega)
        · intro j a b; rw [hu_n (by omega)]; exact F _ (by omega)
        · rw [hu_n (by omega)]; exact F _ (by omega)
        · rw [hu_n (by omega)]; exact (F _ (by omega)).trans h8
        · rw [hu_n (by omega)]; exact ht9 p hp
      by_cases c : nI f = wa
      · refine z_ild2 (n := 53) (by decide +kernel) ?_
        refine z_ald0 (n := 54) (by decide +kernel) ?_
        refine z_getf (n := 57) (idx := 35) (by decide +kernel) fl_X3_35 (by first | assumption | (simp (disch := omega) only [hu_s, hu_n]; first | assumption | rfl)) (by rfl) ?_
        refine z_icmp_ge_t (n := 60) (off := 23) (tgt := 80) (by decide +kernel) (Int32.le_refl _) ?_
        refine z_ald0 (n := 81) (by decide +kernel) ?_
        refine z_dup (n := 82) (by decide +kernel) rfl ?_
        refine z_getf (n := 85) (idx := 42) (by decide +kernel) fl_X3_42 (by first | assumption | (simp (disch := omega) only [hu_s, hu_n]; first | assumption | rfl)) (by rfl) ?_
        refine z_iconst (n := 86) (q := 1) (v := 1) (by decide +kernel) ?_
        refine z_iadd (n := 87) (by decide +kernel) ?_
        refine z_top (nI_1 _) ?_
        refine z_putf (n := 90) (idx := 42) (ty := .int) (by decide +kernel) fl_X3_42 (by first | assumption | (simp (disch := omega) only [hu_s, hu_n]; first | assumption | rfl)) ⟨_, _, _, rfl, rfl, by decide +kernel⟩ rfl rfl (Nat.le_of_ble_eq_true rfl) ?_
        refine z_ald0 (n := 91) (by decide +kernel) ?_
        refine z_getf (n := 94) (idx := 42) (by decide +kernel) fl_X3_42 (by first | assumption | (simp (disch := omega) only [hu_s, hu_n]; first | assumption | rfl)) (by rfl) ?_
        refine z_iconst (n := 95) (q := 1) (v := 1) (by decide +kernel) ?_
        refine z_isub (n := 96) (by decide +kernel) ?_
        refine z_top (nI_pred f) ?_
        refine z_ald0 (n := 97) (by decide +kernel) ?_
        refine z_getf (n := 100) (idx := 54) (by decide +kernel) fl_X3_54 (by first | assumption | (simp (disch := omega) only [hu_s, hu_n]; first | assumption | rfl)) (by rfl) ?_
        refine z_icmp_ne_f (n := 103) (off := 7) (tgt := 107) (by decide +kernel) (c) ?_
        refine z_iconst (n := 104) (q := 1) (v := 1) (by decide +kernel) ?_
        refine z_goto (n := 107) (off := 4) (tgt := 108) (by decide +kernel) ?_
        first | refine z_zr1 (by decide +kernel) rfl (Nat.le_refl _) ?_ | refine z_zr0 (by decide +kernel) rfl (Nat.le_refl _) ?_ | refine z_zrb (by decide +kernel) rfl (Nat.le_refl _) ?_
        exact fin true (decide_eq_true c.symm).symm
      · refine z_ild2 (n := 53) (by decide +kernel) ?_
        refine z_ald0 (n := 54) (by decide +kernel) ?_
        refine z_getf (n := 57) (idx := 35) (by decide +kernel) fl_X3_35 (by first | assumption | (simp (disch := omega) only [hu_s, hu_n]; first | assumption | rfl)) (by rfl) ?_
        refine z_icmp_ge_t (n := 60) (off := 23) (tgt := 80) (by decide +kernel) (Int32.le_refl _) ?_
        refine z_ald0 (n := 81) (by decide +kernel) ?_
        refine z_dup (n := 82) (by decide +kernel) rfl ?_
        refine z_getf (n := 85) (idx := 42) (by decide +kernel) fl_X3_42 (by first | assumption | (simp (disch := omega) only [hu_s, hu_n]; first | assumption | rfl)) (by rfl) ?_
        refine z_iconst (n := 86) (q := 1) (v := 1) (by decide +kernel) ?_
        refine z_iadd (n := 87) (by decide +kernel) ?_
        refine z_top (nI_1 _) ?_
        refine z_putf (n := 90) (idx := 42) (ty := .int) (by decide +kernel) fl_X3_42 (by first | assumption | (simp (disch := omega) only [hu_s, hu_n]; first | assumption | rfl)) ⟨_, _, _, rfl, rfl, by decide +kernel⟩ rfl rfl (Nat.le_of_ble_eq_true rfl) ?_
        refine z_ald0 (n := 91) (by decide +kernel) ?_
        refine z_getf (n := 94) (idx := 42) (by decide +kernel) fl_X3_42 (by first | assumption | (simp (disch := omega) only [hu_s, hu_n]; first | assumption | rfl)) (by rfl) ?_
        refine z_iconst (n := 95) (q := 1) (v := 1) (by decide +kernel) ?_
        refine z_isub (n := 96) (by decide +kernel) ?_
        refine z_top (nI_pred f) ?_
        refine z_ald0 (n := 97) (by decide +kernel) ?_
        refine z_getf (n := 100) (idx := 54) (by decide +kernel) fl_X3_54 (by first | assumption | (simp (disch := omega) only [hu_s, hu_n]; first | assumption | rfl)) (by rfl) ?_
        refine z_icmp_ne_t (n := 103) (off := 7) (tgt := 107) (by decide +kernel) (c) ?_
        refine z_iconst (n := 108) (q := 0) (v := 0) (by decide +kernel) ?_
        first | refine z_zr1 (by decide +kernel) rfl (Nat.le_refl _) ?_ | refine z_zr0 (by decide +kernel) rfl (Nat.le_refl _) ?_ | refine z_zrb (by decide +kernel) rfl (Nat.le_refl _) ?_
        exact fin false (decide_eq_false (fun z => c z.symm)).symm
    | succ w ih =>
      intro u hu9 hX F ht9
      have g0 := (F S (by omega)).trans h0
      have g9 := (F (S + 9) (by omega)).trans hC4
      have g2 := (F (S + 3 + 1 + k) (by omega)).trans l2
      have u12 : u + 1 < 12 := by omega
      have gt := ht9 (u + 1) u12
      have s3 := hs3 (u + 1) (by omega)
      have sgu := l4 u (by omega)
      have et : tck (n' + 1) (sts k).2.2 ta u (u + 1) = ta (u + 1) := by unfold tck; rw [if_neg (by omega)]
      rw [et] at gt
      have i3 : ix (sg (u + 1)) ((sts k).2.2 (u + 1)) 3 := by rw [sgu]; exact ix_nI s3 (by omega)
      refine z_ild2 (n := 53) (by decide +kernel) ?_
      refine z_ald0 (n := 54) (by decide +kernel) ?_
      refine z_getf (n := 57) (idx := 35) (by decide +kernel) fl_X3_35 (by assumption) (by rfl) ?_
      refine z_icmp_ge_f (n := 60) (off := 23) (tgt := 80) (by decide +kernel) (nI_ge (by omega) (by omega)) ?_
      refine z_ald0 (n := 61) (by decide +kernel) ?_
      refine z_getf (n := 64) (idx := 29) (by decide +kernel) fl_X3_29 (by assumption) (by rfl) ?_
      refine z_ild2 (n := 65) (by decide +kernel) ?_
      refine z_aald2 (n := 66) (by decide +kernel) (by assumption) (by first | assumption | exact ix_nI (by omega) (by omega)) (by rw [if_pos u12]) ?_
      refine z_ald1 (n := 67) (by decide +kernel) ?_
      refine z_ild2 (n := 68) (by decide +kernel) ?_
      refine z_iald (n := 69) (by decide +kernel) (by assumption) (by first | assumption | exact ix_nI (by omega) (by omega)) ?_
      refine z_dup2 (n := 70) (by decide +kernel) rfl rfl ?_
      refine z_iald (n := 71) (by decide +kernel) (by assumption) (by exact i3) ?_
      refine z_iconst (n := 72) (q := 1) (v := 1) (by decide +kernel) ?_
      refine z_iadd (n := 73) (by decide +kernel) ?_
      refine z_iast (n := 74) (by decide +kernel) (by assumption) (by exact i3) ?_
      refine z_inc2 (n := 77) (q := 1) (by decide +kernel) rfl (nI_1 _) ?_
      refine z_goto (n := 80) (off := -25) (tgt := 52) (by decide +kernel) ?_
      skip
      refine ih (u + 1) (by omega) _ (frm_tr F (fun j hj => hu_n (by omega))) (fun p hp => ?_)
      by_cases c : p = u + 1
      · subst c
        rw [hu_s]
        refine congrArg (aI 3) ?_
        unfold tck
        rw [if_pos (by omega)]
      · rw [hu_n (by omega), tck_s c]
        exact ht9 p hp
  have l1 : ∀ w u, u + w = n' → fitB (n' + 1) to (sts k).2.2 = allN (fun p => decide (to (p + 1) = -1) || decide (to (p + 1) = nI ((sts k).2.2 (p + 1)))) w u → Z G m_X3_countIfFitting d 0 0 0 0 12 [some (.ref S), some (.ref (S + 3 + 1 + k)), some (.int (nI (u + 1)))] [] h (fun r h' => ∃ x, r = some (.int (bI x)) ∧ (frm h h' S (S + 42) ∧ ((fitB (n' + 1) to (sts k).2.2 = false ∧ x = false ∧ h' = h) ∨ (fitB (n' + 1) to (sts k).2.2 = true ∧ x = decide (wa = nI f) ∧ sea h' S (n' + 1) k wa (nI (f + 1)) li to (tck (n' + 1) (sts k).2.2 ta n') k sts)))) := by
    intro w
    induction w with
    | zero =>
      intro u hu9 hf
      refine z_ild2 (n := 13) (by decide +kernel) ?_
      refine z_ald0 (n := 14) (by decide +kernel) ?_
      refine z_getf (n := 17) (idx := 35) (by decide +kernel) fl_X3_35 (by assumption) (by rfl) ?_
      refine z_icmp_ge_t (n := 20) (off := 33) (tgt := 50) (by decide +kernel) (by rw [show u = n' by omega]; exact Int32.le_refl _) ?_
      refine z_iconst (n := 51) (q := 1) (v := 1) (by decide +kernel) ?_
      refine z_ist2 (n := 52) (by decide +kernel) rfl ?_
      skip
      refine z_wk (lv' := [some (.ref S), some (.ref (S + 3 + 1 + k)), some (.int (nI (0 + 1)))]) (by simp [wk]; rfl) (l5 hf n' 0 (by omega) h frm_rf (fun p hp => ?_))
      rw [show tck (n' + 1) (sts k).2.2 ta 0 p = ta p from by unfold tck; rw [if_neg (by omega)]]
      exact hta p hp
    | succ w ih =>
      intro u hu9 hf
      rw [allN] at hf
      have u12 : u + 1 < 12 := by omega
      have sgu := l4 u (by omega)
      by_cases c1 : to (u + 1) = -1
      · have hf2 := hf
        rw [decide_eq_true c1, Bool.true_or, Bool.true_and] at hf2
        refine z_ild2 (n := 13) (by decide +kernel) ?_
        refine z_ald0 (n := 14) (by decide +kernel) ?_
        refine z_getf (n := 17) (idx := 35) (by decide +kernel) fl_X3_35 (by assumption) (by rfl) ?_
        refine z_icmp_ge_f (n := 20) (off := 33) (tgt := 50) (by decide +kernel) (nI_ge (by omega) (by omega)) ?_
        refine z_ald0 (n := 21) (by decide +kernel) ?_
        refine z_getf (n := 24) (idx := 26) (by decide +kernel) fl_X3_26 (by assumption) (by rfl) ?_
        refine z_ild2 (n := 25) (by decide +kernel) ?_
        refine z_iald (n := 26) (by decide +kernel) (by assumption) (by first | assumption | exact ix_nI (by omega) (by omega)) ?_
        refine z_iconst (n := 27) (q := -1) (v := -1) (by decide +kernel) ?_
        refine z_icmp_eq_t (n := 30) (off := 17) (tgt := 44) (by decide +kernel) (c1) ?_
        refine z_inc2 (n := 47) (q := 1) (by decide +kernel) rfl (nI_1 _) ?_
        refine z_goto (n := 50) (off := -35) (tgt := 12) (by decide +kernel) ?_
        exact ih (u + 1) (by omega) hf2
      · by_cases c2 : to (u + 1) = nI ((sts k).2.2 (u + 1))
        · have hf2 := hf
          rw [decide_eq_true c2, Bool.or_true, Bool.true_and] at hf2
          refine z_ild2 (n := 13) (by decide +kernel) ?_
          refine z_ald0 (n := 14) (by decide +kernel) ?_
          refine z_getf (n := 17) (idx := 35) (by decide +kernel) fl_X3_35 (by assumption) (by rfl) ?_
          refine z_icmp_ge_f (n := 20) (off := 33) (tgt := 50) (by decide +kernel) (nI_ge (by omega) (by omega)) ?_
          refine z_ald0 (n := 21) (by decide +kernel) ?_
          refine z_getf (n := 24) (idx := 26) (by decide +kernel) fl_X3_26 (by assumption) (by rfl) ?_
          refine z_ild2 (n := 25) (by decide +kernel) ?_
          refine z_iald (n := 26) (by decide +kernel) (by assumption) (by first | assumption | exact ix_nI (by omega) (by omega)) ?_
          refine z_iconst (n := 27) (q := -1) (v := -1) (by decide +kernel) ?_
          refine z_icmp_eq_f (n := 30) (off := 17) (tgt := 44) (by decide +kernel) (c1) ?_
          refine z_ald0 (n := 31) (by decide +kernel) ?_
          refine z_getf (n := 34) (idx := 26) (by decide +kernel) fl_X3_26 (by assumption) (by rfl) ?_
          refine z_ild2 (n := 35) (by decide +kernel) ?_
          refine z_iald (n := 36) (by decide +kernel) (by assumption) (by first | assumption | exact ix_nI (by omega) (by omega)) ?_
          refine z_ald1 (n := 37) (by decide +kernel) ?_
          refine z_ild2 (n := 38) (by decide +kernel) ?_
          refine z_iald (n := 39) (by decide +kernel) (by assumption) (by first | assumption | exact ix_nI (by omega) (by omega)) ?_
          refine z_top sgu ?_
          refine z_icmp_eq_t (n := 42) (off := 5) (tgt := 44) (by decide +kernel) (c2) ?_
          refine z_inc2 (n := 47) (q := 1) (by decide +kernel) rfl (nI_1 _) ?_
          refine z_goto (n := 50) (off := -35) (tgt := 12) (by decide +kernel) ?_
          exact ih (u + 1) (by omega) hf2
        · have hf2 := hf
          rw [decide_eq_false c1, decide_eq_false c2, Bool.false_or, Bool.false_and] at hf2
          refine z_ild2 (n := 13) (by decide +kernel) ?_
          refine z_ald0 (n := 14) (by decide +kernel) ?_
          refine z_getf (n := 17) (idx := 35) (by decide +kernel) fl_X3_35 (by assumption) (by rfl) ?_
          refine z_icmp_ge_f (n := 20) (off := 33) (tgt := 50) (by decide +kernel) (nI_ge (by omega) (by omega)) ?_
          refine z_ald0 (n := 21) (by decide +kernel) ?_
          refine z_getf (n := 24) (idx := 26) (by decide +kernel) fl_X3_26 (by assumption) (by rfl) ?_
          refine z_ild2 (n := 25) (by decide +kernel) ?_
          refine z_iald (n := 26) (by decide +kernel) (by assumption) (by first | assumption | exact ix_nI (by omega) (by omega)) ?_
          refine z_iconst (n := 27) (q := -1) (v := -1) (by decide +kernel) ?_
          refine z_icmp_eq_f (n := 30) (off := 17) (tgt := 44) (by decide +kernel) (c1) ?_
          refine z_ald0 (n := 31) (by decide +kernel) ?_
          refine z_getf (n := 34) (idx := 26) (by decide +kernel) fl_X3_26 (by assumption) (by rfl) ?_
          refine z_ild2 (n := 35) (by decide +kernel) ?_
          refine z_iald (n := 36) (by decide +kernel) (by assumption) (by first | assumption | exact ix_nI (by omega) (by omega)) ?_
          refine z_ald1 (n := 37) (by decide +kernel) ?_
          refine z_ild2 (n := 38) (by decide +kernel) ?_
          refine z_iald (n := 39) (by decide +kernel) (by assumption) (by first | assumption | exact ix_nI (by omega) (by omega)) ?_
          refine z_top sgu ?_
          refine z_icmp_eq_f (n := 42) (off := 5) (tgt := 44) (by decide +kernel) (c2) ?_
          refine z_iconst (n := 43) (q := 0) (v := 0) (by decide +kernel) ?_
          first | refine z_zr1 (by decide +kernel) rfl (Nat.le_refl _) ?_ | refine z_zr0 (by decide +kernel) rfl (Nat.le_refl _) ?_ | refine z_zrb (by decide +kernel) rfl (Nat.le_refl _) ?_
          exact ⟨false, rfl, frm_rf, .inl ⟨hf2, rfl, rfl⟩⟩
  refine ev_1_2 rfl (by decide +kernel) (by decide +kernel) ?_
  refine z_ald0 (n := 1) (by decide +kernel) ?_
  refine z_getf (n := 4) (idx := 23) (by decide +kernel) fl_X3_23 (by assumption) (by rfl) ?_
  refine z_ald0 (n := 5) (by decide +kernel) ?_
  refine z_getf (n := 8) (idx := 39) (by decide +kernel) fl_X3_39 (by assumption) (by rfl) ?_
  refine z_aald2 (n := 9) (by decide +kernel) (by assumption) (by first | assumption | exact ix_nI (by omega) (by omega)) (by rw [if_pos k4]) ?_
  refine z_ast1 (n := 10) (by decide +kernel) rfl ?_
  refine z_iconst (n := 11) (q := 1) (v := 1) (by decide +kernel) ?_
  refine z_ist2 (n := 12) (by decide +kernel) rfl ?_
  skip
  exact z_wk (lv' := [some (.ref S), some (.ref (S + 3 + 1 + k)), some (.int (nI (0 + 1)))]) (by simp [wk]; rfl) (l1 n' 0 (by omega) rfl)
