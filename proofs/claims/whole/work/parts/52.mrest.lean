/-! CreasedPaperModel: what is easily told -/
def cpA (f t : Nat → Int32) (k : Nat) : Nat → Int32 := fun j => if j < k then f j else t j
theorem cpA_0 {f t : Nat → Int32} : cpA f t 0 = t := by funext j; simp [cpA]
theorem cpA_s {f t : Nat → Int32} {k : Nat} : upd (cpA f t k) k (f k) = cpA f t (k + 1) := by
  funext j
  unfold upd cpA
  by_cases c : j = k
  · subst c; simp
  · by_cases d : j < k
    · simp [c, d, show j < k + 1 by omega]
    · simp [c, d, show ¬ j < k + 1 by omega]
theorem m_copy {G : mG} {h : mH} {A B : Nat} {f t : Nat → Int32} (d : Nat) (hAB : A ≠ B) (hA : h A = aI 600 f) (hB : h B = aI 600 t) : EV G m_X11_copy d 0 0 [.ref A, .ref B] h (RE none (hu h B (aI 600 (cpA f t 600)))) := by
  refine ev_2_1 rfl rfl (by decide +kernel) (by decide +kernel) ?_
  refine z_iconst (n := 1) (q := 0) (v := 0) (by decide +kernel) ?_
  refine z_ist2 (n := 2) (by decide +kernel) rfl ?_
  have lp : ∀ w k, k + w = 600 → ∀ h1, h1 A = aI 600 f → h1 B = aI 600 (cpA f t k) → (∀ j, j ≠ B → h1 j = h j) → Z G m_X11_copy d 0 0 0 0 2 [some (.ref A), some (.ref B), some (.int (nI k))] [] h1 (RE none (hu h B (aI 600 (cpA f t 600)))) := by
    intro w
    induction w with
    | zero =>
      intro k hk h1 e1 e2 e3
      refine z_ild2 (n := 3) (by decide +kernel) ?_
      refine z_sipush (n := 6) (q := 600) (v := 600) (by decide +kernel) ?_
      refine z_icmp_ge_t (n := 9) (off := 15) (tgt := 21) (by decide +kernel) (by rw [show k = 600 by omega]; decide) ?_
      refine z_vret (by decide +kernel) rfl (Nat.le_refl _) ?_
      refine ⟨rfl, ?_⟩; funext j; by_cases c : j = B; (subst c; rw [hu_s, e2, show k = 600 by omega]); rw [hu_n c, e3 j c]
    | succ w ih =>
      intro k hk h1 e1 e2 e3
      refine z_ild2 (n := 3) (by decide +kernel) ?_
      refine z_sipush (n := 6) (q := 600) (v := 600) (by decide +kernel) ?_
      refine z_icmp_ge_f (n := 9) (off := 15) (tgt := 21) (by decide +kernel) (nI_ge (b := 600) (by omega) (by omega)) ?_
      refine z_ald1 (n := 10) (by decide +kernel) ?_
      refine z_ild2 (n := 11) (by decide +kernel) ?_
      refine z_ald0 (n := 12) (by decide +kernel) ?_
      refine z_ild2 (n := 13) (by decide +kernel) ?_
      refine z_iald (n := 14) (by decide +kernel) (by assumption) (by first | assumption | exact ix_nI (by omega) (by omega)) ?_
      refine z_iast (n := 15) (by decide +kernel) (by assumption) (by first | assumption | exact ix_nI (by omega) (by omega)) ?_
      refine z_inc2 (n := 18) (q := 1) (by decide +kernel) rfl (nI_1 _) ?_
      refine z_goto (n := 21) (off := -16) (tgt := 2) (by decide +kernel) ?_
      exact ih (k + 1) (by omega) _ ((hu_n hAB).trans e1) (by rw [hu_s, cpA_s]) (fun j hj => (hu_n hj).trans (e3 j hj))
  exact lp 600 0 (by omega) h hA (by rw [cpA_0]; exact hB) (fun _ _ => rfl)
theorem m_image {G : mG} {h : mH} {Q n : Nat} {m : Nat → Int32} {wd : Int64} {a : Nat → Int32} {im : Nat → Int32} (d : Nat) (hd : 1 ≤ d) (hQ : h Q = oMod Q (nI (n + 1)) m wd) (hA : h (Q + 1) = aI 600 a) (hn : n + 1 ≤ 40) (hI : h (Q + 2) = aI 600 im) : EV G m_X11_image d 0 0 [.ref Q] h (RE (some (.int (a 0))) (hu h (Q + 2) (aI 600 (cpA a im 600)))) := by
  refine ev_1_0 rfl (by decide +kernel) (by decide +kernel) ?_
  refine z_ald0 (n := 1) (by decide +kernel) ?_
  refine z_getf (n := 4) (idx := 7) (by decide +kernel) fl_X11_7 (by first | assumption | (simp (disch := omega) only [hu_s, hu_n]; first | assumption | rfl)) (by rfl) ?_
  refine z_ald0 (n := 5) (by decide +kernel) ?_
  refine z_getf (n := 8) (idx := 13) (by decide +kernel) fl_X11_13 (by first | assumption | (simp (disch := omega) only [hu_s, hu_n]; first | assumption | rfl)) (by rfl) ?_
  refine z_s2v (n := 11) (idx := 77) (by decide +kernel) ml_X11_77 (Nat.le_of_ble_eq_true rfl) (by omega) ⟨Nat.le_refl _, Nat.le_refl _⟩ (m_copy 0 (by omega) hA hI) ?_
  refine z_ald0 (n := 12) (by decide +kernel) ?_
  refine z_getf (n := 15) (idx := 7) (by decide +kernel) fl_X11_7 (by first | assumption | (simp (disch := omega) only [hu_s, hu_n]; first | assumption | rfl)) (by rfl) ?_
  refine z_iconst (n := 16) (q := 0) (v := 0) (by decide +kernel) ?_
  refine z_iald (n := 17) (by decide +kernel) (by first | assumption | (simp (disch := omega) only [hu_s, hu_n]; first | assumption | rfl)) (by first | assumption | exact ix_nI (by omega) (by omega) | exact ix_of (by simp only [n_0, n_1, n_2, n_3, n_4, n_5, n_6, n_7, n_8, n_10, n_50, n_90, n_130, n_370, n_570, nI_add, pk_mul]; rfl) (by omega) (by omega)) ?_
  refine z_iret (by decide +kernel) rfl (Nat.le_refl _) ?_
  exact ⟨rfl, rfl⟩
theorem m_back {G : mG} {h : mH} {Q n : Nat} {m : Nat → Int32} {wd : Int64} {a : Nat → Int32} {im : Nat → Int32} (d : Nat) (hd : 1 ≤ d) (hQ : h Q = oMod Q (nI (n + 1)) m wd) (hA : h (Q + 1) = aI 600 a) (hn : n + 1 ≤ 40) (hI : h (Q + 2) = aI 600 im) : EV G m_X11_back d 0 0 [.ref Q] h (RE (some (.int (im 0))) (hu h (Q + 1) (aI 600 (cpA im a 600)))) := by
  refine ev_1_0 rfl (by decide +kernel) (by decide +kernel) ?_
  refine z_ald0 (n := 1) (by decide +kernel) ?_
  refine z_getf (n := 4) (idx := 13) (by decide +kernel) fl_X11_13 (by first | assumption | (simp (disch := omega) only [hu_s, hu_n]; first | assumption | rfl)) (by rfl) ?_
  refine z_ald0 (n := 5) (by decide +kernel) ?_
  refine z_getf (n := 8) (idx := 7) (by decide +kernel) fl_X11_7 (by first | assumption | (simp (disch := omega) only [hu_s, hu_n]; first | assumption | rfl)) (by rfl) ?_
  refine z_s2v (n := 11) (idx := 77) (by decide +kernel) ml_X11_77 (Nat.le_of_ble_eq_true rfl) (by omega) ⟨Nat.le_refl _, Nat.le_refl _⟩ (m_copy 0 (by omega) hI hA) ?_
  refine z_ald0 (n := 12) (by decide +kernel) ?_
  refine z_getf (n := 15) (idx := 7) (by decide +kernel) fl_X11_7 (by first | assumption | (simp (disch := omega) only [hu_s, hu_n]; first | assumption | rfl)) (by rfl) ?_
  refine z_iconst (n := 16) (q := 0) (v := 0) (by decide +kernel) ?_
  refine z_iald (n := 17) (by decide +kernel) (by first | assumption | (simp (disch := omega) only [hu_s, hu_n]; first | assumption | rfl)) (by first | assumption | exact ix_nI (by omega) (by omega) | exact ix_of (by simp only [n_0, n_1, n_2, n_3, n_4, n_5, n_6, n_7, n_8, n_10, n_50, n_90, n_130, n_370, n_570, nI_add, pk_mul]; rfl) (by omega) (by omega)) ?_
  refine z_iret (by decide +kernel) rfl (Nat.le_refl _) ?_
  exact ⟨rfl, rfl⟩
theorem m_isSheet {G : mG} {h : mH} {Q n : Nat} {m : Nat → Int32} {wd : Int64} {a : Nat → Int32} {x : Int32} (d : Nat) (hd : 1 ≤ d) (hQ : h Q = oMod Q (nI (n + 1)) m wd) (hA : h (Q + 1) = aI 600 a) (hn : n + 1 ≤ 40) : EV G m_X11_isSheet d 0 0 [.ref Q, .int x] h (RE (some (.int (bI (win x 0 (a 4 - 1))))) h) := by
  refine ev_2_0 rfl rfl (by decide +kernel) (by decide +kernel) ?_
  refine z_ild1 (n := 1) (by decide +kernel) ?_
  refine z_iconst (n := 2) (q := 0) (v := 0) (by decide +kernel) ?_
  refine z_ald0 (n := 3) (by decide +kernel) ?_
  refine z_getf (n := 6) (idx := 7) (by decide +kernel) fl_X11_7 (by assumption) (by rfl) ?_
  refine z_iconst (n := 7) (q := 4) (v := 4) (by decide +kernel) ?_
  refine z_iald (n := 8) (by decide +kernel) (by assumption) (by first | assumption | exact ix_nI (by omega) (by omega) | exact ix_of (by simp only [n_0, n_1, n_2, n_3, n_4, n_5, n_6, n_7, n_8, n_10, n_50, n_90, n_130, n_370, n_570, nI_add, pk_mul]; rfl) (by omega) (by omega)) ?_
  refine z_iconst (n := 9) (q := 1) (v := 1) (by decide +kernel) ?_
  refine z_isub (n := 10) (by decide +kernel) ?_
  refine z_s3 (n := 13) (idx := 81) (by decide +kernel) ml_X11_81 (Nat.le_of_ble_eq_true rfl) (by omega) ⟨Nat.le_refl _, Nat.le_refl _⟩ (m_isIn 0) ?_
  first | refine z_zr1 (by decide +kernel) rfl (Nat.le_refl _) ?_ | refine z_zr0 (by decide +kernel) rfl (Nat.le_refl _) ?_ | refine z_zrb (by decide +kernel) rfl (Nat.le_refl _) ?_
  exact ⟨rfl, rfl⟩
theorem m_look {G : mG} {h : mH} {Q n : Nat} {m : Nat → Int32} {wd : Int64} {a : Nat → Int32} {x : Int32} (d : Nat) (hd : 1 ≤ d) (hQ : h Q = oMod Q (nI (n + 1)) m wd) (hA : h (Q + 1) = aI 600 a) (hn : n + 1 ≤ 40) : EV G m_X11_look d 0 0 [.ref Q, .int x] h (RE (some (.int (bI (win x 0 (a 2))))) (if win x 0 (a 2) = true then hu h (Q + 1) (aI 600 (upd a 3 x)) else h)) := by
  refine ev_2_0 rfl rfl (by decide +kernel) (by decide +kernel) ?_
  refine z_ild1 (n := 1) (by decide +kernel) ?_
  refine z_iconst (n := 2) (q := 0) (v := 0) (by decide +kernel) ?_
  refine z_ald0 (n := 3) (by decide +kernel) ?_
  refine z_getf (n := 6) (idx := 7) (by decide +kernel) fl_X11_7 (by assumption) (by rfl) ?_
  refine z_iconst (n := 7) (q := 2) (v := 2) (by decide +kernel) ?_
  refine z_iald (n := 8) (by decide +kernel) (by assumption) (by first | assumption | exact ix_nI (by omega) (by omega) | exact ix_of (by simp only [n_0, n_1, n_2, n_3, n_4, n_5, n_6, n_7, n_8, n_10, n_50, n_90, n_130, n_370, n_570, nI_add, pk_mul]; rfl) (by omega) (by omega)) ?_
  refine z_s3 (n := 11) (idx := 81) (by decide +kernel) ml_X11_81 (Nat.le_of_ble_eq_true rfl) (by omega) ⟨Nat.le_refl _, Nat.le_refl _⟩ (m_isIn 0) ?_
  refine z_ifb_ne (n := 14) (off := 5) (tgt := 16) (by decide +kernel) (fun c11 => ?_) (fun c11 => ?_)
  · refine z_ald0 (n := 17) (by decide +kernel) ?_
    refine z_getf (n := 20) (idx := 7) (by decide +kernel) fl_X11_7 (by assumption) (by rfl) ?_
    refine z_iconst (n := 21) (q := 3) (v := 3) (by decide +kernel) ?_
    refine z_ild1 (n := 22) (by decide +kernel) ?_
    refine z_iast (n := 23) (by decide +kernel) (by assumption) (by first | assumption | exact ix_nI (by omega) (by omega) | exact ix_of (by simp only [n_0, n_1, n_2, n_3, n_4, n_5, n_6, n_7, n_8, n_10, n_50, n_90, n_130, n_370, n_570, nI_add, pk_mul]; rfl) (by omega) (by omega)) ?_
    refine z_iconst (n := 24) (q := 1) (v := 1) (by decide +kernel) ?_
    first | refine z_zr1 (by decide +kernel) rfl (Nat.le_refl _) ?_ | refine z_zr0 (by decide +kernel) rfl (Nat.le_refl _) ?_ | refine z_zrb (by decide +kernel) rfl (Nat.le_refl _) ?_
    simp only [c11, if_true, if_false, Bool.false_eq_true]; exact ⟨rfl, rfl⟩
  · refine z_iconst (n := 15) (q := 0) (v := 0) (by decide +kernel) ?_
    first | refine z_zr1 (by decide +kernel) rfl (Nat.le_refl _) ?_ | refine z_zr0 (by decide +kernel) rfl (Nat.le_refl _) ?_ | refine z_zrb (by decide +kernel) rfl (Nat.le_refl _) ?_
    simp only [c11, if_true, if_false, Bool.false_eq_true]; exact ⟨rfl, rfl⟩
def seeA (tm : Nat) (x z : Int32) (a : Nat → Int32) : Nat → Int32 := upd (upd (upd (upd a (370 + 2 * tm) x) (370 + 2 * tm + 1) z) 2 (nI (tm + 1))) 3 (nI (tm + 1))
theorem m_see {G : mG} {h : mH} {Q n : Nat} {m : Nat → Int32} {wd : Int64} {a : Nat → Int32} {tm : Nat} {x z : Int32} (d : Nat) (hd : 1 ≤ d) (ht : a 2 = nI tm) (htm : tm ≤ 100) (hQ : h Q = oMod Q (nI (n + 1)) m wd) (hA : h (Q + 1) = aI 600 a) (hn : n + 1 ≤ 40) : EV G m_X11_see d 0 0 [.ref Q, .int x, .int z] h (RE (some (.int (if (win x 1 11 && win z 0 2 && !decide (tm = 100)) = true then nI (tm + 1) else -1))) (if (win x 1 11 && win z 0 2 && !decide (tm = 100)) = true then hu h (Q + 1) (aI 600 (seeA tm x z a)) else h)) := by
  have hh : upd (upd a (370 + 2 * tm) x) (370 + 2 * tm + 1) z 2 = nI tm := by rw [upd_nn (by omega), upd_nn (by omega)]; exact ht
  have e100 : (nI tm = 100) = (tm = 100) := propext (nI_ij (b := 100) (by omega) (by omega))
  refine ev_3_0 rfl rfl rfl (by decide +kernel) (by decide +kernel) ?_
  by_cases c : tm = 100
  · have w0 : (win x 1 11 && win z 0 2 && !decide (tm = 100)) = false := by rw [decide_eq_true c, Bool.not_true, Bool.and_false]
    rw [w0]
    refine z_ild1 (n := 1) (by decide +kernel) ?_
    refine z_iconst (n := 2) (q := 1) (v := 1) (by decide +kernel) ?_
    refine z_bipush (n := 4) (q := 11) (v := 11) (by decide +kernel) ?_
    refine z_s3 (n := 7) (idx := 81) (by decide +kernel) ml_X11_81 (Nat.le_of_ble_eq_true rfl) (by omega) ⟨Nat.le_refl _, Nat.le_refl _⟩ (m_isIn 0) ?_
    refine z_ifb_eq (n := 10) (off := 23) (tgt := 30) (by decide +kernel) (fun c7 => ?_) (fun c7 => ?_)
    · refine z_iconst (n := 31) (q := -1) (v := -1) (by decide +kernel) ?_
      refine z_iret (by decide +kernel) rfl (Nat.le_refl _) ?_
      exact ⟨rfl, rfl⟩
    · refine z_ild2 (n := 11) (by decide +kernel) ?_
      refine z_iconst (n := 12) (q := 0) (v := 0) (by decide +kernel) ?_
      refine z_iconst (n := 13) (q := 2) (v := 2) (by decide +kernel) ?_
      refine z_s3 (n := 16) (idx := 81) (by decide +kernel) ml_X11_81 (Nat.le_of_ble_eq_true rfl) (by omega) ⟨Nat.le_refl _, Nat.le_refl _⟩ (m_isIn 0) ?_
      refine z_ifb_eq (n := 19) (off := 14) (tgt := 30) (by decide +kernel) (fun c16 => ?_) (fun c16 => ?_)
      · refine z_iconst (n := 31) (q := -1) (v := -1) (by decide +kernel) ?_
        refine z_iret (by decide +kernel) rfl (Nat.le_refl _) ?_
        exact ⟨rfl, rfl⟩
      · refine z_ald0 (n := 20) (by decide +kernel) ?_
        refine z_getf (n := 23) (idx := 7) (by decide +kernel) fl_X11_7 (by first | assumption | (simp (disch := omega) only [hu_s, hu_n]; first | assumption | rfl)) (by rfl) ?_
        refine z_iconst (n := 24) (q := 2) (v := 2) (by decide +kernel) ?_
        refine z_iald (n := 25) (by decide +kernel) (by first | assumption | (simp (disch := omega) only [hu_s, hu_n]; first | assumption | rfl)) (by first | assumption | exact ix_nI (by omega) (by omega) | exact ix_of (by simp only [n_0, n_1, n_2, n_3, n_4, n_5, n_6, n_7, n_8, n_10, n_50, n_90, n_130, n_370, n_570, nI_add, pk_mul]; rfl) (by omega) (by omega)) ?_
        refine z_top ht ?_
        refine z_bipush (n := 27) (q := 100) (v := 100) (by decide +kernel) ?_
        refine z_icmp_ne_f (n := 30) (off := 5) (tgt := 32) (by decide +kernel) (by rw [c]; rfl) ?_
        refine z_iconst (n := 31) (q := -1) (v := -1) (by decide +kernel) ?_
        refine z_iret (by decide +kernel) rfl (Nat.le_refl _) ?_
        exact ⟨rfl, rfl⟩
  · refine z_ild1 (n := 1) (by decide +kernel) ?_
    refine z_iconst (n := 2) (q := 1) (v := 1) (by decide +kernel) ?_
    refine z_bipush (n := 4) (q := 11) (v := 11) (by decide +kernel) ?_
    refine z_s3 (n := 7) (idx := 81) (by decide +kernel) ml_X11_81 (Nat.le_of_ble_eq_true rfl) (by omega) ⟨Nat.le_refl _, Nat.le_refl _⟩ (m_isIn 0) ?_
    refine z_ifb_eq (n := 10) (off := 23) (tgt := 30) (by decide +kernel) (fun c7 => ?_) (fun c7 => ?_)
    · refine z_iconst (n := 31) (q := -1) (v := -1) (by decide +kernel) ?_
      refine z_iret (by decide +kernel) rfl (Nat.le_refl _) ?_
      simp only [c7, decide_eq_false c, Bool.not_false, Bool.and_true, Bool.true_and, Bool.false_and, if_true, if_false, Bool.false_eq_true]; exact ⟨rfl, by first | rfl | (simp only [hu_hu]; rfl)⟩
    · refine z_ild2 (n := 11) (by decide +kernel) ?_
      refine z_iconst (n := 12) (q := 0) (v := 0) (by decide +kernel) ?_
      refine z_iconst (n := 13) (q := 2) (v := 2) (by decide +kernel) ?_
      refine z_s3 (n := 16) (idx := 81) (by decide +kernel) ml_X11_81 (Nat.le_of_ble_eq_true rfl) (by omega) ⟨Nat.le_refl _, Nat.le_refl _⟩ (m_isIn 0) ?_
      refine z_ifb_eq (n := 19) (off := 14) (tgt := 30) (by decide +kernel) (fun c16 => ?_) (fun c16 => ?_)
      · refine z_iconst (n := 31) (q := -1) (v := -1) (by decide +kernel) ?_
        refine z_iret (by decide +kernel) rfl (Nat.le_refl _) ?_
        simp only [c7, c16, decide_eq_false c, Bool.not_false, Bool.and_true, Bool.true_and, Bool.false_and, if_true, if_false, Bool.false_eq_true]; exact ⟨rfl, by first | rfl | (simp only [hu_hu]; rfl)⟩
      · refine z_ald0 (n := 20) (by decide +kernel) ?_
        refine z_getf (n := 23) (idx := 7) (by decide +kernel) fl_X11_7 (by first | assumption | (simp (disch := omega) only [hu_s, hu_n]; first | assumption | rfl)) (by rfl) ?_
        refine z_iconst (n := 24) (q := 2) (v := 2) (by decide +kernel) ?_
        refine z_iald (n := 25) (by decide +kernel) (by first | assumption | (simp (disch := omega) only [hu_s, hu_n]; first | assumption | rfl)) (by first | assumption | exact ix_nI (by omega) (by omega) | exact ix_of (by simp only [n_0, n_1, n_2, n_3, n_4, n_5, n_6, n_7, n_8, n_10, n_50, n_90, n_130, n_370, n_570, nI_add, pk_mul]; rfl) (by omega) (by omega)) ?_
        refine z_top ht ?_
        refine z_bipush (n := 27) (q := 100) (v := 100) (by decide +kernel) ?_
        refine z_icmp_ne_t (n := 30) (off := 5) (tgt := 32) (by decide +kernel) (fun z => c (e100.mp z)) ?_
        refine z_ald0 (n := 33) (by decide +kernel) ?_
        refine z_getf (n := 36) (idx := 7) (by decide +kernel) fl_X11_7 (by first | assumption | (simp (disch := omega) only [hu_s, hu_n]; first | assumption | rfl)) (by rfl) ?_
        refine z_sipush (n := 39) (q := 370) (v := 370) (by decide +kernel) ?_
        refine z_iconst (n := 40) (q := 2) (v := 2) (by decide +kernel) ?_
        refine z_ald0 (n := 41) (by decide +kernel) ?_
        refine z_getf (n := 44) (idx := 7) (by decide +kernel) fl_X11_7 (by first | assumption | (simp (disch := omega) only [hu_s, hu_n]; first | assumption | rfl)) (by rfl) ?_
        refine z_iconst (n := 45) (q := 2) (v := 2) (by decide +kernel) ?_
        refine z_iald (n := 46) (by decide +kernel) (by first | assumption | (simp (disch := omega) only [hu_s, hu_n]; first | assumption | rfl)) (by first | assumption | exact ix_nI (by omega) (by omega) | exact ix_of (by simp only [n_0, n_1, n_2, n_3, n_4, n_5, n_6, n_7, n_8, n_10, n_50, n_90, n_130, n_370, n_570, nI_add, pk_mul]; rfl) (by omega) (by omega)) ?_
        refine z_top ht ?_
        refine z_imul (n := 47) (by decide +kernel) ?_
        refine z_iadd (n := 48) (by decide +kernel) ?_
        refine z_ild1 (n := 49) (by decide +kernel) ?_
        refine z_iast (n := 50) (by decide +kernel) (by first | assumption | (simp (disch := omega) only [hu_s, hu_n]; first | assumption | rfl)) (by first | assumption | exact ix_nI (by omega) (by omega) | exact ix_of (by simp only [n_0, n_1, n_2, n_3, n_4, n_5, n_6, n_7, n_8, n_10, n_50, n_90, n_130, n_370, n_570, nI_add, pk_mul]; rfl) (by omega) (by omega)) ?_
        refine z_ald0 (n := 51) (by decide +kernel) ?_
        refine z_getf (n := 54) (idx := 7) (by decide +kernel) fl_X11_7 (by first | assumption | (simp (disch := omega) only [hu_s, hu_n]; first | assumption | rfl)) (by rfl) ?_
        refine z_sipush (n := 57) (q := 370) (v := 370) (by decide +kernel) ?_
        refine z_iconst (n := 58) (q := 2) (v := 2) (by decide +kernel) ?_
        refine z_ald0 (n := 59) (by decide +kernel) ?_
        refine z_getf (n := 62) (idx := 7) (by decide +kernel) fl_X11_7 (by first | assumption | (simp (disch := omega) only [hu_s, hu_n]; first | assumption | rfl)) (by rfl) ?_
        refine z_iconst (n := 63) (q := 2) (v := 2) (by decide +kernel) ?_
        refine z_iald (n := 64) (by decide +kernel) (by first | assumption | (simp (disch := omega) only [hu_s, hu_n]; first | assumption | rfl)) (by first | assumption | exact ix_nI (by omega) (by omega) | exact ix_of (by simp only [n_0, n_1, n_2, n_3, n_4, n_5, n_6, n_7, n_8, n_10, n_50, n_90, n_130, n_370, n_570, nI_add, pk_mul]; rfl) (by omega) (by omega)) ?_
        refine z_top (show upd a (370 + 2 * tm) x 2 = nI tm from (upd_nn (by omega)).trans ht) ?_
        refine z_imul (n := 65) (by decide +kernel) ?_
        refine z_iadd (n := 66) (by decide +kernel) ?_
        refine z_iconst (n := 67) (q := 1) (v := 1) (by decide +kernel) ?_
        refine z_iadd (n := 68) (by decide +kernel) ?_
        refine z_ild2 (n := 69) (by decide +kernel) ?_
        refine z_iast (n := 70) (by decide +kernel) (by first | assumption | (simp (disch := omega) only [hu_s, hu_n]; first | assumption | rfl)) (by first | assumption | exact ix_nI (by omega) (by omega) | exact ix_of (by simp only [n_0, n_1, n_2, n_3, n_4, n_5, n_6, n_7, n_8, n_10, n_50, n_90, n_130, n_370, n_570, nI_add, pk_mul]; rfl) (by omega) (by omega)) ?_
        refine z_ald0 (n := 71) (by decide +kernel) ?_
        refine z_getf (n := 74) (idx := 7) (by decide +kernel) fl_X11_7 (by first | assumption | (simp (disch := omega) only [hu_s, hu_n]; first | assumption | rfl)) (by rfl) ?_
        refine z_iconst (n := 75) (q := 2) (v := 2) (by decide +kernel) ?_
        refine z_dup2 (n := 76) (by decide +kernel) rfl rfl ?_
        refine z_iald (n := 77) (by decide +kernel) (by first | assumption | (simp (disch := omega) only [hu_s, hu_n]; first | assumption | rfl)) (by first | assumption | exact ix_nI (by omega) (by omega) | exact ix_of (by simp only [n_0, n_1, n_2, n_3, n_4, n_5, n_6, n_7, n_8, n_10, n_50, n_90, n_130, n_370, n_570, nI_add, pk_mul]; rfl) (by omega) (by omega)) ?_
        refine z_top hh ?_
        refine z_iconst (n := 78) (q := 1) (v := 1) (by decide +kernel) ?_
        refine z_iadd (n := 79) (by decide +kernel) ?_
        refine z_top (nI_1 _) ?_
        refine z_iast (n := 80) (by decide +kernel) (by first | assumption | (simp (disch := omega) only [hu_s, hu_n]; first | assumption | rfl)) (by first | assumption | exact ix_nI (by omega) (by omega) | exact ix_of (by simp only [n_0, n_1, n_2, n_3, n_4, n_5, n_6, n_7, n_8, n_10, n_50, n_90, n_130, n_370, n_570, nI_add, pk_mul]; rfl) (by omega) (by omega)) ?_
        refine z_ald0 (n := 81) (by decide +kernel) ?_
        refine z_getf (n := 84) (idx := 7) (by decide +kernel) fl_X11_7 (by first | assumption | (simp (disch := omega) only [hu_s, hu_n]; first | assumption | rfl)) (by rfl) ?_
        refine z_iconst (n := 85) (q := 3) (v := 3) (by decide +kernel) ?_
        refine z_ald0 (n := 86) (by decide +kernel) ?_
        refine z_getf (n := 89) (idx := 7) (by decide +kernel) fl_X11_7 (by first | assumption | (simp (disch := omega) only [hu_s, hu_n]; first | assumption | rfl)) (by rfl) ?_
        refine z_iconst (n := 90) (q := 2) (v := 2) (by decide +kernel) ?_
        refine z_iald (n := 91) (by decide +kernel) (by first | assumption | (simp (disch := omega) only [hu_s, hu_n]; first | assumption | rfl)) (by first | assumption | exact ix_nI (by omega) (by omega) | exact ix_of (by simp only [n_0, n_1, n_2, n_3, n_4, n_5, n_6, n_7, n_8, n_10, n_50, n_90, n_130, n_370, n_570, nI_add, pk_mul]; rfl) (by omega) (by omega)) ?_
        refine z_top (upd_ss) ?_
        refine z_iast (n := 92) (by decide +kernel) (by first | assumption | (simp (disch := omega) only [hu_s, hu_n]; first | assumption | rfl)) (by first | assumption | exact ix_nI (by omega) (by omega) | exact ix_of (by simp only [n_0, n_1, n_2, n_3, n_4, n_5, n_6, n_7, n_8, n_10, n_50, n_90, n_130, n_370, n_570, nI_add, pk_mul]; rfl) (by omega) (by omega)) ?_
        refine z_ald0 (n := 93) (by decide +kernel) ?_
        refine z_getf (n := 96) (idx := 7) (by decide +kernel) fl_X11_7 (by first | assumption | (simp (disch := omega) only [hu_s, hu_n]; first | assumption | rfl)) (by rfl) ?_
        refine z_iconst (n := 97) (q := 2) (v := 2) (by decide +kernel) ?_
        refine z_iald (n := 98) (by decide +kernel) (by first | assumption | (simp (disch := omega) only [hu_s, hu_n]; first | assumption | rfl)) (by first | assumption | exact ix_nI (by omega) (by omega) | exact ix_of (by simp only [n_0, n_1, n_2, n_3, n_4, n_5, n_6, n_7, n_8, n_10, n_50, n_90, n_130, n_370, n_570, nI_add, pk_mul]; rfl) (by omega) (by omega)) ?_
        refine z_top (show upd (upd (upd (upd a (370 + 2 * tm) x) (370 + 2 * tm + 1) z) 2 (nI (tm + 1))) 3 (nI (tm + 1)) 2 = nI (tm + 1) from (upd_nn (by omega)).trans upd_ss) ?_
        refine z_iret (by decide +kernel) rfl (Nat.le_refl _) ?_
        simp only [c7, c16, decide_eq_false c, Bool.not_false, Bool.and_true, Bool.true_and, Bool.false_and, if_true, if_false, Bool.false_eq_true]; exact ⟨rfl, by first | rfl | (simp only [hu_hu]; rfl)⟩
def sheA (ns : Nat) (x1 x2 x3 x4 x5 : Int32) (a : Nat → Int32) : Nat → Int32 := upd (upd (upd (upd (upd (upd a (570 + 5 * ns) x1) (570 + 5 * ns + 1) x2) (570 + 5 * ns + 2) x3) (570 + 5 * ns + 3) x4) (570 + 5 * ns + 4) x5) 4 (nI (ns + 1))
def sheT (x1 x2 x3 x4 x5 : Int32) (ns : Nat) : Bool := win x1 1 100 && (win x2 (-180) 180 && (win x3 0 100 && (win x4 (-180) 180 && (win x5 (-180) 180 && !decide (ns = 6)))))
theorem m_sheet {G : mG} {h : mH} {Q n : Nat} {m : Nat → Int32} {wd : Int64} {a : Nat → Int32} {ns : Nat} {x1 x2 x3 x4 x5 : Int32} (d : Nat) (hd : 1 ≤ d) (ht : a 4 = nI ns) (htm : ns ≤ 6) (hQ : h Q = oMod Q (nI (n + 1)) m wd) (hA : h (Q + 1) = aI 600 a) (hn : n + 1 ≤ 40) : EV G m_X11_sheet d 0 0 [.ref Q, .int x1, .int x2, .int x3, .int x4, .int x5] h (RE (some (.int (if sheT x1 x2 x3 x4 x5 ns = true then nI ns else -1))) (if sheT x1 x2 x3 x4 x5 ns = true then hu h (Q + 1) (aI 600 (sheA ns x1 x2 x3 x4 x5 a)) else h)) := by
  have hh : upd (upd (upd (upd (upd a (570 + 5 * ns) x1) (570 + 5 * ns + 1) x2) (570 + 5 * ns + 2) x3) (570 + 5 * ns + 3) x4) (570 + 5 * ns + 4) x5 4 = nI ns := by rw [upd_nn (by omega), upd_nn (by omega), upd_nn (by omega), upd_nn (by omega), upd_nn (by omega)]; exact ht
  have e6 : (nI ns = 6) = (ns = 6) := propext (nI_ij (b := 6) (by omega) (by omega))
  have pk : (570 : Int32) + 5 * nI ns = nI (570 + 5 * ns) := by rw [n_570, n_5, pk_mul, nI_add]
  unfold sheT
  refine ev_6_1 rfl rfl rfl rfl rfl rfl (by decide +kernel) (by decide +kernel) ?_
  by_cases c : ns = 6
  · refine z_ild1 (n := 1) (by decide +kernel) ?_
    refine z_iconst (n := 2) (q := 1) (v := 1) (by decide +kernel) ?_
    refine z_bipush (n := 4) (q := 100) (v := 100) (by decide +kernel) ?_
    refine z_s3 (n := 7) (idx := 81) (by decide +kernel) ml_X11_81 (Nat.le_of_ble_eq_true rfl) (by omega) ⟨Nat.le_refl _, Nat.le_refl _⟩ (m_isIn 0) ?_
    refine z_ifb_eq (n := 10) (off := 65) (tgt := 72) (by decide +kernel) (fun c7 => ?_) (fun c7 => ?_)
    · refine z_iconst (n := 73) (q := -1) (v := -1) (by decide +kernel) ?_
      refine z_iret (by decide +kernel) rfl (Nat.le_refl _) ?_
      simp only [c7, decide_eq_true c, Bool.not_true, Bool.and_true, Bool.and_false, Bool.true_and, Bool.false_and, if_true, if_false, Bool.false_eq_true]; exact ⟨rfl, rfl⟩
    · refine z_ild2 (n := 11) (by decide +kernel) ?_
      refine z_sipush (n := 14) (q := -180) (v := -180) (by decide +kernel) ?_
      refine z_sipush (n := 17) (q := 180) (v := 180) (by decide +kernel) ?_
      refine z_s3 (n := 20) (idx := 81) (by decide +kernel) ml_X11_81 (Nat.le_of_ble_eq_true rfl) (by omega) ⟨Nat.le_refl _, Nat.le_refl _⟩ (m_isIn 0) ?_
      refine z_ifb_eq (n := 23) (off := 52) (tgt := 72) (by decide +kernel) (fun c20 => ?_) (fun c20 => ?_)
      · refine z_iconst (n := 73) (q := -1) (v := -1) (by decide +kernel) ?_
        refine z_iret (by decide +kernel) rfl (Nat.le_refl _) ?_
        simp only [c7, c20, decide_eq_true c, Bool.not_true, Bool.and_true, Bool.and_false, Bool.true_and, Bool.false_and, if_true, if_false, Bool.false_eq_true]; exact ⟨rfl, rfl⟩
      · refine z_ild3 (n := 24) (by decide +kernel) ?_
        refine z_iconst (n := 25) (q := 0) (v := 0) (by decide +kernel) ?_
        refine z_bipush (n := 27) (q := 100) (v := 100) (by decide +kernel) ?_
        refine z_s3 (n := 30) (idx := 81) (by decide +kernel) ml_X11_81 (Nat.le_of_ble_eq_true rfl) (by omega) ⟨Nat.le_refl _, Nat.le_refl _⟩ (m_isIn 0) ?_
        refine z_ifb_eq (n := 33) (off := 42) (tgt := 72) (by decide +kernel) (fun c30 => ?_) (fun c30 => ?_)
        · refine z_iconst (n := 73) (q := -1) (v := -1) (by decide +kernel) ?_
          refine z_iret (by decide +kernel) rfl (Nat.le_refl _) ?_
          simp only [c7, c20, c30, decide_eq_true c, Bool.not_true, Bool.and_true, Bool.and_false, Bool.true_and, Bool.false_and, if_true, if_false, Bool.false_eq_true]; exact ⟨rfl, rfl⟩
        · refine z_ild4 (n := 35) (by decide +kernel) ?_
          refine z_sipush (n := 38) (q := -180) (v := -180) (by decide +kernel) ?_
          refine z_sipush (n := 41) (q := 180) (v := 180) (by decide +kernel) ?_
          refine z_s3 (n := 44) (idx := 81) (by decide +kernel) ml_X11_81 (Nat.le_of_ble_eq_true rfl) (by omega) ⟨Nat.le_refl _, Nat.le_refl _⟩ (m_isIn 0) ?_
          refine z_ifb_eq (n := 47) (off := 28) (tgt := 72) (by decide +kernel) (fun c44 => ?_) (fun c44 => ?_)
          · refine z_iconst (n := 73) (q := -1) (v := -1) (by decide +kernel) ?_
            refine z_iret (by decide +kernel) rfl (Nat.le_refl _) ?_
            simp only [c7, c20, c30, c44, decide_eq_true c, Bool.not_true, Bool.and_true, Bool.and_false, Bool.true_and, Bool.false_and, if_true, if_false, Bool.false_eq_true]; exact ⟨rfl, rfl⟩
          · refine z_ild5 (n := 49) (by decide +kernel) ?_
            refine z_sipush (n := 52) (q := -180) (v := -180) (by decide +kernel) ?_
            refine z_sipush (n := 55) (q := 180) (v := 180) (by decide +kernel) ?_
            refine z_s3 (n := 58) (idx := 81) (by decide +kernel) ml_X11_81 (Nat.le_of_ble_eq_true rfl) (by omega) ⟨Nat.le_refl _, Nat.le_refl _⟩ (m_isIn 0) ?_
            refine z_ifb_eq (n := 61) (off := 14) (tgt := 72) (by decide +kernel) (fun c58 => ?_) (fun c58 => ?_)
            · refine z_iconst (n := 73) (q := -1) (v := -1) (by decide +kernel) ?_
              refine z_iret (by decide +kernel) rfl (Nat.le_refl _) ?_
              simp only [c7, c20, c30, c44, c58, decide_eq_true c, Bool.not_true, Bool.and_true, Bool.and_false, Bool.true_and, Bool.false_and, if_true, if_false, Bool.false_eq_true]; exact ⟨rfl, rfl⟩
            · refine z_ald0 (n := 62) (by decide +kernel) ?_
              refine z_getf (n := 65) (idx := 7) (by decide +kernel) fl_X11_7 (by first | assumption | (simp (disch := omega) only [hu_s, hu_n]; first | assumption | rfl)) (by rfl) ?_
              refine z_iconst (n := 66) (q := 4) (v := 4) (by decide +kernel) ?_
              refine z_iald (n := 67) (by decide +kernel) (by first | assumption | (simp (disch := omega) only [hu_s, hu_n]; first | assumption | rfl)) (by first | assumption | exact ix_nI (by omega) (by omega) | exact ix_of (by simp only [n_0, n_1, n_2, n_3, n_4, n_5, n_6, n_7, n_8, n_10, n_50, n_90, n_130, n_370, n_570, nI_add, pk_mul]; rfl) (by omega) (by omega)) ?_
              refine z_top ht ?_
              refine z_bipush (n := 69) (q := 6) (v := 6) (by decide +kernel) ?_
              refine z_icmp_ne_f (n := 72) (off := 5) (tgt := 74) (by decide +kernel) (by rw [c]; rfl) ?_
              refine z_iconst (n := 73) (q := -1) (v := -1) (by decide +kernel) ?_
              refine z_iret (by decide +kernel) rfl (Nat.le_refl _) ?_
              simp only [c7, c20, c30, c44, c58, decide_eq_true c, Bool.not_true, Bool.and_true, Bool.and_false, Bool.true_and, Bool.false_and, if_true, if_false, Bool.false_eq_true]; exact ⟨rfl, rfl⟩
  · refine z_ild1 (n := 1) (by decide +kernel) ?_
    refine z_iconst (n := 2) (q := 1) (v := 1) (by decide +kernel) ?_
    refine z_bipush (n := 4) (q := 100) (v := 100) (by decide +kernel) ?_
    refine z_s3 (n := 7) (idx := 81) (by decide +kernel) ml_X11_81 (Nat.le_of_ble_eq_true rfl) (by omega) ⟨Nat.le_refl _, Nat.le_refl _⟩ (m_isIn 0) ?_
    refine z_ifb_eq (n := 10) (off := 65) (tgt := 72) (by decide +kernel) (fun c7 => ?_) (fun c7 => ?_)
    · refine z_iconst (n := 73) (q := -1) (v := -1) (by decide +kernel) ?_
      refine z_iret (by decide +kernel) rfl (Nat.le_refl _) ?_
      simp only [c7, decide_eq_false c, Bool.not_false, Bool.and_true, Bool.true_and, Bool.false_and, if_true, if_false, Bool.false_eq_true]; exact ⟨rfl, by first | rfl | (simp only [hu_hu]; rfl)⟩
    · refine z_ild2 (n := 11) (by decide +kernel) ?_
      refine z_sipush (n := 14) (q := -180) (v := -180) (by decide +kernel) ?_
      refine z_sipush (n := 17) (q := 180) (v := 180) (by decide +kernel) ?_
      refine z_s3 (n := 20) (idx := 81) (by decide +kernel) ml_X11_81 (Nat.le_of_ble_eq_true rfl) (by omega) ⟨Nat.le_refl _, Nat.le_refl _⟩ (m_isIn 0) ?_
      refine z_ifb_eq (n := 23) (off := 52) (tgt := 72) (by decide +kernel) (fun c20 => ?_) (fun c20 => ?_)
      · refine z_iconst (n := 73) (q := -1) (v := -1) (by decide +kernel) ?_
        refine z_iret (by decide +kernel) rfl (Nat.le_refl _) ?_
        simp only [c7, c20, decide_eq_false c, Bool.not_false, Bool.and_true, Bool.true_and, Bool.false_and, if_true, if_false, Bool.false_eq_true]; exact ⟨rfl, by first | rfl | (simp only [hu_hu]; rfl)⟩
      · refine z_ild3 (n := 24) (by decide +kernel) ?_
        refine z_iconst (n := 25) (q := 0) (v := 0) (by decide +kernel) ?_
        refine z_bipush (n := 27) (q := 100) (v := 100) (by decide +kernel) ?_
        refine z_s3 (n := 30) (idx := 81) (by decide +kernel) ml_X11_81 (Nat.le_of_ble_eq_true rfl) (by omega) ⟨Nat.le_refl _, Nat.le_refl _⟩ (m_isIn 0) ?_
        refine z_ifb_eq (n := 33) (off := 42) (tgt := 72) (by decide +kernel) (fun c30 => ?_) (fun c30 => ?_)
        · refine z_iconst (n := 73) (q := -1) (v := -1) (by decide +kernel) ?_
          refine z_iret (by decide +kernel) rfl (Nat.le_refl _) ?_
          simp only [c7, c20, c30, decide_eq_false c, Bool.not_false, Bool.and_true, Bool.true_and, Bool.false_and, if_true, if_false, Bool.false_eq_true]; exact ⟨rfl, by first | rfl | (simp only [hu_hu]; rfl)⟩
        · refine z_ild4 (n := 35) (by decide +kernel) ?_
          refine z_sipush (n := 38) (q := -180) (v := -180) (by decide +kernel) ?_
          refine z_sipush (n := 41) (q := 180) (v := 180) (by decide +kernel) ?_
          refine z_s3 (n := 44) (idx := 81) (by decide +kernel) ml_X11_81 (Nat.le_of_ble_eq_true rfl) (by omega) ⟨Nat.le_refl _, Nat.le_refl _⟩ (m_isIn 0) ?_
          refine z_ifb_eq (n := 47) (off := 28) (tgt := 72) (by decide +kernel) (fun c44 => ?_) (fun c44 => ?_)
          · refine z_iconst (n := 73) (q := -1) (v := -1) (by decide +kernel) ?_
            refine z_iret (by decide +kernel) rfl (Nat.le_refl _) ?_
            simp only [c7, c20, c30, c44, decide_eq_false c, Bool.not_false, Bool.and_true, Bool.true_and, Bool.false_and, if_true, if_false, Bool.false_eq_true]; exact ⟨rfl, by first | rfl | (simp only [hu_hu]; rfl)⟩
          · refine z_ild5 (n := 49) (by decide +kernel) ?_
            refine z_sipush (n := 52) (q := -180) (v := -180) (by decide +kernel) ?_
            refine z_sipush (n := 55) (q := 180) (v := 180) (by decide +kernel) ?_
            refine z_s3 (n := 58) (idx := 81) (by decide +kernel) ml_X11_81 (Nat.le_of_ble_eq_true rfl) (by omega) ⟨Nat.le_refl _, Nat.le_refl _⟩ (m_isIn 0) ?_
            refine z_ifb_eq (n := 61) (off := 14) (tgt := 72) (by decide +kernel) (fun c58 => ?_) (fun c58 => ?_)
            · refine z_iconst (n := 73) (q := -1) (v := -1) (by decide +kernel) ?_
              refine z_iret (by decide +kernel) rfl (Nat.le_refl _) ?_
              simp only [c7, c20, c30, c44, c58, decide_eq_false c, Bool.not_false, Bool.and_true, Bool.true_and, Bool.false_and, if_true, if_false, Bool.false_eq_true]; exact ⟨rfl, by first | rfl | (simp only [hu_hu]; rfl)⟩
            · refine z_ald0 (n := 62) (by decide +kernel) ?_
              refine z_getf (n := 65) (idx := 7) (by decide +kernel) fl_X11_7 (by first | assumption | (simp (disch := omega) only [hu_s, hu_n]; first | assumption | rfl)) (by rfl) ?_
              refine z_iconst (n := 66) (q := 4) (v := 4) (by decide +kernel) ?_
              refine z_iald (n := 67) (by decide +kernel) (by first | assumption | (simp (disch := omega) only [hu_s, hu_n]; first | assumption | rfl)) (by first | assumption | exact ix_nI (by omega) (by omega) | exact ix_of (by simp only [n_0, n_1, n_2, n_3, n_4, n_5, n_6, n_7, n_8, n_10, n_50, n_90, n_130, n_370, n_570, nI_add, pk_mul]; rfl) (by omega) (by omega)) ?_
              refine z_top ht ?_
              refine z_bipush (n := 69) (q := 6) (v := 6) (by decide +kernel) ?_
              refine z_icmp_ne_t (n := 72) (off := 5) (tgt := 74) (by decide +kernel) (fun z => c (e6.mp z)) ?_
              refine z_sipush (n := 77) (q := 570) (v := 570) (by decide +kernel) ?_
              refine z_iconst (n := 78) (q := 5) (v := 5) (by decide +kernel) ?_
              refine z_ald0 (n := 79) (by decide +kernel) ?_
              refine z_getf (n := 82) (idx := 7) (by decide +kernel) fl_X11_7 (by first | assumption | (simp (disch := omega) only [hu_s, hu_n]; first | assumption | rfl)) (by rfl) ?_
              refine z_iconst (n := 83) (q := 4) (v := 4) (by decide +kernel) ?_
              refine z_iald (n := 84) (by decide +kernel) (by first | assumption | (simp (disch := omega) only [hu_s, hu_n]; first | assumption | rfl)) (by first | assumption | exact ix_nI (by omega) (by omega) | exact ix_of (by simp only [n_0, n_1, n_2, n_3, n_4, n_5, n_6, n_7, n_8, n_10, n_50, n_90, n_130, n_370, n_570, nI_add, pk_mul]; rfl) (by omega) (by omega)) ?_
              refine z_top ht ?_
              refine z_imul (n := 85) (by decide +kernel) ?_
              refine z_iadd (n := 86) (by decide +kernel) ?_
              refine z_top pk ?_
              refine z_ist6 (n := 88) (by decide +kernel) rfl ?_
              refine z_ald0 (n := 89) (by decide +kernel) ?_
              refine z_getf (n := 92) (idx := 7) (by decide +kernel) fl_X11_7 (by first | assumption | (simp (disch := omega) only [hu_s, hu_n]; first | assumption | rfl)) (by rfl) ?_
              refine z_ild6 (n := 94) (by decide +kernel) ?_
              refine z_ild1 (n := 95) (by decide +kernel) ?_
              refine z_iast (n := 96) (by decide +kernel) (by first | assumption | (simp (disch := omega) only [hu_s, hu_n]; first | assumption | rfl)) (by first | assumption | exact ix_nI (by omega) (by omega) | exact ix_of (by simp only [n_0, n_1, n_2, n_3, n_4, n_5, n_6, n_7, n_8, n_10, n_50, n_90, n_130, n_370, n_570, nI_add, pk_mul]; rfl) (by omega) (by omega)) ?_
              refine z_ald0 (n := 97) (by decide +kernel) ?_
              refine z_getf (n := 100) (idx := 7) (by decide +kernel) fl_X11_7 (by first | assumption | (simp (disch := omega) only [hu_s, hu_n]; first | assumption | rfl)) (by rfl) ?_
              refine z_ild6 (n := 102) (by decide +kernel) ?_
              refine z_iconst (n := 103) (q := 1) (v := 1) (by decide +kernel) ?_
              refine z_iadd (n := 104) (by decide +kernel) ?_
              refine z_ild2 (n := 105) (by decide +kernel) ?_
              refine z_iast (n := 106) (by decide +kernel) (by first | assumption | (simp (disch := omega) only [hu_s, hu_n]; first | assumption | rfl)) (by first | assumption | exact ix_nI (by omega) (by omega) | exact ix_of (by simp only [n_0, n_1, n_2, n_3, n_4, n_5, n_6, n_7, n_8, n_10, n_50, n_90, n_130, n_370, n_570, nI_add, pk_mul]; rfl) (by omega) (by omega)) ?_
              refine z_ald0 (n := 107) (by decide +kernel) ?_
              refine z_getf (n := 110) (idx := 7) (by decide +kernel) fl_X11_7 (by first | assumption | (simp (disch := omega) only [hu_s, hu_n]; first | assumption | rfl)) (by rfl) ?_
              refine z_ild6 (n := 112) (by decide +kernel) ?_
              refine z_iconst (n := 113) (q := 2) (v := 2) (by decide +kernel) ?_
              refine z_iadd (n := 114) (by decide +kernel) ?_
              refine z_ild3 (n := 115) (by decide +kernel) ?_
              refine z_iast (n := 116) (by decide +kernel) (by first | assumption | (simp (disch := omega) only [hu_s, hu_n]; first | assumption | rfl)) (by first | assumption | exact ix_nI (by omega) (by omega) | exact ix_of (by simp only [n_0, n_1, n_2, n_3, n_4, n_5, n_6, n_7, n_8, n_10, n_50, n_90, n_130, n_370, n_570, nI_add, pk_mul]; rfl) (by omega) (by omega)) ?_
              refine z_ald0 (n := 117) (by decide +kernel) ?_
              refine z_getf (n := 120) (idx := 7) (by decide +kernel) fl_X11_7 (by first | assumption | (simp (disch := omega) only [hu_s, hu_n]; first | assumption | rfl)) (by rfl) ?_
              refine z_ild6 (n := 122) (by decide +kernel) ?_
              refine z_iconst (n := 123) (q := 3) (v := 3) (by decide +kernel) ?_
              refine z_iadd (n := 124) (by decide +kernel) ?_
              refine z_ild4 (n := 126) (by decide +kernel) ?_
              refine z_iast (n := 127) (by decide +kernel) (by first | assumption | (simp (disch := omega) only [hu_s, hu_n]; first | assumption | rfl)) (by first | assumption | exact ix_nI (by omega) (by omega) | exact ix_of (by simp only [n_0, n_1, n_2, n_3, n_4, n_5, n_6, n_7, n_8, n_10, n_50, n_90, n_130, n_370, n_570, nI_add, pk_mul]; rfl) (by omega) (by omega)) ?_
              refine z_ald0 (n := 128) (by decide +kernel) ?_
              refine z_getf (n := 131) (idx := 7) (by decide +kernel) fl_X11_7 (by first | assumption | (simp (disch := omega) only [hu_s, hu_n]; first | assumption | rfl)) (by rfl) ?_
              refine z_ild6 (n := 133) (by decide +kernel) ?_
              refine z_iconst (n := 134) (q := 4) (v := 4) (by decide +kernel) ?_
              refine z_iadd (n := 135) (by decide +kernel) ?_
              refine z_ild5 (n := 137) (by decide +kernel) ?_
              refine z_iast (n := 138) (by decide +kernel) (by first | assumption | (simp (disch := omega) only [hu_s, hu_n]; first | assumption | rfl)) (by first | assumption | exact ix_nI (by omega) (by omega) | exact ix_of (by simp only [n_0, n_1, n_2, n_3, n_4, n_5, n_6, n_7, n_8, n_10, n_50, n_90, n_130, n_370, n_570, nI_add, pk_mul]; rfl) (by omega) (by omega)) ?_
              refine z_ald0 (n := 139) (by decide +kernel) ?_
              refine z_getf (n := 142) (idx := 7) (by decide +kernel) fl_X11_7 (by first | assumption | (simp (disch := omega) only [hu_s, hu_n]; first | assumption | rfl)) (by rfl) ?_
              refine z_iconst (n := 143) (q := 4) (v := 4) (by decide +kernel) ?_
              refine z_dup2 (n := 144) (by decide +kernel) rfl rfl ?_
              refine z_iald (n := 145) (by decide +kernel) (by first | assumption | (simp (disch := omega) only [hu_s, hu_n]; first | assumption | rfl)) (by first | assumption | exact ix_nI (by omega) (by omega) | exact ix_of (by simp only [n_0, n_1, n_2, n_3, n_4, n_5, n_6, n_7, n_8, n_10, n_50, n_90, n_130, n_370, n_570, nI_add, pk_mul]; rfl) (by omega) (by omega)) ?_
              refine z_top hh ?_
              refine z_iconst (n := 146) (q := 1) (v := 1) (by decide +kernel) ?_
              refine z_iadd (n := 147) (by decide +kernel) ?_
              refine z_top (nI_1 _) ?_
              refine z_iast (n := 148) (by decide +kernel) (by first | assumption | (simp (disch := omega) only [hu_s, hu_n]; first | assumption | rfl)) (by first | assumption | exact ix_nI (by omega) (by omega) | exact ix_of (by simp only [n_0, n_1, n_2, n_3, n_4, n_5, n_6, n_7, n_8, n_10, n_50, n_90, n_130, n_370, n_570, nI_add, pk_mul]; rfl) (by omega) (by omega)) ?_
              refine z_ald0 (n := 149) (by decide +kernel) ?_
              refine z_getf (n := 152) (idx := 7) (by decide +kernel) fl_X11_7 (by first | assumption | (simp (disch := omega) only [hu_s, hu_n]; first | assumption | rfl)) (by rfl) ?_
              refine z_iconst (n := 153) (q := 4) (v := 4) (by decide +kernel) ?_
              refine z_iald (n := 154) (by decide +kernel) (by first | assumption | (simp (disch := omega) only [hu_s, hu_n]; first | assumption | rfl)) (by first | assumption | exact ix_nI (by omega) (by omega) | exact ix_of (by simp only [n_0, n_1, n_2, n_3, n_4, n_5, n_6, n_7, n_8, n_10, n_50, n_90, n_130, n_370, n_570, nI_add, pk_mul]; rfl) (by omega) (by omega)) ?_
              refine z_top upd_ss ?_
              refine z_iconst (n := 155) (q := 1) (v := 1) (by decide +kernel) ?_
              refine z_isub (n := 156) (by decide +kernel) ?_
              refine z_top (nI_pred ns) ?_
              refine z_iret (by decide +kernel) rfl (Nat.le_refl _) ?_
              simp only [c7, c20, c30, c44, c58, decide_eq_false c, Bool.not_false, Bool.and_true, Bool.true_and, Bool.false_and, if_true, if_false, Bool.false_eq_true]; exact ⟨rfl, by first | rfl | (simp only [hu_hu]; rfl)⟩
theorem m_manyPoints {G : mG} {h : mH} {Q n : Nat} {m : Nat → Int32} {wd : Int64} {a : Nat → Int32} {w : Nat} (d : Nat) (hw : w ≤ 5) (hQ : h Q = oMod Q (nI (n + 1)) m wd) (hA : h (Q + 1) = aI 600 a) (hn : n + 1 ≤ 40) : EV G m_X11_manyPoints d 0 0 [.ref Q, .int (nI w)] h (RE (some (.int (nI (cnb (fun j => decide (0 < a (130 + 6 * (j + 1) + w))) n)))) h) := by
  refine ev_2_2 rfl rfl (by decide +kernel) (by decide +kernel) ?_
  refine z_iconst (n := 1) (q := 0) (v := 0) (by decide +kernel) ?_
  refine z_ist2 (n := 2) (by decide +kernel) rfl ?_
  refine z_iconst (n := 3) (q := 1) (v := 1) (by decide +kernel) ?_
  refine z_ist3 (n := 4) (by decide +kernel) rfl ?_
  have lp : ∀ m9 k, k + m9 = n → Z G m_X11_manyPoints d 0 0 0 0 4 [some (.ref Q), some (.int (nI w)), some (.int (nI (cnb (fun j => decide (0 < a (130 + 6 * (j + 1) + w))) k))), some (.int (nI (k + 1)))] [] h (RE (some (.int (nI (cnb (fun j => decide (0 < a (130 + 6 * (j + 1) + w))) n)))) h) := by
    intro m9
    induction m9 with
    | zero =>
      intro k hk
      refine z_ild3 (n := 5) (by decide +kernel) ?_
      refine z_ald0 (n := 6) (by decide +kernel) ?_
      refine z_getf (n := 9) (idx := 71) (by decide +kernel) fl_X11_71 (by assumption) (by rfl) ?_
      refine z_icmp_ge_t (n := 12) (off := 35) (tgt := 44) (by decide +kernel) (by rw [show k = n by omega]; exact Int32.le_refl _) ?_
      refine z_ild2 (n := 45) (by decide +kernel) ?_
      refine z_iret (by decide +kernel) rfl (Nat.le_refl _) ?_
      rw [show k = n by omega]; exact ⟨rfl, rfl⟩
    | succ m9 ih =>
      intro k hk
      have ix1 : ix (130 + 6 * nI (k + 1) + nI w) (130 + 6 * (k + 1) + w) 600 := by
        rw [n_130, n_6, pk_mul, nI_add, nI_add]
        exact ix_nI (by omega) (by omega)
      by_cases c : 0 < a (130 + 6 * (k + 1) + w)
      · have ec : cnb (fun j => decide (0 < a (130 + 6 * (j + 1) + w))) (k + 1) = cnb (fun j => decide (0 < a (130 + 6 * (j + 1) + w))) k + 1 := by rw [cnb, if_pos (by simpa using c)]
        refine z_ild3 (n := 5) (by decide +kernel) ?_
        refine z_ald0 (n := 6) (by decide +kernel) ?_
        refine z_getf (n := 9) (idx := 71) (by decide +kernel) fl_X11_71 (by assumption) (by rfl) ?_
        refine z_icmp_ge_f (n := 12) (off := 35) (tgt := 44) (by decide +kernel) (nI_ge (by omega) (by omega)) ?_
        refine z_ild2 (n := 13) (by decide +kernel) ?_
        refine z_ald0 (n := 14) (by decide +kernel) ?_
        refine z_getf (n := 17) (idx := 7) (by decide +kernel) fl_X11_7 (by assumption) (by rfl) ?_
        refine z_sipush (n := 20) (q := 130) (v := 130) (by decide +kernel) ?_
        refine z_bipush (n := 22) (q := 6) (v := 6) (by decide +kernel) ?_
        refine z_ild3 (n := 23) (by decide +kernel) ?_
        refine z_imul (n := 24) (by decide +kernel) ?_
        refine z_iadd (n := 25) (by decide +kernel) ?_
        refine z_ild1 (n := 26) (by decide +kernel) ?_
        refine z_iadd (n := 27) (by decide +kernel) ?_
        refine z_iald (n := 28) (by decide +kernel) (by assumption) (by exact ix1) ?_
        refine z_if_le_f (n := 31) (off := 7) (tgt := 35) (by decide +kernel) (Int32.not_le.mpr c) ?_
        refine z_iconst (n := 32) (q := 1) (v := 1) (by decide +kernel) ?_
        refine z_goto (n := 35) (off := 4) (tgt := 36) (by decide +kernel) ?_
        refine z_iadd (n := 37) (by decide +kernel) ?_
        refine z_top (nI_1 _) ?_
        refine z_ist2 (n := 38) (by decide +kernel) rfl ?_
        refine z_inc3 (n := 41) (q := 1) (by decide +kernel) rfl (nI_1 _) ?_
        refine z_goto (n := 44) (off := -37) (tgt := 4) (by decide +kernel) ?_
        rw [← ec]; exact ih (k + 1) (by omega)
      · have ec : cnb (fun j => decide (0 < a (130 + 6 * (j + 1) + w))) (k + 1) = cnb (fun j => decide (0 < a (130 + 6 * (j + 1) + w))) k := by rw [cnb, if_neg (by simpa using c)]; rfl
        refine z_ild3 (n := 5) (by decide +kernel) ?_
        refine z_ald0 (n := 6) (by decide +kernel) ?_
        refine z_getf (n := 9) (idx := 71) (by decide +kernel) fl_X11_71 (by assumption) (by rfl) ?_
        refine z_icmp_ge_f (n := 12) (off := 35) (tgt := 44) (by decide +kernel) (nI_ge (by omega) (by omega)) ?_
        refine z_ild2 (n := 13) (by decide +kernel) ?_
        refine z_ald0 (n := 14) (by decide +kernel) ?_
        refine z_getf (n := 17) (idx := 7) (by decide +kernel) fl_X11_7 (by assumption) (by rfl) ?_
        refine z_sipush (n := 20) (q := 130) (v := 130) (by decide +kernel) ?_
        refine z_bipush (n := 22) (q := 6) (v := 6) (by decide +kernel) ?_
        refine z_ild3 (n := 23) (by decide +kernel) ?_
        refine z_imul (n := 24) (by decide +kernel) ?_
        refine z_iadd (n := 25) (by decide +kernel) ?_
        refine z_ild1 (n := 26) (by decide +kernel) ?_
        refine z_iadd (n := 27) (by decide +kernel) ?_
        refine z_iald (n := 28) (by decide +kernel) (by assumption) (by exact ix1) ?_
        refine z_if_le_t (n := 31) (off := 7) (tgt := 35) (by decide +kernel) (Int32.not_lt.mp c) ?_
        refine z_iconst (n := 36) (q := 0) (v := 0) (by decide +kernel) ?_
        refine z_iadd (n := 37) (by decide +kernel) ?_
        refine z_top (Int32.add_zero _) ?_
        refine z_ist2 (n := 38) (by decide +kernel) rfl ?_
        refine z_inc3 (n := 41) (q := 1) (by decide +kernel) rfl (nI_1 _) ?_
        refine z_goto (n := 44) (off := -37) (tgt := 4) (by decide +kernel) ?_
        rw [← ec]; exact ih (k + 1) (by omega)
  exact lp n 0 (by omega)
theorem m_outmost {G : mG} {h : mH} {Q n : Nat} {m : Nat → Int32} {wd : Int64} {a : Nat → Int32} {b : Bool} (d : Nat) (hQ : h Q = oMod Q (nI (n + 1)) m wd) (hA : h (Q + 1) = aI 600 a) (hn : n + 1 ≤ 40) : EV G m_X11_outmost d 0 0 [.ref Q, .int (bI b)] h (RE (some (.int (if b = true then mxF (fun u => a (10 + u)) (n + 1) else mnF (fun u => a (10 + u)) (n + 1)))) h) := by
  refine ev_2_2 rfl rfl (by decide +kernel) (by decide +kernel) ?_
  refine z_ald0 (n := 1) (by decide +kernel) ?_
  refine z_getf (n := 4) (idx := 7) (by decide +kernel) fl_X11_7 (by assumption) (by rfl) ?_
  refine z_bipush (n := 6) (q := 10) (v := 10) (by decide +kernel) ?_
  refine z_iald (n := 7) (by decide +kernel) (by assumption) (by first | assumption | exact ix_nI (by omega) (by omega) | exact ix_of (by simp only [n_0, n_1, n_2, n_3, n_4, n_5, n_6, n_7, n_8, n_10, n_50, n_90, n_130, n_370, n_570, nI_add, pk_mul]; rfl) (by omega) (by omega)) ?_
  refine z_ist2 (n := 8) (by decide +kernel) rfl ?_
  refine z_iconst (n := 9) (q := 1) (v := 1) (by decide +kernel) ?_
  refine z_ist3 (n := 10) (by decide +kernel) rfl ?_
  skip
  cases b with
  | true =>
    have lp : ∀ m9 k, k + m9 = n → Z G m_X11_outmost d 0 0 0 0 10 [some (.ref Q), some (.int (bI true)), some (.int (mxF (fun u => a (10 + u)) (k + 1))), some (.int (nI (k + 1)))] [] h (RE (some (.int (mxF (fun u => a (10 + u)) (n + 1)))) h) := by
      intro m9
      induction m9 with
      | zero =>
        intro k hk
        refine z_ild3 (n := 11) (by decide +kernel) ?_
        refine z_ald0 (n := 12) (by decide +kernel) ?_
        refine z_getf (n := 15) (idx := 71) (by decide +kernel) fl_X11_71 (by assumption) (by rfl) ?_
        refine z_icmp_ge_t (n := 18) (off := 52) (tgt := 67) (by decide +kernel) (by rw [show k = n by omega]; exact Int32.le_refl _) ?_
        refine z_ild2 (n := 68) (by decide +kernel) ?_
        refine z_iret (by decide +kernel) rfl (Nat.le_refl _) ?_
        rw [show k = n by omega]; exact ⟨rfl, rfl⟩
      | succ m9 ih =>
        intro k hk
        by_cases c : a (10 + (k + 1)) ≤ mxF (fun u => a (10 + u)) (k + 1)
        · have ec : mxF (fun u => a (10 + u)) (k + 1 + 1) = mxF (fun u => a (10 + u)) (k + 1) := by rw [mxF]; exact if_pos c
          refine z_ild3 (n := 11) (by decide +kernel) ?_
          refine z_ald0 (n := 12) (by decide +kernel) ?_
          refine z_getf (n := 15) (idx := 71) (by decide +kernel) fl_X11_71 (by assumption) (by rfl) ?_
          refine z_icmp_ge_f (n := 18) (off := 52) (tgt := 67) (by decide +kernel) (nI_ge (by omega) (by omega)) ?_
          refine z_ild1 (n := 19) (by decide +kernel) ?_
          refine z_ifb_eq_f (n := 22) (off := 19) (tgt := 38) (by decide +kernel) (rfl) ?_
          refine z_ald0 (n := 23) (by decide +kernel) ?_
          refine z_getf (n := 26) (idx := 7) (by decide +kernel) fl_X11_7 (by assumption) (by rfl) ?_
          refine z_bipush (n := 28) (q := 10) (v := 10) (by decide +kernel) ?_
          refine z_ild3 (n := 29) (by decide +kernel) ?_
          refine z_iadd (n := 30) (by decide +kernel) ?_
          refine z_iald (n := 31) (by decide +kernel) (by assumption) (by first | assumption | exact ix_nI (by omega) (by omega) | exact ix_of (by simp only [n_0, n_1, n_2, n_3, n_4, n_5, n_6, n_7, n_8, n_10, n_50, n_90, n_130, n_370, n_570, nI_add, pk_mul]; rfl) (by omega) (by omega)) ?_
          refine z_ild2 (n := 32) (by decide +kernel) ?_
          refine z_icmp_le_t (n := 35) (off := 29) (tgt := 61) (by decide +kernel) (c) ?_
          refine z_inc3 (n := 64) (q := 1) (by decide +kernel) rfl (nI_1 _) ?_
          refine z_goto (n := 67) (off := -54) (tgt := 10) (by decide +kernel) ?_
          rw [← ec]; exact ih (k + 1) (by omega)
        · have ec : mxF (fun u => a (10 + u)) (k + 1 + 1) = a (10 + (k + 1)) := by rw [mxF]; exact if_neg c
          refine z_ild3 (n := 11) (by decide +kernel) ?_
          refine z_ald0 (n := 12) (by decide +kernel) ?_
          refine z_getf (n := 15) (idx := 71) (by decide +kernel) fl_X11_71 (by assumption) (by rfl) ?_
          refine z_icmp_ge_f (n := 18) (off := 52) (tgt := 67) (by decide +kernel) (nI_ge (by omega) (by omega)) ?_
          refine z_ild1 (n := 19) (by decide +kernel) ?_
          refine z_ifb_eq_f (n := 22) (off := 19) (tgt := 38) (by decide +kernel) (rfl) ?_
          refine z_ald0 (n := 23) (by decide +kernel) ?_
          refine z_getf (n := 26) (idx := 7) (by decide +kernel) fl_X11_7 (by assumption) (by rfl) ?_
          refine z_bipush (n := 28) (q := 10) (v := 10) (by decide +kernel) ?_
          refine z_ild3 (n := 29) (by decide +kernel) ?_
          refine z_iadd (n := 30) (by decide +kernel) ?_
          refine z_iald (n := 31) (by decide +kernel) (by assumption) (by first | assumption | exact ix_nI (by omega) (by omega) | exact ix_of (by simp only [n_0, n_1, n_2, n_3, n_4, n_5, n_6, n_7, n_8, n_10, n_50, n_90, n_130, n_370, n_570, nI_add, pk_mul]; rfl) (by omega) (by omega)) ?_
          refine z_ild2 (n := 32) (by decide +kernel) ?_
          refine z_icmp_le_f (n := 35) (off := 29) (tgt := 61) (by decide +kernel) (c) ?_
          refine z_goto (n := 38) (off := 16) (tgt := 51) (by decide +kernel) ?_
          refine z_ald0 (n := 52) (by decide +kernel) ?_
          refine z_getf (n := 55) (idx := 7) (by decide +kernel) fl_X11_7 (by assumption) (by rfl) ?_
          refine z_bipush (n := 57) (q := 10) (v := 10) (by decide +kernel) ?_
          refine z_ild3 (n := 58) (by decide +kernel) ?_
          refine z_iadd (n := 59) (by decide +kernel) ?_
          refine z_iald (n := 60) (by decide +kernel) (by assumption) (by first | assumption | exact ix_nI (by omega) (by omega) | exact ix_of (by simp only [n_0, n_1, n_2, n_3, n_4, n_5, n_6, n_7, n_8, n_10, n_50, n_90, n_130, n_370, n_570, nI_add, pk_mul]; rfl) (by omega) (by omega)) ?_
          refine z_ist2 (n := 61) (by decide +kernel) rfl ?_
          refine z_inc3 (n := 64) (q := 1) (by decide +kernel) rfl (nI_1 _) ?_
          refine z_goto (n := 67) (off := -54) (tgt := 10) (by decide +kernel) ?_
          have q := ih (k + 1) (by omega); rw [ec] at q; exact q
    rw [if_pos rfl]
    have q := lp n 0 (by omega)
    rw [mxF_1] at q
    exact q
  | false =>
    have lp : ∀ m9 k, k + m9 = n → Z G m_X11_outmost d 0 0 0 0 10 [some (.ref Q), some (.int (bI false)), some (.int (mnF (fun u => a (10 + u)) (k + 1))), some (.int (nI (k + 1)))] [] h (RE (some (.int (mnF (fun u => a (10 + u)) (n + 1)))) h) := by
      intro m9
      induction m9 with
      | zero =>
        intro k hk
        refine z_ild3 (n := 11) (by decide +kernel) ?_
        refine z_ald0 (n := 12) (by decide +kernel) ?_
        refine z_getf (n := 15) (idx := 71) (by decide +kernel) fl_X11_71 (by assumption) (by rfl) ?_
        refine z_icmp_ge_t (n := 18) (off := 52) (tgt := 67) (by decide +kernel) (by rw [show k = n by omega]; exact Int32.le_refl _) ?_
        refine z_ild2 (n := 68) (by decide +kernel) ?_
        refine z_iret (by decide +kernel) rfl (Nat.le_refl _) ?_
        rw [show k = n by omega]; exact ⟨rfl, rfl⟩
      | succ m9 ih =>
        intro k hk
        by_cases c : mnF (fun u => a (10 + u)) (k + 1) ≤ a (10 + (k + 1))
        · have ec : mnF (fun u => a (10 + u)) (k + 1 + 1) = mnF (fun u => a (10 + u)) (k + 1) := by rw [mnF]; exact if_pos c
          refine z_ild3 (n := 11) (by decide +kernel) ?_
          refine z_ald0 (n := 12) (by decide +kernel) ?_
          refine z_getf (n := 15) (idx := 71) (by decide +kernel) fl_X11_71 (by assumption) (by rfl) ?_
          refine z_icmp_ge_f (n := 18) (off := 52) (tgt := 67) (by decide +kernel) (nI_ge (by omega) (by omega)) ?_
          refine z_ild1 (n := 19) (by decide +kernel) ?_
          refine z_ifb_eq_t (n := 22) (off := 19) (tgt := 38) (by decide +kernel) (rfl) ?_
          refine z_ald0 (n := 39) (by decide +kernel) ?_
          refine z_getf (n := 42) (idx := 7) (by decide +kernel) fl_X11_7 (by assumption) (by rfl) ?_
          refine z_bipush (n := 44) (q := 10) (v := 10) (by decide +kernel) ?_
          refine z_ild3 (n := 45) (by decide +kernel) ?_
          refine z_iadd (n := 46) (by decide +kernel) ?_
          refine z_iald (n := 47) (by decide +kernel) (by assumption) (by first | assumption | exact ix_nI (by omega) (by omega) | exact ix_of (by simp only [n_0, n_1, n_2, n_3, n_4, n_5, n_6, n_7, n_8, n_10, n_50, n_90, n_130, n_370, n_570, nI_add, pk_mul]; rfl) (by omega) (by omega)) ?_
          refine z_ild2 (n := 48) (by decide +kernel) ?_
          refine z_icmp_ge_t (n := 51) (off := 13) (tgt := 61) (by decide +kernel) (c) ?_
          refine z_inc3 (n := 64) (q := 1) (by decide +kernel) rfl (nI_1 _) ?_
          refine z_goto (n := 67) (off := -54) (tgt := 10) (by decide +kernel) ?_
          rw [← ec]; exact ih (k + 1) (by omega)
        · have ec : mnF (fun u => a (10 + u)) (k + 1 + 1) = a (10 + (k + 1)) := by rw [mnF]; exact if_neg c
          refine z_ild3 (n := 11) (by decide +kernel) ?_
          refine z_ald0 (n := 12) (by decide +kernel) ?_
          refine z_getf (n := 15) (idx := 71) (by decide +kernel) fl_X11_71 (by assumption) (by rfl) ?_
          refine z_icmp_ge_f (n := 18) (off := 52) (tgt := 67) (by decide +kernel) (nI_ge (by omega) (by omega)) ?_
          refine z_ild1 (n := 19) (by decide +kernel) ?_
          refine z_ifb_eq_t (n := 22) (off := 19) (tgt := 38) (by decide +kernel) (rfl) ?_
          refine z_ald0 (n := 39) (by decide +kernel) ?_
          refine z_getf (n := 42) (idx := 7) (by decide +kernel) fl_X11_7 (by assumption) (by rfl) ?_
          refine z_bipush (n := 44) (q := 10) (v := 10) (by decide +kernel) ?_
          refine z_ild3 (n := 45) (by decide +kernel) ?_
          refine z_iadd (n := 46) (by decide +kernel) ?_
          refine z_iald (n := 47) (by decide +kernel) (by assumption) (by first | assumption | exact ix_nI (by omega) (by omega) | exact ix_of (by simp only [n_0, n_1, n_2, n_3, n_4, n_5, n_6, n_7, n_8, n_10, n_50, n_90, n_130, n_370, n_570, nI_add, pk_mul]; rfl) (by omega) (by omega)) ?_
          refine z_ild2 (n := 48) (by decide +kernel) ?_
          refine z_icmp_ge_f (n := 51) (off := 13) (tgt := 61) (by decide +kernel) (c) ?_
          refine z_ald0 (n := 52) (by decide +kernel) ?_
          refine z_getf (n := 55) (idx := 7) (by decide +kernel) fl_X11_7 (by assumption) (by rfl) ?_
          refine z_bipush (n := 57) (q := 10) (v := 10) (by decide +kernel) ?_
          refine z_ild3 (n := 58) (by decide +kernel) ?_
          refine z_iadd (n := 59) (by decide +kernel) ?_
          refine z_iald (n := 60) (by decide +kernel) (by assumption) (by first | assumption | exact ix_nI (by omega) (by omega) | exact ix_of (by simp only [n_0, n_1, n_2, n_3, n_4, n_5, n_6, n_7, n_8, n_10, n_50, n_90, n_130, n_370, n_570, nI_add, pk_mul]; rfl) (by omega) (by omega)) ?_
          refine z_ist2 (n := 61) (by decide +kernel) rfl ?_
          refine z_inc3 (n := 64) (q := 1) (by decide +kernel) rfl (nI_1 _) ?_
          refine z_goto (n := 67) (off := -54) (tgt := 10) (by decide +kernel) ?_
          have q := ih (k + 1) (by omega); rw [ec] at q; exact q
    rw [if_neg (by decide)]
    have q := lp n 0 (by omega)
    rw [mnF_1] at q
    exact q
theorem m_about {G : mG} {h : mH} {Q n : Nat} {m : Nat → Int32} {wd : Int64} {a : Nat → Int32} {x : Int32} (d : Nat) (hd : 1 ≤ d) (hQ : h Q = oMod Q (nI (n + 1)) m wd) (hA : h (Q + 1) = aI 600 a) (hn : n + 1 ≤ 40) : EV G m_X11_about d 0 0 [.ref Q, .int x] h (RE (some (.int (if x = 0 then nI (n + 1) else if x = 1 then a 0 else if x = 2 then a 1 else if x = 3 then nI (cnb (fun j => decide (0 < a (130 + 6 * (j + 1) + 0))) n) else if x = 4 then nI (cnb (fun j => decide (0 < a (130 + 6 * (j + 1) + 5))) n) else if x = 5 then a 2 else if x = 6 then a 3 else if x = 7 then a 4 else if x = 8 then m 0 else if x = 9 then mnF (fun u => a (10 + u)) (n + 1) else if x = 10 then mxF (fun u => a (10 + u)) (n + 1) else -1000))) h) := by
  refine ev_2_0 rfl rfl (by decide +kernel) (by decide +kernel) ?_
  refine z_ild1 (n := 1) (by decide +kernel) ?_
  by_cases s0 : x = 0
  · refine z_tswI (v := 0) (off := 59) (dflt := 128) (lo := 0) (hi := 10) (offs := #[59, 64, 71, 78, 84, 90, 97, 104, 111, 116, 122]) (len := 59) (tgt := 60) s0 (by decide +kernel) ?_
    refine z_ald0 (n := 61) (by decide +kernel) ?_
    refine z_getf (n := 64) (idx := 71) (by decide +kernel) fl_X11_71 (by assumption) (by rfl) ?_
    refine z_iret (by decide +kernel) rfl (Nat.le_refl _) ?_
    refine ⟨?_, rfl⟩; simp only [eq_true s0, if_true, if_false]; first | rfl | skip
  by_cases s1 : x = 1
  · refine z_tswI (v := 1) (off := 64) (dflt := 128) (lo := 0) (hi := 10) (offs := #[59, 64, 71, 78, 84, 90, 97, 104, 111, 116, 122]) (len := 59) (tgt := 65) s1 (by decide +kernel) ?_
    refine z_ald0 (n := 66) (by decide +kernel) ?_
    refine z_getf (n := 69) (idx := 7) (by decide +kernel) fl_X11_7 (by assumption) (by rfl) ?_
    refine z_iconst (n := 70) (q := 0) (v := 0) (by decide +kernel) ?_
    refine z_iald (n := 71) (by decide +kernel) (by assumption) (by first | assumption | exact ix_nI (by omega) (by omega) | exact ix_of (by simp only [n_0, n_1, n_2, n_3, n_4, n_5, n_6, n_7, n_8, n_10, n_50, n_90, n_130, n_370, n_570, nI_add, pk_mul]; rfl) (by omega) (by omega)) ?_
    refine z_iret (by decide +kernel) rfl (Nat.le_refl _) ?_
    refine ⟨?_, rfl⟩; simp only [eq_false s0, eq_true s1, if_true, if_false]; first | rfl | skip
  by_cases s2 : x = 2
  · refine z_tswI (v := 2) (off := 71) (dflt := 128) (lo := 0) (hi := 10) (offs := #[59, 64, 71, 78, 84, 90, 97, 104, 111, 116, 122]) (len := 59) (tgt := 72) s2 (by decide +kernel) ?_
    refine z_ald0 (n := 73) (by decide +kernel) ?_
    refine z_getf (n := 76) (idx := 7) (by decide +kernel) fl_X11_7 (by assumption) (by rfl) ?_
    refine z_iconst (n := 77) (q := 1) (v := 1) (by decide +kernel) ?_
    refine z_iald (n := 78) (by decide +kernel) (by assumption) (by first | assumption | exact ix_nI (by omega) (by omega) | exact ix_of (by simp only [n_0, n_1, n_2, n_3, n_4, n_5, n_6, n_7, n_8, n_10, n_50, n_90, n_130, n_370, n_570, nI_add, pk_mul]; rfl) (by omega) (by omega)) ?_
    refine z_iret (by decide +kernel) rfl (Nat.le_refl _) ?_
    refine ⟨?_, rfl⟩; simp only [eq_false s0, eq_false s1, eq_true s2, if_true, if_false]; first | rfl | skip
  by_cases s3 : x = 3
  · refine z_tswI (v := 3) (off := 78) (dflt := 128) (lo := 0) (hi := 10) (offs := #[59, 64, 71, 78, 84, 90, 97, 104, 111, 116, 122]) (len := 59) (tgt := 79) s3 (by decide +kernel) ?_
    refine z_ald0 (n := 80) (by decide +kernel) ?_
    refine z_iconst (n := 81) (q := 0) (v := 0) (by decide +kernel) ?_
    refine z_v1 (n := 84) (idx := 247) (by decide +kernel) ml_X11_247 (by assumption) rfl (Nat.le_of_ble_eq_true rfl) (by omega) ⟨Nat.le_refl _, Nat.le_refl _⟩ (m_manyPoints (n := n) (w := 0) 0 (by omega) hQ hA hn) ?_
    refine z_iret (by decide +kernel) rfl (Nat.le_refl _) ?_
    refine ⟨?_, rfl⟩; simp only [eq_false s0, eq_false s1, eq_false s2, eq_true s3, if_true, if_false]; first | rfl | skip
  by_cases s4 : x = 4
  · refine z_tswI (v := 4) (off := 84) (dflt := 128) (lo := 0) (hi := 10) (offs := #[59, 64, 71, 78, 84, 90, 97, 104, 111, 116, 122]) (len := 59) (tgt := 85) s4 (by decide +kernel) ?_
    refine z_ald0 (n := 86) (by decide +kernel) ?_
    refine z_iconst (n := 87) (q := 5) (v := 5) (by decide +kernel) ?_
    refine z_v1 (n := 90) (idx := 247) (by decide +kernel) ml_X11_247 (by assumption) rfl (Nat.le_of_ble_eq_true rfl) (by omega) ⟨Nat.le_refl _, Nat.le_refl _⟩ (m_manyPoints (n := n) (w := 5) 0 (by omega) hQ hA hn) ?_
    refine z_iret (by decide +kernel) rfl (Nat.le_refl _) ?_
    refine ⟨?_, rfl⟩; simp only [eq_false s0, eq_false s1, eq_false s2, eq_false s3, eq_true s4, if_true, if_false]; first | rfl | skip
  by_cases s5 : x = 5
  · refine z_tswI (v := 5) (off := 90) (dflt := 128) (lo := 0) (hi := 10) (offs := #[59, 64, 71, 78, 84, 90, 97, 104, 111, 116, 122]) (len := 59) (tgt := 91) s5 (by decide +kernel) ?_
    refine z_ald0 (n := 92) (by decide +kernel) ?_
    refine z_getf (n := 95) (idx := 7) (by decide +kernel) fl_X11_7 (by assumption) (by rfl) ?_
    refine z_iconst (n := 96) (q := 2) (v := 2) (by decide +kernel) ?_
    refine z_iald (n := 97) (by decide +kernel) (by assumption) (by first | assumption | exact ix_nI (by omega) (by omega) | exact ix_of (by simp only [n_0, n_1, n_2, n_3, n_4, n_5, n_6, n_7, n_8, n_10, n_50, n_90, n_130, n_370, n_570, nI_add, pk_mul]; rfl) (by omega) (by omega)) ?_
    refine z_iret (by decide +kernel) rfl (Nat.le_refl _) ?_
    refine ⟨?_, rfl⟩; simp only [eq_false s0, eq_false s1, eq_false s2, eq_false s3, eq_false s4, eq_true s5, if_true, if_false]; first | rfl | skip
  by_cases s6 : x = 6
  · refine z_tswI (v := 6) (off := 97) (dflt := 128) (lo := 0) (hi := 10) (offs := #[59, 64, 71, 78, 84, 90, 97, 104, 111, 116, 122]) (len := 59) (tgt := 98) s6 (by decide +kernel) ?_
    refine z_ald0 (n := 99) (by decide +kernel) ?_
    refine z_getf (n := 102) (idx := 7) (by decide +kernel) fl_X11_7 (by assumption) (by rfl) ?_
    refine z_iconst (n := 103) (q := 3) (v := 3) (by decide +kernel) ?_
    refine z_iald (n := 104) (by decide +kernel) (by assumption) (by first | assumption | exact ix_nI (by omega) (by omega) | exact ix_of (by simp only [n_0, n_1, n_2, n_3, n_4, n_5, n_6, n_7, n_8, n_10, n_50, n_90, n_130, n_370, n_570, nI_add, pk_mul]; rfl) (by omega) (by omega)) ?_
    refine z_iret (by decide +kernel) rfl (Nat.le_refl _) ?_
    refine ⟨?_, rfl⟩; simp only [eq_false s0, eq_false s1, eq_false s2, eq_false s3, eq_false s4, eq_false s5, eq_true s6, if_true, if_false]; first | rfl | skip
  by_cases s7 : x = 7
  · refine z_tswI (v := 7) (off := 104) (dflt := 128) (lo := 0) (hi := 10) (offs := #[59, 64, 71, 78, 84, 90, 97, 104, 111, 116, 122]) (len := 59) (tgt := 105) s7 (by decide +kernel) ?_
    refine z_ald0 (n := 106) (by decide +kernel) ?_
    refine z_getf (n := 109) (idx := 7) (by decide +kernel) fl_X11_7 (by assumption) (by rfl) ?_
    refine z_iconst (n := 110) (q := 4) (v := 4) (by decide +kernel) ?_
    refine z_iald (n := 111) (by decide +kernel) (by assumption) (by first | assumption | exact ix_nI (by omega) (by omega) | exact ix_of (by simp only [n_0, n_1, n_2, n_3, n_4, n_5, n_6, n_7, n_8, n_10, n_50, n_90, n_130, n_370, n_570, nI_add, pk_mul]; rfl) (by omega) (by omega)) ?_
    refine z_iret (by decide +kernel) rfl (Nat.le_refl _) ?_
    refine ⟨?_, rfl⟩; simp only [eq_false s0, eq_false s1, eq_false s2, eq_false s3, eq_false s4, eq_false s5, eq_false s6, eq_true s7, if_true, if_false]; first | rfl | skip
  by_cases s8 : x = 8
  · refine z_tswI (v := 8) (off := 111) (dflt := 128) (lo := 0) (hi := 10) (offs := #[59, 64, 71, 78, 84, 90, 97, 104, 111, 116, 122]) (len := 59) (tgt := 112) s8 (by decide +kernel) ?_
    refine z_ald0 (n := 113) (by decide +kernel) ?_
    refine z_getf (n := 116) (idx := 114) (by decide +kernel) fl_X11_114 (by assumption) (by rfl) ?_
    refine z_iret (by decide +kernel) rfl (Nat.le_refl _) ?_
    refine ⟨?_, rfl⟩; simp only [eq_false s0, eq_false s1, eq_false s2, eq_false s3, eq_false s4, eq_false s5, eq_false s6, eq_false s7, eq_true s8, if_true, if_false]; first | rfl | skip
  by_cases s9 : x = 9
  · refine z_tswI (v := 9) (off := 116) (dflt := 128) (lo := 0) (hi := 10) (offs := #[59, 64, 71, 78, 84, 90, 97, 104, 111, 116, 122]) (len := 59) (tgt := 117) s9 (by decide +kernel) ?_
    refine z_ald0 (n := 118) (by decide +kernel) ?_
    refine z_iconst (n := 119) (q := 0) (v := 0) (by decide +kernel) ?_
    refine z_v1 (n := 122) (idx := 250) (by decide +kernel) ml_X11_250 (by assumption) rfl (Nat.le_of_ble_eq_true rfl) (by omega) ⟨Nat.le_refl _, Nat.le_refl _⟩ (m_outmost (n := n) (b := false) 0 hQ hA hn) ?_
    refine z_iret (by decide +kernel) rfl (Nat.le_refl _) ?_
    refine ⟨?_, rfl⟩; simp only [eq_false s0, eq_false s1, eq_false s2, eq_false s3, eq_false s4, eq_false s5, eq_false s6, eq_false s7, eq_false s8, eq_true s9, if_true, if_false]; first | rfl | skip
  by_cases s10 : x = 10
  · refine z_tswI (v := 10) (off := 122) (dflt := 128) (lo := 0) (hi := 10) (offs := #[59, 64, 71, 78, 84, 90, 97, 104, 111, 116, 122]) (len := 59) (tgt := 123) s10 (by decide +kernel) ?_
    refine z_ald0 (n := 124) (by decide +kernel) ?_
    refine z_iconst (n := 125) (q := 1) (v := 1) (by decide +kernel) ?_
    refine z_v1 (n := 128) (idx := 250) (by decide +kernel) ml_X11_250 (by assumption) rfl (Nat.le_of_ble_eq_true rfl) (by omega) ⟨Nat.le_refl _, Nat.le_refl _⟩ (m_outmost (n := n) (b := true) 0 hQ hA hn) ?_
    refine z_iret (by decide +kernel) rfl (Nat.le_refl _) ?_
    refine ⟨?_, rfl⟩; simp only [eq_false s0, eq_false s1, eq_false s2, eq_false s3, eq_false s4, eq_false s5, eq_false s6, eq_false s7, eq_false s8, eq_false s9, eq_true s10, if_true, if_false]; first | rfl | skip
  refine z_tswO (dflt := 128) (lo := 0) (hi := 10) (offs := #[59, 64, 71, 78, 84, 90, 97, 104, 111, 116, 122]) (len := 59) (tgt := 129) (tsw_out10 s0 s1 s2 s3 s4 s5 s6 s7 s8 s9 s10) (by decide +kernel) ?_
  refine z_sipush (n := 132) (q := -1000) (v := -1000) (by decide +kernel) ?_
  refine z_iret (by decide +kernel) rfl (Nat.le_refl _) ?_
  refine ⟨?_, rfl⟩; simp only [eq_false s0, eq_false s1, eq_false s2, eq_false s3, eq_false s4, eq_false s5, eq_false s6, eq_false s7, eq_false s8, eq_false s9, eq_false s10, if_true, if_false]; first | rfl | skip
theorem m_fault {G : mG} {h : mH} {Q n : Nat} {m : Nat → Int32} {wd : Int64} {a : Nat → Int32} {x : Int32} (d : Nat) (hQ : h Q = oMod Q (nI (n + 1)) m wd) : EV G m_X11_fault d 0 0 [.ref Q, .int x] h (RE (some (.int (if x = 0 then m 1 else if x = 1 then m 2 else if x = 2 then m 3 else -1))) h) := by
  refine ev_2_0 rfl rfl (by decide +kernel) (by decide +kernel) ?_
  refine z_ild1 (n := 1) (by decide +kernel) ?_
  refine z_if_ne (n := 4) (off := 10) (tgt := 11) (by decide +kernel) (fun c1 => ?_) (fun c1 => ?_)
  · refine z_ild1 (n := 12) (by decide +kernel) ?_
    refine z_iconst (n := 13) (q := 1) (v := 1) (by decide +kernel) ?_
    refine z_icmp_ne (n := 16) (off := 10) (tgt := 23) (by decide +kernel) (fun c13 => ?_) (fun c13 => ?_)
    · refine z_ild1 (n := 24) (by decide +kernel) ?_
      refine z_iconst (n := 25) (q := 2) (v := 2) (by decide +kernel) ?_
      refine z_icmp_ne (n := 28) (off := 10) (tgt := 35) (by decide +kernel) (fun c25 => ?_) (fun c25 => ?_)
      · refine z_iconst (n := 36) (q := -1) (v := -1) (by decide +kernel) ?_
        refine z_iret (by decide +kernel) rfl (Nat.le_refl _) ?_
        refine ⟨?_, rfl⟩; simp only [eq_false c1, eq_false c13, eq_false c25, if_true, if_false]
      · refine z_ald0 (n := 29) (by decide +kernel) ?_
        refine z_getf (n := 32) (idx := 29) (by decide +kernel) fl_X11_29 (by assumption) (by rfl) ?_
        refine z_goto (n := 35) (off := 4) (tgt := 36) (by decide +kernel) ?_
        refine z_iret (by decide +kernel) rfl (Nat.le_refl _) ?_
        refine ⟨?_, rfl⟩; simp only [eq_false c1, eq_false c13, eq_true c25, if_true, if_false]
    · refine z_ald0 (n := 17) (by decide +kernel) ?_
      refine z_getf (n := 20) (idx := 26) (by decide +kernel) fl_X11_26 (by assumption) (by rfl) ?_
      refine z_goto (n := 23) (off := 16) (tgt := 36) (by decide +kernel) ?_
      refine z_iret (by decide +kernel) rfl (Nat.le_refl _) ?_
      refine ⟨?_, rfl⟩; simp only [eq_false c1, eq_true c13, if_true, if_false]
  · refine z_ald0 (n := 5) (by decide +kernel) ?_
    refine z_getf (n := 8) (idx := 22) (by decide +kernel) fl_X11_22 (by assumption) (by rfl) ?_
    refine z_goto (n := 11) (off := 28) (tgt := 36) (by decide +kernel) ?_
    refine z_iret (by decide +kernel) rfl (Nat.le_refl _) ?_
    refine ⟨?_, rfl⟩; simp only [eq_true c1, if_true, if_false]
