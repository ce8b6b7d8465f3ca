/-! CreasedPaperModel: the rows that it is made of, its strip -/
/-- scalars: taped 0, fault 1, faultPlace 2, faultDo 3, at 4, place 5, token 6, number 7, many 8, opened 9 -/
def oMod (Q : Nat) (L : Int32) (m : Nat → Int32) (wd : Int64) : mE := oB 11 [.int L, .ref (Q + 1), .ref (Q + 2), .ref (Q + 3), .ref (Q + 4), .int (m 0), .int (m 1), .int (m 2), .int (m 3), .int (m 4), .int (m 5), .int (m 6), .int (m 7), .long wd, .ref (Q + 5), .ref (Q + 6), .ref (Q + 7), .ref (Q + 8), .int (m 8), .int (m 9), .ref (Q + 9), .ref (Q + 10), .ref (Q + 11), .ref (Q + 12), .ref (Q + 13), .ref (Q + 14), .ref (Q + 15), .ref (Q + 16), .ref (Q + 17)]
theorem m_isIn {G : mG} {h : mH} {x lo hi : Int32} (d : Nat) : EV G m_X11_isIn d 0 0 [.int x, .int lo, .int hi] h (RE (some (.int (bI (win x lo hi)))) h) := by
  refine ev_3_0 rfl rfl rfl (by decide +kernel) (by decide +kernel) ?_
  refine z_ild0 (n := 1) (by decide +kernel) ?_
  refine z_ild1 (n := 2) (by decide +kernel) ?_
  refine z_icmp_lt (n := 5) (off := 12) (tgt := 14) (by decide +kernel) (fun c2 => ?_) (fun c2 => ?_)
  · refine z_iconst (n := 15) (q := 0) (v := 0) (by decide +kernel) ?_
    first | refine z_zr1 (by decide +kernel) rfl (Nat.le_refl _) ?_ | refine z_zr0 (by decide +kernel) rfl (Nat.le_refl _) ?_ | refine z_zrb (by decide +kernel) rfl (Nat.le_refl _) ?_
    exact ⟨by unfold win; simp only [eq_true c2, decide_true, decide_false, Bool.and_true, Bool.and_false, Bool.true_and, Bool.false_and, Bool.or_true, Bool.or_false, Bool.true_or, Bool.false_or, Bool.not_true, Bool.not_false, if_true, if_false], rfl⟩
  · refine z_ild0 (n := 6) (by decide +kernel) ?_
    refine z_ild2 (n := 7) (by decide +kernel) ?_
    refine z_icmp_gt (n := 10) (off := 7) (tgt := 14) (by decide +kernel) (fun c7 => ?_) (fun c7 => ?_)
    · refine z_iconst (n := 15) (q := 0) (v := 0) (by decide +kernel) ?_
      first | refine z_zr1 (by decide +kernel) rfl (Nat.le_refl _) ?_ | refine z_zr0 (by decide +kernel) rfl (Nat.le_refl _) ?_ | refine z_zrb (by decide +kernel) rfl (Nat.le_refl _) ?_
      exact ⟨by unfold win; simp only [eq_false c2, eq_true c7, decide_true, decide_false, Bool.and_true, Bool.and_false, Bool.true_and, Bool.false_and, Bool.or_true, Bool.or_false, Bool.true_or, Bool.false_or, Bool.not_true, Bool.not_false, if_true, if_false], rfl⟩
    · refine z_iconst (n := 11) (q := 1) (v := 1) (by decide +kernel) ?_
      refine z_goto (n := 14) (off := 4) (tgt := 15) (by decide +kernel) ?_
      first | refine z_zr1 (by decide +kernel) rfl (Nat.le_refl _) ?_ | refine z_zr0 (by decide +kernel) rfl (Nat.le_refl _) ?_ | refine z_zrb (by decide +kernel) rfl (Nat.le_refl _) ?_
      exact ⟨by unfold win; simp only [eq_false c2, eq_false c7, decide_true, decide_false, Bool.and_true, Bool.and_false, Bool.true_and, Bool.false_and, Bool.or_true, Bool.or_false, Bool.true_or, Bool.false_or, Bool.not_true, Bool.not_false, if_true, if_false], rfl⟩
theorem m_abs {G : mG} {h : mH} {x : Int32} (d : Nat) : EV G m_X11_abs d 0 0 [.int x] h (RE (some (.int (if 0 ≤ x then x else -x))) h) := by
  refine ev_1_0 rfl (by decide +kernel) (by decide +kernel) ?_
  refine z_ild0 (n := 1) (by decide +kernel) ?_
  refine z_if_ge (n := 4) (off := 8) (tgt := 9) (by decide +kernel) (fun c1 => ?_) (fun c1 => ?_)
  · refine z_ild0 (n := 10) (by decide +kernel) ?_
    refine z_iret (by decide +kernel) rfl (Nat.le_refl _) ?_
    exact ⟨by simp only [eq_true c1, if_true, if_false], rfl⟩
  · refine z_ild0 (n := 5) (by decide +kernel) ?_
    refine z_ineg (n := 6) (by decide +kernel) ?_
    refine z_goto (n := 9) (off := 4) (tgt := 10) (by decide +kernel) ?_
    refine z_iret (by decide +kernel) rfl (Nat.le_refl _) ?_
    exact ⟨by simp only [eq_false c1, if_true, if_false], rfl⟩
theorem m_moves {G : mG} {h : mH} {z x : Int32} {right : Bool} (d : Nat) : EV G m_X11_moves d 0 0 [.int z, .int x, .int (bI right)] h (RE (some (.int (bI (mvs z x right)))) h) := by
  refine ev_3_0 rfl rfl rfl (by decide +kernel) (by decide +kernel) ?_
  refine z_ild2 (n := 1) (by decide +kernel) ?_
  refine z_ifb_eq (n := 4) (off := 16) (tgt := 17) (by decide +kernel) (fun c1 => ?_) (fun c1 => ?_)
  · refine z_ild0 (n := 18) (by decide +kernel) ?_
    refine z_ild1 (n := 19) (by decide +kernel) ?_
    refine z_icmp_ge (n := 22) (off := 7) (tgt := 26) (by decide +kernel) (fun c19 => ?_) (fun c19 => ?_)
    · refine z_iconst (n := 27) (q := 0) (v := 0) (by decide +kernel) ?_
      first | refine z_zr1 (by decide +kernel) rfl (Nat.le_refl _) ?_ | refine z_zr0 (by decide +kernel) rfl (Nat.le_refl _) ?_ | refine z_zrb (by decide +kernel) rfl (Nat.le_refl _) ?_
      exact ⟨by unfold mvs; first | (simp only [c1, eq_true c19, decide_true, decide_false, Bool.not_true, Bool.not_false]; rfl) | (rw [c1]; simp only [eq_false (Int32.not_lt.mpr c19), decide_false]; rfl) | (rw [c1]; simp only [eq_true (Int32.not_le.mp c19), decide_true]; rfl), rfl⟩
    · refine z_iconst (n := 23) (q := 1) (v := 1) (by decide +kernel) ?_
      refine z_goto (n := 26) (off := 4) (tgt := 27) (by decide +kernel) ?_
      first | refine z_zr1 (by decide +kernel) rfl (Nat.le_refl _) ?_ | refine z_zr0 (by decide +kernel) rfl (Nat.le_refl _) ?_ | refine z_zrb (by decide +kernel) rfl (Nat.le_refl _) ?_
      exact ⟨by unfold mvs; first | (simp only [c1, eq_false c19, decide_true, decide_false, Bool.not_true, Bool.not_false]; rfl) | (rw [c1]; simp only [eq_false (Int32.not_lt.mpr c19), decide_false]; rfl) | (rw [c1]; simp only [eq_true (Int32.not_le.mp c19), decide_true]; rfl), rfl⟩
  · refine z_ild0 (n := 5) (by decide +kernel) ?_
    refine z_ild1 (n := 6) (by decide +kernel) ?_
    refine z_icmp_lt (n := 9) (off := 7) (tgt := 13) (by decide +kernel) (fun c6 => ?_) (fun c6 => ?_)
    · refine z_iconst (n := 14) (q := 0) (v := 0) (by decide +kernel) ?_
      refine z_goto (n := 17) (off := 13) (tgt := 27) (by decide +kernel) ?_
      first | refine z_zr1 (by decide +kernel) rfl (Nat.le_refl _) ?_ | refine z_zr0 (by decide +kernel) rfl (Nat.le_refl _) ?_ | refine z_zrb (by decide +kernel) rfl (Nat.le_refl _) ?_
      exact ⟨by unfold mvs; first | (simp only [c1, eq_true c6, decide_true, decide_false, Bool.not_true, Bool.not_false]; rfl) | (rw [c1]; simp only [eq_false (Int32.not_lt.mpr c19), decide_false]; rfl) | (rw [c1]; simp only [eq_true (Int32.not_le.mp c19), decide_true]; rfl), rfl⟩
    · refine z_iconst (n := 10) (q := 1) (v := 1) (by decide +kernel) ?_
      refine z_goto (n := 13) (off := 17) (tgt := 27) (by decide +kernel) ?_
      first | refine z_zr1 (by decide +kernel) rfl (Nat.le_refl _) ?_ | refine z_zr0 (by decide +kernel) rfl (Nat.le_refl _) ?_ | refine z_zrb (by decide +kernel) rfl (Nat.le_refl _) ?_
      exact ⟨by unfold mvs; first | (simp only [c1, eq_false c6, decide_true, decide_false, Bool.not_true, Bool.not_false]; rfl) | (rw [c1]; simp only [eq_false (Int32.not_lt.mpr c19), decide_false]; rfl) | (rw [c1]; simp only [eq_true (Int32.not_le.mp c19), decide_true]; rfl), rfl⟩
theorem m_layers {G : mG} {h : mH} {Q n : Nat} {m : Nat → Int32} {wd : Int64} {a : Nat → Int32} {x : Int32} (d : Nat) (hQ : h Q = oMod Q (nI (n + 1)) m wd) (hA : h (Q + 1) = aI 600 a) (hn : n + 1 ≤ 40) : EV G m_X11_layers d 0 0 [.ref Q, .int x] h (RE (some (.int (nI (cnt (fun u => a (10 + u)) x (n + 1))))) h) := by
  refine ev_2_2 rfl rfl (by decide +kernel) (by decide +kernel) ?_
  refine z_iconst (n := 1) (q := 0) (v := 0) (by decide +kernel) ?_
  refine z_ist2 (n := 2) (by decide +kernel) rfl ?_
  refine z_iconst (n := 3) (q := 0) (v := 0) (by decide +kernel) ?_
  refine z_ist3 (n := 4) (by decide +kernel) rfl ?_
  refine loopZ (k := n + 1) (fun u => Z G m_X11_layers d 0 0 0 0 4 [some (.ref Q), some (.int x), some (.int (nI (cnt (fun u => a (10 + u)) x u))), some (.int (nI u))] [] h (RE (some (.int (nI (cnt (fun u => a (10 + u)) x (n + 1))))) h)) ?_ ?_ 0 (Nat.zero_le _)
  · refine z_ild3 (n := 5) (by decide +kernel) ?_
    refine z_ald0 (n := 6) (by decide +kernel) ?_
    refine z_getf (n := 9) (idx := 71) (by decide +kernel) fl_X11_71 (by assumption) (by rfl) ?_
    refine z_icmp_ge_t (n := 12) (off := 30) (tgt := 39) (by decide +kernel) (nI_le (Nat.le_refl _) (by omega)) ?_
    refine z_ild2 (n := 40) (by decide +kernel) ?_
    refine z_iret (by decide +kernel) rfl (Nat.le_refl _) ?_
    exact ⟨rfl, rfl⟩
  · intro u ul ih
    refine z_ild3 (n := 5) (by decide +kernel) ?_
    refine z_ald0 (n := 6) (by decide +kernel) ?_
    refine z_getf (n := 9) (idx := 71) (by decide +kernel) fl_X11_71 (by assumption) (by rfl) ?_
    refine z_icmp_ge_f (n := 12) (off := 30) (tgt := 39) (by decide +kernel) (nI_ge ul (by omega)) ?_
    refine z_ild2 (n := 13) (by decide +kernel) ?_
    refine z_ald0 (n := 14) (by decide +kernel) ?_
    refine z_getf (n := 17) (idx := 7) (by decide +kernel) fl_X11_7 (by assumption) (by rfl) ?_
    refine z_bipush (n := 19) (q := 10) (v := 10) (by decide +kernel) ?_
    refine z_ild3 (n := 20) (by decide +kernel) ?_
    refine z_iadd (n := 21) (by decide +kernel) ?_
    refine z_iald (n := 22) (by decide +kernel) (by assumption) (by first | assumption | exact ix_nI (by omega) (by omega) | exact ix_of (by simp only [n_0, n_1, n_2, n_3, n_4, n_5, n_6, n_7, n_8, n_10, n_50, n_90, n_130, n_370, n_570, nI_add, pk_mul]; rfl) (by omega) (by omega)) ?_
    refine z_ild1 (n := 23) (by decide +kernel) ?_
    refine z_icmp_ne (n := 26) (off := 7) (tgt := 30) (by decide +kernel) (fun c23 => ?_) (fun c23 => ?_)
    · refine z_iconst (n := 31) (q := 0) (v := 0) (by decide +kernel) ?_
      refine z_iadd (n := 32) (by decide +kernel) ?_
      refine z_ist2 (n := 33) (by decide +kernel) rfl ?_
      refine z_inc3 (n := 36) (q := 1) (by decide +kernel) rfl (nI_1 _) ?_
      refine z_goto (n := 39) (off := -32) (tgt := 4) (by decide +kernel) ?_
      first | (rw [show cnt (fun u => a (10 + u)) x (u + 1) = cnt (fun u => a (10 + u)) x u by simp [cnt, c23]] at ih; simpa using ih) | (rw [show cnt (fun u => a (10 + u)) x (u + 1) = cnt (fun u => a (10 + u)) x u + 1 by simp [cnt, c23], ← nI_1] at ih; exact ih)
    · refine z_iconst (n := 27) (q := 1) (v := 1) (by decide +kernel) ?_
      refine z_goto (n := 30) (off := 4) (tgt := 31) (by decide +kernel) ?_
      refine z_iadd (n := 32) (by decide +kernel) ?_
      refine z_ist2 (n := 33) (by decide +kernel) rfl ?_
      refine z_inc3 (n := 36) (q := 1) (by decide +kernel) rfl (nI_1 _) ?_
      refine z_goto (n := 39) (off := -32) (tgt := 4) (by decide +kernel) ?_
      first | (rw [show cnt (fun u => a (10 + u)) x (u + 1) = cnt (fun u => a (10 + u)) x u by simp [cnt, c23]] at ih; simpa using ih) | (rw [show cnt (fun u => a (10 + u)) x (u + 1) = cnt (fun u => a (10 + u)) x u + 1 by simp [cnt, c23], ← nI_1] at ih; exact ih)
theorem m_at {G : mG} {h : mH} {Q n : Nat} {m : Nat → Int32} {wd : Int64} {a : Nat → Int32} {x z : Int32} (d : Nat) (hQ : h Q = oMod Q (nI (n + 1)) m wd) (hA : h (Q + 1) = aI 600 a) (hn : n + 1 ≤ 40) : EV G m_X11_at d 0 0 [.ref Q, .int x, .int z] h (RE (some (.int (if fsT (fun u => decide (a (10 + u) = x) && decide (a (50 + u) = z)) (n + 1) 0 < n + 1 then nI (fsT (fun u => decide (a (10 + u) = x) && decide (a (50 + u) = z)) (n + 1) 0) else -1))) h) := by
  refine ev_3_1 rfl rfl rfl (by decide +kernel) (by decide +kernel) ?_
  refine z_iconst (n := 1) (q := 0) (v := 0) (by decide +kernel) ?_
  refine z_ist3 (n := 2) (by decide +kernel) rfl ?_
  have key : ∀ u, u ≤ n + 1 → Z G m_X11_at d 0 0 0 0 2 [some (.ref Q), some (.int x), some (.int z), some (.int (nI u))] [] h (RE (some (.int (if fsT (fun u => decide (a (10 + u) = x) && decide (a (50 + u) = z)) (n + 1 - u) u < n + 1 then nI (fsT (fun u => decide (a (10 + u) = x) && decide (a (50 + u) = z)) (n + 1 - u) u) else -1))) h) := by
    refine loopZ (k := n + 1) (fun u => Z G m_X11_at d 0 0 0 0 2 [some (.ref Q), some (.int x), some (.int z), some (.int (nI u))] [] h (RE (some (.int (if fsT (fun u => decide (a (10 + u) = x) && decide (a (50 + u) = z)) (n + 1 - u) u < n + 1 then nI (fsT (fun u => decide (a (10 + u) = x) && decide (a (50 + u) = z)) (n + 1 - u) u) else -1))) h)) ?_ ?_
    · refine z_ild3 (n := 3) (by decide +kernel) ?_
      refine z_ald0 (n := 4) (by decide +kernel) ?_
      refine z_getf (n := 7) (idx := 71) (by decide +kernel) fl_X11_71 (by assumption) (by rfl) ?_
      refine z_icmp_ge_t (n := 10) (off := 37) (tgt := 44) (by decide +kernel) (nI_le (Nat.le_refl _) (by omega)) ?_
      refine z_iconst (n := 45) (q := -1) (v := -1) (by decide +kernel) ?_
      refine z_iret (by decide +kernel) rfl (Nat.le_refl _) ?_
      exact ⟨by simp [fsT], rfl⟩
    · intro u ul ih
      have e : n + 1 - u = (n + 1 - (u + 1)) + 1 := by omega
      rw [e]
      refine z_ild3 (n := 3) (by decide +kernel) ?_
      refine z_ald0 (n := 4) (by decide +kernel) ?_
      refine z_getf (n := 7) (idx := 71) (by decide +kernel) fl_X11_71 (by assumption) (by rfl) ?_
      refine z_icmp_ge_f (n := 10) (off := 37) (tgt := 44) (by decide +kernel) (nI_ge ul (by omega)) ?_
      refine z_ald0 (n := 11) (by decide +kernel) ?_
      refine z_getf (n := 14) (idx := 7) (by decide +kernel) fl_X11_7 (by assumption) (by rfl) ?_
      refine z_bipush (n := 16) (q := 10) (v := 10) (by decide +kernel) ?_
      refine z_ild3 (n := 17) (by decide +kernel) ?_
      refine z_iadd (n := 18) (by decide +kernel) ?_
      refine z_iald (n := 19) (by decide +kernel) (by assumption) (by first | assumption | exact ix_nI (by omega) (by omega) | exact ix_of (by simp only [n_0, n_1, n_2, n_3, n_4, n_5, n_6, n_7, n_8, n_10, n_50, n_90, n_130, n_370, n_570, nI_add, pk_mul]; rfl) (by omega) (by omega)) ?_
      refine z_ild1 (n := 20) (by decide +kernel) ?_
      refine z_icmp_ne (n := 23) (off := 18) (tgt := 38) (by decide +kernel) (fun c20 => ?_) (fun c20 => ?_)
      · refine z_inc3 (n := 41) (q := 1) (by decide +kernel) rfl (nI_1 _) ?_
        refine z_goto (n := 44) (off := -39) (tgt := 2) (by decide +kernel) ?_
        rw [fsT_f (by simp only [eq_false c20, decide_true, decide_false, Bool.and_true, Bool.and_false, Bool.true_and, Bool.false_and, Bool.or_true, Bool.or_false, Bool.true_or, Bool.false_or, Bool.not_true, Bool.not_false, if_true, if_false])]; exact ih
      · refine z_ald0 (n := 24) (by decide +kernel) ?_
        refine z_getf (n := 27) (idx := 7) (by decide +kernel) fl_X11_7 (by assumption) (by rfl) ?_
        refine z_bipush (n := 29) (q := 50) (v := 50) (by decide +kernel) ?_
        refine z_ild3 (n := 30) (by decide +kernel) ?_
        refine z_iadd (n := 31) (by decide +kernel) ?_
        refine z_iald (n := 32) (by decide +kernel) (by assumption) (by first | assumption | exact ix_nI (by omega) (by omega) | exact ix_of (by simp only [n_0, n_1, n_2, n_3, n_4, n_5, n_6, n_7, n_8, n_10, n_50, n_90, n_130, n_370, n_570, nI_add, pk_mul]; rfl) (by omega) (by omega)) ?_
        refine z_ild2 (n := 33) (by decide +kernel) ?_
        refine z_icmp_ne (n := 36) (off := 5) (tgt := 38) (by decide +kernel) (fun c33 => ?_) (fun c33 => ?_)
        · refine z_inc3 (n := 41) (q := 1) (by decide +kernel) rfl (nI_1 _) ?_
          refine z_goto (n := 44) (off := -39) (tgt := 2) (by decide +kernel) ?_
          rw [fsT_f (by simp only [eq_true c20, eq_false c33, decide_true, decide_false, Bool.and_true, Bool.and_false, Bool.true_and, Bool.false_and, Bool.or_true, Bool.or_false, Bool.true_or, Bool.false_or, Bool.not_true, Bool.not_false, if_true, if_false])]; exact ih
        · refine z_ild3 (n := 37) (by decide +kernel) ?_
          refine z_iret (by decide +kernel) rfl (Nat.le_refl _) ?_
          exact ⟨by rw [fsT_t (by simp only [eq_true c20, eq_true c33, decide_true, decide_false, Bool.and_true, Bool.and_false, Bool.true_and, Bool.false_and, Bool.or_true, Bool.or_false, Bool.true_or, Bool.false_or, Bool.not_true, Bool.not_false, if_true, if_false]), if_pos ul], rfl⟩
  exact key 0 (Nat.zero_le _)
theorem m_creases {G : mG} {h : mH} {Q n : Nat} {m : Nat → Int32} {wd : Int64} {a : Nat → Int32} {x : Int32} {u : Nat} (d : Nat) (hu9 : u + 1 ≤ n) (hQ : h Q = oMod Q (nI (n + 1)) m wd) (hA : h (Q + 1) = aI 600 a) (hn : n + 1 ≤ 40) : EV G m_X11_creases d 0 0 [.ref Q, .int (nI (u + 1)), .int x] h (RE (some (.int (bI (crs (fun u => a (10 + u)) u x)))) h) := by
  refine ev_3_2 rfl rfl rfl (by decide +kernel) (by decide +kernel) ?_
  refine z_ald0 (n := 1) (by decide +kernel) ?_
  refine z_getf (n := 4) (idx := 7) (by decide +kernel) fl_X11_7 (by assumption) (by rfl) ?_
  refine z_bipush (n := 6) (q := 10) (v := 10) (by decide +kernel) ?_
  refine z_ild1 (n := 7) (by decide +kernel) ?_
  refine z_iadd (n := 8) (by decide +kernel) ?_
  refine z_iconst (n := 9) (q := 1) (v := 1) (by decide +kernel) ?_
  refine z_isub (n := 10) (by decide +kernel) ?_
  refine z_top (show _ = nI (10 + u) by rw [n_10, nI_add, show 10 + (u + 1) = (10 + u) + 1 by omega, nI_pred]) ?_
  refine z_iald (n := 11) (by decide +kernel) (by assumption) (by first | assumption | exact ix_nI (by omega) (by omega) | exact ix_of (by simp only [n_0, n_1, n_2, n_3, n_4, n_5, n_6, n_7, n_8, n_10, n_50, n_90, n_130, n_370, n_570, nI_add, pk_mul]; rfl) (by omega) (by omega)) ?_
  refine z_ist3 (n := 12) (by decide +kernel) rfl ?_
  refine z_ald0 (n := 13) (by decide +kernel) ?_
  refine z_getf (n := 16) (idx := 7) (by decide +kernel) fl_X11_7 (by assumption) (by rfl) ?_
  refine z_bipush (n := 18) (q := 10) (v := 10) (by decide +kernel) ?_
  refine z_ild1 (n := 19) (by decide +kernel) ?_
  refine z_iadd (n := 20) (by decide +kernel) ?_
  refine z_iald (n := 21) (by decide +kernel) (by assumption) (by first | assumption | exact ix_nI (by omega) (by omega) | exact ix_of (by simp only [n_0, n_1, n_2, n_3, n_4, n_5, n_6, n_7, n_8, n_10, n_50, n_90, n_130, n_370, n_570, nI_add, pk_mul]; rfl) (by omega) (by omega)) ?_
  refine z_ist4 (n := 23) (by decide +kernel) rfl ?_
  refine z_ild3 (n := 24) (by decide +kernel) ?_
  refine z_ild2 (n := 25) (by decide +kernel) ?_
  refine z_iconst (n := 26) (q := 1) (v := 1) (by decide +kernel) ?_
  refine z_isub (n := 27) (by decide +kernel) ?_
  refine z_icmp_ne (n := 30) (off := 9) (tgt := 36) (by decide +kernel) (fun c27 => ?_) (fun c27 => ?_)
  · refine z_ild3 (n := 37) (by decide +kernel) ?_
    refine z_ild2 (n := 38) (by decide +kernel) ?_
    refine z_icmp_ne (n := 41) (off := 15) (tgt := 53) (by decide +kernel) (fun c38 => ?_) (fun c38 => ?_)
    · refine z_iconst (n := 54) (q := 0) (v := 0) (by decide +kernel) ?_
      first | refine z_zr1 (by decide +kernel) rfl (Nat.le_refl _) ?_ | refine z_zr0 (by decide +kernel) rfl (Nat.le_refl _) ?_ | refine z_zrb (by decide +kernel) rfl (Nat.le_refl _) ?_
      exact ⟨by unfold crs; simp only [← Nat.add_assoc] at *; simp only [eq_false c27, eq_false c38, decide_true, decide_false, Bool.and_true, Bool.and_false, Bool.true_and, Bool.false_and, Bool.or_true, Bool.or_false, Bool.true_or, Bool.false_or, Bool.not_true, Bool.not_false, if_true, if_false], rfl⟩
    · refine z_ild4 (n := 43) (by decide +kernel) ?_
      refine z_ild2 (n := 44) (by decide +kernel) ?_
      refine z_iconst (n := 45) (q := 1) (v := 1) (by decide +kernel) ?_
      refine z_isub (n := 46) (by decide +kernel) ?_
      refine z_icmp_ne (n := 49) (off := 7) (tgt := 53) (by decide +kernel) (fun c46 => ?_) (fun c46 => ?_)
      · refine z_iconst (n := 54) (q := 0) (v := 0) (by decide +kernel) ?_
        first | refine z_zr1 (by decide +kernel) rfl (Nat.le_refl _) ?_ | refine z_zr0 (by decide +kernel) rfl (Nat.le_refl _) ?_ | refine z_zrb (by decide +kernel) rfl (Nat.le_refl _) ?_
        exact ⟨by unfold crs; simp only [← Nat.add_assoc] at *; simp only [eq_false c27, eq_true c38, eq_false c46, decide_true, decide_false, Bool.and_true, Bool.and_false, Bool.true_and, Bool.false_and, Bool.or_true, Bool.or_false, Bool.true_or, Bool.false_or, Bool.not_true, Bool.not_false, if_true, if_false], rfl⟩
      · refine z_iconst (n := 50) (q := 1) (v := 1) (by decide +kernel) ?_
        refine z_goto (n := 53) (off := 4) (tgt := 54) (by decide +kernel) ?_
        first | refine z_zr1 (by decide +kernel) rfl (Nat.le_refl _) ?_ | refine z_zr0 (by decide +kernel) rfl (Nat.le_refl _) ?_ | refine z_zrb (by decide +kernel) rfl (Nat.le_refl _) ?_
        exact ⟨by unfold crs; simp only [← Nat.add_assoc] at *; simp only [eq_false c27, eq_true c38, eq_true c46, decide_true, decide_false, Bool.and_true, Bool.and_false, Bool.true_and, Bool.false_and, Bool.or_true, Bool.or_false, Bool.true_or, Bool.false_or, Bool.not_true, Bool.not_false, if_true, if_false], rfl⟩
  · refine z_ild4 (n := 32) (by decide +kernel) ?_
    refine z_ild2 (n := 33) (by decide +kernel) ?_
    refine z_icmp_eq (n := 36) (off := 16) (tgt := 49) (by decide +kernel) (fun c33 => ?_) (fun c33 => ?_)
    · refine z_iconst (n := 50) (q := 1) (v := 1) (by decide +kernel) ?_
      refine z_goto (n := 53) (off := 4) (tgt := 54) (by decide +kernel) ?_
      first | refine z_zr1 (by decide +kernel) rfl (Nat.le_refl _) ?_ | refine z_zr0 (by decide +kernel) rfl (Nat.le_refl _) ?_ | refine z_zrb (by decide +kernel) rfl (Nat.le_refl _) ?_
      exact ⟨by unfold crs; simp only [← Nat.add_assoc] at *; simp only [eq_true c27, eq_true c33, decide_true, decide_false, Bool.and_true, Bool.and_false, Bool.true_and, Bool.false_and, Bool.or_true, Bool.or_false, Bool.true_or, Bool.false_or, Bool.not_true, Bool.not_false, if_true, if_false], rfl⟩
    · refine z_ild3 (n := 37) (by decide +kernel) ?_
      refine z_ild2 (n := 38) (by decide +kernel) ?_
      refine z_icmp_ne (n := 41) (off := 15) (tgt := 53) (by decide +kernel) (fun c38 => ?_) (fun c38 => ?_)
      · refine z_iconst (n := 54) (q := 0) (v := 0) (by decide +kernel) ?_
        first | refine z_zr1 (by decide +kernel) rfl (Nat.le_refl _) ?_ | refine z_zr0 (by decide +kernel) rfl (Nat.le_refl _) ?_ | refine z_zrb (by decide +kernel) rfl (Nat.le_refl _) ?_
        exact ⟨by unfold crs; simp only [← Nat.add_assoc] at *; simp only [eq_true c27, eq_false c33, eq_false c38, decide_true, decide_false, Bool.and_true, Bool.and_false, Bool.true_and, Bool.false_and, Bool.or_true, Bool.or_false, Bool.true_or, Bool.false_or, Bool.not_true, Bool.not_false, if_true, if_false], rfl⟩
      · refine z_ild4 (n := 43) (by decide +kernel) ?_
        refine z_ild2 (n := 44) (by decide +kernel) ?_
        refine z_iconst (n := 45) (q := 1) (v := 1) (by decide +kernel) ?_
        refine z_isub (n := 46) (by decide +kernel) ?_
        refine z_icmp_ne (n := 49) (off := 7) (tgt := 53) (by decide +kernel) (fun c46 => ?_) (fun c46 => ?_)
        · refine z_iconst (n := 54) (q := 0) (v := 0) (by decide +kernel) ?_
          first | refine z_zr1 (by decide +kernel) rfl (Nat.le_refl _) ?_ | refine z_zr0 (by decide +kernel) rfl (Nat.le_refl _) ?_ | refine z_zrb (by decide +kernel) rfl (Nat.le_refl _) ?_
          exact ⟨by unfold crs; simp only [← Nat.add_assoc] at *; simp only [eq_true c27, eq_false c33, eq_true c38, eq_false c46, decide_true, decide_false, Bool.and_true, Bool.and_false, Bool.true_and, Bool.false_and, Bool.or_true, Bool.or_false, Bool.true_or, Bool.false_or, Bool.not_true, Bool.not_false, if_true, if_false], rfl⟩
        · refine z_iconst (n := 50) (q := 1) (v := 1) (by decide +kernel) ?_
          refine z_goto (n := 53) (off := 4) (tgt := 54) (by decide +kernel) ?_
          first | refine z_zr1 (by decide +kernel) rfl (Nat.le_refl _) ?_ | refine z_zr0 (by decide +kernel) rfl (Nat.le_refl _) ?_ | refine z_zrb (by decide +kernel) rfl (Nat.le_refl _) ?_
          exact ⟨by unfold crs; simp only [← Nat.add_assoc] at *; simp only [eq_true c27, eq_false c33, eq_true c38, eq_true c46, decide_true, decide_false, Bool.and_true, Bool.and_false, Bool.true_and, Bool.false_and, Bool.or_true, Bool.or_false, Bool.true_or, Bool.false_or, Bool.not_true, Bool.not_false, if_true, if_false], rfl⟩
theorem m_isFolded {G : mG} {h : mH} {Q n : Nat} {m : Nat → Int32} {wd : Int64} {a : Nat → Int32} {u : Nat} (d : Nat) (hu9 : u + 1 ≤ n) (hQ : h Q = oMod Q (nI (n + 1)) m wd) (hA : h (Q + 1) = aI 600 a) (hn : n + 1 ≤ 40) : EV G m_X11_isFolded d 0 0 [.ref Q, .int (nI (u + 1))] h (RE (some (.int (bI (decide (a (10 + u) = a (10 + (u + 1))))))) h) := by
  refine ev_2_0 rfl rfl (by decide +kernel) (by decide +kernel) ?_
  refine z_ald0 (n := 1) (by decide +kernel) ?_
  refine z_getf (n := 4) (idx := 7) (by decide +kernel) fl_X11_7 (by assumption) (by rfl) ?_
  refine z_bipush (n := 6) (q := 10) (v := 10) (by decide +kernel) ?_
  refine z_ild1 (n := 7) (by decide +kernel) ?_
  refine z_iadd (n := 8) (by decide +kernel) ?_
  refine z_iconst (n := 9) (q := 1) (v := 1) (by decide +kernel) ?_
  refine z_isub (n := 10) (by decide +kernel) ?_
  refine z_top (show _ = nI (10 + u) by rw [n_10, nI_add, show 10 + (u + 1) = (10 + u) + 1 by omega, nI_pred]) ?_
  refine z_iald (n := 11) (by decide +kernel) (by assumption) (by first | assumption | exact ix_nI (by omega) (by omega) | exact ix_of (by simp only [n_0, n_1, n_2, n_3, n_4, n_5, n_6, n_7, n_8, n_10, n_50, n_90, n_130, n_370, n_570, nI_add, pk_mul]; rfl) (by omega) (by omega)) ?_
  refine z_ald0 (n := 12) (by decide +kernel) ?_
  refine z_getf (n := 15) (idx := 7) (by decide +kernel) fl_X11_7 (by assumption) (by rfl) ?_
  refine z_bipush (n := 17) (q := 10) (v := 10) (by decide +kernel) ?_
  refine z_ild1 (n := 18) (by decide +kernel) ?_
  refine z_iadd (n := 19) (by decide +kernel) ?_
  refine z_iald (n := 20) (by decide +kernel) (by assumption) (by first | assumption | exact ix_nI (by omega) (by omega) | exact ix_of (by simp only [n_0, n_1, n_2, n_3, n_4, n_5, n_6, n_7, n_8, n_10, n_50, n_90, n_130, n_370, n_570, nI_add, pk_mul]; rfl) (by omega) (by omega)) ?_
  refine z_icmp_ne (n := 23) (off := 7) (tgt := 27) (by decide +kernel) (fun c20 => ?_) (fun c20 => ?_)
  · refine z_iconst (n := 28) (q := 0) (v := 0) (by decide +kernel) ?_
    first | refine z_zr1 (by decide +kernel) rfl (Nat.le_refl _) ?_ | refine z_zr0 (by decide +kernel) rfl (Nat.le_refl _) ?_ | refine z_zrb (by decide +kernel) rfl (Nat.le_refl _) ?_
    exact ⟨by simp only [eq_false c20, decide_true, decide_false, Bool.and_true, Bool.and_false, Bool.true_and, Bool.false_and, Bool.or_true, Bool.or_false, Bool.true_or, Bool.false_or, Bool.not_true, Bool.not_false, if_true, if_false], rfl⟩
  · refine z_iconst (n := 24) (q := 1) (v := 1) (by decide +kernel) ?_
    refine z_goto (n := 27) (off := 4) (tgt := 28) (by decide +kernel) ?_
    first | refine z_zr1 (by decide +kernel) rfl (Nat.le_refl _) ?_ | refine z_zr0 (by decide +kernel) rfl (Nat.le_refl _) ?_ | refine z_zrb (by decide +kernel) rfl (Nat.le_refl _) ?_
    exact ⟨by simp only [eq_true c20, decide_true, decide_false, Bool.and_true, Bool.and_false, Bool.true_and, Bool.false_and, Bool.or_true, Bool.or_false, Bool.true_or, Bool.false_or, Bool.not_true, Bool.not_false, if_true, if_false], rfl⟩
/-- flattened as far as the cell u -/
def flA (a : Nat → Int32) : Nat → Nat → Int32
  | 0 => a
  | u + 1 => upd (upd (upd (flA a u) (10 + u) (nI u)) (50 + u) 0) (90 + u) 1
theorem m_flatten {G : mG} {h : mH} {Q n : Nat} {m : Nat → Int32} {wd : Int64} {a : Nat → Int32} (d : Nat) (hQ : h Q = oMod Q (nI (n + 1)) m wd) (hA : h (Q + 1) = aI 600 a) (hn : n + 1 ≤ 40) : EV G m_X11_flatten d 0 0 [.ref Q] h (RE none (hu h (Q + 1) (aI 600 (flA a (n + 1))))) := by
  refine ev_1_1 rfl (by decide +kernel) (by decide +kernel) ?_
  refine z_iconst (n := 1) (q := 0) (v := 0) (by decide +kernel) ?_
  refine z_ist1 (n := 2) (by decide +kernel) rfl ?_
  refine z_heap (h1 := hu h (Q + 1) (aI 600 (flA a 0))) (hu_self hA).symm ?_
  refine loopZ (k := n + 1) (fun u => Z G m_X11_flatten d 0 0 0 0 2 [some (.ref Q), some (.int (nI u))] [] (hu h (Q + 1) (aI 600 (flA a u))) (RE none (hu h (Q + 1) (aI 600 (flA a (n + 1)))))) ?_ ?_ 0 (Nat.zero_le _)
  · refine z_ild1 (n := 3) (by decide +kernel) ?_
    refine z_ald0 (n := 4) (by decide +kernel) ?_
    refine z_getf (n := 7) (idx := 71) (by decide +kernel) fl_X11_71 (by first | assumption | (simp (disch := omega) only [hu_s, hu_n]; first | assumption | rfl)) (by rfl) ?_
    refine z_icmp_ge_t (n := 10) (off := 39) (tgt := 46) (by decide +kernel) (nI_le (Nat.le_refl _) (by omega)) ?_
    refine z_vret (by decide +kernel) rfl (Nat.le_refl _) ?_
    exact ⟨rfl, rfl⟩
  · intro u ul ih
    refine z_ild1 (n := 3) (by decide +kernel) ?_
    refine z_ald0 (n := 4) (by decide +kernel) ?_
    refine z_getf (n := 7) (idx := 71) (by decide +kernel) fl_X11_71 (by first | assumption | (simp (disch := omega) only [hu_s, hu_n]; first | assumption | rfl)) (by rfl) ?_
    refine z_icmp_ge_f (n := 10) (off := 39) (tgt := 46) (by decide +kernel) (nI_ge ul (by omega)) ?_
    refine z_ald0 (n := 11) (by decide +kernel) ?_
    refine z_getf (n := 14) (idx := 7) (by decide +kernel) fl_X11_7 (by first | assumption | (simp (disch := omega) only [hu_s, hu_n]; first | assumption | rfl)) (by rfl) ?_
    refine z_bipush (n := 16) (q := 10) (v := 10) (by decide +kernel) ?_
    refine z_ild1 (n := 17) (by decide +kernel) ?_
    refine z_iadd (n := 18) (by decide +kernel) ?_
    refine z_ild1 (n := 19) (by decide +kernel) ?_
    refine z_iast (n := 20) (by decide +kernel) (by first | assumption | (simp (disch := omega) only [hu_s, hu_n]; first | assumption | rfl)) (by first | assumption | exact ix_nI (by omega) (by omega) | exact ix_of (by simp only [n_0, n_1, n_2, n_3, n_4, n_5, n_6, n_7, n_8, n_10, n_50, n_90, n_130, n_370, n_570, nI_add, pk_mul]; rfl) (by omega) (by omega)) ?_
    refine z_ald0 (n := 21) (by decide +kernel) ?_
    refine z_getf (n := 24) (idx := 7) (by decide +kernel) fl_X11_7 (by first | assumption | (simp (disch := omega) only [hu_s, hu_n]; first | assumption | rfl)) (by rfl) ?_
    refine z_bipush (n := 26) (q := 50) (v := 50) (by decide +kernel) ?_
    refine z_ild1 (n := 27) (by decide +kernel) ?_
    refine z_iadd (n := 28) (by decide +kernel) ?_
    refine z_iconst (n := 29) (q := 0) (v := 0) (by decide +kernel) ?_
    refine z_iast (n := 30) (by decide +kernel) (by first | assumption | (simp (disch := omega) only [hu_s, hu_n]; first | assumption | rfl)) (by first | assumption | exact ix_nI (by omega) (by omega) | exact ix_of (by simp only [n_0, n_1, n_2, n_3, n_4, n_5, n_6, n_7, n_8, n_10, n_50, n_90, n_130, n_370, n_570, nI_add, pk_mul]; rfl) (by omega) (by omega)) ?_
    refine z_ald0 (n := 31) (by decide +kernel) ?_
    refine z_getf (n := 34) (idx := 7) (by decide +kernel) fl_X11_7 (by first | assumption | (simp (disch := omega) only [hu_s, hu_n]; first | assumption | rfl)) (by rfl) ?_
    refine z_bipush (n := 36) (q := 90) (v := 90) (by decide +kernel) ?_
    refine z_ild1 (n := 37) (by decide +kernel) ?_
    refine z_iadd (n := 38) (by decide +kernel) ?_
    refine z_iconst (n := 39) (q := 1) (v := 1) (by decide +kernel) ?_
    refine z_iast (n := 40) (by decide +kernel) (by first | assumption | (simp (disch := omega) only [hu_s, hu_n]; first | assumption | rfl)) (by first | assumption | exact ix_nI (by omega) (by omega) | exact ix_of (by simp only [n_0, n_1, n_2, n_3, n_4, n_5, n_6, n_7, n_8, n_10, n_50, n_90, n_130, n_370, n_570, nI_add, pk_mul]; rfl) (by omega) (by omega)) ?_
    refine z_inc1 (n := 43) (q := 1) (by decide +kernel) rfl (nI_1 _) ?_
    refine z_goto (n := 46) (off := -41) (tgt := 2) (by decide +kernel) ?_
    exact z_heap (by simp only [hu_hu]; rfl) ih
/-- one tick for the points 1 .. u -/
def tkA (a : Nat → Int32) : Nat → Nat → Int32
  | 0 => a
  | u + 1 => if tkA a u (130 + 6 * (u + 1)) = 0 then tkA a u else upd (tkA a u) (130 + 6 * (u + 1) + 1) (if tkA a u (10 + u) = tkA a u (10 + (u + 1)) then crF (tkA a u 5) (tkA a u (130 + 6 * (u + 1) + 1)) else esF (tkA a u 6) (tkA a u (130 + 6 * (u + 1) + 1)))
def itA (f : (Nat → Int32) → Nat → Int32) : Nat → (Nat → Int32) → Nat → Int32
  | 0, a => a
  | t + 1, a => f (itA f t a)
def paA (n t : Nat) (a : Nat → Int32) : Nat → Int32 := upd (upd (itA (fun a => tkA a n) t a) 0 (itA (fun a => tkA a n) t a 0 + nI t)) 1 (upd (itA (fun a => tkA a n) t a) 0 (itA (fun a => tkA a n) t a 0 + nI t) 1 + 1)
theorem m_pass {G : mG} {h : mH} {Q n : Nat} {m : Nat → Int32} {wd : Int64} {a : Nat → Int32} {t : Nat} (d : Nat) (hd : 1 ≤ d) (ht : t < 2 ^ 31) (hQ : h Q = oMod Q (nI (n + 1)) m wd) (hA : h (Q + 1) = aI 600 a) (hn : n + 1 ≤ 40) : EV G m_X11_pass d 0 0 [.ref Q, .int (nI t)] h (RE none (hu h (Q + 1) (aI 600 (paA n t a)))) := by
  refine ev_2_3 rfl rfl (by decide +kernel) (by decide +kernel) ?_
  refine z_iconst (n := 1) (q := 0) (v := 0) (by decide +kernel) ?_
  refine z_ist2 (n := 2) (by decide +kernel) rfl ?_
  refine z_heap (h1 := hu h (Q + 1) (aI 600 (itA (fun a => tkA a n) 0 a))) (hu_self hA).symm ?_
  refine loopZ (k := t) (fun s => Z G m_X11_pass d 0 0 0 0 2 [some (.ref Q), some (.int (nI t)), some (.int (nI s)), none, none] [] (hu h (Q + 1) (aI 600 (itA (fun a => tkA a n) s a))) (RE none (hu h (Q + 1) (aI 600 (paA n t a))))) ?_ ?_ 0 (Nat.zero_le _)
  · refine z_ild2 (n := 3) (by decide +kernel) ?_
    refine z_ild1 (n := 4) (by decide +kernel) ?_
    refine z_icmp_ge_t (n := 7) (off := 130) (tgt := 134) (by decide +kernel) (nI_le (Nat.le_refl _) (by omega)) ?_
    refine z_ald0 (n := 135) (by decide +kernel) ?_
    refine z_getf (n := 138) (idx := 7) (by decide +kernel) fl_X11_7 (by first | assumption | (simp (disch := omega) only [hu_s, hu_n]; first | assumption | rfl)) (by rfl) ?_
    refine z_iconst (n := 139) (q := 0) (v := 0) (by decide +kernel) ?_
    refine z_dup2 (n := 140) (by decide +kernel) rfl rfl ?_
    refine z_iald (n := 141) (by decide +kernel) (by first | assumption | (simp (disch := omega) only [hu_s, hu_n]; first | assumption | rfl)) (by first | assumption | exact ix_nI (by omega) (by omega) | exact ix_of (by simp only [n_0, n_1, n_2, n_3, n_4, n_5, n_6, n_7, n_8, n_10, n_50, n_90, n_130, n_370, n_570, nI_add, pk_mul]; rfl) (by omega) (by omega)) ?_
    refine z_ild1 (n := 142) (by decide +kernel) ?_
    refine z_iadd (n := 143) (by decide +kernel) ?_
    refine z_iast (n := 144) (by decide +kernel) (by first | assumption | (simp (disch := omega) only [hu_s, hu_n]; first | assumption | rfl)) (by first | assumption | exact ix_nI (by omega) (by omega) | exact ix_of (by simp only [n_0, n_1, n_2, n_3, n_4, n_5, n_6, n_7, n_8, n_10, n_50, n_90, n_130, n_370, n_570, nI_add, pk_mul]; rfl) (by omega) (by omega)) ?_
    refine z_ald0 (n := 145) (by decide +kernel) ?_
    refine z_getf (n := 148) (idx := 7) (by decide +kernel) fl_X11_7 (by first | assumption | (simp (disch := omega) only [hu_s, hu_n]; first | assumption | rfl)) (by rfl) ?_
    refine z_iconst (n := 149) (q := 1) (v := 1) (by decide +kernel) ?_
    refine z_dup2 (n := 150) (by decide +kernel) rfl rfl ?_
    refine z_iald (n := 151) (by decide +kernel) (by first | assumption | (simp (disch := omega) only [hu_s, hu_n]; first | assumption | rfl)) (by first | assumption | exact ix_nI (by omega) (by omega) | exact ix_of (by simp only [n_0, n_1, n_2, n_3, n_4, n_5, n_6, n_7, n_8, n_10, n_50, n_90, n_130, n_370, n_570, nI_add, pk_mul]; rfl) (by omega) (by omega)) ?_
    refine z_iconst (n := 152) (q := 1) (v := 1) (by decide +kernel) ?_
    refine z_iadd (n := 153) (by decide +kernel) ?_
    refine z_iast (n := 154) (by decide +kernel) (by first | assumption | (simp (disch := omega) only [hu_s, hu_n]; first | assumption | rfl)) (by first | assumption | exact ix_nI (by omega) (by omega) | exact ix_of (by simp only [n_0, n_1, n_2, n_3, n_4, n_5, n_6, n_7, n_8, n_10, n_50, n_90, n_130, n_370, n_570, nI_add, pk_mul]; rfl) (by omega) (by omega)) ?_
    refine z_vret (by decide +kernel) rfl (Nat.le_refl _) ?_
    exact ⟨rfl, by simp only [hu_hu]; rfl⟩
  · intro s sl9 ih
    generalize hb : itA (fun a => tkA a n) s a = b
    have ih : Z G m_X11_pass d 0 0 0 0 2 [some (.ref Q), some (.int (nI t)), some (.int (nI (s + 1))), none, none] [] (hu h (Q + 1) (aI 600 (tkA b n))) (RE none (hu h (Q + 1) (aI 600 (paA n t a)))) := by
      rw [← hb]
      exact ih
    refine z_ild2 (n := 3) (by decide +kernel) ?_
    refine z_ild1 (n := 4) (by decide +kernel) ?_
    refine z_icmp_ge_f (n := 7) (off := 130) (tgt := 134) (by decide +kernel) (nI_ge sl9 (by omega)) ?_
    refine z_iconst (n := 8) (q := 1) (v := 1) (by decide +kernel) ?_
    refine z_ist3 (n := 9) (by decide +kernel) rfl ?_
    skip
    refine loopZ (k := n) (fun u => Z G m_X11_pass d 0 0 0 0 9 [some (.ref Q), some (.int (nI t)), some (.int (nI s)), some (.int (nI (u + 1))), none] [] (hu h (Q + 1) (aI 600 (tkA b u))) (RE none (hu h (Q + 1) (aI 600 (paA n t a))))) ?_ ?_ 0 (Nat.zero_le _)
    · refine z_ild3 (n := 10) (by decide +kernel) ?_
      refine z_ald0 (n := 11) (by decide +kernel) ?_
      refine z_getf (n := 14) (idx := 71) (by decide +kernel) fl_X11_71 (by first | assumption | (simp (disch := omega) only [hu_s, hu_n]; first | assumption | rfl)) (by rfl) ?_
      refine z_icmp_ge_t (n := 17) (off := 114) (tgt := 128) (by decide +kernel) (nI_le (Nat.le_refl _) (by omega)) ?_
      refine z_inc2 (n := 131) (q := 1) (by decide +kernel) rfl (nI_1 _) ?_
      refine z_goto (n := 134) (off := -129) (tgt := 2) (by decide +kernel) ?_
      exact z_wk (lv' := [some (.ref Q), some (.int (nI t)), some (.int (nI (s + 1))), none, none]) (by simp [wk]) ih
    · intro u ul ih2
      clear ih
      generalize hc9 : tkA b u = c9
      have e1 : c9 (130 + 6 * (u + 1)) = 0 → tkA b (u + 1) = c9 := fun q => by show (if tkA b u (130 + 6 * (u + 1)) = 0 then tkA b u else _) = c9; rw [hc9, if_pos q]
      have e2 : ¬ c9 (130 + 6 * (u + 1)) = 0 → c9 (10 + u) = c9 (10 + (u + 1)) → tkA b (u + 1) = upd c9 (130 + 6 * (u + 1) + 1) (crF (c9 5) (c9 (130 + 6 * (u + 1) + 1))) := fun q q2 => by show (if tkA b u (130 + 6 * (u + 1)) = 0 then tkA b u else _) = _; rw [hc9, if_neg q, if_pos q2]
      have e3 : ¬ c9 (130 + 6 * (u + 1)) = 0 → ¬ c9 (10 + u) = c9 (10 + (u + 1)) → tkA b (u + 1) = upd c9 (130 + 6 * (u + 1) + 1) (esF (c9 6) (c9 (130 + 6 * (u + 1) + 1))) := fun q q2 => by show (if tkA b u (130 + 6 * (u + 1)) = 0 then tkA b u else _) = _; rw [hc9, if_neg q, if_neg q2]
      refine z_ild3 (n := 10) (by decide +kernel) ?_
      refine z_ald0 (n := 11) (by decide +kernel) ?_
      refine z_getf (n := 14) (idx := 71) (by decide +kernel) fl_X11_71 (by first | assumption | (simp (disch := omega) only [hu_s, hu_n]; first | assumption | rfl)) (by rfl) ?_
      refine z_icmp_ge_f (n := 17) (off := 114) (tgt := 128) (by decide +kernel) (nI_ge (by omega) (by omega)) ?_
      refine z_sipush (n := 20) (q := 130) (v := 130) (by decide +kernel) ?_
      refine z_bipush (n := 22) (q := 6) (v := 6) (by decide +kernel) ?_
      refine z_ild3 (n := 23) (by decide +kernel) ?_
      refine z_imul (n := 24) (by decide +kernel) ?_
      refine z_iadd (n := 25) (by decide +kernel) ?_
      refine z_top (show _ = nI (130 + 6 * (u + 1)) by rw [n_130, n_6, pk_mul, nI_add]) ?_
      refine z_ist4 (n := 27) (by decide +kernel) rfl ?_
      refine z_ald0 (n := 28) (by decide +kernel) ?_
      refine z_getf (n := 31) (idx := 7) (by decide +kernel) fl_X11_7 (by first | assumption | (simp (disch := omega) only [hu_s, hu_n]; first | assumption | rfl)) (by rfl) ?_
      refine z_ild4 (n := 33) (by decide +kernel) ?_
      refine z_iconst (n := 34) (q := 0) (v := 0) (by decide +kernel) ?_
      refine z_iadd (n := 35) (by decide +kernel) ?_
      refine z_top (show _ = nI (130 + 6 * (u + 1)) by rw [n_0, nI_add]; rfl) ?_
      refine z_iald (n := 36) (by decide +kernel) (by first | assumption | (simp (disch := omega) only [hu_s, hu_n]; first | assumption | rfl)) (by first | assumption | exact ix_nI (by omega) (by omega) | exact ix_of (by simp only [n_0, n_1, n_2, n_3, n_4, n_5, n_6, n_7, n_8, n_10, n_50, n_90, n_130, n_370, n_570, nI_add, pk_mul]; rfl) (by omega) (by omega)) ?_
      refine z_if_ne (n := 39) (off := 6) (tgt := 42) (by decide +kernel) (fun c36 => ?_) (fun c36 => ?_)
      · refine z_ald0 (n := 43) (by decide +kernel) ?_
        refine z_ild3 (n := 44) (by decide +kernel) ?_
        refine z_v1 (n := 47) (idx := 85) (by decide +kernel) ml_X11_85 (by first | assumption | (simp (disch := omega) only [hu_s, hu_n]; first | assumption | rfl)) rfl (Nat.le_of_ble_eq_true rfl) (by omega) ⟨Nat.le_refl _, Nat.le_refl _⟩ (m_isFolded (n := n) (a := c9) 0 (by omega) (by simp (disch := omega) only [hTn, hCr, hFl, hu_s, hu_n]; first | done | assumption | rfl) (by simp (disch := omega) only [hTn, hCr, hFl, hu_s, hu_n]; first | done | assumption | rfl) hn) ?_
        refine z_ifb_eq (n := 50) (off := 42) (tgt := 89) (by decide +kernel) (fun c47 => ?_) (fun c47 => ?_)
        · refine z_ald0 (n := 90) (by decide +kernel) ?_
          refine z_getf (n := 93) (idx := 7) (by decide +kernel) fl_X11_7 (by first | assumption | (simp (disch := omega) only [hu_s, hu_n]; first | assumption | rfl)) (by rfl) ?_
          refine z_ild4 (n := 95) (by decide +kernel) ?_
          refine z_iconst (n := 96) (q := 1) (v := 1) (by decide +kernel) ?_
          refine z_iadd (n := 97) (by decide +kernel) ?_
          refine z_top (show _ = nI (130 + 6 * (u + 1) + 1) by rw [n_1, nI_add]) ?_
          refine z_dup2 (n := 98) (by decide +kernel) rfl rfl ?_
          refine z_iald (n := 99) (by decide +kernel) (by first | assumption | (simp (disch := omega) only [hu_s, hu_n]; first | assumption | rfl)) (by first | assumption | exact ix_nI (by omega) (by omega) | exact ix_of (by simp only [n_0, n_1, n_2, n_3, n_4, n_5, n_6, n_7, n_8, n_10, n_50, n_90, n_130, n_370, n_570, nI_add, pk_mul]; rfl) (by omega) (by omega)) ?_
          refine z_ald0 (n := 100) (by decide +kernel) ?_
          refine z_getf (n := 103) (idx := 7) (by decide +kernel) fl_X11_7 (by first | assumption | (simp (disch := omega) only [hu_s, hu_n]; first | assumption | rfl)) (by rfl) ?_
          refine z_ild4 (n := 105) (by decide +kernel) ?_
          refine z_iconst (n := 106) (q := 1) (v := 1) (by decide +kernel) ?_
          refine z_iadd (n := 107) (by decide +kernel) ?_
          refine z_top (show _ = nI (130 + 6 * (u + 1) + 1) by rw [n_1, nI_add]) ?_
          refine z_iald (n := 108) (by decide +kernel) (by first | assumption | (simp (disch := omega) only [hu_s, hu_n]; first | assumption | rfl)) (by first | assumption | exact ix_nI (by omega) (by omega) | exact ix_of (by simp only [n_0, n_1, n_2, n_3, n_4, n_5, n_6, n_7, n_8, n_10, n_50, n_90, n_130, n_370, n_570, nI_add, pk_mul]; rfl) (by omega) (by omega)) ?_
          refine z_ald0 (n := 109) (by decide +kernel) ?_
          refine z_getf (n := 112) (idx := 7) (by decide +kernel) fl_X11_7 (by first | assumption | (simp (disch := omega) only [hu_s, hu_n]; first | assumption | rfl)) (by rfl) ?_
          refine z_bipush (n := 114) (q := 6) (v := 6) (by decide +kernel) ?_
          refine z_iald (n := 115) (by decide +kernel) (by first | assumption | (simp (disch := omega) only [hu_s, hu_n]; first | assumption | rfl)) (by first | assumption | exact ix_nI (by omega) (by omega) | exact ix_of (by simp only [n_0, n_1, n_2, n_3, n_4, n_5, n_6, n_7, n_8, n_10, n_50, n_90, n_130, n_370, n_570, nI_add, pk_mul]; rfl) (by omega) (by omega)) ?_
          refine z_imul (n := 116) (by decide +kernel) ?_
          refine z_sipush (n := 119) (q := 1000) (v := 1000) (by decide +kernel) ?_
          refine z_idiv (n := 120) (by decide +kernel) (by decide) ?_
          refine z_isub (n := 121) (by decide +kernel) ?_
          refine z_iast (n := 122) (by decide +kernel) (by first | assumption | (simp (disch := omega) only [hu_s, hu_n]; first | assumption | rfl)) (by first | assumption | exact ix_nI (by omega) (by omega) | exact ix_of (by simp only [n_0, n_1, n_2, n_3, n_4, n_5, n_6, n_7, n_8, n_10, n_50, n_90, n_130, n_370, n_570, nI_add, pk_mul]; rfl) (by omega) (by omega)) ?_
          refine z_inc3 (n := 125) (q := 1) (by decide +kernel) rfl (nI_1 _) ?_
          refine z_goto (n := 128) (off := -116) (tgt := 9) (by decide +kernel) ?_
          exact z_wk (lv' := [some (.ref Q), some (.int (nI t)), some (.int (nI s)), some (.int (nI (u + 1 + 1))), none]) (by simp [wk]) (z_heap (by first | rw [e1 c36] | (rw [e2 c36 (by simpa using c47), hu_hu]; rfl) | (rw [e3 c36 (by simpa using c47), hu_hu]; rfl)) ih2)
        · refine z_ald0 (n := 51) (by decide +kernel) ?_
          refine z_getf (n := 54) (idx := 7) (by decide +kernel) fl_X11_7 (by first | assumption | (simp (disch := omega) only [hu_s, hu_n]; first | assumption | rfl)) (by rfl) ?_
          refine z_ild4 (n := 56) (by decide +kernel) ?_
          refine z_iconst (n := 57) (q := 1) (v := 1) (by decide +kernel) ?_
          refine z_iadd (n := 58) (by decide +kernel) ?_
          refine z_top (show _ = nI (130 + 6 * (u + 1) + 1) by rw [n_1, nI_add]) ?_
          refine z_dup2 (n := 59) (by decide +kernel) rfl rfl ?_
          refine z_iald (n := 60) (by decide +kernel) (by first | assumption | (simp (disch := omega) only [hu_s, hu_n]; first | assumption | rfl)) (by first | assumption | exact ix_nI (by omega) (by omega) | exact ix_of (by simp only [n_0, n_1, n_2, n_3, n_4, n_5, n_6, n_7, n_8, n_10, n_50, n_90, n_130, n_370, n_570, nI_add, pk_mul]; rfl) (by omega) (by omega)) ?_
          refine z_sipush (n := 63) (q := 1800) (v := 1800) (by decide +kernel) ?_
          refine z_ald0 (n := 64) (by decide +kernel) ?_
          refine z_getf (n := 67) (idx := 7) (by decide +kernel) fl_X11_7 (by first | assumption | (simp (disch := omega) only [hu_s, hu_n]; first | assumption | rfl)) (by rfl) ?_
          refine z_ild4 (n := 69) (by decide +kernel) ?_
          refine z_iconst (n := 70) (q := 1) (v := 1) (by decide +kernel) ?_
          refine z_iadd (n := 71) (by decide +kernel) ?_
          refine z_top (show _ = nI (130 + 6 * (u + 1) + 1) by rw [n_1, nI_add]) ?_
          refine z_iald (n := 72) (by decide +kernel) (by first | assumption | (simp (disch := omega) only [hu_s, hu_n]; first | assumption | rfl)) (by first | assumption | exact ix_nI (by omega) (by omega) | exact ix_of (by simp only [n_0, n_1, n_2, n_3, n_4, n_5, n_6, n_7, n_8, n_10, n_50, n_90, n_130, n_370, n_570, nI_add, pk_mul]; rfl) (by omega) (by omega)) ?_
          refine z_isub (n := 73) (by decide +kernel) ?_
          refine z_ald0 (n := 74) (by decide +kernel) ?_
          refine z_getf (n := 77) (idx := 7) (by decide +kernel) fl_X11_7 (by first | assumption | (simp (disch := omega) only [hu_s, hu_n]; first | assumption | rfl)) (by rfl) ?_
          refine z_iconst (n := 78) (q := 5) (v := 5) (by decide +kernel) ?_
          refine z_iald (n := 79) (by decide +kernel) (by first | assumption | (simp (disch := omega) only [hu_s, hu_n]; first | assumption | rfl)) (by first | assumption | exact ix_nI (by omega) (by omega) | exact ix_of (by simp only [n_0, n_1, n_2, n_3, n_4, n_5, n_6, n_7, n_8, n_10, n_50, n_90, n_130, n_370, n_570, nI_add, pk_mul]; rfl) (by omega) (by omega)) ?_
          refine z_imul (n := 80) (by decide +kernel) ?_
          refine z_sipush (n := 83) (q := 1000) (v := 1000) (by decide +kernel) ?_
          refine z_idiv (n := 84) (by decide +kernel) (by decide) ?_
          refine z_iadd (n := 85) (by decide +kernel) ?_
          refine z_iast (n := 86) (by decide +kernel) (by first | assumption | (simp (disch := omega) only [hu_s, hu_n]; first | assumption | rfl)) (by first | assumption | exact ix_nI (by omega) (by omega) | exact ix_of (by simp only [n_0, n_1, n_2, n_3, n_4, n_5, n_6, n_7, n_8, n_10, n_50, n_90, n_130, n_370, n_570, nI_add, pk_mul]; rfl) (by omega) (by omega)) ?_
          refine z_goto (n := 89) (off := 36) (tgt := 122) (by decide +kernel) ?_
          refine z_inc3 (n := 125) (q := 1) (by decide +kernel) rfl (nI_1 _) ?_
          refine z_goto (n := 128) (off := -116) (tgt := 9) (by decide +kernel) ?_
          exact z_wk (lv' := [some (.ref Q), some (.int (nI t)), some (.int (nI s)), some (.int (nI (u + 1 + 1))), none]) (by simp [wk]) (z_heap (by first | rw [e1 c36] | (rw [e2 c36 (by simpa using c47), hu_hu]; rfl) | (rw [e3 c36 (by simpa using c47), hu_hu]; rfl)) ih2)
      · refine z_goto (n := 42) (off := 83) (tgt := 122) (by decide +kernel) ?_
        refine z_inc3 (n := 125) (q := 1) (by decide +kernel) rfl (nI_1 _) ?_
        refine z_goto (n := 128) (off := -116) (tgt := 9) (by decide +kernel) ?_
        exact z_wk (lv' := [some (.ref Q), some (.int (nI t)), some (.int (nI s)), some (.int (nI (u + 1 + 1))), none]) (by simp [wk]) (z_heap (by first | rw [e1 c36] | (rw [e2 c36 (by simpa using c47), hu_hu]; rfl) | (rw [e3 c36 (by simpa using c47), hu_hu]; rfl)) ih2)
