/-! CreasedPaperModel: nearest, snap -/
theorem nrO_1 {s : Nat → Bool} {i r w : Nat} (h : w ≤ i ∧ s (i - w) = true) : nrO s i (r + 1) w = some (i - w) := by rw [nrO, if_pos h]
theorem nrO_2 {s : Nat → Bool} {i r w : Nat} (h : ¬ (w ≤ i ∧ s (i - w) = true)) (h2 : i + w ≤ 360 ∧ s (i + w) = true) : nrO s i (r + 1) w = some (i + w) := by rw [nrO, if_neg h, if_pos h2]
theorem nrO_3 {s : Nat → Bool} {i r w : Nat} (h : ¬ (w ≤ i ∧ s (i - w) = true)) (h2 : ¬ (i + w ≤ 360 ∧ s (i + w) = true)) : nrO s i (r + 1) w = nrO s i r (w + 1) := by rw [nrO, if_neg h, if_neg h2]
theorem nrO_far {s : Nat → Bool} {i j : Nat} : ∀ (r w : Nat), nrO s i r w = some j → i + w ≤ j ∨ j + w ≤ i
  | 0, w, h => by simp [nrO] at h
  | r + 1, w, h => by
    by_cases c1 : w ≤ i ∧ s (i - w) = true
    · rw [nrO_1 c1] at h; cases h; omega
    · by_cases c2 : i + w ≤ 360 ∧ s (i + w) = true
      · rw [nrO_2 c1 c2] at h; cases h; omega
      · rw [nrO_3 c1 c2] at h
        have := nrO_far r (w + 1) h
        omega
theorem ab_ang {i j : Nat} (hi : i ≤ 360) (hj : j ≤ 360) : (ab32 (ang j - ang i)).toInt = if i ≤ j then (j : Int) - i else (i : Int) - j := by
  have e : ang j - ang i = nI j - nI i := by
    unfold ang
    rw [Int32.sub_eq_add_neg (nI j - 180), Int32.neg_sub, Int32.sub_eq_add_neg, Int32.sub_eq_add_neg, Int32.sub_eq_add_neg, Int32.add_assoc, ← Int32.add_assoc (-180), Int32.add_comm (-180) 180, ]
    simp
  have t1 : (ang j - ang i).toInt = (j : Int) - i := by rw [e, pk_sub_toInt (by omega) (by omega)]
  unfold ab32
  by_cases c : i ≤ j
  · rw [if_pos (by rw [Int32.le_iff_toInt_le, t1]; show (0 : Int) ≤ _; omega), t1, if_pos c]
  · rw [if_neg (by rw [Int32.le_iff_toInt_le, t1]; show ¬ (0 : Int) ≤ _; omega), if_neg c]
    have e2 : (0 : Int32) - (ang j - ang i) = nI i - nI j := by rw [e, Int32.zero_sub, Int32.neg_sub]
    rw [e2, pk_sub_toInt (by omega) (by omega)]
/-- what the model's two searches find -/
theorem folT_m {T : Nat → Int32} {p sn fp : Int32} {i : Nat} (hi : i ≤ 360) : folT T p i sn fp = (match nrO (fun j => styI T j p) i 2 0 with
    | some j => (some j, sn, fp)
    | none => match nrO (fun j => styI T j p) i 359 2 with
      | none => (none, sn, fp)
      | some j => (some j, sn + 1, if sn = 0 then p else fp)) := by
  unfold folT
  by_cases c0 : styI T i p = true
  · rw [if_pos c0, nrO_1 ⟨Nat.zero_le _, c0⟩]
    rfl
  have z1 : ¬ (0 ≤ i ∧ (fun j => styI T j p) (i - 0) = true) := fun z => c0 z.2
  have z2 : ¬ (i + 0 ≤ 360 ∧ (fun j => styI T j p) (i + 0) = true) := fun z => c0 z.2
  have e9 : nrO (fun j => styI T j p) i 2 0 = nrO (fun j => styI T j p) i 1 1 := nrO_3 z1 z2
  rw [if_neg c0, e9]
  by_cases c1 : 1 ≤ i ∧ (fun j => styI T j p) (i - 1) = true
  · rw [nrO_1 c1, nrO_1 c1]
    have : ab32 (ang (i - 1) - ang i) ≤ 1 := by
      rw [Int32.le_iff_toInt_le, ab_ang hi (by omega), if_neg (by omega)]
      show (i : Int) - ((i - 1 : Nat) : Int) ≤ 1
      omega
    simp only [if_pos this]
  by_cases c2 : i + 1 ≤ 360 ∧ (fun j => styI T j p) (i + 1) = true
  · rw [nrO_2 c1 c2, nrO_2 c1 c2]
    have : ab32 (ang (i + 1) - ang i) ≤ 1 := by
      rw [Int32.le_iff_toInt_le, ab_ang hi c2.1, if_pos (by omega)]
      show ((i + 1 : Nat) : Int) - i ≤ 1
      omega
    simp only [if_pos this]
  have e7 : nrO (fun j => styI T j p) i 360 1 = nrO (fun j => styI T j p) i 359 2 := nrO_3 c1 c2
  have e8 : nrO (fun j => styI T j p) i 1 1 = none := nrO_3 c1 c2
  rw [e7, e8]
  cases e : nrO (fun j => styI T j p) i 359 2 with
  | none => rfl
  | some j =>
    have hf := nrO_far _ _ e
    have hj := nrO_le hi _ _ e
    have : ¬ ab32 (ang j - ang i) ≤ 1 := by
      rw [Int32.le_iff_toInt_le, ab_ang hi hj]
      show ¬ _ ≤ (1 : Int)
      split <;> omega
    simp only [if_neg this]
theorem m_nearest {G : mG} {h : mH} {Q n sh : Nat} {m : Nat → Int32} {wd : Int64} {a : Nat → Int32} {p : Int32} {i lo hi : Nat} (d : Nat) (hd : 2 ≤ d) (hs : sh < 6) (hQ : h Q = oMod Q (nI (n + 1)) m wd) (hA : h (Q + 1) = aI 600 a) (hn : n + 1 ≤ 40) (hi3 : i ≤ 360) (hh : hi ≤ 360) (hl : lo ≤ hi + 1) : EV G m_X11_nearest d 0 0 [.ref Q, .int (nI sh), .int p, .int (ang i), .int (nI lo), .int (nI hi)] h (RE (some (.int (toA (nrO (fun j => styI (tbM a sh) j p) i (hi + 1 - lo) lo)))) h) := by
  refine ev_6_1 rfl rfl rfl rfl rfl rfl (by decide +kernel) (by decide +kernel) ?_
  refine z_ild4 (n := 2) (by decide +kernel) ?_
  refine z_ist6 (n := 4) (by decide +kernel) rfl ?_
  have lp : ∀ w u, u + w = hi + 1 → Z G m_X11_nearest d 0 0 0 0 4 [some (.ref Q), some (.int (nI sh)), some (.int p), some (.int (ang i)), some (.int (nI lo)), some (.int (nI hi)), some (.int (nI u))] [] h (RE (some (.int (toA (nrO (fun j => styI (tbM a sh) j p) i w u)))) h) := by
    intro w
    induction w with
    | zero =>
      intro u hw
      refine z_ild6 (n := 6) (by decide +kernel) ?_
      refine z_ild5 (n := 8) (by decide +kernel) ?_
      refine z_icmp_gt_t (n := 11) (off := 67) (tgt := 75) (by decide +kernel) (nI_lt (by omega) (by omega)) ?_
      refine z_sipush (n := 78) (q := -1000) (v := -1000) (by decide +kernel) ?_
      refine z_iret (by decide +kernel) rfl (Nat.le_refl _) ?_
      exact ⟨rfl, rfl⟩
    | succ w ih =>
      intro u hw
      have f40 : ¬ (u ≤ i ∧ (fun j => styI (tbM a sh) j p) (i - u) = true) → Z G m_X11_nearest d 0 0 0 0 40 [some (.ref Q), some (.int (nI sh)), some (.int p), some (.int (ang i)), some (.int (nI lo)), some (.int (nI hi)), some (.int (nI u))] [] h (RE (some (.int (toA (nrO (fun j => styI (tbM a sh) j p) i (w + 1) u)))) h) := by
        intro z1
        by_cases c2 : i + u ≤ 360
        · refine z_ild3 (n := 41) (by decide +kernel) ?_
          refine z_ild6 (n := 43) (by decide +kernel) ?_
          refine z_iadd (n := 44) (by decide +kernel) ?_
          refine z_top (ang_add i u) ?_
          refine z_sipush (n := 47) (q := 180) (v := 180) (by decide +kernel) ?_
          refine z_icmp_gt_f (n := 50) (off := 22) (tgt := 69) (by decide +kernel) (by rw [ang_360, ang_lt (by omega) (by omega)]; omega) ?_
          refine z_ald0 (n := 51) (by decide +kernel) ?_
          refine z_ild1 (n := 52) (by decide +kernel) ?_
          refine z_ild2 (n := 53) (by decide +kernel) ?_
          refine z_ild3 (n := 54) (by decide +kernel) ?_
          refine z_ild6 (n := 56) (by decide +kernel) ?_
          refine z_iadd (n := 57) (by decide +kernel) ?_
          refine z_top (ang_add i u) ?_
          refine z_iconst (n := 58) (q := 1) (v := 1) (by decide +kernel) ?_
          refine z_v4 (n := 61) (idx := 217) (by decide +kernel) ml_X11_217 (by assumption) rfl (Nat.le_of_ble_eq_true rfl) (by omega) ⟨Nat.le_refl _, Nat.le_refl _⟩ (m_restsAt (n := n) (sh := sh) (i := i + u) (st := true) 1 (by omega) hs hQ hA hn c2) ?_
          refine z_ifb_eq (n := 64) (off := 8) (tgt := 69) (by decide +kernel) (fun c61 => ?_) (fun c61 => ?_)
          · refine z_inc6 (n := 72) (q := 1) (by decide +kernel) rfl (nI_1 _) ?_
            refine z_goto (n := 75) (off := -68) (tgt := 4) (by decide +kernel) ?_
            rw [nrO_3 z1 (fun z => by have z2 := z.2; rw [if_pos rfl] at c61; simp only [c61] at z2; cases z2)]; exact ih (u + 1) (by omega)
          · refine z_ild3 (n := 65) (by decide +kernel) ?_
            refine z_ild6 (n := 67) (by decide +kernel) ?_
            refine z_iadd (n := 68) (by decide +kernel) ?_
            refine z_top (ang_add i u) ?_
            refine z_iret (by decide +kernel) rfl (Nat.le_refl _) ?_
            rw [if_pos rfl] at c61; rw [nrO_2 z1 ⟨c2, c61⟩]; exact ⟨rfl, rfl⟩
        · refine z_ild3 (n := 41) (by decide +kernel) ?_
          refine z_ild6 (n := 43) (by decide +kernel) ?_
          refine z_iadd (n := 44) (by decide +kernel) ?_
          refine z_top (ang_add i u) ?_
          refine z_sipush (n := 47) (q := 180) (v := 180) (by decide +kernel) ?_
          refine z_icmp_gt_t (n := 50) (off := 22) (tgt := 69) (by decide +kernel) (by rw [ang_360, ang_lt (by omega) (by omega)]; omega) ?_
          refine z_inc6 (n := 72) (q := 1) (by decide +kernel) rfl (nI_1 _) ?_
          refine z_goto (n := 75) (off := -68) (tgt := 4) (by decide +kernel) ?_
          rw [nrO_3 z1 (fun z => c2 z.1)]; exact ih (u + 1) (by omega)
      by_cases c1 : u ≤ i
      · refine z_ild6 (n := 6) (by decide +kernel) ?_
        refine z_ild5 (n := 8) (by decide +kernel) ?_
        refine z_icmp_gt_f (n := 11) (off := 67) (tgt := 75) (by decide +kernel) (nI_nlt (by omega) (by omega)) ?_
        refine z_ild3 (n := 12) (by decide +kernel) ?_
        refine z_ild6 (n := 14) (by decide +kernel) ?_
        refine z_isub (n := 15) (by decide +kernel) ?_
        refine z_top (ang_sub c1) ?_
        refine z_sipush (n := 18) (q := -180) (v := -180) (by decide +kernel) ?_
        refine z_icmp_lt_f (n := 21) (off := 22) (tgt := 40) (by decide +kernel) (by rw [ang_0, ang_lt (by omega) (by omega)]; omega) ?_
        refine z_ald0 (n := 22) (by decide +kernel) ?_
        refine z_ild1 (n := 23) (by decide +kernel) ?_
        refine z_ild2 (n := 24) (by decide +kernel) ?_
        refine z_ild3 (n := 25) (by decide +kernel) ?_
        refine z_ild6 (n := 27) (by decide +kernel) ?_
        refine z_isub (n := 28) (by decide +kernel) ?_
        refine z_top (ang_sub c1) ?_
        refine z_iconst (n := 29) (q := 1) (v := 1) (by decide +kernel) ?_
        refine z_v4 (n := 32) (idx := 217) (by decide +kernel) ml_X11_217 (by assumption) rfl (Nat.le_of_ble_eq_true rfl) (by omega) ⟨Nat.le_refl _, Nat.le_refl _⟩ (m_restsAt (n := n) (sh := sh) (i := i - u) (st := true) 1 (by omega) hs hQ hA hn (by omega)) ?_
        refine z_ifb_eq (n := 35) (off := 8) (tgt := 40) (by decide +kernel) (fun c32 => ?_) (fun c32 => ?_)
        · exact f40 (fun z => by have z2 := z.2; rw [if_pos rfl] at c32; simp only [c32] at z2; cases z2)
        · refine z_ild3 (n := 36) (by decide +kernel) ?_
          refine z_ild6 (n := 38) (by decide +kernel) ?_
          refine z_isub (n := 39) (by decide +kernel) ?_
          refine z_top (ang_sub c1) ?_
          refine z_iret (by decide +kernel) rfl (Nat.le_refl _) ?_
          rw [if_pos rfl] at c32; rw [nrO_1 ⟨c1, c32⟩]; exact ⟨rfl, rfl⟩
      · refine z_ild6 (n := 6) (by decide +kernel) ?_
        refine z_ild5 (n := 8) (by decide +kernel) ?_
        refine z_icmp_gt_f (n := 11) (off := 67) (tgt := 75) (by decide +kernel) (nI_nlt (by omega) (by omega)) ?_
        refine z_ild3 (n := 12) (by decide +kernel) ?_
        refine z_ild6 (n := 14) (by decide +kernel) ?_
        refine z_isub (n := 15) (by decide +kernel) ?_
        refine z_sipush (n := 18) (q := -180) (v := -180) (by decide +kernel) ?_
        refine z_icmp_lt_t (n := 21) (off := 22) (tgt := 40) (by decide +kernel) (by rw [Int32.lt_iff_toInt_lt, ang_subI (by omega) (by omega)]; show _ < (-180 : Int); omega) ?_
        exact f40 (fun z => c1 z.1)
  exact lp (hi + 1 - lo) lo (by omega)
