/-! Shapes: the nearest, snaps; Sheets and Seen: copies -/
def nrO (s : Nat → Bool) (i : Nat) : Nat → Nat → Option Nat
  | 0, _ => none
  | r + 1, w => if w ≤ i ∧ s (i - w) = true then some (i - w) else if i + w ≤ 360 ∧ s (i + w) = true then some (i + w) else nrO s i r (w + 1)
def toA (o : Option Nat) : Int32 := match o with
  | none => -1000
  | some j => ang j
theorem nrO_le {s : Nat → Bool} {i j : Nat} (hi : i ≤ 360) : ∀ (r w : Nat), nrO s i r w = some j → j ≤ 360
  | 0, w, h => by simp [nrO] at h
  | r + 1, w, h => by
    unfold nrO at h
    split at h
    · cases h; omega
    · split at h
      · rename_i c; cases h; exact c.1
      · exact nrO_le hi r (w + 1) h
theorem ang_add (i w : Nat) : ang i + nI w = ang (i + w) := by
  unfold ang
  rw [← nI_add, Int32.sub_eq_add_neg, Int32.sub_eq_add_neg, Int32.add_assoc, Int32.add_assoc, Int32.add_comm (-180) (nI w)]
theorem ang_sub {i w : Nat} (h : w ≤ i) : ang i - nI w = ang (i - w) := by
  have := ang_add (i - w) w
  rw [show i - w + w = i by omega] at this
  rw [← this]
  exact Int32.add_sub_cancel _ _
theorem ang_subI {i w : Nat} (hi : i ≤ 1000) (hw : w ≤ 1000) : (ang i - nI w).toInt = (i : Int) - 180 - w := by
  have e : ang i - nI w = nI i - nI (180 + w) := by
    unfold ang
    rw [← nI_add, ← n_180, Int32.sub_eq_add_neg, Int32.sub_eq_add_neg, Int32.sub_eq_add_neg, Int32.neg_add, Int32.add_assoc, Int32.sub_eq_add_neg]
  rw [e, pk_sub_toInt (by omega) (by omega)]
  omega
theorem ang_gone {j : Nat} (h : j ≤ 360) : ¬ ang j = -1000 := by
  intro q
  have := congrArg Int32.toInt q
  rw [ang_I (by omega)] at this
  have e : (-1000 : Int32).toInt = -1000 := by decide
  omega
theorem k_nearest {G : mG} {h : mH} {H i : Nat} {sn fp p : Int32} {T : Nat → Int32} (d : Nat) (hd : 2 ≤ d) (hH : h H = oSha H (ang i) sn fp) (hT : h (H + 1) = aI 361 T) (hi : i ≤ 360) : EV G m_X5_nearestThatStays d 0 0 [.ref H, .int p] h (RE (some (.int (toA (nrO (fun j => styI T j p) i 360 1)))) h) := by
  refine ev_2_3 rfl rfl (by decide +kernel) (by decide +kernel) ?_
  refine z_iconst (n := 1) (q := 1) (v := 1) (by decide +kernel) ?_
  refine z_ist2 (n := 2) (by decide +kernel) rfl ?_
  have key := loopZ (k := 360) (fun u => Z G m_X5_nearestThatStays d 0 0 0 0 2 [some (.ref H), some (.int p), some (.int (nI (u + 1))), none, none] [] h (RE (some (.int (toA (nrO (fun j => styI T j p) i (360 - u) (u + 1))))) h)) ?_ ?_ 0 (by omega)
  · exact key
  · refine z_ild2 (n := 3) (by decide +kernel) ?_
    refine z_sipush (n := 6) (q := 360) (v := 360) (by decide +kernel) ?_
    refine z_icmp_gt_t (n := 9) (off := 63) (tgt := 69) (by decide +kernel) (by decide) ?_
    refine z_sipush (n := 72) (q := -1000) (v := -1000) (by decide +kernel) ?_
    refine z_iret (by decide +kernel) rfl (Nat.le_refl _) ?_
    exact ⟨by rfl, rfl⟩
  · intro u ul ih
    have e : 360 - u = (360 - (u + 1)) + 1 := by omega
    rw [e]
    have hi2 : ∀ q : Nat, q ≤ 1000 → ang i + nI q = ang (i + q) := fun q _ => ang_add i q
    by_cases hw : u + 1 ≤ i
    · by_cases hv : i + (u + 1) ≤ 360
      · refine z_ild2 (n := 3) (by decide +kernel) ?_
        refine z_sipush (n := 6) (q := 360) (v := 360) (by decide +kernel) ?_
        refine z_icmp_gt_f (n := 9) (off := 63) (tgt := 69) (by decide +kernel) (nI_nlt (a := 360) (by omega) (by omega)) ?_
        refine z_ald0 (n := 10) (by decide +kernel) ?_
        refine z_getf (n := 13) (idx := 25) (by decide +kernel) fl_X5_25 (by assumption) (by rfl) ?_
        refine z_ild2 (n := 14) (by decide +kernel) ?_
        refine z_isub (n := 15) (by decide +kernel) ?_
        refine z_top (ang_sub hw) ?_
        refine z_ist3 (n := 16) (by decide +kernel) rfl ?_
        refine z_ild3 (n := 17) (by decide +kernel) ?_
        refine z_sipush (n := 20) (q := -180) (v := -180) (by decide +kernel) ?_
        refine z_icmp_lt_f (n := 23) (off := 14) (tgt := 34) (by decide +kernel) (by rw [ang_0]; exact fun q => absurd ((ang_lt (by omega) (by omega)).mp q) (by omega)) ?_
        refine z_ald0 (n := 24) (by decide +kernel) ?_
        refine z_ild3 (n := 25) (by decide +kernel) ?_
        refine z_ild1 (n := 26) (by decide +kernel) ?_
        refine z_v2 (n := 29) (idx := 49) (by decide +kernel) ml_X5_49 (by assumption) rfl (Nat.le_of_ble_eq_true rfl) (by omega) ⟨Nat.le_refl _, Nat.le_refl _⟩ (k_restsAndStays 1 (by omega) hH hT (by omega)) ?_
        refine z_ifb_eq (n := 32) (off := 5) (tgt := 34) (by decide +kernel) (fun c29 => ?_) (fun c29 => ?_)
        · refine z_ald0 (n := 35) (by decide +kernel) ?_
          refine z_getf (n := 38) (idx := 25) (by decide +kernel) fl_X5_25 (by assumption) (by rfl) ?_
          refine z_ild2 (n := 39) (by decide +kernel) ?_
          refine z_iadd (n := 40) (by decide +kernel) ?_
          refine z_top (ang_add i (u + 1)) ?_
          refine z_ist4 (n := 42) (by decide +kernel) rfl ?_
          refine z_ild4 (n := 44) (by decide +kernel) ?_
          refine z_sipush (n := 47) (q := 180) (v := 180) (by decide +kernel) ?_
          refine z_icmp_gt_f (n := 50) (off := 16) (tgt := 63) (by decide +kernel) (by rw [ang_360]; exact fun q => absurd ((ang_lt (by omega) (by omega)).mp q) (by omega)) ?_
          refine z_ald0 (n := 51) (by decide +kernel) ?_
          refine z_ild4 (n := 53) (by decide +kernel) ?_
          refine z_ild1 (n := 54) (by decide +kernel) ?_
          refine z_v2 (n := 57) (idx := 49) (by decide +kernel) ml_X5_49 (by assumption) rfl (Nat.le_of_ble_eq_true rfl) (by omega) ⟨Nat.le_refl _, Nat.le_refl _⟩ (k_restsAndStays 1 (by omega) hH hT (by omega)) ?_
          refine z_ifb_eq (n := 60) (off := 6) (tgt := 63) (by decide +kernel) (fun c57 => ?_) (fun c57 => ?_)
          · refine z_inc2 (n := 66) (q := 1) (by decide +kernel) rfl (nI_1 _) ?_
            refine z_goto (n := 69) (off := -64) (tgt := 2) (by decide +kernel) ?_
            exact z_wk (lv' := [some (.ref H), some (.int p), some (.int (nI (u + 1 + 1))), none, none]) (by simp [wk]) (by simpa only [nrO, c29, c57, hw, hv, and_false, and_true, if_false, Bool.false_eq_true] using ih)
          · refine z_ild4 (n := 62) (by decide +kernel) ?_
            refine z_iret (by decide +kernel) rfl (Nat.le_refl _) ?_
            exact ⟨by first | (simp only [nrO, c29, c57, hw, hv]; simp [toA]; done) | simp [nrO, c29, c57, hw, hv, toA], rfl⟩
        · refine z_ild3 (n := 33) (by decide +kernel) ?_
          refine z_iret (by decide +kernel) rfl (Nat.le_refl _) ?_
          exact ⟨by first | (simp only [nrO, c29, hw, hv]; simp [toA]; done) | simp [nrO, c29, hw, hv, toA], rfl⟩
      · refine z_ild2 (n := 3) (by decide +kernel) ?_
        refine z_sipush (n := 6) (q := 360) (v := 360) (by decide +kernel) ?_
        refine z_icmp_gt_f (n := 9) (off := 63) (tgt := 69) (by decide +kernel) (nI_nlt (a := 360) (by omega) (by omega)) ?_
        refine z_ald0 (n := 10) (by decide +kernel) ?_
        refine z_getf (n := 13) (idx := 25) (by decide +kernel) fl_X5_25 (by assumption) (by rfl) ?_
        refine z_ild2 (n := 14) (by decide +kernel) ?_
        refine z_isub (n := 15) (by decide +kernel) ?_
        refine z_top (ang_sub hw) ?_
        refine z_ist3 (n := 16) (by decide +kernel) rfl ?_
        refine z_ild3 (n := 17) (by decide +kernel) ?_
        refine z_sipush (n := 20) (q := -180) (v := -180) (by decide +kernel) ?_
        refine z_icmp_lt_f (n := 23) (off := 14) (tgt := 34) (by decide +kernel) (by rw [ang_0]; exact fun q => absurd ((ang_lt (by omega) (by omega)).mp q) (by omega)) ?_
        refine z_ald0 (n := 24) (by decide +kernel) ?_
        refine z_ild3 (n := 25) (by decide +kernel) ?_
        refine z_ild1 (n := 26) (by decide +kernel) ?_
        refine z_v2 (n := 29) (idx := 49) (by decide +kernel) ml_X5_49 (by assumption) rfl (Nat.le_of_ble_eq_true rfl) (by omega) ⟨Nat.le_refl _, Nat.le_refl _⟩ (k_restsAndStays 1 (by omega) hH hT (by omega)) ?_
        refine z_ifb_eq (n := 32) (off := 5) (tgt := 34) (by decide +kernel) (fun c29 => ?_) (fun c29 => ?_)
        · refine z_ald0 (n := 35) (by decide +kernel) ?_
          refine z_getf (n := 38) (idx := 25) (by decide +kernel) fl_X5_25 (by assumption) (by rfl) ?_
          refine z_ild2 (n := 39) (by decide +kernel) ?_
          refine z_iadd (n := 40) (by decide +kernel) ?_
          refine z_top (ang_add i (u + 1)) ?_
          refine z_ist4 (n := 42) (by decide +kernel) rfl ?_
          refine z_ild4 (n := 44) (by decide +kernel) ?_
          refine z_sipush (n := 47) (q := 180) (v := 180) (by decide +kernel) ?_
          refine z_icmp_gt_t (n := 50) (off := 16) (tgt := 63) (by decide +kernel) (by rw [ang_360]; exact (ang_lt (by omega) (by omega)).mpr (by omega)) ?_
          refine z_inc2 (n := 66) (q := 1) (by decide +kernel) rfl (nI_1 _) ?_
          refine z_goto (n := 69) (off := -64) (tgt := 2) (by decide +kernel) ?_
          exact z_wk (lv' := [some (.ref H), some (.int p), some (.int (nI (u + 1 + 1))), none, none]) (by simp [wk]) (by simpa only [nrO, c29, hw, hv, and_false, and_true, false_and, if_false, Bool.false_eq_true] using ih)
        · refine z_ild3 (n := 33) (by decide +kernel) ?_
          refine z_iret (by decide +kernel) rfl (Nat.le_refl _) ?_
          exact ⟨by simp [nrO, c29, hw, hv, toA], rfl⟩
    · have lo : ang i - nI (u + 1) < -180 := by
        rw [Int32.lt_iff_toInt_lt, ang_subI (by omega) (by omega), show (-180 : Int32).toInt = -180 by decide]
        omega
      by_cases hv : i + (u + 1) ≤ 360
      · refine z_ild2 (n := 3) (by decide +kernel) ?_
        refine z_sipush (n := 6) (q := 360) (v := 360) (by decide +kernel) ?_
        refine z_icmp_gt_f (n := 9) (off := 63) (tgt := 69) (by decide +kernel) (nI_nlt (a := 360) (by omega) (by omega)) ?_
        refine z_ald0 (n := 10) (by decide +kernel) ?_
        refine z_getf (n := 13) (idx := 25) (by decide +kernel) fl_X5_25 (by assumption) (by rfl) ?_
        refine z_ild2 (n := 14) (by decide +kernel) ?_
        refine z_isub (n := 15) (by decide +kernel) ?_
        refine z_ist3 (n := 16) (by decide +kernel) rfl ?_
        refine z_ild3 (n := 17) (by decide +kernel) ?_
        refine z_sipush (n := 20) (q := -180) (v := -180) (by decide +kernel) ?_
        refine z_icmp_lt_t (n := 23) (off := 14) (tgt := 34) (by decide +kernel) (lo) ?_
        refine z_ald0 (n := 35) (by decide +kernel) ?_
        refine z_getf (n := 38) (idx := 25) (by decide +kernel) fl_X5_25 (by assumption) (by rfl) ?_
        refine z_ild2 (n := 39) (by decide +kernel) ?_
        refine z_iadd (n := 40) (by decide +kernel) ?_
        refine z_top (ang_add i (u + 1)) ?_
        refine z_ist4 (n := 42) (by decide +kernel) rfl ?_
        refine z_ild4 (n := 44) (by decide +kernel) ?_
        refine z_sipush (n := 47) (q := 180) (v := 180) (by decide +kernel) ?_
        refine z_icmp_gt_f (n := 50) (off := 16) (tgt := 63) (by decide +kernel) (by rw [ang_360]; exact fun q => absurd ((ang_lt (by omega) (by omega)).mp q) (by omega)) ?_
        refine z_ald0 (n := 51) (by decide +kernel) ?_
        refine z_ild4 (n := 53) (by decide +kernel) ?_
        refine z_ild1 (n := 54) (by decide +kernel) ?_
        refine z_v2 (n := 57) (idx := 49) (by decide +kernel) ml_X5_49 (by assumption) rfl (Nat.le_of_ble_eq_true rfl) (by omega) ⟨Nat.le_refl _, Nat.le_refl _⟩ (k_restsAndStays 1 (by omega) hH hT (by omega)) ?_
        refine z_ifb_eq (n := 60) (off := 6) (tgt := 63) (by decide +kernel) (fun c57 => ?_) (fun c57 => ?_)
        · refine z_inc2 (n := 66) (q := 1) (by decide +kernel) rfl (nI_1 _) ?_
          refine z_goto (n := 69) (off := -64) (tgt := 2) (by decide +kernel) ?_
          exact z_wk (lv' := [some (.ref H), some (.int p), some (.int (nI (u + 1 + 1))), none, none]) (by simp [wk]) (by simpa only [nrO, c57, hw, hv, and_false, and_true, false_and, if_false, Bool.false_eq_true] using ih)
        · refine z_ild4 (n := 62) (by decide +kernel) ?_
          refine z_iret (by decide +kernel) rfl (Nat.le_refl _) ?_
          exact ⟨by simp [nrO, c57, hw, hv, toA], rfl⟩
      · refine z_ild2 (n := 3) (by decide +kernel) ?_
        refine z_sipush (n := 6) (q := 360) (v := 360) (by decide +kernel) ?_
        refine z_icmp_gt_f (n := 9) (off := 63) (tgt := 69) (by decide +kernel) (nI_nlt (a := 360) (by omega) (by omega)) ?_
        refine z_ald0 (n := 10) (by decide +kernel) ?_
        refine z_getf (n := 13) (idx := 25) (by decide +kernel) fl_X5_25 (by assumption) (by rfl) ?_
        refine z_ild2 (n := 14) (by decide +kernel) ?_
        refine z_isub (n := 15) (by decide +kernel) ?_
        refine z_ist3 (n := 16) (by decide +kernel) rfl ?_
        refine z_ild3 (n := 17) (by decide +kernel) ?_
        refine z_sipush (n := 20) (q := -180) (v := -180) (by decide +kernel) ?_
        refine z_icmp_lt_t (n := 23) (off := 14) (tgt := 34) (by decide +kernel) (lo) ?_
        refine z_ald0 (n := 35) (by decide +kernel) ?_
        refine z_getf (n := 38) (idx := 25) (by decide +kernel) fl_X5_25 (by assumption) (by rfl) ?_
        refine z_ild2 (n := 39) (by decide +kernel) ?_
        refine z_iadd (n := 40) (by decide +kernel) ?_
        refine z_top (ang_add i (u + 1)) ?_
        refine z_ist4 (n := 42) (by decide +kernel) rfl ?_
        refine z_ild4 (n := 44) (by decide +kernel) ?_
        refine z_sipush (n := 47) (q := 180) (v := 180) (by decide +kernel) ?_
        refine z_icmp_gt_t (n := 50) (off := 16) (tgt := 63) (by decide +kernel) (by rw [ang_360]; exact (ang_lt (by omega) (by omega)).mpr (by omega)) ?_
        refine z_inc2 (n := 66) (q := 1) (by decide +kernel) rfl (nI_1 _) ?_
        refine z_goto (n := 69) (off := -64) (tgt := 2) (by decide +kernel) ?_
        exact z_wk (lv' := [some (.ref H), some (.int p), some (.int (nI (u + 1 + 1))), none, none]) (by simp [wk]) (by simpa only [nrO, hw, hv, and_false, and_true, false_and, if_false, Bool.false_eq_true] using ih)
abbrev nT : Type := Option Nat × Int32 × Int32
def ab32 (x : Int32) : Int32 := if 0 ≤ x then x else 0 - x
def folT (T : Nat → Int32) (p : Int32) (i : Nat) (sn fp : Int32) : nT := if styI T i p = true then (some i, sn, fp) else match nrO (fun j => styI T j p) i 360 1 with
  | none => (none, sn, fp)
  | some j => if ab32 (ang j - ang i) ≤ 1 then (some j, sn, fp) else (some j, sn + 1, if sn = 0 then p else fp)
theorem k_followTo {G : mG} {h : mH} {H i : Nat} {sn fp p : Int32} {T : Nat → Int32} (d : Nat) (hd : 3 ≤ d) (hH : h H = oSha H (ang i) sn fp) (hT : h (H + 1) = aI 361 T) (hi : i ≤ 360) : EV G m_X5_followTo d 0 0 [.ref H, .int p] h (RE none (hu h H (oSha H (toA (folT T p i sn fp).1) (folT T p i sn fp).2.1 (folT T p i sn fp).2.2))) := by
  refine ev_2_1 rfl rfl (by decide +kernel) (by decide +kernel) ?_
  by_cases hs : styI T i p = true
  · have e : folT T p i sn fp = (some i, sn, fp) := by rw [folT, if_pos hs]
    rw [e]
    refine z_ald0 (n := 1) (by decide +kernel) ?_
    refine z_ald0 (n := 2) (by decide +kernel) ?_
    refine z_getf (n := 5) (idx := 25) (by decide +kernel) fl_X5_25 (by first | assumption | (simp (disch := omega) only [hu_s, hu_n]; first | assumption | rfl)) (by rfl) ?_
    refine z_ild1 (n := 6) (by decide +kernel) ?_
    refine z_v2 (n := 9) (idx := 49) (by decide +kernel) ml_X5_49 (by first | assumption | (simp (disch := omega) only [hu_s, hu_n]; first | assumption | rfl)) rfl (Nat.le_of_ble_eq_true rfl) (by omega) ⟨Nat.le_refl _, Nat.le_refl _⟩ (k_restsAndStays 1 (by omega) hH hT hi) ?_
    refine z_ifb_eq_f (n := 12) (off := 4) (tgt := 13) (by decide +kernel) (hs) ?_
    refine z_vret (by decide +kernel) rfl (Nat.le_refl _) ?_
    exact ⟨rfl, (hu_self hH).symm⟩
  · have hs' : styI T i p = false := by simpa using hs
    cases ho : nrO (fun j => styI T j p) i 360 1 with
    | none =>
      have e : folT T p i sn fp = (none, sn, fp) := by rw [folT, if_neg hs, ho]
      rw [e]
      refine z_ald0 (n := 1) (by decide +kernel) ?_
      refine z_ald0 (n := 2) (by decide +kernel) ?_
      refine z_getf (n := 5) (idx := 25) (by decide +kernel) fl_X5_25 (by first | assumption | (simp (disch := omega) only [hu_s, hu_n]; first | assumption | rfl)) (by rfl) ?_
      refine z_ild1 (n := 6) (by decide +kernel) ?_
      refine z_v2 (n := 9) (idx := 49) (by decide +kernel) ml_X5_49 (by first | assumption | (simp (disch := omega) only [hu_s, hu_n]; first | assumption | rfl)) rfl (Nat.le_of_ble_eq_true rfl) (by omega) ⟨Nat.le_refl _, Nat.le_refl _⟩ (k_restsAndStays 1 (by omega) hH hT hi) ?_
      refine z_ifb_eq_t (n := 12) (off := 4) (tgt := 13) (by decide +kernel) (hs') ?_
      refine z_ald0 (n := 14) (by decide +kernel) ?_
      refine z_ild1 (n := 15) (by decide +kernel) ?_
      refine z_v1 (n := 18) (idx := 52) (by decide +kernel) ml_X5_52 (by first | assumption | (simp (disch := omega) only [hu_s, hu_n]; first | assumption | rfl)) rfl (Nat.le_of_ble_eq_true rfl) (by omega) ⟨Nat.le_refl _, Nat.le_refl _⟩ (k_nearest 2 (by omega) hH hT hi) ?_
      rw [ho]
      refine z_ist2 (n := 19) (by decide +kernel) rfl ?_
      refine z_ild2 (n := 20) (by decide +kernel) ?_
      refine z_sipush (n := 23) (q := -1000) (v := -1000) (by decide +kernel) ?_
      refine z_icmp_eq_t (n := 26) (off := 38) (tgt := 61) (by decide +kernel) (rfl) ?_
      refine z_ald0 (n := 62) (by decide +kernel) ?_
      refine z_ild2 (n := 63) (by decide +kernel) ?_
      refine z_putf (n := 66) (idx := 25) (ty := .int) (by decide +kernel) fl_X5_25 (by first | assumption | (simp (disch := omega) only [hu_s, hu_n]; first | assumption | rfl)) ⟨_, _, _, rfl, rfl, by decide +kernel⟩ rfl rfl (Nat.le_of_ble_eq_true rfl) ?_
      refine z_vret (by decide +kernel) rfl (Nat.le_refl _) ?_
      exact ⟨rfl, rfl⟩
    | some j =>
      have hj := nrO_le hi _ _ ho
      by_cases h1 : ab32 (ang j - ang i) ≤ 1
      · have e : folT T p i sn fp = (some j, sn, fp) := by rw [folT, if_neg hs, ho]; exact if_pos h1
        rw [e]
        refine z_ald0 (n := 1) (by decide +kernel) ?_
        refine z_ald0 (n := 2) (by decide +kernel) ?_
        refine z_getf (n := 5) (idx := 25) (by decide +kernel) fl_X5_25 (by first | assumption | (simp (disch := omega) only [hu_s, hu_n]; first | assumption | rfl)) (by rfl) ?_
        refine z_ild1 (n := 6) (by decide +kernel) ?_
        refine z_v2 (n := 9) (idx := 49) (by decide +kernel) ml_X5_49 (by first | assumption | (simp (disch := omega) only [hu_s, hu_n]; first | assumption | rfl)) rfl (Nat.le_of_ble_eq_true rfl) (by omega) ⟨Nat.le_refl _, Nat.le_refl _⟩ (k_restsAndStays 1 (by omega) hH hT hi) ?_
        refine z_ifb_eq_t (n := 12) (off := 4) (tgt := 13) (by decide +kernel) (hs') ?_
        refine z_ald0 (n := 14) (by decide +kernel) ?_
        refine z_ild1 (n := 15) (by decide +kernel) ?_
        refine z_v1 (n := 18) (idx := 52) (by decide +kernel) ml_X5_52 (by first | assumption | (simp (disch := omega) only [hu_s, hu_n]; first | assumption | rfl)) rfl (Nat.le_of_ble_eq_true rfl) (by omega) ⟨Nat.le_refl _, Nat.le_refl _⟩ (k_nearest 2 (by omega) hH hT hi) ?_
        rw [ho]
        refine z_ist2 (n := 19) (by decide +kernel) rfl ?_
        refine z_ild2 (n := 20) (by decide +kernel) ?_
        refine z_sipush (n := 23) (q := -1000) (v := -1000) (by decide +kernel) ?_
        refine z_icmp_eq_f (n := 26) (off := 38) (tgt := 61) (by decide +kernel) (ang_gone hj) ?_
        refine z_ild2 (n := 27) (by decide +kernel) ?_
        refine z_ald0 (n := 28) (by decide +kernel) ?_
        refine z_getf (n := 31) (idx := 25) (by decide +kernel) fl_X5_25 (by first | assumption | (simp (disch := omega) only [hu_s, hu_n]; first | assumption | rfl)) (by rfl) ?_
        refine z_isub (n := 32) (by decide +kernel) ?_
        refine z_mabs (n := 35) (idx := 36) (by decide +kernel) jl_X5_36 (Nat.le_of_ble_eq_true rfl) (by omega) (Nat.le_refl _) (Nat.le_refl _) ?_
        refine z_iconst (n := 36) (q := 1) (v := 1) (by decide +kernel) ?_
        refine z_icmp_le_t (n := 39) (off := 25) (tgt := 61) (by decide +kernel) (h1) ?_
        refine z_ald0 (n := 62) (by decide +kernel) ?_
        refine z_ild2 (n := 63) (by decide +kernel) ?_
        refine z_putf (n := 66) (idx := 25) (ty := .int) (by decide +kernel) fl_X5_25 (by first | assumption | (simp (disch := omega) only [hu_s, hu_n]; first | assumption | rfl)) ⟨_, _, _, rfl, rfl, by decide +kernel⟩ rfl rfl (Nat.le_of_ble_eq_true rfl) ?_
        refine z_vret (by decide +kernel) rfl (Nat.le_refl _) ?_
        exact ⟨rfl, rfl⟩
      · have e : folT T p i sn fp = (some j, sn + 1, if sn = 0 then p else fp) := by rw [folT, if_neg hs, ho]; exact if_neg h1
        rw [e]
        refine z_ald0 (n := 1) (by decide +kernel) ?_
        refine z_ald0 (n := 2) (by decide +kernel) ?_
        refine z_getf (n := 5) (idx := 25) (by decide +kernel) fl_X5_25 (by first | assumption | (simp (disch := omega) only [hu_s, hu_n]; first | assumption | rfl)) (by rfl) ?_
        refine z_ild1 (n := 6) (by decide +kernel) ?_
        refine z_v2 (n := 9) (idx := 49) (by decide +kernel) ml_X5_49 (by first | assumption | (simp (disch := omega) only [hu_s, hu_n]; first | assumption | rfl)) rfl (Nat.le_of_ble_eq_true rfl) (by omega) ⟨Nat.le_refl _, Nat.le_refl _⟩ (k_restsAndStays 1 (by omega) hH hT hi) ?_
        refine z_ifb_eq_t (n := 12) (off := 4) (tgt := 13) (by decide +kernel) (hs') ?_
        refine z_ald0 (n := 14) (by decide +kernel) ?_
        refine z_ild1 (n := 15) (by decide +kernel) ?_
        refine z_v1 (n := 18) (idx := 52) (by decide +kernel) ml_X5_52 (by first | assumption | (simp (disch := omega) only [hu_s, hu_n]; first | assumption | rfl)) rfl (Nat.le_of_ble_eq_true rfl) (by omega) ⟨Nat.le_refl _, Nat.le_refl _⟩ (k_nearest 2 (by omega) hH hT hi) ?_
        rw [ho]
        refine z_ist2 (n := 19) (by decide +kernel) rfl ?_
        refine z_ild2 (n := 20) (by decide +kernel) ?_
        refine z_sipush (n := 23) (q := -1000) (v := -1000) (by decide +kernel) ?_
        refine z_icmp_eq_f (n := 26) (off := 38) (tgt := 61) (by decide +kernel) (ang_gone hj) ?_
        refine z_ild2 (n := 27) (by decide +kernel) ?_
        refine z_ald0 (n := 28) (by decide +kernel) ?_
        refine z_getf (n := 31) (idx := 25) (by decide +kernel) fl_X5_25 (by first | assumption | (simp (disch := omega) only [hu_s, hu_n]; first | assumption | rfl)) (by rfl) ?_
        refine z_isub (n := 32) (by decide +kernel) ?_
        refine z_mabs (n := 35) (idx := 36) (by decide +kernel) jl_X5_36 (Nat.le_of_ble_eq_true rfl) (by omega) (Nat.le_refl _) (Nat.le_refl _) ?_
        refine z_iconst (n := 36) (q := 1) (v := 1) (by decide +kernel) ?_
        refine z_icmp_le_f (n := 39) (off := 25) (tgt := 61) (by decide +kernel) (h1) ?_
        refine z_ald0 (n := 40) (by decide +kernel) ?_
        refine z_getf (n := 43) (idx := 29) (by decide +kernel) fl_X5_29 (by first | assumption | (simp (disch := omega) only [hu_s, hu_n]; first | assumption | rfl)) (by rfl) ?_
        refine z_if_ne (n := 46) (off := 8) (tgt := 51) (by decide +kernel) (fun c43 => ?_) (fun c43 => ?_)
        · refine z_ald0 (n := 52) (by decide +kernel) ?_
          refine z_dup (n := 53) (by decide +kernel) rfl ?_
          refine z_getf (n := 56) (idx := 29) (by decide +kernel) fl_X5_29 (by first | assumption | (simp (disch := omega) only [hu_s, hu_n]; first | assumption | rfl)) (by rfl) ?_
          refine z_iconst (n := 57) (q := 1) (v := 1) (by decide +kernel) ?_
          refine z_iadd (n := 58) (by decide +kernel) ?_
          refine z_putf (n := 61) (idx := 29) (ty := .int) (by decide +kernel) fl_X5_29 (by first | assumption | (simp (disch := omega) only [hu_s, hu_n]; first | assumption | rfl)) ⟨_, _, _, rfl, rfl, by decide +kernel⟩ rfl rfl (Nat.le_of_ble_eq_true rfl) ?_
          refine z_ald0 (n := 62) (by decide +kernel) ?_
          refine z_ild2 (n := 63) (by decide +kernel) ?_
          refine z_putf (n := 66) (idx := 25) (ty := .int) (by decide +kernel) fl_X5_25 (by first | assumption | (simp (disch := omega) only [hu_s, hu_n]; first | assumption | rfl)) ⟨_, _, _, rfl, rfl, by decide +kernel⟩ rfl rfl (Nat.le_of_ble_eq_true rfl) ?_
          refine z_vret (by decide +kernel) rfl (Nat.le_refl _) ?_
          exact ⟨rfl, by simp only [eq_false c43, if_true, if_false, hu_hu]; rfl⟩
        · refine z_ald0 (n := 47) (by decide +kernel) ?_
          refine z_ild1 (n := 48) (by decide +kernel) ?_
          refine z_putf (n := 51) (idx := 33) (ty := .int) (by decide +kernel) fl_X5_33 (by first | assumption | (simp (disch := omega) only [hu_s, hu_n]; first | assumption | rfl)) ⟨_, _, _, rfl, rfl, by decide +kernel⟩ rfl rfl (Nat.le_of_ble_eq_true rfl) ?_
          refine z_ald0 (n := 52) (by decide +kernel) ?_
          refine z_dup (n := 53) (by decide +kernel) rfl ?_
          refine z_getf (n := 56) (idx := 29) (by decide +kernel) fl_X5_29 (by first | assumption | (simp (disch := omega) only [hu_s, hu_n]; first | assumption | rfl)) (by rfl) ?_
          refine z_iconst (n := 57) (q := 1) (v := 1) (by decide +kernel) ?_
          refine z_iadd (n := 58) (by decide +kernel) ?_
          refine z_putf (n := 61) (idx := 29) (ty := .int) (by decide +kernel) fl_X5_29 (by first | assumption | (simp (disch := omega) only [hu_s, hu_n]; first | assumption | rfl)) ⟨_, _, _, rfl, rfl, by decide +kernel⟩ rfl rfl (Nat.le_of_ble_eq_true rfl) ?_
          refine z_ald0 (n := 62) (by decide +kernel) ?_
          refine z_ild2 (n := 63) (by decide +kernel) ?_
          refine z_putf (n := 66) (idx := 25) (ty := .int) (by decide +kernel) fl_X5_25 (by first | assumption | (simp (disch := omega) only [hu_s, hu_n]; first | assumption | rfl)) ⟨_, _, _, rfl, rfl, by decide +kernel⟩ rfl rfl (Nat.le_of_ble_eq_true rfl) ?_
          refine z_vret (by decide +kernel) rfl (Nat.le_refl _) ?_
          exact ⟨rfl, by simp only [eq_true c43, if_true, if_false, hu_hu]; rfl⟩
def psT (T : Nat → Int32) (p st : Int32) (i0 : Nat) : Nat → nT
  | 0 => (some i0, 0, -2000000000)
  | n + 1 => match psT T p st i0 n with
    | (none, a, b) => (none, a, b)
    | (some i, a, b) => folT T (p + nI (n + 1) * st) i a b
theorem folT_le {T : Nat → Int32} {p sn fp : Int32} {i j : Nat} (hi : i ≤ 360) (h : (folT T p i sn fp).1 = some j) : j ≤ 360 := by
  unfold folT at h
  split at h
  · cases h; exact hi
  · split at h
    · cases h
    · rename_i ho
      have := nrO_le hi _ _ ho
      split at h <;> (cases h; exact this)
theorem psT_le {T : Nat → Int32} {p st : Int32} {i0 : Nat} (h0 : i0 ≤ 360) : ∀ (n j : Nat), (psT T p st i0 n).1 = some j → j ≤ 360
  | 0, j, h => by cases h; exact h0
  | n + 1, j, h => by
    unfold psT at h
    split at h
    · cases h
    · rename_i i a b e
      exact folT_le (psT_le h0 n i (by rw [e])) h
theorem psT_none {T : Nat → Int32} {p st : Int32} {i0 u : Nat} (h : (psT T p st i0 u).1 = none) : ∀ k, u ≤ k → psT T p st i0 k = psT T p st i0 u := by
  intro k hk
  obtain ⟨m, rfl⟩ : ∃ m, k = u + m := ⟨k - u, by omega⟩
  clear hk
  induction m with
  | zero => rfl
  | succ m ih =>
    show (match psT T p st i0 (u + m) with | (none, a, b) => (none, a, b) | (some i, a, b) => folT T (p + nI (u + m + 1) * st) i a b) = _
    rw [ih]
    rcases e : psT T p st i0 u with ⟨o, a, b⟩
    cases o with
    | none => rfl
    | some i => rw [e] at h; cases h
theorem k_pushOn {G : mG} {h : mH} {H i0 k : Nat} {an sn fp p to : Int32} {T : Nat → Int32} (d : Nat) (hd : 4 ≤ d) (hH : h H = oSha H an sn fp) (hT : h (H + 1) = aI 361 T) (hi : i0 ≤ 360) (hk : k ≤ 2000) (hto : ab32 (to - p) = nI k) : EV G m_X5_pushOn d 0 0 [.ref H, .int (ang i0), .int p, .int to] h (RE none (hu h H (oSha H (toA (psT T p (if p ≤ to then 1 else -1) i0 k).1) (psT T p (if p ≤ to then 1 else -1) i0 k).2.1 (psT T p (if p ≤ to then 1 else -1) i0 k).2.2))) := by
  refine ev_4_3 rfl rfl rfl rfl (by decide +kernel) (by decide +kernel) ?_
  have main : ∀ st : Int32, st = (if p ≤ to then 1 else -1) → ∀ u, u ≤ k → Z G m_X5_pushOn d 0 0 0 0 45 [some (.ref H), some (.int (ang i0)), some (.int p), some (.int to), some (.int st), some (.int (nI k)), some (.int (nI (u + 1)))] [] (hu h H (oSha H (toA (psT T p st i0 u).1) (psT T p st i0 u).2.1 (psT T p st i0 u).2.2)) (RE none (hu h H (oSha H (toA (psT T p (if p ≤ to then 1 else -1) i0 k).1) (psT T p (if p ≤ to then 1 else -1) i0 k).2.1 (psT T p (if p ≤ to then 1 else -1) i0 k).2.2))) := by
    intro st hst
    rw [← hst]
    refine loopZ (k := k) (fun u => Z G m_X5_pushOn d 0 0 0 0 45 [some (.ref H), some (.int (ang i0)), some (.int p), some (.int to), some (.int st), some (.int (nI k)), some (.int (nI (u + 1)))] [] (hu h H (oSha H (toA (psT T p st i0 u).1) (psT T p st i0 u).2.1 (psT T p st i0 u).2.2)) (RE none (hu h H (oSha H (toA (psT T p st i0 k).1) (psT T p st i0 k).2.1 (psT T p st i0 k).2.2)))) ?_ ?_
    · refine z_ild6 (n := 47) (by decide +kernel) ?_
      refine z_ild5 (n := 49) (by decide +kernel) ?_
      refine z_icmp_gt_t (n := 52) (off := 30) (tgt := 79) (by decide +kernel) (nI_lt (by omega) (by omega)) ?_
      refine z_vret (by decide +kernel) rfl (Nat.le_refl _) ?_
      exact ⟨rfl, rfl⟩
    · intro u ul ih
      rcases hps : psT T p st i0 u with ⟨o, a, b⟩
      cases o with
      | none =>
        have e := psT_none (T := T) (p := p) (st := st) (i0 := i0) (u := u) (by rw [hps]) k (by omega)
        rw [e, hps]
        refine z_ild6 (n := 47) (by decide +kernel) ?_
        refine z_ild5 (n := 49) (by decide +kernel) ?_
        refine z_icmp_gt_f (n := 52) (off := 30) (tgt := 79) (by decide +kernel) (nI_nlt (by omega) (by omega)) ?_
        refine z_ald0 (n := 53) (by decide +kernel) ?_
        refine z_getf (n := 56) (idx := 25) (by decide +kernel) fl_X5_25 (by first | assumption | (simp (disch := omega) only [hu_s, hu_n]; first | assumption | rfl)) (by rfl) ?_
        refine z_sipush (n := 59) (q := -1000) (v := -1000) (by decide +kernel) ?_
        refine z_icmp_eq_t (n := 62) (off := 20) (tgt := 79) (by decide +kernel) (rfl) ?_
        refine z_vret (by decide +kernel) rfl (Nat.le_refl _) ?_
        exact ⟨rfl, rfl⟩
      | some i =>
        have hi2 := psT_le hi u i (by rw [hps])
        have e : psT T p st i0 (u + 1) = folT T (p + nI (u + 1) * st) i a b := by
          show (match psT T p st i0 u with | (none, a, b) => (none, a, b) | (some i, a, b) => folT T (p + nI (u + 1) * st) i a b) = _
          rw [hps]
        rw [e] at ih
        refine z_ild6 (n := 47) (by decide +kernel) ?_
        refine z_ild5 (n := 49) (by decide +kernel) ?_
        refine z_icmp_gt_f (n := 52) (off := 30) (tgt := 79) (by decide +kernel) (nI_nlt (by omega) (by omega)) ?_
        refine z_ald0 (n := 53) (by decide +kernel) ?_
        refine z_getf (n := 56) (idx := 25) (by decide +kernel) fl_X5_25 (by first | assumption | (simp (disch := omega) only [hu_s, hu_n]; first | assumption | rfl)) (by rfl) ?_
        refine z_sipush (n := 59) (q := -1000) (v := -1000) (by decide +kernel) ?_
        refine z_icmp_eq_f (n := 62) (off := 20) (tgt := 79) (by decide +kernel) (ang_gone hi2) ?_
        refine z_ald0 (n := 63) (by decide +kernel) ?_
        refine z_ild2 (n := 64) (by decide +kernel) ?_
        refine z_ild6 (n := 66) (by decide +kernel) ?_
        refine z_ild4 (n := 68) (by decide +kernel) ?_
        refine z_imul (n := 69) (by decide +kernel) ?_
        refine z_iadd (n := 70) (by decide +kernel) ?_
        refine z_v1v (n := 73) (idx := 45) (by decide +kernel) ml_X5_45 (by first | assumption | (simp (disch := omega) only [hu_s, hu_n]; first | assumption | rfl)) rfl (Nat.le_of_ble_eq_true rfl) (by omega) ⟨Nat.le_refl _, Nat.le_refl _⟩ (k_followTo (i := i) (sn := a) (fp := b) (T := T) 3 (by omega) (by simp (disch := omega) only [hu_s]; rfl) (by simp (disch := omega) only [hu_n]; assumption) hi2) ?_
        refine z_inc6 (n := 76) (q := 1) (by decide +kernel) rfl (nI_1 _) ?_
        refine z_goto (n := 79) (off := -31) (tgt := 45) (by decide +kernel) ?_
        exact z_heap (by rw [hu_hu]) ih
  refine z_ald0 (n := 1) (by decide +kernel) ?_
  refine z_ild1 (n := 2) (by decide +kernel) ?_
  refine z_putf (n := 5) (idx := 25) (ty := .int) (by decide +kernel) fl_X5_25 (by first | assumption | (simp (disch := omega) only [hu_s, hu_n]; first | assumption | rfl)) ⟨_, _, _, rfl, rfl, by decide +kernel⟩ rfl rfl (Nat.le_of_ble_eq_true rfl) ?_
  refine z_ald0 (n := 6) (by decide +kernel) ?_
  refine z_iconst (n := 7) (q := 0) (v := 0) (by decide +kernel) ?_
  refine z_putf (n := 10) (idx := 29) (ty := .int) (by decide +kernel) fl_X5_29 (by first | assumption | (simp (disch := omega) only [hu_s, hu_n]; first | assumption | rfl)) ⟨_, _, _, rfl, rfl, by decide +kernel⟩ rfl rfl (Nat.le_of_ble_eq_true rfl) ?_
  refine z_ald0 (n := 11) (by decide +kernel) ?_
  refine z_ldc (n := 13) (q := 32) (by decide +kernel) lc_X5_32 ?_
  refine z_putf (n := 16) (idx := 33) (ty := .int) (by decide +kernel) fl_X5_33 (by first | assumption | (simp (disch := omega) only [hu_s, hu_n]; first | assumption | rfl)) ⟨_, _, _, rfl, rfl, by decide +kernel⟩ rfl rfl (Nat.le_of_ble_eq_true rfl) ?_
  refine z_ild3 (n := 17) (by decide +kernel) ?_
  refine z_ild2 (n := 18) (by decide +kernel) ?_
  refine z_icmp_ge (n := 21) (off := 7) (tgt := 25) (by decide +kernel) (fun c18 => ?_) (fun c18 => ?_)
  · refine z_iconst (n := 26) (q := 1) (v := 1) (by decide +kernel) ?_
    refine z_ist4 (n := 28) (by decide +kernel) rfl ?_
    refine z_sipush (n := 31) (q := 2000) (v := 2000) (by decide +kernel) ?_
    refine z_ild3 (n := 32) (by decide +kernel) ?_
    refine z_ild2 (n := 33) (by decide +kernel) ?_
    refine z_isub (n := 34) (by decide +kernel) ?_
    refine z_mabs (n := 37) (idx := 36) (by decide +kernel) jl_X5_36 (Nat.le_of_ble_eq_true rfl) (by omega) (Nat.le_refl _) (Nat.le_refl _) ?_
    refine z_top hto ?_
    refine z_mmin (n := 40) (idx := 42) (by decide +kernel) jl_X5_42 (Nat.le_of_ble_eq_true rfl) (by omega) (Nat.le_refl _) (Nat.le_refl _) ?_
    refine z_top (show _ = nI k from by by_cases e : k < 2000; (exact if_pos (nI_lt (b := 2000) e (by omega))); (rw [show k = 2000 by omega]; decide)) ?_
    refine z_ist5 (n := 42) (by decide +kernel) rfl ?_
    refine z_iconst (n := 43) (q := 1) (v := 1) (by decide +kernel) ?_
    refine z_ist6 (n := 45) (by decide +kernel) rfl ?_
    exact z_heap (h1 := hu h H (oSha H (toA (psT T p _ i0 0).1) (psT T p _ i0 0).2.1 (psT T p _ i0 0).2.2)) (by simp only [hu_hu]; rfl) (main _ (by simp only [eq_true c18, if_true, if_false]) 0 (by omega))
  · refine z_iconst (n := 22) (q := -1) (v := -1) (by decide +kernel) ?_
    refine z_goto (n := 25) (off := 4) (tgt := 26) (by decide +kernel) ?_
    refine z_ist4 (n := 28) (by decide +kernel) rfl ?_
    refine z_sipush (n := 31) (q := 2000) (v := 2000) (by decide +kernel) ?_
    refine z_ild3 (n := 32) (by decide +kernel) ?_
    refine z_ild2 (n := 33) (by decide +kernel) ?_
    refine z_isub (n := 34) (by decide +kernel) ?_
    refine z_mabs (n := 37) (idx := 36) (by decide +kernel) jl_X5_36 (Nat.le_of_ble_eq_true rfl) (by omega) (Nat.le_refl _) (Nat.le_refl _) ?_
    refine z_top hto ?_
    refine z_mmin (n := 40) (idx := 42) (by decide +kernel) jl_X5_42 (Nat.le_of_ble_eq_true rfl) (by omega) (Nat.le_refl _) (Nat.le_refl _) ?_
    refine z_top (show _ = nI k from by by_cases e : k < 2000; (exact if_pos (nI_lt (b := 2000) e (by omega))); (rw [show k = 2000 by omega]; decide)) ?_
    refine z_ist5 (n := 42) (by decide +kernel) rfl ?_
    refine z_iconst (n := 43) (q := 1) (v := 1) (by decide +kernel) ?_
    refine z_ist6 (n := 45) (by decide +kernel) rfl ?_
    exact z_heap (h1 := hu h H (oSha H (toA (psT T p _ i0 0).1) (psT T p _ i0 0).2.1 (psT T p _ i0 0).2.2)) (by simp only [hu_hu]; rfl) (main _ (by simp only [eq_false c18, if_true, if_false]) 0 (by omega))
def cpE (s' s : eS) : eS := (s'.1, fun i => cpN (s'.2 i) (s.2 i) 6)
theorem k_sheCopy {G : mG} {h : mH} {E E' : Nat} {s s' : eS} (d : Nat) (hd : 1 ≤ d) (hs : she h E s) (hs' : she h E' s') (hap : E + 6 ≤ E' ∨ E' + 6 ≤ E) : EV G m_X6_copyFrom d 0 0 [.ref E, .ref E'] h (fun r h' => r = none ∧ frm h h' E (E + 6) ∧ she h' E (cpE s' s)) := by
  obtain ⟨hE, h1, h2, h3, h4, h5⟩ := hs
  obtain ⟨hE', h1', h2', h3', h4', h5'⟩ := hs'
  refine ev_2_0 rfl rfl (by decide +kernel) (by decide +kernel) ?_
  refine z_ald0 (n := 1) (by decide +kernel) ?_
  refine z_ald1 (n := 2) (by decide +kernel) ?_
  refine z_getf (n := 5) (idx := 27) (by decide +kernel) fl_X6_27 (by first | assumption | (simp (disch := omega) only [hu_s, hu_n]; first | assumption | rfl)) (by rfl) ?_
  refine z_putf (n := 8) (idx := 27) (ty := .int) (by decide +kernel) fl_X6_27 (by first | assumption | (simp (disch := omega) only [hu_s, hu_n]; first | assumption | rfl)) ⟨_, _, _, rfl, rfl, by decide +kernel⟩ rfl rfl (Nat.le_of_ble_eq_true rfl) ?_
  refine z_ald1 (n := 9) (by decide +kernel) ?_
  refine z_getf (n := 12) (idx := 11) (by decide +kernel) fl_X6_11 (by first | assumption | (simp (disch := omega) only [hu_s, hu_n]; first | assumption | rfl)) (by rfl) ?_
  refine z_iconst (n := 13) (q := 0) (v := 0) (by decide +kernel) ?_
  refine z_ald0 (n := 14) (by decide +kernel) ?_
  refine z_getf (n := 17) (idx := 11) (by decide +kernel) fl_X6_11 (by first | assumption | (simp (disch := omega) only [hu_s, hu_n]; first | assumption | rfl)) (by rfl) ?_
  refine z_iconst (n := 18) (q := 0) (v := 0) (by decide +kernel) ?_
  refine z_bipush (n := 20) (q := 6) (v := 6) (by decide +kernel) ?_
  refine z_cpyI (k := 6) (n := 23) (idx := 31) (by decide +kernel) jl_X6_31 (Nat.le_of_ble_eq_true rfl) (by omega) (by first | assumption | (simp (disch := omega) only [hu_s, hu_n]; first | assumption | rfl)) (by first | assumption | (simp (disch := omega) only [hu_s, hu_n]; first | assumption | rfl)) (by omega) (by omega) (by omega) ?_
  refine z_ald1 (n := 24) (by decide +kernel) ?_
  refine z_getf (n := 27) (idx := 15) (by decide +kernel) fl_X6_15 (by first | assumption | (simp (disch := omega) only [hu_s, hu_n]; first | assumption | rfl)) (by rfl) ?_
  refine z_iconst (n := 28) (q := 0) (v := 0) (by decide +kernel) ?_
  refine z_ald0 (n := 29) (by decide +kernel) ?_
  refine z_getf (n := 32) (idx := 15) (by decide +kernel) fl_X6_15 (by first | assumption | (simp (disch := omega) only [hu_s, hu_n]; first | assumption | rfl)) (by rfl) ?_
  refine z_iconst (n := 33) (q := 0) (v := 0) (by decide +kernel) ?_
  refine z_bipush (n := 35) (q := 6) (v := 6) (by decide +kernel) ?_
  refine z_cpyI (k := 6) (n := 38) (idx := 31) (by decide +kernel) jl_X6_31 (Nat.le_of_ble_eq_true rfl) (by omega) (by first | assumption | (simp (disch := omega) only [hu_s, hu_n]; first | assumption | rfl)) (by first | assumption | (simp (disch := omega) only [hu_s, hu_n]; first | assumption | rfl)) (by omega) (by omega) (by omega) ?_
  refine z_ald1 (n := 39) (by decide +kernel) ?_
  refine z_getf (n := 42) (idx := 18) (by decide +kernel) fl_X6_18 (by first | assumption | (simp (disch := omega) only [hu_s, hu_n]; first | assumption | rfl)) (by rfl) ?_
  refine z_iconst (n := 43) (q := 0) (v := 0) (by decide +kernel) ?_
  refine z_ald0 (n := 44) (by decide +kernel) ?_
  refine z_getf (n := 47) (idx := 18) (by decide +kernel) fl_X6_18 (by first | assumption | (simp (disch := omega) only [hu_s, hu_n]; first | assumption | rfl)) (by rfl) ?_
  refine z_iconst (n := 48) (q := 0) (v := 0) (by decide +kernel) ?_
  refine z_bipush (n := 50) (q := 6) (v := 6) (by decide +kernel) ?_
  refine z_cpyI (k := 6) (n := 53) (idx := 31) (by decide +kernel) jl_X6_31 (Nat.le_of_ble_eq_true rfl) (by omega) (by first | assumption | (simp (disch := omega) only [hu_s, hu_n]; first | assumption | rfl)) (by first | assumption | (simp (disch := omega) only [hu_s, hu_n]; first | assumption | rfl)) (by omega) (by omega) (by omega) ?_
  refine z_ald1 (n := 54) (by decide +kernel) ?_
  refine z_getf (n := 57) (idx := 21) (by decide +kernel) fl_X6_21 (by first | assumption | (simp (disch := omega) only [hu_s, hu_n]; first | assumption | rfl)) (by rfl) ?_
  refine z_iconst (n := 58) (q := 0) (v := 0) (by decide +kernel) ?_
  refine z_ald0 (n := 59) (by decide +kernel) ?_
  refine z_getf (n := 62) (idx := 21) (by decide +kernel) fl_X6_21 (by first | assumption | (simp (disch := omega) only [hu_s, hu_n]; first | assumption | rfl)) (by rfl) ?_
  refine z_iconst (n := 63) (q := 0) (v := 0) (by decide +kernel) ?_
  refine z_bipush (n := 65) (q := 6) (v := 6) (by decide +kernel) ?_
  refine z_cpyI (k := 6) (n := 68) (idx := 31) (by decide +kernel) jl_X6_31 (Nat.le_of_ble_eq_true rfl) (by omega) (by first | assumption | (simp (disch := omega) only [hu_s, hu_n]; first | assumption | rfl)) (by first | assumption | (simp (disch := omega) only [hu_s, hu_n]; first | assumption | rfl)) (by omega) (by omega) (by omega) ?_
  refine z_ald1 (n := 69) (by decide +kernel) ?_
  refine z_getf (n := 72) (idx := 24) (by decide +kernel) fl_X6_24 (by first | assumption | (simp (disch := omega) only [hu_s, hu_n]; first | assumption | rfl)) (by rfl) ?_
  refine z_iconst (n := 73) (q := 0) (v := 0) (by decide +kernel) ?_
  refine z_ald0 (n := 74) (by decide +kernel) ?_
  refine z_getf (n := 77) (idx := 24) (by decide +kernel) fl_X6_24 (by first | assumption | (simp (disch := omega) only [hu_s, hu_n]; first | assumption | rfl)) (by rfl) ?_
  refine z_iconst (n := 78) (q := 0) (v := 0) (by decide +kernel) ?_
  refine z_bipush (n := 80) (q := 6) (v := 6) (by decide +kernel) ?_
  refine z_cpyI (k := 6) (n := 83) (idx := 31) (by decide +kernel) jl_X6_31 (Nat.le_of_ble_eq_true rfl) (by omega) (by first | assumption | (simp (disch := omega) only [hu_s, hu_n]; first | assumption | rfl)) (by first | assumption | (simp (disch := omega) only [hu_s, hu_n]; first | assumption | rfl)) (by omega) (by omega) (by omega) ?_
  refine z_vret (by decide +kernel) rfl (Nat.le_refl _) ?_
  exact ⟨rfl, by intro j9 hj9; simp (disch := omega) only [hu_n], (by simp (disch := omega) only [hTn, hCr, hFl, hu_s, hu_n]; first | done | assumption | rfl), (by simp (disch := omega) only [hTn, hCr, hFl, hu_s, hu_n]; first | done | assumption | rfl), (by simp (disch := omega) only [hTn, hCr, hFl, hu_s, hu_n]; first | done | assumption | rfl), (by simp (disch := omega) only [hTn, hCr, hFl, hu_s, hu_n]; first | done | assumption | rfl), (by simp (disch := omega) only [hTn, hCr, hFl, hu_s, hu_n]; first | done | assumption | rfl), (by simp (disch := omega) only [hTn, hCr, hFl, hu_s, hu_n]; first | done | assumption | rfl)⟩
/-! Seen -/
def oSee (Y : Nat) (t k : Int32) : mE := oB 4 [.int t, .int k, .ref (Y + 1), .ref (Y + 2)]
/-- (time, look), points, signs -/
abbrev yS : Type := (Nat × Nat) × (Nat → Int32) × (Nat → Int32)
def see (h : mH) (Y : Nat) (s : yS) : Prop := h Y = oSee Y (nI s.1.1) (nI s.1.2) ∧ h (Y + 1) = aI 100 s.2.1 ∧ h (Y + 2) = aI 100 s.2.2
theorem see_frm {h h' : mH} {Y lo hi : Nat} {s : yS} (hf : frm h h' lo hi) (ha : Y + 3 ≤ lo ∨ hi ≤ Y) (p : see h Y s) : see h' Y s := by
  obtain ⟨h0, h1, h2⟩ := p
  exact ⟨(hf _ (by omega)).trans h0, (hf _ (by omega)).trans h1, (hf _ (by omega)).trans h2⟩
def cpY (s' s : yS) : yS := (s'.1, cpN s'.2.1 s.2.1 100, cpN s'.2.2 s.2.2 100)
theorem k_seeCopy {G : mG} {h : mH} {Y Y' : Nat} {s s' : yS} (d : Nat) (hd : 1 ≤ d) (hs : see h Y s) (hs' : see h Y' s') (hap : Y + 3 ≤ Y' ∨ Y' + 3 ≤ Y) : EV G m_X4_copyFrom d 0 0 [.ref Y, .ref Y'] h (fun r h' => r = none ∧ frm h h' Y (Y + 3) ∧ see h' Y (cpY s' s)) := by
  obtain ⟨hE, h1, h2⟩ := hs
  obtain ⟨hE', h1', h2'⟩ := hs'
  refine ev_2_0 rfl rfl (by decide +kernel) (by decide +kernel) ?_
  refine z_ald0 (n := 1) (by decide +kernel) ?_
  refine z_ald1 (n := 2) (by decide +kernel) ?_
  refine z_getf (n := 5) (idx := 18) (by decide +kernel) fl_X4_18 (by first | assumption | (simp (disch := omega) only [hu_s, hu_n]; first | assumption | rfl)) (by rfl) ?_
  refine z_putf (n := 8) (idx := 18) (ty := .int) (by decide +kernel) fl_X4_18 (by first | assumption | (simp (disch := omega) only [hu_s, hu_n]; first | assumption | rfl)) ⟨_, _, _, rfl, rfl, by decide +kernel⟩ rfl rfl (Nat.le_of_ble_eq_true rfl) ?_
  refine z_ald0 (n := 9) (by decide +kernel) ?_
  refine z_ald1 (n := 10) (by decide +kernel) ?_
  refine z_getf (n := 13) (idx := 22) (by decide +kernel) fl_X4_22 (by first | assumption | (simp (disch := omega) only [hu_s, hu_n]; first | assumption | rfl)) (by rfl) ?_
  refine z_putf (n := 16) (idx := 22) (ty := .int) (by decide +kernel) fl_X4_22 (by first | assumption | (simp (disch := omega) only [hu_s, hu_n]; first | assumption | rfl)) ⟨_, _, _, rfl, rfl, by decide +kernel⟩ rfl rfl (Nat.le_of_ble_eq_true rfl) ?_
  refine z_ald1 (n := 17) (by decide +kernel) ?_
  refine z_getf (n := 20) (idx := 11) (by decide +kernel) fl_X4_11 (by first | assumption | (simp (disch := omega) only [hu_s, hu_n]; first | assumption | rfl)) (by rfl) ?_
  refine z_iconst (n := 21) (q := 0) (v := 0) (by decide +kernel) ?_
  refine z_ald0 (n := 22) (by decide +kernel) ?_
  refine z_getf (n := 25) (idx := 11) (by decide +kernel) fl_X4_11 (by first | assumption | (simp (disch := omega) only [hu_s, hu_n]; first | assumption | rfl)) (by rfl) ?_
  refine z_iconst (n := 26) (q := 0) (v := 0) (by decide +kernel) ?_
  refine z_bipush (n := 28) (q := 100) (v := 100) (by decide +kernel) ?_
  refine z_cpyI (k := 100) (n := 31) (idx := 25) (by decide +kernel) jl_X4_25 (Nat.le_of_ble_eq_true rfl) (by omega) (by first | assumption | (simp (disch := omega) only [hu_s, hu_n]; first | assumption | rfl)) (by first | assumption | (simp (disch := omega) only [hu_s, hu_n]; first | assumption | rfl)) (by omega) (by omega) (by omega) ?_
  refine z_ald1 (n := 32) (by decide +kernel) ?_
  refine z_getf (n := 35) (idx := 15) (by decide +kernel) fl_X4_15 (by first | assumption | (simp (disch := omega) only [hu_s, hu_n]; first | assumption | rfl)) (by rfl) ?_
  refine z_iconst (n := 36) (q := 0) (v := 0) (by decide +kernel) ?_
  refine z_ald0 (n := 37) (by decide +kernel) ?_
  refine z_getf (n := 40) (idx := 15) (by decide +kernel) fl_X4_15 (by first | assumption | (simp (disch := omega) only [hu_s, hu_n]; first | assumption | rfl)) (by rfl) ?_
  refine z_iconst (n := 41) (q := 0) (v := 0) (by decide +kernel) ?_
  refine z_bipush (n := 43) (q := 100) (v := 100) (by decide +kernel) ?_
  refine z_cpyI (k := 100) (n := 46) (idx := 25) (by decide +kernel) jl_X4_25 (Nat.le_of_ble_eq_true rfl) (by omega) (by first | assumption | (simp (disch := omega) only [hu_s, hu_n]; first | assumption | rfl)) (by first | assumption | (simp (disch := omega) only [hu_s, hu_n]; first | assumption | rfl)) (by omega) (by omega) (by omega) ?_
  refine z_vret (by decide +kernel) rfl (Nat.le_refl _) ?_
  exact ⟨rfl, by intro j9 hj9; simp (disch := omega) only [hu_n], (by simp (disch := omega) only [hTn, hCr, hFl, hu_s, hu_n]; first | done | assumption | rfl), (by simp (disch := omega) only [hTn, hCr, hFl, hu_s, hu_n]; first | done | assumption | rfl), (by simp (disch := omega) only [hTn, hCr, hFl, hu_s, hu_n]; first | done | assumption | rfl)⟩
def telS (p q : Int32) (s : yS) : yS := ((s.1.1 + 1, s.1.1 + 1), upd s.2.1 s.1.1 p, upd s.2.2 s.1.1 q)
theorem k_tell {G : mG} {h : mH} {Y : Nat} {p q : Int32} {s : yS} (d : Nat) (hs : see h Y s) (ht : s.1.1 ≤ 100) : EV G m_X4_tell d 0 0 [.ref Y, .int p, .int q] h (fun v h' => v = some (.int (if s.1.1 < 100 then nI (s.1.1 + 1) else -1)) ∧ frm h h' Y (Y + 3) ∧ see h' Y (if s.1.1 < 100 then telS p q s else s)) := by
  have hs0 := hs
  obtain ⟨hE, h1, h2⟩ := hs
  by_cases hlt : s.1.1 < 100
  · rw [if_pos hlt, if_pos hlt]
    refine ev_3_0 rfl rfl rfl (by decide +kernel) (by decide +kernel) ?_
    refine z_ald0 (n := 1) (by decide +kernel) ?_
    refine z_getf (n := 4) (idx := 18) (by decide +kernel) fl_X4_18 (by first | assumption | (simp (disch := omega) only [hu_s, hu_n]; first | assumption | rfl)) (by rfl) ?_
    refine z_bipush (n := 6) (q := 100) (v := 100) (by decide +kernel) ?_
    refine z_icmp_lt_t (n := 9) (off := 5) (tgt := 11) (by decide +kernel) (nI_lt (b := 100) hlt (by omega)) ?_
    refine z_ald0 (n := 12) (by decide +kernel) ?_
    refine z_getf (n := 15) (idx := 11) (by decide +kernel) fl_X4_11 (by first | assumption | (simp (disch := omega) only [hu_s, hu_n]; first | assumption | rfl)) (by rfl) ?_
    refine z_ald0 (n := 16) (by decide +kernel) ?_
    refine z_getf (n := 19) (idx := 18) (by decide +kernel) fl_X4_18 (by first | assumption | (simp (disch := omega) only [hu_s, hu_n]; first | assumption | rfl)) (by rfl) ?_
    refine z_ild1 (n := 20) (by decide +kernel) ?_
    refine z_iast (n := 21) (by decide +kernel) (by first | assumption | (simp (disch := omega) only [hu_s, hu_n]; first | assumption | rfl)) (by first | assumption | exact ix_nI (by omega) (by omega)) ?_
    refine z_ald0 (n := 22) (by decide +kernel) ?_
    refine z_getf (n := 25) (idx := 15) (by decide +kernel) fl_X4_15 (by first | assumption | (simp (disch := omega) only [hu_s, hu_n]; first | assumption | rfl)) (by rfl) ?_
    refine z_ald0 (n := 26) (by decide +kernel) ?_
    refine z_getf (n := 29) (idx := 18) (by decide +kernel) fl_X4_18 (by first | assumption | (simp (disch := omega) only [hu_s, hu_n]; first | assumption | rfl)) (by rfl) ?_
    refine z_ild2 (n := 30) (by decide +kernel) ?_
    refine z_iast (n := 31) (by decide +kernel) (by first | assumption | (simp (disch := omega) only [hu_s, hu_n]; first | assumption | rfl)) (by first | assumption | exact ix_nI (by omega) (by omega)) ?_
    refine z_ald0 (n := 32) (by decide +kernel) ?_
    refine z_dup (n := 33) (by decide +kernel) rfl ?_
    refine z_getf (n := 36) (idx := 18) (by decide +kernel) fl_X4_18 (by first | assumption | (simp (disch := omega) only [hu_s, hu_n]; first | assumption | rfl)) (by rfl) ?_
    refine z_iconst (n := 37) (q := 1) (v := 1) (by decide +kernel) ?_
    refine z_iadd (n := 38) (by decide +kernel) ?_
    refine z_top (nI_1 s.1.1) ?_
    refine z_putf (n := 41) (idx := 18) (ty := .int) (by decide +kernel) fl_X4_18 (by first | assumption | (simp (disch := omega) only [hu_s, hu_n]; first | assumption | rfl)) ⟨_, _, _, rfl, rfl, by decide +kernel⟩ rfl rfl (Nat.le_of_ble_eq_true rfl) ?_
    refine z_ald0 (n := 42) (by decide +kernel) ?_
    refine z_ald0 (n := 43) (by decide +kernel) ?_
    refine z_getf (n := 46) (idx := 18) (by decide +kernel) fl_X4_18 (by first | assumption | (simp (disch := omega) only [hu_s, hu_n]; first | assumption | rfl)) (by rfl) ?_
    refine z_putf (n := 49) (idx := 22) (ty := .int) (by decide +kernel) fl_X4_22 (by first | assumption | (simp (disch := omega) only [hu_s, hu_n]; first | assumption | rfl)) ⟨_, _, _, rfl, rfl, by decide +kernel⟩ rfl rfl (Nat.le_of_ble_eq_true rfl) ?_
    refine z_ald0 (n := 50) (by decide +kernel) ?_
    refine z_getf (n := 53) (idx := 18) (by decide +kernel) fl_X4_18 (by first | assumption | (simp (disch := omega) only [hu_s, hu_n]; first | assumption | rfl)) (by rfl) ?_
    refine z_iret (by decide +kernel) rfl (Nat.le_refl _) ?_
    exact ⟨rfl, by intro j9 hj9; simp (disch := omega) only [hu_n], (by simp (disch := omega) only [hTn, hCr, hFl, hu_s, hu_n]; first | done | assumption | rfl), (by simp (disch := omega) only [hTn, hCr, hFl, hu_s, hu_n]; first | done | assumption | rfl), (by simp (disch := omega) only [hTn, hCr, hFl, hu_s, hu_n]; first | done | assumption | rfl)⟩
  · rw [if_neg hlt, if_neg hlt]
    refine ev_3_0 rfl rfl rfl (by decide +kernel) (by decide +kernel) ?_
    refine z_ald0 (n := 1) (by decide +kernel) ?_
    refine z_getf (n := 4) (idx := 18) (by decide +kernel) fl_X4_18 (by first | assumption | (simp (disch := omega) only [hu_s, hu_n]; first | assumption | rfl)) (by rfl) ?_
    refine z_bipush (n := 6) (q := 100) (v := 100) (by decide +kernel) ?_
    refine z_icmp_lt_f (n := 9) (off := 5) (tgt := 11) (by decide +kernel) (nI_nlt (b := 100) (by omega) (by omega)) ?_
    refine z_iconst (n := 10) (q := -1) (v := -1) (by decide +kernel) ?_
    refine z_iret (by decide +kernel) rfl (Nat.le_refl _) ?_
    exact ⟨rfl, frm_rf, hs0⟩
/-- the latest told of a point among the first u tellings -/
def sgO (pt sg : Nat → Int32) (x : Int32) : Nat → Int32
  | 0 => -1
  | u + 1 => if pt u = x then sg u else sgO pt sg x u
theorem k_signOf {G : mG} {h : mH} {Y : Nat} {x : Int32} {s : yS} (d : Nat) (hd : 1 ≤ d) (hs : see h Y s) (ht : s.1.2 ≤ 100) : EV G m_X4_signOf d 0 0 [.ref Y, .int x] h (RE (some (.int (sgO s.2.1 s.2.2 x s.1.2))) h) := by
  obtain ⟨hE, h1, h2⟩ := hs
  refine ev_2_1 rfl rfl (by decide +kernel) (by decide +kernel) ?_
  have main : ∀ u, u ≤ 100 → Z G m_X4_signOf d 0 0 0 0 12 [some (.ref Y), some (.int x), some (.int (nI u - 1))] [] h (RE (some (.int (sgO s.2.1 s.2.2 x u))) h) := by
    intro u
    induction u with
    | zero =>
      intro _
      refine z_ild2 (n := 13) (by decide +kernel) ?_
      refine z_if_lt_t (n := 16) (off := 26) (tgt := 39) (by decide +kernel) (by decide) ?_
      refine z_iconst (n := 40) (q := -1) (v := -1) (by decide +kernel) ?_
      refine z_iret (by decide +kernel) rfl (Nat.le_refl _) ?_
      exact ⟨rfl, rfl⟩
    | succ u ih =>
      intro hu9
      rw [nI_pred]
      refine z_ild2 (n := 13) (by decide +kernel) ?_
      refine z_if_lt_f (n := 16) (off := 26) (tgt := 39) (by decide +kernel) (nI_pos (by omega)) ?_
      refine z_ald0 (n := 17) (by decide +kernel) ?_
      refine z_getf (n := 20) (idx := 11) (by decide +kernel) fl_X4_11 (by assumption) (by rfl) ?_
      refine z_ild2 (n := 21) (by decide +kernel) ?_
      refine z_iald (n := 22) (by decide +kernel) (by assumption) (by first | assumption | exact ix_nI (by omega) (by omega)) ?_
      refine z_ild1 (n := 23) (by decide +kernel) ?_
      refine z_icmp_ne (n := 26) (off := 10) (tgt := 33) (by decide +kernel) (fun c23 => ?_) (fun c23 => ?_)
      · refine z_inc2 (n := 36) (q := -1) (by decide +kernel) rfl (show nI u + Int32.ofInt (-1) = nI u - 1 by rw [Int32.sub_eq_add_neg]; rfl) ?_
        refine z_goto (n := 39) (off := -24) (tgt := 12) (by decide +kernel) ?_
        simpa [sgO, c23] using ih (by omega)
      · refine z_ald0 (n := 27) (by decide +kernel) ?_
        refine z_getf (n := 30) (idx := 15) (by decide +kernel) fl_X4_15 (by assumption) (by rfl) ?_
        refine z_ild2 (n := 31) (by decide +kernel) ?_
        refine z_iald (n := 32) (by decide +kernel) (by assumption) (by first | assumption | exact ix_nI (by omega) (by omega)) ?_
        refine z_iret (by decide +kernel) rfl (Nat.le_refl _) ?_
        exact ⟨by simp [sgO, c23], rfl⟩
  refine z_ald0 (n := 1) (by decide +kernel) ?_
  refine z_getf (n := 4) (idx := 22) (by decide +kernel) fl_X4_22 (by assumption) (by rfl) ?_
  refine z_bipush (n := 6) (q := 100) (v := 100) (by decide +kernel) ?_
  refine z_mmin (n := 9) (idx := 31) (by decide +kernel) jl_X4_31 (Nat.le_of_ble_eq_true rfl) (by omega) (Nat.le_refl _) (Nat.le_refl _) ?_
  refine z_top (show _ = nI s.1.2 from by by_cases e : s.1.2 = 100; (rw [e]; decide); exact if_neg (nI_nlt (a := 100) ht (by omega))) ?_
  refine z_iconst (n := 10) (q := 1) (v := 1) (by decide +kernel) ?_
  refine z_isub (n := 11) (by decide +kernel) ?_
  refine z_ist2 (n := 12) (by decide +kernel) rfl ?_
  exact main _ ht
