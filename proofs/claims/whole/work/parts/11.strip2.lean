/-! Strip: what changes it -/
/-- laid flat as far as the cell u -/
def hFl (h : mH) (S N k : Nat) (tl : Int32) (pl ly : Nat → Int32) (up : Nat → Bool) (u : Nat) : mH := hu (hu (hu (hu h S (oStrip S (nI k) tl)) (S + 1) (aI N (cpN nI pl u))) (S + 2) (aI N (cpN (fun _ => 0) ly u))) (S + 3) (aZ N (cpN (fun _ => true) up u))
theorem k_layFlat {G : mG} {h : mH} {S N k : Nat} {sz tl : Int32} {pl ly : Nat → Int32} {up : Nat → Bool} (d : Nat) (hd : 1 ≤ d) (hS : h S = oStrip S sz tl) (hP : h (S + 1) = aI N pl) (hL : h (S + 2) = aI N ly) (hU : h (S + 3) = aZ N up) (hk : k ≤ N) (hN : N < 2 ^ 31) : EV G m_X7_layFlat d 0 0 [.ref S, .int (nI k)] h (RE none (hFl h S N k tl pl ly up k)) := by
  refine ev_2_1 rfl rfl (by decide +kernel) (by decide +kernel) ?_
  refine z_ald0 (n := 1) (by decide +kernel) ?_
  refine z_iconst (n := 2) (q := 0) (v := 0) (by decide +kernel) ?_
  refine z_ild1 (n := 3) (by decide +kernel) ?_
  refine z_ald0 (n := 4) (by decide +kernel) ?_
  refine z_getf (n := 7) (idx := 9) (by decide +kernel) fl_X7_9 (by first | assumption | (simp (disch := omega) only [hu_s, hu_n]; first | assumption | rfl)) (by rfl) ?_
  refine z_alenI (n := 8) (by decide +kernel) (by first | assumption | (simp (disch := omega) only [hu_s, hu_n]; first | assumption | rfl)) ?_
  refine z_mmin (n := 11) (idx := 29) (by decide +kernel) jl_X7_29 (Nat.le_of_ble_eq_true rfl) (by omega) (Nat.le_refl _) (Nat.le_refl _) ?_
  refine z_top (show _ = nI k from if_neg (nI_nlt hk (by omega))) ?_
  refine z_mmax (n := 14) (idx := 35) (by decide +kernel) jl_X7_35 (Nat.le_of_ble_eq_true rfl) (by omega) (Nat.le_refl _) (Nat.le_refl _) ?_
  refine z_top (show _ = nI k by by_cases e : k = 0; (subst e; rfl); exact if_pos (nI_lt (a := 0) (by omega) (by omega))) ?_
  refine z_putf (n := 17) (idx := 38) (ty := .int) (by decide +kernel) fl_X7_38 (by first | assumption | (simp (disch := omega) only [hu_s, hu_n]; first | assumption | rfl)) ⟨_, _, _, rfl, rfl, by decide +kernel⟩ rfl rfl (Nat.le_of_ble_eq_true rfl) ?_
  refine z_heap (h1 := hFl h S N k tl pl ly up 0) (by rw [hFl, cpN_0, cpN_0, cpN_0, hu_self (i := S + 1), hu_self (i := S + 2), hu_self (i := S + 3)]; rfl; all_goals (simp (disch := omega) only [hu_n]; assumption)) ?_
  refine z_iconst (n := 18) (q := 0) (v := 0) (by decide +kernel) ?_
  refine z_ist2 (n := 19) (by decide +kernel) rfl ?_
  refine loopZ (k := k) (fun u => Z G m_X7_layFlat d 0 0 0 0 19 [some (.ref S), some (.int (nI k)), some (.int (nI u))] [] (hFl h S N k tl pl ly up u) (RE none (hFl h S N k tl pl ly up k))) ?_ ?_ 0 (Nat.zero_le k)
  · refine z_ild2 (n := 20) (by decide +kernel) ?_
    refine z_ald0 (n := 21) (by decide +kernel) ?_
    refine z_getf (n := 24) (idx := 38) (by decide +kernel) fl_X7_38 (by unfold hFl; simp (disch := omega) only [hu_s, hu_n]; first | assumption | rfl) (by rfl) ?_
    refine z_icmp_ge_t (n := 27) (off := 30) (tgt := 54) (by decide +kernel) (nI_le (Nat.le_refl k) (by omega)) ?_
    refine z_vret (by decide +kernel) rfl (Nat.le_refl _) ?_
    exact ⟨rfl, rfl⟩
  · intro u ul ih
    refine z_ild2 (n := 20) (by decide +kernel) ?_
    refine z_ald0 (n := 21) (by decide +kernel) ?_
    refine z_getf (n := 24) (idx := 38) (by decide +kernel) fl_X7_38 (by unfold hFl; simp (disch := omega) only [hu_s, hu_n]; first | assumption | rfl) (by rfl) ?_
    refine z_icmp_ge_f (n := 27) (off := 30) (tgt := 54) (by decide +kernel) (nI_ge ul (by omega)) ?_
    refine z_ald0 (n := 28) (by decide +kernel) ?_
    refine z_getf (n := 31) (idx := 9) (by decide +kernel) fl_X7_9 (by unfold hFl; simp (disch := omega) only [hu_s, hu_n]; first | assumption | rfl) (by rfl) ?_
    refine z_ild2 (n := 32) (by decide +kernel) ?_
    refine z_ild2 (n := 33) (by decide +kernel) ?_
    refine z_iast (n := 34) (by decide +kernel) (by unfold hFl; simp (disch := omega) only [hu_s, hu_n]; first | assumption | rfl) (by first | assumption | exact ix_nI (by omega) (by omega)) ?_
    refine z_ald0 (n := 35) (by decide +kernel) ?_
    refine z_getf (n := 38) (idx := 15) (by decide +kernel) fl_X7_15 (by unfold hFl; simp (disch := omega) only [hu_s, hu_n]; first | assumption | rfl) (by rfl) ?_
    refine z_ild2 (n := 39) (by decide +kernel) ?_
    refine z_iconst (n := 40) (q := 0) (v := 0) (by decide +kernel) ?_
    refine z_iast (n := 41) (by decide +kernel) (by unfold hFl; simp (disch := omega) only [hu_s, hu_n]; first | assumption | rfl) (by first | assumption | exact ix_nI (by omega) (by omega)) ?_
    refine z_ald0 (n := 42) (by decide +kernel) ?_
    refine z_getf (n := 45) (idx := 18) (by decide +kernel) fl_X7_18 (by unfold hFl; simp (disch := omega) only [hu_s, hu_n]; first | assumption | rfl) (by rfl) ?_
    refine z_ild2 (n := 46) (by decide +kernel) ?_
    refine z_iconst (n := 47) (q := 1) (v := 1) (by decide +kernel) ?_
    refine z_zast (n := 48) (by decide +kernel) (by unfold hFl; simp (disch := omega) only [hu_s, hu_n]; first | assumption | rfl) (by first | assumption | exact ix_nI (by omega) (by omega)) (by first | exact bI_t.symm | exact bI_f.symm | rfl) ?_
    refine z_inc2 (n := 51) (q := 1) (by decide +kernel) rfl (nI_1 _) ?_
    refine z_goto (n := 54) (off := -32) (tgt := 19) (by decide +kernel) ?_
    refine z_heap (h1 := hFl h S N k tl pl ly up (u + 1)) ?_ ih
    unfold hFl
    have e1 := cpN_s nI pl u
    have e2 := cpN_s (fun _ => 0) ly u
    have e3 := cpN_sB (fun _ => true) up u
    funext j9
    by_cases e90 : j9 = S + 1
    · subst e90; simp [hu, e1, e2, e3]
    by_cases e91 : j9 = S + 2
    · subst e91; simp [hu, e1, e2, e3]
    by_cases e92 : j9 = S + 3
    · subst e92; simp [hu, e1, e2, e3]
    simp [hu, e90, e91, e92]
theorem k_stripCopy {G : mG} {h : mH} {S S' N N' k : Nat} {sz tl tl' : Int32} {pl ly pl' ly' : Nat → Int32} {up up' : Nat → Bool} (d : Nat) (hd : 1 ≤ d) (hS : h S = oStrip S sz tl) (hP : h (S + 1) = aI N pl) (hL : h (S + 2) = aI N ly) (hU : h (S + 3) = aZ N up) (hS' : h S' = oStrip S' (nI k) tl') (hP' : h (S' + 1) = aI N' pl') (hL' : h (S' + 2) = aI N' ly') (hU' : h (S' + 3) = aZ N' up') (hk : k ≤ N) (hk' : k ≤ N') (hN : N < 2 ^ 31) (hap : S + 4 < S' ∨ S' + 4 < S) : EV G m_X7_copyFrom d 0 0 [.ref S, .ref S'] h (RE none (hu (hu (hu (hu h S (oStrip S (nI k) tl)) (S + 1) (aI N (cpN pl' pl k))) (S + 2) (aI N (cpN ly' ly k))) (S + 3) (aZ N (cpN up' up k)))) := by
  refine ev_2_0 rfl rfl (by decide +kernel) (by decide +kernel) ?_
  refine z_ald0 (n := 1) (by decide +kernel) ?_
  refine z_ald1 (n := 2) (by decide +kernel) ?_
  refine z_getf (n := 5) (idx := 38) (by decide +kernel) fl_X7_38 (by first | assumption | (simp (disch := omega) only [hu_s, hu_n]; first | assumption | rfl)) (by rfl) ?_
  refine z_ald0 (n := 6) (by decide +kernel) ?_
  refine z_getf (n := 9) (idx := 9) (by decide +kernel) fl_X7_9 (by first | assumption | (simp (disch := omega) only [hu_s, hu_n]; first | assumption | rfl)) (by rfl) ?_
  refine z_alenI (n := 10) (by decide +kernel) (by first | assumption | (simp (disch := omega) only [hu_s, hu_n]; first | assumption | rfl)) ?_
  refine z_mmin (n := 13) (idx := 29) (by decide +kernel) jl_X7_29 (Nat.le_of_ble_eq_true rfl) (by omega) (Nat.le_refl _) (Nat.le_refl _) ?_
  refine z_top (show _ = nI k from if_neg (nI_nlt hk (by omega))) ?_
  refine z_putf (n := 16) (idx := 38) (ty := .int) (by decide +kernel) fl_X7_38 (by first | assumption | (simp (disch := omega) only [hu_s, hu_n]; first | assumption | rfl)) ⟨_, _, _, rfl, rfl, by decide +kernel⟩ rfl rfl (Nat.le_of_ble_eq_true rfl) ?_
  refine z_heap (h1 := hu h S (oStrip S (nI k) tl)) rfl ?_
  refine z_ald1 (n := 17) (by decide +kernel) ?_
  refine z_getf (n := 20) (idx := 9) (by decide +kernel) fl_X7_9 (by first | assumption | (simp (disch := omega) only [hu_s, hu_n]; first | assumption | rfl)) (by rfl) ?_
  refine z_iconst (n := 21) (q := 0) (v := 0) (by decide +kernel) ?_
  refine z_ald0 (n := 22) (by decide +kernel) ?_
  refine z_getf (n := 25) (idx := 9) (by decide +kernel) fl_X7_9 (by first | assumption | (simp (disch := omega) only [hu_s, hu_n]; first | assumption | rfl)) (by rfl) ?_
  refine z_iconst (n := 26) (q := 0) (v := 0) (by decide +kernel) ?_
  refine z_ald0 (n := 27) (by decide +kernel) ?_
  refine z_getf (n := 30) (idx := 38) (by decide +kernel) fl_X7_38 (by first | assumption | (simp (disch := omega) only [hu_s, hu_n]; first | assumption | rfl)) (by rfl) ?_
  refine z_cpyI (n := 33) (idx := 42) (by decide +kernel) jl_X7_42 (Nat.le_of_ble_eq_true rfl) (by omega) (by first | assumption | (simp (disch := omega) only [hu_s, hu_n]; first | assumption | rfl)) (by first | assumption | (simp (disch := omega) only [hu_s, hu_n]; first | assumption | rfl)) (by omega) (by omega) (by omega) ?_
  refine z_ald1 (n := 34) (by decide +kernel) ?_
  refine z_getf (n := 37) (idx := 15) (by decide +kernel) fl_X7_15 (by first | assumption | (simp (disch := omega) only [hu_s, hu_n]; first | assumption | rfl)) (by rfl) ?_
  refine z_iconst (n := 38) (q := 0) (v := 0) (by decide +kernel) ?_
  refine z_ald0 (n := 39) (by decide +kernel) ?_
  refine z_getf (n := 42) (idx := 15) (by decide +kernel) fl_X7_15 (by first | assumption | (simp (disch := omega) only [hu_s, hu_n]; first | assumption | rfl)) (by rfl) ?_
  refine z_iconst (n := 43) (q := 0) (v := 0) (by decide +kernel) ?_
  refine z_ald0 (n := 44) (by decide +kernel) ?_
  refine z_getf (n := 47) (idx := 38) (by decide +kernel) fl_X7_38 (by first | assumption | (simp (disch := omega) only [hu_s, hu_n]; first | assumption | rfl)) (by rfl) ?_
  refine z_cpyI (n := 50) (idx := 42) (by decide +kernel) jl_X7_42 (Nat.le_of_ble_eq_true rfl) (by omega) (by first | assumption | (simp (disch := omega) only [hu_s, hu_n]; first | assumption | rfl)) (by first | assumption | (simp (disch := omega) only [hu_s, hu_n]; first | assumption | rfl)) (by omega) (by omega) (by omega) ?_
  refine z_ald1 (n := 51) (by decide +kernel) ?_
  refine z_getf (n := 54) (idx := 18) (by decide +kernel) fl_X7_18 (by first | assumption | (simp (disch := omega) only [hu_s, hu_n]; first | assumption | rfl)) (by rfl) ?_
  refine z_iconst (n := 55) (q := 0) (v := 0) (by decide +kernel) ?_
  refine z_ald0 (n := 56) (by decide +kernel) ?_
  refine z_getf (n := 59) (idx := 18) (by decide +kernel) fl_X7_18 (by first | assumption | (simp (disch := omega) only [hu_s, hu_n]; first | assumption | rfl)) (by rfl) ?_
  refine z_iconst (n := 60) (q := 0) (v := 0) (by decide +kernel) ?_
  refine z_ald0 (n := 61) (by decide +kernel) ?_
  refine z_getf (n := 64) (idx := 38) (by decide +kernel) fl_X7_38 (by first | assumption | (simp (disch := omega) only [hu_s, hu_n]; first | assumption | rfl)) (by rfl) ?_
  refine z_cpyZ (n := 67) (idx := 42) (by decide +kernel) jl_X7_42 (Nat.le_of_ble_eq_true rfl) (by omega) (by first | assumption | (simp (disch := omega) only [hu_s, hu_n]; first | assumption | rfl)) (by first | assumption | (simp (disch := omega) only [hu_s, hu_n]; first | assumption | rfl)) (by omega) (by omega) (by omega) ?_
  refine z_vret (by decide +kernel) rfl (Nat.le_refl _) ?_
  exact ⟨rfl, rfl⟩
/-- how high each place is: the heights behind u cells -/
def tHt (ht pl : Nat → Int32) (N : Nat) (lo : Int32) (u : Nat) : Nat → Int32 := cpN (fun i => nI (cnt (fun v => pl v - lo) (nI i) u)) ht N
theorem k_tally {G : mG} {h : mH} {S N k : Nat} {tl : Int32} {pl ht : Nat → Int32} (d : Nat) (hd : 1 ≤ d) (hS : h S = oStrip S (nI k) tl) (hP : h (S + 1) = aI N pl) (hT : h (S + 4) = aI N ht) (h1 : 1 ≤ k) (hk : k ≤ N) (hN : N < 2 ^ 31) : EV G m_X7_tally d 0 0 [.ref S] h (RE none (hu (hu h S (oStrip S (nI k) (mnF pl k))) (S + 4) (aI N (tHt ht pl N (mnF pl k) k)))) := by
  refine ev_1_2 rfl (by decide +kernel) (by decide +kernel) ?_
  refine z_ald0 (n := 1) (by decide +kernel) ?_
  refine z_ald0 (n := 2) (by decide +kernel) ?_
  refine z_v0 (n := 5) (idx := 48) (by decide +kernel) ml_X7_48 (by first | assumption | (simp (disch := omega) only [hu_s, hu_n]; first | assumption | rfl)) rfl (Nat.le_of_ble_eq_true rfl) (by omega) ⟨Nat.le_refl _, Nat.le_refl _⟩ (k_lowestPlace 0 hS hP h1 hk hN) ?_
  refine z_putf (n := 8) (idx := 55) (ty := .int) (by decide +kernel) fl_X7_55 (by first | assumption | (simp (disch := omega) only [hu_s, hu_n]; first | assumption | rfl)) ⟨_, _, _, rfl, rfl, by decide +kernel⟩ rfl rfl (Nat.le_of_ble_eq_true rfl) ?_
  refine z_heap (h1 := hu (hu h S (oStrip S (nI k) (mnF pl k))) (S + 4) (aI N (cpN (fun _ => 0) ht 0))) (by rw [cpN_0, hu_self (i := S + 4)]; rfl; simp (disch := omega) only [hu_n]; assumption) ?_
  refine z_iconst (n := 9) (q := 0) (v := 0) (by decide +kernel) ?_
  refine z_ist1 (n := 10) (by decide +kernel) rfl ?_
  refine loopZ (k := N) (fun u => Z G m_X7_tally d 0 0 0 0 10 [some (.ref S), some (.int (nI u)), none] [] (hu (hu h S (oStrip S (nI k) (mnF pl k))) (S + 4) (aI N (cpN (fun _ => 0) ht u))) (RE none (hu (hu h S (oStrip S (nI k) (mnF pl k))) (S + 4) (aI N (tHt ht pl N (mnF pl k) k))))) ?_ ?_ 0 (Nat.zero_le N)
  · refine z_ild1 (n := 11) (by decide +kernel) ?_
    refine z_ald0 (n := 12) (by decide +kernel) ?_
    refine z_getf (n := 15) (idx := 22) (by decide +kernel) fl_X7_22 (by first | assumption | (simp (disch := omega) only [hu_s, hu_n]; first | assumption | rfl)) (by rfl) ?_
    refine z_alenI (n := 16) (by decide +kernel) (by first | assumption | (simp (disch := omega) only [hu_s, hu_n]; first | assumption | rfl)) ?_
    refine z_icmp_ge_t (n := 19) (off := 16) (tgt := 32) (by decide +kernel) (nI_le (Nat.le_refl N) (by omega)) ?_
    refine z_iconst (n := 33) (q := 0) (v := 0) (by decide +kernel) ?_
    refine z_ist1 (n := 34) (by decide +kernel) rfl ?_
    refine loopZ (k := k) (fun u => Z G m_X7_tally d 0 0 0 0 34 [some (.ref S), some (.int (nI u)), none] [] (hu (hu h S (oStrip S (nI k) (mnF pl k))) (S + 4) (aI N (tHt ht pl N (mnF pl k) u))) (RE none (hu (hu h S (oStrip S (nI k) (mnF pl k))) (S + 4) (aI N (tHt ht pl N (mnF pl k) k))))) ?_ ?_ 0 (Nat.zero_le k)
    · refine z_ild1 (n := 35) (by decide +kernel) ?_
      refine z_ald0 (n := 36) (by decide +kernel) ?_
      refine z_getf (n := 39) (idx := 38) (by decide +kernel) fl_X7_38 (by first | assumption | (simp (disch := omega) only [hu_s, hu_n]; first | assumption | rfl)) (by rfl) ?_
      refine z_icmp_ge_t (n := 42) (off := 44) (tgt := 83) (by decide +kernel) (nI_le (Nat.le_refl k) (by omega)) ?_
      refine z_vret (by decide +kernel) rfl (Nat.le_refl _) ?_
      exact ⟨rfl, rfl⟩
    · intro u ul ih
      have nj : ∀ j : Nat, j < N → (pl u - mnF pl k < 0 ∨ nI N ≤ pl u - mnF pl k) → ¬ pl u - mnF pl k = nI j := by
        intro j hj hc e
        rw [e] at hc
        rcases hc with hc | hc
        · exact nI_pos (by omega) hc
        · exact nI_ge hj (by omega) hc
      have same : (pl u - mnF pl k < 0 ∨ nI N ≤ pl u - mnF pl k) → tHt ht pl N (mnF pl k) (u + 1) = tHt ht pl N (mnF pl k) u := by
        intro hc
        funext j
        by_cases hj : j < N
        · simp [tHt, cpN, hj, cnt, nj j hj hc]
        · simp [tHt, cpN, hj]
      have one : ¬ pl u - mnF pl k < 0 → ¬ nI N ≤ pl u - mnF pl k → upd (tHt ht pl N (mnF pl k) u) (pl u - mnF pl k).toNatClampNeg (tHt ht pl N (mnF pl k) u (pl u - mnF pl k).toNatClampNeg + 1) = tHt ht pl N (mnF pl k) (u + 1) := by
        intro h0 h9
        obtain ⟨i, hi, e, -, e2, -⟩ := pk_mu h0 h9 hN
        rw [e2]
        funext j
        by_cases hj : j < N
        · by_cases hji : j = i
          · subst hji
            simp [tHt, cpN, hj, cnt, upd, e, nI_1]
          · have : ¬ nI i = nI j := fun q => hji ((nI_eq (by omega) (by omega)).mp q).symm
            simp [tHt, cpN, hj, cnt, upd, e, hji, this]
        · have : j ≠ i := by omega
          simp [tHt, cpN, hj, upd, this]
      refine z_ild1 (n := 35) (by decide +kernel) ?_
      refine z_ald0 (n := 36) (by decide +kernel) ?_
      refine z_getf (n := 39) (idx := 38) (by decide +kernel) fl_X7_38 (by first | assumption | (simp (disch := omega) only [hu_s, hu_n]; first | assumption | rfl)) (by rfl) ?_
      refine z_icmp_ge_f (n := 42) (off := 44) (tgt := 83) (by decide +kernel) (nI_ge ul (by omega)) ?_
      refine z_ald0 (n := 43) (by decide +kernel) ?_
      refine z_getf (n := 46) (idx := 9) (by decide +kernel) fl_X7_9 (by first | assumption | (simp (disch := omega) only [hu_s, hu_n]; first | assumption | rfl)) (by rfl) ?_
      refine z_ild1 (n := 47) (by decide +kernel) ?_
      refine z_iald (n := 48) (by decide +kernel) (by first | assumption | (simp (disch := omega) only [hu_s, hu_n]; first | assumption | rfl)) (by first | assumption | exact ix_nI (by omega) (by omega)) ?_
      refine z_ald0 (n := 49) (by decide +kernel) ?_
      refine z_getf (n := 52) (idx := 55) (by decide +kernel) fl_X7_55 (by first | assumption | (simp (disch := omega) only [hu_s, hu_n]; first | assumption | rfl)) (by rfl) ?_
      refine z_isub (n := 53) (by decide +kernel) ?_
      refine z_ist2 (n := 54) (by decide +kernel) rfl ?_
      refine z_ild2 (n := 55) (by decide +kernel) ?_
      refine z_if_lt (n := 58) (off := 22) (tgt := 77) (by decide +kernel) (fun c55 => ?_) (fun c55 => ?_)
      · refine z_inc1 (n := 80) (q := 1) (by decide +kernel) rfl (nI_1 _) ?_
        refine z_goto (n := 83) (off := -46) (tgt := 34) (by decide +kernel) ?_
        exact z_wk (lv' := [some (.ref S), some (.int (nI (u + 1))), none]) (by simp [wk]) (z_heap (by first | rw [same (Or.inl c55)] | rw [same (Or.inr c64)] | rw [hu_hu, one c55 c64]) ih)
      · refine z_ild2 (n := 59) (by decide +kernel) ?_
        refine z_ald0 (n := 60) (by decide +kernel) ?_
        refine z_getf (n := 63) (idx := 22) (by decide +kernel) fl_X7_22 (by first | assumption | (simp (disch := omega) only [hu_s, hu_n]; first | assumption | rfl)) (by rfl) ?_
        refine z_alenI (n := 64) (by decide +kernel) (by first | assumption | (simp (disch := omega) only [hu_s, hu_n]; first | assumption | rfl)) ?_
        refine z_icmp_ge (n := 67) (off := 13) (tgt := 77) (by decide +kernel) (fun c64 => ?_) (fun c64 => ?_)
        · refine z_inc1 (n := 80) (q := 1) (by decide +kernel) rfl (nI_1 _) ?_
          refine z_goto (n := 83) (off := -46) (tgt := 34) (by decide +kernel) ?_
          exact z_wk (lv' := [some (.ref S), some (.int (nI (u + 1))), none]) (by simp [wk]) (z_heap (by first | rw [same (Or.inl c55)] | rw [same (Or.inr c64)] | rw [hu_hu, one c55 c64]) ih)
        · refine z_ald0 (n := 68) (by decide +kernel) ?_
          refine z_getf (n := 71) (idx := 22) (by decide +kernel) fl_X7_22 (by first | assumption | (simp (disch := omega) only [hu_s, hu_n]; first | assumption | rfl)) (by rfl) ?_
          refine z_ild2 (n := 72) (by decide +kernel) ?_
          refine z_dup2 (n := 73) (by decide +kernel) rfl rfl ?_
          refine z_iald (n := 74) (by decide +kernel) (by first | assumption | (simp (disch := omega) only [hu_s, hu_n]; first | assumption | rfl)) (by exact ix_rng c55 c64 hN) ?_
          refine z_iconst (n := 75) (q := 1) (v := 1) (by decide +kernel) ?_
          refine z_iadd (n := 76) (by decide +kernel) ?_
          refine z_iast (n := 77) (by decide +kernel) (by first | assumption | (simp (disch := omega) only [hu_s, hu_n]; first | assumption | rfl)) (by exact ix_rng c55 c64 hN) ?_
          refine z_inc1 (n := 80) (q := 1) (by decide +kernel) rfl (nI_1 _) ?_
          refine z_goto (n := 83) (off := -46) (tgt := 34) (by decide +kernel) ?_
          exact z_wk (lv' := [some (.ref S), some (.int (nI (u + 1))), none]) (by simp [wk]) (z_heap (by first | rw [same (Or.inl c55)] | rw [same (Or.inr c64)] | rw [hu_hu, one c55 c64]) ih)
  · intro u ul ih
    refine z_ild1 (n := 11) (by decide +kernel) ?_
    refine z_ald0 (n := 12) (by decide +kernel) ?_
    refine z_getf (n := 15) (idx := 22) (by decide +kernel) fl_X7_22 (by first | assumption | (simp (disch := omega) only [hu_s, hu_n]; first | assumption | rfl)) (by rfl) ?_
    refine z_alenI (n := 16) (by decide +kernel) (by first | assumption | (simp (disch := omega) only [hu_s, hu_n]; first | assumption | rfl)) ?_
    refine z_icmp_ge_f (n := 19) (off := 16) (tgt := 32) (by decide +kernel) (nI_ge ul (by omega)) ?_
    refine z_ald0 (n := 20) (by decide +kernel) ?_
    refine z_getf (n := 23) (idx := 22) (by decide +kernel) fl_X7_22 (by first | assumption | (simp (disch := omega) only [hu_s, hu_n]; first | assumption | rfl)) (by rfl) ?_
    refine z_ild1 (n := 24) (by decide +kernel) ?_
    refine z_iconst (n := 25) (q := 0) (v := 0) (by decide +kernel) ?_
    refine z_iast (n := 26) (by decide +kernel) (by first | assumption | (simp (disch := omega) only [hu_s, hu_n]; first | assumption | rfl)) (by first | assumption | exact ix_nI (by omega) (by omega)) ?_
    refine z_inc1 (n := 29) (q := 1) (by decide +kernel) rfl (nI_1 _) ?_
    refine z_goto (n := 32) (off := -19) (tgt := 10) (by decide +kernel) ?_
    refine z_heap ?_ ih
    rw [hu_hu, cpN_s (fun _ => 0) ht u]
/-- the greatest of the first u, 0 at least -/
def tlF (g : Nat → Int32) : Nat → Int32
  | 0 => 0
  | u + 1 => if tlF g u < g u then g u else tlF g u
theorem k_tallestFolded {G : mG} {h : mH} {S N k : Nat} {tl x : Int32} {pl ht : Nat → Int32} (d : Nat) (hd : 1 ≤ d) (hS : h S = oStrip S (nI k) tl) (hP : h (S + 1) = aI N pl) (hT : h (S + 4) = aI N ht) (hk : k ≤ N) (hN : N < 2 ^ 31) : EV G m_X7_tallestFolded d 0 0 [.ref S, .int x] h (RE (some (.int (tlF (fun u => hgt ht N tl (pl u) + hgt ht N tl (2 * x - 1 - pl u)) k))) h) := by
  refine ev_2_3 rfl rfl (by decide +kernel) (by decide +kernel) ?_
  refine z_iconst (n := 1) (q := 0) (v := 0) (by decide +kernel) ?_
  refine z_ist2 (n := 2) (by decide +kernel) rfl ?_
  refine z_iconst (n := 3) (q := 0) (v := 0) (by decide +kernel) ?_
  refine z_ist3 (n := 4) (by decide +kernel) rfl ?_
  refine loopZ (k := k) (fun u => Z G m_X7_tallestFolded d 0 0 0 0 4 [some (.ref S), some (.int x), some (.int (tlF (fun u => hgt ht N tl (pl u) + hgt ht N tl (2 * x - 1 - pl u)) u)), some (.int (nI u)), none] [] h (RE (some (.int (tlF (fun u => hgt ht N tl (pl u) + hgt ht N tl (2 * x - 1 - pl u)) k))) h)) ?_ ?_ 0 (Nat.zero_le k)
  · refine z_ild3 (n := 5) (by decide +kernel) ?_
    refine z_ald0 (n := 6) (by decide +kernel) ?_
    refine z_getf (n := 9) (idx := 38) (by decide +kernel) fl_X7_38 (by assumption) (by rfl) ?_
    refine z_icmp_ge_t (n := 12) (off := 45) (tgt := 54) (by decide +kernel) (nI_le (Nat.le_refl k) (by omega)) ?_
    refine z_ild2 (n := 55) (by decide +kernel) ?_
    refine z_iret (by decide +kernel) rfl (Nat.le_refl _) ?_
    exact ⟨rfl, rfl⟩
  · intro u ul ih
    refine z_ild3 (n := 5) (by decide +kernel) ?_
    refine z_ald0 (n := 6) (by decide +kernel) ?_
    refine z_getf (n := 9) (idx := 38) (by decide +kernel) fl_X7_38 (by assumption) (by rfl) ?_
    refine z_icmp_ge_f (n := 12) (off := 45) (tgt := 54) (by decide +kernel) (nI_ge ul (by omega)) ?_
    refine z_ald0 (n := 13) (by decide +kernel) ?_
    refine z_ald0 (n := 14) (by decide +kernel) ?_
    refine z_getf (n := 17) (idx := 9) (by decide +kernel) fl_X7_9 (by assumption) (by rfl) ?_
    refine z_ild3 (n := 18) (by decide +kernel) ?_
    refine z_iald (n := 19) (by decide +kernel) (by assumption) (by first | assumption | exact ix_nI (by omega) (by omega)) ?_
    refine z_v1 (n := 22) (idx := 58) (by decide +kernel) ml_X7_58 (by assumption) rfl (Nat.le_of_ble_eq_true rfl) (by omega) ⟨Nat.le_refl _, Nat.le_refl _⟩ (k_heightOf 0 hS hT hN) ?_
    refine z_ald0 (n := 23) (by decide +kernel) ?_
    refine z_iconst (n := 24) (q := 2) (v := 2) (by decide +kernel) ?_
    refine z_ild1 (n := 25) (by decide +kernel) ?_
    refine z_imul (n := 26) (by decide +kernel) ?_
    refine z_iconst (n := 27) (q := 1) (v := 1) (by decide +kernel) ?_
    refine z_isub (n := 28) (by decide +kernel) ?_
    refine z_ald0 (n := 29) (by decide +kernel) ?_
    refine z_getf (n := 32) (idx := 9) (by decide +kernel) fl_X7_9 (by assumption) (by rfl) ?_
    refine z_ild3 (n := 33) (by decide +kernel) ?_
    refine z_iald (n := 34) (by decide +kernel) (by assumption) (by first | assumption | exact ix_nI (by omega) (by omega)) ?_
    refine z_isub (n := 35) (by decide +kernel) ?_
    refine z_v1 (n := 38) (idx := 58) (by decide +kernel) ml_X7_58 (by assumption) rfl (Nat.le_of_ble_eq_true rfl) (by omega) ⟨Nat.le_refl _, Nat.le_refl _⟩ (k_heightOf 0 hS hT hN) ?_
    refine z_iadd (n := 39) (by decide +kernel) ?_
    refine z_ist4 (n := 41) (by decide +kernel) rfl ?_
    refine z_ild2 (n := 42) (by decide +kernel) ?_
    refine z_ild4 (n := 44) (by decide +kernel) ?_
    refine z_mmax (n := 47) (idx := 35) (by decide +kernel) jl_X7_35 (Nat.le_of_ble_eq_true rfl) (by omega) (Nat.le_refl _) (Nat.le_refl _) ?_
    refine z_ist2 (n := 48) (by decide +kernel) rfl ?_
    refine z_inc3 (n := 51) (q := 1) (by decide +kernel) rfl (nI_1 _) ?_
    refine z_goto (n := 54) (off := -47) (tgt := 4) (by decide +kernel) ?_
    exact z_wk (lv' := [some (.ref S), some (.int x), some (.int (tlF (fun u => hgt ht N tl (pl u) + hgt ht N tl (2 * x - 1 - pl u)) (u + 1))), some (.int (nI (u + 1))), none]) (by simp [wk, tlF]) ih
/-- does a cell in the place y move, when it is folded at x -/
def mvs (y x : Int32) (right : Bool) : Bool := (!decide (y < x)) == right
theorem mvs_a {y x : Int32} {right : Bool} (c : y < x) (e : (0 : Int32) = bI right) : mvs y x right = true := by
  cases right
  · simp [mvs, c]
  · exact absurd e (by decide)
theorem mvs_b {y x : Int32} {right : Bool} (c : ¬ y < x) (e : (1 : Int32) = bI right) : mvs y x right = true := by
  cases right
  · exact absurd e (by decide)
  · simp only [mvs, eq_false c, decide_false]; rfl
theorem mvs_c {y x : Int32} {right : Bool} (c : y < x) (e : ¬ (0 : Int32) = bI right) : mvs y x right = false := by
  cases right
  · exact absurd rfl e
  · simp [mvs, c]
theorem mvs_d {y x : Int32} {right : Bool} (c : ¬ y < x) (e : ¬ (1 : Int32) = bI right) : mvs y x right = false := by
  cases right
  · simp only [mvs, eq_false c, decide_false]; rfl
  · exact absurd rfl e
def tPl (pl : Nat → Int32) (x : Int32) (right : Bool) (u : Nat) : Nat → Int32 := fun j => if j < u ∧ mvs (pl j) x right = true then 2 * x - 1 - pl j else pl j
def tLy (H : Int32 → Int32) (pl ly : Nat → Int32) (x : Int32) (right : Bool) (u : Nat) : Nat → Int32 := fun j => if j < u ∧ mvs (pl j) x right = true then H (2 * x - 1 - pl j) + H (pl j) - 1 - ly j else ly j
def tUp (pl : Nat → Int32) (up : Nat → Bool) (x : Int32) (right : Bool) (u : Nat) : Nat → Bool := fun j => if j < u ∧ mvs (pl j) x right = true then !up j else up j
theorem tPl_u (pl : Nat → Int32) (x : Int32) (right : Bool) (u : Nat) : tPl pl x right u u = pl u := by simp [tPl]
theorem tLy_u (H : Int32 → Int32) (pl ly : Nat → Int32) (x : Int32) (right : Bool) (u : Nat) : tLy H pl ly x right u u = ly u := by simp [tLy]
theorem tUp_u (pl : Nat → Int32) (up : Nat → Bool) (x : Int32) (right : Bool) (u : Nat) : tUp pl up x right u u = up u := by simp [tUp]
theorem tPl_0 (pl : Nat → Int32) (x : Int32) (right : Bool) : tPl pl x right 0 = pl := by funext j; simp [tPl]
theorem tLy_0 (H : Int32 → Int32) (pl ly : Nat → Int32) (x : Int32) (right : Bool) : tLy H pl ly x right 0 = ly := by funext j; simp [tLy]
theorem tUp_0 (pl : Nat → Int32) (up : Nat → Bool) (x : Int32) (right : Bool) : tUp pl up x right 0 = up := by funext j; simp [tUp]
theorem t_and {j u : Nat} {b : Prop} (hj : j ≠ u) : (j < u + 1 ∧ b) ↔ (j < u ∧ b) := by
  constructor
  · exact fun ⟨a, c⟩ => ⟨by omega, c⟩
  · exact fun ⟨a, c⟩ => ⟨by omega, c⟩
theorem tPl_n {pl : Nat → Int32} {x : Int32} {right : Bool} {u : Nat} (h : mvs (pl u) x right = false) : tPl pl x right (u + 1) = tPl pl x right u := by
  funext j
  by_cases e : j = u
  · subst e; simp [tPl, h]
  · simp only [tPl, t_and e]
theorem tLy_n {H : Int32 → Int32} {pl ly : Nat → Int32} {x : Int32} {right : Bool} {u : Nat} (h : mvs (pl u) x right = false) : tLy H pl ly x right (u + 1) = tLy H pl ly x right u := by
  funext j
  by_cases e : j = u
  · subst e; simp [tLy, h]
  · simp only [tLy, t_and e]
theorem tUp_n {pl : Nat → Int32} {up : Nat → Bool} {x : Int32} {right : Bool} {u : Nat} (h : mvs (pl u) x right = false) : tUp pl up x right (u + 1) = tUp pl up x right u := by
  funext j
  by_cases e : j = u
  · subst e; simp [tUp, h]
  · simp only [tUp, t_and e]
theorem tPl_y {pl : Nat → Int32} {x : Int32} {right : Bool} {u : Nat} (h : mvs (pl u) x right = true) : upd (tPl pl x right u) u (2 * x - 1 - pl u) = tPl pl x right (u + 1) := by
  funext j
  by_cases e : j = u
  · subst e; simp [tPl, h, upd]
  · simp only [upd, if_neg e, tPl, t_and e]
theorem tLy_y {H : Int32 → Int32} {pl ly : Nat → Int32} {x : Int32} {right : Bool} {u : Nat} (h : mvs (pl u) x right = true) : upd (tLy H pl ly x right u) u (H (2 * x - 1 - pl u) + H (pl u) - 1 - ly u) = tLy H pl ly x right (u + 1) := by
  funext j
  by_cases e : j = u
  · subst e; simp [tLy, h, upd]
  · simp only [upd, if_neg e, tLy, t_and e]
theorem tUp_y {pl : Nat → Int32} {up : Nat → Bool} {x : Int32} {right : Bool} {u : Nat} (h : mvs (pl u) x right = true) : updB (tUp pl up x right u) u (!up u) = tUp pl up x right (u + 1) := by
  funext j
  by_cases e : j = u
  · subst e; simp [tUp, h, updB]
  · simp only [updB, if_neg e, tUp, t_and e]
def hTn (h : mH) (S N : Nat) (tl : Int32) (pl ly ht : Nat → Int32) (up : Nat → Bool) (x : Int32) (right : Bool) (u : Nat) : mH := hu (hu (hu h (S + 1) (aI N (tPl pl x right u))) (S + 2) (aI N (tLy (hgt ht N tl) pl ly x right u))) (S + 3) (aZ N (tUp pl up x right u))
theorem hTn_0 {h : mH} {S N : Nat} {tl : Int32} {pl ly ht : Nat → Int32} {up : Nat → Bool} {x : Int32} {right : Bool} (hP : h (S + 1) = aI N pl) (hL : h (S + 2) = aI N ly) (hU : h (S + 3) = aZ N up) : h = hTn h S N tl pl ly ht up x right 0 := by
  rw [hTn, tPl_0, tLy_0, tUp_0, hu_self hP, hu_self hL, hu_self hU]
theorem k_turnOver {G : mG} {h : mH} {S N k : Nat} {tl x : Int32} {pl ly ht : Nat → Int32} {up : Nat → Bool} {right : Bool} (d : Nat) (hd : 1 ≤ d) (hS : h S = oStrip S (nI k) tl) (hP : h (S + 1) = aI N pl) (hL : h (S + 2) = aI N ly) (hU : h (S + 3) = aZ N up) (hT : h (S + 4) = aI N ht) (hk : k ≤ N) (hN : N < 2 ^ 31) : EV G m_X7_turnOver d 0 0 [.ref S, .int x, .int (bI right)] h (RE none (hTn h S N tl pl ly ht up x right k)) := by
  refine ev_3_3 rfl rfl rfl (by decide +kernel) (by decide +kernel) ?_
  refine z_iconst (n := 1) (q := 0) (v := 0) (by decide +kernel) ?_
  refine z_ist3 (n := 2) (by decide +kernel) rfl ?_
  refine z_heap (hTn_0 (tl := tl) (ht := ht) (x := x) (right := right) hP hL hU) ?_
  refine loopZ (k := k) (fun u => Z G m_X7_turnOver d 0 0 0 0 2 [some (.ref S), some (.int x), some (.int (bI right)), some (.int (nI u)), none, none] [] (hTn h S N tl pl ly ht up x right u) (RE none (hTn h S N tl pl ly ht up x right k))) ?_ ?_ 0 (Nat.zero_le k)
  · refine z_ild3 (n := 3) (by decide +kernel) ?_
    refine z_ald0 (n := 4) (by decide +kernel) ?_
    refine z_getf (n := 7) (idx := 38) (by decide +kernel) fl_X7_38 (by unfold hTn; simp (disch := omega) only [hu_s, hu_n]; first | assumption | rfl) (by rfl) ?_
    refine z_icmp_ge_t (n := 10) (off := 102) (tgt := 109) (by decide +kernel) (nI_le (Nat.le_refl k) (by omega)) ?_
    refine z_vret (by decide +kernel) rfl (Nat.le_refl _) ?_
    exact ⟨rfl, rfl⟩
  · intro u ul ih
    have nm : mvs (pl u) x right = false → Z G m_X7_turnOver d 0 0 0 0 103 [some (.ref S), some (.int x), some (.int (bI right)), some (.int (nI u)), none, none] [] (hTn h S N tl pl ly ht up x right u) (RE none (hTn h S N tl pl ly ht up x right k)) := by
      intro hm
      refine z_inc3 (n := 106) (q := 1) (by decide +kernel) rfl (nI_1 _) ?_
      refine z_goto (n := 109) (off := -104) (tgt := 2) (by decide +kernel) ?_
      refine z_heap ?_ ih
      rw [hTn, hTn, tPl_n hm, tLy_n hm, tUp_n hm]
    have mv : mvs (pl u) x right = true → Z G m_X7_turnOver d 0 0 0 0 29 [some (.ref S), some (.int x), some (.int (bI right)), some (.int (nI u)), none, none] [] (hTn h S N tl pl ly ht up x right u) (RE none (hTn h S N tl pl ly ht up x right k)) := by
      intro hm
      have fin : ∀ b : Bool, (!up u) = b → hu (hu (hu (hTn h S N tl pl ly ht up x right u) (S + 1) (aI N (upd (tPl pl x right u) u (2 * x - 1 - pl u)))) (S + 2) (aI N (upd (tLy (hgt ht N tl) pl ly x right u) u (hgt ht N tl (2 * x - 1 - pl u) + hgt ht N tl (pl u) - 1 - ly u)))) (S + 3) (aZ N (updB (tUp pl up x right u) u b)) = hTn h S N tl pl ly ht up x right (u + 1) := by
        intro b hb
        subst hb
        have e3 := tUp_y (up := up) hm
        have e1 := tPl_y hm
        have e2 := tLy_y (H := hgt ht N tl) (ly := ly) hm
        unfold hTn
        funext j9
        by_cases e90 : j9 = S + 1
        · subst e90; simp [hu, e1, e2, e3]
        by_cases e91 : j9 = S + 2
        · subst e91; simp [hu, e1, e2, e3]
        by_cases e92 : j9 = S + 3
        · subst e92; simp [hu, e1, e2, e3]
        simp [hu, e90, e91, e92]
      refine z_ald0 (n := 30) (by decide +kernel) ?_
      refine z_getf (n := 33) (idx := 9) (by decide +kernel) fl_X7_9 (by unfold hTn; simp (disch := omega) only [hu_s, hu_n]; first | assumption | rfl) (by rfl) ?_
      refine z_ild3 (n := 34) (by decide +kernel) ?_
      refine z_iald (n := 35) (by decide +kernel) (by unfold hTn; simp (disch := omega) only [hu_s, hu_n]; first | assumption | rfl) (by first | assumption | exact ix_nI (by omega) (by omega)) ?_
      refine z_top (tPl_u _ _ _ _) ?_
      refine z_ist4 (n := 37) (by decide +kernel) rfl ?_
      refine z_iconst (n := 38) (q := 2) (v := 2) (by decide +kernel) ?_
      refine z_ild1 (n := 39) (by decide +kernel) ?_
      refine z_imul (n := 40) (by decide +kernel) ?_
      refine z_iconst (n := 41) (q := 1) (v := 1) (by decide +kernel) ?_
      refine z_isub (n := 42) (by decide +kernel) ?_
      refine z_ild4 (n := 44) (by decide +kernel) ?_
      refine z_isub (n := 45) (by decide +kernel) ?_
      refine z_ist5 (n := 47) (by decide +kernel) rfl ?_
      refine z_ald0 (n := 48) (by decide +kernel) ?_
      refine z_getf (n := 51) (idx := 9) (by decide +kernel) fl_X7_9 (by unfold hTn; simp (disch := omega) only [hu_s, hu_n]; first | assumption | rfl) (by rfl) ?_
      refine z_ild3 (n := 52) (by decide +kernel) ?_
      refine z_ild5 (n := 54) (by decide +kernel) ?_
      refine z_iast (n := 55) (by decide +kernel) (by unfold hTn; simp (disch := omega) only [hu_s, hu_n]; first | assumption | rfl) (by first | assumption | exact ix_nI (by omega) (by omega)) ?_
      refine z_ald0 (n := 56) (by decide +kernel) ?_
      refine z_getf (n := 59) (idx := 15) (by decide +kernel) fl_X7_15 (by unfold hTn; simp (disch := omega) only [hu_s, hu_n]; first | assumption | rfl) (by rfl) ?_
      refine z_ild3 (n := 60) (by decide +kernel) ?_
      refine z_ald0 (n := 61) (by decide +kernel) ?_
      refine z_ild5 (n := 63) (by decide +kernel) ?_
      refine z_v1 (n := 66) (idx := 58) (by decide +kernel) ml_X7_58 (by unfold hTn; simp (disch := omega) only [hu_s, hu_n]; first | assumption | rfl) rfl (Nat.le_of_ble_eq_true rfl) (by omega) ⟨Nat.le_refl _, Nat.le_refl _⟩ (k_heightOf (tl := tl) (ht := ht) (sz := nI k) 0 (by unfold hTn; simp (disch := omega) only [hu_s, hu_n]; assumption) (by unfold hTn; simp (disch := omega) only [hu_s, hu_n]; assumption) hN) ?_
      refine z_ald0 (n := 67) (by decide +kernel) ?_
      refine z_ild4 (n := 69) (by decide +kernel) ?_
      refine z_v1 (n := 72) (idx := 58) (by decide +kernel) ml_X7_58 (by unfold hTn; simp (disch := omega) only [hu_s, hu_n]; first | assumption | rfl) rfl (Nat.le_of_ble_eq_true rfl) (by omega) ⟨Nat.le_refl _, Nat.le_refl _⟩ (k_heightOf (tl := tl) (ht := ht) (sz := nI k) 0 (by unfold hTn; simp (disch := omega) only [hu_s, hu_n]; assumption) (by unfold hTn; simp (disch := omega) only [hu_s, hu_n]; assumption) hN) ?_
      refine z_iadd (n := 73) (by decide +kernel) ?_
      refine z_iconst (n := 74) (q := 1) (v := 1) (by decide +kernel) ?_
      refine z_isub (n := 75) (by decide +kernel) ?_
      refine z_ald0 (n := 76) (by decide +kernel) ?_
      refine z_getf (n := 79) (idx := 15) (by decide +kernel) fl_X7_15 (by unfold hTn; simp (disch := omega) only [hu_s, hu_n]; first | assumption | rfl) (by rfl) ?_
      refine z_ild3 (n := 80) (by decide +kernel) ?_
      refine z_iald (n := 81) (by decide +kernel) (by unfold hTn; simp (disch := omega) only [hu_s, hu_n]; first | assumption | rfl) (by first | assumption | exact ix_nI (by omega) (by omega)) ?_
      refine z_top (tLy_u _ _ _ _ _ _) ?_
      refine z_isub (n := 82) (by decide +kernel) ?_
      refine z_iast (n := 83) (by decide +kernel) (by unfold hTn; simp (disch := omega) only [hu_s, hu_n]; first | assumption | rfl) (by first | assumption | exact ix_nI (by omega) (by omega)) ?_
      refine z_ald0 (n := 84) (by decide +kernel) ?_
      refine z_getf (n := 87) (idx := 18) (by decide +kernel) fl_X7_18 (by unfold hTn; simp (disch := omega) only [hu_s, hu_n]; first | assumption | rfl) (by rfl) ?_
      refine z_ild3 (n := 88) (by decide +kernel) ?_
      refine z_ald0 (n := 89) (by decide +kernel) ?_
      refine z_getf (n := 92) (idx := 18) (by decide +kernel) fl_X7_18 (by unfold hTn; simp (disch := omega) only [hu_s, hu_n]; first | assumption | rfl) (by rfl) ?_
      refine z_ild3 (n := 93) (by decide +kernel) ?_
      refine z_zald (n := 94) (by decide +kernel) (by unfold hTn; simp (disch := omega) only [hu_s, hu_n]; first | assumption | rfl) (by first | assumption | exact ix_nI (by omega) (by omega)) ?_
      refine z_ifb_ne (n := 97) (off := 7) (tgt := 101) (by decide +kernel) (fun c94 => ?_) (fun c94 => ?_)
      · refine z_iconst (n := 102) (q := 0) (v := 0) (by decide +kernel) ?_
        refine z_zast (n := 103) (by decide +kernel) (by unfold hTn; simp (disch := omega) only [hu_s, hu_n]; first | assumption | rfl) (by first | assumption | exact ix_nI (by omega) (by omega)) (by first | exact bI_t.symm | exact bI_f.symm | rfl) ?_
        refine z_inc3 (n := 106) (q := 1) (by decide +kernel) rfl (nI_1 _) ?_
        refine z_goto (n := 109) (off := -104) (tgt := 2) (by decide +kernel) ?_
        exact z_wk (lv' := [some (.ref S), some (.int x), some (.int (bI right)), some (.int (nI (u + 1))), none, none]) (by simp [wk]) (z_heap (fin _ (by rw [tUp_u] at c94; simp [c94])) ih)
      · refine z_iconst (n := 98) (q := 1) (v := 1) (by decide +kernel) ?_
        refine z_goto (n := 101) (off := 4) (tgt := 102) (by decide +kernel) ?_
        refine z_zast (n := 103) (by decide +kernel) (by unfold hTn; simp (disch := omega) only [hu_s, hu_n]; first | assumption | rfl) (by first | assumption | exact ix_nI (by omega) (by omega)) (by first | exact bI_t.symm | exact bI_f.symm | rfl) ?_
        refine z_inc3 (n := 106) (q := 1) (by decide +kernel) rfl (nI_1 _) ?_
        refine z_goto (n := 109) (off := -104) (tgt := 2) (by decide +kernel) ?_
        exact z_wk (lv' := [some (.ref S), some (.int x), some (.int (bI right)), some (.int (nI (u + 1))), none, none]) (by simp [wk]) (z_heap (fin _ (by rw [tUp_u] at c94; simp [c94])) ih)
    refine z_ild3 (n := 3) (by decide +kernel) ?_
    refine z_ald0 (n := 4) (by decide +kernel) ?_
    refine z_getf (n := 7) (idx := 38) (by decide +kernel) fl_X7_38 (by unfold hTn; simp (disch := omega) only [hu_s, hu_n]; first | assumption | rfl) (by rfl) ?_
    refine z_icmp_ge_f (n := 10) (off := 102) (tgt := 109) (by decide +kernel) (nI_ge ul (by omega)) ?_
    refine z_ald0 (n := 11) (by decide +kernel) ?_
    refine z_getf (n := 14) (idx := 9) (by decide +kernel) fl_X7_9 (by unfold hTn; simp (disch := omega) only [hu_s, hu_n]; first | assumption | rfl) (by rfl) ?_
    refine z_ild3 (n := 15) (by decide +kernel) ?_
    refine z_iald (n := 16) (by decide +kernel) (by unfold hTn; simp (disch := omega) only [hu_s, hu_n]; first | assumption | rfl) (by first | assumption | exact ix_nI (by omega) (by omega)) ?_
    refine z_top (tPl_u _ _ _ _) ?_
    refine z_ild1 (n := 17) (by decide +kernel) ?_
    refine z_icmp_lt (n := 20) (off := 7) (tgt := 24) (by decide +kernel) (fun c17 => ?_) (fun c17 => ?_)
    · refine z_iconst (n := 25) (q := 0) (v := 0) (by decide +kernel) ?_
      refine z_ild2 (n := 26) (by decide +kernel) ?_
      refine z_icmp_ne (n := 29) (off := 77) (tgt := 103) (by decide +kernel) (fun c26 => ?_) (fun c26 => ?_)
      · exact nm (by first | exact mvs_c c17 c26 | exact mvs_d c17 c26)
      · exact mv (by first | exact mvs_a c17 c26 | exact mvs_b c17 c26)
    · refine z_iconst (n := 21) (q := 1) (v := 1) (by decide +kernel) ?_
      refine z_goto (n := 24) (off := 4) (tgt := 25) (by decide +kernel) ?_
      refine z_ild2 (n := 26) (by decide +kernel) ?_
      refine z_icmp_ne (n := 29) (off := 77) (tgt := 103) (by decide +kernel) (fun c26 => ?_) (fun c26 => ?_)
      · exact nm (by first | exact mvs_c c17 c26 | exact mvs_d c17 c26)
      · exact mv (by first | exact mvs_a c17 c26 | exact mvs_b c17 c26)
