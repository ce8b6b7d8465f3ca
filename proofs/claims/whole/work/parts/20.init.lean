/-! constructors -/
theorem szH_of {h h' : mH} {S n : Nat} (hz : szH h (S + 1)) (hf : ∀ j, j < S → h' j = h j) (hg : ∀ j, S + n < j → h' j = h j) (hc : ∀ j, j ≤ n → h' (S + j) ≠ dd) : szH h' (S + n + 1) := by
  intro i
  by_cases h1 : i < S
  · rw [hf i h1, hz i]; omega
  · by_cases h2 : S + n < i
    · rw [hg i h2, hz i]; omega
    · have h3 := hc (i - S) (by omega)
      rw [show S + (i - S) = i by omega] at h3
      exact ⟨fun q => absurd q h3, fun q => by omega⟩
theorem i_strip {G : mG} {h : mH} {S N : Nat} (d : Nat) (hd : 2 ≤ d) (hz : szH h (S + 1)) (hS : h S = oB 7 [.null, .null, .null, .int 0, .null, .int 0]) (hN : N ≤ 40) : EV G m_X7_init d 4 160 [.ref S, .int (nI N)] h (fun r h' => r = none ∧ (∀ j, j < S → h' j = h j) ∧ szH h' (S + 5) ∧ h' S = oStrip S (nI N) 0 ∧ h' (S + 1) = aI N (cpN nI (fun _ => 0) N) ∧ h' (S + 2) = aI N (cpN (fun _ => 0) (fun _ => 0) N) ∧ h' (S + 3) = aZ N (cpN (fun _ => true) (fun _ => false) N) ∧ h' (S + 4) = aI N (fun _ => 0)) := by
  refine ev_2_0 rfl rfl (by decide +kernel) (by decide +kernel) ?_
  refine z_ald0 (n := 1) (by decide +kernel) ?_
  refine z_objI (n := 4) (idx := 3) (by decide +kernel) jl_X7_3 (Nat.le_of_ble_eq_true rfl) (by omega) ?_
  refine z_ald0 (n := 5) (by decide +kernel) ?_
  refine z_ild1 (n := 6) (by decide +kernel) ?_
  refine z_newI (n := 8) (k := S + 1) (N := N) (by decide +kernel) (by intro i9; (try simp only [hFl, hu]); (repeat' split); all_goals first | exact hz i9 | (rw [hz i9]; omega) | (constructor <;> intro q9 <;> first | omega | cases q9)) (by omega) (by first | omega | (simp only [List.length]; omega)) (by first | omega | (simp only [List.length]; omega)) ?_
  refine z_putF (n := 11) (idx := 9) (ty := (.array .int)) (by decide +kernel) fl_X7_9 (by first | assumption | (simp (disch := omega) only [hu_s, hu_n]; first | assumption | rfl)) ⟨_, _, _, rfl, rfl, rfl, by decide +kernel⟩ rfl rfl (Nat.le_of_ble_eq_true rfl) ?_
  refine z_ald0 (n := 12) (by decide +kernel) ?_
  refine z_ild1 (n := 13) (by decide +kernel) ?_
  refine z_newI (n := 15) (k := S + 2) (N := N) (by decide +kernel) (by intro i9; (try simp only [hFl, hu]); (repeat' split); all_goals first | exact hz i9 | (rw [hz i9]; omega) | (constructor <;> intro q9 <;> first | omega | cases q9)) (by omega) (by first | omega | (simp only [List.length]; omega)) (by first | omega | (simp only [List.length]; omega)) ?_
  refine z_putF (n := 18) (idx := 15) (ty := (.array .int)) (by decide +kernel) fl_X7_15 (by first | assumption | (simp (disch := omega) only [hu_s, hu_n]; first | assumption | rfl)) ⟨_, _, _, rfl, rfl, rfl, by decide +kernel⟩ rfl rfl (Nat.le_of_ble_eq_true rfl) ?_
  refine z_ald0 (n := 19) (by decide +kernel) ?_
  refine z_ild1 (n := 20) (by decide +kernel) ?_
  refine z_newZ (n := 22) (k := S + 3) (N := N) (by decide +kernel) (by intro i9; (try simp only [hFl, hu]); (repeat' split); all_goals first | exact hz i9 | (rw [hz i9]; omega) | (constructor <;> intro q9 <;> first | omega | cases q9)) (by omega) (by first | omega | (simp only [List.length]; omega)) (by first | omega | (simp only [List.length]; omega)) ?_
  refine z_putF (n := 25) (idx := 18) (ty := (.array .boolean)) (by decide +kernel) fl_X7_18 (by first | assumption | (simp (disch := omega) only [hu_s, hu_n]; first | assumption | rfl)) ⟨_, _, _, rfl, rfl, rfl, by decide +kernel⟩ rfl rfl (Nat.le_of_ble_eq_true rfl) ?_
  refine z_ald0 (n := 26) (by decide +kernel) ?_
  refine z_ild1 (n := 27) (by decide +kernel) ?_
  refine z_newI (n := 29) (k := S + 4) (N := N) (by decide +kernel) (by intro i9; (try simp only [hFl, hu]); (repeat' split); all_goals first | exact hz i9 | (rw [hz i9]; omega) | (constructor <;> intro q9 <;> first | omega | cases q9)) (by omega) (by first | omega | (simp only [List.length]; omega)) (by first | omega | (simp only [List.length]; omega)) ?_
  refine z_putF (n := 32) (idx := 22) (ty := (.array .int)) (by decide +kernel) fl_X7_22 (by first | assumption | (simp (disch := omega) only [hu_s, hu_n]; first | assumption | rfl)) ⟨_, _, _, rfl, rfl, rfl, by decide +kernel⟩ rfl rfl (Nat.le_of_ble_eq_true rfl) ?_
  refine z_ald0 (n := 33) (by decide +kernel) ?_
  refine z_ild1 (n := 34) (by decide +kernel) ?_
  refine z_v1v (n := 37) (idx := 25) (by decide +kernel) ml_X7_25 (by first | assumption | (simp (disch := omega) only [hu_s, hu_n]; first | assumption | rfl)) rfl (Nat.le_of_ble_eq_true rfl) (by omega) ⟨by omega, by omega⟩ (k_layFlat (N := N) (sz := 0) (tl := 0) (pl := fun _ => 0) (ly := fun _ => 0) (up := fun _ => false) 1 (by omega) (by simp (disch := omega) only [hTn, hCr, hFl, hu_s, hu_n]; first | done | assumption | rfl) (by simp (disch := omega) only [hTn, hCr, hFl, hu_s, hu_n]; first | done | assumption | rfl) (by simp (disch := omega) only [hTn, hCr, hFl, hu_s, hu_n]; first | done | assumption | rfl) (by simp (disch := omega) only [hTn, hCr, hFl, hu_s, hu_n]; first | done | assumption | rfl) (Nat.le_refl _) (by omega)) ?_
  refine z_vret (by decide +kernel) rfl (by first | omega | (simp only [List.length]; omega)) ?_
  exact ⟨rfl, by intro j9 hj9; simp (disch := omega) only [hFl, hu_n], (szH_of (n := 4) hz (by intro j9 hj9; simp (disch := omega) only [hFl, hu_n]) (by intro j9 hj9; simp (disch := omega) only [hFl, hu_n]) (by intro j9 hj9; rcases (show j9 = 0 ∨ j9 = 1 ∨ j9 = 2 ∨ j9 = 3 ∨ j9 = 4 by omega) with rfl | rfl | rfl | rfl | rfl <;> (simp (disch := omega) only [Nat.add_zero, hFl, hu_s, hu_n]; first | exact oB_dd | exact aI_dd | exact aZ_dd | exact aR_dd))), (by simp (disch := omega) only [hTn, hCr, hFl, hu_s, hu_n]; first | done | assumption | rfl), (by simp (disch := omega) only [hTn, hCr, hFl, hu_s, hu_n]; first | done | assumption | rfl), (by simp (disch := omega) only [hTn, hCr, hFl, hu_s, hu_n]; first | done | assumption | rfl), (by simp (disch := omega) only [hTn, hCr, hFl, hu_s, hu_n]; first | done | assumption | rfl), (by simp (disch := omega) only [hTn, hCr, hFl, hu_s, hu_n]; first | done | assumption | rfl)⟩

theorem i_creases {G : mG} {h : mH} {S N : Nat} (d : Nat) (hd : 1 ≤ d) (hz : szH h (S + 1)) (hS : h S = oB 0 [.null, .null, .null, .null, .null, .null]) (hN : N ≤ 40) : EV G m_X0_init d 6 240 [.ref S, .int (nI N)] h (fun r h' => r = none ∧ (∀ j, j < S → h' j = h j) ∧ szH h' (S + 7) ∧ h' S = oCre S ∧ h' (S + 1) = aI N (fun _ => 0) ∧ h' (S + 2) = aI N (fun _ => 0) ∧ h' (S + 3) = aI N (fun _ => 0) ∧ h' (S + 4) = aI N (cpN (fun _ => -1) (fun _ => 0) N) ∧ h' (S + 5) = aI N (cpN (fun _ => -1) (fun _ => 0) N) ∧ h' (S + 6) = aZ N (fun _ => false)) := by
  refine ev_2_1 rfl rfl (by decide +kernel) (by decide +kernel) ?_
  refine z_ald0 (n := 1) (by decide +kernel) ?_
  refine z_objI (n := 4) (idx := 3) (by decide +kernel) jl_X0_3 (Nat.le_of_ble_eq_true rfl) (by omega) ?_
  refine z_ald0 (n := 5) (by decide +kernel) ?_
  refine z_ild1 (n := 6) (by decide +kernel) ?_
  refine z_newI (n := 8) (k := S + 1) (N := N) (by decide +kernel) (by intro i9; (try simp only [hFl, hu]); (repeat' split); all_goals first | exact hz i9 | (rw [hz i9]; omega) | (constructor <;> intro q9 <;> first | omega | cases q9)) (by omega) (by first | omega | (simp only [List.length]; omega)) (by first | omega | (simp only [List.length]; omega)) ?_
  refine z_putF (n := 11) (idx := 9) (ty := (.array .int)) (by decide +kernel) fl_X0_9 (by first | assumption | (simp (disch := omega) only [hu_s, hu_n]; first | assumption | rfl)) ⟨_, _, _, rfl, rfl, rfl, by decide +kernel⟩ rfl rfl (Nat.le_of_ble_eq_true rfl) ?_
  refine z_ald0 (n := 12) (by decide +kernel) ?_
  refine z_ild1 (n := 13) (by decide +kernel) ?_
  refine z_newI (n := 15) (k := S + 2) (N := N) (by decide +kernel) (by intro i9; (try simp only [hFl, hu]); (repeat' split); all_goals first | exact hz i9 | (rw [hz i9]; omega) | (constructor <;> intro q9 <;> first | omega | cases q9)) (by omega) (by first | omega | (simp only [List.length]; omega)) (by first | omega | (simp only [List.length]; omega)) ?_
  refine z_putF (n := 18) (idx := 15) (ty := (.array .int)) (by decide +kernel) fl_X0_15 (by first | assumption | (simp (disch := omega) only [hu_s, hu_n]; first | assumption | rfl)) ⟨_, _, _, rfl, rfl, rfl, by decide +kernel⟩ rfl rfl (Nat.le_of_ble_eq_true rfl) ?_
  refine z_ald0 (n := 19) (by decide +kernel) ?_
  refine z_ild1 (n := 20) (by decide +kernel) ?_
  refine z_newI (n := 22) (k := S + 3) (N := N) (by decide +kernel) (by intro i9; (try simp only [hFl, hu]); (repeat' split); all_goals first | exact hz i9 | (rw [hz i9]; omega) | (constructor <;> intro q9 <;> first | omega | cases q9)) (by omega) (by first | omega | (simp only [List.length]; omega)) (by first | omega | (simp only [List.length]; omega)) ?_
  refine z_putF (n := 25) (idx := 18) (ty := (.array .int)) (by decide +kernel) fl_X0_18 (by first | assumption | (simp (disch := omega) only [hu_s, hu_n]; first | assumption | rfl)) ⟨_, _, _, rfl, rfl, rfl, by decide +kernel⟩ rfl rfl (Nat.le_of_ble_eq_true rfl) ?_
  refine z_ald0 (n := 26) (by decide +kernel) ?_
  refine z_ild1 (n := 27) (by decide +kernel) ?_
  refine z_newI (n := 29) (k := S + 4) (N := N) (by decide +kernel) (by intro i9; (try simp only [hFl, hu]); (repeat' split); all_goals first | exact hz i9 | (rw [hz i9]; omega) | (constructor <;> intro q9 <;> first | omega | cases q9)) (by omega) (by first | omega | (simp only [List.length]; omega)) (by first | omega | (simp only [List.length]; omega)) ?_
  refine z_putF (n := 32) (idx := 21) (ty := (.array .int)) (by decide +kernel) fl_X0_21 (by first | assumption | (simp (disch := omega) only [hu_s, hu_n]; first | assumption | rfl)) ⟨_, _, _, rfl, rfl, rfl, by decide +kernel⟩ rfl rfl (Nat.le_of_ble_eq_true rfl) ?_
  refine z_ald0 (n := 33) (by decide +kernel) ?_
  refine z_ild1 (n := 34) (by decide +kernel) ?_
  refine z_newI (n := 36) (k := S + 5) (N := N) (by decide +kernel) (by intro i9; (try simp only [hFl, hu]); (repeat' split); all_goals first | exact hz i9 | (rw [hz i9]; omega) | (constructor <;> intro q9 <;> first | omega | cases q9)) (by omega) (by first | omega | (simp only [List.length]; omega)) (by first | omega | (simp only [List.length]; omega)) ?_
  refine z_putF (n := 39) (idx := 24) (ty := (.array .int)) (by decide +kernel) fl_X0_24 (by first | assumption | (simp (disch := omega) only [hu_s, hu_n]; first | assumption | rfl)) ⟨_, _, _, rfl, rfl, rfl, by decide +kernel⟩ rfl rfl (Nat.le_of_ble_eq_true rfl) ?_
  refine z_ald0 (n := 40) (by decide +kernel) ?_
  refine z_ild1 (n := 41) (by decide +kernel) ?_
  refine z_newZ (n := 43) (k := S + 6) (N := N) (by decide +kernel) (by intro i9; (try simp only [hFl, hu]); (repeat' split); all_goals first | exact hz i9 | (rw [hz i9]; omega) | (constructor <;> intro q9 <;> first | omega | cases q9)) (by omega) (by first | omega | (simp only [List.length]; omega)) (by first | omega | (simp only [List.length]; omega)) ?_
  refine z_putF (n := 46) (idx := 27) (ty := (.array .boolean)) (by decide +kernel) fl_X0_27 (by first | assumption | (simp (disch := omega) only [hu_s, hu_n]; first | assumption | rfl)) ⟨_, _, _, rfl, rfl, rfl, by decide +kernel⟩ rfl rfl (Nat.le_of_ble_eq_true rfl) ?_
  refine z_iconst (n := 47) (q := 0) (v := 0) (by decide +kernel) ?_
  refine z_ist2 (n := 48) (by decide +kernel) rfl ?_
  skip
  have key : ∀ u, u ≤ N → ∀ h1 : mH, (∀ j, j < S → h1 j = h j) → (∀ j, S + 6 < j → h1 j = h j) → h1 S = oCre S → h1 (S + 1) = aI N (fun _ => 0) → h1 (S + 2) = aI N (fun _ => 0) → h1 (S + 3) = aI N (fun _ => 0) → h1 (S + 4) = aI N (cpN (fun _ => -1) (fun _ => 0) u) → h1 (S + 5) = aI N (cpN (fun _ => -1) (fun _ => 0) u) → h1 (S + 6) = aZ N (fun _ => false) → Z G m_X0_init d 6 240 (0 + 1 + 1 + 1 + 1 + 1 + 1) (0 + N + N + N + N + N + N) 48 [some (.ref S), some (.int (nI N)), some (.int (nI u))] [] h1 (fun r h' => r = none ∧ (∀ j, j < S → h' j = h j) ∧ szH h' (S + 7) ∧ h' S = oCre S ∧ h' (S + 1) = aI N (fun _ => 0) ∧ h' (S + 2) = aI N (fun _ => 0) ∧ h' (S + 3) = aI N (fun _ => 0) ∧ h' (S + 4) = aI N (cpN (fun _ => -1) (fun _ => 0) N) ∧ h' (S + 5) = aI N (cpN (fun _ => -1) (fun _ => 0) N) ∧ h' (S + 6) = aZ N (fun _ => false)) := by
    refine loopZ (k := N) _ ?_ ?_
    · intro h1 hf hg e0 e1 e2 e3 e4 e5 e6
      refine z_ild2 (n := 49) (by decide +kernel) ?_
      refine z_ild1 (n := 50) (by decide +kernel) ?_
      refine z_icmp_ge_t (n := 53) (off := 23) (tgt := 73) (by decide +kernel) (nI_le (Nat.le_refl _) (by omega)) ?_
      refine z_vret (by decide +kernel) rfl (by first | omega | (simp only [List.length]; omega)) ?_
      exact ⟨rfl, hf, szH_of (n := 6) hz hf hg (by intro j9 hj9; rcases (show j9 = 0 ∨ j9 = 1 ∨ j9 = 2 ∨ j9 = 3 ∨ j9 = 4 ∨ j9 = 5 ∨ j9 = 6 by omega) with rfl | rfl | rfl | rfl | rfl | rfl | rfl <;> simp only [Nat.add_zero, e0, e1, e2, e3, e4, e5, e6] <;> first | exact oB_dd | exact aI_dd | exact aZ_dd), e0, e1, e2, e3, e4, e5, e6⟩
    · intro u ul ih h1 hf hg e0 e1 e2 e3 e4 e5 e6
      have c4 := cpN_s (fun _ => -1) (fun _ => 0) u
      refine z_ild2 (n := 49) (by decide +kernel) ?_
      refine z_ild1 (n := 50) (by decide +kernel) ?_
      refine z_icmp_ge_f (n := 53) (off := 23) (tgt := 73) (by decide +kernel) (nI_ge ul (by omega)) ?_
      refine z_ald0 (n := 54) (by decide +kernel) ?_
      refine z_getf (n := 57) (idx := 21) (by decide +kernel) fl_X0_21 (by first | assumption | (simp (disch := omega) only [hu_s, hu_n]; first | assumption | rfl)) (by rfl) ?_
      refine z_ild2 (n := 58) (by decide +kernel) ?_
      refine z_iconst (n := 59) (q := -1) (v := -1) (by decide +kernel) ?_
      refine z_iast (n := 60) (by decide +kernel) (by first | assumption | (simp (disch := omega) only [hu_s, hu_n]; first | assumption | rfl)) (by first | assumption | exact ix_nI (by omega) (by omega)) ?_
      refine z_ald0 (n := 61) (by decide +kernel) ?_
      refine z_getf (n := 64) (idx := 24) (by decide +kernel) fl_X0_24 (by first | assumption | (simp (disch := omega) only [hu_s, hu_n]; first | assumption | rfl)) (by rfl) ?_
      refine z_ild2 (n := 65) (by decide +kernel) ?_
      refine z_iconst (n := 66) (q := -1) (v := -1) (by decide +kernel) ?_
      refine z_iast (n := 67) (by decide +kernel) (by first | assumption | (simp (disch := omega) only [hu_s, hu_n]; first | assumption | rfl)) (by first | assumption | exact ix_nI (by omega) (by omega)) ?_
      refine z_inc2 (n := 70) (q := 1) (by decide +kernel) rfl (nI_1 _) ?_
      refine z_goto (n := 73) (off := -22) (tgt := 48) (by decide +kernel) ?_
      exact ih _ (by intro j9 hj9; simp (disch := omega) only [hu_n, hf]) (by intro j9 hj9; simp (disch := omega) only [hu_n, hg]) (by simp (disch := omega) only [hTn, hCr, hFl, hu_s, hu_n]; first | done | assumption | rfl) (by simp (disch := omega) only [hTn, hCr, hFl, hu_s, hu_n]; first | done | assumption | rfl) (by simp (disch := omega) only [hTn, hCr, hFl, hu_s, hu_n]; first | done | assumption | rfl) (by simp (disch := omega) only [hTn, hCr, hFl, hu_s, hu_n]; first | done | assumption | rfl) (by simp (disch := omega) only [hu_s, hu_n, c4]) (by simp (disch := omega) only [hu_s, hu_n, c4]) (by simp (disch := omega) only [hTn, hCr, hFl, hu_s, hu_n]; first | done | assumption | rfl)
  refine key 0 (Nat.zero_le N) _ (by intro j9 hj9; simp (disch := omega) only [hu_n]) (by intro j9 hj9; simp (disch := omega) only [hu_n]) (by simp (disch := omega) only [hTn, hCr, hFl, hu_s, hu_n]; first | done | assumption | rfl) (by simp (disch := omega) only [hTn, hCr, hFl, hu_s, hu_n]; first | done | assumption | rfl) (by simp (disch := omega) only [hTn, hCr, hFl, hu_s, hu_n]; first | done | assumption | rfl) (by simp (disch := omega) only [hTn, hCr, hFl, hu_s, hu_n]; first | done | assumption | rfl) (by simp (disch := omega) only [hu_s, hu_n, cpN_0]) (by simp (disch := omega) only [hu_s, hu_n, cpN_0]) (by simp (disch := omega) only [hTn, hCr, hFl, hu_s, hu_n]; first | done | assumption | rfl)
