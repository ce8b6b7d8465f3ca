/-! CreasedPaperModel: nextOrder -/
theorem i_dec (x : Int32) : x + Int32.ofInt (-1) = x - 1 := by rw [Int32.sub_eq_add_neg]; rfl
def rvW (W : Nat → Int32) (P n i : Nat) : Nat → Int32 := fun j => if (P < j ∧ j < P + 1 + i) ∨ (n - 1 - i < j ∧ j < n) then W (P + n - j) else W j
theorem rvW_0 {W : Nat → Int32} {P n : Nat} : rvW W P n 0 = W := by
  funext j
  unfold rvW
  rw [if_neg (by omega)]
theorem rvW_s {W : Nat → Int32} {P n i : Nat} (h : P + 1 + i < n - 1 - i) : upd (upd (rvW W P n i) (P + 1 + i) (rvW W P n i (n - 1 - i))) (n - 1 - i) (rvW W P n i (P + 1 + i)) = rvW W P n (i + 1) := by
  have e1 : rvW W P n i (n - 1 - i) = W (n - 1 - i) := by unfold rvW; rw [if_neg (by omega)]
  have e2 : rvW W P n i (P + 1 + i) = W (P + 1 + i) := by unfold rvW; rw [if_neg (by omega)]
  rw [e1, e2]
  funext j
  by_cases c1 : j = n - 1 - i
  · subst c1
    rw [upd_ss]
    unfold rvW
    rw [if_pos (by omega), show P + n - (n - 1 - i) = P + 1 + i by omega]
  · rw [upd_nn c1]
    by_cases c2 : j = P + 1 + i
    · subst c2
      rw [upd_ss]
      unfold rvW
      rw [if_pos (by omega), show P + n - (P + 1 + i) = n - 1 - i by omega]
    · rw [upd_nn c2]
      unfold rvW
      by_cases c3 : (P < j ∧ j < P + 1 + i) ∨ (n - 1 - i < j ∧ j < n)
      · rw [if_pos c3, if_pos (by omega)]
      · rw [if_neg c3, if_neg (by omega)]
theorem rvW_e {W : Nat → Int32} {P n i : Nat} (h : ¬ P + 1 + i < n - 1 - i) {j : Nat} (h1 : P < j) (h2 : j < n) : rvW W P n i j = W (P + n - j) := by
  unfold rvW
  by_cases c : (P < j ∧ j < P + 1 + i) ∨ (n - 1 - i < j ∧ j < n)
  · rw [if_pos c]
  · rw [if_neg c, show P + n - j = j by omega]
theorem rvW_l {W : Nat → Int32} {P n i : Nat} {j : Nat} (h1 : j ≤ P) (h2 : P < n - i) : rvW W P n i j = W j := by
  unfold rvW
  rw [if_neg (by omega)]
theorem m_next_f {G : mG} {h : mH} {Q n : Nat} {N : Int32} {m : Nat → Int32} {wd : Int64} {o : Nat → Int32} {V : Nat → Nat} (d : Nat) (hn2 : 2 ≤ n) (hn : n ≤ 8) (hQ : h Q = oMod Q N m wd) (hO : h (Q + 11) = aI 8 o) (ho : ∀ j, j < n → o j = nI (V j)) (hV : ∀ j, j < n → V j < 8) (hd : ∀ k, k + 1 < n → V (k + 1) < V k) : EV G m_X11_nextOrder d 0 0 [.ref Q, .int (nI n)] h (RE (some (.int (bI false))) h) := by
  have lp : ∀ w, w + 1 ≤ n → Z G m_X11_nextOrder d 0 0 0 0 4 [some (.ref Q), some (.int (nI n)), some (.int (nI w - 1)), none, none, none, none] [] h (RE (some (.int (bI false))) h) := by
    intro w
    induction w with
    | zero =>
      intro hw
      refine z_ild2 (n := 5) (by decide +kernel) ?_
      refine z_if_lt_t (n := 8) (off := 26) (tgt := 31) (by decide +kernel) (by decide) ?_
      refine z_ild2 (n := 32) (by decide +kernel) ?_
      refine z_if_ge_f (n := 35) (off := 5) (tgt := 37) (by decide +kernel) (by decide) ?_
      refine z_iconst (n := 36) (q := 0) (v := 0) (by decide +kernel) ?_
      first | refine z_zr1 (by decide +kernel) rfl (Nat.le_refl _) ?_ | refine z_zr0 (by decide +kernel) rfl (Nat.le_refl _) ?_ | refine z_zrb (by decide +kernel) rfl (Nat.le_refl _) ?_
      exact ⟨rfl, rfl⟩
    | succ w ih =>
      intro hw
      rw [nI_pred]
      have w8 : w < 8 := by omega
      have w9 : w + 1 < 8 := by omega
      have o0 := ho w (by omega)
      have o1 := ho (w + 1) (by omega)
      have b0 := hV w (by omega)
      refine z_ild2 (n := 5) (by decide +kernel) ?_
      refine z_if_lt_f (n := 8) (off := 26) (tgt := 31) (by decide +kernel) (nI_pos (by omega)) ?_
      refine z_ald0 (n := 9) (by decide +kernel) ?_
      refine z_getf (n := 12) (idx := 50) (by decide +kernel) fl_X11_50 (by assumption) (by rfl) ?_
      refine z_ild2 (n := 13) (by decide +kernel) ?_
      refine z_iald (n := 14) (by decide +kernel) (by assumption) (by first | assumption | exact ix_nI (by omega) (by omega)) ?_
      refine z_top o0 ?_
      refine z_ald0 (n := 15) (by decide +kernel) ?_
      refine z_getf (n := 18) (idx := 50) (by decide +kernel) fl_X11_50 (by assumption) (by rfl) ?_
      refine z_ild2 (n := 19) (by decide +kernel) ?_
      refine z_iconst (n := 20) (q := 1) (v := 1) (by decide +kernel) ?_
      refine z_iadd (n := 21) (by decide +kernel) ?_
      refine z_top (nI_1 _) ?_
      refine z_iald (n := 22) (by decide +kernel) (by assumption) (by first | assumption | exact ix_nI (by omega) (by omega)) ?_
      refine z_top o1 ?_
      refine z_icmp_le_f (n := 25) (off := 9) (tgt := 31) (by decide +kernel) (nI_ge (hd w (by omega)) (by omega)) ?_
      refine z_inc2 (n := 28) (q := -1) (by decide +kernel) rfl (i_dec _) ?_
      refine z_goto (n := 31) (off := -24) (tgt := 4) (by decide +kernel) ?_
      exact ih (by omega)
  obtain ⟨n', rfl⟩ : ∃ n', n = n' + 1 + 1 := ⟨n - 2, by omega⟩
  have e2 : nI (n' + 1 + 1) - 2 = nI (n' + 1) - 1 := by
    rw [nI_pred, show (2 : Int32) = nI 2 from rfl, pk_sub (by omega)]
    rfl
  refine ev_2_5 rfl rfl (by decide +kernel) (by decide +kernel) ?_
  refine z_ild1 (n := 1) (by decide +kernel) ?_
  refine z_iconst (n := 2) (q := 2) (v := 2) (by decide +kernel) ?_
  refine z_isub (n := 3) (by decide +kernel) ?_
  refine z_top e2 ?_
  refine z_ist2 (n := 4) (by decide +kernel) rfl ?_
  exact lp (n' + 1) (by omega)
theorem m_next_t {G : mG} {h : mH} {Q n : Nat} {N : Int32} {m : Nat → Int32} {wd : Int64} {o : Nat → Int32} {V : Nat → Nat} {P r c : Nat} (d : Nat) (hn : n ≤ 8) (hQ : h Q = oMod Q N m wd) (hO : h (Q + 11) = aI 8 o) (ho : ∀ j, j < n → o j = nI (V j)) (hV : ∀ j, j < n → V j < 8) (hr : P + 1 + r = n) (hc : c < r) (hd : ∀ k, P < k → k + 1 < n → V (k + 1) < V k) (hP : V P < V (P + 1)) (hlt : ∀ x, x < c → V (n - 1 - x) < V P) (hgt : V P < V (n - 1 - c)) : EV G m_X11_nextOrder d 0 0 [.ref Q, .int (nI n)] h (fun r9 h' => r9 = some (.int (bI true)) ∧ ∃ o', h' = hu h (Q + 11) (aI 8 o') ∧ (∀ j, j < P → o' j = nI (V j)) ∧ o' P = nI (V (n - 1 - c)) ∧ ∀ x, x < r → o' (P + 1 + x) = nI (if x = c then V P else V (n - 1 - x))) := by
  generalize hW : upd (upd o P (nI (V (n - 1 - c)))) (n - 1 - c) (nI (V P)) = W
  have w1 : ∀ j, j < P → W j = nI (V j) := fun j hj => by rw [← hW, upd_nn (by omega), upd_nn (by omega)]; exact ho j (by omega)
  have w2 : W P = nI (V (n - 1 - c)) := by rw [← hW, upd_nn (by omega), upd_ss]
  have w3 : ∀ x, x < r → W (n - 1 - x) = nI (if x = c then V P else V (n - 1 - x)) := by
    intro x hx
    by_cases e : x = c
    · subst e
      rw [if_pos rfl, ← hW, upd_ss]
    · rw [if_neg e, ← hW, upd_nn (by omega), upd_nn (by omega)]
      exact ho _ (by omega)
  have l3 : ∀ f i, r ≤ 2 * i + 2 * f + 1 → 2 * i ≤ r + 1 → Z G m_X11_nextOrder d 0 0 0 0 100 [some (.ref Q), some (.int (nI n)), some (.int (nI P)), none, none, some (.int (nI (P + 1 + i))), some (.int (nI (n - 1 - i)))] [] (hu h (Q + 11) (aI 8 (rvW W P n i))) (fun r9 h' => r9 = some (.int (bI true)) ∧ ∃ o', h' = hu h (Q + 11) (aI 8 o') ∧ (∀ j, j < P → o' j = nI (V j)) ∧ o' P = nI (V (n - 1 - c)) ∧ ∀ x, x < r → o' (P + 1 + x) = nI (if x = c then V P else V (n - 1 - x))) := by
    intro f
    have fin : ∀ i, 2 * i ≤ r + 1 → ¬ P + 1 + i < n - 1 - i → ∃ o', hu h (Q + 11) (aI 8 (rvW W P n i)) = hu h (Q + 11) (aI 8 o') ∧ (∀ j, j < P → o' j = nI (V j)) ∧ o' P = nI (V (n - 1 - c)) ∧ ∀ x, x < r → o' (P + 1 + x) = nI (if x = c then V P else V (n - 1 - x)) := by
      intro i hi z
      refine ⟨_, rfl, fun j hj => ?_, ?_, fun x hx => ?_⟩
      · rw [rvW_l (by omega) (by omega)]; exact w1 j hj
      · rw [rvW_l (by omega) (by omega)]; exact w2
      · rw [rvW_e z (by omega) (by omega), show P + n - (P + 1 + x) = n - 1 - x by omega]
        exact w3 x hx
    induction f with
    | zero =>
      intro i h1 h2
      refine z_ild5 (n := 102) (by decide +kernel) ?_
      refine z_ild6 (n := 104) (by decide +kernel) ?_
      refine z_icmp_ge_t (n := 107) (off := 44) (tgt := 148) (by decide +kernel) (nI_le (by omega) (by omega)) ?_
      refine z_iconst (n := 149) (q := 1) (v := 1) (by decide +kernel) ?_
      first | refine z_zr1 (by decide +kernel) rfl (Nat.le_refl _) ?_ | refine z_zr0 (by decide +kernel) rfl (Nat.le_refl _) ?_ | refine z_zrb (by decide +kernel) rfl (Nat.le_refl _) ?_
      exact ⟨rfl, fin i h2 (by omega)⟩
    | succ f ih =>
      intro i h1 h2
      by_cases c9 : P + 1 + i < n - 1 - i
      · have k1 : P + 1 + i < 8 := by omega
        have k2 : n - 1 - i < 8 := by omega
        have sw := rvW_s (W := W) c9
        refine z_ild5 (n := 102) (by decide +kernel) ?_
        refine z_ild6 (n := 104) (by decide +kernel) ?_
        refine z_icmp_ge_f (n := 107) (off := 44) (tgt := 148) (by decide +kernel) (nI_ge c9 (by omega)) ?_
        refine z_ald0 (n := 108) (by decide +kernel) ?_
        refine z_getf (n := 111) (idx := 50) (by decide +kernel) fl_X11_50 (by first | assumption | (simp (disch := omega) only [hu_s, hu_n]; first | assumption | rfl)) (by rfl) ?_
        refine z_ild5 (n := 113) (by decide +kernel) ?_
        refine z_iald (n := 114) (by decide +kernel) (by first | assumption | (simp (disch := omega) only [hu_s, hu_n]; first | assumption | rfl)) (by first | assumption | exact ix_nI (by omega) (by omega)) ?_
        refine z_ist4 (n := 116) (by decide +kernel) rfl ?_
        refine z_ald0 (n := 117) (by decide +kernel) ?_
        refine z_getf (n := 120) (idx := 50) (by decide +kernel) fl_X11_50 (by first | assumption | (simp (disch := omega) only [hu_s, hu_n]; first | assumption | rfl)) (by rfl) ?_
        refine z_ild5 (n := 122) (by decide +kernel) ?_
        refine z_ald0 (n := 123) (by decide +kernel) ?_
        refine z_getf (n := 126) (idx := 50) (by decide +kernel) fl_X11_50 (by first | assumption | (simp (disch := omega) only [hu_s, hu_n]; first | assumption | rfl)) (by rfl) ?_
        refine z_ild6 (n := 128) (by decide +kernel) ?_
        refine z_iald (n := 129) (by decide +kernel) (by first | assumption | (simp (disch := omega) only [hu_s, hu_n]; first | assumption | rfl)) (by first | assumption | exact ix_nI (by omega) (by omega)) ?_
        refine z_iast (n := 130) (by decide +kernel) (by first | assumption | (simp (disch := omega) only [hu_s, hu_n]; first | assumption | rfl)) (by first | assumption | exact ix_nI (by omega) (by omega)) ?_
        refine z_ald0 (n := 131) (by decide +kernel) ?_
        refine z_getf (n := 134) (idx := 50) (by decide +kernel) fl_X11_50 (by first | assumption | (simp (disch := omega) only [hu_s, hu_n]; first | assumption | rfl)) (by rfl) ?_
        refine z_ild6 (n := 136) (by decide +kernel) ?_
        refine z_ild4 (n := 138) (by decide +kernel) ?_
        refine z_iast (n := 139) (by decide +kernel) (by first | assumption | (simp (disch := omega) only [hu_s, hu_n]; first | assumption | rfl)) (by first | assumption | exact ix_nI (by omega) (by omega)) ?_
        refine z_inc5 (n := 142) (q := 1) (by decide +kernel) rfl (nI_1 _) ?_
        refine z_inc6 (n := 145) (q := -1) (by decide +kernel) rfl ((i_dec _).trans (show nI (n - 1 - i) - 1 = nI (n - 1 - (i + 1)) from (pk_sub (b := 1) (by omega)).trans (congrArg nI (by omega)))) ?_
        refine z_goto (n := 148) (off := -45) (tgt := 100) (by decide +kernel) ?_
        skip
        have ih9 := ih (i + 1) (by omega) (by omega)
        rw [← sw] at ih9
        rw [hu_hu, hu_hu]
        have ng : upd (rvW W P n i) (P + 1 + i) (rvW W P n i (n - 1 - i)) (n - 1 - i) = rvW W P n i (n - 1 - i) := upd_nn (by omega)
        exact z_wk (lv' := [some (.ref Q), some (.int (nI n)), some (.int (nI P)), none, none, some (.int (nI (P + 1 + (i + 1)))), some (.int (nI (n - 1 - (i + 1))))]) (by simp [wk]; rfl) ih9
      · refine z_ild5 (n := 102) (by decide +kernel) ?_
        refine z_ild6 (n := 104) (by decide +kernel) ?_
        refine z_icmp_ge_t (n := 107) (off := 44) (tgt := 148) (by decide +kernel) (nI_le (by omega) (by omega)) ?_
        refine z_iconst (n := 149) (q := 1) (v := 1) (by decide +kernel) ?_
        first | refine z_zr1 (by decide +kernel) rfl (Nat.le_refl _) ?_ | refine z_zr0 (by decide +kernel) rfl (Nat.le_refl _) ?_ | refine z_zrb (by decide +kernel) rfl (Nat.le_refl _) ?_
        exact ⟨rfl, fin i h2 c9⟩
  have l2 : ∀ f x, x + f = c → Z G m_X11_nextOrder d 0 0 0 0 41 [some (.ref Q), some (.int (nI n)), some (.int (nI P)), some (.int (nI (n - 1 - x))), none, none, none] [] h (fun r9 h' => r9 = some (.int (bI true)) ∧ ∃ o', h' = hu h (Q + 11) (aI 8 o') ∧ (∀ j, j < P → o' j = nI (V j)) ∧ o' P = nI (V (n - 1 - c)) ∧ ∀ x, x < r → o' (P + 1 + x) = nI (if x = c then V P else V (n - 1 - x))) := by
    intro f
    induction f with
    | zero =>
      intro x hx
      have e : x = c := by omega
      subst e
      have k1 : P < 8 := by omega
      have k2 : n - 1 - x < 8 := by omega
      have o0 := ho P (by omega)
      have o1 := ho (n - 1 - x) (by omega)
      have b1 := hV (n - 1 - x) (by omega)
      obtain ⟨n', hn9⟩ : ∃ n', n = n' + 1 := ⟨n - 1, by omega⟩
      have en : nI n - 1 = nI (n - 1 - 0) := by rw [hn9, nI_pred]; rfl
      refine z_ald0 (n := 42) (by decide +kernel) ?_
      refine z_getf (n := 45) (idx := 50) (by decide +kernel) fl_X11_50 (by first | assumption | (simp (disch := omega) only [hu_s, hu_n]; first | assumption | rfl)) (by rfl) ?_
      refine z_ild3 (n := 46) (by decide +kernel) ?_
      refine z_iald (n := 47) (by decide +kernel) (by first | assumption | (simp (disch := omega) only [hu_s, hu_n]; first | assumption | rfl)) (by first | assumption | exact ix_nI (by omega) (by omega)) ?_
      refine z_top o1 ?_
      refine z_ald0 (n := 48) (by decide +kernel) ?_
      refine z_getf (n := 51) (idx := 50) (by decide +kernel) fl_X11_50 (by first | assumption | (simp (disch := omega) only [hu_s, hu_n]; first | assumption | rfl)) (by rfl) ?_
      refine z_ild2 (n := 52) (by decide +kernel) ?_
      refine z_iald (n := 53) (by decide +kernel) (by first | assumption | (simp (disch := omega) only [hu_s, hu_n]; first | assumption | rfl)) (by first | assumption | exact ix_nI (by omega) (by omega)) ?_
      refine z_top o0 ?_
      refine z_icmp_ge_t (n := 56) (off := 9) (tgt := 62) (by decide +kernel) (nI_le (by omega) (by omega)) ?_
      refine z_ald0 (n := 63) (by decide +kernel) ?_
      refine z_getf (n := 66) (idx := 50) (by decide +kernel) fl_X11_50 (by first | assumption | (simp (disch := omega) only [hu_s, hu_n]; first | assumption | rfl)) (by rfl) ?_
      refine z_ild2 (n := 67) (by decide +kernel) ?_
      refine z_iald (n := 68) (by decide +kernel) (by first | assumption | (simp (disch := omega) only [hu_s, hu_n]; first | assumption | rfl)) (by first | assumption | exact ix_nI (by omega) (by omega)) ?_
      refine z_top o0 ?_
      refine z_ist4 (n := 70) (by decide +kernel) rfl ?_
      refine z_ald0 (n := 71) (by decide +kernel) ?_
      refine z_getf (n := 74) (idx := 50) (by decide +kernel) fl_X11_50 (by first | assumption | (simp (disch := omega) only [hu_s, hu_n]; first | assumption | rfl)) (by rfl) ?_
      refine z_ild2 (n := 75) (by decide +kernel) ?_
      refine z_ald0 (n := 76) (by decide +kernel) ?_
      refine z_getf (n := 79) (idx := 50) (by decide +kernel) fl_X11_50 (by first | assumption | (simp (disch := omega) only [hu_s, hu_n]; first | assumption | rfl)) (by rfl) ?_
      refine z_ild3 (n := 80) (by decide +kernel) ?_
      refine z_iald (n := 81) (by decide +kernel) (by first | assumption | (simp (disch := omega) only [hu_s, hu_n]; first | assumption | rfl)) (by first | assumption | exact ix_nI (by omega) (by omega)) ?_
      refine z_top o1 ?_
      refine z_iast (n := 82) (by decide +kernel) (by first | assumption | (simp (disch := omega) only [hu_s, hu_n]; first | assumption | rfl)) (by first | assumption | exact ix_nI (by omega) (by omega)) ?_
      refine z_ald0 (n := 83) (by decide +kernel) ?_
      refine z_getf (n := 86) (idx := 50) (by decide +kernel) fl_X11_50 (by first | assumption | (simp (disch := omega) only [hu_s, hu_n]; first | assumption | rfl)) (by rfl) ?_
      refine z_ild3 (n := 87) (by decide +kernel) ?_
      refine z_ild4 (n := 89) (by decide +kernel) ?_
      refine z_iast (n := 90) (by decide +kernel) (by first | assumption | (simp (disch := omega) only [hu_s, hu_n]; first | assumption | rfl)) (by first | assumption | exact ix_nI (by omega) (by omega)) ?_
      refine z_ild2 (n := 91) (by decide +kernel) ?_
      refine z_iconst (n := 92) (q := 1) (v := 1) (by decide +kernel) ?_
      refine z_iadd (n := 93) (by decide +kernel) ?_
      refine z_top (nI_1 _) ?_
      refine z_ist5 (n := 95) (by decide +kernel) rfl ?_
      refine z_ild1 (n := 96) (by decide +kernel) ?_
      refine z_iconst (n := 97) (q := 1) (v := 1) (by decide +kernel) ?_
      refine z_isub (n := 98) (by decide +kernel) ?_
      refine z_top en ?_
      refine z_ist6 (n := 100) (by decide +kernel) rfl ?_
      skip
      rw [hu_hu, hW]
      have q := l3 r 0 (by omega) (by omega)
      rw [rvW_0] at q
      exact z_wk (lv' := [some (.ref Q), some (.int (nI n)), some (.int (nI P)), none, none, some (.int (nI (P + 1 + 0))), some (.int (nI (n - 1 - 0)))]) (by simp [wk]) q
    | succ f ih =>
      intro x hx
      have k1 : P < 8 := by omega
      have k2 : n - 1 - x < 8 := by omega
      have o0 := ho P (by omega)
      have o1 := ho (n - 1 - x) (by omega)
      have b1 := hV P (by omega)
      refine z_ald0 (n := 42) (by decide +kernel) ?_
      refine z_getf (n := 45) (idx := 50) (by decide +kernel) fl_X11_50 (by assumption) (by rfl) ?_
      refine z_ild3 (n := 46) (by decide +kernel) ?_
      refine z_iald (n := 47) (by decide +kernel) (by assumption) (by first | assumption | exact ix_nI (by omega) (by omega)) ?_
      refine z_top o1 ?_
      refine z_ald0 (n := 48) (by decide +kernel) ?_
      refine z_getf (n := 51) (idx := 50) (by decide +kernel) fl_X11_50 (by assumption) (by rfl) ?_
      refine z_ild2 (n := 52) (by decide +kernel) ?_
      refine z_iald (n := 53) (by decide +kernel) (by assumption) (by first | assumption | exact ix_nI (by omega) (by omega)) ?_
      refine z_top o0 ?_
      refine z_icmp_ge_f (n := 56) (off := 9) (tgt := 62) (by decide +kernel) (nI_ge (hlt x (by omega)) (by omega)) ?_
      refine z_inc3 (n := 59) (q := -1) (by decide +kernel) rfl ((i_dec _).trans (show nI (n - 1 - x) - 1 = nI (n - 1 - (x + 1)) from (pk_sub (b := 1) (by omega)).trans (congrArg nI (by omega)))) ?_
      refine z_goto (n := 62) (off := -18) (tgt := 41) (by decide +kernel) ?_
      exact ih (x + 1) (by omega)
  have l1 : ∀ f, P + f + 1 < n → Z G m_X11_nextOrder d 0 0 0 0 4 [some (.ref Q), some (.int (nI n)), some (.int (nI (P + f))), none, none, none, none] [] h (fun r9 h' => r9 = some (.int (bI true)) ∧ ∃ o', h' = hu h (Q + 11) (aI 8 o') ∧ (∀ j, j < P → o' j = nI (V j)) ∧ o' P = nI (V (n - 1 - c)) ∧ ∀ x, x < r → o' (P + 1 + x) = nI (if x = c then V P else V (n - 1 - x))) := by
    intro f
    induction f with
    | zero =>
      intro hf
      have k1 : P < 8 := by omega
      have k2 : P + 1 < 8 := by omega
      have o0 := ho P (by omega)
      have o1 := ho (P + 1) (by omega)
      have b1 := hV (P + 1) (by omega)
      obtain ⟨n', hn9⟩ : ∃ n', n = n' + 1 := ⟨n - 1, by omega⟩
      have en : nI n - 1 = nI (n - 1 - 0) := by rw [hn9, nI_pred]; rfl
      rw [Nat.add_zero]
      refine z_ild2 (n := 5) (by decide +kernel) ?_
      refine z_if_lt_f (n := 8) (off := 26) (tgt := 31) (by decide +kernel) (nI_pos (by omega)) ?_
      refine z_ald0 (n := 9) (by decide +kernel) ?_
      refine z_getf (n := 12) (idx := 50) (by decide +kernel) fl_X11_50 (by assumption) (by rfl) ?_
      refine z_ild2 (n := 13) (by decide +kernel) ?_
      refine z_iald (n := 14) (by decide +kernel) (by assumption) (by first | assumption | exact ix_nI (by omega) (by omega)) ?_
      refine z_top o0 ?_
      refine z_ald0 (n := 15) (by decide +kernel) ?_
      refine z_getf (n := 18) (idx := 50) (by decide +kernel) fl_X11_50 (by assumption) (by rfl) ?_
      refine z_ild2 (n := 19) (by decide +kernel) ?_
      refine z_iconst (n := 20) (q := 1) (v := 1) (by decide +kernel) ?_
      refine z_iadd (n := 21) (by decide +kernel) ?_
      refine z_top (nI_1 _) ?_
      refine z_iald (n := 22) (by decide +kernel) (by assumption) (by first | assumption | exact ix_nI (by omega) (by omega)) ?_
      refine z_top o1 ?_
      refine z_icmp_le_t (n := 25) (off := 9) (tgt := 31) (by decide +kernel) (nI_le (by omega) (by omega)) ?_
      refine z_ild2 (n := 32) (by decide +kernel) ?_
      refine z_if_ge_t (n := 35) (off := 5) (tgt := 37) (by decide +kernel) (nI_pos' (by omega)) ?_
      refine z_ild1 (n := 38) (by decide +kernel) ?_
      refine z_iconst (n := 39) (q := 1) (v := 1) (by decide +kernel) ?_
      refine z_isub (n := 40) (by decide +kernel) ?_
      refine z_top en ?_
      refine z_ist3 (n := 41) (by decide +kernel) rfl ?_
      exact l2 c 0 (by omega)
    | succ f ih =>
      intro hf
      have k1 : P + (f + 1) < 8 := by omega
      have k2 : P + (f + 1) + 1 < 8 := by omega
      have o0 := ho (P + (f + 1)) (by omega)
      have o1 := ho (P + (f + 1) + 1) (by omega)
      have b1 := hV (P + (f + 1)) (by omega)
      refine z_ild2 (n := 5) (by decide +kernel) ?_
      refine z_if_lt_f (n := 8) (off := 26) (tgt := 31) (by decide +kernel) (nI_pos (by omega)) ?_
      refine z_ald0 (n := 9) (by decide +kernel) ?_
      refine z_getf (n := 12) (idx := 50) (by decide +kernel) fl_X11_50 (by assumption) (by rfl) ?_
      refine z_ild2 (n := 13) (by decide +kernel) ?_
      refine z_iald (n := 14) (by decide +kernel) (by assumption) (by first | assumption | exact ix_nI (by omega) (by omega)) ?_
      refine z_top o0 ?_
      refine z_ald0 (n := 15) (by decide +kernel) ?_
      refine z_getf (n := 18) (idx := 50) (by decide +kernel) fl_X11_50 (by assumption) (by rfl) ?_
      refine z_ild2 (n := 19) (by decide +kernel) ?_
      refine z_iconst (n := 20) (q := 1) (v := 1) (by decide +kernel) ?_
      refine z_iadd (n := 21) (by decide +kernel) ?_
      refine z_top (nI_1 _) ?_
      refine z_iald (n := 22) (by decide +kernel) (by assumption) (by first | assumption | exact ix_nI (by omega) (by omega)) ?_
      refine z_top o1 ?_
      refine z_icmp_le_f (n := 25) (off := 9) (tgt := 31) (by decide +kernel) (nI_ge (hd _ (by omega) (by omega)) (by omega)) ?_
      refine z_inc2 (n := 28) (q := -1) (by decide +kernel) rfl ((i_dec _).trans (show nI (P + (f + 1)) - 1 = nI (P + f) from nI_pred (P + f))) ?_
      refine z_goto (n := 31) (off := -24) (tgt := 4) (by decide +kernel) ?_
      exact ih (by omega)
  have e2 : nI n - 2 = nI (P + (r - 1)) := by
    rw [show (2 : Int32) = nI 2 from rfl, pk_sub (by omega)]
    exact congrArg nI (by omega)
  refine ev_2_5 rfl rfl (by decide +kernel) (by decide +kernel) ?_
  refine z_ild1 (n := 1) (by decide +kernel) ?_
  refine z_iconst (n := 2) (q := 2) (v := 2) (by decide +kernel) ?_
  refine z_isub (n := 3) (by decide +kernel) ?_
  refine z_top e2 ?_
  refine z_ist2 (n := 4) (by decide +kernel) rfl ?_
  exact l1 (r - 1) (by omega)
