/-! Panels: take, count, find; CreasedPaper: ways -/
def dg3 (t c : Nat) : Nat := t / 3 ^ c % 3
theorem dg3_lt (t c : Nat) : dg3 t c < 3 := Nat.mod_lt _ (by omega)
def pnS (h : mH) (A n : Nat) (t : Nat) : Prop := ∃ wt fd pI lO sg, pnl h A n wt fd pI lO sg ∧ (∀ c, c + 1 < n → sg c = nI (dg3 t c)) ∧ ∀ p, p < n → lO p = -1
theorem k_pnTake {G : mG} {h : mH} {A n t : Nat} (d : Nat) (hn2 : 2 ≤ n) (hn : n ≤ 8) (ht : t < 2 ^ 31) (H : panX h A) : EV G m_X1_take d 0 0 [.ref A, .int (nI n), .int (nI t)] h (fun r h' => r = some (.int (bI (decide (t / 3 ^ (n - 1) = 0)))) ∧ (frm h h' A (A + 4) ∧ pnS h' A n t)) := by
  obtain ⟨⟨ct, wt, fd, h0⟩, ⟨pI, h1⟩, ⟨lO, h2⟩, ⟨sg, h3⟩⟩ := H
  obtain ⟨n', rfl⟩ : ∃ n', n = n' + 1 := ⟨n - 1, by omega⟩
  have l2 : ∀ m u, u + m = n' + 1 → ∀ (hX : mH) (lO sg : Nat → Int32), frm h hX A (A + 4) → pnl hX A (n' + 1) wt fd pI lO sg → (∀ c, c + 1 < n' + 1 → sg c = nI (dg3 t c)) → (∀ p, p < u → lO p = -1) → Z G m_X1_take d 0 0 0 0 41 [some (.ref A), some (.int (nI (n' + 1))), some (.int (nI t)), some (.int (nI (t / 3 ^ n'))), some (.int (nI u))] [] hX (fun r h' => r = some (.int (bI (decide (t / 3 ^ n' = 0)))) ∧ (frm h h' A (A + 4) ∧ pnS h' A (n' + 1) t)) := by
    intro m
    induction m with
    | zero =>
      intro u hu9 hX lO sg F H hs hl
      have H' := H
      obtain ⟨h0, h1, h2, h3⟩ := H
      have hq : t / 3 ^ n' ≤ t := Nat.div_le_self _ _
      have fin : pnS hX A (n' + 1) t := ⟨wt, fd, pI, lO, sg, H', hs, fun p hp => hl p (by omega)⟩
      by_cases c : t / 3 ^ n' = 0
      · refine z_ild4 (n := 43) (by decide +kernel) ?_
        refine z_ild1 (n := 44) (by decide +kernel) ?_
        refine z_icmp_ge_t (n := 47) (off := 17) (tgt := 61) (by decide +kernel) (by rw [show u = n' + 1 by omega]; exact Int32.le_refl _) ?_
        refine z_ild3 (n := 62) (by decide +kernel) ?_
        refine z_if_ne_f (n := 65) (off := 7) (tgt := 69) (by decide +kernel) (by rw [c]; rfl) ?_
        refine z_iconst (n := 66) (q := 1) (v := 1) (by decide +kernel) ?_
        refine z_goto (n := 69) (off := 4) (tgt := 70) (by decide +kernel) ?_
        first | refine z_zr1 (by decide +kernel) rfl (Nat.le_refl _) ?_ | refine z_zr0 (by decide +kernel) rfl (Nat.le_refl _) ?_ | refine z_zrb (by decide +kernel) rfl (Nat.le_refl _) ?_
        exact ⟨by rw [decide_eq_true c], F, fin⟩
      · refine z_ild4 (n := 43) (by decide +kernel) ?_
        refine z_ild1 (n := 44) (by decide +kernel) ?_
        refine z_icmp_ge_t (n := 47) (off := 17) (tgt := 61) (by decide +kernel) (by rw [show u = n' + 1 by omega]; exact Int32.le_refl _) ?_
        refine z_ild3 (n := 62) (by decide +kernel) ?_
        refine z_if_ne_t (n := 65) (off := 7) (tgt := 69) (by decide +kernel) (nI_ne0 (Nat.pos_of_ne_zero c) (Nat.lt_of_le_of_lt hq ht)) ?_
        refine z_iconst (n := 70) (q := 0) (v := 0) (by decide +kernel) ?_
        first | refine z_zr1 (by decide +kernel) rfl (Nat.le_refl _) ?_ | refine z_zr0 (by decide +kernel) rfl (Nat.le_refl _) ?_ | refine z_zrb (by decide +kernel) rfl (Nat.le_refl _) ?_
        exact ⟨by rw [decide_eq_false c], F, fin⟩
    | succ m ih =>
      intro u hu9 hX lO sg F H hs hl
      obtain ⟨h0, h1, h2, h3⟩ := H
      have hu8 : u < 8 := by omega
      refine z_ild4 (n := 43) (by decide +kernel) ?_
      refine z_ild1 (n := 44) (by decide +kernel) ?_
      refine z_icmp_ge_f (n := 47) (off := 17) (tgt := 61) (by decide +kernel) (nI_ge (by omega) (by omega)) ?_
      refine z_ald0 (n := 48) (by decide +kernel) ?_
      refine z_getf (n := 51) (idx := 15) (by decide +kernel) fl_X1_15 (by assumption) (by rfl) ?_
      refine z_ild4 (n := 53) (by decide +kernel) ?_
      refine z_iconst (n := 54) (q := -1) (v := -1) (by decide +kernel) ?_
      refine z_iast (n := 55) (by decide +kernel) (by assumption) (by first | assumption | exact ix_nI (by omega) (by omega)) ?_
      refine z_inc4 (n := 58) (q := 1) (by decide +kernel) rfl (nI_1 _) ?_
      refine z_goto (n := 61) (off := -17) (tgt := 41) (by decide +kernel) ?_
      exact ih (u + 1) (by omega) _ (upd lO u (-1)) sg (frm_tr F (fun j hj => hu_n (by omega))) ⟨(by simp (disch := omega) only [hTn, hCr, hFl, hu_s, hu_n]; first | done | assumption | rfl), (by simp (disch := omega) only [hTn, hCr, hFl, hu_s, hu_n]; first | done | assumption | rfl), (by simp (disch := omega) only [hTn, hCr, hFl, hu_s, hu_n]; first | done | assumption | rfl), (by simp (disch := omega) only [hTn, hCr, hFl, hu_s, hu_n]; first | done | assumption | rfl)⟩ hs (fun p hp => (by by_cases c : p = u; (subst c; exact upd_ss); rw [upd_nn c]; exact hl p (by omega)))
  have l1 : ∀ m u, u + m = n' → ∀ (hX : mH) (sg : Nat → Int32), frm h hX A (A + 4) → pnl hX A (n' + 1) wt fd pI lO sg → (∀ c, c < u → sg c = nI (dg3 t c)) → Z G m_X1_take d 0 0 0 0 10 [some (.ref A), some (.int (nI (n' + 1))), some (.int (nI t)), some (.int (nI (t / 3 ^ u))), some (.int (nI u))] [] hX (fun r h' => r = some (.int (bI (decide (t / 3 ^ n' = 0)))) ∧ (frm h h' A (A + 4) ∧ pnS h' A (n' + 1) t)) := by
    intro m
    induction m with
    | zero =>
      intro u hu9 hX sg F H hs
      have e : u = n' := by omega
      subst e
      refine z_ild4 (n := 12) (by decide +kernel) ?_
      refine z_ild1 (n := 13) (by decide +kernel) ?_
      refine z_iconst (n := 14) (q := 1) (v := 1) (by decide +kernel) ?_
      refine z_isub (n := 15) (by decide +kernel) ?_
      refine z_top (nI_pred _) ?_
      refine z_icmp_ge_t (n := 18) (off := 23) (tgt := 38) (by decide +kernel) (Int32.le_refl _) ?_
      refine z_iconst (n := 39) (q := 0) (v := 0) (by decide +kernel) ?_
      refine z_ist4 (n := 41) (by decide +kernel) rfl ?_
      exact l2 (u + 1) 0 (by omega) hX lO sg F H (fun c hc => hs c (by omega)) (fun p hp => absurd hp (Nat.not_lt_zero _))
    | succ m ih =>
      intro u hu9 hX sg F H hs
      have hu8 : u < 8 := by omega
      have hq : t / 3 ^ u ≤ t := Nat.div_le_self _ _
      have ed : t / 3 ^ u / 3 = t / 3 ^ (u + 1) := by rw [Nat.pow_succ, Nat.div_div_eq_div_mul]
      obtain ⟨h0, h1, h2, h3⟩ := H
      refine z_ild4 (n := 12) (by decide +kernel) ?_
      refine z_ild1 (n := 13) (by decide +kernel) ?_
      refine z_iconst (n := 14) (q := 1) (v := 1) (by decide +kernel) ?_
      refine z_isub (n := 15) (by decide +kernel) ?_
      refine z_top (nI_pred _) ?_
      refine z_icmp_ge_f (n := 18) (off := 23) (tgt := 38) (by decide +kernel) (nI_ge (by omega) (by omega)) ?_
      refine z_ald0 (n := 19) (by decide +kernel) ?_
      refine z_getf (n := 22) (idx := 18) (by decide +kernel) fl_X1_18 (by assumption) (by rfl) ?_
      refine z_ild4 (n := 24) (by decide +kernel) ?_
      refine z_ild3 (n := 25) (by decide +kernel) ?_
      refine z_iconst (n := 26) (q := 3) (v := 3) (by decide +kernel) ?_
      refine z_irem (n := 27) (by decide +kernel) (by decide) ?_
      refine z_top (pk_rem (d := 3) (Nat.lt_of_le_of_lt hq ht) (by decide) (by decide)) ?_
      refine z_iast (n := 28) (by decide +kernel) (by assumption) (by first | assumption | exact ix_nI (by omega) (by omega)) ?_
      refine z_ild3 (n := 29) (by decide +kernel) ?_
      refine z_iconst (n := 30) (q := 3) (v := 3) (by decide +kernel) ?_
      refine z_idiv (n := 31) (by decide +kernel) (by decide) ?_
      refine z_top ((pk_div (d := 3) (Nat.lt_of_le_of_lt hq ht) (by decide) (by decide)).trans (congrArg nI ed)) ?_
      refine z_ist3 (n := 32) (by decide +kernel) rfl ?_
      refine z_inc4 (n := 35) (q := 1) (by decide +kernel) rfl (nI_1 _) ?_
      refine z_goto (n := 38) (off := -25) (tgt := 10) (by decide +kernel) ?_
      exact ih (u + 1) (by omega) _ (upd sg u (nI (dg3 t u))) (frm_tr F (fun j hj => hu_n (by omega))) ⟨(by simp (disch := omega) only [hTn, hCr, hFl, hu_s, hu_n]; first | done | assumption | rfl), (by simp (disch := omega) only [hTn, hCr, hFl, hu_s, hu_n]; first | done | assumption | rfl), (by simp (disch := omega) only [hTn, hCr, hFl, hu_s, hu_n]; first | done | assumption | rfl), (by simp (disch := omega) only [hTn, hCr, hFl, hu_s, hu_n]; first | done | assumption | rfl)⟩ (fun p hp => (by by_cases c : p = u; (subst c; exact upd_ss); rw [upd_nn c]; exact hs p (by omega)))
  refine ev_3_2 rfl rfl rfl (by decide +kernel) (by decide +kernel) ?_
  refine z_ald0 (n := 1) (by decide +kernel) ?_
  refine z_ild1 (n := 2) (by decide +kernel) ?_
  refine z_putf (n := 5) (idx := 21) (ty := .int) (by decide +kernel) fl_X1_21 (by assumption) ⟨_, _, _, rfl, rfl, by decide +kernel⟩ rfl rfl (Nat.le_of_ble_eq_true rfl) ?_
  refine z_ild2 (n := 6) (by decide +kernel) ?_
  refine z_ist3 (n := 7) (by decide +kernel) rfl ?_
  refine z_iconst (n := 8) (q := 0) (v := 0) (by decide +kernel) ?_
  refine z_ist4 (n := 10) (by decide +kernel) rfl ?_
  skip
  rw [Nat.add_sub_cancel]
  have q := l1 n' 0 (by omega)
  simp only [Nat.pow_zero, Nat.div_one] at q
  exact q _ sg (fun j hj => hu_n (by omega)) ⟨(by simp (disch := omega) only [hTn, hCr, hFl, hu_s, hu_n]; first | done | assumption | rfl), (by simp (disch := omega) only [hTn, hCr, hFl, hu_s, hu_n]; first | done | assumption | rfl), (by simp (disch := omega) only [hTn, hCr, hFl, hu_s, hu_n]; first | done | assumption | rfl), (by simp (disch := omega) only [hTn, hCr, hFl, hu_s, hu_n]; first | done | assumption | rfl)⟩ (fun p hp => absurd hp (Nat.not_lt_zero _))
theorem lvX_31 {n : Nat} {s : Nat → Nat} (hn : n ≤ 8) (pre : List Nat) : (lvX n s n pre).length < 2 ^ 31 := by
  refine Nat.lt_of_le_of_lt (lvX_len n s n pre) ?_
  refine Nat.lt_of_le_of_lt (Nat.pow_le_pow_left hn n) ?_
  exact Nat.lt_of_le_of_lt (Nat.pow_le_pow_right (by omega) hn) (by decide)
theorem pil_0 {n : Nat} {pI lO : Nat → Int32} (h : ∀ p, p < n → lO p = -1) : pil n [] pI lO := ⟨⟨List.nodup_nil, Nat.zero_le _⟩, fun p hp => absurd hp (by simp), fun l hl => absurd hl (Nat.not_lt_zero _), fun p hp _ => h p hp⟩
theorem k_countWays {G : mG} {h : mH} {A n t : Nat} (d : Nat) (hd : 12 ≤ d) (hn : n ≤ 8) (H : pnS h A n t) : EV G m_X1_countWays d 0 0 [.ref A] h (fun r h' => r = some (.int (nI (lvX n (dg3 t) n []).length)) ∧ (frm h h' A (A + 4) ∧ panX h' A)) := by
  obtain ⟨wt, fd, pI, lO, sg, ⟨h0, h1, h2, h3⟩, hs, hl⟩ := H
  refine ev_1_0 rfl (by decide +kernel) (by decide +kernel) ?_
  refine z_ald0 (n := 1) (by decide +kernel) ?_
  refine z_iconst (n := 2) (q := -1) (v := -1) (by decide +kernel) ?_
  refine z_putf (n := 5) (idx := 25) (ty := .int) (by decide +kernel) fl_X1_25 (by first | assumption | (simp (disch := omega) only [hu_s, hu_n]; first | assumption | rfl)) ⟨_, _, _, rfl, rfl, by decide +kernel⟩ rfl rfl (Nat.le_of_ble_eq_true rfl) ?_
  refine z_ald0 (n := 6) (by decide +kernel) ?_
  refine z_iconst (n := 7) (q := 0) (v := 0) (by decide +kernel) ?_
  refine z_putf (n := 10) (idx := 28) (ty := .int) (by decide +kernel) fl_X1_28 (by first | assumption | (simp (disch := omega) only [hu_s, hu_n]; first | assumption | rfl)) ⟨_, _, _, rfl, rfl, by decide +kernel⟩ rfl rfl (Nat.le_of_ble_eq_true rfl) ?_
  refine z_ald0 (n := 11) (by decide +kernel) ?_
  refine z_iconst (n := 12) (q := 0) (v := 0) (by decide +kernel) ?_
  refine z_g1 (n := 15) (idx := 31) (by decide +kernel) ml_X1_31 (by first | assumption | (simp (disch := omega) only [hu_s, hu_n]; first | assumption | rfl)) rfl (Nat.le_of_ble_eq_true rfl) (by omega) ⟨Nat.le_refl _, Nat.le_refl _⟩ (k_pileFrom (n := n) (wt := -1) (sg := sg) (s := dg3 t) hn (fun c hc => ⟨hs c hc, dg3_lt t c⟩) n 11 0 _ pI lO [] (by omega) (by simp) (by have := lvX_31 (s := dg3 t) hn []; omega) ⟨(by simp (disch := omega) only [hTn, hCr, hFl, hu_s, hu_n]; first | done | assumption | rfl), (by simp (disch := omega) only [hTn, hCr, hFl, hu_s, hu_n]; first | done | assumption | rfl), (by simp (disch := omega) only [hTn, hCr, hFl, hu_s, hu_n]; first | done | assumption | rfl), (by simp (disch := omega) only [hTn, hCr, hFl, hu_s, hu_n]; first | done | assumption | rfl)⟩ (pil_0 hl)) (fun x12 h12 q12 => ?_)
  skip
  obtain ⟨y1, pI', lO', fd', ⟨g0, g1, g2, g3⟩, y3, y4⟩ := q12
  have xf : x12 = false := by
    cases x12 with
    | false => rfl
    | true =>
      obtain ⟨j, j1, j2, -⟩ := y4 rfl
      have := lvX_31 (s := dg3 t) hn []
      exact absurd (j2 ▸ nI_pos' (n := 0 + j) (by omega) : (0 : Int32) ≤ -1) (by decide)
  obtain ⟨rfl, -, -⟩ := y3 xf
  refine z_pop (n := 16) (by decide +kernel) rfl ?_
  refine z_ald0 (n := 17) (by decide +kernel) ?_
  refine z_getf (n := 20) (idx := 28) (by decide +kernel) fl_X1_28 (by first | assumption | (simp (disch := omega) only [hu_s, hu_n]; first | assumption | rfl)) (by rfl) ?_
  refine z_iret (by decide +kernel) rfl (Nat.le_refl _) ?_
  exact ⟨by rw [Nat.zero_add], frm_tr (fun j hj => by simp (disch := omega) only [hu_n]) y1, ⟨_, _, _, g0⟩, ⟨_, g1⟩, ⟨_, g2⟩, ⟨_, g3⟩⟩
theorem k_findWay {G : mG} {h : mH} {A n t i : Nat} (d : Nat) (hd : 12 ≤ d) (hn : n ≤ 8) (hi : i < 2 ^ 31) (H : pnS h A n t) : EV G m_X1_findWay d 0 0 [.ref A, .int (nI i)] h (fun r h' => ∃ x, r = some (.int (bI x)) ∧ (frm h h' A (A + 4) ∧ x = decide (i < (lvX n (dg3 t) n []).length) ∧ ∃ ct wt fd pI lO sg, h' A = oPan A ct wt fd ∧ h' (A + 1) = aI 8 pI ∧ h' (A + 2) = aI 8 lO ∧ h' (A + 3) = aI 8 sg ∧ (x = true → ∀ l, l < n → pI l = nI (((lvX n (dg3 t) n []).getD i []).getD l 0)))) := by
  obtain ⟨wt, fd, pI, lO, sg, ⟨h0, h1, h2, h3⟩, hs, hl⟩ := H
  have b31 := lvX_31 (s := dg3 t) hn []
  refine ev_2_0 rfl rfl (by decide +kernel) (by decide +kernel) ?_
  refine z_ald0 (n := 1) (by decide +kernel) ?_
  refine z_ild1 (n := 2) (by decide +kernel) ?_
  refine z_putf (n := 5) (idx := 25) (ty := .int) (by decide +kernel) fl_X1_25 (by first | assumption | (simp (disch := omega) only [hu_s, hu_n]; first | assumption | rfl)) ⟨_, _, _, rfl, rfl, by decide +kernel⟩ rfl rfl (Nat.le_of_ble_eq_true rfl) ?_
  refine z_ald0 (n := 6) (by decide +kernel) ?_
  refine z_iconst (n := 7) (q := 0) (v := 0) (by decide +kernel) ?_
  refine z_putf (n := 10) (idx := 28) (ty := .int) (by decide +kernel) fl_X1_28 (by first | assumption | (simp (disch := omega) only [hu_s, hu_n]; first | assumption | rfl)) ⟨_, _, _, rfl, rfl, by decide +kernel⟩ rfl rfl (Nat.le_of_ble_eq_true rfl) ?_
  refine z_ald0 (n := 11) (by decide +kernel) ?_
  refine z_iconst (n := 12) (q := 0) (v := 0) (by decide +kernel) ?_
  refine z_g1 (n := 15) (idx := 31) (by decide +kernel) ml_X1_31 (by first | assumption | (simp (disch := omega) only [hu_s, hu_n]; first | assumption | rfl)) rfl (Nat.le_of_ble_eq_true rfl) (by omega) ⟨Nat.le_refl _, Nat.le_refl _⟩ (k_pileFrom (n := n) (wt := nI i) (sg := sg) (s := dg3 t) hn (fun c hc => ⟨hs c hc, dg3_lt t c⟩) n 11 0 _ pI lO [] (by omega) (by simp) (by omega) ⟨(by simp (disch := omega) only [hTn, hCr, hFl, hu_s, hu_n]; first | done | assumption | rfl), (by simp (disch := omega) only [hTn, hCr, hFl, hu_s, hu_n]; first | done | assumption | rfl), (by simp (disch := omega) only [hTn, hCr, hFl, hu_s, hu_n]; first | done | assumption | rfl), (by simp (disch := omega) only [hTn, hCr, hFl, hu_s, hu_n]; first | done | assumption | rfl)⟩ (pil_0 hl)) (fun x12 h12 q12 => ?_)
  skip
  obtain ⟨y1, pI', lO', fd', ⟨g0, g1, g2, g3⟩, y3, y4⟩ := q12
  have F : frm h h12 A (A + 4) := frm_tr (fun j hj => by simp (disch := omega) only [hu_n]) y1
  cases x12 with
  | false =>
    obtain ⟨-, -, z⟩ := y3 rfl
    first | refine z_zr1 (by decide +kernel) rfl (Nat.le_refl _) ?_ | refine z_zr0 (by decide +kernel) rfl (Nat.le_refl _) ?_ | refine z_zrb (by decide +kernel) rfl (Nat.le_refl _) ?_
    exact ⟨false, rfl, F, (decide_eq_false (fun c => z i c (by rw [Nat.zero_add]))).symm, _, _, _, _, _, _, g0, g1, g2, g3, fun z => Bool.noConfusion z⟩
  | true =>
    obtain ⟨j, j1, j2, j3⟩ := y4 rfl
    rw [Nat.zero_add] at j2
    have e : i = j := (nI_ij hi (by omega)).mp j2
    subst e
    first | refine z_zr1 (by decide +kernel) rfl (Nat.le_refl _) ?_ | refine z_zr0 (by decide +kernel) rfl (Nat.le_refl _) ?_ | refine z_zrb (by decide +kernel) rfl (Nat.le_refl _) ?_
    exact ⟨true, rfl, F, (decide_eq_true j1).symm, _, _, _, _, _, _, g0, g1, g2, g3, fun _ => j3⟩
def wayN (L : List (List Nat)) (n t : Nat) (i l : Int32) : Int32 := if t / 3 ^ (n - 1) = 0 then (if i = -1 then nI L.length else if win l 0 (nI (n - 1)) = true then (if i.toNatClampNeg < L.length then nI ((L.getD i.toNatClampNeg []).getD l.toNatClampNeg 0) else -1) else -1) else -1
def wayC (x t i l : Int32) : Int32 := if (win x 2 8 && (!decide (t < 0) && decide (-1 ≤ i))) = true then wayN (lvX x.toNatClampNeg (dg3 t.toNatClampNeg) x.toNatClampNeg []) x.toNatClampNeg t.toNatClampNeg i l else -1
theorem i_ltm {x : Int32} (h : x < 0) : x ≤ -1 := by
  rw [Int32.lt_iff_toInt_lt] at h
  rw [Int32.le_iff_toInt_le]
  have h0 : (0 : Int32).toInt = 0 := rfl
  have h1 : (-1 : Int32).toInt = -1 := rfl
  omega
theorem win_28 {x : Int32} {lo hi : Nat} (h : win x (nI lo) (nI hi) = true) (hl : lo < 2 ^ 31) (hh : hi < 2 ^ 31) : ∃ n, lo ≤ n ∧ n ≤ hi ∧ x = nI n := by
  unfold win at h
  simp only [Bool.and_eq_true, Bool.not_eq_true', decide_eq_false_iff_not] at h
  have h0 : ¬ x < 0 := fun z => h.1 (Int32.lt_of_lt_of_le z (nI_pos' hl))
  obtain ⟨j, hj, rfl⟩ := nI_of h0
  exact ⟨j, (nI_leI hl hj).mp (Int32.not_lt.mp h.1), (nI_leI hj hh).mp (Int32.not_lt.mp h.2), rfl⟩
theorem k_ways {G : mG} {h : mH} {C n : Nat} {p po : pS} {e eo : eS} {y yo : yS} {ln : Nat} {bt : Nat → Int32} {wr : Bool} {fk fp sp : Int32} {x t i l : Int32} (d : Nat) (hd : 13 ≤ d) (hc : clsP h C n p po e eo y yo ln bt wr fk fp sp) : EV G m_X10_ways d 0 0 [.ref C, .int x, .int t, .int i, .int l] h (fun r h' => r = some (.int (wayC x t i l)) ∧ frm h h' C (C + 102) ∧ clsP h' C n p po e eo y yo ln bt wr fk fp sp) := by
  have hc0 := hc
  obtain ⟨q0, q1, q2, q3, q4, q5, q6, q7, q8, q9, q10, q11⟩ := hc
  have q10' := q10
  obtain ⟨⟨ct, wt, fd, e0⟩, ⟨pI, e1⟩, ⟨lO, e2⟩, ⟨sg, e3⟩⟩ := q10'
  refine ev_5_1 rfl rfl rfl rfl rfl (by decide +kernel) (by decide +kernel) ?_
  by_cases c : (win x 2 8 && (!decide (t < 0) && decide (-1 ≤ i))) = true
  · have cc := c
    simp only [Bool.and_eq_true, Bool.not_eq_true', decide_eq_false_iff_not, decide_eq_true_eq] at cc
    obtain ⟨c1, c2, c3⟩ := cc
    obtain ⟨n9, hn2, hn8, rfl⟩ := win_28 (lo := 2) (hi := 8) c1 (by omega) (by omega)
    obtain ⟨t9, ht9, rfl⟩ := nI_of c2
    have ew : wayC (nI n9) (nI t9) i l = wayN (lvX n9 (dg3 t9) n9 []) n9 t9 i l := by unfold wayC; rw [if_pos c, nI_clamp (by omega), nI_clamp (by omega)]
    rw [ew]
    unfold wayN
    refine z_ild1 (n := 1) (by decide +kernel) ?_
    refine z_iconst (n := 2) (q := 2) (v := 2) (by decide +kernel) ?_
    refine z_bipush (n := 4) (q := 8) (v := 8) (by decide +kernel) ?_
    refine z_s3 (n := 7) (idx := 85) (by decide +kernel) ml_X10_85 (Nat.le_of_ble_eq_true rfl) (by omega) ⟨Nat.le_refl _, Nat.le_refl _⟩ (k_isWithin 0) ?_
    refine z_ifb_eq_f (n := 10) (off := 16) (tgt := 23) (by decide +kernel) (c1) ?_
    refine z_ild2 (n := 11) (by decide +kernel) ?_
    refine z_if_lt_f (n := 14) (off := 12) (tgt := 23) (by decide +kernel) (c2) ?_
    refine z_ild3 (n := 15) (by decide +kernel) ?_
    refine z_iconst (n := 16) (q := -1) (v := -1) (by decide +kernel) ?_
    refine z_icmp_lt_f (n := 19) (off := 7) (tgt := 23) (by decide +kernel) (Int32.not_lt.mpr c3) ?_
    refine z_iconst (n := 20) (q := 1) (v := 1) (by decide +kernel) ?_
    refine z_goto (n := 23) (off := 4) (tgt := 24) (by decide +kernel) ?_
    refine z_ist5 (n := 26) (by decide +kernel) rfl ?_
    refine z_ild5 (n := 28) (by decide +kernel) ?_
    refine z_if_eq_f (n := 31) (off := 15) (tgt := 43) (by decide +kernel) (by decide) ?_
    refine z_ald0 (n := 32) (by decide +kernel) ?_
    refine z_getf (n := 35) (idx := 74) (by decide +kernel) fl_X10_74 (by assumption) (by rfl) ?_
    refine z_ild1 (n := 36) (by decide +kernel) ?_
    refine z_ild2 (n := 37) (by decide +kernel) ?_
    refine z_w2 (n := 40) (idx := 248) (by decide +kernel) ml_X10_248 (by assumption) rfl (Nat.le_of_ble_eq_true rfl) (by omega) ⟨Nat.le_refl _, Nat.le_refl _⟩ (k_pnTake (n := n9) (t := t9) 0 hn2 hn8 ht9 q10) (fun h37 q37 => ?_)
    skip
    obtain ⟨f1, S⟩ := q37
    have g0 := (f1 C (by omega)).trans q0
    obtain ⟨wt', fd', pI', lO', sg', H, hs, hl⟩ := S
    have S : pnS h37 (C + 56) n9 t9 := ⟨wt', fd', pI', lO', sg', H, hs, hl⟩
    obtain ⟨u0, u1, u2, u3⟩ := H
    have P1 := cls_pan hc0 f1 ⟨⟨_, _, _, u0⟩, ⟨_, u1⟩, ⟨_, u2⟩, ⟨_, u3⟩⟩
    have F1 : frm h h37 C (C + 102) := fun j hj => f1 j (by omega)
    by_cases ct0 : t9 / 3 ^ (n9 - 1) = 0
    · rw [if_pos ct0]
      by_cases ci : i = -1
      · rw [if_pos ci]
        refine z_ifb_ne_t (n := 43) (off := 5) (tgt := 45) (by decide +kernel) (decide_eq_true ct0) ?_
        refine z_ild3 (n := 46) (by decide +kernel) ?_
        refine z_iconst (n := 47) (q := -1) (v := -1) (by decide +kernel) ?_
        refine z_icmp_ne_f (n := 50) (off := 11) (tgt := 58) (by decide +kernel) (ci) ?_
        refine z_ald0 (n := 51) (by decide +kernel) ?_
        refine z_getf (n := 54) (idx := 74) (by decide +kernel) fl_X10_74 (by assumption) (by rfl) ?_
        refine z_w0 (n := 57) (idx := 250) (by decide +kernel) ml_X10_250 (by assumption) rfl (Nat.le_of_ble_eq_true rfl) (by omega) ⟨Nat.le_refl _, Nat.le_refl _⟩ (k_countWays (n := n9) (t := t9) 12 (by omega) hn8 S) (fun h54 q54 => ?_)
        refine z_iret (by decide +kernel) rfl (Nat.le_refl _) ?_
        exact ⟨rfl, fun j hj => (q54.1 j (by omega)).trans (F1 j hj), cls_pan P1 q54.1 q54.2⟩
      · rw [if_neg ci]
        have hi0 : ¬ i < 0 := fun z => ci (Int32.le_antisymm (i_ltm z) c3)
        obtain ⟨i9, hi9, rfl⟩ := nI_of hi0
        rw [nI_clamp hi9]
        obtain ⟨n8, rfl⟩ : ∃ n8, n9 = n8 + 1 := ⟨n9 - 1, by omega⟩
        rw [Nat.add_sub_cancel]
        by_cases cl : win l 0 (nI n8) = true
        · rw [if_pos cl]
          obtain ⟨l9, hl0, hl9, rfl⟩ := win_28 (lo := 0) (hi := n8) cl (by omega) (by omega)
          rw [nI_clamp (show l9 < 2 ^ 31 by omega)]
          have l8 : l9 < 8 := by omega
          refine z_ifb_ne_t (n := 43) (off := 5) (tgt := 45) (by decide +kernel) (decide_eq_true ct0) ?_
          refine z_ild3 (n := 46) (by decide +kernel) ?_
          refine z_iconst (n := 47) (q := -1) (v := -1) (by decide +kernel) ?_
          refine z_icmp_ne_t (n := 50) (off := 11) (tgt := 58) (by decide +kernel) (ci) ?_
          refine z_ild4 (n := 60) (by decide +kernel) ?_
          refine z_iconst (n := 61) (q := 0) (v := 0) (by decide +kernel) ?_
          refine z_ild1 (n := 62) (by decide +kernel) ?_
          refine z_iconst (n := 63) (q := 1) (v := 1) (by decide +kernel) ?_
          refine z_isub (n := 64) (by decide +kernel) ?_
          refine z_top (nI_pred n8) ?_
          refine z_s3 (n := 67) (idx := 85) (by decide +kernel) ml_X10_85 (Nat.le_of_ble_eq_true rfl) (by omega) ⟨Nat.le_refl _, Nat.le_refl _⟩ (k_isWithin 0) ?_
          refine z_ifb_eq_f (n := 70) (off := 27) (tgt := 94) (by decide +kernel) (cl) ?_
          refine z_ald0 (n := 71) (by decide +kernel) ?_
          refine z_getf (n := 74) (idx := 74) (by decide +kernel) fl_X10_74 (by assumption) (by rfl) ?_
          refine z_ild3 (n := 75) (by decide +kernel) ?_
          refine z_g1 (n := 78) (idx := 254) (by decide +kernel) ml_X10_254 (by assumption) rfl (Nat.le_of_ble_eq_true rfl) (by omega) ⟨Nat.le_refl _, Nat.le_refl _⟩ (k_findWay (n := n8 + 1) (t := t9) (i := i9) 12 (by omega) hn8 hi9 S) (fun x75 h75 q75 => ?_)
          skip
          obtain ⟨f2, ex, ct2, wt2, fd2, pI2, lO2, sg2, v0, v1, v2, v3, v4⟩ := q75
          have w0 := (f2 C (by omega)).trans g0
          have P2 := cls_pan P1 f2 ⟨⟨_, _, _, v0⟩, ⟨_, v1⟩, ⟨_, v2⟩, ⟨_, v3⟩⟩
          have F2 : frm h h75 C (C + 102) := fun j hj => (f2 j (by omega)).trans (F1 j hj)
          cases x75 with
          | false =>
            rw [if_neg (of_decide_eq_false ex.symm)]
            refine z_ifb_eq_t (n := 81) (off := 16) (tgt := 94) (by decide +kernel) (rfl) ?_
            refine z_iconst (n := 95) (q := -1) (v := -1) (by decide +kernel) ?_
            refine z_iret (by decide +kernel) rfl (Nat.le_refl _) ?_
            exact ⟨rfl, F2, P2⟩
          | true =>
            rw [if_pos (of_decide_eq_true ex.symm)]
            refine z_ifb_eq_f (n := 81) (off := 16) (tgt := 94) (by decide +kernel) (rfl) ?_
            refine z_ald0 (n := 82) (by decide +kernel) ?_
            refine z_getf (n := 85) (idx := 74) (by decide +kernel) fl_X10_74 (by assumption) (by rfl) ?_
            refine z_getf (n := 88) (idx := 257) (by decide +kernel) fl_X10_257 (by assumption) (by rfl) ?_
            refine z_ild4 (n := 90) (by decide +kernel) ?_
            refine z_iald (n := 91) (by decide +kernel) (by assumption) (by first | assumption | exact ix_nI (by omega) (by omega)) ?_
            refine z_top (v4 rfl l9 (by omega)) ?_
            refine z_goto (n := 94) (off := 4) (tgt := 95) (by decide +kernel) ?_
            refine z_iret (by decide +kernel) rfl (Nat.le_refl _) ?_
            exact ⟨rfl, F2, P2⟩
        · rw [if_neg cl]
          refine z_ifb_ne_t (n := 43) (off := 5) (tgt := 45) (by decide +kernel) (decide_eq_true ct0) ?_
          refine z_ild3 (n := 46) (by decide +kernel) ?_
          refine z_iconst (n := 47) (q := -1) (v := -1) (by decide +kernel) ?_
          refine z_icmp_ne_t (n := 50) (off := 11) (tgt := 58) (by decide +kernel) (ci) ?_
          refine z_ild4 (n := 60) (by decide +kernel) ?_
          refine z_iconst (n := 61) (q := 0) (v := 0) (by decide +kernel) ?_
          refine z_ild1 (n := 62) (by decide +kernel) ?_
          refine z_iconst (n := 63) (q := 1) (v := 1) (by decide +kernel) ?_
          refine z_isub (n := 64) (by decide +kernel) ?_
          refine z_top (nI_pred n8) ?_
          refine z_s3 (n := 67) (idx := 85) (by decide +kernel) ml_X10_85 (Nat.le_of_ble_eq_true rfl) (by omega) ⟨Nat.le_refl _, Nat.le_refl _⟩ (k_isWithin 0) ?_
          refine z_ifb_eq_t (n := 70) (off := 27) (tgt := 94) (by decide +kernel) (Bool.eq_false_iff.mpr cl) ?_
          refine z_iconst (n := 95) (q := -1) (v := -1) (by decide +kernel) ?_
          refine z_iret (by decide +kernel) rfl (Nat.le_refl _) ?_
          exact ⟨rfl, F1, P1⟩
    · rw [if_neg ct0]
      refine z_ifb_ne_f (n := 43) (off := 5) (tgt := 45) (by decide +kernel) (decide_eq_false ct0) ?_
      refine z_iconst (n := 44) (q := -1) (v := -1) (by decide +kernel) ?_
      refine z_iret (by decide +kernel) rfl (Nat.le_refl _) ?_
      exact ⟨rfl, F1, P1⟩
  · have ew : wayC x t i l = -1 := if_neg c
    rw [ew]
    refine z_ild1 (n := 1) (by decide +kernel) ?_
    refine z_iconst (n := 2) (q := 2) (v := 2) (by decide +kernel) ?_
    refine z_bipush (n := 4) (q := 8) (v := 8) (by decide +kernel) ?_
    refine z_s3 (n := 7) (idx := 85) (by decide +kernel) ml_X10_85 (Nat.le_of_ble_eq_true rfl) (by omega) ⟨Nat.le_refl _, Nat.le_refl _⟩ (k_isWithin 0) ?_
    refine z_ifb_eq (n := 10) (off := 16) (tgt := 23) (by decide +kernel) (fun c7 => ?_) (fun c7 => ?_)
    · refine z_iconst (n := 24) (q := 0) (v := 0) (by decide +kernel) ?_
      refine z_ist5 (n := 26) (by decide +kernel) rfl ?_
      refine z_ild5 (n := 28) (by decide +kernel) ?_
      refine z_if_eq_t (n := 31) (off := 15) (tgt := 43) (by decide +kernel) (rfl) ?_
      refine z_iconst (n := 44) (q := -1) (v := -1) (by decide +kernel) ?_
      refine z_iret (by decide +kernel) rfl (Nat.le_refl _) ?_
      exact ⟨rfl, frm_rf, hc0⟩
    · refine z_ild2 (n := 11) (by decide +kernel) ?_
      refine z_if_lt (n := 14) (off := 12) (tgt := 23) (by decide +kernel) (fun c11 => ?_) (fun c11 => ?_)
      · refine z_iconst (n := 24) (q := 0) (v := 0) (by decide +kernel) ?_
        refine z_ist5 (n := 26) (by decide +kernel) rfl ?_
        refine z_ild5 (n := 28) (by decide +kernel) ?_
        refine z_if_eq_t (n := 31) (off := 15) (tgt := 43) (by decide +kernel) (rfl) ?_
        refine z_iconst (n := 44) (q := -1) (v := -1) (by decide +kernel) ?_
        refine z_iret (by decide +kernel) rfl (Nat.le_refl _) ?_
        exact ⟨rfl, frm_rf, hc0⟩
      · refine z_ild3 (n := 15) (by decide +kernel) ?_
        refine z_iconst (n := 16) (q := -1) (v := -1) (by decide +kernel) ?_
        refine z_icmp_lt (n := 19) (off := 7) (tgt := 23) (by decide +kernel) (fun c16 => ?_) (fun c16 => ?_)
        · refine z_iconst (n := 24) (q := 0) (v := 0) (by decide +kernel) ?_
          refine z_ist5 (n := 26) (by decide +kernel) rfl ?_
          refine z_ild5 (n := 28) (by decide +kernel) ?_
          refine z_if_eq_t (n := 31) (off := 15) (tgt := 43) (by decide +kernel) (rfl) ?_
          refine z_iconst (n := 44) (q := -1) (v := -1) (by decide +kernel) ?_
          refine z_iret (by decide +kernel) rfl (Nat.le_refl _) ?_
          exact ⟨rfl, frm_rf, hc0⟩
        · exact absurd (by simp only [c7, eq_false c11, eq_false c16, decide_false, Bool.not_false, Bool.true_and, decide_eq_true_eq]; exact Int32.not_lt.mp c16) c
