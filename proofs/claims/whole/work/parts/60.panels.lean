/-! Panels: a pile that grows -/
theorem gtD {α : Type} {l : List α} {i : Nat} {x : α} (h : i < l.length) : l.getD i x = l[i] := by simp [List.getD, h]
def anyN (f : Nat → Bool) : Nat → Nat → Bool
  | 0, _ => false
  | m + 1, u => f u || anyN f m (u + 1)
theorem anyN_iff {f : Nat → Bool} : ∀ m u, anyN f m u = true ↔ ∃ l, u ≤ l ∧ l < u + m ∧ f l = true
  | 0, u => by simp [anyN]; intro x h1 h2; omega
  | m + 1, u => by
    rw [anyN, Bool.or_eq_true, anyN_iff m (u + 1)]
    constructor
    · rintro (h | ⟨l, h1, h2, h3⟩)
      · exact ⟨u, Nat.le_refl _, by omega, h⟩
      · exact ⟨l, by omega, by omega, h3⟩
    · rintro ⟨l, h1, h2, h3⟩
      by_cases c : l = u
      · subst c; exact .inl h3
      · exact .inr ⟨l, by omega, by omega, h3⟩
/-- a pile of panels from the lowest on, and the rows that hold it -/
def pil (n : Nat) (pre : List Nat) (pI lO : Nat → Int32) : Prop := (pre.Nodup ∧ pre.length ≤ n) ∧ (∀ p, p ∈ pre → p < n) ∧ (∀ l, l < pre.length → pI l = nI (pre.getD l 0) ∧ lO (pre.getD l 0) = nI l) ∧ ∀ p, p < n → p ∉ pre → lO p = -1
/-- panel p's partner at the side of crease c isn't piled -/
def lnl (n : Nat) (pre : List Nat) (c p : Nat) : Bool := if p % 2 = c % 2 then decide (p + 1 < n) && !decide (p + 1 ∈ pre) else decide (1 ≤ p) && !decide (p - 1 ∈ pre)
def crX (n : Nat) (pre : List Nat) (c fr : Nat) : Bool := anyN (fun l => lnl n pre c (pre.getD l 0)) (pre.length - (fr + 1)) (fr + 1)
def upG (sg : Nat → Nat) (c : Nat) : Bool := decide (sg c = 1) == decide (c % 2 = 0)
def ftX (n : Nat) (sg : Nat → Nat) (pre : List Nat) (c p o : Nat) : Bool := (decide (sg c = 0) || ((decide (o < p) == decide (o ∈ pre)) == upG sg c)) && (!decide (o ∈ pre) || !crX n pre c (pre.idxOf o))
def okX (n : Nat) (sg : Nat → Nat) (pre : List Nat) (p : Nat) : Bool := (decide (p = 0) || ftX n sg pre (p - 1) p (p - 1)) && (decide (p = n - 1) || ftX n sg pre p p (p + 1))
theorem pil_lo {n : Nat} {pre : List Nat} {pI lO : Nat → Int32} (H : pil n pre pI lO) {o : Nat} (ho : o < n) : (o ∈ pre → lO o = nI (pre.idxOf o)) ∧ (o ∉ pre → lO o = -1) := by
  refine ⟨fun z => ?_, H.2.2.2 o ho⟩
  have h1 := List.idxOf_lt_length_of_mem z
  have h2 := (H.2.2.1 _ h1).2
  have h3 : pre.getD (pre.idxOf o) 0 = o := by
    rw [gtD h1]
    exact List.getElem_idxOf h1
  rw [h3] at h2
  exact h2
theorem pil_len {n : Nat} {pre : List Nat} {pI lO : Nat → Int32} (H : pil n pre pI lO) (hn : n ≤ 8) : pre.length ≤ 8 := Nat.le_trans H.1.2 hn
def pnl (h : mH) (A n : Nat) (wt fd : Int32) (pI lO sg : Nat → Int32) : Prop := h A = oPan A (nI n) wt fd ∧ h (A + 1) = aI 8 pI ∧ h (A + 2) = aI 8 lO ∧ h (A + 3) = aI 8 sg
theorem k_isCrossed {G : mG} {h : mH} {A n : Nat} {wt fd : Int32} {pI lO sg : Nat → Int32} {pre : List Nat} {c fr : Nat} (d : Nat) (hc : c < 8) (hf : fr < pre.length) (hn : n ≤ 8) (H : pnl h A n wt fd pI lO sg) (L : pil n pre pI lO) : EV G m_X1_isCrossed d 0 0 [.ref A, .int (nI c), .int (nI fr), .int (nI pre.length)] h (RE (some (.int (bI (crX n pre c fr)))) h) := by
  have hl := pil_len L hn
  obtain ⟨h0, h1, h2, h3⟩ := H
  refine ev_4_3 rfl rfl rfl rfl (by decide +kernel) (by decide +kernel) ?_
  refine z_ild2 (n := 1) (by decide +kernel) ?_
  refine z_iconst (n := 2) (q := 1) (v := 1) (by decide +kernel) ?_
  refine z_iadd (n := 3) (by decide +kernel) ?_
  refine z_top (nI_1 _) ?_
  refine z_ist4 (n := 5) (by decide +kernel) rfl ?_
  skip
  have lp : ∀ w u, u + w = pre.length → Z G m_X1_isCrossed d 0 0 0 0 5 [some (.ref A), some (.int (nI c)), some (.int (nI fr)), some (.int (nI pre.length)), some (.int (nI u)), none, none] [] h (RE (some (.int (bI (anyN (fun l => lnl n pre c (pre.getD l 0)) w u)))) h) := by
    intro w
    induction w with
    | zero =>
      intro u hw
      refine z_ild4 (n := 7) (by decide +kernel) ?_
      refine z_ild3 (n := 8) (by decide +kernel) ?_
      refine z_icmp_ge_t (n := 11) (off := 68) (tgt := 76) (by decide +kernel) (by rw [show u = pre.length by omega]; exact Int32.le_refl _) ?_
      refine z_iconst (n := 77) (q := 0) (v := 0) (by decide +kernel) ?_
      first | refine z_zr1 (by decide +kernel) rfl (Nat.le_refl _) ?_ | refine z_zr0 (by decide +kernel) rfl (Nat.le_refl _) ?_ | refine z_zrb (by decide +kernel) rfl (Nat.le_refl _) ?_
      exact ⟨rfl, rfl⟩
    | succ w ih =>
      intro u hw
      have hu8 : u < 8 := by omega
      obtain ⟨e1, e2⟩ := L.2.2.1 u (by omega)
      generalize ep : pre.getD u 0 = p at e1 e2
      have hp : p < n := by
        rw [← ep, gtD (show u < pre.length by omega)]
        exact L.2.1 _ (List.getElem_mem _)
      rw [anyN]
      simp only [ep]
      have nx : lnl n pre c p = false → Z G m_X1_isCrossed d 0 0 0 0 70 [some (.ref A), some (.int (nI c)), some (.int (nI fr)), some (.int (nI pre.length)), some (.int (nI u)), none, none] [] h (RE (some (.int (bI (lnl n pre c p || anyN (fun l => lnl n pre c (pre.getD l 0)) w (u + 1))))) h) := by
        intro z
        rw [z, Bool.false_or]
        refine z_inc4 (n := 73) (q := 1) (by decide +kernel) rfl (nI_1 _) ?_
        refine z_goto (n := 76) (off := -68) (tgt := 5) (by decide +kernel) ?_
        exact ih (u + 1) (by omega)
      by_cases cp : p % 2 = c % 2
      · by_cases cn : p + 1 < n
        · have hp8 : p + 1 < 8 := by omega
          obtain ⟨q1, q2⟩ := pil_lo L cn
          have el : lnl n pre c p = !decide (p + 1 ∈ pre) := by unfold lnl; rw [if_pos cp, decide_eq_true cn, Bool.true_and]
          by_cases ci : p + 1 ∈ pre
          · have := List.idxOf_lt_length_of_mem ci
            refine z_ild4 (n := 7) (by decide +kernel) ?_
            refine z_ild3 (n := 8) (by decide +kernel) ?_
            refine z_icmp_ge_f (n := 11) (off := 68) (tgt := 76) (by decide +kernel) (nI_ge (by omega) (by omega)) ?_
            refine z_ald0 (n := 12) (by decide +kernel) ?_
            refine z_getf (n := 15) (idx := 11) (by decide +kernel) fl_X1_11 (by assumption) (by rfl) ?_
            refine z_ild4 (n := 17) (by decide +kernel) ?_
            refine z_iald (n := 18) (by decide +kernel) (by assumption) (by first | assumption | exact ix_nI (by omega) (by omega)) ?_
            refine z_top e1 ?_
            refine z_ist5 (n := 20) (by decide +kernel) rfl ?_
            refine z_ild5 (n := 22) (by decide +kernel) ?_
            refine z_iconst (n := 23) (q := 2) (v := 2) (by decide +kernel) ?_
            refine z_irem (n := 24) (by decide +kernel) (by decide) ?_
            refine z_top (pk_rem (d := 2) (by omega) (by omega) (by omega)) ?_
            refine z_ild1 (n := 25) (by decide +kernel) ?_
            refine z_iconst (n := 26) (q := 2) (v := 2) (by decide +kernel) ?_
            refine z_irem (n := 27) (by decide +kernel) (by decide) ?_
            refine z_top (pk_rem (d := 2) (by omega) (by omega) (by omega)) ?_
            refine z_icmp_ne_f (n := 30) (off := 10) (tgt := 37) (by decide +kernel) (by rw [cp]) ?_
            refine z_ild5 (n := 32) (by decide +kernel) ?_
            refine z_iconst (n := 33) (q := 1) (v := 1) (by decide +kernel) ?_
            refine z_iadd (n := 34) (by decide +kernel) ?_
            refine z_top (nI_1 _) ?_
            refine z_goto (n := 37) (off := 7) (tgt := 41) (by decide +kernel) ?_
            refine z_ist6 (n := 43) (by decide +kernel) rfl ?_
            refine z_ild6 (n := 45) (by decide +kernel) ?_
            refine z_if_lt_f (n := 48) (off := 25) (tgt := 70) (by decide +kernel) (nI_pos (by omega)) ?_
            refine z_ild6 (n := 50) (by decide +kernel) ?_
            refine z_ald0 (n := 51) (by decide +kernel) ?_
            refine z_getf (n := 54) (idx := 21) (by decide +kernel) fl_X1_21 (by assumption) (by rfl) ?_
            refine z_icmp_ge_f (n := 57) (off := 16) (tgt := 70) (by decide +kernel) (nI_ge (by omega) (by omega)) ?_
            refine z_ald0 (n := 58) (by decide +kernel) ?_
            refine z_getf (n := 61) (idx := 15) (by decide +kernel) fl_X1_15 (by assumption) (by rfl) ?_
            refine z_ild6 (n := 63) (by decide +kernel) ?_
            refine z_iald (n := 64) (by decide +kernel) (by assumption) (by first | assumption | exact ix_nI (by omega) (by omega)) ?_
            refine z_top (q1 ci) ?_
            refine z_iconst (n := 65) (q := -1) (v := -1) (by decide +kernel) ?_
            refine z_icmp_ne_t (n := 68) (off := 5) (tgt := 70) (by decide +kernel) (fun z => absurd (z ▸ nI_pos' (n := pre.idxOf (p + 1)) (by omega) : (0 : Int32) ≤ -1) (by decide)) ?_
            exact z_wk (lv' := [some (.ref A), some (.int (nI c)), some (.int (nI fr)), some (.int (nI pre.length)), some (.int (nI u)), none, none]) (by simp [wk]) (nx (by rw [el, decide_eq_true ci]; rfl))
          · refine z_ild4 (n := 7) (by decide +kernel) ?_
            refine z_ild3 (n := 8) (by decide +kernel) ?_
            refine z_icmp_ge_f (n := 11) (off := 68) (tgt := 76) (by decide +kernel) (nI_ge (by omega) (by omega)) ?_
            refine z_ald0 (n := 12) (by decide +kernel) ?_
            refine z_getf (n := 15) (idx := 11) (by decide +kernel) fl_X1_11 (by assumption) (by rfl) ?_
            refine z_ild4 (n := 17) (by decide +kernel) ?_
            refine z_iald (n := 18) (by decide +kernel) (by assumption) (by first | assumption | exact ix_nI (by omega) (by omega)) ?_
            refine z_top e1 ?_
            refine z_ist5 (n := 20) (by decide +kernel) rfl ?_
            refine z_ild5 (n := 22) (by decide +kernel) ?_
            refine z_iconst (n := 23) (q := 2) (v := 2) (by decide +kernel) ?_
            refine z_irem (n := 24) (by decide +kernel) (by decide) ?_
            refine z_top (pk_rem (d := 2) (by omega) (by omega) (by omega)) ?_
            refine z_ild1 (n := 25) (by decide +kernel) ?_
            refine z_iconst (n := 26) (q := 2) (v := 2) (by decide +kernel) ?_
            refine z_irem (n := 27) (by decide +kernel) (by decide) ?_
            refine z_top (pk_rem (d := 2) (by omega) (by omega) (by omega)) ?_
            refine z_icmp_ne_f (n := 30) (off := 10) (tgt := 37) (by decide +kernel) (by rw [cp]) ?_
            refine z_ild5 (n := 32) (by decide +kernel) ?_
            refine z_iconst (n := 33) (q := 1) (v := 1) (by decide +kernel) ?_
            refine z_iadd (n := 34) (by decide +kernel) ?_
            refine z_top (nI_1 _) ?_
            refine z_goto (n := 37) (off := 7) (tgt := 41) (by decide +kernel) ?_
            refine z_ist6 (n := 43) (by decide +kernel) rfl ?_
            refine z_ild6 (n := 45) (by decide +kernel) ?_
            refine z_if_lt_f (n := 48) (off := 25) (tgt := 70) (by decide +kernel) (nI_pos (by omega)) ?_
            refine z_ild6 (n := 50) (by decide +kernel) ?_
            refine z_ald0 (n := 51) (by decide +kernel) ?_
            refine z_getf (n := 54) (idx := 21) (by decide +kernel) fl_X1_21 (by assumption) (by rfl) ?_
            refine z_icmp_ge_f (n := 57) (off := 16) (tgt := 70) (by decide +kernel) (nI_ge (by omega) (by omega)) ?_
            refine z_ald0 (n := 58) (by decide +kernel) ?_
            refine z_getf (n := 61) (idx := 15) (by decide +kernel) fl_X1_15 (by assumption) (by rfl) ?_
            refine z_ild6 (n := 63) (by decide +kernel) ?_
            refine z_iald (n := 64) (by decide +kernel) (by assumption) (by first | assumption | exact ix_nI (by omega) (by omega)) ?_
            refine z_top (q2 ci) ?_
            refine z_iconst (n := 65) (q := -1) (v := -1) (by decide +kernel) ?_
            refine z_icmp_ne_f (n := 68) (off := 5) (tgt := 70) (by decide +kernel) (rfl) ?_
            refine z_iconst (n := 69) (q := 1) (v := 1) (by decide +kernel) ?_
            first | refine z_zr1 (by decide +kernel) rfl (Nat.le_refl _) ?_ | refine z_zr0 (by decide +kernel) rfl (Nat.le_refl _) ?_ | refine z_zrb (by decide +kernel) rfl (Nat.le_refl _) ?_
            exact ⟨by rw [el, decide_eq_false ci]; rfl, rfl⟩
        · refine z_ild4 (n := 7) (by decide +kernel) ?_
          refine z_ild3 (n := 8) (by decide +kernel) ?_
          refine z_icmp_ge_f (n := 11) (off := 68) (tgt := 76) (by decide +kernel) (nI_ge (by omega) (by omega)) ?_
          refine z_ald0 (n := 12) (by decide +kernel) ?_
          refine z_getf (n := 15) (idx := 11) (by decide +kernel) fl_X1_11 (by assumption) (by rfl) ?_
          refine z_ild4 (n := 17) (by decide +kernel) ?_
          refine z_iald (n := 18) (by decide +kernel) (by assumption) (by first | assumption | exact ix_nI (by omega) (by omega)) ?_
          refine z_top e1 ?_
          refine z_ist5 (n := 20) (by decide +kernel) rfl ?_
          refine z_ild5 (n := 22) (by decide +kernel) ?_
          refine z_iconst (n := 23) (q := 2) (v := 2) (by decide +kernel) ?_
          refine z_irem (n := 24) (by decide +kernel) (by decide) ?_
          refine z_top (pk_rem (d := 2) (by omega) (by omega) (by omega)) ?_
          refine z_ild1 (n := 25) (by decide +kernel) ?_
          refine z_iconst (n := 26) (q := 2) (v := 2) (by decide +kernel) ?_
          refine z_irem (n := 27) (by decide +kernel) (by decide) ?_
          refine z_top (pk_rem (d := 2) (by omega) (by omega) (by omega)) ?_
          refine z_icmp_ne_f (n := 30) (off := 10) (tgt := 37) (by decide +kernel) (by rw [cp]) ?_
          refine z_ild5 (n := 32) (by decide +kernel) ?_
          refine z_iconst (n := 33) (q := 1) (v := 1) (by decide +kernel) ?_
          refine z_iadd (n := 34) (by decide +kernel) ?_
          refine z_top (nI_1 _) ?_
          refine z_goto (n := 37) (off := 7) (tgt := 41) (by decide +kernel) ?_
          refine z_ist6 (n := 43) (by decide +kernel) rfl ?_
          refine z_ild6 (n := 45) (by decide +kernel) ?_
          refine z_if_lt_f (n := 48) (off := 25) (tgt := 70) (by decide +kernel) (nI_pos (by omega)) ?_
          refine z_ild6 (n := 50) (by decide +kernel) ?_
          refine z_ald0 (n := 51) (by decide +kernel) ?_
          refine z_getf (n := 54) (idx := 21) (by decide +kernel) fl_X1_21 (by assumption) (by rfl) ?_
          refine z_icmp_ge_t (n := 57) (off := 16) (tgt := 70) (by decide +kernel) (nI_le (by omega) (by omega)) ?_
          exact z_wk (lv' := [some (.ref A), some (.int (nI c)), some (.int (nI fr)), some (.int (nI pre.length)), some (.int (nI u)), none, none]) (by simp [wk]) (nx (by unfold lnl; rw [if_pos cp, decide_eq_false cn]; rfl))
      · cases p with
        | zero =>
          refine z_ild4 (n := 7) (by decide +kernel) ?_
          refine z_ild3 (n := 8) (by decide +kernel) ?_
          refine z_icmp_ge_f (n := 11) (off := 68) (tgt := 76) (by decide +kernel) (nI_ge (by omega) (by omega)) ?_
          refine z_ald0 (n := 12) (by decide +kernel) ?_
          refine z_getf (n := 15) (idx := 11) (by decide +kernel) fl_X1_11 (by assumption) (by rfl) ?_
          refine z_ild4 (n := 17) (by decide +kernel) ?_
          refine z_iald (n := 18) (by decide +kernel) (by assumption) (by first | assumption | exact ix_nI (by omega) (by omega)) ?_
          refine z_top e1 ?_
          refine z_ist5 (n := 20) (by decide +kernel) rfl ?_
          refine z_ild5 (n := 22) (by decide +kernel) ?_
          refine z_iconst (n := 23) (q := 2) (v := 2) (by decide +kernel) ?_
          refine z_irem (n := 24) (by decide +kernel) (by decide) ?_
          refine z_top (pk_rem (d := 2) (by omega) (by omega) (by omega)) ?_
          refine z_ild1 (n := 25) (by decide +kernel) ?_
          refine z_iconst (n := 26) (q := 2) (v := 2) (by decide +kernel) ?_
          refine z_irem (n := 27) (by decide +kernel) (by decide) ?_
          refine z_top (pk_rem (d := 2) (by omega) (by omega) (by omega)) ?_
          refine z_icmp_ne_t (n := 30) (off := 10) (tgt := 37) (by decide +kernel) (fun z => cp ((nI_ij (by omega) (by omega)).mp z)) ?_
          refine z_ild5 (n := 39) (by decide +kernel) ?_
          refine z_iconst (n := 40) (q := 1) (v := 1) (by decide +kernel) ?_
          refine z_isub (n := 41) (by decide +kernel) ?_
          refine z_top (show nI 0 - 1 = -1 from rfl) ?_
          refine z_ist6 (n := 43) (by decide +kernel) rfl ?_
          refine z_ild6 (n := 45) (by decide +kernel) ?_
          refine z_if_lt_t (n := 48) (off := 25) (tgt := 70) (by decide +kernel) (by decide) ?_
          exact z_wk (lv' := [some (.ref A), some (.int (nI c)), some (.int (nI fr)), some (.int (nI pre.length)), some (.int (nI u)), none, none]) (by simp [wk]) (nx (by unfold lnl; rw [if_neg cp]; rfl))
        | succ p =>
          have hp8 : p < 8 := by omega
          obtain ⟨q1, q2⟩ := pil_lo L (show p < n by omega)
          have el : lnl n pre c (p + 1) = !decide (p ∈ pre) := by unfold lnl; rw [if_neg cp, decide_eq_true (by omega), Bool.true_and, Nat.add_sub_cancel]
          by_cases ci : p ∈ pre
          · have := List.idxOf_lt_length_of_mem ci
            refine z_ild4 (n := 7) (by decide +kernel) ?_
            refine z_ild3 (n := 8) (by decide +kernel) ?_
            refine z_icmp_ge_f (n := 11) (off := 68) (tgt := 76) (by decide +kernel) (nI_ge (by omega) (by omega)) ?_
            refine z_ald0 (n := 12) (by decide +kernel) ?_
            refine z_getf (n := 15) (idx := 11) (by decide +kernel) fl_X1_11 (by assumption) (by rfl) ?_
            refine z_ild4 (n := 17) (by decide +kernel) ?_
            refine z_iald (n := 18) (by decide +kernel) (by assumption) (by first | assumption | exact ix_nI (by omega) (by omega)) ?_
            refine z_top e1 ?_
            refine z_ist5 (n := 20) (by decide +kernel) rfl ?_
            refine z_ild5 (n := 22) (by decide +kernel) ?_
            refine z_iconst (n := 23) (q := 2) (v := 2) (by decide +kernel) ?_
            refine z_irem (n := 24) (by decide +kernel) (by decide) ?_
            refine z_top (pk_rem (d := 2) (by omega) (by omega) (by omega)) ?_
            refine z_ild1 (n := 25) (by decide +kernel) ?_
            refine z_iconst (n := 26) (q := 2) (v := 2) (by decide +kernel) ?_
            refine z_irem (n := 27) (by decide +kernel) (by decide) ?_
            refine z_top (pk_rem (d := 2) (by omega) (by omega) (by omega)) ?_
            refine z_icmp_ne_t (n := 30) (off := 10) (tgt := 37) (by decide +kernel) (fun z => cp ((nI_ij (by omega) (by omega)).mp z)) ?_
            refine z_ild5 (n := 39) (by decide +kernel) ?_
            refine z_iconst (n := 40) (q := 1) (v := 1) (by decide +kernel) ?_
            refine z_isub (n := 41) (by decide +kernel) ?_
            refine z_top (nI_pred p) ?_
            refine z_ist6 (n := 43) (by decide +kernel) rfl ?_
            refine z_ild6 (n := 45) (by decide +kernel) ?_
            refine z_if_lt_f (n := 48) (off := 25) (tgt := 70) (by decide +kernel) (nI_pos (by omega)) ?_
            refine z_ild6 (n := 50) (by decide +kernel) ?_
            refine z_ald0 (n := 51) (by decide +kernel) ?_
            refine z_getf (n := 54) (idx := 21) (by decide +kernel) fl_X1_21 (by assumption) (by rfl) ?_
            refine z_icmp_ge_f (n := 57) (off := 16) (tgt := 70) (by decide +kernel) (nI_ge (by omega) (by omega)) ?_
            refine z_ald0 (n := 58) (by decide +kernel) ?_
            refine z_getf (n := 61) (idx := 15) (by decide +kernel) fl_X1_15 (by assumption) (by rfl) ?_
            refine z_ild6 (n := 63) (by decide +kernel) ?_
            refine z_iald (n := 64) (by decide +kernel) (by assumption) (by first | assumption | exact ix_nI (by omega) (by omega)) ?_
            refine z_top (q1 ci) ?_
            refine z_iconst (n := 65) (q := -1) (v := -1) (by decide +kernel) ?_
            refine z_icmp_ne_t (n := 68) (off := 5) (tgt := 70) (by decide +kernel) (fun z => absurd (z ▸ nI_pos' (n := pre.idxOf p) (by omega) : (0 : Int32) ≤ -1) (by decide)) ?_
            exact z_wk (lv' := [some (.ref A), some (.int (nI c)), some (.int (nI fr)), some (.int (nI pre.length)), some (.int (nI u)), none, none]) (by simp [wk]) (nx (by rw [el, decide_eq_true ci]; rfl))
          · refine z_ild4 (n := 7) (by decide +kernel) ?_
            refine z_ild3 (n := 8) (by decide +kernel) ?_
            refine z_icmp_ge_f (n := 11) (off := 68) (tgt := 76) (by decide +kernel) (nI_ge (by omega) (by omega)) ?_
            refine z_ald0 (n := 12) (by decide +kernel) ?_
            refine z_getf (n := 15) (idx := 11) (by decide +kernel) fl_X1_11 (by assumption) (by rfl) ?_
            refine z_ild4 (n := 17) (by decide +kernel) ?_
            refine z_iald (n := 18) (by decide +kernel) (by assumption) (by first | assumption | exact ix_nI (by omega) (by omega)) ?_
            refine z_top e1 ?_
            refine z_ist5 (n := 20) (by decide +kernel) rfl ?_
            refine z_ild5 (n := 22) (by decide +kernel) ?_
            refine z_iconst (n := 23) (q := 2) (v := 2) (by decide +kernel) ?_
            refine z_irem (n := 24) (by decide +kernel) (by decide) ?_
            refine z_top (pk_rem (d := 2) (by omega) (by omega) (by omega)) ?_
            refine z_ild1 (n := 25) (by decide +kernel) ?_
            refine z_iconst (n := 26) (q := 2) (v := 2) (by decide +kernel) ?_
            refine z_irem (n := 27) (by decide +kernel) (by decide) ?_
            refine z_top (pk_rem (d := 2) (by omega) (by omega) (by omega)) ?_
            refine z_icmp_ne_t (n := 30) (off := 10) (tgt := 37) (by decide +kernel) (fun z => cp ((nI_ij (by omega) (by omega)).mp z)) ?_
            refine z_ild5 (n := 39) (by decide +kernel) ?_
            refine z_iconst (n := 40) (q := 1) (v := 1) (by decide +kernel) ?_
            refine z_isub (n := 41) (by decide +kernel) ?_
            refine z_top (nI_pred p) ?_
            refine z_ist6 (n := 43) (by decide +kernel) rfl ?_
            refine z_ild6 (n := 45) (by decide +kernel) ?_
            refine z_if_lt_f (n := 48) (off := 25) (tgt := 70) (by decide +kernel) (nI_pos (by omega)) ?_
            refine z_ild6 (n := 50) (by decide +kernel) ?_
            refine z_ald0 (n := 51) (by decide +kernel) ?_
            refine z_getf (n := 54) (idx := 21) (by decide +kernel) fl_X1_21 (by assumption) (by rfl) ?_
            refine z_icmp_ge_f (n := 57) (off := 16) (tgt := 70) (by decide +kernel) (nI_ge (by omega) (by omega)) ?_
            refine z_ald0 (n := 58) (by decide +kernel) ?_
            refine z_getf (n := 61) (idx := 15) (by decide +kernel) fl_X1_15 (by assumption) (by rfl) ?_
            refine z_ild6 (n := 63) (by decide +kernel) ?_
            refine z_iald (n := 64) (by decide +kernel) (by assumption) (by first | assumption | exact ix_nI (by omega) (by omega)) ?_
            refine z_top (q2 ci) ?_
            refine z_iconst (n := 65) (q := -1) (v := -1) (by decide +kernel) ?_
            refine z_icmp_ne_f (n := 68) (off := 5) (tgt := 70) (by decide +kernel) (rfl) ?_
            refine z_iconst (n := 69) (q := 1) (v := 1) (by decide +kernel) ?_
            first | refine z_zr1 (by decide +kernel) rfl (Nat.le_refl _) ?_ | refine z_zr0 (by decide +kernel) rfl (Nat.le_refl _) ?_ | refine z_zrb (by decide +kernel) rfl (Nat.le_refl _) ?_
            exact ⟨by rw [el, decide_eq_false ci]; rfl, rfl⟩
  exact lp (pre.length - (fr + 1)) (fr + 1) (by omega)
