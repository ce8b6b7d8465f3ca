/-! Text: ranges of DOs -/
theorem mx_nI {a b : Nat} (h : a ≤ b) (hb : b < 2 ^ 31) : (if nI a < nI b then nI b else nI a) = nI b := by
  by_cases c : a = b
  · rw [c]; split <;> rfl
  · rw [if_pos (nI_lt (by omega) hb)]
/-- the head of doRange's loop -/
def dRg (G : mG) (X B n : Nat) (ds dp : Int32) (vb nu fb bh oa : Nat → Int32) (tr : Nat → Bool) (r k to : Nat) (l : List Nat) : Prop := to ≤ 40 → k ≤ to ∧ ∀ (dd9 lev dn : Nat) (fr : Int32) (h0 h : mH) (p : pS), eFr h0 h X B → 2 * r + 5 ≤ dd9 → lev + r = 4 → dn ≤ 300 → eSt h X B n ds dp vb nu fb bh oa tr (-1) dn p → Z G m_X9_doRange dd9 0 0 0 0 3 [some (.ref X), some (.ref B), some (.int fr), some (.int (nI to)), some (.int (nI lev)), some (.int (nI k))] [] h (fun res h' => ∃ x, res = some (.int (bI x)) ∧ ePo h0 h' X B n ds dp vb nu fb bh oa tr (exL (actP n vb nu tr) l dn p) x)
theorem ePo_tr {h h1 h' : mH} {X B n : Nat} {ds dp : Int32} {vb nu fb bh oa : Nat → Int32} {tr : Nat → Bool} {r : Option Nat × Nat × pS} {x : Bool} (f : eFr h h1 X B) (p : ePo h1 h' X B n ds dp vb nu fb bh oa tr r x) : ePo h h' X B n ds dp vb nu fb bh oa tr r x := ⟨p.1, eFr_tr f p.2.1, p.2.2⟩
theorem o_none {α β : Type} {r : Option α × β} (h : r.1.isNone = true) : r = (none, r.2) := by
  obtain ⟨a, b⟩ := r
  cases a with
  | none => rfl
  | some i => cases h
theorem o_some {α β : Type} {r : Option α × β} (h : r.1.isNone = false) : ∃ j, r = (some j, r.2) := by
  obtain ⟨a, b⟩ := r
  cases a with
  | none => cases h
  | some i => exact ⟨i, rfl⟩
theorem k_rangeOf {G : mG} {X B n : Nat} {ds dp : Int32} {vb nu fb bh oa : Nat → Int32} {tr : Nat → Bool} {r k to : Nat} {l : List Nat} (H : dRg G X B n ds dp vb nu fb bh oa tr r k to l) (hto : to ≤ 40) (dd9 lev dn : Nat) (h : mH) (p : pS) (hd : 2 * r + 5 ≤ dd9) (hl : lev + r = 4) (hdn : dn ≤ 300) (S : eSt h X B n ds dp vb nu fb bh oa tr (-1) dn p) : EV G m_X9_doRange dd9 0 0 [.ref X, .ref B, .int (nI k), .int (nI to), .int (nI lev)] h (fun res h' => ∃ x, res = some (.int (bI x)) ∧ ePo h h' X B n ds dp vb nu fb bh oa tr (exL (actP n vb nu tr) l dn p) x) := by
  refine ev_5_1 rfl rfl rfl rfl rfl (by decide +kernel) (by decide +kernel) ?_
  refine z_ild2 (n := 1) (by decide +kernel) ?_
  refine z_ist5 (n := 3) (by decide +kernel) rfl ?_
  exact (H hto).2 dd9 lev dn _ h h p eFr_rf hd hl hdn S
theorem k_doAgain {G : mG} {X B n : Nat} {ds dp : Int32} {vb nu fb bh oa : Nat → Int32} {tr : Nat → Bool} {r k b N : Nat} {l1 : List Nat} (hXB : B + 13 ≤ X) (H : dRg G X B n ds dp vb nu fb bh oa tr r (k + 1) b l1) (FLn : (∀ i, k + 1 ≤ i → i < b → vb i = 3) → l1 = []) (hb : b ≤ 40) (hkb : k < b) (hbh : bh k = nI b) (hN : nu k = nI N) (hN5 : N ≤ 50) (dd9 lev dn : Nat) (h : mH) (p : pS) (hd : 2 * r + 6 ≤ dd9) (hl : lev + (r + 1) = 4) (hdn : dn ≤ 300) (S : eSt h X B n ds dp vb nu fb bh oa tr (-1) dn p) : EV G m_X9_doAgain dd9 0 0 [.ref X, .ref B, .int (nI k), .int (nI lev)] h (fun res h' => ∃ x, res = some (.int (bI x)) ∧ ePo h h' X B n ds dp vb nu fb bh oa tr (exL (actP n vb nu tr) (List.replicate N l1).flatten dn p) x) := by
  have S' := S
  obtain ⟨⟨h2, h3, h4, h5, h6, h7, h8⟩, hp⟩ := S
  have hkb40 : k < 40 := by omega
  refine ev_4_1 rfl rfl rfl rfl (by decide +kernel) (by decide +kernel) ?_
  refine z_ild3 (n := 1) (by decide +kernel) ?_
  refine z_iconst (n := 2) (q := 4) (v := 4) (by decide +kernel) ?_
  refine z_icmp_ge_f (n := 5) (off := 19) (tgt := 21) (by decide +kernel) (nI_ge (b := 4) (by omega) (by omega)) ?_
  refine z_ald0 (n := 6) (by decide +kernel) ?_
  refine z_ild2 (n := 7) (by decide +kernel) ?_
  refine z_iconst (n := 8) (q := 1) (v := 1) (by decide +kernel) ?_
  refine z_iadd (n := 9) (by decide +kernel) ?_
  refine z_top (nI_1 _) ?_
  refine z_ald0 (n := 10) (by decide +kernel) ?_
  refine z_getf (n := 13) (idx := 32) (by decide +kernel) fl_X9_32 (by assumption) (by rfl) ?_
  refine z_ild2 (n := 14) (by decide +kernel) ?_
  refine z_iald (n := 15) (by decide +kernel) (by assumption) (by first | assumption | exact ix_nI (by omega) (by omega) | exact ix_of (by simp only [n_0, n_1, n_2, n_3, n_4, n_5, n_6, n_7, n_8, n_10, n_50, n_90, n_130, n_370, n_570, nI_add, pk_mul]; rfl) (by omega) (by omega)) ?_
  refine z_top hbh ?_
  refine z_v2 (n := 18) (idx := 137) (by decide +kernel) ml_X9_137 (by assumption) rfl (Nat.le_of_ble_eq_true rfl) (by omega) ⟨Nat.le_refl _, Nat.le_refl _⟩ (k_hasAct (a := k + 1) (b := b) 0 hb (by omega) h2 h3) ?_
  skip
  by_cases c : anyA vb (k + 1) (b - (k + 1)) = false
  · have e1 := FLn (fun i a b9 => anyA_f _ _ c i a (by omega))
    refine z_ifb_ne_f (n := 21) (off := 5) (tgt := 23) (by decide +kernel) (c) ?_
    refine z_iconst (n := 22) (q := 1) (v := 1) (by decide +kernel) ?_
    first | refine z_zr1 (by decide +kernel) rfl (Nat.le_refl _) ?_ | refine z_zr0 (by decide +kernel) rfl (Nat.le_refl _) ?_ | refine z_zrb (by decide +kernel) rfl (Nat.le_refl _) ?_
    exact ⟨true, rfl, by rw [e1, flat_nil]; exact ⟨rfl, eFr_rf, S'⟩⟩
  refine z_ifb_ne_t (n := 21) (off := 5) (tgt := 23) (by decide +kernel) (by simpa using c) ?_
  refine z_iconst (n := 24) (q := 0) (v := 0) (by decide +kernel) ?_
  refine z_ist4 (n := 26) (by decide +kernel) rfl ?_
  skip
  have lp : ∀ m j, j + m = N → ∀ (dn : Nat) (h1 : mH) (p : pS), eFr h h1 X B → dn ≤ 300 → eSt h1 X B n ds dp vb nu fb bh oa tr (-1) dn p → Z G m_X9_doAgain dd9 0 0 0 0 26 [some (.ref X), some (.ref B), some (.int (nI k)), some (.int (nI lev)), some (.int (nI j))] [] h1 (fun res h' => ∃ x, res = some (.int (bI x)) ∧ ePo h h' X B n ds dp vb nu fb bh oa tr (exL (actP n vb nu tr) (List.replicate m l1).flatten dn p) x) := by
    intro m
    induction m with
    | zero =>
      intro j hj dn h1 p F0 hdn S
      have S' := S
      obtain ⟨⟨h2, h3, h4, h5, h6, h7, h8⟩, hp⟩ := S
      refine z_ild4 (n := 28) (by decide +kernel) ?_
      refine z_ald0 (n := 29) (by decide +kernel) ?_
      refine z_getf (n := 32) (idx := 22) (by decide +kernel) fl_X9_22 (by assumption) (by rfl) ?_
      refine z_ild2 (n := 33) (by decide +kernel) ?_
      refine z_iald (n := 34) (by decide +kernel) (by assumption) (by first | assumption | exact ix_nI (by omega) (by omega) | exact ix_of (by simp only [n_0, n_1, n_2, n_3, n_4, n_5, n_6, n_7, n_8, n_10, n_50, n_90, n_130, n_370, n_570, nI_add, pk_mul]; rfl) (by omega) (by omega)) ?_
      refine z_top hN ?_
      refine z_icmp_ge_t (n := 37) (off := 31) (tgt := 65) (by decide +kernel) (by rw [show j = N by omega]; exact Int32.le_refl _) ?_
      refine z_iconst (n := 66) (q := 1) (v := 1) (by decide +kernel) ?_
      first | refine z_zr1 (by decide +kernel) rfl (Nat.le_refl _) ?_ | refine z_zr0 (by decide +kernel) rfl (Nat.le_refl _) ?_ | refine z_zrb (by decide +kernel) rfl (Nat.le_refl _) ?_
      exact ⟨true, rfl, rfl, F0, S'⟩
    | succ m ih =>
      intro j hj dn h1 p F0 hdn S
      have S' := S
      obtain ⟨⟨h2, h3, h4, h5, h6, h7, h8⟩, hp⟩ := S
      refine z_ild4 (n := 28) (by decide +kernel) ?_
      refine z_ald0 (n := 29) (by decide +kernel) ?_
      refine z_getf (n := 32) (idx := 22) (by decide +kernel) fl_X9_22 (by assumption) (by rfl) ?_
      refine z_ild2 (n := 33) (by decide +kernel) ?_
      refine z_iald (n := 34) (by decide +kernel) (by assumption) (by first | assumption | exact ix_nI (by omega) (by omega) | exact ix_of (by simp only [n_0, n_1, n_2, n_3, n_4, n_5, n_6, n_7, n_8, n_10, n_50, n_90, n_130, n_370, n_570, nI_add, pk_mul]; rfl) (by omega) (by omega)) ?_
      refine z_top hN ?_
      refine z_icmp_ge_f (n := 37) (off := 31) (tgt := 65) (by decide +kernel) (nI_ge (by omega) (by omega)) ?_
      refine z_ald0 (n := 38) (by decide +kernel) ?_
      refine z_ald1 (n := 39) (by decide +kernel) ?_
      refine z_ild2 (n := 40) (by decide +kernel) ?_
      refine z_iconst (n := 41) (q := 1) (v := 1) (by decide +kernel) ?_
      refine z_iadd (n := 42) (by decide +kernel) ?_
      refine z_top (nI_1 _) ?_
      refine z_ald0 (n := 43) (by decide +kernel) ?_
      refine z_getf (n := 46) (idx := 32) (by decide +kernel) fl_X9_32 (by assumption) (by rfl) ?_
      refine z_ild2 (n := 47) (by decide +kernel) ?_
      refine z_iald (n := 48) (by decide +kernel) (by assumption) (by first | assumption | exact ix_nI (by omega) (by omega) | exact ix_of (by simp only [n_0, n_1, n_2, n_3, n_4, n_5, n_6, n_7, n_8, n_10, n_50, n_90, n_130, n_370, n_570, nI_add, pk_mul]; rfl) (by omega) (by omega)) ?_
      refine z_top hbh ?_
      refine z_ild3 (n := 49) (by decide +kernel) ?_
      refine z_iconst (n := 50) (q := 1) (v := 1) (by decide +kernel) ?_
      refine z_iadd (n := 51) (by decide +kernel) ?_
      refine z_top (nI_1 _) ?_
      refine z_g4 (n := 54) (idx := 119) (by decide +kernel) ml_X9_119 (by assumption) rfl (Nat.le_of_ble_eq_true rfl) (by omega) ⟨Nat.le_refl _, Nat.le_refl _⟩ (k_rangeOf H hb (dd9 - 1) (lev + 1) dn h1 p (by omega) (by omega) hdn S') (fun x51 h51 q51 => ?_)
      skip
      obtain ⟨y1, y2, y3⟩ := q51
      rw [List.replicate_succ, List.flatten_cons]
      cases x51 with
      | false =>
        obtain ⟨i, er⟩ := o_some y1.symm
        rw [exL_stop er]
        refine z_ifb_ne_f (n := 57) (off := 5) (tgt := 59) (by decide +kernel) (rfl) ?_
        refine z_iconst (n := 58) (q := 0) (v := 0) (by decide +kernel) ?_
        first | refine z_zr1 (by decide +kernel) rfl (Nat.le_refl _) ?_ | refine z_zr0 (by decide +kernel) rfl (Nat.le_refl _) ?_ | refine z_zrb (by decide +kernel) rfl (Nat.le_refl _) ?_
        exact ⟨false, rfl, by rw [← er]; exact ⟨y1, eFr_tr F0 y2, y3⟩⟩
      | true =>
        have er := o_none y1.symm
        rw [exL_app er]
        rw [er] at y3
        refine z_ifb_ne_t (n := 57) (off := 5) (tgt := 59) (by decide +kernel) (rfl) ?_
        refine z_inc4 (n := 62) (q := 1) (by decide +kernel) rfl (nI_1 _) ?_
        refine z_goto (n := 65) (off := -36) (tgt := 26) (by decide +kernel) ?_
        skip
        exact ih (j + 1) (by omega) _ h51 _ (eFr_tr F0 y2) (exL_le hdn) y3
  exact lp N 0 (by omega) dn h p eFr_rf hdn S'
theorem k_dRg {G : mG} {X B n : Nat} {ds dp : Int32} {vb nu fb bh oa : Nat → Int32} {tr : Nat → Bool} (hn : n + 1 < 2 ^ 31) (hXB : B + 13 ≤ X) {r k to : Nat} {l : List Nat} (F : FL vb bh nu r k to l) : dRg G X B n ds dp vb nu fb bh oa tr r k to l := by
  refine (F (fun r k to l => FL vb bh nu r k to l ∧ dRg G X B n ds dp vb nu fb bh oa tr r k to l) ?_ ?_ ?_).2
  · intro r k
    refine ⟨FL_nil r k, fun h40 => ⟨Nat.le_refl _, ?_⟩⟩
    intro dd9 lev dn fr h0 h p F0 hd hl hdn S
    refine z_ild5 (n := 5) (by decide +kernel) ?_
    refine z_ild3 (n := 6) (by decide +kernel) ?_
    refine z_icmp_ge_t (n := 9) (off := 76) (tgt := 82) (by decide +kernel) (Int32.le_refl _) ?_
    refine z_iconst (n := 83) (q := 1) (v := 1) (by decide +kernel) ?_
    first | refine z_zr1 (by decide +kernel) rfl (Nat.le_refl _) ?_ | refine z_zr0 (by decide +kernel) rfl (Nat.le_refl _) ?_ | refine z_zrb (by decide +kernel) rfl (Nat.le_refl _) ?_
    exact ⟨true, rfl, rfl, F0, S⟩
  · intro r k to l h1 h2 ⟨F3, h3⟩
    refine ⟨FL_act h1 h2 F3, fun h40 => ⟨by omega, ?_⟩⟩
    obtain ⟨_, hr⟩ := h3 h40
    intro dd9 lev dn fr h0 h p F0 hd hl hdn S
    have S' := S
    have hk40 : k < 40 := by omega
    obtain ⟨⟨g2, g3, g4, g5, g6, g7, g8⟩, hp⟩ := S
    refine z_ild5 (n := 5) (by decide +kernel) ?_
    refine z_ild3 (n := 6) (by decide +kernel) ?_
    refine z_icmp_ge_f (n := 9) (off := 76) (tgt := 82) (by decide +kernel) (nI_ge (by omega) (by omega)) ?_
    refine z_ald0 (n := 10) (by decide +kernel) ?_
    refine z_getf (n := 13) (idx := 18) (by decide +kernel) fl_X9_18 (by assumption) (by rfl) ?_
    refine z_ild5 (n := 15) (by decide +kernel) ?_
    refine z_iald (n := 16) (by decide +kernel) (by assumption) (by first | assumption | exact ix_nI (by omega) (by omega)) ?_
    refine z_iconst (n := 17) (q := 3) (v := 3) (by decide +kernel) ?_
    refine z_icmp_eq_f (n := 20) (off := 32) (tgt := 49) (by decide +kernel) (h2) ?_
    refine z_ald0 (n := 21) (by decide +kernel) ?_
    refine z_ald1 (n := 22) (by decide +kernel) ?_
    refine z_ild5 (n := 24) (by decide +kernel) ?_
    refine z_g2 (n := 27) (idx := 123) (by decide +kernel) ml_X9_123 (by assumption) rfl (Nat.le_of_ble_eq_true rfl) (by omega) ⟨Nat.le_refl _, Nat.le_refl _⟩ (k_doAct (i := k) (dn := dn) (n := n) 4 (by omega) hn hk40 hdn hXB S') (fun x24 h24 q24 => ?_)
    skip
    obtain ⟨y1, y2, y3⟩ := q24
    by_cases c3 : dn = 300
    · obtain ⟨rfl, rfl⟩ := y2 c3
      rw [exL_full c3]
      refine z_ifb_ne_f (n := 30) (off := 16) (tgt := 43) (by decide +kernel) (rfl) ?_
      refine z_ald0 (n := 31) (by decide +kernel) ?_
      refine z_ald0 (n := 32) (by decide +kernel) ?_
      refine z_getf (n := 35) (idx := 29) (by decide +kernel) fl_X9_29 (by first | assumption | (simp (disch := omega) only [hu_s, hu_n]; first | assumption | rfl)) (by rfl) ?_
      refine z_ild5 (n := 37) (by decide +kernel) ?_
      refine z_iald (n := 38) (by decide +kernel) (by first | assumption | (simp (disch := omega) only [hu_s, hu_n]; first | assumption | rfl)) (by first | assumption | exact ix_nI (by omega) (by omega)) ?_
      refine z_putf (n := 41) (idx := 15) (ty := .int) (by decide +kernel) fl_X9_15 (by first | assumption | (simp (disch := omega) only [hu_s, hu_n]; first | assumption | rfl)) ⟨_, _, _, rfl, rfl, by decide +kernel⟩ rfl rfl (Nat.le_of_ble_eq_true rfl) ?_
      refine z_iconst (n := 42) (q := 0) (v := 0) (by decide +kernel) ?_
      first | refine z_zr1 (by decide +kernel) rfl (Nat.le_refl _) ?_ | refine z_zr0 (by decide +kernel) rfl (Nat.le_refl _) ?_ | refine z_zrb (by decide +kernel) rfl (Nat.le_refl _) ?_
      exact ⟨false, rfl, rfl, eFr_tr F0 (fun j a b => hu_n (by omega)), ⟨(by simp (disch := omega) only [hTn, hCr, hFl, hu_s, hu_n]; first | done | assumption | rfl), (by simp (disch := omega) only [hTn, hCr, hFl, hu_s, hu_n]; first | done | assumption | rfl), (by simp (disch := omega) only [hTn, hCr, hFl, hu_s, hu_n]; first | done | assumption | rfl), (by simp (disch := omega) only [hTn, hCr, hFl, hu_s, hu_n]; first | done | assumption | rfl), (by simp (disch := omega) only [hTn, hCr, hFl, hu_s, hu_n]; first | done | assumption | rfl), (by simp (disch := omega) only [hTn, hCr, hFl, hu_s, hu_n]; first | done | assumption | rfl), (by simp (disch := omega) only [hTn, hCr, hFl, hu_s, hu_n]; first | done | assumption | rfl)⟩, pap_in (fun j a b => hu_n (by omega)) hp⟩
    · obtain ⟨z1, z2⟩ := y3 c3
      have Z2 := z2
      obtain ⟨⟨e2, e3, e4, e5, e6, e7, e8⟩, ep⟩ := z2
      cases x24 with
      | false =>
        rw [exL_no c3 z1.symm]
        refine z_ifb_ne_f (n := 30) (off := 16) (tgt := 43) (by decide +kernel) (rfl) ?_
        refine z_ald0 (n := 31) (by decide +kernel) ?_
        refine z_ald0 (n := 32) (by decide +kernel) ?_
        refine z_getf (n := 35) (idx := 29) (by decide +kernel) fl_X9_29 (by first | assumption | (simp (disch := omega) only [hu_s, hu_n]; first | assumption | rfl)) (by rfl) ?_
        refine z_ild5 (n := 37) (by decide +kernel) ?_
        refine z_iald (n := 38) (by decide +kernel) (by first | assumption | (simp (disch := omega) only [hu_s, hu_n]; first | assumption | rfl)) (by first | assumption | exact ix_nI (by omega) (by omega)) ?_
        refine z_putf (n := 41) (idx := 15) (ty := .int) (by decide +kernel) fl_X9_15 (by first | assumption | (simp (disch := omega) only [hu_s, hu_n]; first | assumption | rfl)) ⟨_, _, _, rfl, rfl, by decide +kernel⟩ rfl rfl (Nat.le_of_ble_eq_true rfl) ?_
        refine z_iconst (n := 42) (q := 0) (v := 0) (by decide +kernel) ?_
        first | refine z_zr1 (by decide +kernel) rfl (Nat.le_refl _) ?_ | refine z_zr0 (by decide +kernel) rfl (Nat.le_refl _) ?_ | refine z_zrb (by decide +kernel) rfl (Nat.le_refl _) ?_
        exact ⟨false, rfl, rfl, eFr_tr (eFr_tr F0 y1) (fun j a b => hu_n (by omega)), ⟨(by simp (disch := omega) only [hTn, hCr, hFl, hu_s, hu_n]; first | done | assumption | rfl), (by simp (disch := omega) only [hTn, hCr, hFl, hu_s, hu_n]; first | done | assumption | rfl), (by simp (disch := omega) only [hTn, hCr, hFl, hu_s, hu_n]; first | done | assumption | rfl), (by simp (disch := omega) only [hTn, hCr, hFl, hu_s, hu_n]; first | done | assumption | rfl), (by simp (disch := omega) only [hTn, hCr, hFl, hu_s, hu_n]; first | done | assumption | rfl), (by simp (disch := omega) only [hTn, hCr, hFl, hu_s, hu_n]; first | done | assumption | rfl), (by simp (disch := omega) only [hTn, hCr, hFl, hu_s, hu_n]; first | done | assumption | rfl)⟩, pap_in (fun j a b => hu_n (by omega)) ep⟩
      | true =>
        rw [exL_ok c3 z1.symm]
        rw [if_pos rfl] at Z2
        refine z_ifb_ne_t (n := 30) (off := 16) (tgt := 43) (by decide +kernel) (rfl) ?_
        refine z_inc5 (n := 46) (q := 1) (by decide +kernel) rfl (nI_1 _) ?_
        refine z_goto (n := 49) (off := -43) (tgt := 3) (by decide +kernel) ?_
        skip
        exact hr dd9 lev (dn + 1) fr h0 h24 _ (eFr_tr F0 y1) hd hl (by omega) Z2
  · intro r k b to N l1 l2 h1 h2 h3 h4 h5 h51 h52 ⟨F6, h6⟩ ⟨F7, h7⟩
    refine ⟨FL_aga h1 h2 h3 h4 h5 h51 h52 F6 F7, fun h40 => ⟨by omega, ?_⟩⟩
    obtain ⟨_, hr⟩ := h7 h40
    intro dd9 lev dn fr h0 h p F0 hd hl hdn S
    have S' := S
    have hk40 : k < 40 := by omega
    obtain ⟨⟨g2, g3, g4, g5, g6, g7, g8⟩, hp⟩ := S
    refine z_ild5 (n := 5) (by decide +kernel) ?_
    refine z_ild3 (n := 6) (by decide +kernel) ?_
    refine z_icmp_ge_f (n := 9) (off := 76) (tgt := 82) (by decide +kernel) (nI_ge (by omega) (by omega)) ?_
    refine z_ald0 (n := 10) (by decide +kernel) ?_
    refine z_getf (n := 13) (idx := 18) (by decide +kernel) fl_X9_18 (by assumption) (by rfl) ?_
    refine z_ild5 (n := 15) (by decide +kernel) ?_
    refine z_iald (n := 16) (by decide +kernel) (by assumption) (by first | assumption | exact ix_nI (by omega) (by omega)) ?_
    refine z_iconst (n := 17) (q := 3) (v := 3) (by decide +kernel) ?_
    refine z_icmp_eq_t (n := 20) (off := 32) (tgt := 49) (by decide +kernel) (h1) ?_
    refine z_ald0 (n := 50) (by decide +kernel) ?_
    refine z_ald1 (n := 51) (by decide +kernel) ?_
    refine z_ild5 (n := 53) (by decide +kernel) ?_
    refine z_ild4 (n := 55) (by decide +kernel) ?_
    refine z_g3 (n := 58) (idx := 127) (by decide +kernel) ml_X9_127 (by assumption) rfl (Nat.le_of_ble_eq_true rfl) (by omega) ⟨Nat.le_refl _, Nat.le_refl _⟩ (k_doAgain (r := r) (k := k) (b := b) (N := N) (l1 := l1) hXB h6 (FL_no F6) (by omega) h3 h2 h5 h52 (dd9 - 1) lev dn h p (by omega) hl hdn S') (fun x55 h55 q55 => ?_)
    skip
    obtain ⟨y1, y2, y3⟩ := q55
    cases x55 with
    | false =>
      obtain ⟨i, er⟩ := o_some y1.symm
      rw [exL_stop er]
      refine z_ifb_ne_f (n := 61) (off := 5) (tgt := 63) (by decide +kernel) (rfl) ?_
      refine z_iconst (n := 62) (q := 0) (v := 0) (by decide +kernel) ?_
      first | refine z_zr1 (by decide +kernel) rfl (Nat.le_refl _) ?_ | refine z_zr0 (by decide +kernel) rfl (Nat.le_refl _) ?_ | refine z_zrb (by decide +kernel) rfl (Nat.le_refl _) ?_
      exact ⟨false, rfl, by rw [← er]; exact ⟨y1, eFr_tr F0 y2, y3⟩⟩
    | true =>
      have er := o_none y1.symm
      rw [exL_app er]
      rw [er] at y3
      have Y3 := y3
      obtain ⟨⟨e2, e3, e4, e5, e6, e7, e8⟩, ep⟩ := y3
      refine z_ifb_ne_t (n := 61) (off := 5) (tgt := 63) (by decide +kernel) (rfl) ?_
      refine z_ild5 (n := 65) (by decide +kernel) ?_
      refine z_iconst (n := 66) (q := 1) (v := 1) (by decide +kernel) ?_
      refine z_iadd (n := 67) (by decide +kernel) ?_
      refine z_top (nI_1 _) ?_
      refine z_ald0 (n := 68) (by decide +kernel) ?_
      refine z_getf (n := 71) (idx := 32) (by decide +kernel) fl_X9_32 (by assumption) (by rfl) ?_
      refine z_ild5 (n := 73) (by decide +kernel) ?_
      refine z_iald (n := 74) (by decide +kernel) (by assumption) (by first | assumption | exact ix_nI (by omega) (by omega)) ?_
      refine z_top h2 ?_
      refine z_mmax (n := 77) (idx := 131) (by decide +kernel) jl_X9_131 (Nat.le_of_ble_eq_true rfl) (by omega) (Nat.le_of_ble_eq_true rfl) (Nat.le_of_ble_eq_true rfl) ?_
      refine z_top (show (if nI (k + 1) < nI b then nI b else nI (k + 1)) = nI b from mx_nI (by omega) (by omega)) ?_
      refine z_ist5 (n := 79) (by decide +kernel) rfl ?_
      refine z_goto (n := 82) (off := -76) (tgt := 3) (by decide +kernel) ?_
      skip
      exact hr dd9 lev _ fr h0 h55 _ (eFr_tr F0 y2) hd hl (exL_le hdn) Y3
theorem k_doneTo {G : mG} {X B n : Nat} {ds dp : Int32} {vb nu fb bh oa : Nat → Int32} {tr : Nat → Bool} (hn : n + 1 < 2 ^ 31) (hXB : B + 13 ≤ X) {d : Nat} {l : List Nat} {sp ad : Int32} {h : mH} {p : pS} (F : FL vb bh nu 4 0 d l) (hd4 : d ≤ 40) (dd9 : Nat) (hd : 14 ≤ dd9) (T : txt h X true 0 (-1) (-1) (nI d) dp ad vb nu fb bh oa tr) (hp : pap h B n p) : EV G m_X9_doneTo dd9 0 0 [.ref X, .ref B] h (fun res h' => res = some (.int (nI (exL (actP n vb nu tr) l 0 p).2.1)) ∧ eFr h h' X B ∧ eSt h' X B n (nI d) dp vb nu fb bh oa tr (eSp fb (exL (actP n vb nu tr) l 0 p).1) (exL (actP n vb nu tr) l 0 p).2.1 (exL (actP n vb nu tr) l 0 p).2.2) := by
  obtain ⟨h2, h3, h4, h5, h6, h7, h8⟩ := T
  refine ev_2_0 rfl rfl (by decide +kernel) (by decide +kernel) ?_
  refine z_ald0 (n := 1) (by decide +kernel) ?_
  refine z_iconst (n := 2) (q := 0) (v := 0) (by decide +kernel) ?_
  refine z_putf (n := 5) (idx := 116) (ty := .int) (by decide +kernel) fl_X9_116 (by first | assumption | (simp (disch := omega) only [hu_s, hu_n]; first | assumption | rfl)) ⟨_, _, _, rfl, rfl, by decide +kernel⟩ rfl rfl (Nat.le_of_ble_eq_true rfl) ?_
  refine z_ald0 (n := 6) (by decide +kernel) ?_
  refine z_ald1 (n := 7) (by decide +kernel) ?_
  refine z_iconst (n := 8) (q := 0) (v := 0) (by decide +kernel) ?_
  refine z_ald0 (n := 9) (by decide +kernel) ?_
  refine z_getf (n := 12) (idx := 45) (by decide +kernel) fl_X9_45 (by first | assumption | (simp (disch := omega) only [hu_s, hu_n]; first | assumption | rfl)) (by rfl) ?_
  refine z_iconst (n := 13) (q := 0) (v := 0) (by decide +kernel) ?_
  refine z_g4 (n := 16) (idx := 119) (by decide +kernel) ml_X9_119 (by first | assumption | (simp (disch := omega) only [hu_s, hu_n]; first | assumption | rfl)) rfl (Nat.le_of_ble_eq_true rfl) (by omega) ⟨Nat.le_refl _, Nat.le_refl _⟩ (k_rangeOf (k_dRg hn hXB F) hd4 13 0 0 _ p (by omega) (by omega) (by omega) ⟨⟨(by simp (disch := omega) only [hTn, hCr, hFl, hu_s, hu_n]; first | done | assumption | rfl), (by simp (disch := omega) only [hTn, hCr, hFl, hu_s, hu_n]; first | done | assumption | rfl), (by simp (disch := omega) only [hTn, hCr, hFl, hu_s, hu_n]; first | done | assumption | rfl), (by simp (disch := omega) only [hTn, hCr, hFl, hu_s, hu_n]; first | done | assumption | rfl), (by simp (disch := omega) only [hTn, hCr, hFl, hu_s, hu_n]; first | done | assumption | rfl), (by simp (disch := omega) only [hTn, hCr, hFl, hu_s, hu_n]; first | done | assumption | rfl), (by simp (disch := omega) only [hTn, hCr, hFl, hu_s, hu_n]; first | done | assumption | rfl)⟩, pap_in (fun j a b => hu_n (by omega)) hp⟩) (fun x13 h13 q13 => ?_)
  skip
  obtain ⟨y1, y2, y3⟩ := q13
  have Y3 := y3
  obtain ⟨⟨e2, e3, e4, e5, e6, e7, e8⟩, ep⟩ := y3
  refine z_pop (n := 17) (by decide +kernel) rfl ?_
  refine z_ald0 (n := 18) (by decide +kernel) ?_
  refine z_getf (n := 21) (idx := 116) (by decide +kernel) fl_X9_116 (by first | assumption | (simp (disch := omega) only [hu_s, hu_n]; first | assumption | rfl)) (by rfl) ?_
  refine z_iret (by decide +kernel) rfl (Nat.le_refl _) ?_
  exact ⟨rfl, eFr_tr (fun j a b => hu_n (by omega)) y2, Y3⟩
