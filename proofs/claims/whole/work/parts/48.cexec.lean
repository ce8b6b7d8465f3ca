/-! what a range of DOs does, as a list of acts -/
def FL (vb bh nm : Nat → Int32) (r k to : Nat) (l : List Nat) : Prop := ∀ P : Nat → Nat → Nat → List Nat → Prop, (∀ r k, P r k k []) → (∀ r k to l, k < to → ¬ vb k = 3 → P r (k + 1) to l → P r k to (k :: l)) → (∀ r k b to N l1 l2, vb k = 3 → bh k = nI b → k < b → b ≤ to → nm k = nI N → 1 ≤ N → N ≤ 50 → P r (k + 1) b l1 → P (r + 1) b to l2 → P (r + 1) k to ((List.replicate N l1).flatten ++ l2)) → P r k to l
section FLS
variable {vb bh nm : Nat → Int32}
theorem FL_nil (r k : Nat) : FL vb bh nm r k k [] := fun _ h _ _ => h r k
theorem FL_act {r k to : Nat} {l : List Nat} (h1 : k < to) (h2 : ¬ vb k = 3) (h3 : FL vb bh nm r (k + 1) to l) : FL vb bh nm r k to (k :: l) := fun P a b c => b r k to l h1 h2 (h3 P a b c)
theorem FL_aga {r k b to N : Nat} {l1 l2 : List Nat} (h1 : vb k = 3) (h2 : bh k = nI b) (h3 : k < b) (h4 : b ≤ to) (h5 : nm k = nI N) (h51 : 1 ≤ N) (h52 : N ≤ 50) (h6 : FL vb bh nm r (k + 1) b l1) (h7 : FL vb bh nm (r + 1) b to l2) : FL vb bh nm (r + 1) k to ((List.replicate N l1).flatten ++ l2) := fun P p q c => c r k b to N l1 l2 h1 h2 h3 h4 h5 h51 h52 (h6 P p q c) (h7 P p q c)
theorem FL_of {r k to : Nat} (h : WR vb bh nm r k to) : ∃ l, FL vb bh nm r k to l := by
  refine h (fun r k to => ∃ l, FL vb bh nm r k to l) ?_ ?_ ?_
  · exact fun r k => ⟨[], FL_nil r k⟩
  · exact fun r k to h1 h2 ⟨l, h3⟩ => ⟨k :: l, FL_act h1 h2 h3⟩
  · exact fun r k b to h1 h2 h3 h4 ⟨N, h5, h51, h52⟩ ⟨l1, h6⟩ ⟨l2, h7⟩ => ⟨_, FL_aga h1 h2 h3 h4 h5 h51 h52 h6 h7⟩
/-- is one of these an act? -/
def anyA (vb : Nat → Int32) : Nat → Nat → Bool
  | _, 0 => false
  | a, m + 1 => if vb a = 3 then anyA vb (a + 1) m else true
theorem anyA_f {vb : Nat → Int32} : ∀ (m a : Nat), anyA vb a m = false → ∀ i, a ≤ i → i < a + m → vb i = 3
  | 0, a, _, i, h1, h2 => by omega
  | m + 1, a, h, i, h1, h2 => by
    rw [anyA] at h
    by_cases c : vb a = 3
    · rw [if_pos c] at h
      by_cases e : i = a
      · rw [e]; exact c
      · exact anyA_f m (a + 1) h i (by omega) (by omega)
    · rw [if_neg c] at h; exact absurd h (by decide)
theorem flat_nil : ∀ N, (List.replicate N ([] : List Nat)).flatten = []
  | 0 => rfl
  | N + 1 => by rw [List.replicate_succ, List.flatten_cons, flat_nil N]; rfl
theorem FL_no {r k to : Nat} {l : List Nat} (h : FL vb bh nm r k to l) (ha : ∀ i, k ≤ i → i < to → vb i = 3) : l = [] := by
  refine (h (fun r k to l => k ≤ to ∧ ((∀ i, k ≤ i → i < to → vb i = 3) → l = [])) ?_ ?_ ?_).2 ha
  · exact fun r k => ⟨Nat.le_refl _, fun _ => rfl⟩
  · exact fun r k to l h1 h2 h3 => ⟨by omega, fun q => absurd (q k (Nat.le_refl _) h1) h2⟩
  · intro r k b to N l1 l2 h1 h2 h3 h4 h5 h51 h52 h6 h7
    refine ⟨by omega, fun q => ?_⟩
    rw [h6.2 (fun i a b => q i (by omega) (by omega)), h7.2 (fun i a b => q i (by omega) (by omega)), flat_nil]
    rfl
end FLS
/-- acts in their order, 300 of them at most: who couldn't be done; how many were done -/
def exL {σ : Type} (act : Nat → σ → Bool × σ) : List Nat → Nat → σ → Option Nat × Nat × σ
  | [], dn, s => (none, dn, s)
  | i :: l, dn, s => if dn = 300 then (some i, dn, s) else if (act i s).1 = true then exL act l (dn + 1) (act i s).2 else (some i, dn, (act i s).2)
section EXS
variable {σ : Type} {act : Nat → σ → Bool × σ}
theorem exL_nil {dn : Nat} {s : σ} : exL act [] dn s = (none, dn, s) := rfl
theorem exL_full {i : Nat} {l : List Nat} {dn : Nat} {s : σ} (h : dn = 300) : exL act (i :: l) dn s = (some i, dn, s) := by rw [exL, if_pos h]
theorem exL_ok {i : Nat} {l : List Nat} {dn : Nat} {s : σ} (h : ¬ dn = 300) (h1 : (act i s).1 = true) : exL act (i :: l) dn s = exL act l (dn + 1) (act i s).2 := by rw [exL, if_neg h, if_pos h1]
theorem exL_no {i : Nat} {l : List Nat} {dn : Nat} {s : σ} (h : ¬ dn = 300) (h1 : (act i s).1 = false) : exL act (i :: l) dn s = (some i, dn, (act i s).2) := by rw [exL, if_neg h, if_neg (by rw [h1]; decide)]
theorem exL_app : ∀ {l1 l2 : List Nat} {dn dn' : Nat} {s s' : σ}, exL act l1 dn s = (none, dn', s') → exL act (l1 ++ l2) dn s = exL act l2 dn' s'
  | [], l2, dn, dn', s, s', h => by
    rw [exL] at h
    injection h with h1 h2
    injection h2 with h2 h3
    subst h2; subst h3
    rfl
  | i :: l, l2, dn, dn', s, s', h => by
    rw [List.cons_append]
    by_cases c : dn = 300
    · rw [exL_full c] at h; cases h
    · by_cases c1 : (act i s).1 = true
      · rw [exL_ok c c1] at h ⊢
        exact exL_app h
      · rw [exL_no c (Bool.eq_false_iff.mpr c1)] at h; cases h
theorem exL_stop : ∀ {l1 l2 : List Nat} {dn dn' j : Nat} {s s' : σ}, exL act l1 dn s = (some j, dn', s') → exL act (l1 ++ l2) dn s = (some j, dn', s')
  | [], l2, dn, dn', j, s, s', h => by rw [exL] at h; cases h
  | i :: l, l2, dn, dn', j, s, s', h => by
    rw [List.cons_append]
    by_cases c : dn = 300
    · rw [exL_full c] at h ⊢; exact h
    · by_cases c1 : (act i s).1 = true
      · rw [exL_ok c c1] at h ⊢
        exact exL_stop h
      · rw [exL_no c (Bool.eq_false_iff.mpr c1)] at h ⊢; exact h
theorem exL_le : ∀ {l1 : List Nat} {dn : Nat} {s : σ}, dn ≤ 300 → (exL act l1 dn s).2.1 ≤ 300
  | [], dn, s, h => h
  | i :: l, dn, s, h => by
    by_cases c : dn = 300
    · rw [exL_full c]; exact h
    · by_cases c1 : (act i s).1 = true
      · rw [exL_ok c c1]; exact exL_le (by omega)
      · rw [exL_no c (Bool.eq_false_iff.mpr c1)]; exact h
end EXS
/-! the class's acts -/
def actP (n : Nat) (vb nu : Nat → Int32) (tr : Nat → Bool) (i : Nat) (p : pS) : Bool × pS := if vb i = 0 then (!decide ((folP n (nu i) (tr i) p).1 < 0), (folP n (nu i) (tr i) p).2) else if vb i = 1 then hldP n (nu i) p else opnP n p
/-- text at X, paper at B -/
def eSt (h : mH) (X B n : Nat) (ds dp : Int32) (vb nu fb bh oa : Nat → Int32) (tr : Nat → Bool) (sp : Int32) (dn : Nat) (p : pS) : Prop := txt h X true 0 (-1) sp ds dp (nI dn) vb nu fb bh oa tr ∧ pap h B n p
def eFr (h h' : mH) (X B : Nat) : Prop := ∀ j, (j < B ∨ B + 13 ≤ j) → (j < X ∨ X + 7 ≤ j) → h' j = h j
theorem eFr_tr {h h1 h2 : mH} {X B : Nat} (a : eFr h h1 X B) (b : eFr h1 h2 X B) : eFr h h2 X B := fun j p q => (b j p q).trans (a j p q)
theorem eFr_rf {h : mH} {X B : Nat} : eFr h h X B := fun _ _ _ => rfl
def eSp (fb : Nat → Int32) (o : Option Nat) : Int32 := match o with | none => -1 | some i => fb i
def ePo (h h' : mH) (X B n : Nat) (ds dp : Int32) (vb nu fb bh oa : Nat → Int32) (tr : Nat → Bool) (r : Option Nat × Nat × pS) (x : Bool) : Prop := x = r.1.isNone ∧ eFr h h' X B ∧ eSt h' X B n ds dp vb nu fb bh oa tr (eSp fb r.1) r.2.1 r.2.2
theorem k_hasAct {G : mG} {h : mH} {X : Nat} {wr : Bool} {fk fp sp ds dp ad : Int32} {vb : Nat → Int32} (dd9 : Nat) {a b : Nat} (hb : b ≤ 40) (hab : a ≤ b) (h0 : h X = oTex X wr fk fp sp ds dp ad) (h1 : h (X + 1) = aI 40 vb) : EV G m_X9_hasAct dd9 0 0 [.ref X, .int (nI a), .int (nI b)] h (RE (some (.int (bI (anyA vb a (b - a))))) h) := by
  refine ev_3_1 rfl rfl rfl (by decide +kernel) (by decide +kernel) ?_
  refine z_ild1 (n := 1) (by decide +kernel) ?_
  refine z_ist3 (n := 2) (by decide +kernel) rfl ?_
  have lp : ∀ m k, k + m = b → Z G m_X9_hasAct dd9 0 0 0 0 2 [some (.ref X), some (.int (nI a)), some (.int (nI b)), some (.int (nI k))] [] h (RE (some (.int (bI (anyA vb k m)))) h) := by
    intro m
    induction m with
    | zero =>
      intro k hk
      refine z_ild3 (n := 3) (by decide +kernel) ?_
      refine z_ild2 (n := 4) (by decide +kernel) ?_
      refine z_icmp_ge_t (n := 7) (off := 21) (tgt := 25) (by decide +kernel) (by rw [show k = b by omega]; exact Int32.le_refl _) ?_
      refine z_iconst (n := 26) (q := 0) (v := 0) (by decide +kernel) ?_
      first | refine z_zr1 (by decide +kernel) rfl (Nat.le_refl _) ?_ | refine z_zr0 (by decide +kernel) rfl (Nat.le_refl _) ?_ | refine z_zrb (by decide +kernel) rfl (Nat.le_refl _) ?_
      exact ⟨rfl, rfl⟩
    | succ m ih =>
      intro k hk
      by_cases c : vb k = 3
      · rw [anyA, if_pos c]
        refine z_ild3 (n := 3) (by decide +kernel) ?_
        refine z_ild2 (n := 4) (by decide +kernel) ?_
        refine z_icmp_ge_f (n := 7) (off := 21) (tgt := 25) (by decide +kernel) (nI_ge (by omega) (by omega)) ?_
        refine z_ald0 (n := 8) (by decide +kernel) ?_
        refine z_getf (n := 11) (idx := 18) (by decide +kernel) fl_X9_18 (by assumption) (by rfl) ?_
        refine z_ild3 (n := 12) (by decide +kernel) ?_
        refine z_iald (n := 13) (by decide +kernel) (by assumption) (by first | assumption | exact ix_nI (by omega) (by omega)) ?_
        refine z_iconst (n := 14) (q := 3) (v := 3) (by decide +kernel) ?_
        refine z_icmp_eq_t (n := 17) (off := 5) (tgt := 19) (by decide +kernel) (c) ?_
        refine z_inc3 (n := 22) (q := 1) (by decide +kernel) rfl (nI_1 _) ?_
        refine z_goto (n := 25) (off := -20) (tgt := 2) (by decide +kernel) ?_
        exact ih (k + 1) (by omega)
      · rw [anyA, if_neg c]
        refine z_ild3 (n := 3) (by decide +kernel) ?_
        refine z_ild2 (n := 4) (by decide +kernel) ?_
        refine z_icmp_ge_f (n := 7) (off := 21) (tgt := 25) (by decide +kernel) (nI_ge (by omega) (by omega)) ?_
        refine z_ald0 (n := 8) (by decide +kernel) ?_
        refine z_getf (n := 11) (idx := 18) (by decide +kernel) fl_X9_18 (by assumption) (by rfl) ?_
        refine z_ild3 (n := 12) (by decide +kernel) ?_
        refine z_iald (n := 13) (by decide +kernel) (by assumption) (by first | assumption | exact ix_nI (by omega) (by omega)) ?_
        refine z_iconst (n := 14) (q := 3) (v := 3) (by decide +kernel) ?_
        refine z_icmp_eq_f (n := 17) (off := 5) (tgt := 19) (by decide +kernel) (c) ?_
        refine z_iconst (n := 18) (q := 1) (v := 1) (by decide +kernel) ?_
        first | refine z_zr1 (by decide +kernel) rfl (Nat.le_refl _) ?_ | refine z_zr0 (by decide +kernel) rfl (Nat.le_refl _) ?_ | refine z_zrb (by decide +kernel) rfl (Nat.le_refl _) ?_
        exact ⟨rfl, rfl⟩
  exact lp (b - a) a (by omega)
theorem k_doAct {G : mG} {h : mH} {X B n i dn : Nat} {ds dp sp : Int32} {vb nu fb bh oa : Nat → Int32} {tr : Nat → Bool} {p : pS} (dd9 : Nat) (hd : 4 ≤ dd9) (hn : n + 1 < 2 ^ 31) (hi : i < 40) (hdn : dn ≤ 300) (hXB : B + 13 ≤ X) (H : eSt h X B n ds dp vb nu fb bh oa tr sp dn p) : EV G m_X9_doAct dd9 0 0 [.ref X, .ref B, .int (nI i)] h (fun r h' => ∃ x, r = some (.int (bI x)) ∧ eFr h h' X B ∧ (dn = 300 → x = false ∧ h' = h) ∧ (¬ dn = 300 → x = (actP n vb nu tr i p).1 ∧ eSt h' X B n ds dp vb nu fb bh oa tr sp (if x = true then dn + 1 else dn) (actP n vb nu tr i p).2)) := by
  obtain ⟨⟨h2, h3, h4, h5, h6, h7, h8⟩, hp⟩ := H
  have hp0 := hp
  obtain ⟨tl, ht, hB, _⟩ := hp
  refine ev_3_1 rfl rfl rfl (by decide +kernel) (by decide +kernel) ?_
  by_cases c3 : dn = 300
  · refine z_ald0 (n := 1) (by decide +kernel) ?_
    refine z_getf (n := 4) (idx := 116) (by decide +kernel) fl_X9_116 (by assumption) (by rfl) ?_
    refine z_sipush (n := 7) (q := 300) (v := 300) (by decide +kernel) ?_
    refine z_icmp_lt_f (n := 10) (off := 5) (tgt := 12) (by decide +kernel) (by rw [c3]; decide) ?_
    refine z_iconst (n := 11) (q := 0) (v := 0) (by decide +kernel) ?_
    first | refine z_zr1 (by decide +kernel) rfl (Nat.le_refl _) ?_ | refine z_zr0 (by decide +kernel) rfl (Nat.le_refl _) ?_ | refine z_zrb (by decide +kernel) rfl (Nat.le_refl _) ?_
    exact ⟨false, rfl, eFr_rf, fun _ => ⟨rfl, rfl⟩, fun z => absurd c3 z⟩
  have fin : ∀ (x : Bool) (h1 : mH) (q : Int32), frm h h1 B (B + 13) → x = (actP n vb nu tr i p).1 → pap h1 B n (actP n vb nu tr i p).2 → Z G m_X9_doAct dd9 0 0 0 0 91 [some (.ref X), some (.ref B), some (.int q), some (.int (bI x))] [] h1 (fun r h' => ∃ x, r = some (.int (bI x)) ∧ eFr h h' X B ∧ (dn = 300 → x = false ∧ h' = h) ∧ (¬ dn = 300 → x = (actP n vb nu tr i p).1 ∧ eSt h' X B n ds dp vb nu fb bh oa tr sp (if x = true then dn + 1 else dn) (actP n vb nu tr i p).2)) := by
    intro x h1 q F hx hp1
    have g2 := (F X (by omega)).trans h2
    have g3 := (F (X + 1) (by omega)).trans h3
    have g4 := (F (X + 2) (by omega)).trans h4
    have g5 := (F (X + 3) (by omega)).trans h5
    have g6 := (F (X + 4) (by omega)).trans h6
    have g7 := (F (X + 5) (by omega)).trans h7
    have g8 := (F (X + 6) (by omega)).trans h8
    by_cases c : x = true
    · subst c
      refine z_ild3 (n := 92) (by decide +kernel) ?_
      refine z_ifb_eq_f (n := 95) (off := 13) (tgt := 105) (by decide +kernel) (rfl) ?_
      refine z_ald0 (n := 96) (by decide +kernel) ?_
      refine z_dup (n := 97) (by decide +kernel) rfl ?_
      refine z_getf (n := 100) (idx := 116) (by decide +kernel) fl_X9_116 (by assumption) (by rfl) ?_
      refine z_iconst (n := 101) (q := 1) (v := 1) (by decide +kernel) ?_
      refine z_iadd (n := 102) (by decide +kernel) ?_
      refine z_top (nI_1 _) ?_
      refine z_putf (n := 105) (idx := 116) (ty := .int) (by decide +kernel) fl_X9_116 (by assumption) ⟨_, _, _, rfl, rfl, by decide +kernel⟩ rfl rfl (Nat.le_of_ble_eq_true rfl) ?_
      refine z_ild3 (n := 106) (by decide +kernel) ?_
      first | refine z_zr1 (by decide +kernel) rfl (Nat.le_refl _) ?_ | refine z_zr0 (by decide +kernel) rfl (Nat.le_refl _) ?_ | refine z_zrb (by decide +kernel) rfl (Nat.le_refl _) ?_
      exact ⟨true, rfl, fun j p q => by rw [hu_n (by omega)]; exact F j p, fun z => absurd z c3, fun _ => ⟨hx, ⟨(by simp (disch := omega) only [hTn, hCr, hFl, hu_s, hu_n]; first | done | assumption | rfl), (by simp (disch := omega) only [hTn, hCr, hFl, hu_s, hu_n]; first | done | assumption | rfl), (by simp (disch := omega) only [hTn, hCr, hFl, hu_s, hu_n]; first | done | assumption | rfl), (by simp (disch := omega) only [hTn, hCr, hFl, hu_s, hu_n]; first | done | assumption | rfl), (by simp (disch := omega) only [hTn, hCr, hFl, hu_s, hu_n]; first | done | assumption | rfl), (by simp (disch := omega) only [hTn, hCr, hFl, hu_s, hu_n]; first | done | assumption | rfl), (by simp (disch := omega) only [hTn, hCr, hFl, hu_s, hu_n]; first | done | assumption | rfl)⟩, pap_in (fun j a b => hu_n (by omega)) hp1⟩⟩
    · have c' := Bool.eq_false_iff.mpr c
      subst c'
      refine z_ild3 (n := 92) (by decide +kernel) ?_
      refine z_ifb_eq_t (n := 95) (off := 13) (tgt := 105) (by decide +kernel) (rfl) ?_
      refine z_ild3 (n := 106) (by decide +kernel) ?_
      first | refine z_zr1 (by decide +kernel) rfl (Nat.le_refl _) ?_ | refine z_zr0 (by decide +kernel) rfl (Nat.le_refl _) ?_ | refine z_zrb (by decide +kernel) rfl (Nat.le_refl _) ?_
      exact ⟨false, rfl, fun j p q => F j p, fun z => absurd z c3, fun _ => ⟨hx, ⟨g2, g3, g4, g5, g6, g7, g8⟩, hp1⟩⟩
  refine z_ald0 (n := 1) (by decide +kernel) ?_
  refine z_getf (n := 4) (idx := 116) (by decide +kernel) fl_X9_116 (by assumption) (by rfl) ?_
  refine z_sipush (n := 7) (q := 300) (v := 300) (by decide +kernel) ?_
  refine z_icmp_lt_t (n := 10) (off := 5) (tgt := 12) (by decide +kernel) (nI_lt (b := 300) (by omega) (by omega)) ?_
  refine z_ald0 (n := 13) (by decide +kernel) ?_
  refine z_getf (n := 16) (idx := 18) (by decide +kernel) fl_X9_18 (by assumption) (by rfl) ?_
  refine z_ild2 (n := 17) (by decide +kernel) ?_
  refine z_iald (n := 18) (by decide +kernel) (by assumption) (by first | assumption | exact ix_nI (by omega) (by omega)) ?_
  by_cases s0 : vb i = 0
  · refine z_lsw (off := 26) (dflt := 68) (ps := #[(0, 26), (1, 54)]) (len := 26) (tgt := 44) (by rw [s0]; decide) (by decide +kernel) ?_
    refine z_ald1 (n := 45) (by decide +kernel) ?_
    refine z_ald0 (n := 46) (by decide +kernel) ?_
    refine z_getf (n := 49) (idx := 22) (by decide +kernel) fl_X9_22 (by assumption) (by rfl) ?_
    refine z_ild2 (n := 50) (by decide +kernel) ?_
    refine z_iald (n := 51) (by decide +kernel) (by assumption) (by first | assumption | exact ix_nI (by omega) (by omega)) ?_
    refine z_ald0 (n := 52) (by decide +kernel) ?_
    refine z_getf (n := 55) (idx := 25) (by decide +kernel) fl_X9_25 (by assumption) (by rfl) ?_
    refine z_ild2 (n := 56) (by decide +kernel) ?_
    refine z_zald (n := 57) (by decide +kernel) (by assumption) (by first | assumption | exact ix_nI (by omega) (by omega)) ?_
    refine z_w2 (n := 60) (idx := 141) (by decide +kernel) ml_X9_141 (by assumption) rfl (Nat.le_of_ble_eq_true rfl) (by omega) ⟨Nat.le_refl _, Nat.le_refl _⟩ (k_foldAt (n := n) (s := p) 3 (by omega) hp0 hn) (fun h57 q57 => ?_)
    refine z_if_lt (n := 63) (off := 7) (tgt := 67) (by decide +kernel) (fun c60 => ?_) (fun c60 => ?_)
    · refine z_iconst (n := 68) (q := 0) (v := 0) (by decide +kernel) ?_
      refine z_ist3 (n := 69) (by decide +kernel) rfl ?_
      refine z_goto (n := 72) (off := 22) (tgt := 91) (by decide +kernel) ?_
      first | (have z9 : (folP n (nu i) (tr i) p).1 < 0 := c60; exact fin false h57 _ q57.1 (by unfold actP; rw [if_pos s0, decide_eq_true c60]; rfl) (by unfold actP; rw [if_pos s0]; exact q57.2)) | (have z9 : ¬ (folP n (nu i) (tr i) p).1 < 0 := c60; exact fin true h57 _ q57.1 (by unfold actP; rw [if_pos s0, decide_eq_false c60]; rfl) (by unfold actP; rw [if_pos s0]; exact q57.2)) | (have z9 := q79; exact fin _ h79 _ q79.1 (by unfold actP; rw [if_neg s0, if_pos s1]) (by unfold actP; rw [if_neg s0, if_pos s1]; exact q79.2)) | exact fin _ h87 _ q87.1 (by unfold actP; rw [if_neg s0, if_neg s1]) (by unfold actP; rw [if_neg s0, if_neg s1]; exact q87.2)
    · refine z_iconst (n := 64) (q := 1) (v := 1) (by decide +kernel) ?_
      refine z_goto (n := 67) (off := 4) (tgt := 68) (by decide +kernel) ?_
      refine z_ist3 (n := 69) (by decide +kernel) rfl ?_
      refine z_goto (n := 72) (off := 22) (tgt := 91) (by decide +kernel) ?_
      first | (have z9 : (folP n (nu i) (tr i) p).1 < 0 := c60; exact fin false h57 _ q57.1 (by unfold actP; rw [if_pos s0, decide_eq_true c60]; rfl) (by unfold actP; rw [if_pos s0]; exact q57.2)) | (have z9 : ¬ (folP n (nu i) (tr i) p).1 < 0 := c60; exact fin true h57 _ q57.1 (by unfold actP; rw [if_pos s0, decide_eq_false c60]; rfl) (by unfold actP; rw [if_pos s0]; exact q57.2)) | (have z9 := q79; exact fin _ h79 _ q79.1 (by unfold actP; rw [if_neg s0, if_pos s1]) (by unfold actP; rw [if_neg s0, if_pos s1]; exact q79.2)) | exact fin _ h87 _ q87.1 (by unfold actP; rw [if_neg s0, if_neg s1]) (by unfold actP; rw [if_neg s0, if_neg s1]; exact q87.2)
  by_cases s1 : vb i = 1
  · refine z_lsw (off := 54) (dflt := 68) (ps := #[(0, 26), (1, 54)]) (len := 26) (tgt := 72) (by rw [s1]; decide) (by decide +kernel) ?_
    refine z_ald1 (n := 73) (by decide +kernel) ?_
    refine z_ald0 (n := 74) (by decide +kernel) ?_
    refine z_getf (n := 77) (idx := 22) (by decide +kernel) fl_X9_22 (by assumption) (by rfl) ?_
    refine z_ild2 (n := 78) (by decide +kernel) ?_
    refine z_iald (n := 79) (by decide +kernel) (by assumption) (by first | assumption | exact ix_nI (by omega) (by omega)) ?_
    refine z_w1 (n := 82) (idx := 147) (by decide +kernel) ml_X9_147 (by assumption) rfl (Nat.le_of_ble_eq_true rfl) (by omega) ⟨Nat.le_refl _, Nat.le_refl _⟩ (k_holdFor (n := n) (s := p) 2 (by omega) hp0 hn) (fun h79 q79 => ?_)
    refine z_ist3 (n := 83) (by decide +kernel) rfl ?_
    refine z_goto (n := 86) (off := 8) (tgt := 91) (by decide +kernel) ?_
    first | (have z9 : (folP n (nu i) (tr i) p).1 < 0 := c60; exact fin false h57 _ q57.1 (by unfold actP; rw [if_pos s0, decide_eq_true c60]; rfl) (by unfold actP; rw [if_pos s0]; exact q57.2)) | (have z9 : ¬ (folP n (nu i) (tr i) p).1 < 0 := c60; exact fin true h57 _ q57.1 (by unfold actP; rw [if_pos s0, decide_eq_false c60]; rfl) (by unfold actP; rw [if_pos s0]; exact q57.2)) | (have z9 := q79; exact fin _ h79 _ q79.1 (by unfold actP; rw [if_neg s0, if_pos s1]) (by unfold actP; rw [if_neg s0, if_pos s1]; exact q79.2)) | exact fin _ h87 _ q87.1 (by unfold actP; rw [if_neg s0, if_neg s1]) (by unfold actP; rw [if_neg s0, if_neg s1]; exact q87.2)
  refine z_lsw (off := 68) (dflt := 68) (ps := #[(0, 26), (1, 54)]) (len := 26) (tgt := 86) (by show Op.lookupswitch.offset [(0, 26), (1, 54)] 68 _ = _; rw [lv_osw s0 (by decide), lv_osw s1 (by decide)]; rfl) (by decide +kernel) ?_
  refine z_ald1 (n := 87) (by decide +kernel) ?_
  refine z_w0 (n := 90) (idx := 151) (by decide +kernel) ml_X9_151 (by assumption) rfl (Nat.le_of_ble_eq_true rfl) (by omega) ⟨Nat.le_refl _, Nat.le_refl _⟩ (k_openUp (n := n) (s := p) 2 (by omega) hp0 hn) (fun h87 q87 => ?_)
  refine z_ist3 (n := 91) (by decide +kernel) rfl ?_
  first | (have z9 : (folP n (nu i) (tr i) p).1 < 0 := c60; exact fin false h57 _ q57.1 (by unfold actP; rw [if_pos s0, decide_eq_true c60]; rfl) (by unfold actP; rw [if_pos s0]; exact q57.2)) | (have z9 : ¬ (folP n (nu i) (tr i) p).1 < 0 := c60; exact fin true h57 _ q57.1 (by unfold actP; rw [if_pos s0, decide_eq_false c60]; rfl) (by unfold actP; rw [if_pos s0]; exact q57.2)) | (have z9 := q79; exact fin _ h79 _ q79.1 (by unfold actP; rw [if_neg s0, if_pos s1]) (by unfold actP; rw [if_neg s0, if_pos s1]; exact q79.2)) | exact fin _ h87 _ q87.1 (by unfold actP; rw [if_neg s0, if_neg s1]) (by unfold actP; rw [if_neg s0, if_neg s1]; exact q87.2)
