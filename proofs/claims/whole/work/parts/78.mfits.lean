/-! CreasedPaperModel: rows of orders -/
def runM (n : Nat) : Nat → Nat → sS → Option sS
  | 0, _, st => some st
  | k + 1, r, st => if lgS n (digL (r / (2 * (n - 1)) ^ k)) st = true then runM n k (r % (2 * (n - 1)) ^ k) (stS (digL (r / (2 * (n - 1)) ^ k)) (digR (r / (2 * (n - 1)) ^ k)) st) else none
def digs (B : Nat) : Nat → Nat → List Nat
  | 0, _ => []
  | k + 1, r => (r / B ^ k) :: digs B k (r % B ^ k)
def rowF (n : Nat) (to : Nat → Int32) (k : Nat) (st : sS) (r : Nat) : List sL := match runM n k r st with
  | none => []
  | some s => if fitB n to s.2.2 = true then [(digs (2 * (n - 1)) k r, s.2.2)] else []
theorem rgF_app {α : Type} {F : Nat → List α} : ∀ m b u, rgF F (m + b) u = rgF F m u ++ rgF F b (u + m)
  | 0, b, u => by rw [Nat.zero_add]; rfl
  | m + 1, b, u => by
    rw [show m + 1 + b = (m + b) + 1 by omega, rgF, rgF, rgF_app m b (u + 1), List.append_assoc, show u + 1 + m = u + (m + 1) by omega]
theorem rgF_sh {α : Type} {F : Nat → List α} : ∀ m u, rgF F m u = rgF (fun r => F (u + r)) m 0
  | 0, u => rfl
  | m + 1, u => by
    have e := rgF_sh (F := F) m (u + 1)
    have e2 := rgF_sh (F := fun r => F (u + r)) m 1
    rw [rgF, rgF, e, Nat.add_zero]
    refine congrArg (F u ++ ·) ?_
    rw [show (0 : Nat) + 1 = 1 from rfl, e2]
    refine rgF_ag (fun r => ?_) _ _
    exact congrArg F (by omega)
theorem rgF_blk {α : Type} {F : Nat → List α} {b : Nat} : ∀ m u, rgF F (m * b) (u * b) = rgF (fun f => rgF (fun r => F (f * b + r)) b 0) m u
  | 0, u => by rw [Nat.zero_mul]; rfl
  | m + 1, u => by
    rw [Nat.succ_mul, Nat.add_comm (m * b) b, rgF_app, rgF, rgF_sh b (u * b), ← Nat.succ_mul, rgF_blk m (u + 1)]
theorem rgF_map {α β : Type} {F : Nat → List α} {g : α → β} : ∀ m u, rgF (fun f => (F f).map g) m u = (rgF F m u).map g
  | 0, _ => rfl
  | m + 1, u => by rw [rgF, rgF, List.map_append, rgF_map m (u + 1)]
theorem rgF_agb {α : Type} {F F' : Nat → List α} : ∀ m u, (∀ v, u ≤ v → v < u + m → F v = F' v) → rgF F m u = rgF F' m u
  | 0, _, _ => rfl
  | m + 1, u, h => by rw [rgF, rgF, h u (Nat.le_refl _) (by omega), rgF_agb m (u + 1) (fun v a b => h v (by omega) (by omega))]
theorem srF_rows {n : Nat} {to : Nat → Int32} (hn : 2 ≤ n) : ∀ k st, srF n to k st = rgF (rowF n to k st) ((2 * (n - 1)) ^ k) 0
  | 0, st => by
    rw [Nat.pow_zero, rgF, rgF, List.append_nil, srF]
    rfl
  | k + 1, st => by
    have p0 : 0 < (2 * (n - 1)) ^ k := Nat.pow_pos (by omega)
    have blk := rgF_blk (F := rowF n to (k + 1) st) (b := (2 * (n - 1)) ^ k) (2 * (n - 1)) 0
    rw [Nat.zero_mul] at blk
    rw [srF, Nat.pow_succ', blk]
    refine rgF_ag (fun f => ?_) _ _
    have e : ∀ r, 0 ≤ r → r < 0 + (2 * (n - 1)) ^ k → rowF n to (k + 1) st (f * (2 * (n - 1)) ^ k + r) = if lgS n (digL f) st = true then (rowF n to k (stS (digL f) (digR f) st) r).map (fun q => (f :: q.1, q.2)) else [] := by
      intro r _ hr
      rw [Nat.zero_add] at hr
      have d1 : (f * (2 * (n - 1)) ^ k + r) / (2 * (n - 1)) ^ k = f := by
        rw [Nat.mul_comm, Nat.mul_add_div p0, Nat.div_eq_of_lt hr, Nat.add_zero]
      have d2 : (f * (2 * (n - 1)) ^ k + r) % (2 * (n - 1)) ^ k = r := by
        rw [Nat.mul_comm, Nat.mul_add_mod, Nat.mod_eq_of_lt hr]
      unfold rowF
      rw [runM, digs, d1, d2]
      by_cases c : lgS n (digL f) st = true
      · rw [if_pos c, if_pos c]
        cases runM n k r (stS (digL f) (digR f) st) with
        | none => rfl
        | some s =>
          dsimp only
          by_cases c2 : fitB n to s.2.2 = true
          · rw [if_pos c2, if_pos c2]; rfl
          · rw [if_neg c2, if_neg c2]; rfl
      · rw [if_neg c, if_neg c]
    rw [rgF_agb _ 0 e]
    by_cases c : lgS n (digL f) st = true
    · rw [if_pos c, srF_rows hn k]
      have e2 : ∀ v, (if lgS n (digL f) st = true then (rowF n to k (stS (digL f) (digR f) st) v).map (fun q => ((f :: q.1, q.2) : sL)) else []) = (rowF n to k (stS (digL f) (digR f) st) v).map (fun q => ((f :: q.1, q.2) : sL)) := fun v => if_pos c
      rw [rgF_ag e2, rgF_map]
    · rw [if_neg c]
      refine (rgF_nil _ _ (fun v _ _ => if_neg c)).symm
theorem digs_get {B : Nat} (hB : 0 < B) : ∀ k r j, r < B ^ k → j < k → (digs B k r).getD j 0 = r / B ^ (k - 1 - j) % B
  | 0, r, j, _, h => absurd h (Nat.not_lt_zero _)
  | k + 1, r, 0, hr, _ => by
    rw [digs, gD_0, Nat.add_sub_cancel, Nat.sub_zero]
    refine (Nat.mod_eq_of_lt ?_).symm
    rw [Nat.div_lt_iff_lt_mul (Nat.pow_pos hB)]
    rw [Nat.pow_succ, Nat.mul_comm] at hr
    exact hr
  | k + 1, r, j + 1, hr, hj => by
    rw [digs, gD_s, digs_get hB k _ j (Nat.mod_lt _ (Nat.pow_pos hB)) (by omega)]
    have e : k + 1 - 1 - (j + 1) = k - 1 - j := by omega
    rw [e]
    obtain ⟨w, hw⟩ : ∃ w, k = k - 1 - j + (w + 1) := ⟨j, by omega⟩
    have e3 : B ^ k = B ^ (k - 1 - j) * (B * B ^ w) := by
      rw [← Nat.pow_succ', ← Nat.pow_add, ← hw]
    rw [e3, Nat.mod_mul_right_div_self, Nat.mod_mul_right_mod]
theorem m_rowsOf {G : mG} {h : mH} {n k : Nat} (d : Nat) (hn1 : 1 ≤ n) (hn : n ≤ 12) (hk : k ≤ 3) : EV G m_X11_rowsOf d 0 0 [.int (nI n), .int (nI k)] h (RE (some (.int (nI ((2 * (n - 1)) ^ k)))) h) := by
  obtain ⟨n', rfl⟩ : ∃ n', n = n' + 1 := ⟨n - 1, by omega⟩
  rw [Nat.add_sub_cancel]
  have lp : ∀ w u, u + w = k → Z G m_X11_rowsOf d 0 0 0 0 4 [some (.int (nI (n' + 1))), some (.int (nI k)), some (.int (nI ((2 * n') ^ u))), some (.int (nI u))] [] h (RE (some (.int (nI ((2 * n') ^ k)))) h) := by
    intro w
    induction w with
    | zero =>
      intro u hu9
      refine z_ild3 (n := 5) (by decide +kernel) ?_
      refine z_ild1 (n := 6) (by decide +kernel) ?_
      refine z_icmp_ge_t (n := 9) (off := 17) (tgt := 23) (by decide +kernel) (by rw [show u = k by omega]; exact Int32.le_refl _) ?_
      refine z_ild2 (n := 24) (by decide +kernel) ?_
      refine z_iret (by decide +kernel) rfl (Nat.le_refl _) ?_
      exact ⟨by rw [show u = k by omega], rfl⟩
    | succ w ih =>
      intro u hu9
      refine z_ild3 (n := 5) (by decide +kernel) ?_
      refine z_ild1 (n := 6) (by decide +kernel) ?_
      refine z_icmp_ge_f (n := 9) (off := 17) (tgt := 23) (by decide +kernel) (nI_ge (by omega) (by omega)) ?_
      refine z_ild2 (n := 10) (by decide +kernel) ?_
      refine z_iconst (n := 11) (q := 2) (v := 2) (by decide +kernel) ?_
      refine z_ild0 (n := 12) (by decide +kernel) ?_
      refine z_iconst (n := 13) (q := 1) (v := 1) (by decide +kernel) ?_
      refine z_isub (n := 14) (by decide +kernel) ?_
      refine z_top (nI_pred _) ?_
      refine z_imul (n := 15) (by decide +kernel) ?_
      refine z_top (show (2 : Int32) * nI n' = nI (2 * n') from pk_mul 2 n') ?_
      refine z_imul (n := 16) (by decide +kernel) ?_
      refine z_top (show nI ((2 * n') ^ u) * nI (2 * n') = nI ((2 * n') ^ (u + 1)) from by rw [pk_mul, Nat.pow_succ]) ?_
      refine z_ist2 (n := 17) (by decide +kernel) rfl ?_
      refine z_inc3 (n := 20) (q := 1) (by decide +kernel) rfl (nI_1 _) ?_
      refine z_goto (n := 23) (off := -16) (tgt := 4) (by decide +kernel) ?_
      exact ih (u + 1) (by omega)
  refine ev_2_2 rfl rfl (by decide +kernel) (by decide +kernel) ?_
  refine z_iconst (n := 1) (q := 1) (v := 1) (by decide +kernel) ?_
  refine z_ist2 (n := 2) (by decide +kernel) rfl ?_
  refine z_iconst (n := 3) (q := 0) (v := 0) (by decide +kernel) ?_
  refine z_ist3 (n := 4) (by decide +kernel) rfl ?_
  exact lp k 0 (by omega)
/-- what fits says -/
def fitM (n : Nat) (to : Nat → Int32) (k : Nat) (st : sS) (r : Nat) : Bool := match runM n k r st with
  | none => false
  | some s => fitB n to s.2.2
theorem rowF_eq {n : Nat} {to : Nat → Int32} {k : Nat} {st : sS} {r : Nat} : (fitM n to k st r = false → rowF n to k st r = []) ∧ (fitM n to k st r = true → ∃ s, runM n k r st = some s ∧ fitB n to s.2.2 = true ∧ rowF n to k st r = [(digs (2 * (n - 1)) k r, s.2.2)]) := by
  unfold fitM rowF
  cases runM n k r st with
  | none => exact ⟨fun _ => rfl, fun z => Bool.noConfusion z⟩
  | some s =>
    dsimp only
    refine ⟨fun z => by rw [z]; rfl, fun z => ⟨s, rfl, z, by rw [if_pos z]⟩⟩
theorem digL_b {f : Nat} (h : f < 22) : 0 ≤ (digL f).toInt ∧ (digL f).toInt ≤ 12 := by
  unfold digL
  rw [nI_toInt (by omega)]
  omega
theorem bnS_mono {n : Nat} {st : sS} {B B' : Int} (h : bnS n st B) (hB : B ≤ B') : bnS n st B' := ⟨fun u hu9 => (by have := h.1 u hu9; omega), h.2⟩
theorem runM_b {n : Nat} (hn2 : 2 ≤ n) (hn : n ≤ 12) : ∀ (k r : Nat) (st s : sS) (B : Int), bnS n st B → B + 30 * (k : Int) ≤ 500 → r < (2 * (n - 1)) ^ k → runM n k r st = some s → bnS n s (B + 30 * (k : Int))
  | 0, r, st, s, B, hb, _, _, h => by
    rw [runM] at h
    cases h
    exact bnS_mono hb (by omega)
  | k + 1, r, st, s, B, hb, hB, hr, h => by
    rw [runM] at h
    split at h
    · have f22 : r / (2 * (n - 1)) ^ k < 2 * (n - 1) := by
        rw [Nat.div_lt_iff_lt_mul (Nat.pow_pos (by omega))]
        rw [Nat.pow_succ, Nat.mul_comm] at hr
        exact hr
      have q := runM_b hn2 hn k _ _ s (B + 30) (bnS_st hb (by omega) (digL_b (Nat.lt_of_lt_of_le f22 (by omega)))) (by omega) (Nat.mod_lt _ (Nat.pow_pos (by omega))) h
      exact bnS_mono q (by omega)
    · cases h
theorem m_fits {G : mG} {h : mH} {Q n k r : Nat} {N : Int32} {m : Nat → Int32} {wd : Int64} {sp up si wt : Nat → Int32} (d : Nat) (hd : 2 ≤ d) (hn2 : 2 ≤ n) (hn : n ≤ 12) (hk : k ≤ 3) (hr : r < (2 * (n - 1)) ^ k) (hQ : h Q = oMod Q N m wd) (h13 : h (Q + 13) = aI 12 sp) (h14 : h (Q + 14) = aI 12 up) (h15 : h (Q + 15) = aI 12 si) (h16 : h (Q + 16) = aI 12 wt) (hw : ∀ p, p < 12 → wt p = -1 ∨ 0 ≤ wt p) : EV G m_X11_fits d 0 0 [.ref Q, .int (nI n), .int (nI k), .int (nI r), .int (nI ((2 * (n - 1)) ^ k))] h (fun r9 h' => ∃ x, r9 = some (.int (bI x)) ∧ (x = fitM n wt k st0 r ∧ mlF h h' Q ∧ (∃ sp u si, h' (Q + 13) = aI 12 sp ∧ h' (Q + 14) = aI 12 u ∧ h' (Q + 15) = aI 12 si) ∧ (∀ s, runM n k r st0 = some s → mlv h' Q n s))) := by
  obtain ⟨n', rfl⟩ : ∃ n', n = n' + 1 := ⟨n - 1, by omega⟩
  simp only [Nat.add_sub_cancel] at hr ⊢
  have pb : ∀ j, j ≤ 3 → (2 * n') ^ j ≤ 10648 := fun j hj => Nat.le_trans (Nat.pow_le_pow_left (show 2 * n' ≤ 22 by omega) j) (Nat.le_trans (Nat.pow_le_pow_right (by omega) hj) (by decide))
  have pp : ∀ j, 0 < (2 * n') ^ j := fun j => Nat.pow_pos (by omega)
  -- the points that were told
  have l3 : ∀ (s : sS) (hX : mH), mlF h hX Q → mlv hX Q (n' + 1) s → runM (n' + 1) k r st0 = some s → ∀ w u, u + w = n' → fitB (n' + 1) wt s.2.2 = allN (fun p => decide (wt (p + 1) = -1) || decide (wt (p + 1) = nI (s.2.2 (p + 1)))) w u → Z G m_X11_fits d 0 0 0 0 117 [some (.ref Q), some (.int (nI (n' + 1))), some (.int (nI k)), some (.int (nI r)), some (.int (nI ((2 * n') ^ k))), none, none, some (.int (nI (u + 1))), none] [] hX (fun r9 h' => ∃ x, r9 = some (.int (bI x)) ∧ (x = fitM (n' + 1) wt k st0 r ∧ mlF h h' Q ∧ (∃ sp u si, h' (Q + 13) = aI 12 sp ∧ h' (Q + 14) = aI 12 u ∧ h' (Q + 15) = aI 12 si) ∧ (∀ s, runM (n' + 1) k r st0 = some s → mlv h' Q (n' + 1) s))) := by
    intro s hX F M hrun w
    have eF : fitM (n' + 1) wt k st0 r = fitB (n' + 1) wt s.2.2 := by unfold fitM; rw [hrun]
    have rest : mlF h hX Q ∧ (∃ sp u si, hX (Q + 13) = aI 12 sp ∧ hX (Q + 14) = aI 12 u ∧ hX (Q + 15) = aI 12 si) ∧ (∀ s, runM (n' + 1) k r st0 = some s → mlv hX Q (n' + 1) s) := by
      refine ⟨F, ?_, fun s' q => ?_⟩
      · obtain ⟨a, b, c, x1, x2, x3, -⟩ := M
        exact ⟨a, b, c, x1, x2, x3⟩
      · rw [hrun] at q
        cases q
        exact M
    have g0 := (F Q (by omega) (by omega) (by omega)).trans hQ
    have g16 := (F (Q + 16) (by omega) (by omega) (by omega)).trans h16
    obtain ⟨spX, upX, siX, m1, m2, m3, m4, m5⟩ := M
    induction w with
    | zero =>
      intro u hu9 hf
      rw [eF, hf]
      refine z_ild7 (n := 119) (by decide +kernel) ?_
      refine z_ild1 (n := 120) (by decide +kernel) ?_
      refine z_icmp_ge_t (n := 123) (off := 38) (tgt := 158) (by decide +kernel) (by rw [show u = n' by omega]; exact Int32.le_refl _) ?_
      refine z_iconst (n := 159) (q := 1) (v := 1) (by decide +kernel) ?_
      first | refine z_zr1 (by decide +kernel) rfl (Nat.le_refl _) ?_ | refine z_zr0 (by decide +kernel) rfl (Nat.le_refl _) ?_ | refine z_zrb (by decide +kernel) rfl (Nat.le_refl _) ?_
      exact ⟨true, rfl, rfl, rest⟩
    | succ w ih =>
      intro u hu9 hf
      have u12 : u + 1 < 12 := by omega
      rw [allN] at hf
      have es := m5 u (by omega)
      by_cases c1 : wt (u + 1) = -1
      · have hf2 := hf
        rw [decide_eq_true c1, Bool.true_or, Bool.true_and] at hf2
        refine z_ild7 (n := 119) (by decide +kernel) ?_
        refine z_ild1 (n := 120) (by decide +kernel) ?_
        refine z_icmp_ge_f (n := 123) (off := 38) (tgt := 158) (by decide +kernel) (nI_ge (by omega) (by omega)) ?_
        refine z_ald0 (n := 124) (by decide +kernel) ?_
        refine z_getf (n := 127) (idx := 65) (by decide +kernel) fl_X11_65 (by assumption) (by rfl) ?_
        refine z_ild7 (n := 129) (by decide +kernel) ?_
        refine z_iald (n := 130) (by decide +kernel) (by assumption) (by first | assumption | exact ix_nI (by omega) (by omega)) ?_
        refine z_if_lt_t (n := 133) (off := 22) (tgt := 152) (by decide +kernel) (by rw [c1]; decide) ?_
        refine z_inc7 (n := 155) (q := 1) (by decide +kernel) rfl (nI_1 _) ?_
        refine z_goto (n := 158) (off := -38) (tgt := 117) (by decide +kernel) ?_
        exact ih (u + 1) (by omega) hf2
      · have c0 := (hw (u + 1) u12).resolve_left c1
        by_cases c2 : wt (u + 1) = nI (s.2.2 (u + 1))
        · have hf2 := hf
          rw [decide_eq_true c2, Bool.or_true, Bool.true_and] at hf2
          refine z_ild7 (n := 119) (by decide +kernel) ?_
          refine z_ild1 (n := 120) (by decide +kernel) ?_
          refine z_icmp_ge_f (n := 123) (off := 38) (tgt := 158) (by decide +kernel) (nI_ge (by omega) (by omega)) ?_
          refine z_ald0 (n := 124) (by decide +kernel) ?_
          refine z_getf (n := 127) (idx := 65) (by decide +kernel) fl_X11_65 (by assumption) (by rfl) ?_
          refine z_ild7 (n := 129) (by decide +kernel) ?_
          refine z_iald (n := 130) (by decide +kernel) (by assumption) (by first | assumption | exact ix_nI (by omega) (by omega)) ?_
          refine z_if_lt_f (n := 133) (off := 22) (tgt := 152) (by decide +kernel) (Int32.not_lt.mpr c0) ?_
          refine z_ald0 (n := 134) (by decide +kernel) ?_
          refine z_getf (n := 137) (idx := 65) (by decide +kernel) fl_X11_65 (by assumption) (by rfl) ?_
          refine z_ild7 (n := 139) (by decide +kernel) ?_
          refine z_iald (n := 140) (by decide +kernel) (by assumption) (by first | assumption | exact ix_nI (by omega) (by omega)) ?_
          refine z_ald0 (n := 141) (by decide +kernel) ?_
          refine z_getf (n := 144) (idx := 62) (by decide +kernel) fl_X11_62 (by assumption) (by rfl) ?_
          refine z_ild7 (n := 146) (by decide +kernel) ?_
          refine z_iald (n := 147) (by decide +kernel) (by assumption) (by first | assumption | exact ix_nI (by omega) (by omega)) ?_
          refine z_top es ?_
          refine z_icmp_eq_t (n := 150) (off := 5) (tgt := 152) (by decide +kernel) (c2) ?_
          refine z_inc7 (n := 155) (q := 1) (by decide +kernel) rfl (nI_1 _) ?_
          refine z_goto (n := 158) (off := -38) (tgt := 117) (by decide +kernel) ?_
          exact ih (u + 1) (by omega) hf2
        · have hf2 := hf
          rw [decide_eq_false c1, decide_eq_false c2, Bool.false_or, Bool.false_and] at hf2
          rw [eF, hf2]
          refine z_ild7 (n := 119) (by decide +kernel) ?_
          refine z_ild1 (n := 120) (by decide +kernel) ?_
          refine z_icmp_ge_f (n := 123) (off := 38) (tgt := 158) (by decide +kernel) (nI_ge (by omega) (by omega)) ?_
          refine z_ald0 (n := 124) (by decide +kernel) ?_
          refine z_getf (n := 127) (idx := 65) (by decide +kernel) fl_X11_65 (by assumption) (by rfl) ?_
          refine z_ild7 (n := 129) (by decide +kernel) ?_
          refine z_iald (n := 130) (by decide +kernel) (by assumption) (by first | assumption | exact ix_nI (by omega) (by omega)) ?_
          refine z_if_lt_f (n := 133) (off := 22) (tgt := 152) (by decide +kernel) (Int32.not_lt.mpr c0) ?_
          refine z_ald0 (n := 134) (by decide +kernel) ?_
          refine z_getf (n := 137) (idx := 65) (by decide +kernel) fl_X11_65 (by assumption) (by rfl) ?_
          refine z_ild7 (n := 139) (by decide +kernel) ?_
          refine z_iald (n := 140) (by decide +kernel) (by assumption) (by first | assumption | exact ix_nI (by omega) (by omega)) ?_
          refine z_ald0 (n := 141) (by decide +kernel) ?_
          refine z_getf (n := 144) (idx := 62) (by decide +kernel) fl_X11_62 (by assumption) (by rfl) ?_
          refine z_ild7 (n := 146) (by decide +kernel) ?_
          refine z_iald (n := 147) (by decide +kernel) (by assumption) (by first | assumption | exact ix_nI (by omega) (by omega)) ?_
          refine z_top es ?_
          refine z_icmp_eq_f (n := 150) (off := 5) (tgt := 152) (by decide +kernel) (c2) ?_
          refine z_iconst (n := 151) (q := 0) (v := 0) (by decide +kernel) ?_
          first | refine z_zr1 (by decide +kernel) rfl (Nat.le_refl _) ?_ | refine z_zr0 (by decide +kernel) rfl (Nat.le_refl _) ?_ | refine z_zrb (by decide +kernel) rfl (Nat.le_refl _) ?_
          exact ⟨false, rfl, rfl, rest⟩
  have l2 : ∀ w j (st : sS) (q : Nat) (B : Int) (hX : mH), j + w = k → mlF h hX Q → mlv hX Q (n' + 1) st → q < (2 * n') ^ w → runM (n' + 1) k r st0 = runM (n' + 1) w q st → bnS (n' + 1) st B → B + 30 * (w : Int) ≤ 200 → Z G m_X11_fits d 0 0 0 0 50 [some (.ref Q), some (.int (nI (n' + 1))), some (.int (nI k)), some (.int (nI r)), some (.int (nI ((2 * n') ^ k))), some (.int (nI q)), some (.int (nI ((2 * n') ^ w))), some (.int (nI j)), none] [] hX (fun r9 h' => ∃ x, r9 = some (.int (bI x)) ∧ (x = fitM (n' + 1) wt k st0 r ∧ mlF h h' Q ∧ (∃ sp u si, h' (Q + 13) = aI 12 sp ∧ h' (Q + 14) = aI 12 u ∧ h' (Q + 15) = aI 12 si) ∧ (∀ s, runM (n' + 1) k r st0 = some s → mlv h' Q (n' + 1) s))) := by
    intro w
    induction w with
    | zero =>
      intro j st q B hX hj F M hq hrun hb hB
      rw [runM] at hrun
      refine z_ild7 (n := 52) (by decide +kernel) ?_
      refine z_ild2 (n := 53) (by decide +kernel) ?_
      refine z_icmp_ge_t (n := 56) (off := 61) (tgt := 114) (by decide +kernel) (by rw [show j = k by omega]; exact Int32.le_refl _) ?_
      refine z_iconst (n := 115) (q := 1) (v := 1) (by decide +kernel) ?_
      refine z_ist7 (n := 117) (by decide +kernel) rfl ?_
      exact z_wk (lv' := [some (.ref Q), some (.int (nI (n' + 1))), some (.int (nI k)), some (.int (nI r)), some (.int (nI ((2 * n') ^ k))), none, none, some (.int (nI (0 + 1))), none]) (by simp [wk]; rfl) (l3 st hX F M hrun n' 0 (by omega) (by unfold fitB; rw [Nat.add_sub_cancel]))
    | succ w ih =>
      intro j st q B hX hj F M hq hrun hb hB
      rw [runM, Nat.add_sub_cancel] at hrun
      have w3 : w ≤ 3 := by omega
      have pw := pb w w3
      have pw1 := pb (w + 1) (by omega)
      have p0 := pp w
      have q0 : q < 10648 := by omega
      have e1 : (2 * n') ^ (w + 1) / (2 * n') = (2 * n') ^ w := by rw [Nat.pow_succ, Nat.mul_div_cancel _ (by omega)]
      have f22 : q / (2 * n') ^ w < 2 * n' := by
        rw [Nat.div_lt_iff_lt_mul p0]
        rw [Nat.pow_succ, Nat.mul_comm] at hq
        exact hq
      generalize hf : q / (2 * n') ^ w = f at *
      have qm : q % (2 * n') ^ w < (2 * n') ^ w := Nat.mod_lt _ p0
      have g0 := (F Q (by omega) (by omega) (by omega)).trans hQ
      have xb : 0 ≤ (digL f).toInt ∧ (digL f).toInt ≤ 12 := by unfold digL; rw [nI_toInt (by omega)]; omega
      have bb : ∀ u, u < n' + 1 → -200 ≤ (st.1 u).toInt ∧ (st.1 u).toInt ≤ 200 := fun u hu9 => by have := hb.1 u hu9; omega
      have f100 : ∀ b, b = digR f → Z G m_X11_fits d 0 0 0 0 100 [some (.ref Q), some (.int (nI (n' + 1))), some (.int (nI k)), some (.int (nI r)), some (.int (nI ((2 * n') ^ k))), some (.int (nI (q % (2 * n') ^ w))), some (.int (nI ((2 * n') ^ w))), some (.int (nI j)), some (.int (nI f))] [.int (bI b), .int (digL f), .int (nI (n' + 1)), .ref Q] hX (fun r9 h' => ∃ x, r9 = some (.int (bI x)) ∧ (x = fitM (n' + 1) wt k st0 r ∧ mlF h h' Q ∧ (∃ sp u si, h' (Q + 13) = aI 12 sp ∧ h' (Q + 14) = aI 12 u ∧ h' (Q + 15) = aI 12 si) ∧ (∀ s, runM (n' + 1) k r st0 = some s → mlv h' Q (n' + 1) s))) := by
        intro b hb9
        subst hb9
        refine z_w3 (n := 103) (idx := 234) (by decide +kernel) ml_X11_234 (by assumption) rfl (Nat.le_of_ble_eq_true rfl) (by omega) ⟨Nat.le_refl _, Nat.le_refl _⟩ (m_folds (n := n' + 1) (x := digL f) (right := digR f) (st := st) 1 (by omega) (by omega) hn xb bb g0 M) (fun h100 q100 => ?_)
        skip
        obtain ⟨y1, y2, y3⟩ := q100
        by_cases c : lgS (n' + 1) (digL f) st = true
        · rw [if_pos c] at hrun
          refine z_ifb_ne_t (n := 106) (off := 5) (tgt := 108) (by decide +kernel) (c) ?_
          refine z_inc7 (n := 111) (q := 1) (by decide +kernel) rfl (nI_1 _) ?_
          refine z_goto (n := 114) (off := -61) (tgt := 50) (by decide +kernel) ?_
          exact z_wk (lv' := [some (.ref Q), some (.int (nI (n' + 1))), some (.int (nI k)), some (.int (nI r)), some (.int (nI ((2 * n') ^ k))), some (.int (nI (q % (2 * n') ^ w))), some (.int (nI ((2 * n') ^ w))), some (.int (nI (j + 1))), none]) (by simp [wk]) (ih (j + 1) _ _ (B + 30) h100 (by omega) (mlF_tr F y1) (y2 c) qm hrun (bnS_st hb (by omega) xb) (by omega))
        · rw [if_neg c] at hrun
          have c' := Bool.eq_false_iff.mpr c
          refine z_ifb_ne_f (n := 106) (off := 5) (tgt := 108) (by decide +kernel) (c') ?_
          refine z_iconst (n := 107) (q := 0) (v := 0) (by decide +kernel) ?_
          first | refine z_zr1 (by decide +kernel) rfl (Nat.le_refl _) ?_ | refine z_zr0 (by decide +kernel) rfl (Nat.le_refl _) ?_ | refine z_zrb (by decide +kernel) rfl (Nat.le_refl _) ?_
          exact ⟨false, rfl, by unfold fitM; rw [hrun], mlF_tr F y1, by obtain ⟨a, b, c, x1, x2, x3, -⟩ := y3 c'; exact ⟨a, b, c, x1, x2, x3⟩, fun s z => by rw [hrun] at z; cases z⟩
      have hd1 : (1 : Int32) + nI (f / 2) = digL f := nI_add 1 (f / 2)
      by_cases c : f % 2 = 0
      · refine z_ild7 (n := 52) (by decide +kernel) ?_
        refine z_ild2 (n := 53) (by decide +kernel) ?_
        refine z_icmp_ge_f (n := 56) (off := 61) (tgt := 114) (by decide +kernel) (nI_ge (by omega) (by omega)) ?_
        refine z_ild6 (n := 58) (by decide +kernel) ?_
        refine z_iconst (n := 59) (q := 2) (v := 2) (by decide +kernel) ?_
        refine z_ild1 (n := 60) (by decide +kernel) ?_
        refine z_iconst (n := 61) (q := 1) (v := 1) (by decide +kernel) ?_
        refine z_isub (n := 62) (by decide +kernel) ?_
        refine z_top (nI_pred _) ?_
        refine z_imul (n := 63) (by decide +kernel) ?_
        refine z_top (show (2 : Int32) * nI n' = nI (2 * n') from pk_mul 2 n') ?_
        refine z_idiv (n := 64) (by decide +kernel) (nI_ne0 (by omega) (by omega)) ?_
        refine z_top ((pk_div (by omega) (by omega) (by omega)).trans (congrArg nI e1)) ?_
        refine z_ist6 (n := 66) (by decide +kernel) rfl ?_
        refine z_ild5 (n := 68) (by decide +kernel) ?_
        refine z_ild6 (n := 70) (by decide +kernel) ?_
        refine z_idiv (n := 71) (by decide +kernel) (nI_ne0 p0 (by omega)) ?_
        refine z_top ((pk_div (by omega) p0 (by omega)).trans (congrArg nI hf)) ?_
        refine z_ist8 (n := 73) (by decide +kernel) rfl ?_
        refine z_ild5 (n := 75) (by decide +kernel) ?_
        refine z_ild6 (n := 77) (by decide +kernel) ?_
        refine z_irem (n := 78) (by decide +kernel) (nI_ne0 p0 (by omega)) ?_
        refine z_top (pk_rem (by omega) p0 (by omega)) ?_
        refine z_ist5 (n := 80) (by decide +kernel) rfl ?_
        refine z_ald0 (n := 81) (by decide +kernel) ?_
        refine z_ild1 (n := 82) (by decide +kernel) ?_
        refine z_iconst (n := 83) (q := 1) (v := 1) (by decide +kernel) ?_
        refine z_ild8 (n := 85) (by decide +kernel) ?_
        refine z_iconst (n := 86) (q := 2) (v := 2) (by decide +kernel) ?_
        refine z_idiv (n := 87) (by decide +kernel) (by decide) ?_
        refine z_top (pk_div (d := 2) (by omega) (by decide) (by decide)) ?_
        refine z_iadd (n := 88) (by decide +kernel) ?_
        refine z_top hd1 ?_
        refine z_ild8 (n := 90) (by decide +kernel) ?_
        refine z_iconst (n := 91) (q := 2) (v := 2) (by decide +kernel) ?_
        refine z_irem (n := 92) (by decide +kernel) (by decide) ?_
        refine z_top (pk_rem (d := 2) (by omega) (by decide) (by decide)) ?_
        refine z_if_ne_f (n := 95) (off := 7) (tgt := 99) (by decide +kernel) (by rw [c]; rfl) ?_
        refine z_iconst (n := 96) (q := 1) (v := 1) (by decide +kernel) ?_
        refine z_goto (n := 99) (off := 4) (tgt := 100) (by decide +kernel) ?_
        exact f100 true (by unfold digR; rw [decide_eq_true c])
      · refine z_ild7 (n := 52) (by decide +kernel) ?_
        refine z_ild2 (n := 53) (by decide +kernel) ?_
        refine z_icmp_ge_f (n := 56) (off := 61) (tgt := 114) (by decide +kernel) (nI_ge (by omega) (by omega)) ?_
        refine z_ild6 (n := 58) (by decide +kernel) ?_
        refine z_iconst (n := 59) (q := 2) (v := 2) (by decide +kernel) ?_
        refine z_ild1 (n := 60) (by decide +kernel) ?_
        refine z_iconst (n := 61) (q := 1) (v := 1) (by decide +kernel) ?_
        refine z_isub (n := 62) (by decide +kernel) ?_
        refine z_top (nI_pred _) ?_
        refine z_imul (n := 63) (by decide +kernel) ?_
        refine z_top (show (2 : Int32) * nI n' = nI (2 * n') from pk_mul 2 n') ?_
        refine z_idiv (n := 64) (by decide +kernel) (nI_ne0 (by omega) (by omega)) ?_
        refine z_top ((pk_div (by omega) (by omega) (by omega)).trans (congrArg nI e1)) ?_
        refine z_ist6 (n := 66) (by decide +kernel) rfl ?_
        refine z_ild5 (n := 68) (by decide +kernel) ?_
        refine z_ild6 (n := 70) (by decide +kernel) ?_
        refine z_idiv (n := 71) (by decide +kernel) (nI_ne0 p0 (by omega)) ?_
        refine z_top ((pk_div (by omega) p0 (by omega)).trans (congrArg nI hf)) ?_
        refine z_ist8 (n := 73) (by decide +kernel) rfl ?_
        refine z_ild5 (n := 75) (by decide +kernel) ?_
        refine z_ild6 (n := 77) (by decide +kernel) ?_
        refine z_irem (n := 78) (by decide +kernel) (nI_ne0 p0 (by omega)) ?_
        refine z_top (pk_rem (by omega) p0 (by omega)) ?_
        refine z_ist5 (n := 80) (by decide +kernel) rfl ?_
        refine z_ald0 (n := 81) (by decide +kernel) ?_
        refine z_ild1 (n := 82) (by decide +kernel) ?_
        refine z_iconst (n := 83) (q := 1) (v := 1) (by decide +kernel) ?_
        refine z_ild8 (n := 85) (by decide +kernel) ?_
        refine z_iconst (n := 86) (q := 2) (v := 2) (by decide +kernel) ?_
        refine z_idiv (n := 87) (by decide +kernel) (by decide) ?_
        refine z_top (pk_div (d := 2) (by omega) (by decide) (by decide)) ?_
        refine z_iadd (n := 88) (by decide +kernel) ?_
        refine z_top hd1 ?_
        refine z_ild8 (n := 90) (by decide +kernel) ?_
        refine z_iconst (n := 91) (q := 2) (v := 2) (by decide +kernel) ?_
        refine z_irem (n := 92) (by decide +kernel) (by decide) ?_
        refine z_top (pk_rem (d := 2) (by omega) (by decide) (by decide)) ?_
        refine z_if_ne_t (n := 95) (off := 7) (tgt := 99) (by decide +kernel) (nI_ne0 (by omega) (by omega)) ?_
        refine z_iconst (n := 100) (q := 0) (v := 0) (by decide +kernel) ?_
        exact f100 false (by unfold digR; rw [decide_eq_false c])
  have l1 : ∀ w u, u + w = n' + 1 → ∀ (hX : mH) (sp up si : Nat → Int32), mlF h hX Q → hX (Q + 13) = aI 12 sp → hX (Q + 14) = aI 12 up → hX (Q + 15) = aI 12 si → (∀ v, v < u → sp v = nI v ∧ up v = 1 ∧ si v = 0) → Z G m_X11_fits d 0 0 0 0 3 [some (.ref Q), some (.int (nI (n' + 1))), some (.int (nI k)), some (.int (nI r)), some (.int (nI ((2 * n') ^ k))), some (.int (nI u)), none, none, none] [] hX (fun r9 h' => ∃ x, r9 = some (.int (bI x)) ∧ (x = fitM (n' + 1) wt k st0 r ∧ mlF h h' Q ∧ (∃ sp u si, h' (Q + 13) = aI 12 sp ∧ h' (Q + 14) = aI 12 u ∧ h' (Q + 15) = aI 12 si) ∧ (∀ s, runM (n' + 1) k r st0 = some s → mlv h' Q (n' + 1) s))) := by
    intro w
    induction w with
    | zero =>
      intro u hu9 hX sp up si F a1 a2 a3 a4
      have M : mlv hX Q (n' + 1) st0 := ⟨sp, up, si, a1, a2, a3, fun v hv => ⟨(a4 v (by omega)).1, (a4 v (by omega)).2.1⟩, fun p hp => (a4 (p + 1) (by omega)).2.2⟩
      refine z_ild5 (n := 5) (by decide +kernel) ?_
      refine z_ild1 (n := 6) (by decide +kernel) ?_
      refine z_icmp_ge_t (n := 9) (off := 34) (tgt := 40) (by decide +kernel) (by rw [show u = n' + 1 by omega]; exact Int32.le_refl _) ?_
      refine z_ild3 (n := 41) (by decide +kernel) ?_
      refine z_ist5 (n := 43) (by decide +kernel) rfl ?_
      refine z_ild4 (n := 45) (by decide +kernel) ?_
      refine z_ist6 (n := 47) (by decide +kernel) rfl ?_
      refine z_iconst (n := 48) (q := 0) (v := 0) (by decide +kernel) ?_
      refine z_ist7 (n := 50) (by decide +kernel) rfl ?_
      exact z_wk (lv' := [some (.ref Q), some (.int (nI (n' + 1))), some (.int (nI k)), some (.int (nI r)), some (.int (nI ((2 * n') ^ k))), some (.int (nI r)), some (.int (nI ((2 * n') ^ k))), some (.int (nI 0)), none]) (by simp [wk]; rfl) (l2 k 0 st0 r 20 hX (by omega) F M hr rfl (bnS_mono (bnS_0 hn) (by omega)) (by omega))
    | succ w ih =>
      intro u hu9 hX sp up si F a1 a2 a3 a4
      have u12 : u < 12 := by omega
      have g0 := (F Q (by omega) (by omega) (by omega)).trans hQ
      refine z_ild5 (n := 5) (by decide +kernel) ?_
      refine z_ild1 (n := 6) (by decide +kernel) ?_
      refine z_icmp_ge_f (n := 9) (off := 34) (tgt := 40) (by decide +kernel) (nI_ge (by omega) (by omega)) ?_
      refine z_ald0 (n := 10) (by decide +kernel) ?_
      refine z_getf (n := 13) (idx := 56) (by decide +kernel) fl_X11_56 (by first | assumption | (simp (disch := omega) only [hu_s, hu_n]; first | assumption | rfl)) (by rfl) ?_
      refine z_ild5 (n := 15) (by decide +kernel) ?_
      refine z_ild5 (n := 17) (by decide +kernel) ?_
      refine z_iast (n := 18) (by decide +kernel) (by first | assumption | (simp (disch := omega) only [hu_s, hu_n]; first | assumption | rfl)) (by first | assumption | exact ix_nI (by omega) (by omega)) ?_
      refine z_ald0 (n := 19) (by decide +kernel) ?_
      refine z_getf (n := 22) (idx := 59) (by decide +kernel) fl_X11_59 (by first | assumption | (simp (disch := omega) only [hu_s, hu_n]; first | assumption | rfl)) (by rfl) ?_
      refine z_ild5 (n := 24) (by decide +kernel) ?_
      refine z_iconst (n := 25) (q := 1) (v := 1) (by decide +kernel) ?_
      refine z_iast (n := 26) (by decide +kernel) (by first | assumption | (simp (disch := omega) only [hu_s, hu_n]; first | assumption | rfl)) (by first | assumption | exact ix_nI (by omega) (by omega)) ?_
      refine z_ald0 (n := 27) (by decide +kernel) ?_
      refine z_getf (n := 30) (idx := 62) (by decide +kernel) fl_X11_62 (by first | assumption | (simp (disch := omega) only [hu_s, hu_n]; first | assumption | rfl)) (by rfl) ?_
      refine z_ild5 (n := 32) (by decide +kernel) ?_
      refine z_iconst (n := 33) (q := 0) (v := 0) (by decide +kernel) ?_
      refine z_iast (n := 34) (by decide +kernel) (by first | assumption | (simp (disch := omega) only [hu_s, hu_n]; first | assumption | rfl)) (by first | assumption | exact ix_nI (by omega) (by omega)) ?_
      refine z_inc5 (n := 37) (q := 1) (by decide +kernel) rfl (nI_1 _) ?_
      refine z_goto (n := 40) (off := -34) (tgt := 3) (by decide +kernel) ?_
      skip
      refine ih (u + 1) (by omega) _ (upd sp u (nI u)) (upd up u 1) (upd si u 0) (mlF_tr F (fun j p q r => by rw [hu_n r, hu_n q, hu_n p])) (by simp (disch := omega) only [hTn, hCr, hFl, hu_s, hu_n]; first | done | assumption | rfl) (by simp (disch := omega) only [hTn, hCr, hFl, hu_s, hu_n]; first | done | assumption | rfl) (by simp (disch := omega) only [hTn, hCr, hFl, hu_s, hu_n]; first | done | assumption | rfl) (fun v hv => ?_)
      by_cases c : v = u
      · subst c; rw [upd_ss, upd_ss, upd_ss]; exact ⟨rfl, rfl, rfl⟩
      · rw [upd_nn c, upd_nn c, upd_nn c]; exact a4 v (by omega)
  refine ev_5_4 rfl rfl rfl rfl rfl (by decide +kernel) (by decide +kernel) ?_
  refine z_iconst (n := 1) (q := 0) (v := 0) (by decide +kernel) ?_
  refine z_ist5 (n := 3) (by decide +kernel) rfl ?_
  exact l1 (n' + 1) 0 (by omega) h sp up si mlF_rf h13 h14 h15 (fun v hv => absurd hv (Nat.not_lt_zero _))
