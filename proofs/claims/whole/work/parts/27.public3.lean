/-! CreasedPaper: rests, stays, snap, about -/
def tqA (e : eS) (i : Nat) : Nat → Int32 := fun j => tqF e i (ang j)
theorem rstI_c {T T' : Nat → Int32} {i : Nat} {p : Int32} (h : ∀ j, j < 361 → T j = T' j) (hi : i ≤ 360) : rstI T i p = rstI T' i p := by
  by_cases e : i = 360
  · subst e
    have : ¬ ang 360 < 180 := by decide
    simp only [rstI, h 360 (by omega), eq_false this, decide_false, Bool.false_and]
  · simp only [rstI, h i (by omega), h (i + 1) (by omega)]
theorem styI_c {T T' : Nat → Int32} {i : Nat} {p : Int32} (h : ∀ j, j < 361 → T j = T' j) (hi : i ≤ 360) : styI T i p = styI T' i p := by
  by_cases e : i = 360
  · subst e
    have : (180 : Int32) ≤ ang 360 := by decide
    simp only [styI, rstI_c h hi, h (360 - 1) (by omega), eq_true this, decide_true, Bool.true_or]
  · simp only [styI, rstI_c h hi, h (i - 1) (by omega), h (i + 1) (by omega)]
theorem cnb_c {b b' : Nat → Bool} : ∀ n, (∀ j, j < n → b j = b' j) → cnb b n = cnb b' n
  | 0, _ => rfl
  | n + 1, h => by simp only [cnb, cnb_c n (fun j hj => h j (by omega)), h n (by omega)]
theorem fsT_c {b b' : Nat → Bool} : ∀ r u, (∀ j, u ≤ j → j < u + r → b j = b' j) → fsT b r u = fsT b' r u
  | 0, u, _ => rfl
  | r + 1, u, h => by simp only [fsT, h u (by omega) (by omega), fsT_c r (u + 1) (fun j h1 h2 => h j (by omega) (by omega))]
theorem nrO_c {s s' : Nat → Bool} {i : Nat} (hi : i ≤ 360) (h : ∀ j, j ≤ 360 → s j = s' j) : ∀ r w, nrO s i r w = nrO s' i r w
  | 0, w => rfl
  | r + 1, w => by
    have e1 : (i + w ≤ 360 ∧ s (i + w) = true) ↔ (i + w ≤ 360 ∧ s' (i + w) = true) := ⟨fun q => ⟨q.1, by rw [← h _ q.1]; exact q.2⟩, fun q => ⟨q.1, by rw [h _ q.1]; exact q.2⟩⟩
    simp only [nrO, h (i - w) (by omega), e1, nrO_c hi h r (w + 1)]
theorem folT_c {T T' : Nat → Int32} {p sn fp : Int32} {i : Nat} (h : ∀ j, j < 361 → T j = T' j) (hi : i ≤ 360) : folT T p i sn fp = folT T' p i sn fp := by
  simp only [folT, styI_c h hi, nrO_c (s := fun j => styI T j p) (s' := fun j => styI T' j p) hi (fun j hj => styI_c h hj)]
theorem psT_c {T T' : Nat → Int32} {p st : Int32} {i0 : Nat} (h : ∀ j, j < 361 → T j = T' j) (h0 : i0 ≤ 360) : ∀ n, psT T p st i0 n = psT T' p st i0 n
  | 0 => rfl
  | n + 1 => by
    have ih := psT_c (p := p) (st := st) h h0 n
    show (match psT T p st i0 n with | (none, a, b) => (none, a, b) | (some i, a, b) => folT T (p + nI (n + 1) * st) i a b) = (match psT T' p st i0 n with | (none, a, b) => (none, a, b) | (some i, a, b) => folT T' (p + nI (n + 1) * st) i a b)
    rw [ih]
    rcases e : psT T' p st i0 n with ⟨o, a, b⟩
    cases o with
    | none => rfl
    | some i => exact folT_c h (psT_le h0 n i (by rw [e]))
theorem cp361 {f g : Nat → Int32} : ∀ j, j < 361 → cpN f g 361 j = f j := fun j hj => cpN_at hj
def resF (e : eS) (x p i : Int32) : Int32 := if (hasB (nI e.1) x && win p (-1000000) 1000000 && decide ((-1 : Int32) ≤ i)) = true then (if i = -1 then nI (cnb (fun j => rstI (tqA e x.toNatClampNeg) j p) 361) else if rsaF (tqA e x.toNatClampNeg) p i 361 0 < 361 then ang (rsaF (tqA e x.toNatClampNeg) p i 361 0) else -1000) else -1000
theorem k_rests {G : mG} {h : mH} {C n : Nat} {p po : pS} {e eo : eS} {y yo : yS} {ln : Nat} {bt : Nat → Int32} {wr : Bool} {fk fp sp : Int32} {x q i : Int32} (d : Nat) (hd : 3 ≤ d) (he : e.1 ≤ 6) (hc : clsP h C n p po e eo y yo ln bt wr fk fp sp) : EV G m_X10_rests d 0 0 [.ref C, .int x, .int q, .int i] h (fun v h' => v = some (.int (resF e x q i)) ∧ frm h h' C (C + 102) ∧ clsP h' C n p po e eo y yo ln bt wr fk fp sp) := by
  have hc0 := hc
  obtain ⟨hC, -, -, hs, -, -, -, -, -, ⟨⟨an, sn, f9, hH⟩, ⟨T0, hT⟩⟩, -⟩ := hc
  have hE := hs.1
  refine ev_4_0 rfl rfl rfl rfl (by decide +kernel) (by decide +kernel) ?_
  have fin : hasB (nI e.1) x = true → win q (-1000000) 1000000 = true → (-1 : Int32) ≤ i → Z G m_X10_rests d 0 0 0 0 27 [some (.ref C), some (.int x), some (.int q), some (.int i)] [] h (fun v h' => v = some (.int (resF e x q i)) ∧ frm h h' C (C + 102) ∧ clsP h' C n p po e eo y yo ln bt wr fk fp sp) := by
    intro c1 c2 c3
    have e9 : resF e x q i = _ := if_pos (by simp only [c1, c2, eq_true c3, decide_true, Bool.and_self])
    rw [e9]
    obtain ⟨u, hu9, rfl⟩ := has_nat (by omega) c1
    rw [nI_clamp (by omega)]
    have k1 : cnb (fun j => rstI (cpN (fun j => tqF e u (ang j)) T0 361) j q) 361 = cnb (fun j => rstI (tqA e u) j q) 361 := cnb_c 361 (fun j hj => rstI_c cp361 (by omega))
    have k2 : rsaF (cpN (fun j => tqF e u (ang j)) T0 361) q i 361 0 = rsaF (tqA e u) q i 361 0 := by
      unfold rsaF
      refine fsT_c 361 0 (fun j _ hj => ?_)
      rw [rstI_c (T := cpN (fun j => tqF e u (ang j)) T0 361) (T' := tqA e u) (i := j) cp361 (by omega), cnb_c j (b := fun i => rstI (cpN (fun j => tqF e u (ang j)) T0 361) i q) (b' := fun i => rstI (tqA e u) i q) (fun r hr => rstI_c cp361 (by omega))]
    refine z_ald0 (n := 28) (by decide +kernel) ?_
    refine z_getf (n := 31) (idx := 67) (by decide +kernel) fl_X10_67 (by first | assumption | (simp (disch := omega) only [hu_s, hu_n]; first | assumption | rfl)) (by rfl) ?_
    refine z_ald0 (n := 32) (by decide +kernel) ?_
    refine z_getf (n := 35) (idx := 33) (by decide +kernel) fl_X10_33 (by first | assumption | (simp (disch := omega) only [hu_s, hu_n]; first | assumption | rfl)) (by rfl) ?_
    refine z_ild1 (n := 36) (by decide +kernel) ?_
    refine z_v2v (n := 39) (idx := 218) (by decide +kernel) ml_X10_218 (by first | assumption | (simp (disch := omega) only [hu_s, hu_n]; first | assumption | rfl)) rfl (Nat.le_of_ble_eq_true rfl) (by omega) ⟨Nat.le_refl _, Nat.le_refl _⟩ (k_shTake 1 (by omega) hs hH hT (by omega) (by omega)) ?_
    refine z_ild3 (n := 40) (by decide +kernel) ?_
    refine z_iconst (n := 41) (q := -1) (v := -1) (by decide +kernel) ?_
    refine z_icmp_ne (n := 44) (off := 14) (tgt := 55) (by decide +kernel) (fun c41 => ?_) (fun c41 => ?_)
    · refine z_ald0 (n := 56) (by decide +kernel) ?_
      refine z_getf (n := 59) (idx := 67) (by decide +kernel) fl_X10_67 (by first | assumption | (simp (disch := omega) only [hu_s, hu_n]; first | assumption | rfl)) (by rfl) ?_
      refine z_ild2 (n := 60) (by decide +kernel) ?_
      refine z_ild3 (n := 61) (by decide +kernel) ?_
      refine z_v2 (n := 64) (idx := 225) (by decide +kernel) ml_X10_225 (by first | assumption | (simp (disch := omega) only [hu_s, hu_n]; first | assumption | rfl)) rfl (Nat.le_of_ble_eq_true rfl) (by omega) ⟨Nat.le_refl _, Nat.le_refl _⟩ (k_restingAngle (T := cpN (fun j => tqF e u (ang j)) T0 361) 1 (by omega) (by simp (disch := omega) only [hTn, hCr, hFl, hu_s, hu_n]; first | done | assumption | rfl) (by simp (disch := omega) only [hTn, hCr, hFl, hu_s, hu_n]; first | done | assumption | rfl)) ?_
      refine z_iret (by decide +kernel) rfl (Nat.le_refl _) ?_
      exact ⟨by simp only [eq_false c41, if_true, if_false, k1, k2], by intro j9 hj9; simp (disch := omega) only [hu_n], cls_sha hc0 (by intro j9 hj9; simp (disch := omega) only [hu_n]) ⟨⟨an, sn, f9, (by simp (disch := omega) only [hTn, hCr, hFl, hu_s, hu_n]; first | done | assumption | rfl)⟩, ⟨_, (by simp (disch := omega) only [hTn, hCr, hFl, hu_s, hu_n]; first | done | assumption | rfl)⟩⟩⟩
    · refine z_ald0 (n := 45) (by decide +kernel) ?_
      refine z_getf (n := 48) (idx := 67) (by decide +kernel) fl_X10_67 (by first | assumption | (simp (disch := omega) only [hu_s, hu_n]; first | assumption | rfl)) (by rfl) ?_
      refine z_ild2 (n := 49) (by decide +kernel) ?_
      refine z_v1 (n := 52) (idx := 222) (by decide +kernel) ml_X10_222 (by first | assumption | (simp (disch := omega) only [hu_s, hu_n]; first | assumption | rfl)) rfl (Nat.le_of_ble_eq_true rfl) (by omega) ⟨Nat.le_refl _, Nat.le_refl _⟩ (k_countResting (T := cpN (fun j => tqF e u (ang j)) T0 361) 1 (by omega) (by simp (disch := omega) only [hTn, hCr, hFl, hu_s, hu_n]; first | done | assumption | rfl) (by simp (disch := omega) only [hTn, hCr, hFl, hu_s, hu_n]; first | done | assumption | rfl)) ?_
      refine z_goto (n := 55) (off := 12) (tgt := 64) (by decide +kernel) ?_
      refine z_iret (by decide +kernel) rfl (Nat.le_refl _) ?_
      exact ⟨by simp only [eq_true c41, if_true, if_false, k1, k2], by intro j9 hj9; simp (disch := omega) only [hu_n], cls_sha hc0 (by intro j9 hj9; simp (disch := omega) only [hu_n]) ⟨⟨an, sn, f9, (by simp (disch := omega) only [hTn, hCr, hFl, hu_s, hu_n]; first | done | assumption | rfl)⟩, ⟨_, (by simp (disch := omega) only [hTn, hCr, hFl, hu_s, hu_n]; first | done | assumption | rfl)⟩⟩⟩
  refine z_ald0 (n := 1) (by decide +kernel) ?_
  refine z_getf (n := 4) (idx := 33) (by decide +kernel) fl_X10_33 (by first | assumption | (simp (disch := omega) only [hu_s, hu_n]; first | assumption | rfl)) (by rfl) ?_
  refine z_ild1 (n := 5) (by decide +kernel) ?_
  refine z_v1 (n := 8) (idx := 208) (by decide +kernel) ml_X10_208 (by first | assumption | (simp (disch := omega) only [hu_s, hu_n]; first | assumption | rfl)) rfl (Nat.le_of_ble_eq_true rfl) (by omega) ⟨Nat.le_refl _, Nat.le_refl _⟩ (k_has 0 hE) ?_
  refine z_ifb_eq (n := 11) (off := 15) (tgt := 23) (by decide +kernel) (fun c8 => ?_) (fun c8 => ?_)
  · refine z_sipush (n := 26) (q := -1000) (v := -1000) (by decide +kernel) ?_
    refine z_iret (by decide +kernel) rfl (Nat.le_refl _) ?_
    exact ⟨by unfold resF; rw [if_neg (by unfold hasB; simp only [c8, decide_false, Bool.and_false, Bool.false_and]; decide)], frm_rf, hc0⟩
  · refine z_ild2 (n := 12) (by decide +kernel) ?_
    refine z_s1 (n := 15) (idx := 215) (by decide +kernel) ml_X10_215 (Nat.le_of_ble_eq_true rfl) (by omega) ⟨Nat.le_refl _, Nat.le_refl _⟩ (k_isPush 1 (by omega)) ?_
    refine z_ifb_eq (n := 18) (off := 8) (tgt := 23) (by decide +kernel) (fun c15 => ?_) (fun c15 => ?_)
    · refine z_sipush (n := 26) (q := -1000) (v := -1000) (by decide +kernel) ?_
      refine z_iret (by decide +kernel) rfl (Nat.le_refl _) ?_
      exact ⟨by unfold resF; rw [if_neg (by unfold hasB; simp only [c8, c15, decide_false, Bool.and_false, Bool.false_and]; decide)], frm_rf, hc0⟩
    · refine z_ild3 (n := 19) (by decide +kernel) ?_
      refine z_iconst (n := 20) (q := -1) (v := -1) (by decide +kernel) ?_
      refine z_icmp_ge (n := 23) (off := 7) (tgt := 27) (by decide +kernel) (fun c20 => ?_) (fun c20 => ?_)
      · exact fin c8 c15 c20
      · refine z_sipush (n := 26) (q := -1000) (v := -1000) (by decide +kernel) ?_
        refine z_iret (by decide +kernel) rfl (Nat.le_refl _) ?_
        exact ⟨by unfold resF; rw [if_neg (by unfold hasB; simp only [c8, c15, eq_false c20, decide_false, Bool.and_false, Bool.false_and]; decide)], frm_rf, hc0⟩
def staF (e : eS) (x p a : Int32) : Int32 := if (hasB (nI e.1) x && win p (-1000000) 1000000 && win a (-180) 180) = true then bI (styI (tqA e x.toNatClampNeg) (a + 180).toNatClampNeg p) else -1
theorem k_stays {G : mG} {h : mH} {C n : Nat} {p po : pS} {e eo : eS} {y yo : yS} {ln : Nat} {bt : Nat → Int32} {wr : Bool} {fk fp sp : Int32} {x q a : Int32} (d : Nat) (hd : 3 ≤ d) (he : e.1 ≤ 6) (hc : clsP h C n p po e eo y yo ln bt wr fk fp sp) : EV G m_X10_stays d 0 0 [.ref C, .int x, .int q, .int a] h (fun v h' => v = some (.int (staF e x q a)) ∧ frm h h' C (C + 102) ∧ clsP h' C n p po e eo y yo ln bt wr fk fp sp) := by
  have hc0 := hc
  obtain ⟨hC, -, -, hs, -, -, -, -, -, ⟨⟨an, sn, f9, hH⟩, ⟨T0, hT⟩⟩, -⟩ := hc
  have hE := hs.1
  refine ev_4_0 rfl rfl rfl rfl (by decide +kernel) (by decide +kernel) ?_
  have fin : hasB (nI e.1) x = true → win q (-1000000) 1000000 = true → win a (-180) 180 = true → Z G m_X10_stays d 0 0 0 0 27 [some (.ref C), some (.int x), some (.int q), some (.int a)] [] h (fun v h' => v = some (.int (staF e x q a)) ∧ frm h h' C (C + 102) ∧ clsP h' C n p po e eo y yo ln bt wr fk fp sp) := by
    intro c1 c2 c3
    have e9 : staF e x q a = _ := if_pos (by simp only [c1, c2, c3, Bool.and_self])
    rw [e9]
    obtain ⟨u, hu9, rfl⟩ := has_nat (by omega) c1
    obtain ⟨i, hi, rfl⟩ := win_ang c3
    rw [nI_clamp (by omega), ang_ix, nI_clamp (by omega), ← styI_c (T := cpN (fun j => tqF e u (ang j)) T0 361) (T' := tqA e u) cp361 hi]
    refine z_ald0 (n := 28) (by decide +kernel) ?_
    refine z_getf (n := 31) (idx := 67) (by decide +kernel) fl_X10_67 (by first | assumption | (simp (disch := omega) only [hu_s, hu_n]; first | assumption | rfl)) (by rfl) ?_
    refine z_ald0 (n := 32) (by decide +kernel) ?_
    refine z_getf (n := 35) (idx := 33) (by decide +kernel) fl_X10_33 (by first | assumption | (simp (disch := omega) only [hu_s, hu_n]; first | assumption | rfl)) (by rfl) ?_
    refine z_ild1 (n := 36) (by decide +kernel) ?_
    refine z_v2v (n := 39) (idx := 218) (by decide +kernel) ml_X10_218 (by first | assumption | (simp (disch := omega) only [hu_s, hu_n]; first | assumption | rfl)) rfl (Nat.le_of_ble_eq_true rfl) (by omega) ⟨Nat.le_refl _, Nat.le_refl _⟩ (k_shTake 1 (by omega) hs hH hT (by omega) (by omega)) ?_
    refine z_ald0 (n := 40) (by decide +kernel) ?_
    refine z_getf (n := 43) (idx := 67) (by decide +kernel) fl_X10_67 (by first | assumption | (simp (disch := omega) only [hu_s, hu_n]; first | assumption | rfl)) (by rfl) ?_
    refine z_ild3 (n := 44) (by decide +kernel) ?_
    refine z_ild2 (n := 45) (by decide +kernel) ?_
    refine z_v2 (n := 48) (idx := 228) (by decide +kernel) ml_X10_228 (by first | assumption | (simp (disch := omega) only [hu_s, hu_n]; first | assumption | rfl)) rfl (Nat.le_of_ble_eq_true rfl) (by omega) ⟨Nat.le_refl _, Nat.le_refl _⟩ (k_restsAndStays (T := cpN (fun j => tqF e u (ang j)) T0 361) 1 (by omega) (by simp (disch := omega) only [hTn, hCr, hFl, hu_s, hu_n]; first | done | assumption | rfl) (by simp (disch := omega) only [hTn, hCr, hFl, hu_s, hu_n]; first | done | assumption | rfl) hi) ?_
    refine z_ifb_eq (n := 51) (off := 7) (tgt := 55) (by decide +kernel) (fun c48 => ?_) (fun c48 => ?_)
    · refine z_iconst (n := 56) (q := 0) (v := 0) (by decide +kernel) ?_
      refine z_iret (by decide +kernel) rfl (Nat.le_refl _) ?_
      exact ⟨by simp only [c48]; rfl, by intro j9 hj9; simp (disch := omega) only [hu_n], cls_sha hc0 (by intro j9 hj9; simp (disch := omega) only [hu_n]) ⟨⟨an, sn, f9, (by simp (disch := omega) only [hTn, hCr, hFl, hu_s, hu_n]; first | done | assumption | rfl)⟩, ⟨_, (by simp (disch := omega) only [hTn, hCr, hFl, hu_s, hu_n]; first | done | assumption | rfl)⟩⟩⟩
    · refine z_iconst (n := 52) (q := 1) (v := 1) (by decide +kernel) ?_
      refine z_goto (n := 55) (off := 4) (tgt := 56) (by decide +kernel) ?_
      refine z_iret (by decide +kernel) rfl (Nat.le_refl _) ?_
      exact ⟨by simp only [c48]; rfl, by intro j9 hj9; simp (disch := omega) only [hu_n], cls_sha hc0 (by intro j9 hj9; simp (disch := omega) only [hu_n]) ⟨⟨an, sn, f9, (by simp (disch := omega) only [hTn, hCr, hFl, hu_s, hu_n]; first | done | assumption | rfl)⟩, ⟨_, (by simp (disch := omega) only [hTn, hCr, hFl, hu_s, hu_n]; first | done | assumption | rfl)⟩⟩⟩
  refine z_ald0 (n := 1) (by decide +kernel) ?_
  refine z_getf (n := 4) (idx := 33) (by decide +kernel) fl_X10_33 (by first | assumption | (simp (disch := omega) only [hu_s, hu_n]; first | assumption | rfl)) (by rfl) ?_
  refine z_ild1 (n := 5) (by decide +kernel) ?_
  refine z_v1 (n := 8) (idx := 208) (by decide +kernel) ml_X10_208 (by first | assumption | (simp (disch := omega) only [hu_s, hu_n]; first | assumption | rfl)) rfl (Nat.le_of_ble_eq_true rfl) (by omega) ⟨Nat.le_refl _, Nat.le_refl _⟩ (k_has 0 hE) ?_
  refine z_ifb_eq (n := 11) (off := 17) (tgt := 25) (by decide +kernel) (fun c8 => ?_) (fun c8 => ?_)
  · refine z_iconst (n := 26) (q := -1) (v := -1) (by decide +kernel) ?_
    refine z_iret (by decide +kernel) rfl (Nat.le_refl _) ?_
    exact ⟨by unfold staF; rw [if_neg (by unfold hasB; simp only [c8, decide_false, Bool.and_false, Bool.false_and]; decide)], frm_rf, hc0⟩
  · refine z_ild2 (n := 12) (by decide +kernel) ?_
    refine z_s1 (n := 15) (idx := 215) (by decide +kernel) ml_X10_215 (Nat.le_of_ble_eq_true rfl) (by omega) ⟨Nat.le_refl _, Nat.le_refl _⟩ (k_isPush 1 (by omega)) ?_
    refine z_ifb_eq (n := 18) (off := 10) (tgt := 25) (by decide +kernel) (fun c15 => ?_) (fun c15 => ?_)
    · refine z_iconst (n := 26) (q := -1) (v := -1) (by decide +kernel) ?_
      refine z_iret (by decide +kernel) rfl (Nat.le_refl _) ?_
      exact ⟨by unfold staF; rw [if_neg (by unfold hasB; simp only [c8, c15, decide_false, Bool.and_false, Bool.false_and]; decide)], frm_rf, hc0⟩
    · refine z_ild3 (n := 19) (by decide +kernel) ?_
      refine z_s1 (n := 22) (idx := 201) (by decide +kernel) ml_X10_201 (Nat.le_of_ble_eq_true rfl) (by omega) ⟨Nat.le_refl _, Nat.le_refl _⟩ (k_isAngle 1 (by omega)) ?_
      refine z_ifb_ne (n := 25) (off := 5) (tgt := 27) (by decide +kernel) (fun c22 => ?_) (fun c22 => ?_)
      · exact fin c8 c15 c22
      · refine z_iconst (n := 26) (q := -1) (v := -1) (by decide +kernel) ?_
        refine z_iret (by decide +kernel) rfl (Nat.le_refl _) ?_
        exact ⟨by unfold staF; rw [if_neg (by unfold hasB; simp only [c8, c15, c22, decide_false, Bool.and_false, Bool.false_and]; decide)], frm_rf, hc0⟩
def snaB (e : eS) (x a q t w : Int32) : Bool := hasB (nI e.1) x && win a (-180) 180 && win q (-1000000) 1000000 && win t (-1000000) 1000000 && !decide (2000 < ab32 (t - q)) && win w 0 2
def snaF (e : eS) (x a q t w : Int32) : Int32 := if snaB e x a q t w = true then (if styI (tqA e x.toNatClampNeg) (a + 180).toNatClampNeg q = true then (if w = 0 then toA (psT (tqA e x.toNatClampNeg) q (if q ≤ t then 1 else -1) (a + 180).toNatClampNeg (ab32 (t - q)).toNatClampNeg).1 else if w = 1 then (psT (tqA e x.toNatClampNeg) q (if q ≤ t then 1 else -1) (a + 180).toNatClampNeg (ab32 (t - q)).toNatClampNeg).2.1 else (psT (tqA e x.toNatClampNeg) q (if q ≤ t then 1 else -1) (a + 180).toNatClampNeg (ab32 (t - q)).toNatClampNeg).2.2) else -3000) else -3000
theorem ab32_nat {t q : Int32} (h1 : win q (-1000000) 1000000 = true) (h2 : win t (-1000000) 1000000 = true) (h : ¬ 2000 < ab32 (t - q)) : ∃ k, k ≤ 2000 ∧ ab32 (t - q) = nI k := by
  simp only [win, Bool.and_eq_true, Bool.not_eq_true', decide_eq_false_iff_not] at h1 h2
  have a1 : (-1000000 : Int) ≤ q.toInt := Int32.le_iff_toInt_le.mp (Int32.not_lt.mp h1.1)
  have a2 : q.toInt ≤ 1000000 := Int32.le_iff_toInt_le.mp (Int32.not_lt.mp h1.2)
  have b1 : (-1000000 : Int) ≤ t.toInt := Int32.le_iff_toInt_le.mp (Int32.not_lt.mp h2.1)
  have b2 : t.toInt ≤ 1000000 := Int32.le_iff_toInt_le.mp (Int32.not_lt.mp h2.2)
  have e : (t - q).toInt = t.toInt - q.toInt := by
    rw [Int32.toInt_sub, Int.bmod_eq_of_le (by omega) (by omega)]
  have hn : ¬ ab32 (t - q) < 0 := by
    unfold ab32
    split
    · rename_i c; exact Int32.not_lt.mpr c
    · rename_i c
      have c1 : (t - q).toInt < 0 := by
        have := Int32.lt_iff_toInt_lt.mp (Int32.not_le.mp c)
        simpa using this
      intro z
      have z1 := Int32.lt_iff_toInt_lt.mp z
      rw [Int32.toInt_sub, show (0 : Int32).toInt = 0 by decide, Int.bmod_eq_of_le (by omega) (by omega)] at z1
      omega
  obtain ⟨j, hj, ej⟩ := nI_of hn
  refine ⟨j, ?_, ej⟩
  rcases Nat.lt_or_ge 2000 j with z | z
  · exact absurd (by rw [ej]; exact nI_lt (a := 2000) z hj) h
  · exact z
theorem k_snap {G : mG} {h : mH} {C n : Nat} {p po : pS} {e eo : eS} {y yo : yS} {ln : Nat} {bt : Nat → Int32} {wr : Bool} {fk fp sp : Int32} {x a q t w : Int32} (d : Nat) (hd : 6 ≤ d) (he : e.1 ≤ 6) (hc : clsP h C n p po e eo y yo ln bt wr fk fp sp) : EV G m_X10_snap d 0 0 [.ref C, .int x, .int a, .int q, .int t, .int w] h (fun v h' => v = some (.int (snaF e x a q t w)) ∧ frm h h' C (C + 102) ∧ clsP h' C n p po e eo y yo ln bt wr fk fp sp) := by
  have hc0 := hc
  obtain ⟨hC, -, -, hs, -, -, -, -, -, ⟨⟨an, sn, f9, hH⟩, ⟨T0, hT⟩⟩, -⟩ := hc
  have hE := hs.1
  refine ev_6_1 rfl rfl rfl rfl rfl rfl (by decide +kernel) (by decide +kernel) ?_
  have no : snaB e x a q t w = false → Z G m_X10_snap d 0 0 0 0 65 [some (.ref C), some (.int x), some (.int a), some (.int q), some (.int t), some (.int w), some (.int 0)] [.int 0] h (fun v h' => v = some (.int (snaF e x a q t w)) ∧ frm h h' C (C + 102) ∧ clsP h' C n p po e eo y yo ln bt wr fk fp sp) := by
    intro hb
    have e9 : snaF e x a q t w = -3000 := if_neg (by rw [hb]; decide)
    rw [e9]
    refine z_if_ne_f (n := 68) (off := 7) (tgt := 72) (by decide +kernel) (rfl) ?_
    refine z_sipush (n := 71) (q := -3000) (v := -3000) (by decide +kernel) ?_
    refine z_iret (by decide +kernel) rfl (Nat.le_refl _) ?_
    exact ⟨rfl, frm_rf, hc0⟩
  have ya : snaB e x a q t w = true → Z G m_X10_snap d 0 0 0 0 65 [some (.ref C), some (.int x), some (.int a), some (.int q), some (.int t), some (.int w), some (.int 1)] [.int 1] h (fun v h' => v = some (.int (snaF e x a q t w)) ∧ frm h h' C (C + 102) ∧ clsP h' C n p po e eo y yo ln bt wr fk fp sp) := by
    intro hb
    have e9 : snaF e x a q t w = _ := if_pos hb
    rw [e9]
    have hb' := hb
    unfold snaB at hb'
    simp only [Bool.and_eq_true, Bool.not_eq_true', decide_eq_false_iff_not] at hb'
    obtain ⟨⟨⟨⟨⟨c1, c2⟩, c3⟩, c4⟩, c5⟩, c6⟩ := hb'
    obtain ⟨k, hk, ek⟩ := ab32_nat c3 c4 c5
    obtain ⟨u, hu9, rfl⟩ := has_nat (by omega) c1
    obtain ⟨i, hi, rfl⟩ := win_ang c2
    rw [nI_clamp (by omega), ang_ix, nI_clamp (by omega), ek, nI_clamp (by omega), ← styI_c (T := cpN (fun j => tqF e u (ang j)) T0 361) (T' := tqA e u) cp361 hi, ← psT_c (T := cpN (fun j => tqF e u (ang j)) T0 361) (T' := tqA e u) cp361 hi]
    refine z_if_ne_t (n := 68) (off := 7) (tgt := 72) (by decide +kernel) (by decide) ?_
    refine z_ald0 (n := 73) (by decide +kernel) ?_
    refine z_getf (n := 76) (idx := 67) (by decide +kernel) fl_X10_67 (by first | assumption | (simp (disch := omega) only [hu_s, hu_n]; first | assumption | rfl)) (by rfl) ?_
    refine z_ald0 (n := 77) (by decide +kernel) ?_
    refine z_getf (n := 80) (idx := 33) (by decide +kernel) fl_X10_33 (by first | assumption | (simp (disch := omega) only [hu_s, hu_n]; first | assumption | rfl)) (by rfl) ?_
    refine z_ild1 (n := 81) (by decide +kernel) ?_
    refine z_v2v (n := 84) (idx := 218) (by decide +kernel) ml_X10_218 (by first | assumption | (simp (disch := omega) only [hu_s, hu_n]; first | assumption | rfl)) rfl (Nat.le_of_ble_eq_true rfl) (by omega) ⟨Nat.le_refl _, Nat.le_refl _⟩ (k_shTake 1 (by omega) hs hH hT (by omega) (by omega)) ?_
    refine z_ald0 (n := 85) (by decide +kernel) ?_
    refine z_getf (n := 88) (idx := 67) (by decide +kernel) fl_X10_67 (by first | assumption | (simp (disch := omega) only [hu_s, hu_n]; first | assumption | rfl)) (by rfl) ?_
    refine z_ild2 (n := 89) (by decide +kernel) ?_
    refine z_ild3 (n := 90) (by decide +kernel) ?_
    refine z_v2 (n := 93) (idx := 228) (by decide +kernel) ml_X10_228 (by first | assumption | (simp (disch := omega) only [hu_s, hu_n]; first | assumption | rfl)) rfl (Nat.le_of_ble_eq_true rfl) (by omega) ⟨Nat.le_refl _, Nat.le_refl _⟩ (k_restsAndStays (T := cpN (fun j => tqF e u (ang j)) T0 361) 1 (by omega) (by simp (disch := omega) only [hTn, hCr, hFl, hu_s, hu_n]; first | done | assumption | rfl) (by simp (disch := omega) only [hTn, hCr, hFl, hu_s, hu_n]; first | done | assumption | rfl) hi) ?_
    refine z_ifb_ne (n := 96) (off := 7) (tgt := 100) (by decide +kernel) (fun c93 => ?_) (fun c93 => ?_)
    · refine z_ald0 (n := 101) (by decide +kernel) ?_
      refine z_getf (n := 104) (idx := 67) (by decide +kernel) fl_X10_67 (by first | assumption | (simp (disch := omega) only [hu_s, hu_n]; first | assumption | rfl)) (by rfl) ?_
      refine z_ild2 (n := 105) (by decide +kernel) ?_
      refine z_ild3 (n := 106) (by decide +kernel) ?_
      refine z_ild4 (n := 108) (by decide +kernel) ?_
      refine z_v3v (n := 111) (idx := 235) (by decide +kernel) ml_X10_235 (by first | assumption | (simp (disch := omega) only [hu_s, hu_n]; first | assumption | rfl)) rfl (Nat.le_of_ble_eq_true rfl) (by omega) ⟨Nat.le_refl _, Nat.le_refl _⟩ (k_pushOn (k := k) (T := cpN (fun j => tqF e u (ang j)) T0 361) 5 (by omega) (by simp (disch := omega) only [hTn, hCr, hFl, hu_s, hu_n]; first | done | assumption | rfl) (by simp (disch := omega) only [hTn, hCr, hFl, hu_s, hu_n]; first | done | assumption | rfl) hi hk ek) ?_
      refine z_ild5 (n := 113) (by decide +kernel) ?_
      by_cases s0 : w = 0
      · refine z_lsw (off := 27) (dflt := 43) (ps := #[(0, 27), (1, 35)]) (len := 27) (tgt := 140) (by rw [s0]; decide) (by decide +kernel) ?_
        refine z_ald0 (n := 141) (by decide +kernel) ?_
        refine z_getf (n := 144) (idx := 67) (by decide +kernel) fl_X10_67 (by first | assumption | (simp (disch := omega) only [hu_s, hu_n]; first | assumption | rfl)) (by rfl) ?_
        refine z_getf (n := 147) (idx := 239) (by decide +kernel) fl_X10_239 (by first | assumption | (simp (disch := omega) only [hu_s, hu_n]; first | assumption | rfl)) (by rfl) ?_
        refine z_iret (by decide +kernel) rfl (Nat.le_refl _) ?_
        exact ⟨by simp only [c93, eq_true s0, if_true, if_false]; try rfl, by intro j9 hj9; simp (disch := omega) only [hu_n], cls_sha hc0 (by intro j9 hj9; simp (disch := omega) only [hu_n]) ⟨⟨_, _, _, (by simp (disch := omega) only [hTn, hCr, hFl, hu_s, hu_n]; first | done | assumption | rfl)⟩, ⟨_, (by simp (disch := omega) only [hTn, hCr, hFl, hu_s, hu_n]; first | done | assumption | rfl)⟩⟩⟩
      by_cases s1 : w = 1
      · refine z_lsw (off := 35) (dflt := 43) (ps := #[(0, 27), (1, 35)]) (len := 27) (tgt := 148) (by rw [s1]; decide) (by decide +kernel) ?_
        refine z_ald0 (n := 149) (by decide +kernel) ?_
        refine z_getf (n := 152) (idx := 67) (by decide +kernel) fl_X10_67 (by first | assumption | (simp (disch := omega) only [hu_s, hu_n]; first | assumption | rfl)) (by rfl) ?_
        refine z_getf (n := 155) (idx := 242) (by decide +kernel) fl_X10_242 (by first | assumption | (simp (disch := omega) only [hu_s, hu_n]; first | assumption | rfl)) (by rfl) ?_
        refine z_iret (by decide +kernel) rfl (Nat.le_refl _) ?_
        exact ⟨by simp only [c93, eq_false s0, eq_true s1, if_true, if_false]; try rfl, by intro j9 hj9; simp (disch := omega) only [hu_n], cls_sha hc0 (by intro j9 hj9; simp (disch := omega) only [hu_n]) ⟨⟨_, _, _, (by simp (disch := omega) only [hTn, hCr, hFl, hu_s, hu_n]; first | done | assumption | rfl)⟩, ⟨_, (by simp (disch := omega) only [hTn, hCr, hFl, hu_s, hu_n]; first | done | assumption | rfl)⟩⟩⟩
      refine z_lsw (off := 43) (dflt := 43) (ps := #[(0, 27), (1, 35)]) (len := 27) (tgt := 156) (by show Op.lookupswitch.offset [(0, 27), (1, 35)] 43 _ = _; rw [lv_osw s0 (by decide), lv_osw s1 (by decide)]; rfl) (by decide +kernel) ?_
      refine z_ald0 (n := 157) (by decide +kernel) ?_
      refine z_getf (n := 160) (idx := 67) (by decide +kernel) fl_X10_67 (by first | assumption | (simp (disch := omega) only [hu_s, hu_n]; first | assumption | rfl)) (by rfl) ?_
      refine z_getf (n := 163) (idx := 245) (by decide +kernel) fl_X10_245 (by first | assumption | (simp (disch := omega) only [hu_s, hu_n]; first | assumption | rfl)) (by rfl) ?_
      refine z_iret (by decide +kernel) rfl (Nat.le_refl _) ?_
      exact ⟨by simp only [c93, eq_false s0, eq_false s1, if_true, if_false]; try rfl, by intro j9 hj9; simp (disch := omega) only [hu_n], cls_sha hc0 (by intro j9 hj9; simp (disch := omega) only [hu_n]) ⟨⟨_, _, _, (by simp (disch := omega) only [hTn, hCr, hFl, hu_s, hu_n]; first | done | assumption | rfl)⟩, ⟨_, (by simp (disch := omega) only [hTn, hCr, hFl, hu_s, hu_n]; first | done | assumption | rfl)⟩⟩⟩
    · refine z_sipush (n := 99) (q := -3000) (v := -3000) (by decide +kernel) ?_
      refine z_iret (by decide +kernel) rfl (Nat.le_refl _) ?_
      exact ⟨by simp only [c93, if_true, if_false]; try rfl, by intro j9 hj9; simp (disch := omega) only [hu_n], cls_sha hc0 (by intro j9 hj9; simp (disch := omega) only [hu_n]) ⟨⟨_, _, _, (by simp (disch := omega) only [hTn, hCr, hFl, hu_s, hu_n]; first | done | assumption | rfl)⟩, ⟨_, (by simp (disch := omega) only [hTn, hCr, hFl, hu_s, hu_n]; first | done | assumption | rfl)⟩⟩⟩
  refine z_ald0 (n := 1) (by decide +kernel) ?_
  refine z_getf (n := 4) (idx := 33) (by decide +kernel) fl_X10_33 (by first | assumption | (simp (disch := omega) only [hu_s, hu_n]; first | assumption | rfl)) (by rfl) ?_
  refine z_ild1 (n := 5) (by decide +kernel) ?_
  refine z_v1 (n := 8) (idx := 208) (by decide +kernel) ml_X10_208 (by first | assumption | (simp (disch := omega) only [hu_s, hu_n]; first | assumption | rfl)) rfl (Nat.le_of_ble_eq_true rfl) (by omega) ⟨Nat.le_refl _, Nat.le_refl _⟩ (k_has 0 hE) ?_
  refine z_ifb_eq (n := 11) (off := 52) (tgt := 60) (by decide +kernel) (fun c8 => ?_) (fun c8 => ?_)
  · refine z_iconst (n := 61) (q := 0) (v := 0) (by decide +kernel) ?_
    refine z_ist6 (n := 63) (by decide +kernel) rfl ?_
    refine z_ild6 (n := 65) (by decide +kernel) ?_
    first | exact ya (by unfold snaB hasB ab32; simp only [c8, decide_true, decide_false, Bool.and_true, Bool.and_false, Bool.true_and, Bool.false_and, Bool.or_true, Bool.or_false, Bool.true_or, Bool.false_or, Bool.not_true, Bool.not_false, if_true, if_false]) | exact no (by unfold snaB hasB ab32; simp only [c8, decide_true, decide_false, Bool.and_true, Bool.and_false, Bool.true_and, Bool.false_and, Bool.or_true, Bool.or_false, Bool.true_or, Bool.false_or, Bool.not_true, Bool.not_false, if_true, if_false])
  · refine z_ild2 (n := 12) (by decide +kernel) ?_
    refine z_s1 (n := 15) (idx := 201) (by decide +kernel) ml_X10_201 (Nat.le_of_ble_eq_true rfl) (by omega) ⟨Nat.le_refl _, Nat.le_refl _⟩ (k_isAngle 1 (by omega)) ?_
    refine z_ifb_eq (n := 18) (off := 45) (tgt := 60) (by decide +kernel) (fun c15 => ?_) (fun c15 => ?_)
    · refine z_iconst (n := 61) (q := 0) (v := 0) (by decide +kernel) ?_
      refine z_ist6 (n := 63) (by decide +kernel) rfl ?_
      refine z_ild6 (n := 65) (by decide +kernel) ?_
      first | exact ya (by unfold snaB hasB ab32; simp only [c8, c15, decide_true, decide_false, Bool.and_true, Bool.and_false, Bool.true_and, Bool.false_and, Bool.or_true, Bool.or_false, Bool.true_or, Bool.false_or, Bool.not_true, Bool.not_false, if_true, if_false]) | exact no (by unfold snaB hasB ab32; simp only [c8, c15, decide_true, decide_false, Bool.and_true, Bool.and_false, Bool.true_and, Bool.false_and, Bool.or_true, Bool.or_false, Bool.true_or, Bool.false_or, Bool.not_true, Bool.not_false, if_true, if_false])
    · refine z_ild3 (n := 19) (by decide +kernel) ?_
      refine z_s1 (n := 22) (idx := 215) (by decide +kernel) ml_X10_215 (Nat.le_of_ble_eq_true rfl) (by omega) ⟨Nat.le_refl _, Nat.le_refl _⟩ (k_isPush 1 (by omega)) ?_
      refine z_ifb_eq (n := 25) (off := 38) (tgt := 60) (by decide +kernel) (fun c22 => ?_) (fun c22 => ?_)
      · refine z_iconst (n := 61) (q := 0) (v := 0) (by decide +kernel) ?_
        refine z_ist6 (n := 63) (by decide +kernel) rfl ?_
        refine z_ild6 (n := 65) (by decide +kernel) ?_
        first | exact ya (by unfold snaB hasB ab32; simp only [c8, c15, c22, decide_true, decide_false, Bool.and_true, Bool.and_false, Bool.true_and, Bool.false_and, Bool.or_true, Bool.or_false, Bool.true_or, Bool.false_or, Bool.not_true, Bool.not_false, if_true, if_false]) | exact no (by unfold snaB hasB ab32; simp only [c8, c15, c22, decide_true, decide_false, Bool.and_true, Bool.and_false, Bool.true_and, Bool.false_and, Bool.or_true, Bool.or_false, Bool.true_or, Bool.false_or, Bool.not_true, Bool.not_false, if_true, if_false])
      · refine z_ild4 (n := 27) (by decide +kernel) ?_
        refine z_s1 (n := 30) (idx := 215) (by decide +kernel) ml_X10_215 (Nat.le_of_ble_eq_true rfl) (by omega) ⟨Nat.le_refl _, Nat.le_refl _⟩ (k_isPush 1 (by omega)) ?_
        refine z_ifb_eq (n := 33) (off := 30) (tgt := 60) (by decide +kernel) (fun c30 => ?_) (fun c30 => ?_)
        · refine z_iconst (n := 61) (q := 0) (v := 0) (by decide +kernel) ?_
          refine z_ist6 (n := 63) (by decide +kernel) rfl ?_
          refine z_ild6 (n := 65) (by decide +kernel) ?_
          first | exact ya (by unfold snaB hasB ab32; simp only [c8, c15, c22, c30, decide_true, decide_false, Bool.and_true, Bool.and_false, Bool.true_and, Bool.false_and, Bool.or_true, Bool.or_false, Bool.true_or, Bool.false_or, Bool.not_true, Bool.not_false, if_true, if_false]) | exact no (by unfold snaB hasB ab32; simp only [c8, c15, c22, c30, decide_true, decide_false, Bool.and_true, Bool.and_false, Bool.true_and, Bool.false_and, Bool.or_true, Bool.or_false, Bool.true_or, Bool.false_or, Bool.not_true, Bool.not_false, if_true, if_false])
        · refine z_ild4 (n := 35) (by decide +kernel) ?_
          refine z_ild3 (n := 36) (by decide +kernel) ?_
          refine z_isub (n := 37) (by decide +kernel) ?_
          refine z_mabs (n := 40) (idx := 232) (by decide +kernel) jl_X10_232 (Nat.le_of_ble_eq_true rfl) (by omega) (Nat.le_of_ble_eq_true rfl) (Nat.le_of_ble_eq_true rfl) ?_
          refine z_sipush (n := 43) (q := 2000) (v := 2000) (by decide +kernel) ?_
          refine z_icmp_gt (n := 46) (off := 17) (tgt := 60) (by decide +kernel) (fun c43 => ?_) (fun c43 => ?_)
          · refine z_iconst (n := 61) (q := 0) (v := 0) (by decide +kernel) ?_
            refine z_ist6 (n := 63) (by decide +kernel) rfl ?_
            refine z_ild6 (n := 65) (by decide +kernel) ?_
            first | exact ya (by unfold snaB hasB ab32; simp only [c8, c15, c22, c30, eq_true c43, decide_true, decide_false, Bool.and_true, Bool.and_false, Bool.true_and, Bool.false_and, Bool.or_true, Bool.or_false, Bool.true_or, Bool.false_or, Bool.not_true, Bool.not_false, if_true, if_false]) | exact no (by unfold snaB hasB ab32; simp only [c8, c15, c22, c30, eq_true c43, decide_true, decide_false, Bool.and_true, Bool.and_false, Bool.true_and, Bool.false_and, Bool.or_true, Bool.or_false, Bool.true_or, Bool.false_or, Bool.not_true, Bool.not_false, if_true, if_false])
          · refine z_ild5 (n := 48) (by decide +kernel) ?_
            refine z_iconst (n := 49) (q := 0) (v := 0) (by decide +kernel) ?_
            refine z_iconst (n := 50) (q := 2) (v := 2) (by decide +kernel) ?_
            refine z_s3 (n := 53) (idx := 85) (by decide +kernel) ml_X10_85 (Nat.le_of_ble_eq_true rfl) (by omega) ⟨Nat.le_refl _, Nat.le_refl _⟩ (k_isWithin 0) ?_
            refine z_ifb_eq (n := 56) (off := 7) (tgt := 60) (by decide +kernel) (fun c53 => ?_) (fun c53 => ?_)
            · refine z_iconst (n := 61) (q := 0) (v := 0) (by decide +kernel) ?_
              refine z_ist6 (n := 63) (by decide +kernel) rfl ?_
              refine z_ild6 (n := 65) (by decide +kernel) ?_
              first | exact ya (by unfold snaB hasB ab32; simp only [c8, c15, c22, c30, eq_false c43, c53, decide_true, decide_false, Bool.and_true, Bool.and_false, Bool.true_and, Bool.false_and, Bool.or_true, Bool.or_false, Bool.true_or, Bool.false_or, Bool.not_true, Bool.not_false, if_true, if_false]) | exact no (by unfold snaB hasB ab32; simp only [c8, c15, c22, c30, eq_false c43, c53, decide_true, decide_false, Bool.and_true, Bool.and_false, Bool.true_and, Bool.false_and, Bool.or_true, Bool.or_false, Bool.true_or, Bool.false_or, Bool.not_true, Bool.not_false, if_true, if_false])
            · refine z_iconst (n := 57) (q := 1) (v := 1) (by decide +kernel) ?_
              refine z_goto (n := 60) (off := 4) (tgt := 61) (by decide +kernel) ?_
              refine z_ist6 (n := 63) (by decide +kernel) rfl ?_
              refine z_ild6 (n := 65) (by decide +kernel) ?_
              first | exact ya (by unfold snaB hasB ab32; simp only [c8, c15, c22, c30, eq_false c43, c53, decide_true, decide_false, Bool.and_true, Bool.and_false, Bool.true_and, Bool.false_and, Bool.or_true, Bool.or_false, Bool.true_or, Bool.false_or, Bool.not_true, Bool.not_false, if_true, if_false]) | exact no (by unfold snaB hasB ab32; simp only [c8, c15, c22, c30, eq_false c43, c53, decide_true, decide_false, Bool.and_true, Bool.and_false, Bool.true_and, Bool.false_and, Bool.or_true, Bool.or_false, Bool.true_or, Bool.false_or, Bool.not_true, Bool.not_false, if_true, if_false])

def aboF (n : Nat) (p : pS) (e : eS) (y : yS) (ln : Nat) (x : Int32) : Int32 := if x = 0 then nI (n + 1) else if x = 1 then p.1 4 else if x = 2 then p.1 5 else if x = 3 then nI (cnb (fun j => !decide (p.2.1 2 (j + 1) = 0)) n) else if x = 4 then nI (cnb (fun j => p.2.2 1 (j + 1)) n) else if x = 5 then nI y.1.1 else if x = 6 then nI y.1.2 else if x = 7 then nI e.1 else if x = 8 then nI ln else if x = 9 then mnF (p.2.1 0) (n + 1) else if x = 10 then mxF (p.2.1 0) (n + 1) else -1000
theorem k_about {G : mG} {h : mH} {C n : Nat} {p po : pS} {e eo : eS} {y yo : yS} {ln : Nat} {bt : Nat → Int32} {wr : Bool} {fk fp sp : Int32} {x : Int32} (d : Nat) (hd : 2 ≤ d) (hn : n + 1 < 2 ^ 31) (hc : clsP h C n p po e eo y yo ln bt wr fk fp sp) : EV G m_X10_about d 0 0 [.ref C, .int x] h (RE (some (.int (aboF n p e y ln x))) h) := by
  obtain ⟨hC, ⟨tl, ht, hB, hS, hP, hL, hU, hT, hCr, g1, g2, g3, g4, g5, g6⟩, -, ⟨hE, -⟩, -, ⟨hY, -⟩, -, ⟨kd, sa, bh, vl, hQ, -⟩, -⟩ := hc
  refine ev_2_0 rfl rfl (by decide +kernel) (by decide +kernel) ?_
  refine z_ild1 (n := 1) (by decide +kernel) ?_
  by_cases s0 : x = 0
  · refine z_tswI (v := 0) (off := 59) (dflt := 162) (lo := 0) (hi := 10) (offs := #[59, 70, 78, 86, 97, 108, 116, 124, 132, 140, 151]) (len := 59) (tgt := 60) s0 (by decide +kernel) ?_
    refine z_ald0 (n := 61) (by decide +kernel) ?_
    refine z_getf (n := 64) (idx := 23) (by decide +kernel) fl_X10_23 (by assumption) (by rfl) ?_
    refine z_getf (n := 67) (idx := 117) (by decide +kernel) fl_X10_117 (by assumption) (by rfl) ?_
    refine z_getf (n := 70) (idx := 121) (by decide +kernel) fl_X10_121 (by assumption) (by rfl) ?_
    refine z_iret (by decide +kernel) rfl (Nat.le_refl _) ?_
    exact ⟨by simp only [aboF, eq_true s0, if_true, if_false], rfl⟩
  by_cases s1 : x = 1
  · refine z_tswI (v := 1) (off := 70) (dflt := 162) (lo := 0) (hi := 10) (offs := #[59, 70, 78, 86, 97, 108, 116, 124, 132, 140, 151]) (len := 59) (tgt := 71) s1 (by decide +kernel) ?_
    refine z_ald0 (n := 72) (by decide +kernel) ?_
    refine z_getf (n := 75) (idx := 23) (by decide +kernel) fl_X10_23 (by assumption) (by rfl) ?_
    refine z_getf (n := 78) (idx := 110) (by decide +kernel) fl_X10_110 (by assumption) (by rfl) ?_
    refine z_iret (by decide +kernel) rfl (Nat.le_refl _) ?_
    exact ⟨by simp only [aboF, eq_false s0, eq_true s1, if_true, if_false], rfl⟩
  by_cases s2 : x = 2
  · refine z_tswI (v := 2) (off := 78) (dflt := 162) (lo := 0) (hi := 10) (offs := #[59, 70, 78, 86, 97, 108, 116, 124, 132, 140, 151]) (len := 59) (tgt := 79) s2 (by decide +kernel) ?_
    refine z_ald0 (n := 80) (by decide +kernel) ?_
    refine z_getf (n := 83) (idx := 23) (by decide +kernel) fl_X10_23 (by assumption) (by rfl) ?_
    refine z_getf (n := 86) (idx := 297) (by decide +kernel) fl_X10_297 (by assumption) (by rfl) ?_
    refine z_iret (by decide +kernel) rfl (Nat.le_refl _) ?_
    exact ⟨by simp only [aboF, eq_false s0, eq_false s1, eq_true s2, if_true, if_false], rfl⟩
  by_cases s3 : x = 3
  · refine z_tswI (v := 3) (off := 86) (dflt := 162) (lo := 0) (hi := 10) (offs := #[59, 70, 78, 86, 97, 108, 116, 124, 132, 140, 151]) (len := 59) (tgt := 87) s3 (by decide +kernel) ?_
    refine z_ald0 (n := 88) (by decide +kernel) ?_
    refine z_getf (n := 91) (idx := 23) (by decide +kernel) fl_X10_23 (by assumption) (by rfl) ?_
    refine z_getf (n := 94) (idx := 144) (by decide +kernel) fl_X10_144 (by assumption) (by rfl) ?_
    refine z_v0 (n := 97) (idx := 300) (by decide +kernel) ml_X10_300 (by assumption) rfl (Nat.le_of_ble_eq_true rfl) (by omega) ⟨Nat.le_refl _, Nat.le_refl _⟩ (k_countCreased 0 hCr g1 hn) ?_
    refine z_iret (by decide +kernel) rfl (Nat.le_refl _) ?_
    exact ⟨by simp only [aboF, eq_false s0, eq_false s1, eq_false s2, eq_true s3, if_true, if_false], rfl⟩
  by_cases s4 : x = 4
  · refine z_tswI (v := 4) (off := 97) (dflt := 162) (lo := 0) (hi := 10) (offs := #[59, 70, 78, 86, 97, 108, 116, 124, 132, 140, 151]) (len := 59) (tgt := 98) s4 (by decide +kernel) ?_
    refine z_ald0 (n := 99) (by decide +kernel) ?_
    refine z_getf (n := 102) (idx := 23) (by decide +kernel) fl_X10_23 (by assumption) (by rfl) ?_
    refine z_getf (n := 105) (idx := 144) (by decide +kernel) fl_X10_144 (by assumption) (by rfl) ?_
    refine z_v0 (n := 108) (idx := 303) (by decide +kernel) ml_X10_303 (by assumption) rfl (Nat.le_of_ble_eq_true rfl) (by omega) ⟨Nat.le_refl _, Nat.le_refl _⟩ (k_countTorn 0 hCr g6 hn) ?_
    refine z_iret (by decide +kernel) rfl (Nat.le_refl _) ?_
    exact ⟨by simp only [aboF, eq_false s0, eq_false s1, eq_false s2, eq_false s3, eq_true s4, if_true, if_false], rfl⟩
  by_cases s5 : x = 5
  · refine z_tswI (v := 5) (off := 108) (dflt := 162) (lo := 0) (hi := 10) (offs := #[59, 70, 78, 86, 97, 108, 116, 124, 132, 140, 151]) (len := 59) (tgt := 109) s5 (by decide +kernel) ?_
    refine z_ald0 (n := 110) (by decide +kernel) ?_
    refine z_getf (n := 113) (idx := 43) (by decide +kernel) fl_X10_43 (by assumption) (by rfl) ?_
    refine z_getf (n := 116) (idx := 263) (by decide +kernel) fl_X10_263 (by assumption) (by rfl) ?_
    refine z_iret (by decide +kernel) rfl (Nat.le_refl _) ?_
    exact ⟨by simp only [aboF, eq_false s0, eq_false s1, eq_false s2, eq_false s3, eq_false s4, eq_true s5, if_true, if_false], rfl⟩
  by_cases s6 : x = 6
  · refine z_tswI (v := 6) (off := 116) (dflt := 162) (lo := 0) (hi := 10) (offs := #[59, 70, 78, 86, 97, 108, 116, 124, 132, 140, 151]) (len := 59) (tgt := 117) s6 (by decide +kernel) ?_
    refine z_ald0 (n := 118) (by decide +kernel) ?_
    refine z_getf (n := 121) (idx := 43) (by decide +kernel) fl_X10_43 (by assumption) (by rfl) ?_
    refine z_getf (n := 124) (idx := 266) (by decide +kernel) fl_X10_266 (by assumption) (by rfl) ?_
    refine z_iret (by decide +kernel) rfl (Nat.le_refl _) ?_
    exact ⟨by simp only [aboF, eq_false s0, eq_false s1, eq_false s2, eq_false s3, eq_false s4, eq_false s5, eq_true s6, if_true, if_false], rfl⟩
  by_cases s7 : x = 7
  · refine z_tswI (v := 7) (off := 124) (dflt := 162) (lo := 0) (hi := 10) (offs := #[59, 70, 78, 86, 97, 108, 116, 124, 132, 140, 151]) (len := 59) (tgt := 125) s7 (by decide +kernel) ?_
    refine z_ald0 (n := 126) (by decide +kernel) ?_
    refine z_getf (n := 129) (idx := 33) (by decide +kernel) fl_X10_33 (by assumption) (by rfl) ?_
    refine z_getf (n := 132) (idx := 306) (by decide +kernel) fl_X10_306 (by assumption) (by rfl) ?_
    refine z_iret (by decide +kernel) rfl (Nat.le_refl _) ?_
    exact ⟨by simp only [aboF, eq_false s0, eq_false s1, eq_false s2, eq_false s3, eq_false s4, eq_false s5, eq_false s6, eq_true s7, if_true, if_false], rfl⟩
  by_cases s8 : x = 8
  · refine z_tswI (v := 8) (off := 132) (dflt := 162) (lo := 0) (hi := 10) (offs := #[59, 70, 78, 86, 97, 108, 116, 124, 132, 140, 151]) (len := 59) (tgt := 133) s8 (by decide +kernel) ?_
    refine z_ald0 (n := 134) (by decide +kernel) ?_
    refine z_getf (n := 137) (idx := 53) (by decide +kernel) fl_X10_53 (by assumption) (by rfl) ?_
    refine z_getf (n := 140) (idx := 177) (by decide +kernel) fl_X10_177 (by assumption) (by rfl) ?_
    refine z_iret (by decide +kernel) rfl (Nat.le_refl _) ?_
    exact ⟨by simp only [aboF, eq_false s0, eq_false s1, eq_false s2, eq_false s3, eq_false s4, eq_false s5, eq_false s6, eq_false s7, eq_true s8, if_true, if_false], rfl⟩
  by_cases s9 : x = 9
  · refine z_tswI (v := 9) (off := 140) (dflt := 162) (lo := 0) (hi := 10) (offs := #[59, 70, 78, 86, 97, 108, 116, 124, 132, 140, 151]) (len := 59) (tgt := 141) s9 (by decide +kernel) ?_
    refine z_ald0 (n := 142) (by decide +kernel) ?_
    refine z_getf (n := 145) (idx := 23) (by decide +kernel) fl_X10_23 (by assumption) (by rfl) ?_
    refine z_getf (n := 148) (idx := 117) (by decide +kernel) fl_X10_117 (by assumption) (by rfl) ?_
    refine z_v0 (n := 151) (idx := 309) (by decide +kernel) ml_X10_309 (by assumption) rfl (Nat.le_of_ble_eq_true rfl) (by omega) ⟨Nat.le_refl _, Nat.le_refl _⟩ (k_lowestPlace 0 hS hP (by omega) (Nat.le_refl _) hn) ?_
    refine z_iret (by decide +kernel) rfl (Nat.le_refl _) ?_
    exact ⟨by simp only [aboF, eq_false s0, eq_false s1, eq_false s2, eq_false s3, eq_false s4, eq_false s5, eq_false s6, eq_false s7, eq_false s8, eq_true s9, if_true, if_false], rfl⟩
  by_cases s10 : x = 10
  · refine z_tswI (v := 10) (off := 151) (dflt := 162) (lo := 0) (hi := 10) (offs := #[59, 70, 78, 86, 97, 108, 116, 124, 132, 140, 151]) (len := 59) (tgt := 152) s10 (by decide +kernel) ?_
    refine z_ald0 (n := 153) (by decide +kernel) ?_
    refine z_getf (n := 156) (idx := 23) (by decide +kernel) fl_X10_23 (by assumption) (by rfl) ?_
    refine z_getf (n := 159) (idx := 117) (by decide +kernel) fl_X10_117 (by assumption) (by rfl) ?_
    refine z_v0 (n := 162) (idx := 312) (by decide +kernel) ml_X10_312 (by assumption) rfl (Nat.le_of_ble_eq_true rfl) (by omega) ⟨Nat.le_refl _, Nat.le_refl _⟩ (k_highestPlace 0 hS hP (by omega) (Nat.le_refl _) hn) ?_
    refine z_iret (by decide +kernel) rfl (Nat.le_refl _) ?_
    exact ⟨by simp only [aboF, eq_false s0, eq_false s1, eq_false s2, eq_false s3, eq_false s4, eq_false s5, eq_false s6, eq_false s7, eq_false s8, eq_false s9, eq_true s10, if_true, if_false], rfl⟩
  refine z_tswO (dflt := 162) (lo := 0) (hi := 10) (offs := #[59, 70, 78, 86, 97, 108, 116, 124, 132, 140, 151]) (len := 59) (tgt := 163) (tsw_out10 s0 s1 s2 s3 s4 s5 s6 s7 s8 s9 s10) (by decide +kernel) ?_
  refine z_sipush (n := 166) (q := -1000) (v := -1000) (by decide +kernel) ?_
  refine z_iret (by decide +kernel) rfl (Nat.le_refl _) ?_
  exact ⟨by simp only [aboF, eq_false s0, eq_false s1, eq_false s2, eq_false s3, eq_false s4, eq_false s5, eq_false s6, eq_false s7, eq_false s8, eq_false s9, eq_false s10, if_true, if_false], rfl⟩
