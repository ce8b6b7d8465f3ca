/-! Search: take, count, find, the best point; CreasedPaper: orders, next -/
def st0 : sS := (nI, fun _ => true, fun _ => 0)
theorem bnS_0 {n : Nat} (hn : n ≤ 12) : bnS n st0 (20 + 30 * ((0 : Nat) : Int)) := by
  refine ⟨fun u hu9 => ?_, fun p hp => by show 0 < 3; omega⟩
  show _ ≤ (nI u).toInt ∧ (nI u).toInt ≤ _
  rw [nI_toInt (by omega)]
  omega
theorem srF_len {n : Nat} {to : Nat → Int32} : ∀ k st, (srF n to k st).length ≤ (2 * (n - 1)) ^ k
  | 0, st => by
    rw [srF]
    split <;> simp
  | k + 1, st => by
    rw [srF, Nat.pow_succ']
    refine rgF_len (fun u => ?_) _ 0
    split
    · rw [List.length_map]; exact srF_len k _
    · simp
theorem srF_31 {n k : Nat} {to : Nat → Int32} {st : sS} (hn : n ≤ 12) (hk : k ≤ 3) : (srF n to k st).length ≤ 10648 := by
  refine Nat.le_trans (srF_len k st) ?_
  refine Nat.le_trans (Nat.pow_le_pow_left (show 2 * (n - 1) ≤ 22 by omega) k) ?_
  exact Nat.le_trans (Nat.pow_le_pow_right (by omega) hk) (by decide)
theorem fitB_ag {n : Nat} {to to' : Nat → Int32} {sg : Nat → Nat} (h : ∀ p, p + 1 < n → to (p + 1) = to' (p + 1)) : fitB n to sg = fitB n to' sg := by
  unfold fitB
  have : ∀ m u, u + m ≤ n - 1 → allN (fun p => decide (to (p + 1) = -1) || decide (to (p + 1) = nI (sg (p + 1)))) m u = allN (fun p => decide (to' (p + 1) = -1) || decide (to' (p + 1) = nI (sg (p + 1)))) m u := by
    intro m
    induction m with
    | zero => intro u _; rfl
    | succ m ih =>
      intro u hu9
      rw [allN, allN, ih (u + 1) (by omega), h u (by omega)]
  exact this _ 0 (by omega)
theorem rgF_ag {α : Type} {F F' : Nat → List α} (h : ∀ u, F u = F' u) : ∀ m u, rgF F m u = rgF F' m u
  | 0, _ => rfl
  | m + 1, u => by rw [rgF, rgF, h u, rgF_ag h m (u + 1)]
theorem srF_ag {n : Nat} {to to' : Nat → Int32} (h : ∀ p, p + 1 < n → to (p + 1) = to' (p + 1)) : ∀ k st, srF n to k st = srF n to' k st
  | 0, st => by rw [srF, srF, fitB_ag h]
  | k + 1, st => by
    rw [srF, srF]
    refine rgF_ag (fun u => ?_) _ _
    rw [srF_ag h k]
def tolF (y : yS) (p : Nat) : Int32 := sgO y.2.1 y.2.2 (nI p) y.1.2
/-- ready for a search -/
def seR (h : mH) (S n K : Nat) (t : Nat → Int32) : Prop := ∃ wa li to ta sts, sea h S n K wa (nI 0) li to ta 0 sts ∧ sts 0 = st0 ∧ (∀ p, p + 1 < n → to (p + 1) = t (p + 1)) ∧ ∀ p s, p + 1 < n → s < 3 → ta (p + 1) s = 0
theorem k_seTake {G : mG} {h : mH} {S Y n K : Nat} {y : yS} (d : Nat) (hd : 2 ≤ d) (hn2 : 2 ≤ n) (hn : n ≤ 12) (hK1 : 1 ≤ K) (hK : K ≤ 3) (hy : y.1.2 ≤ 100) (hap : Y + 3 ≤ S) (H : seaX h S) (HY : see h Y y) : EV G m_X3_take d 0 0 [.ref S, .int (nI n), .int (nI K), .ref Y] h (fun r h' => r = none ∧ (frm h h' S (S + 42) ∧ seR h' S n K (tolF y))) := by
  obtain ⟨⟨ce, fo, wa, fd, h0⟩, ⟨li, h1⟩, ⟨⟨fS, hC1, hC2⟩, hC3, hC4⟩, h5, ⟨to, h8⟩, h9, h10⟩ := H
  have hsc : ∀ q, q < 4 → scr h S q := by
    intro q hq
    obtain ⟨k, tl, pl, ly, up, ht, z⟩ := h10 q hq
    obtain ⟨sg, z2⟩ := h5 q hq
    exact ⟨k, tl, pl, ly, up, ht, sg, z, z2⟩
  obtain ⟨k0, tl0, pl0, ly0, up0, ht0, s0, s1, s2, s3, s4⟩ := h10 0 (by omega)
  obtain ⟨sg0, g0⟩ := h5 0 (by omega)
  obtain ⟨n', rfl⟩ : ∃ n', n = n' + 1 := ⟨n - 1, by omega⟩
  have lp : ∀ w u, u + w = n' → ∀ (hX : mH) (toX sgX : Nat → Int32), frm h hX S (S + 42) → hX S = oSea S (nI (n' + 1)) (nI K) wa (nI 0) → hX (S + 1) = aI 3 li → seaC hX S 4 → (∀ q, q < 4 → scr hX S q) → stp hX (S + 22 + 5 * 0) 12 (n' + 1) tl0 (cpN nI pl0 (n' + 1)) (cpN (fun _ => 0) ly0 (n' + 1)) (cpN (fun _ => true) up0 (n' + 1)) ht0 → hX (S + 3 + 1 + 0) = aI 12 sgX → hX (S + 8) = aI 12 toX → (∀ p, p < u → sgX (p + 1) = 0 ∧ toX (p + 1) = tolF y (p + 1)) → (∀ p, p < 12 → ∃ f, hX (S + 9 + 1 + p) = aI 3 f ∧ (1 ≤ p → p < u + 1 → f 0 = 0 ∧ f 1 = 0 ∧ f 2 = 0)) → Z G m_X3_take d 0 0 0 0 28 [some (.ref S), some (.int (nI (n' + 1))), some (.int (nI K)), some (.ref Y), some (.int (nI (u + 1))), none] [] hX (fun r h' => r = none ∧ (frm h h' S (S + 42) ∧ seR h' S (n' + 1) K (tolF y))) := by
    intro w
    induction w with
    | zero =>
      intro u hu9 hX toX sgX F a0 a1 a2 a3 a4 a5 a6 a7 a8
      have fin : seR hX S (n' + 1) K (tolF y) := by
        have : ∃ ta : Nat → Nat → Int32, ∀ p, p < 12 → hX (S + 9 + 1 + p) = aI 3 (ta p) ∧ (1 ≤ p → p < u + 1 → ta p 0 = 0 ∧ ta p 1 = 0 ∧ ta p 2 = 0) := by
          refine ⟨fun p => if hp : p < 12 then Classical.choose (a8 p hp) else fun _ => 0, fun p hp => ?_⟩
          simp only [dif_pos hp]
          exact Classical.choose_spec (a8 p hp)
        obtain ⟨ta, b⟩ := this
        refine ⟨wa, li, toX, ta, fun _ => st0, ⟨a0, a1, a2, a3, fun q hq => ?_, a6, fun p hp => (b p hp).1⟩, rfl, fun p hp => (a7 p (by omega)).2, fun p s hp hs => ?_⟩
        · have : q = 0 := by omega
          subst this
          refine ⟨_, _, _, _, _, _, a4, a5, fun v hv => ⟨cpN_at hv, cpN_at hv⟩, fun p hp => ?_⟩
          rw [(a7 p (by omega)).1]
          rfl
        · obtain ⟨_, b2⟩ := b (p + 1) (by omega)
          obtain ⟨c0, c1, c2⟩ := b2 (by omega) (by omega)
          rcases (show s = 0 ∨ s = 1 ∨ s = 2 by omega) with rfl | rfl | rfl
          · exact c0
          · exact c1
          · exact c2
      refine z_ild4 (n := 30) (by decide +kernel) ?_
      refine z_ild1 (n := 31) (by decide +kernel) ?_
      refine z_icmp_ge_t (n := 34) (off := 58) (tgt := 89) (by decide +kernel) (by rw [show u = n' by omega]; exact Int32.le_refl _) ?_
      refine z_vret (by decide +kernel) rfl (Nat.le_refl _) ?_
      exact ⟨rfl, F, fin⟩
    | succ w ih =>
      intro u hu9 hX toX sgX F a0 a1 a2 a3 a4 a5 a6 a7 a8
      have u12 : u + 1 < 12 := by omega
      obtain ⟨⟨fX, b1, b2⟩, b3, b4⟩ := a2
      have a2 : seaC hX S 4 := ⟨⟨fX, b1, b2⟩, b3, b4⟩
      obtain ⟨tf, c1, c2⟩ := a8 (u + 1) u12
      have HX : see hX Y y := ⟨(F _ (by omega)).trans HY.1, (F _ (by omega)).trans HY.2.1, (F _ (by omega)).trans HY.2.2⟩
      have HX1 := HX.1
      have z4 : (0 : Nat) < 4 := by omega
      obtain ⟨y0, y1, y2, y3, y4⟩ := a4
      refine z_ild4 (n := 30) (by decide +kernel) ?_
      refine z_ild1 (n := 31) (by decide +kernel) ?_
      refine z_icmp_ge_f (n := 34) (off := 58) (tgt := 89) (by decide +kernel) (nI_ge (by omega) (by omega)) ?_
      refine z_ald0 (n := 35) (by decide +kernel) ?_
      refine z_getf (n := 38) (idx := 26) (by decide +kernel) fl_X3_26 (by first | assumption | (simp (disch := omega) only [hu_s, hu_n]; first | assumption | rfl)) (by rfl) ?_
      refine z_ild4 (n := 40) (by decide +kernel) ?_
      refine z_ald3 (n := 41) (by decide +kernel) ?_
      refine z_ild4 (n := 43) (by decide +kernel) ?_
      refine z_v1 (n := 46) (idx := 48) (by decide +kernel) ml_X3_48 (by first | assumption | (simp (disch := omega) only [hu_s, hu_n]; first | assumption | rfl)) rfl (Nat.le_of_ble_eq_true rfl) (by omega) ⟨Nat.le_refl _, Nat.le_refl _⟩ (k_signOf (x := nI (u + 1)) 1 (by omega) HX hy) ?_
      refine z_iast (n := 47) (by decide +kernel) (by first | assumption | (simp (disch := omega) only [hu_s, hu_n]; first | assumption | rfl)) (by first | assumption | exact ix_nI (by omega) (by omega) | exact ix_of (by simp only [n_0, n_1, n_2, n_3, n_4, n_5, n_6, n_7, n_8, n_10, n_50, n_90, n_130, n_370, n_570, nI_add, pk_mul]; rfl) (by omega) (by omega)) ?_
      refine z_ald0 (n := 48) (by decide +kernel) ?_
      refine z_getf (n := 51) (idx := 23) (by decide +kernel) fl_X3_23 (by first | assumption | (simp (disch := omega) only [hu_s, hu_n]; first | assumption | rfl)) (by rfl) ?_
      refine z_iconst (n := 52) (q := 0) (v := 0) (by decide +kernel) ?_
      refine z_aald2 (n := 53) (by decide +kernel) (by first | assumption | (simp (disch := omega) only [hu_s, hu_n]; first | assumption | rfl)) (by first | assumption | exact ix_nI (by omega) (by omega) | exact ix_of (by simp only [n_0, n_1, n_2, n_3, n_4, n_5, n_6, n_7, n_8, n_10, n_50, n_90, n_130, n_370, n_570, nI_add, pk_mul]; rfl) (by omega) (by omega)) (by rw [if_pos z4]) ?_
      refine z_ild4 (n := 55) (by decide +kernel) ?_
      refine z_iconst (n := 56) (q := 0) (v := 0) (by decide +kernel) ?_
      refine z_iast (n := 57) (by decide +kernel) (by first | assumption | (simp (disch := omega) only [hu_s, hu_n]; first | assumption | rfl)) (by first | assumption | exact ix_nI (by omega) (by omega) | exact ix_of (by simp only [n_0, n_1, n_2, n_3, n_4, n_5, n_6, n_7, n_8, n_10, n_50, n_90, n_130, n_370, n_570, nI_add, pk_mul]; rfl) (by omega) (by omega)) ?_
      refine z_iconst (n := 58) (q := 0) (v := 0) (by decide +kernel) ?_
      refine z_ist5 (n := 60) (by decide +kernel) rfl ?_
      skip
      refine z_ild5 (n := 62) (by decide +kernel) ?_
      refine z_iconst (n := 63) (q := 2) (v := 2) (by decide +kernel) ?_
      refine z_icmp_gt_f (n := 66) (off := 20) (tgt := 83) (by decide +kernel) (by decide) ?_
      refine z_ald0 (n := 67) (by decide +kernel) ?_
      refine z_getf (n := 70) (idx := 29) (by decide +kernel) fl_X3_29 (by first | assumption | (simp (disch := omega) only [hu_s, hu_n]; first | assumption | rfl)) (by rfl) ?_
      refine z_ild4 (n := 72) (by decide +kernel) ?_
      refine z_aald2 (n := 73) (by decide +kernel) (by first | assumption | (simp (disch := omega) only [hu_s, hu_n]; first | assumption | rfl)) (by first | assumption | exact ix_nI (by omega) (by omega) | exact ix_of (by simp only [n_0, n_1, n_2, n_3, n_4, n_5, n_6, n_7, n_8, n_10, n_50, n_90, n_130, n_370, n_570, nI_add, pk_mul]; rfl) (by omega) (by omega)) (by rw [if_pos u12]) ?_
      refine z_ild5 (n := 75) (by decide +kernel) ?_
      refine z_iconst (n := 76) (q := 0) (v := 0) (by decide +kernel) ?_
      refine z_iast (n := 77) (by decide +kernel) (by first | assumption | (simp (disch := omega) only [hu_s, hu_n]; first | assumption | rfl)) (by first | assumption | exact ix_nI (by omega) (by omega) | exact ix_of (by simp only [n_0, n_1, n_2, n_3, n_4, n_5, n_6, n_7, n_8, n_10, n_50, n_90, n_130, n_370, n_570, nI_add, pk_mul]; rfl) (by omega) (by omega)) ?_
      refine z_inc5 (n := 80) (q := 1) (by decide +kernel) rfl (show (0 : Int32) + 1 = 1 from rfl) ?_
      refine z_goto (n := 83) (off := -20) (tgt := 60) (by decide +kernel) ?_
      skip
      refine z_ild5 (n := 62) (by decide +kernel) ?_
      refine z_iconst (n := 63) (q := 2) (v := 2) (by decide +kernel) ?_
      refine z_icmp_gt_f (n := 66) (off := 20) (tgt := 83) (by decide +kernel) (by decide) ?_
      refine z_ald0 (n := 67) (by decide +kernel) ?_
      refine z_getf (n := 70) (idx := 29) (by decide +kernel) fl_X3_29 (by first | assumption | (simp (disch := omega) only [hu_s, hu_n]; first | assumption | rfl)) (by rfl) ?_
      refine z_ild4 (n := 72) (by decide +kernel) ?_
      refine z_aald2 (n := 73) (by decide +kernel) (by first | assumption | (simp (disch := omega) only [hu_s, hu_n]; first | assumption | rfl)) (by first | assumption | exact ix_nI (by omega) (by omega) | exact ix_of (by simp only [n_0, n_1, n_2, n_3, n_4, n_5, n_6, n_7, n_8, n_10, n_50, n_90, n_130, n_370, n_570, nI_add, pk_mul]; rfl) (by omega) (by omega)) (by rw [if_pos u12]) ?_
      refine z_ild5 (n := 75) (by decide +kernel) ?_
      refine z_iconst (n := 76) (q := 0) (v := 0) (by decide +kernel) ?_
      refine z_iast (n := 77) (by decide +kernel) (by first | assumption | (simp (disch := omega) only [hu_s, hu_n]; first | assumption | rfl)) (by first | assumption | exact ix_nI (by omega) (by omega) | exact ix_of (by simp only [n_0, n_1, n_2, n_3, n_4, n_5, n_6, n_7, n_8, n_10, n_50, n_90, n_130, n_370, n_570, nI_add, pk_mul]; rfl) (by omega) (by omega)) ?_
      refine z_inc5 (n := 80) (q := 1) (by decide +kernel) rfl (show (1 : Int32) + 1 = 2 from rfl) ?_
      refine z_goto (n := 83) (off := -20) (tgt := 60) (by decide +kernel) ?_
      skip
      refine z_ild5 (n := 62) (by decide +kernel) ?_
      refine z_iconst (n := 63) (q := 2) (v := 2) (by decide +kernel) ?_
      refine z_icmp_gt_f (n := 66) (off := 20) (tgt := 83) (by decide +kernel) (by decide) ?_
      refine z_ald0 (n := 67) (by decide +kernel) ?_
      refine z_getf (n := 70) (idx := 29) (by decide +kernel) fl_X3_29 (by first | assumption | (simp (disch := omega) only [hu_s, hu_n]; first | assumption | rfl)) (by rfl) ?_
      refine z_ild4 (n := 72) (by decide +kernel) ?_
      refine z_aald2 (n := 73) (by decide +kernel) (by first | assumption | (simp (disch := omega) only [hu_s, hu_n]; first | assumption | rfl)) (by first | assumption | exact ix_nI (by omega) (by omega) | exact ix_of (by simp only [n_0, n_1, n_2, n_3, n_4, n_5, n_6, n_7, n_8, n_10, n_50, n_90, n_130, n_370, n_570, nI_add, pk_mul]; rfl) (by omega) (by omega)) (by rw [if_pos u12]) ?_
      refine z_ild5 (n := 75) (by decide +kernel) ?_
      refine z_iconst (n := 76) (q := 0) (v := 0) (by decide +kernel) ?_
      refine z_iast (n := 77) (by decide +kernel) (by first | assumption | (simp (disch := omega) only [hu_s, hu_n]; first | assumption | rfl)) (by first | assumption | exact ix_nI (by omega) (by omega) | exact ix_of (by simp only [n_0, n_1, n_2, n_3, n_4, n_5, n_6, n_7, n_8, n_10, n_50, n_90, n_130, n_370, n_570, nI_add, pk_mul]; rfl) (by omega) (by omega)) ?_
      refine z_inc5 (n := 80) (q := 1) (by decide +kernel) rfl (show (2 : Int32) + 1 = 3 from rfl) ?_
      refine z_goto (n := 83) (off := -20) (tgt := 60) (by decide +kernel) ?_
      skip
      refine z_ild5 (n := 62) (by decide +kernel) ?_
      refine z_iconst (n := 63) (q := 2) (v := 2) (by decide +kernel) ?_
      refine z_icmp_gt_t (n := 66) (off := 20) (tgt := 83) (by decide +kernel) (by decide) ?_
      refine z_inc4 (n := 86) (q := 1) (by decide +kernel) rfl (nI_1 _) ?_
      refine z_goto (n := 89) (off := -58) (tgt := 28) (by decide +kernel) ?_
      skip
      refine z_wk (lv' := [some (.ref S), some (.int (nI (n' + 1))), some (.int (nI K)), some (.ref Y), some (.int (nI (u + 1 + 1))), none]) (by simp [wk]) (ih (u + 1) (by omega) _ (upd toX (u + 1) (tolF y (u + 1))) (upd sgX (u + 1) 0) (frm_tr F (fun j hj => by simp (disch := omega) only [hu_n])) (by simp (disch := omega) only [hTn, hCr, hFl, hu_s, hu_n]; first | done | assumption | rfl) (by simp (disch := omega) only [hTn, hCr, hFl, hu_s, hu_n]; first | done | assumption | rfl) ⟨⟨fX, (by simp (disch := omega) only [hTn, hCr, hFl, hu_s, hu_n]; first | done | assumption | rfl), b2⟩, (by simp (disch := omega) only [hTn, hCr, hFl, hu_s, hu_n]; first | done | assumption | rfl), (by simp (disch := omega) only [hTn, hCr, hFl, hu_s, hu_n]; first | done | assumption | rfl)⟩ (fun q hq => ?_) ⟨(by simp (disch := omega) only [hTn, hCr, hFl, hu_s, hu_n]; first | done | assumption | rfl), (by simp (disch := omega) only [hTn, hCr, hFl, hu_s, hu_n]; first | done | assumption | rfl), (by simp (disch := omega) only [hTn, hCr, hFl, hu_s, hu_n]; first | done | assumption | rfl), (by simp (disch := omega) only [hTn, hCr, hFl, hu_s, hu_n]; first | done | assumption | rfl), (by simp (disch := omega) only [hTn, hCr, hFl, hu_s, hu_n]; first | done | assumption | rfl)⟩ (by simp (disch := omega) only [hTn, hCr, hFl, hu_s, hu_n]; first | done | assumption | rfl) (by simp (disch := omega) only [hTn, hCr, hFl, hu_s, hu_n]; first | done | assumption | rfl) (fun p hp => ?_) (fun p hp => ?_))
      · by_cases c : q = 0
        · subst c
          exact ⟨_, _, _, _, _, _, _, ⟨(by simp (disch := omega) only [hTn, hCr, hFl, hu_s, hu_n]; first | done | assumption | rfl), (by simp (disch := omega) only [hTn, hCr, hFl, hu_s, hu_n]; first | done | assumption | rfl), (by simp (disch := omega) only [hTn, hCr, hFl, hu_s, hu_n]; first | done | assumption | rfl), (by simp (disch := omega) only [hTn, hCr, hFl, hu_s, hu_n]; first | done | assumption | rfl), (by simp (disch := omega) only [hTn, hCr, hFl, hu_s, hu_n]; first | done | assumption | rfl)⟩, (by simp (disch := omega) only [hTn, hCr, hFl, hu_s, hu_n]; first | done | assumption | rfl)⟩
        · exact scr_in (fun j a b => by simp (disch := omega) only [hu_n]) (by simp (disch := omega) only [hu_n]) (a3 q hq)
      · by_cases c : p = u
        · subst c; rw [upd_ss, upd_ss]; exact ⟨rfl, rfl⟩
        · rw [upd_nn (by omega), upd_nn (by omega)]; exact a7 p (by omega)
      · by_cases c : p = u + 1
        · subst c
          refine ⟨_, hu_s, fun _ _ => ⟨?_, ?_, ?_⟩⟩
          · rw [upd_nn (by omega), upd_nn (by omega), upd_ss]
          · rw [upd_nn (by omega), upd_ss]
          · rw [upd_ss]
        · obtain ⟨f9, e1, e2⟩ := a8 p hp
          exact ⟨f9, by rw [← e1]; simp (disch := omega) only [hu_n], fun x1 x2 => e2 x1 (by omega)⟩
  have z04 : fS 0 = some (S + 22 + 5 * 0) := hC2 0 (by omega)
  refine ev_4_2 rfl rfl rfl rfl (by decide +kernel) (by decide +kernel) ?_
  refine z_ald0 (n := 1) (by decide +kernel) ?_
  refine z_ild1 (n := 2) (by decide +kernel) ?_
  refine z_putf (n := 5) (idx := 35) (ty := .int) (by decide +kernel) fl_X3_35 (by first | assumption | (simp (disch := omega) only [hu_s, hu_n]; first | assumption | rfl)) ⟨_, _, _, rfl, rfl, by decide +kernel⟩ rfl rfl (Nat.le_of_ble_eq_true rfl) ?_
  refine z_ald0 (n := 6) (by decide +kernel) ?_
  refine z_ild2 (n := 7) (by decide +kernel) ?_
  refine z_putf (n := 10) (idx := 39) (ty := .int) (by decide +kernel) fl_X3_39 (by first | assumption | (simp (disch := omega) only [hu_s, hu_n]; first | assumption | rfl)) ⟨_, _, _, rfl, rfl, by decide +kernel⟩ rfl rfl (Nat.le_of_ble_eq_true rfl) ?_
  refine z_ald0 (n := 11) (by decide +kernel) ?_
  refine z_iconst (n := 12) (q := 0) (v := 0) (by decide +kernel) ?_
  refine z_putf (n := 15) (idx := 42) (ty := .int) (by decide +kernel) fl_X3_42 (by first | assumption | (simp (disch := omega) only [hu_s, hu_n]; first | assumption | rfl)) ⟨_, _, _, rfl, rfl, by decide +kernel⟩ rfl rfl (Nat.le_of_ble_eq_true rfl) ?_
  refine z_ald0 (n := 16) (by decide +kernel) ?_
  refine z_getf (n := 19) (idx := 17) (by decide +kernel) fl_X3_17 (by first | assumption | (simp (disch := omega) only [hu_s, hu_n]; first | assumption | rfl)) (by rfl) ?_
  refine z_iconst (n := 20) (q := 0) (v := 0) (by decide +kernel) ?_
  refine z_aald (n := 21) (by decide +kernel) (by first | assumption | (simp (disch := omega) only [hu_s, hu_n]; first | assumption | rfl)) (by first | assumption | exact ix_nI (j := 0) (by omega) (by omega)) (z04) ?_
  refine z_ild1 (n := 22) (by decide +kernel) ?_
  refine z_v1v (n := 25) (idx := 45) (by decide +kernel) ml_X3_45 (by first | assumption | (simp (disch := omega) only [hu_s, hu_n]; first | assumption | rfl)) rfl (Nat.le_of_ble_eq_true rfl) (by omega) ⟨Nat.le_refl _, Nat.le_refl _⟩ (k_layFlat (N := 12) (k := n' + 1) (sz := nI k0) (tl := tl0) (pl := pl0) (ly := ly0) (up := up0) 1 (by omega) (by simp (disch := omega) only [hTn, hCr, hFl, hu_s, hu_n]; first | done | assumption | rfl) (by simp (disch := omega) only [hTn, hCr, hFl, hu_s, hu_n]; first | done | assumption | rfl) (by simp (disch := omega) only [hTn, hCr, hFl, hu_s, hu_n]; first | done | assumption | rfl) (by simp (disch := omega) only [hTn, hCr, hFl, hu_s, hu_n]; first | done | assumption | rfl) (by omega) (by omega)) ?_
  refine z_iconst (n := 26) (q := 1) (v := 1) (by decide +kernel) ?_
  refine z_ist4 (n := 28) (by decide +kernel) rfl ?_
  skip
  refine z_wk (lv' := [some (.ref S), some (.int (nI (n' + 1))), some (.int (nI K)), some (.ref Y), some (.int (nI (0 + 1))), none]) (by simp [wk]; rfl) (lp n' 0 (by omega) _ to sg0 (fun j hj => by simp (disch := omega) only [hFl, hu_n]) (by simp (disch := omega) only [hTn, hCr, hFl, hu_s, hu_n]; first | done | assumption | rfl) (by simp (disch := omega) only [hTn, hCr, hFl, hu_s, hu_n]; first | done | assumption | rfl) ⟨⟨fS, (by simp (disch := omega) only [hTn, hCr, hFl, hu_s, hu_n]; first | done | assumption | rfl), hC2⟩, (by simp (disch := omega) only [hTn, hCr, hFl, hu_s, hu_n]; first | done | assumption | rfl), (by simp (disch := omega) only [hTn, hCr, hFl, hu_s, hu_n]; first | done | assumption | rfl)⟩ (fun q hq => ?_) ⟨(by simp (disch := omega) only [hTn, hCr, hFl, hu_s, hu_n]; first | done | assumption | rfl), (by simp (disch := omega) only [hTn, hCr, hFl, hu_s, hu_n]; first | done | assumption | rfl), (by simp (disch := omega) only [hTn, hCr, hFl, hu_s, hu_n]; first | done | assumption | rfl), (by simp (disch := omega) only [hTn, hCr, hFl, hu_s, hu_n]; first | done | assumption | rfl), (by simp (disch := omega) only [hTn, hCr, hFl, hu_s, hu_n]; first | done | assumption | rfl)⟩ (by simp (disch := omega) only [hTn, hCr, hFl, hu_s, hu_n]; first | done | assumption | rfl) (by simp (disch := omega) only [hTn, hCr, hFl, hu_s, hu_n]; first | done | assumption | rfl) (fun p hp => absurd hp (Nat.not_lt_zero _)) (fun p hp => ?_))
  · by_cases c : q = 0
    · subst c
      exact ⟨_, _, _, _, _, _, _, ⟨(by simp (disch := omega) only [hTn, hCr, hFl, hu_s, hu_n]; first | done | assumption | rfl), (by simp (disch := omega) only [hTn, hCr, hFl, hu_s, hu_n]; first | done | assumption | rfl), (by simp (disch := omega) only [hTn, hCr, hFl, hu_s, hu_n]; first | done | assumption | rfl), (by simp (disch := omega) only [hTn, hCr, hFl, hu_s, hu_n]; first | done | assumption | rfl), (by simp (disch := omega) only [hTn, hCr, hFl, hu_s, hu_n]; first | done | assumption | rfl)⟩, (by simp (disch := omega) only [hTn, hCr, hFl, hu_s, hu_n]; first | done | assumption | rfl)⟩
    · exact scr_in (fun j a b => by simp (disch := omega) only [hFl, hu_n]) (by simp (disch := omega) only [hFl, hu_n]) (hsc q hq)
  · obtain ⟨f9, e1⟩ := h9 p hp
    exact ⟨f9, by rw [← e1]; simp (disch := omega) only [hFl, hu_n], fun x1 x2 => absurd x2 (by omega)⟩
theorem sea_X {h : mH} {S n k : Nat} {wa fd : Int32} {li to : Nat → Int32} {ta : Nat → Nat → Int32} {done : Nat} {sts : Nat → sS} (H : sea h S n k wa fd li to ta done sts) : seaX h S := by
  obtain ⟨h0, h1, h2, h3, h4, h5, h6⟩ := H
  refine ⟨⟨_, _, _, _, h0⟩, ⟨_, h1⟩, h2, fun q hq => ?_, ⟨_, h5⟩, fun p hp => ⟨_, h6 p hp⟩, fun q hq => ?_⟩
  · obtain ⟨sz, tl, pl, ly, up, ht, sg, _, z⟩ := h3 q hq
    exact ⟨sg, z⟩
  · obtain ⟨sz, tl, pl, ly, up, ht, sg, z, _⟩ := h3 q hq
    exact ⟨sz, tl, pl, ly, up, ht, z⟩
theorem k_countFit {G : mG} {h : mH} {S n K : Nat} {t : Nat → Int32} (d : Nat) (hd : 11 ≤ d) (hn2 : 2 ≤ n) (hn : n ≤ 12) (hK : K ≤ 3) (H : seR h S n K t) : EV G m_X3_countFitting d 0 0 [.ref S] h (fun r h' => r = some (.int (nI (srF n t K st0).length)) ∧ (frm h h' S (S + 42) ∧ ∃ wa fd li to ta sts, sea h' S n K wa fd li to ta 0 sts ∧ ∀ p s, p + 1 < n → s < 3 → ta (p + 1) s = nI (cnL (srF n t K st0) (p + 1) s))) := by
  obtain ⟨wa, li, to, ta, sts, H, e0, e1, e2⟩ := H
  obtain ⟨h0, h1, h2, h3, h4, h5, h6⟩ := H
  have el := srF_ag e1 K st0
  refine ev_1_0 rfl (by decide +kernel) (by decide +kernel) ?_
  refine z_ald0 (n := 1) (by decide +kernel) ?_
  refine z_iconst (n := 2) (q := -1) (v := -1) (by decide +kernel) ?_
  refine z_putf (n := 5) (idx := 54) (ty := .int) (by decide +kernel) fl_X3_54 (by first | assumption | (simp (disch := omega) only [hu_s, hu_n]; first | assumption | rfl)) ⟨_, _, _, rfl, rfl, by decide +kernel⟩ rfl rfl (Nat.le_of_ble_eq_true rfl) ?_
  refine z_ald0 (n := 6) (by decide +kernel) ?_
  refine z_iconst (n := 7) (q := 0) (v := 0) (by decide +kernel) ?_
  refine z_g1 (n := 10) (idx := 57) (by decide +kernel) ml_X3_57 (by first | assumption | (simp (disch := omega) only [hu_s, hu_n]; first | assumption | rfl)) rfl (Nat.le_of_ble_eq_true rfl) (by omega) ⟨Nat.le_refl _, Nat.le_refl _⟩ (k_goOn (wa := -1) (to := to) hn2 hn hK K 0 (by omega) 10 (by omega) 0 _ li ta sts (by rw [e0]; exact bnS_0 hn) ⟨(by simp (disch := omega) only [hTn, hCr, hFl, hu_s, hu_n]; first | done | assumption | rfl), (by simp (disch := omega) only [hTn, hCr, hFl, hu_s, hu_n]; first | done | assumption | rfl), seaC_in (hu_n (by omega)) (hu_n (by omega)) (hu_n (by omega)) h2, fun q hq => scr_in (fun j a b => hu_n (by omega)) (hu_n (by omega)) (h3 q hq), fun q hq => lvl_in (fun j a b => hu_n (by omega)) (hu_n (by omega)) (h4 q hq), (by simp (disch := omega) only [hTn, hCr, hFl, hu_s, hu_n]; first | done | assumption | rfl), fun p hp => (hu_n (by omega)).trans (h6 p hp)⟩) (fun x7 h7 q7 => ?_)
  skip
  rw [e0, Nat.sub_zero, el] at q7
  obtain ⟨y1, li', fd', ta', y2, y3, y4, y5⟩ := q7
  have xf : x7 = false := by
    cases x7 with
    | false => rfl
    | true =>
      obtain ⟨j, j1, j2, -⟩ := y5 rfl
      have := srF_31 (to := t) (st := st0) hn hK
      exact absurd (j2 ▸ nI_pos' (n := 0 + j) (by omega) : (0 : Int32) ≤ -1) (by decide)
  obtain ⟨rfl, y6, -⟩ := y4 xf
  have Y2 := y2
  obtain ⟨g0, -⟩ := y2
  refine z_pop (n := 11) (by decide +kernel) rfl ?_
  refine z_ald0 (n := 12) (by decide +kernel) ?_
  refine z_getf (n := 15) (idx := 42) (by decide +kernel) fl_X3_42 (by first | assumption | (simp (disch := omega) only [hu_s, hu_n]; first | assumption | rfl)) (by rfl) ?_
  refine z_iret (by decide +kernel) rfl (Nat.le_refl _) ?_
  exact ⟨by rw [Nat.zero_add], frm_tr (fun j hj => hu_n (by omega)) y1, _, _, _, _, _, _, Y2, fun p s hp hs => by rw [y6 p s hp hs, e2 p s hp hs, Int32.zero_add]⟩
theorem k_findFit {G : mG} {h : mH} {S n K i : Nat} {t : Nat → Int32} (d : Nat) (hd : 11 ≤ d) (hn2 : 2 ≤ n) (hn : n ≤ 12) (hK : K ≤ 3) (hi : i < 2 ^ 31) (H : seR h S n K t) : EV G m_X3_findFitting d 0 0 [.ref S, .int (nI i)] h (fun r h' => ∃ x, r = some (.int (bI x)) ∧ (frm h h' S (S + 42) ∧ x = decide (i < (srF n t K st0).length) ∧ ∃ wa fd li to ta sts, sea h' S n K wa fd li to ta 0 sts ∧ (x = true → ∀ j, j < K → li j = digI (((srF n t K st0).getD i dL).1.getD j 0)))) := by
  obtain ⟨wa, li, to, ta, sts, H, e0, e1, e2⟩ := H
  obtain ⟨h0, h1, h2, h3, h4, h5, h6⟩ := H
  have el := srF_ag e1 K st0
  have b31 := srF_31 (to := t) (st := st0) hn hK
  refine ev_2_0 rfl rfl (by decide +kernel) (by decide +kernel) ?_
  refine z_ald0 (n := 1) (by decide +kernel) ?_
  refine z_ild1 (n := 2) (by decide +kernel) ?_
  refine z_putf (n := 5) (idx := 54) (ty := .int) (by decide +kernel) fl_X3_54 (by first | assumption | (simp (disch := omega) only [hu_s, hu_n]; first | assumption | rfl)) ⟨_, _, _, rfl, rfl, by decide +kernel⟩ rfl rfl (Nat.le_of_ble_eq_true rfl) ?_
  refine z_ald0 (n := 6) (by decide +kernel) ?_
  refine z_iconst (n := 7) (q := 0) (v := 0) (by decide +kernel) ?_
  refine z_g1 (n := 10) (idx := 57) (by decide +kernel) ml_X3_57 (by first | assumption | (simp (disch := omega) only [hu_s, hu_n]; first | assumption | rfl)) rfl (Nat.le_of_ble_eq_true rfl) (by omega) ⟨Nat.le_refl _, Nat.le_refl _⟩ (k_goOn (wa := nI i) (to := to) hn2 hn hK K 0 (by omega) 10 (by omega) 0 _ li ta sts (by rw [e0]; exact bnS_0 hn) ⟨(by simp (disch := omega) only [hTn, hCr, hFl, hu_s, hu_n]; first | done | assumption | rfl), (by simp (disch := omega) only [hTn, hCr, hFl, hu_s, hu_n]; first | done | assumption | rfl), seaC_in (hu_n (by omega)) (hu_n (by omega)) (hu_n (by omega)) h2, fun q hq => scr_in (fun j a b => hu_n (by omega)) (hu_n (by omega)) (h3 q hq), fun q hq => lvl_in (fun j a b => hu_n (by omega)) (hu_n (by omega)) (h4 q hq), (by simp (disch := omega) only [hTn, hCr, hFl, hu_s, hu_n]; first | done | assumption | rfl), fun p hp => (hu_n (by omega)).trans (h6 p hp)⟩) (fun x7 h7 q7 => ?_)
  skip
  rw [e0, Nat.sub_zero, el] at q7
  obtain ⟨y1, li', fd', ta', y2, y3, y4, y5⟩ := q7
  have F : frm h h7 S (S + 42) := frm_tr (fun j hj => hu_n (by omega)) y1
  cases x7 with
  | false =>
    obtain ⟨-, -, z⟩ := y4 rfl
    first | refine z_zr1 (by decide +kernel) rfl (Nat.le_refl _) ?_ | refine z_zr0 (by decide +kernel) rfl (Nat.le_refl _) ?_ | refine z_zrb (by decide +kernel) rfl (Nat.le_refl _) ?_
    exact ⟨false, rfl, F, (decide_eq_false (fun c => z i c (by rw [Nat.zero_add]))).symm, _, _, _, _, _, _, y2, fun z => Bool.noConfusion z⟩
  | true =>
    obtain ⟨j, j1, j2, j3⟩ := y5 rfl
    rw [Nat.zero_add] at j2
    have e : i = j := (nI_ij hi (by omega)).mp j2
    subst e
    first | refine z_zr1 (by decide +kernel) rfl (Nat.le_refl _) ?_ | refine z_zr0 (by decide +kernel) rfl (Nat.le_refl _) ?_ | refine z_zrb (by decide +kernel) rfl (Nat.le_refl _) ?_
    exact ⟨true, rfl, F, (decide_eq_true j1).symm, _, _, _, _, _, _, y2, fun _ q hq => (by have := j3 q (by omega); rw [Nat.zero_add] at this; exact this)⟩
def mxL (ls : List sL) (p : Nat) : Nat := max (cnL ls p 0) (max (cnL ls p 1) (cnL ls p 2))
def bsF (g : Nat → Nat) : Nat → Nat → Nat → Int32 → Int32
  | 0, _, _, b => b
  | m + 1, u, l, b => if g u < l then bsF g m (u + 1) (g u) (nI u) else bsF g m (u + 1) l b
theorem cnL_le {ls : List sL} {p s : Nat} : cnL ls p s ≤ ls.length := List.length_filter_le _ _
theorem mx_if {a b : Nat} (ha : a < 2 ^ 31) (hb : b < 2 ^ 31) : (if nI a < nI b then nI b else nI a) = nI (max a b) := by
  by_cases c : a < b
  · rw [if_pos (nI_lt c hb), Nat.max_eq_right (by omega)]
  · rw [if_neg (nI_nlt (by omega) ha), Nat.max_eq_left (by omega)]
theorem k_bestPoint {G : mG} {h : mH} {S n K : Nat} {t : Nat → Int32} (d : Nat) (hd : 12 ≤ d) (hn2 : 2 ≤ n) (hn : n ≤ 12) (hK : K ≤ 3) (H : seR h S n K t) : EV G m_X3_bestPoint d 0 0 [.ref S] h (fun r h' => r = some (.int (bsF (mxL (srF n t K st0)) (n - 1) 1 (srF n t K st0).length (-1))) ∧ (frm h h' S (S + 42) ∧ seaX h' S)) := by
  have b31 := srF_31 (to := t) (st := st0) hn hK
  have H0 := H
  obtain ⟨wa0, li0, to0, ta0, sts0, ⟨h0, -⟩, -⟩ := H0
  generalize hls : srF n t K st0 = ls at *
  obtain ⟨n', rfl⟩ : ∃ n', n = n' + 1 := ⟨n - 1, by omega⟩
  refine ev_1_5 rfl (by decide +kernel) (by decide +kernel) ?_
  refine z_ald0 (n := 1) (by decide +kernel) ?_
  refine z_w0 (n := 4) (idx := 61) (by decide +kernel) ml_X3_61 (by assumption) rfl (Nat.le_of_ble_eq_true rfl) (by omega) ⟨Nat.le_refl _, Nat.le_refl _⟩ (k_countFit (n := n' + 1) (K := K) (t := t) 11 (by omega) hn2 hn hK H) (fun h1 q1 => ?_)
  skip
  rw [hls] at q1 ⊢
  obtain ⟨F, wa, fd, li, to, ta, sts, q2, q3⟩ := q1
  have fX := sea_X q2
  obtain ⟨g0, g1, ⟨⟨fS, gC1, gC2⟩, gC3, gC4⟩, gsc, glv, g8, gta⟩ := q2
  rw [Nat.add_sub_cancel]
  have lp : ∀ m u l b, u + m = n' → l ≤ 10648 → Z G m_X3_bestPoint d 0 0 0 0 9 [some (.ref S), some (.int (nI l)), some (.int b), some (.int (nI (u + 1))), none, none] [] h1 (fun r h' => r = some (.int (bsF (mxL ls) m (u + 1) l b)) ∧ (frm h h' S (S + 42) ∧ seaX h' S)) := by
    intro m
    induction m with
    | zero =>
      intro u l b hu9 hl
      refine z_ild3 (n := 10) (by decide +kernel) ?_
      refine z_ald0 (n := 11) (by decide +kernel) ?_
      refine z_getf (n := 14) (idx := 35) (by decide +kernel) fl_X3_35 (by assumption) (by rfl) ?_
      refine z_icmp_ge_t (n := 17) (off := 48) (tgt := 62) (by decide +kernel) (by rw [show u = n' by omega]; exact Int32.le_refl _) ?_
      refine z_ild2 (n := 63) (by decide +kernel) ?_
      refine z_iret (by decide +kernel) rfl (Nat.le_refl _) ?_
      exact ⟨rfl, F, fX⟩
    | succ m ih =>
      intro u l b hu9 hl
      have u12 : u + 1 < 12 := by omega
      have gt := gta (u + 1) u12
      have c0 := cnL_le (ls := ls) (p := u + 1) (s := 0)
      have c1 := cnL_le (ls := ls) (p := u + 1) (s := 1)
      have c2 := cnL_le (ls := ls) (p := u + 1) (s := 2)
      have e0 := q3 u 0 (by omega) (by omega)
      have e1 := q3 u 1 (by omega) (by omega)
      have e2 := q3 u 2 (by omega) (by omega)
      have em : max (cnL ls (u + 1) 0) (max (cnL ls (u + 1) 1) (cnL ls (u + 1) 2)) = mxL ls (u + 1) := rfl
      have eb : mxL ls (u + 1) ≤ 10648 := by unfold mxL; omega
      rw [bsF]
      by_cases c : mxL ls (u + 1) < l
      · rw [if_pos c]
        refine z_ild3 (n := 10) (by decide +kernel) ?_
        refine z_ald0 (n := 11) (by decide +kernel) ?_
        refine z_getf (n := 14) (idx := 35) (by decide +kernel) fl_X3_35 (by assumption) (by rfl) ?_
        refine z_icmp_ge_f (n := 17) (off := 48) (tgt := 62) (by decide +kernel) (nI_ge (by omega) (by omega)) ?_
        refine z_ald0 (n := 18) (by decide +kernel) ?_
        refine z_getf (n := 21) (idx := 29) (by decide +kernel) fl_X3_29 (by assumption) (by rfl) ?_
        refine z_ild3 (n := 22) (by decide +kernel) ?_
        refine z_aald2 (n := 23) (by decide +kernel) (by assumption) (by first | assumption | exact ix_nI (by omega) (by omega) | exact ix_of (by simp only [n_0, n_1, n_2, n_3, n_4, n_5, n_6, n_7, n_8, n_10, n_50, n_90, n_130, n_370, n_570, nI_add, pk_mul]; rfl) (by omega) (by omega)) (by rw [if_pos u12]) ?_
        refine z_ast4 (n := 25) (by decide +kernel) rfl ?_
        refine z_ald4 (n := 27) (by decide +kernel) ?_
        refine z_iconst (n := 28) (q := 0) (v := 0) (by decide +kernel) ?_
        refine z_iald (n := 29) (by decide +kernel) (by assumption) (by first | assumption | exact ix_nI (by omega) (by omega) | exact ix_of (by simp only [n_0, n_1, n_2, n_3, n_4, n_5, n_6, n_7, n_8, n_10, n_50, n_90, n_130, n_370, n_570, nI_add, pk_mul]; rfl) (by omega) (by omega)) ?_
        refine z_top e0 ?_
        refine z_ald4 (n := 31) (by decide +kernel) ?_
        refine z_iconst (n := 32) (q := 1) (v := 1) (by decide +kernel) ?_
        refine z_iald (n := 33) (by decide +kernel) (by assumption) (by first | assumption | exact ix_nI (by omega) (by omega) | exact ix_of (by simp only [n_0, n_1, n_2, n_3, n_4, n_5, n_6, n_7, n_8, n_10, n_50, n_90, n_130, n_370, n_570, nI_add, pk_mul]; rfl) (by omega) (by omega)) ?_
        refine z_top e1 ?_
        refine z_ald4 (n := 35) (by decide +kernel) ?_
        refine z_iconst (n := 36) (q := 2) (v := 2) (by decide +kernel) ?_
        refine z_iald (n := 37) (by decide +kernel) (by assumption) (by first | assumption | exact ix_nI (by omega) (by omega) | exact ix_of (by simp only [n_0, n_1, n_2, n_3, n_4, n_5, n_6, n_7, n_8, n_10, n_50, n_90, n_130, n_370, n_570, nI_add, pk_mul]; rfl) (by omega) (by omega)) ?_
        refine z_top e2 ?_
        refine z_mmax (n := 40) (idx := 65) (by decide +kernel) jl_X3_65 (Nat.le_of_ble_eq_true rfl) (by omega) (Nat.le_of_ble_eq_true rfl) (Nat.le_of_ble_eq_true rfl) ?_
        refine z_top (mx_if (by omega) (by omega)) ?_
        refine z_mmax (n := 43) (idx := 65) (by decide +kernel) jl_X3_65 (Nat.le_of_ble_eq_true rfl) (by omega) (Nat.le_of_ble_eq_true rfl) (Nat.le_of_ble_eq_true rfl) ?_
        refine z_top ((mx_if (by omega) (by omega)).trans (congrArg nI em)) ?_
        refine z_ist5 (n := 45) (by decide +kernel) rfl ?_
        refine z_ild5 (n := 47) (by decide +kernel) ?_
        refine z_ild1 (n := 48) (by decide +kernel) ?_
        refine z_icmp_ge_f (n := 51) (off := 8) (tgt := 56) (by decide +kernel) (nI_ge c (by omega)) ?_
        refine z_ild5 (n := 53) (by decide +kernel) ?_
        refine z_ist1 (n := 54) (by decide +kernel) rfl ?_
        refine z_ild3 (n := 55) (by decide +kernel) ?_
        refine z_ist2 (n := 56) (by decide +kernel) rfl ?_
        refine z_inc3 (n := 59) (q := 1) (by decide +kernel) rfl (nI_1 _) ?_
        refine z_goto (n := 62) (off := -50) (tgt := 9) (by decide +kernel) ?_
        exact z_wk (lv' := [some (.ref S), some (.int (nI (mxL ls (u + 1)))), some (.int (nI (u + 1))), some (.int (nI (u + 1 + 1))), none, none]) (by simp [wk]) (ih (u + 1) _ _ (by omega) eb)
      · rw [if_neg c]
        refine z_ild3 (n := 10) (by decide +kernel) ?_
        refine z_ald0 (n := 11) (by decide +kernel) ?_
        refine z_getf (n := 14) (idx := 35) (by decide +kernel) fl_X3_35 (by assumption) (by rfl) ?_
        refine z_icmp_ge_f (n := 17) (off := 48) (tgt := 62) (by decide +kernel) (nI_ge (by omega) (by omega)) ?_
        refine z_ald0 (n := 18) (by decide +kernel) ?_
        refine z_getf (n := 21) (idx := 29) (by decide +kernel) fl_X3_29 (by assumption) (by rfl) ?_
        refine z_ild3 (n := 22) (by decide +kernel) ?_
        refine z_aald2 (n := 23) (by decide +kernel) (by assumption) (by first | assumption | exact ix_nI (by omega) (by omega) | exact ix_of (by simp only [n_0, n_1, n_2, n_3, n_4, n_5, n_6, n_7, n_8, n_10, n_50, n_90, n_130, n_370, n_570, nI_add, pk_mul]; rfl) (by omega) (by omega)) (by rw [if_pos u12]) ?_
        refine z_ast4 (n := 25) (by decide +kernel) rfl ?_
        refine z_ald4 (n := 27) (by decide +kernel) ?_
        refine z_iconst (n := 28) (q := 0) (v := 0) (by decide +kernel) ?_
        refine z_iald (n := 29) (by decide +kernel) (by assumption) (by first | assumption | exact ix_nI (by omega) (by omega) | exact ix_of (by simp only [n_0, n_1, n_2, n_3, n_4, n_5, n_6, n_7, n_8, n_10, n_50, n_90, n_130, n_370, n_570, nI_add, pk_mul]; rfl) (by omega) (by omega)) ?_
        refine z_top e0 ?_
        refine z_ald4 (n := 31) (by decide +kernel) ?_
        refine z_iconst (n := 32) (q := 1) (v := 1) (by decide +kernel) ?_
        refine z_iald (n := 33) (by decide +kernel) (by assumption) (by first | assumption | exact ix_nI (by omega) (by omega) | exact ix_of (by simp only [n_0, n_1, n_2, n_3, n_4, n_5, n_6, n_7, n_8, n_10, n_50, n_90, n_130, n_370, n_570, nI_add, pk_mul]; rfl) (by omega) (by omega)) ?_
        refine z_top e1 ?_
        refine z_ald4 (n := 35) (by decide +kernel) ?_
        refine z_iconst (n := 36) (q := 2) (v := 2) (by decide +kernel) ?_
        refine z_iald (n := 37) (by decide +kernel) (by assumption) (by first | assumption | exact ix_nI (by omega) (by omega) | exact ix_of (by simp only [n_0, n_1, n_2, n_3, n_4, n_5, n_6, n_7, n_8, n_10, n_50, n_90, n_130, n_370, n_570, nI_add, pk_mul]; rfl) (by omega) (by omega)) ?_
        refine z_top e2 ?_
        refine z_mmax (n := 40) (idx := 65) (by decide +kernel) jl_X3_65 (Nat.le_of_ble_eq_true rfl) (by omega) (Nat.le_of_ble_eq_true rfl) (Nat.le_of_ble_eq_true rfl) ?_
        refine z_top (mx_if (by omega) (by omega)) ?_
        refine z_mmax (n := 43) (idx := 65) (by decide +kernel) jl_X3_65 (Nat.le_of_ble_eq_true rfl) (by omega) (Nat.le_of_ble_eq_true rfl) (Nat.le_of_ble_eq_true rfl) ?_
        refine z_top ((mx_if (by omega) (by omega)).trans (congrArg nI em)) ?_
        refine z_ist5 (n := 45) (by decide +kernel) rfl ?_
        refine z_ild5 (n := 47) (by decide +kernel) ?_
        refine z_ild1 (n := 48) (by decide +kernel) ?_
        refine z_icmp_ge_t (n := 51) (off := 8) (tgt := 56) (by decide +kernel) (nI_le (by omega) (by omega)) ?_
        refine z_inc3 (n := 59) (q := 1) (by decide +kernel) rfl (nI_1 _) ?_
        refine z_goto (n := 62) (off := -50) (tgt := 9) (by decide +kernel) ?_
        exact z_wk (lv' := [some (.ref S), some (.int (nI l)), some (.int b), some (.int (nI (u + 1 + 1))), none, none]) (by simp [wk]) (ih (u + 1) _ _ (by omega) hl)
  refine z_ist1 (n := 5) (by decide +kernel) rfl ?_
  refine z_iconst (n := 6) (q := -1) (v := -1) (by decide +kernel) ?_
  refine z_ist2 (n := 7) (by decide +kernel) rfl ?_
  refine z_iconst (n := 8) (q := 1) (v := 1) (by decide +kernel) ?_
  refine z_ist3 (n := 9) (by decide +kernel) rfl ?_
  exact z_wk (lv' := [some (.ref S), some (.int (nI ls.length)), some (.int (-1)), some (.int (nI (0 + 1))), none, none]) (by simp [wk]; rfl) (lp n' 0 ls.length (-1) (by omega) b31)
