/-! Search: goOn -/
def gSt (h hX : mH) (S n K : Nat) (wa : Int32) (f : Nat) (l0 : List sL) (done : Nat) (sts : Nat → sS) (li to : Nat → Int32) (ta : Nat → Nat → Int32) (liX : Nat → Int32) (taX : Nat → Nat → Int32) : Prop := frm h hX S (S + 42) ∧ sea hX S n K wa (nI (f + l0.length)) liX to taX done sts ∧ (∀ j, j < done → liX j = li j) ∧ (∀ p s, p + 1 < n → s < 3 → taX (p + 1) s = ta (p + 1) s + nI (cnL l0 (p + 1) s)) ∧ ∀ j, j < l0.length → ¬ wa = nI (f + j)
theorem gSt_0 {h : mH} {S n K : Nat} {wa : Int32} {f : Nat} {done : Nat} {sts : Nat → sS} {li to : Nat → Int32} {ta : Nat → Nat → Int32} (H : sea h S n K wa (nI f) li to ta done sts) : gSt h h S n K wa f [] done sts li to ta li ta :=
  ⟨frm_rf, H, fun _ _ => rfl, fun p s _ _ => (by show _ = ta (p + 1) s + nI 0; rw [nI_0, Int32.add_zero]), fun j hj => absurd hj (Nat.not_lt_zero _)⟩
theorem gSt_po {h hX : mH} {S n K : Nat} {wa : Int32} {f : Nat} {l0 : List sL} {done : Nat} {sts : Nat → sS} {li to : Nat → Int32} {ta : Nat → Nat → Int32} {liX : Nat → Int32} {taX : Nat → Nat → Int32} (g : gSt h hX S n K wa f l0 done sts li to ta liX taX) : gPo h hX S n K wa f l0 done sts li to ta false :=
  ⟨g.1, liX, _, taX, g.2.1, g.2.2.1, fun _ => ⟨rfl, g.2.2.2.1, g.2.2.2.2⟩, fun z => Bool.noConfusion z⟩
theorem gSt_f {h hX : mH} {S n K : Nat} {wa : Int32} {f : Nat} {l0 : List sL} {done : Nat} {sts : Nat → sS} {li to : Nat → Int32} {ta : Nat → Nat → Int32} {liX : Nat → Int32} {taX : Nat → Nat → Int32} {h' : mH} {l1 : List sL} (g : gSt h hX S n K wa f l0 done sts li to ta liX taX) (p : gPo hX h' S n K wa (f + l0.length) l1 done sts liX to taX false) : ∃ liY taY, gSt h h' S n K wa f (l0 ++ l1) done sts li to ta liY taY := by
  obtain ⟨p1, li', fd', ta', p2, p3, p4, -⟩ := p
  obtain ⟨rfl, p5, p6⟩ := p4 rfl
  obtain ⟨g1, g2, g3, g4, g5⟩ := g
  refine ⟨li', ta', frm_tr g1 p1, by rw [List.length_append, ← Nat.add_assoc]; exact p2, fun j hj => (p3 j hj).trans (g3 j hj), fun p s hp hs => ?_, fun j hj => ?_⟩
  · rw [p5 p s hp hs, g4 p s hp hs, cnL_app, ← nI_add, Int32.add_assoc]
  · rw [List.length_append] at hj
    by_cases c : j < l0.length
    · exact g5 j c
    · have := p6 (j - l0.length) (by omega)
      rw [show f + l0.length + (j - l0.length) = f + j by omega] at this
      exact this
theorem gSt_t {h hX : mH} {S n K : Nat} {wa : Int32} {f : Nat} {l0 : List sL} {done : Nat} {sts : Nat → sS} {li to : Nat → Int32} {ta : Nat → Nat → Int32} {liX : Nat → Int32} {taX : Nat → Nat → Int32} {h' : mH} {l1 R : List sL} (g : gSt h hX S n K wa f l0 done sts li to ta liX taX) (p : gPo hX h' S n K wa (f + l0.length) l1 done sts liX to taX true) : gPo h h' S n K wa f (l0 ++ (l1 ++ R)) done sts li to ta true := by
  obtain ⟨p1, li', fd', ta', p2, p3, -, p4⟩ := p
  obtain ⟨g1, g2, g3, g4, g5⟩ := g
  refine ⟨frm_tr g1 p1, li', fd', ta', p2, fun j hj => (p3 j hj).trans (g3 j hj), fun z => Bool.noConfusion z, fun _ => ?_⟩
  obtain ⟨j, j1, j2, j3⟩ := p4 rfl
  refine ⟨l0.length + j, by rw [List.length_append, List.length_append]; omega, by rw [← Nat.add_assoc]; exact j2, ?_⟩
  rw [getD_appR, getD_appL j1]
  exact j3
theorem rgF_nil {α : Type} {F : Nat → List α} : ∀ m u, (∀ f, u ≤ f → f < u + m → F f = []) → rgF F m u = []
  | 0, u, _ => rfl
  | m + 1, u, h => by rw [rgF, h u (Nat.le_refl _) (by omega), rgF_nil m (u + 1) (fun f a b => h f (by omega) (by omega))]; rfl
theorem rgF_skip {α : Type} {F : Nat → List α} : ∀ a m u, (∀ f, u ≤ f → f < u + a → F f = []) → rgF F m u = rgF F (m - a) (u + a)
  | 0, m, u, _ => rfl
  | a + 1, 0, u, _ => by rw [Nat.zero_sub]; rfl
  | a + 1, m + 1, u, h => by
    rw [rgF, h u (Nat.le_refl _) (by omega), List.nil_append, rgF_skip a m (u + 1) (fun f x y => h f (by omega) (by omega))]
    rw [show m + 1 - (a + 1) = m - a by omega, show u + 1 + a = u + (a + 1) by omega]
def brF (n : Nat) (to : Nat → Int32) (k : Nat) (st : sS) : Nat → List sL := fun f => if lgS n (digL f) st = true then (srF n to k (stS (digL f) (digR f) st)).map (fun q => (f :: q.1, q.2)) else []
theorem mnF_b {f : Nat → Int32} {B : Int} : ∀ n, 1 ≤ n → (∀ u, u < n → -B ≤ (f u).toInt ∧ (f u).toInt ≤ B) → -B ≤ (mnF f n).toInt ∧ (mnF f n).toInt ≤ B
  | 0, h, _ => absurd h (by omega)
  | 1, _, h => by rw [mnF_1]; exact h 0 (by omega)
  | n + 2, _, h => by
    rw [mnF]
    split
    · exact mnF_b (n + 1) (by omega) (fun u hu9 => h u (by omega))
    · exact h (n + 1) (by omega)
theorem mnF_ag {f g : Nat → Int32} : ∀ n, 1 ≤ n → (∀ u, u < n → f u = g u) → mnF f n = mnF g n
  | 0, h, _ => absurd h (by omega)
  | 1, _, h => by rw [mnF_1, mnF_1]; exact h 0 (by omega)
  | n + 2, _, h => by
    have e := mnF_ag (n + 1) (by omega) (fun u hu9 => h u (by omega))
    show (if mnF f (n + 1) ≤ f (n + 1) then mnF f (n + 1) else f (n + 1)) = (if mnF g (n + 1) ≤ g (n + 1) then mnF g (n + 1) else g (n + 1))
    rw [e, h (n + 1) (by omega)]
theorem mxF_ag {f g : Nat → Int32} : ∀ n, 1 ≤ n → (∀ u, u < n → f u = g u) → mxF f n = mxF g n
  | 0, h, _ => absurd h (by omega)
  | 1, _, h => by rw [mxF_1, mxF_1]; exact h 0 (by omega)
  | n + 2, _, h => by
    have e := mxF_ag (n + 1) (by omega) (fun u hu9 => h u (by omega))
    show (if f (n + 1) ≤ mxF f (n + 1) then mxF f (n + 1) else f (n + 1)) = (if g (n + 1) ≤ mxF g (n + 1) then mxF g (n + 1) else g (n + 1))
    rw [e, h (n + 1) (by omega)]
theorem k_goOn {G : mG} {S n K : Nat} {wa : Int32} {to : Nat → Int32} (hn2 : 2 ≤ n) (hn : n ≤ 12) (hK : K ≤ 3) : ∀ w done, done + w = K → ∀ d, 2 * w + 4 ≤ d → goC G S n K wa to d done := by
  intro w
  induction w with
  | zero =>
    intro done hw d hd f h li ta sts hb H
    have e : done = K := by omega
    subst e
    have h0 := H.1
    refine ev_2_3 rfl rfl (by decide +kernel) (by decide +kernel) ?_
    refine z_ild1 (n := 1) (by decide +kernel) ?_
    refine z_ald0 (n := 2) (by decide +kernel) ?_
    refine z_getf (n := 5) (idx := 39) (by decide +kernel) fl_X3_39 (by assumption) (by rfl) ?_
    refine z_icmp_lt_f (n := 8) (off := 8) (tgt := 13) (by decide +kernel) (nI_nlt (by omega) (by omega)) ?_
    refine z_ald0 (n := 9) (by decide +kernel) ?_
    refine z_g0 (n := 12) (idx := 71) (by decide +kernel) ml_X3_71 (by assumption) rfl (Nat.le_of_ble_eq_true rfl) (by omega) ⟨Nat.le_refl _, Nat.le_refl _⟩ (k_countIf (n := n) (k := done) (f := f) 0 hn2 hn (by omega) hb.2 H) (fun x9 h9 q9 => ?_)
    skip
    rw [Nat.sub_self, srF]
    obtain ⟨q1, q2⟩ := q9
    first | refine z_zr1 (by decide +kernel) rfl (Nat.le_refl _) ?_ | refine z_zr0 (by decide +kernel) rfl (Nat.le_refl _) ?_ | refine z_zrb (by decide +kernel) rfl (Nat.le_refl _) ?_
    refine ⟨x9, rfl, ?_⟩
    rcases q2 with ⟨z1, rfl, rfl⟩ | ⟨z1, z2, z3⟩
    · rw [if_neg (by rw [z1]; decide)]
      exact gSt_po (gSt_0 H)
    · rw [if_pos z1]
      refine ⟨q1, li, _, _, z3, fun _ _ => rfl, fun z => ⟨rfl, fun p s hp hs => ?_, fun j hj => ?_⟩, fun z => ?_⟩
      · have ec : cnL [(([], (sts done).2.2) : sL)] (p + 1) s = if (sts done).2.2 (p + 1) = s then 1 else 0 := by
          unfold cnL
          rw [List.filter_cons]
          by_cases c : (sts done).2.2 (p + 1) = s
          · rw [if_pos c, if_pos (by simpa using c)]; rfl
          · rw [if_neg c, if_neg (by simpa using c)]; rfl
        rw [ec]
        unfold tck
        rw [if_pos (by omega)]
        by_cases c : (sts done).2.2 (p + 1) = s
        · rw [if_pos c, c, upd_ss]; rfl
        · rw [if_neg c, upd_nn (fun z => c z.symm), nI_0, Int32.add_zero]
      · have : j = 0 := by have : j < 1 := hj; omega
        subst this
        rw [z] at z2
        exact of_decide_eq_false z2.symm
      · rw [z] at z2
        exact ⟨0, Nat.zero_lt_one, of_decide_eq_true z2.symm, fun i hi => absurd hi (by omega)⟩
  | succ w ih =>
    intro done hw d hd f h li ta sts hb H
    obtain ⟨n', rfl⟩ : ∃ n', n = n' + 1 := ⟨n - 1, by omega⟩
    have eK : K - done = w + 1 := by omega
    have eK2 : K - (done + 1) = w := by omega
    rw [eK]
    have CV := ih (done + 1) (by omega) (d - 2) (by omega)
    have es : srF (n' + 1) to (w + 1) (sts done) = rgF (brF (n' + 1) to w (sts done)) (2 * n') 0 := rfl
    rw [es]
    generalize hst : sts done = st at *
    have lob := mnF_b (n' + 1) (by omega) hb.1
    generalize hlo : mnF st.1 (n' + 1) = lo at *
    generalize hhi : mxF st.1 (n' + 1) = hi at *
    have lgE : ∀ x, lgS (n' + 1) x st = (decide (lo < x) && decide (x ≤ hi)) := fun x => by unfold lgS; rw [hlo, hhi]
    have lp : ∀ r L la, 1 ≤ L → n' + 1 ≤ L + r → L ≤ 400 → lo < nI L → (∀ M, 1 ≤ M → M ≤ 400 → (nI M ≤ la ↔ (M ≤ n' ∧ nI M ≤ hi))) → ∀ (l0 : List sL) (hX : mH) (liX : Nat → Int32) (taX : Nat → Nat → Int32) (fi : Int32), gSt h hX S (n' + 1) K wa f l0 done sts li to ta liX taX → Z G m_X3_goOn d 0 0 0 0 51 [some (.ref S), some (.int (nI done)), some (.int fi), some (.int la), some (.int (nI L))] [] hX (fun r h' => ∃ x, r = some (.int (bI x)) ∧ gPo h h' S (n' + 1) K wa f (l0 ++ rgF (brF (n' + 1) to w st) (2 * n' - 2 * (L - 1)) (2 * (L - 1))) done sts li to ta x) := by
      intro r
      have ex : ∀ L la, 1 ≤ L → L ≤ 400 → (∀ M, 1 ≤ M → M ≤ 400 → (nI M ≤ la ↔ (M ≤ n' ∧ nI M ≤ hi))) → ¬ nI L ≤ la → rgF (brF (n' + 1) to w st) (2 * n' - 2 * (L - 1)) (2 * (L - 1)) = [] := by
        intro L la h1 h4 hla z
        refine rgF_nil _ _ (fun g a b => ?_)
        have hL : L ≤ n' := by omega
        have z2 : ¬ nI L ≤ hi := fun q => z ((hla L h1 h4).mpr ⟨hL, q⟩)
        unfold brF
        rw [if_neg]
        rw [lgE]
        intro q
        rw [Bool.and_eq_true, decide_eq_true_eq, decide_eq_true_eq] at q
        refine z2 (Int32.le_trans ?_ q.2)
        unfold digL
        exact nI_le (by omega) (by omega)
      induction r with
      | zero =>
        intro L la h1 h2 h4 hlo9 hla l0 hX liX taX fi g
        have z : ¬ nI L ≤ la := fun q => by have := ((hla L h1 h4).mp q).1; omega
        rw [ex L la h1 h4 hla z, List.append_nil]
        refine z_ild4 (n := 53) (by decide +kernel) ?_
        refine z_ild3 (n := 54) (by decide +kernel) ?_
        refine z_icmp_gt_t (n := 57) (off := 33) (tgt := 87) (by decide +kernel) (Int32.not_le.mp z) ?_
        refine z_iconst (n := 88) (q := 0) (v := 0) (by decide +kernel) ?_
        first | refine z_zr1 (by decide +kernel) rfl (Nat.le_refl _) ?_ | refine z_zr0 (by decide +kernel) rfl (Nat.le_refl _) ?_ | refine z_zrb (by decide +kernel) rfl (Nat.le_refl _) ?_
        exact ⟨false, rfl, gSt_po g⟩
      | succ r ihr =>
        intro L la h1 h2 h4 hlo9 hla l0 hX liX taX fi g
        by_cases z : nI L ≤ la
        · obtain ⟨z1, z2⟩ := (hla L h1 h4).mp z
          have hm : 2 * n' - 2 * (L - 1) = 2 * n' - 2 * ((L + 1) - 1) + 1 + 1 := by omega
          have eL1 : digL (2 * (L - 1)) = nI L := by unfold digL; exact congrArg nI (by omega)
          have eL2 : digL (2 * (L - 1) + 1) = nI L := by unfold digL; exact congrArg nI (by omega)
          have eR1 : digR (2 * (L - 1)) = true := by unfold digR; exact decide_eq_true (by omega)
          have eR2 : digR (2 * (L - 1) + 1) = false := by unfold digR; exact decide_eq_false (by omega)
          have lg : lgS (n' + 1) (nI L) st = true := by rw [lgE, decide_eq_true hlo9, decide_eq_true z2]; rfl
          have eB1 : brF (n' + 1) to w st (2 * (L - 1)) = (srF (n' + 1) to w (stS (nI L) true st)).map (fun q => ((2 * (L - 1)) :: q.1, q.2)) := by unfold brF; rw [eL1, eR1, if_pos lg]
          have eB2 : brF (n' + 1) to w st (2 * (L - 1) + 1) = (srF (n' + 1) to w (stS (nI L) false st)).map (fun q => ((2 * (L - 1) + 1) :: q.1, q.2)) := by unfold brF; rw [eL2, eR2, if_pos lg]
          rw [hm, rgF, rgF, show 2 * (L - 1) + 1 + 1 = 2 * ((L + 1) - 1) by omega]
          have c1 := k_goOnBy (d - 1) done (2 * (L - 1)) hn2 hn hK (by omega) (by omega) (d - 2) (by omega) (by omega) CV (f + l0.length) hX liX taX sts (by rw [hst]; exact hb) g.2.1
          rw [eL1, eR1, hst, eK2, ← eB1] at c1
          have g0 := g.2.1.1
          refine z_ild4 (n := 53) (by decide +kernel) ?_
          refine z_ild3 (n := 54) (by decide +kernel) ?_
          refine z_icmp_gt_f (n := 57) (off := 33) (tgt := 87) (by decide +kernel) (Int32.not_lt.mpr z) ?_
          refine z_ald0 (n := 58) (by decide +kernel) ?_
          refine z_ild1 (n := 59) (by decide +kernel) ?_
          refine z_ild4 (n := 61) (by decide +kernel) ?_
          refine z_iconst (n := 62) (q := 1) (v := 1) (by decide +kernel) ?_
          refine z_g3 (n := 65) (idx := 84) (by decide +kernel) ml_X3_84 (by assumption) rfl (Nat.le_of_ble_eq_true rfl) (by omega) ⟨Nat.le_refl _, Nat.le_refl _⟩ (c1) (fun x62 h62 q62 => ?_)
          skip
          cases x62 with
          | true =>
            refine z_ifb_ne_t (n := 68) (off := 14) (tgt := 79) (by decide +kernel) (rfl) ?_
            refine z_iconst (n := 80) (q := 1) (v := 1) (by decide +kernel) ?_
            first | refine z_zr1 (by decide +kernel) rfl (Nat.le_refl _) ?_ | refine z_zr0 (by decide +kernel) rfl (Nat.le_refl _) ?_ | refine z_zrb (by decide +kernel) rfl (Nat.le_refl _) ?_
            exact ⟨true, rfl, gSt_t g q62⟩
          | false =>
            obtain ⟨liY, taY, g2⟩ := gSt_f g q62
            have c2 := k_goOnBy (d - 1) done (2 * (L - 1) + 1) hn2 hn hK (by omega) (by omega) (d - 2) (by omega) (by omega) CV (f + (l0 ++ brF (n' + 1) to w st (2 * (L - 1))).length) h62 liY taY sts (by rw [hst]; exact hb) g2.2.1
            rw [eL2, eR2, hst, eK2, ← eB2] at c2
            have g3 := g2.2.1.1
            refine z_ifb_ne_f (n := 68) (off := 14) (tgt := 79) (by decide +kernel) (rfl) ?_
            refine z_ald0 (n := 69) (by decide +kernel) ?_
            refine z_ild1 (n := 70) (by decide +kernel) ?_
            refine z_ild4 (n := 72) (by decide +kernel) ?_
            refine z_iconst (n := 73) (q := 0) (v := 0) (by decide +kernel) ?_
            refine z_g3 (n := 76) (idx := 84) (by decide +kernel) ml_X3_84 (by assumption) rfl (Nat.le_of_ble_eq_true rfl) (by omega) ⟨Nat.le_refl _, Nat.le_refl _⟩ (c2) (fun x73 h73 q73 => ?_)
            skip
            cases x73 with
            | true =>
              refine z_ifb_eq_f (n := 79) (off := 5) (tgt := 81) (by decide +kernel) (rfl) ?_
              refine z_iconst (n := 80) (q := 1) (v := 1) (by decide +kernel) ?_
              first | refine z_zr1 (by decide +kernel) rfl (Nat.le_refl _) ?_ | refine z_zr0 (by decide +kernel) rfl (Nat.le_refl _) ?_ | refine z_zrb (by decide +kernel) rfl (Nat.le_refl _) ?_
              refine ⟨true, rfl, ?_⟩; rw [← List.append_assoc]; exact gSt_t g2 q73
            | false =>
              obtain ⟨liZ, taZ, g4⟩ := gSt_f g2 q73
              refine z_ifb_eq_t (n := 79) (off := 5) (tgt := 81) (by decide +kernel) (rfl) ?_
              refine z_inc4 (n := 84) (q := 1) (by decide +kernel) rfl (nI_1 _) ?_
              refine z_goto (n := 87) (off := -33) (tgt := 51) (by decide +kernel) ?_
              skip
              have q := ihr (L + 1) la (by omega) (by omega) (by omega) (Int32.lt_of_lt_of_le hlo9 (nI_le (by omega) (by omega))) hla _ h73 liZ taZ fi g4
              rw [List.append_assoc, List.append_assoc] at q
              exact q
        · rw [ex L la h1 h4 hla z, List.append_nil]
          refine z_ild4 (n := 53) (by decide +kernel) ?_
          refine z_ild3 (n := 54) (by decide +kernel) ?_
          refine z_icmp_gt_t (n := 57) (off := 33) (tgt := 87) (by decide +kernel) (Int32.not_le.mp z) ?_
          refine z_iconst (n := 88) (q := 0) (v := 0) (by decide +kernel) ?_
          first | refine z_zr1 (by decide +kernel) rfl (Nat.le_refl _) ?_ | refine z_zr0 (by decide +kernel) rfl (Nat.le_refl _) ?_ | refine z_zrb (by decide +kernel) rfl (Nat.le_refl _) ?_
          exact ⟨false, rfl, gSt_po g⟩
    have H' := H
    obtain ⟨h0, h1, ⟨⟨fS, hC1, hC2⟩, hC3, hC4⟩, hsc, hlv, h8, hta⟩ := H
    have lv := hlv done (Nat.le_refl _)
    rw [hst] at lv
    obtain ⟨tl, pl, ly, up, ht, sg, ⟨l0, l1, l2, l3, l4⟩, l5, l6, l7⟩ := lv
    have d4 : done < 4 := by omega
    have m1 : mnF pl (n' + 1) = lo := by rw [← hlo]; exact mnF_ag _ (by omega) (fun u hu9 => (l6 u hu9).1)
    have m2 : mxF pl (n' + 1) = hi := by rw [← hhi]; exact mxF_ag _ (by omega) (fun u hu9 => (l6 u hu9).1)
    have hla : ∀ M, 1 ≤ M → M ≤ 400 → (nI M ≤ (if hi < nI n' then hi else nI n') ↔ (M ≤ n' ∧ nI M ≤ hi)) := by
      intro M a b
      by_cases c : hi < nI n'
      · rw [if_pos c]
        exact ⟨fun q => ⟨(nI_leI (by omega) (by omega)).mp (Int32.le_trans q (Int32.le_of_lt c)), q⟩, fun q => q.2⟩
      · rw [if_neg c, nI_leI (by omega) (by omega)]
        exact ⟨fun q => ⟨q, Int32.le_trans (nI_le q (by omega)) (Int32.not_lt.mp c)⟩, fun q => q.1⟩
    obtain ⟨L0, fi, hL1, hL4, hfi, hlo9, hsk⟩ : ∃ (L0 : Nat) (fi : Int32), 1 ≤ L0 ∧ L0 ≤ 400 ∧ (if (1 : Int32) < lo + 1 then lo + 1 else 1) = nI L0 ∧ lo < nI L0 ∧ ∀ M, M < L0 → 1 ≤ M → ¬ lo < nI M := by
      have b1 : (lo + 1).toInt = lo.toInt + 1 := by
        rw [Int32.toInt_add]
        have : (1 : Int32).toInt = 1 := rfl
        rw [this]
        exact Int.bmod_eq_of_le (by omega) (by omega)
      have o1 : (1 : Int32).toInt = 1 := rfl
      by_cases c : (1 : Int32) < lo + 1
      · have c9 := Int32.lt_iff_toInt_lt.mp c
        have e : lo + 1 = nI (lo.toInt + 1).toNat := Int32.toInt_inj.mp (by rw [b1, nI_toInt (by omega)]; omega)
        refine ⟨(lo.toInt + 1).toNat, 0, by omega, by omega, by rw [if_pos c]; exact e, ?_, fun M hM hM1 => ?_⟩
        · rw [Int32.lt_iff_toInt_lt, nI_toInt (by omega)]; omega
        · rw [Int32.lt_iff_toInt_lt, nI_toInt (by omega)]; omega
      · have c9 : ¬ (1 : Int32).toInt < (lo + 1).toInt := fun z => c (Int32.lt_iff_toInt_lt.mpr z)
        refine ⟨1, 0, by omega, by omega, by rw [if_neg c]; rfl, ?_, fun M hM hM1 => absurd hM (by omega)⟩
        rw [Int32.lt_iff_toInt_lt, nI_toInt (by omega)]; omega
    have ske : rgF (brF (n' + 1) to w st) (2 * n') 0 = rgF (brF (n' + 1) to w st) (2 * n' - 2 * (L0 - 1)) (2 * (L0 - 1)) := by
      have q := rgF_skip (F := brF (n' + 1) to w st) (2 * (L0 - 1)) (2 * n') 0 (fun g a b => (by
        unfold brF
        rw [if_neg]
        rw [lgE]
        intro q
        rw [Bool.and_eq_true, decide_eq_true_eq] at q
        exact hsk (1 + g / 2) (by omega) (by omega) q.1))
      rw [Nat.zero_add] at q
      exact q
    rw [ske]
    refine ev_2_3 rfl rfl (by decide +kernel) (by decide +kernel) ?_
    refine z_ild1 (n := 1) (by decide +kernel) ?_
    refine z_ald0 (n := 2) (by decide +kernel) ?_
    refine z_getf (n := 5) (idx := 39) (by decide +kernel) fl_X3_39 (by assumption) (by rfl) ?_
    refine z_icmp_lt_t (n := 8) (off := 8) (tgt := 13) (by decide +kernel) (nI_lt (by omega) (by omega)) ?_
    refine z_iconst (n := 14) (q := 1) (v := 1) (by decide +kernel) ?_
    refine z_ald0 (n := 15) (by decide +kernel) ?_
    refine z_getf (n := 18) (idx := 17) (by decide +kernel) fl_X3_17 (by assumption) (by rfl) ?_
    refine z_ild1 (n := 19) (by decide +kernel) ?_
    refine z_aald (n := 20) (by decide +kernel) (by assumption) (by first | assumption | exact ix_nI (by omega) (by omega)) (hC2 done d4) ?_
    refine z_v0 (n := 23) (idx := 75) (by decide +kernel) ml_X3_75 (by assumption) rfl (Nat.le_of_ble_eq_true rfl) (by omega) ⟨Nat.le_refl _, Nat.le_refl _⟩ (k_lowestPlace (N := 12) (k := n' + 1) 0 l0 l1 (by omega) (by omega) (by omega)) ?_
    refine z_top m1 ?_
    refine z_iconst (n := 24) (q := 1) (v := 1) (by decide +kernel) ?_
    refine z_iadd (n := 25) (by decide +kernel) ?_
    refine z_mmax (n := 28) (idx := 65) (by decide +kernel) jl_X3_65 (Nat.le_of_ble_eq_true rfl) (by omega) (Nat.le_of_ble_eq_true rfl) (Nat.le_of_ble_eq_true rfl) ?_
    refine z_top hfi ?_
    refine z_ist2 (n := 29) (by decide +kernel) rfl ?_
    refine z_ald0 (n := 30) (by decide +kernel) ?_
    refine z_getf (n := 33) (idx := 35) (by decide +kernel) fl_X3_35 (by assumption) (by rfl) ?_
    refine z_iconst (n := 34) (q := 1) (v := 1) (by decide +kernel) ?_
    refine z_isub (n := 35) (by decide +kernel) ?_
    refine z_top (nI_pred n') ?_
    refine z_ald0 (n := 36) (by decide +kernel) ?_
    refine z_getf (n := 39) (idx := 17) (by decide +kernel) fl_X3_17 (by assumption) (by rfl) ?_
    refine z_ild1 (n := 40) (by decide +kernel) ?_
    refine z_aald (n := 41) (by decide +kernel) (by assumption) (by first | assumption | exact ix_nI (by omega) (by omega)) (hC2 done d4) ?_
    refine z_v0 (n := 44) (idx := 78) (by decide +kernel) ml_X3_78 (by assumption) rfl (Nat.le_of_ble_eq_true rfl) (by omega) ⟨Nat.le_refl _, Nat.le_refl _⟩ (k_highestPlace (N := 12) (k := n' + 1) 0 l0 l1 (by omega) (by omega) (by omega)) ?_
    refine z_top m2 ?_
    refine z_mmin (n := 47) (idx := 81) (by decide +kernel) jl_X3_81 (Nat.le_of_ble_eq_true rfl) (by omega) (Nat.le_of_ble_eq_true rfl) (Nat.le_of_ble_eq_true rfl) ?_
    refine z_ist3 (n := 48) (by decide +kernel) rfl ?_
    refine z_ild2 (n := 49) (by decide +kernel) ?_
    refine z_ist4 (n := 51) (by decide +kernel) rfl ?_
    skip
    have q := lp (n' + 1) L0 _ hL1 (by omega) hL4 hlo9 hla [] h li ta (nI L0) (gSt_0 H')
    rw [List.nil_append] at q
    exact q
