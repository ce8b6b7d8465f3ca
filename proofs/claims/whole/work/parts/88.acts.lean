/-! acts of the class and of the model -/
section RA
variable {n : Nat} {p : pS} {a : Nat → Int32} {x : Int32} {right : Bool}
theorem R_fold {l : Nat → Int32} (hn : n < 40) (R : Rp n p a) (I : Ip n p) : fldR n x right a = (folP n x right p).1 ∧ (agF n x right a < 0 → (folP n x right p).2 = p) ∧ (¬ agF n x right a < 0 → Rp n (folP n x right p).2 (fldA n x right a l) ∧ Ip n (folP n x right p).2) := by
  have R0 := R
  obtain ⟨R1, R2, r0, r1, r5, r6, r7, r8⟩ := R
  have eP : ∀ u, u < n + 1 → a (10 + u) = p.2.1 0 u := fun u hu9 => (R1 u (by omega)).1
  have g1 : (anB (fun u => !decide (x ≤ a (10 + u))) (n + 1) && anB (fun u => !decide (a (10 + u) < x)) (n + 1)) = (decide (mnF (p.2.1 0) (n + 1) < x) && decide (x ≤ mxF (p.2.1 0) (n + 1))) := by
    rw [anB_lw (f := fun u => a (10 + u)), anB_hw (f := fun u => a (10 + u)), lwF_ag (n + 1) eP, hwF_ag (n + 1) eP, lwF_mn, hwF_mx]
  by_cases c1 : x ≤ mnF (p.2.1 0) (n + 1)
  · have eA : agF n x right a = -1 := by unfold agF; rw [g1, decide_eq_false (Int32.not_lt.mpr c1), Bool.false_and, if_pos rfl]
    have eF : folP n x right p = (-1, p) := by unfold folP; rw [if_pos c1]
    unfold fldR
    rw [eA, eF]
    exact ⟨rfl, fun _ => rfl, fun z => absurd (by decide) z⟩
  by_cases c2 : mxF (p.2.1 0) (n + 1) < x
  · have eA : agF n x right a = -1 := by unfold agF; rw [g1, decide_eq_false (Int32.not_le.mpr c2), Bool.and_false, if_pos rfl]
    have eF : folP n x right p = (-1, p) := by unfold folP; rw [if_neg c1, if_pos c2]
    unfold fldR
    rw [eA, eF]
    exact ⟨rfl, fun _ => rfl, fun z => absurd (by decide) z⟩
  have F := Ip_fo hn I c1 c2
  have xb := fo_b hn F
  have g1' : (decide (mnF (p.2.1 0) (n + 1) < x) && decide (x ≤ mxF (p.2.1 0) (n + 1))) = true := by rw [decide_eq_true (Int32.not_le.mp c1), decide_eq_true (Int32.not_lt.mp c2)]; rfl
  -- the thickness
  have g2 : anB (fun u => !decide (nI (cnt (dsA a x right) (dsA a x right u) (n + 1)) ≤ a 8)) (n + 1) = true ↔ ¬ tlF (fun u => hgS (p.2.1 0) (n + 1) (n + 1) (p.2.1 0 u) + hgS (p.2.1 0) (n + 1) (n + 1) (2 * x - 1 - p.2.1 0 u)) (n + 1) ≤ p.1 3 := by
    have dE : ∀ u, u < n + 1 → dsA a x right u = (fun v => if mvs (p.2.1 0 v) x right = true then 2 * x - 1 - p.2.1 0 v else p.2.1 0 v) u := fun u hu9 => by unfold dsA; rw [eP u hu9]
    have hE : ∀ u, u < n + 1 → nI (cnt (dsA a x right) (dsA a x right u) (n + 1)) = hgS (p.2.1 0) (n + 1) (n + 1) (p.2.1 0 u) + hgS (p.2.1 0) (n + 1) (n + 1) (2 * x - 1 - p.2.1 0 u) := fun u hu9 => by
      have bu := F.2.1 u (by omega)
      have bm := fo_x hn F (show u ≤ n by omega)
      have mb := fo_m hn F (show u ≤ n by omega)
      rw [cnt_ag (n + 1) dE, dE u hu9, ds_cnt hn F (by omega), hgF hn F (by omega), hgF hn F (by omega), nI_add]
    rw [anB_iff, tlF_le I.2.1, r8]
    constructor
    · rintro ⟨u, h1, h2⟩ h3
      have h4 := h3 u h1
      rw [hE u h1, decide_eq_true h4] at h2
      cases h2
    · intro h
      refine Decidable.byContradiction (fun q => h (fun u hu9 => ?_))
      refine Decidable.byContradiction (fun q2 => q ⟨u, hu9, ?_⟩)
      rw [hE u hu9, decide_eq_false q2]
      rfl
  have crE : ∀ j, j < n → crs (fun u => a (10 + u)) j x = crs (p.2.1 0) j x := fun j hj => crs_c (eP j (by omega)) (eP (j + 1) (by omega))
  have g3 : anB (fun j => crs (fun u => a (10 + u)) j x && decide (a (130 + 6 * (j + 1) + 5) = 1)) n = anB (fun j => p.2.2 1 (j + 1) && crs (p.2.1 0) j x) n := by
    refine anB_ag n (fun j hj => ?_)
    rw [crE j hj, (R2 j hj).2.2.2.2.2, Bool.and_comm]
    refine congrArg (· && _) ?_
    cases p.2.2 1 (j + 1) <;> rfl
  by_cases c3 : tlF (fun u => hgS (p.2.1 0) (n + 1) (n + 1) (p.2.1 0 u) + hgS (p.2.1 0) (n + 1) (n + 1) (2 * x - 1 - p.2.1 0 u)) (n + 1) ≤ p.1 3
  · have g2' : ¬ anB (fun u => !decide (nI (cnt (dsA a x right) (dsA a x right u) (n + 1)) ≤ a 8)) (n + 1) = true := fun z => g2.mp z c3
    by_cases c4 : anB (fun j => p.2.2 1 (j + 1) && crs (p.2.1 0) j x) n = true
    · have eA : agF n x right a = -3 := by unfold agF; rw [g1, g1', if_neg (by decide), if_neg g2', g3, if_pos c4]
      have eF : folP n x right p = (-3, p) := by unfold folP; rw [if_neg c1, if_neg c2, if_neg (fun z => z c3), if_pos c4]
      unfold fldR
      rw [eA, eF]
      exact ⟨rfl, fun _ => rfl, fun z => absurd (by decide) z⟩
    · have cm := c_max I.1.2
      by_cases c5 : p.1 4 < 100000
      · have eA : agF n x right a = 0 := by unfold agF; rw [g1, g1', if_neg (by decide), if_neg g2', g3, if_neg c4, r0, if_neg (cm.mp c5)]
        have eF : folP n x right p = (nI (cnb (fun j => crs (p.2.1 0) j x) n), pasS n 1 (trnS n x right (creS n x p))) := by unfold folP; rw [if_neg c1, if_neg c2, if_neg (fun z => z c3), if_neg c4, if_neg (fun z => z c5)]
        unfold fldR
        rw [eA, eF]
        have b := Int32.lt_iff_toInt_lt.mp c5
        have b4 : (100000 : Int32).toInt = 100000 := rfl
        refine ⟨?_, fun z => absurd z (by decide), fun _ => ⟨R_pas hn (R_cre hn R0 F), I_trn hn I F (by omega)⟩⟩
        rw [if_neg (by decide), cnb_ag n crE]
      · have eA : agF n x right a = -4 := by unfold agF; rw [g1, g1', if_neg (by decide), if_neg g2', g3, if_neg c4, r0, if_pos (Decidable.byContradiction (fun z => c5 (cm.mpr z)))]
        have eF : folP n x right p = (-4, p) := by unfold folP; rw [if_neg c1, if_neg c2, if_neg (fun z => z c3), if_neg c4, if_pos c5]
        unfold fldR
        rw [eA, eF]
        exact ⟨rfl, fun _ => rfl, fun z => absurd (by decide) z⟩
  · have eA : agF n x right a = -2 := by unfold agF; rw [g1, g1', if_neg (by decide), if_pos (g2.mpr c3)]
    have eF : folP n x right p = (-2, p) := by unfold folP; rw [if_neg c1, if_neg c2, if_pos c3]
    unfold fldR
    rw [eA, eF]
    exact ⟨rfl, fun _ => rfl, fun z => absurd (by decide) z⟩
theorem oth_fd {l : Nat → Int32} {j : Nat} (hn : n < 40) (h : oth j) : fldA n x right a l j = a j := by
  unfold fldA
  rw [oth_pa hn h]
  unfold oth at h
  show mvA (fl1 n x a) (flL n x right a l) x right (n + 1) j = a j
  rw [mvA_o (n + 1) (fun u hu9 => by omega)]
  exact fcA_o n (fun q hq i hi => by omega)
theorem R_act {vb nu : Nat → Int32} {tr : Nat → Bool} {i : Nat} {s : mS} (hn : n < 40) (R : Rp n p s.1) (I : Ip n p) : (actP n vb nu tr i p).1 = (actQ n vb nu tr i s).1 ∧ Rp n (actP n vb nu tr i p).2 (actQ n vb nu tr i s).2.1 ∧ Ip n (actP n vb nu tr i p).2 ∧ ∀ j, oth j → (actQ n vb nu tr i s).2.1 j = s.1 j := by
  unfold actP actQ
  by_cases c0 : vb i = 0
  · rw [if_pos c0, if_pos c0]
    obtain ⟨h1, h2, h3⟩ := R_fold (x := nu i) (right := tr i) (l := s.2) hn R I
    dsimp only
    rw [h1]
    refine ⟨rfl, ?_⟩
    by_cases c : agF n (nu i) (tr i) s.1 < 0
    · rw [if_pos c, h2 c]
      exact ⟨R, I, fun _ _ => rfl⟩
    · rw [if_neg c]
      obtain ⟨h4, h5⟩ := h3 c
      exact ⟨h4, h5, fun j hj => oth_fd hn hj⟩
  · rw [if_neg c0, if_neg c0]
    by_cases c1 : vb i = 1
    · rw [if_pos c1, if_pos c1]
      obtain ⟨h1, h2, h3⟩ := R_hold (x := nu i) hn R I
      dsimp only
      unfold holR
      rw [← h1]
      cases e : (hldP n (nu i) p).1 with
      | false =>
        rw [if_neg (by decide), if_neg (by decide), h3 e]
        exact ⟨by decide, R, I, fun _ _ => rfl⟩
      | true =>
        obtain ⟨h4, h5, h6⟩ := h2 e
        rw [if_pos rfl, if_pos rfl]
        refine ⟨?_, h4, h5, fun j hj => oth_pa hn hj⟩
        rw [h4.2.2.1, decide_eq_false (Int32.not_lt.mpr h6)]
        rfl
    · rw [if_neg c1, if_neg c1]
      obtain ⟨h1, h2, h3⟩ := R_open hn R I
      dsimp only
      unfold opnR
      by_cases c : s.1 0 = 100000
      · rw [decide_eq_true c] at h1
        rw [if_pos c, if_pos c, h1, h3 h1]
        exact ⟨by decide, R, I, fun _ _ => rfl⟩
      · rw [decide_eq_false c] at h1
        obtain ⟨h4, h5, h6⟩ := h2 h1
        rw [if_neg c, if_neg c, h1]
        refine ⟨?_, h4, h5, fun j hj => (oth_pa hn hj).trans (oth_fl (by omega) hj)⟩
        rw [h4.2.2.1, decide_eq_false (Int32.not_lt.mpr h6)]
theorem R_ex {vb nu : Nat → Int32} {tr : Nat → Bool} (hn : n < 40) : ∀ (l : List Nat) (dn : Nat) (p : pS) (s : mS), Rp n p s.1 → Ip n p → (exL (actP n vb nu tr) l dn p).1 = (exL (actQ n vb nu tr) l dn s).1 ∧ (exL (actP n vb nu tr) l dn p).2.1 = (exL (actQ n vb nu tr) l dn s).2.1 ∧ Rp n (exL (actP n vb nu tr) l dn p).2.2 (exL (actQ n vb nu tr) l dn s).2.2.1 ∧ Ip n (exL (actP n vb nu tr) l dn p).2.2 ∧ ∀ j, oth j → (exL (actQ n vb nu tr) l dn s).2.2.1 j = s.1 j
  | [], dn, p, s, R, I => ⟨rfl, rfl, R, I, fun _ _ => rfl⟩
  | i :: l, dn, p, s, R, I => by
    obtain ⟨h1, h2, h3, h4⟩ := R_act (vb := vb) (nu := nu) (tr := tr) (i := i) hn R I
    by_cases c : dn = 300
    · rw [exL_full c, exL_full c]
      exact ⟨rfl, rfl, R, I, fun _ _ => rfl⟩
    · cases e : (actP n vb nu tr i p).1 with
      | true =>
        rw [exL_ok c e, exL_ok c (h1 ▸ e)]
        obtain ⟨k1, k2, k3, k4, k5⟩ := R_ex hn l (dn + 1) _ _ h2 h3
        exact ⟨k1, k2, k3, k4, fun j hj => (k5 j hj).trans (h4 j hj)⟩
      | false =>
        rw [exL_no c e, exL_no c (h1 ▸ e)]
        exact ⟨rfl, rfl, h2, h3, h4⟩
end RA
