/-! a fold of the class and of the model: alike -/
theorem Ip_fo {n : Nat} {p : pS} {x : Int32} (hn : n < 40) (I : Ip n p) (h1 : ¬ x ≤ mnF (p.2.1 0) (n + 1)) (h2 : ¬ mxF (p.2.1 0) (n + 1) < x) : foldable n (p.2.1 0) x := by
  obtain ⟨⟨i1, i2⟩, i3, i4, i5, i6⟩ := I
  refine ⟨i5, fun u hu9 => by have := i4 u hu9; omega, ?_, ?_⟩
  · obtain ⟨v, v1, v2⟩ := mnF_at (f := p.2.1 0) (n + 1) (by omega)
    refine ⟨v, by omega, ?_⟩
    rw [← v2]
    exact Int32.lt_iff_toInt_lt.mp (Int32.not_le.mp h1)
  · obtain ⟨v, v1, v2⟩ := mxF_at (f := p.2.1 0) (n + 1) (by omega)
    refine ⟨v, by omega, ?_⟩
    rw [← v2]
    exact Int32.le_iff_toInt_le.mp (Int32.not_lt.mp h2)
section RF
variable {n : Nat} {p : pS} {a : Nat → Int32} {x : Int32} {right : Bool}
theorem hgF (hn : n < 40) (F : foldable n (p.2.1 0) x) {y : Int32} (hy : -20000000 ≤ y.toInt ∧ y.toInt ≤ 20000000) : hgS (p.2.1 0) (n + 1) (n + 1) y = nI (cnt (p.2.1 0) y (n + 1)) := hg_cnt hn F.1 F.2.1 hy
theorem R_wear (hn : n < 40) (R : Rp n p a) (F : foldable n (p.2.1 0) x) : wrA n x a = mwF (hgS (p.2.1 0) (n + 1) (n + 1)) x := by
  have xb := fo_b hn F
  have e1 : (1 : Int32).toInt = 1 := rfl
  have s1 : (x - 1).toInt = x.toInt - 1 := by
    rw [Int32.toInt_sub, e1]
    exact Int.bmod_eq_of_le (by omega) (by omega)
  unfold wrA mwF
  rw [hgF hn F (y := x) (by omega), hgF hn F (y := x - 1) (by omega)]
  rw [cnt_ag (f := fun u => a (10 + u)) (g := p.2.1 0) (x := x - 1) (n + 1) (fun u hu9 => (R.1 u (by omega)).1), cnt_ag (f := fun u => a (10 + u)) (g := p.2.1 0) (x := x) (n + 1) (fun u hu9 => (R.1 u (by omega)).1)]
  have b1 := cnt_le (p.2.1 0) (x - 1) (n + 1)
  have b2 := cnt_le (p.2.1 0) x (n + 1)
  generalize cnt (p.2.1 0) (x - 1) (n + 1) = c1 at *
  generalize cnt (p.2.1 0) x (n + 1) = c2 at *
  have e : (if nI c1 ≤ nI c2 then nI c2 else nI c1) = (if nI c1 < nI c2 then nI c2 else nI c1) := by
    by_cases k : c1 < c2
    · rw [if_pos (nI_le (by omega) (by omega)), if_pos (nI_lt k (by omega))]
    · rw [if_neg (nI_nlt (by omega) (by omega))]
      by_cases k2 : c1 = c2
      · rw [k2]; split <;> rfl
      · rw [if_neg (nI_ge (by omega) (by omega))]
  rw [e]
theorem R_cre {l : Nat → Int32} (hn : n < 40) (R : Rp n p a) (F : foldable n (p.2.1 0) x) : Rp n (trnS n x right (creS n x p)) (flM n x right a l) := by
  have Rw := R_wear hn R F
  have xb := fo_b hn F
  obtain ⟨R1, R2, r0, r1, r5, r6, r7, r8⟩ := R
  have cE : ∀ q, q < n → crA a x q = crs (p.2.1 0) q x := fun q hq => crs_c (R1 q (by omega)).1 (R1 (q + 1) (by omega)).1
  have lo : ∀ j, j < 130 → fl1 n x a j = a j := fun j hj => fcA_lo hj n
  have mo : ∀ j, (j < 10 ∨ 130 ≤ j) → flM n x right a l j = fl1 n x a j := fun j hj => mvA_o (n + 1) (fun u hu9 => by omega)
  refine ⟨fun u hu9 => ?_, fun q hq => ?_, ?_, ?_, ?_, ?_, ?_, ?_⟩
  · obtain ⟨e1, e2, e3⟩ := R1 u hu9
    obtain ⟨m1, m2, m3⟩ := mvA_c (c := fl1 n x a) (l := flL n x right a l) (x := x) (right := right) (u := u) (n + 1) (by omega) (by omega)
    have m2' : flL n x right a l u = lyF n (fl1 n x a) x right u := lyA_g (n + 1) (by omega)
    have k1 := lo (10 + u) (by omega)
    have k2 := lo (50 + u) (by omega)
    have k3 := lo (90 + u) (by omega)
    have cA : ∀ y, cnt (fun v => fl1 n x a (10 + v)) y (n + 1) = cnt (p.2.1 0) y (n + 1) := fun y => cnt_ag (n + 1) (fun v hv => (lo (10 + v) (by omega)).trans (R1 v (by omega)).1)
    have bu := F.2.1 u hu9
    have bm := fo_x hn F hu9
    have mb := fo_m hn F hu9
    refine ⟨?_, ?_, ?_⟩
    · show mvA _ _ _ _ (n + 1) (10 + u) = tPl (p.2.1 0) x right (n + 1) u
      rw [m1, k1, e1]
      unfold tPl
      simp only [show u < n + 1 by omega, true_and]
    · show mvA _ _ _ _ (n + 1) (50 + u) = tLy (hgS (p.2.1 0) (n + 1) (n + 1)) (p.2.1 0) (p.2.1 1) x right (n + 1) u
      rw [m2, m2']
      unfold lyF tLy
      rw [k1, k2, e1, e2, cA, cA]
      simp only [show u < n + 1 by omega, true_and]
      by_cases c : mvs (p.2.1 0 u) x right = true
      · rw [if_pos c, if_pos c, if_neg (by rw [mv_flip (p.2.1 0 u) (by omega) (by omega), c]; decide), hgF hn F (by omega), hgF hn F (by omega)]
      · rw [if_neg c, if_neg c]
    · show mvA _ _ _ _ (n + 1) (90 + u) = bI (tUp (p.2.1 0) (p.2.2 0) x right (n + 1) u)
      rw [m3, k1, k3, e1, e3]
      unfold tUp
      simp only [show u < n + 1 by omega, true_and]
      by_cases c : mvs (p.2.1 0 u) x right = true
      · rw [if_pos c, if_pos c, bI_not]
      · rw [if_neg c, if_neg c]
  · obtain ⟨e0, e1, e2, e3, e4, e5⟩ := R2 q hq
    have e9 := (R1 (q + 1) (by omega)).2.2
    have c9 := cE q hq
    have cuE : ∀ {α : Type} (g h : Nat → α), cu (fun j => crs (p.2.1 0) j x) g h n (q + 1) = if crs (p.2.1 0) q x = true then g (q + 1) else h (q + 1) := fun g h => by
      unfold cu
      rw [Nat.add_sub_cancel]
      by_cases k : crs (p.2.1 0) q x = true
      · rw [if_pos k, if_pos ⟨by omega, by omega, k⟩]
      · rw [if_neg k, if_neg (fun z => k z.2.2)]
    rw [mo _ (by omega), mo _ (by omega), mo _ (by omega), mo _ (by omega), mo _ (by omega), mo _ (by omega)]
    by_cases k : crs (p.2.1 0) q x = true
    · have y := fcA_y (a := a) (x := x) (w := wrA n x a) (q := q) (c9.trans k) n hn hq
      have y0 : fl1 n x a (130 + 6 * (q + 1)) = fcS a (wrA n x a) (q + 1) (130 + 6 * (q + 1)) := y 0 (by omega)
      have y1 : fl1 n x a (130 + 6 * (q + 1) + 1) = _ := y 1 (by omega)
      have y2 : fl1 n x a (130 + 6 * (q + 1) + 2) = _ := y 2 (by omega)
      have y3 : fl1 n x a (130 + 6 * (q + 1) + 3) = _ := y 3 (by omega)
      have y4 : fl1 n x a (130 + 6 * (q + 1) + 4) = _ := y 4 (by omega)
      have y5 : fl1 n x a (130 + 6 * (q + 1) + 5) = _ := y 5 (by omega)
      rw [y0, y1, y2, y3, y4, y5, fcS_0, fcS_1, fcS_2, fcS_3, fcS_4, fcS_5, Rw, e1, e2, e5, e9, r0, r1, r7]
      refine ⟨?_, ?_, ?_, ?_, ?_, ?_⟩
      · refine Eq.trans ?_ (cuE (fun j => if p.2.2 0 j then (1 : Int32) else 2) (p.2.1 2)).symm
        rw [if_pos k]
        cases p.2.2 0 (q + 1) <;> rfl
      · refine Eq.trans ?_ (cuE (fun j => mx3 (p.2.1 3 j)) (p.2.1 3)).symm
        rw [if_pos k]
        unfold mx3
        by_cases z : p.2.1 3 (q + 1) < 300
        · rw [if_pos z, if_neg (Int32.not_le.mpr z)]
        · rw [if_neg z, if_pos (Int32.not_lt.mp z)]
      · refine Eq.trans ?_ (cuE (fun j => p.2.1 4 j + mwF (hgS (p.2.1 0) (n + 1) (n + 1)) x) (p.2.1 4)).symm
        rw [if_pos k]
      · refine Eq.trans ?_ (cuE (fun _ => p.1 4) (p.2.1 5)).symm
        rw [if_pos k]
      · refine Eq.trans ?_ (cuE (fun _ => p.1 5) (p.2.1 6)).symm
        rw [if_pos k]
      · refine Eq.trans ?_ (congrArg bI (cuE (fun j => if p.2.1 4 j + mwF (hgS (p.2.1 0) (n + 1) (n + 1)) x < p.1 2 then p.2.2 1 j else true) (p.2.2 1)).symm)
        rw [if_pos k]
        split <;> rfl
    · have y := fcA_n (a := a) (x := x) (w := wrA n x a) (q := q) (c9.trans (Bool.eq_false_iff.mpr k)) n hn
      have y0 : fl1 n x a (130 + 6 * (q + 1)) = a (130 + 6 * (q + 1)) := y 0 (by omega)
      have y1 : fl1 n x a (130 + 6 * (q + 1) + 1) = _ := y 1 (by omega)
      have y2 : fl1 n x a (130 + 6 * (q + 1) + 2) = _ := y 2 (by omega)
      have y3 : fl1 n x a (130 + 6 * (q + 1) + 3) = _ := y 3 (by omega)
      have y4 : fl1 n x a (130 + 6 * (q + 1) + 4) = _ := y 4 (by omega)
      have y5 : fl1 n x a (130 + 6 * (q + 1) + 5) = _ := y 5 (by omega)
      rw [y0, y1, y2, y3, y4, y5, e0, e1, e2, e3, e4, e5]
      refine ⟨?_, ?_, ?_, ?_, ?_, ?_⟩
      · refine Eq.trans ?_ (cuE (fun j => if p.2.2 0 j then (1 : Int32) else 2) (p.2.1 2)).symm
        rw [if_neg k]
      · refine Eq.trans ?_ (cuE (fun j => mx3 (p.2.1 3 j)) (p.2.1 3)).symm
        rw [if_neg k]
      · refine Eq.trans ?_ (cuE (fun j => p.2.1 4 j + mwF (hgS (p.2.1 0) (n + 1) (n + 1)) x) (p.2.1 4)).symm
        rw [if_neg k]
      · refine Eq.trans ?_ (cuE (fun _ => p.1 4) (p.2.1 5)).symm
        rw [if_neg k]
      · refine Eq.trans ?_ (cuE (fun _ => p.1 5) (p.2.1 6)).symm
        rw [if_neg k]
      · refine Eq.trans ?_ (congrArg bI (cuE (fun j => if p.2.1 4 j + mwF (hgS (p.2.1 0) (n + 1) (n + 1)) x < p.1 2 then p.2.2 1 j else true) (p.2.2 1)).symm)
        rw [if_neg k]
  · rw [mo _ (by omega), lo _ (by omega)]; exact r0
  · rw [mo _ (by omega), lo _ (by omega)]; exact r1
  · rw [mo _ (by omega), lo _ (by omega)]; exact r5
  · rw [mo _ (by omega), lo _ (by omega)]; exact r6
  · rw [mo _ (by omega), lo _ (by omega)]; exact r7
  · rw [mo _ (by omega), lo _ (by omega)]; exact r8
theorem I_trn (hn : n < 40) (I : Ip n p) (F : foldable n (p.2.1 0) x) (hc : (p.1 4).toInt + 1 ≤ 100000) : Ip n (pasS n 1 (trnS n x right (creS n x p))) := by
  obtain ⟨⟨i1, i2⟩, i3, i4, i5, i6⟩ := I
  have e : ((pasS n 1 (trnS n x right (creS n x p))).1 4).toInt = (p.1 4).toInt + 1 := clk i1 i2 (by omega)
  have xb := fo_b hn F
  have bb : ∀ v, v ≤ n → -10000000 ≤ (p.2.1 0 v).toInt ∧ (p.2.1 0 v).toInt ≤ 10000000 := fun v hv => by have := F.2.1 v hv; omega
  have tE : ∀ u, u ≤ n → ((pasS n 1 (trnS n x right (creS n x p))).2.1 0 u).toInt = if mvs (p.2.1 0 u) x right = true then 2 * x.toInt - 1 - (p.2.1 0 u).toInt else (p.2.1 0 u).toInt := fun u hu9 => by
    show (tPl (p.2.1 0) x right (n + 1) u).toInt = _
    unfold tPl
    simp only [show u < n + 1 by omega, true_and]
    split
    · exact fo_m hn F hu9
    · rfl
  have mvI : ∀ u, u ≤ n → (mvs (p.2.1 0 u) x right = true ↔ (if right = true then x.toInt ≤ (p.2.1 0 u).toInt else (p.2.1 0 u).toInt < x.toInt)) := fun u hu9 => by
    unfold mvs
    by_cases c : p.2.1 0 u < x
    · have c9 := Int32.lt_iff_toInt_lt.mp c
      rw [decide_eq_true c]
      cases right
      · exact ⟨fun _ => c9, fun _ => rfl⟩
      · exact ⟨fun z => (by cases z), fun z => by have : x.toInt ≤ (p.2.1 0 u).toInt := z; omega⟩
    · have c9 : ¬ (p.2.1 0 u).toInt < x.toInt := fun z => c (Int32.lt_iff_toInt_lt.mpr z)
      rw [decide_eq_false c]
      cases right
      · exact ⟨fun z => (by cases z), fun z => absurd z c9⟩
      · exact ⟨fun _ => by show x.toInt ≤ _; omega, fun _ => rfl⟩
  refine ⟨by rw [e]; omega, i3, fun u hu9 => ?_, fun u hu9 => ?_, fun q hq => ?_⟩
  · rw [e, tE u hu9]
    have b1 := i4 u hu9
    have b2 := fo_x hn F hu9
    obtain ⟨v, v1, v2⟩ := F.2.2.1
    obtain ⟨w, w1, w2⟩ := F.2.2.2
    have b3 := i4 v v1
    have b4 := i4 w w1
    have b5 := nbr2 F.1 hu9 v1
    have b6 := nbr2 F.1 w1 hu9
    split <;> omega
  · rw [tE u (by omega), tE (u + 1) (by omega)]
    have b := i5 u hu9
    have m1 := mvI u (by omega)
    have m2 := mvI (u + 1) (by omega)
    cases right
    · simp only [Bool.false_eq_true, if_false] at m1 m2
      split <;> split <;> (rename_i k1 k2; first | (have := m1.mp k1; have := m2.mp k2; omega) | (have := m1.mp k1; have : ¬ (p.2.1 0 (u + 1)).toInt < x.toInt := fun z => k2 (m2.mpr z); omega) | (have : ¬ (p.2.1 0 u).toInt < x.toInt := fun z => k1 (m1.mpr z); have := m2.mp k2; omega) | omega)
    · simp only [if_true] at m1 m2
      split <;> split <;> (rename_i k1 k2; first | (have := m1.mp k1; have := m2.mp k2; omega) | (have := m1.mp k1; have : ¬ x.toInt ≤ (p.2.1 0 (u + 1)).toInt := fun z => k2 (m2.mpr z); omega) | (have : ¬ x.toInt ≤ (p.2.1 0 u).toInt := fun z => k1 (m1.mpr z); have := m2.mp k2; omega) | omega)
  · show cu (fun j => crs (p.2.1 0) j x) (fun j => if p.2.2 0 j then 1 else 2) (p.2.1 2) n (q + 1) = 0 ∨ cu (fun j => crs (p.2.1 0) j x) (fun j => if p.2.2 0 j then 1 else 2) (p.2.1 2) n (q + 1) = 1 ∨ cu (fun j => crs (p.2.1 0) j x) (fun j => if p.2.2 0 j then 1 else 2) (p.2.1 2) n (q + 1) = 2
    unfold cu
    split
    · show (if p.2.2 0 (q + 1) = true then (1 : Int32) else 2) = 0 ∨ (if p.2.2 0 (q + 1) = true then (1 : Int32) else 2) = 1 ∨ (if p.2.2 0 (q + 1) = true then (1 : Int32) else 2) = 2
      split
      · exact .inr (.inl rfl)
      · exact .inr (.inr rfl)
    · exact i6 q hq
end RF
