/-! Search: one fold more -/
def stS (x : Int32) (right : Bool) (st : sS) : sS := (fun u => if mvs (st.1 u) x right = true then 2 * x - 1 - st.1 u else st.1 u, fun u => if mvs (st.1 u) x right = true then !st.2.1 u else st.2.1 u, fun p => if crs st.1 (p - 1) x = true then (if st.2.1 p = true then 1 else 2) else st.2.2 p)
def lgS (n : Nat) (x : Int32) (st : sS) : Bool := decide (mnF st.1 n < x) && decide (x ≤ mxF st.1 n)
def digL (f : Nat) : Int32 := nI (1 + f / 2)
def digR (f : Nat) : Bool := decide (f % 2 = 0)
def digI (f : Nat) : Int32 := if digR f = true then digL f else -digL f
abbrev sL : Type := List Nat × (Nat → Nat)
def srF (n : Nat) (to : Nat → Int32) : Nat → sS → List sL
  | 0, st => if fitB n to st.2.2 = true then [([], st.2.2)] else []
  | k + 1, st => rgF (fun f => if lgS n (digL f) st = true then (srF n to k (stS (digL f) (digR f) st)).map (fun q => (f :: q.1, q.2)) else []) (2 * (n - 1)) 0
def cnL (ls : List sL) (p s : Nat) : Nat := (ls.filter (fun q => decide (q.2 p = s))).length
theorem cnL_app {l1 l2 : List sL} {p s : Nat} : cnL (l1 ++ l2) p s = cnL l1 p s + cnL l2 p s := by unfold cnL; rw [List.filter_append, List.length_append]
theorem cnL_map {l : List sL} {f p s : Nat} : cnL (l.map (fun q => (f :: q.1, q.2))) p s = cnL l p s := by
  unfold cnL
  rw [List.filter_map, List.length_map]
  rfl
def dL : sL := ([], fun _ => 0)
/-- behind a search among the patterns ls -/
def gPo (h h' : mH) (S n K : Nat) (wa : Int32) (f : Nat) (ls : List sL) (done : Nat) (sts : Nat → sS) (li to : Nat → Int32) (ta : Nat → Nat → Int32) (x : Bool) : Prop := frm h h' S (S + 42) ∧ ∃ li' fd' ta', sea h' S n K wa fd' li' to ta' done sts ∧ (∀ j, j < done → li' j = li j) ∧
  (x = false → fd' = nI (f + ls.length) ∧ (∀ p s, p + 1 < n → s < 3 → ta' (p + 1) s = ta (p + 1) s + nI (cnL ls (p + 1) s)) ∧ ∀ j, j < ls.length → ¬ wa = nI (f + j)) ∧
  (x = true → ∃ j, j < ls.length ∧ wa = nI (f + j) ∧ ∀ i, done + i < K → li' (done + i) = digI ((ls.getD j dL).1.getD i 0))
def bnS (n : Nat) (st : sS) (B : Int) : Prop := (∀ u, u < n → -B ≤ (st.1 u).toInt ∧ (st.1 u).toInt ≤ B) ∧ ∀ p, p < n → st.2.2 p < 3
theorem i2x {x y : Int32} {B : Int} (hx : 0 ≤ x.toInt ∧ x.toInt ≤ 20) (hy : -B ≤ y.toInt ∧ y.toInt ≤ B) (hB : B ≤ 1000) : (2 * x - 1 - y).toInt = 2 * x.toInt - 1 - y.toInt := by
  have e2 : (2 : Int32).toInt = 2 := rfl
  have e1 : (1 : Int32).toInt = 1 := rfl
  have m : (2 * x).toInt = 2 * x.toInt := by
    rw [Int32.toInt_mul, e2]
    exact Int.bmod_eq_of_le (by omega) (by omega)
  have s1 : (2 * x - 1).toInt = 2 * x.toInt - 1 := by
    rw [Int32.toInt_sub, m, e1]
    exact Int.bmod_eq_of_le (by omega) (by omega)
  rw [Int32.toInt_sub, s1]
  exact Int.bmod_eq_of_le (by omega) (by omega)
theorem bnS_st {n : Nat} {st : sS} {B : Int} {x : Int32} {right : Bool} (h : bnS n st B) (hB : B ≤ 500) (hx : 0 ≤ x.toInt ∧ x.toInt ≤ 12) : bnS n (stS x right st) (B + 30) := by
  refine ⟨fun u hu9 => ?_, fun p hp => ?_⟩
  · have b := h.1 u hu9
    show -(B + 30) ≤ (if mvs (st.1 u) x right = true then 2 * x - 1 - st.1 u else st.1 u).toInt ∧ (if mvs (st.1 u) x right = true then 2 * x - 1 - st.1 u else st.1 u).toInt ≤ B + 30
    split
    · rw [i2x ⟨hx.1, by omega⟩ b (by omega)]; omega
    · omega
  · show (if crs st.1 (p - 1) x = true then (if st.2.1 p = true then 1 else 2) else st.2.2 p) < 3
    split
    · split <;> omega
    · exact h.2 p hp
/-- the contract of goOn -/
def goC (G : mG) (S n K : Nat) (wa : Int32) (to : Nat → Int32) (d done : Nat) : Prop := ∀ (f : Nat) (h : mH) (li : Nat → Int32) (ta : Nat → Nat → Int32) (sts : Nat → sS), bnS n (sts done) (20 + 30 * (done : Int)) → sea h S n K wa (nI f) li to ta done sts → EV G m_X3_goOn d 0 0 [.ref S, .int (nI done)] h (fun r h' => ∃ x, r = some (.int (bI x)) ∧ gPo h h' S n K wa f (srF n to (K - done) (sts done)) done sts li to ta x)
theorem crs_ag {f g : Nat → Int32} {p : Nat} {x : Int32} (h1 : f p = g p) (h2 : f (p + 1) = g (p + 1)) : crs f p x = crs g p x := by unfold crs; rw [h1, h2]
theorem k_goOnBy {G : mG} {S n K : Nat} {wa : Int32} {to : Nat → Int32} (d done f0 : Nat) (hn2 : 2 ≤ n) (hn : n ≤ 12) (hK : K ≤ 3) (hdk : done < K) (hf0 : f0 < 2 * (n - 1)) (d' : Nat) (hd : d' + 1 ≤ d) (hd2 : 2 ≤ d') (CV : goC G S n K wa to d' (done + 1)) (f : Nat) (h : mH) (li : Nat → Int32) (ta : Nat → Nat → Int32) (sts : Nat → sS) (hb : bnS n (sts done) (20 + 30 * (done : Int))) (H : sea h S n K wa (nI f) li to ta done sts) : EV G m_X3_goOnBy d 0 0 [.ref S, .int (nI done), .int (digL f0), .int (bI (digR f0))] h (fun r h' => ∃ x, r = some (.int (bI x)) ∧ gPo h h' S n K wa f ((srF n to (K - (done + 1)) (stS (digL f0) (digR f0) (sts done))).map (fun q => (f0 :: q.1, q.2))) done sts li to ta x) := by
  have H' := H
  obtain ⟨h0, h1, ⟨⟨fS, hC1, hC2⟩, hC3, hC4⟩, hsc, hlv, h8, hta⟩ := H
  obtain ⟨tl, pl, ly, up, ht, sg, ⟨l0, l1, l2, l3, l4⟩, l5, l6, l7⟩ := hlv done (Nat.le_refl _)
  obtain ⟨sz, tl2, pl2, ly2, up2, ht2, sg2, ⟨t0, t1, t2, t3, t4⟩, t5⟩ := hsc (done + 1) (by omega)
  obtain ⟨n', rfl⟩ : ∃ n', n = n' + 1 := ⟨n - 1, by omega⟩
  have d4 : done < 4 := by omega
  have d5 : done + 1 < 4 := by omega
  have e5 : S + 3 + 1 + (done + 1) = S + 5 + done := by omega
  generalize hx : digL f0 = x at *
  generalize hr : digR f0 = right at *
  have xb : 0 ≤ x.toInt ∧ x.toInt ≤ 12 := by
    rw [← hx]
    unfold digL
    rw [nI_toInt (by omega)]
    omega
  -- behind the signs
  have f93 : ∀ hX, frm h hX (S + 4) (S + 42) → (∀ j, (j < S + 5 + done ∨ S + 5 + done < j) → (j < S + 22 + 5 * (done + 1) ∨ S + 22 + 5 * (done + 1) + 5 ≤ j) → hX j = h j) → (∃ sg9, hX (S + 3 + 1 + (done + 1)) = aI 12 sg9 ∧ ∀ p, p + 1 < n' + 1 → sg9 (p + 1) = nI ((stS x right (sts done)).2.2 (p + 1))) → stp hX (S + 22 + 5 * (done + 1)) 12 (n' + 1) tl2 (cpN pl pl2 (n' + 1)) (cpN ly ly2 (n' + 1)) (cpN up up2 (n' + 1)) ht2 → Z G m_X3_goOnBy d 0 0 0 0 93 [some (.ref S), some (.int (nI done)), some (.int x), some (.int (bI right)), some (.ref (S + 22 + 5 * (done + 1))), none, none] [] hX (fun r h' => ∃ x9, r = some (.int (bI x9)) ∧ gPo h h' S (n' + 1) K wa f ((srF (n' + 1) to (K - (done + 1)) (stS x right (sts done))).map (fun q => (f0 :: q.1, q.2))) done sts li to ta x9) := by
    intro hX F F2 hsg hst
    obtain ⟨sg9, s1, s2⟩ := hsg
    obtain ⟨u0, u1, u2, u3, u4⟩ := hst
    have g0 := (F S (by omega)).trans h0
    have g1 := (F (S + 1) (by omega)).trans h1
    generalize hT : S + 22 + 5 * (done + 1) = T at *
    have lidx : done < 3 := by omega
    have f121 : ∀ hY, frm hX hY (S + 1) (S + 42) → (∀ j, j ≠ S + 1 → (j < T ∨ T + 5 ≤ j) → hY j = hX j) → hY (S + 1) = aI 3 (upd li done (digI f0)) → (∃ tl9 ly9 ht9, stp hY T 12 (n' + 1) tl9 (tPl (cpN pl pl2 (n' + 1)) x right (n' + 1)) ly9 (tUp (cpN pl pl2 (n' + 1)) (cpN up up2 (n' + 1)) x right (n' + 1)) ht9) → Z G m_X3_goOnBy d 0 0 0 0 121 [some (.ref S), some (.int (nI done)), some (.int x), some (.int (bI right)), some (.ref T), none, none] [] hY (fun r h' => ∃ x9, r = some (.int (bI x9)) ∧ gPo h h' S (n' + 1) K wa f ((srF (n' + 1) to (K - (done + 1)) (stS x right (sts done))).map (fun q => (f0 :: q.1, q.2))) done sts li to ta x9) := by
      intro hY F3 F4 y1 y2
      obtain ⟨tl9, ly9, ht9, y2⟩ := y2
      have hh : ∀ j, j ≠ S + 1 → (j < S + 5 + done ∨ S + 5 + done < j) → (j < T ∨ T + 5 ≤ j) → hY j = h j := fun j a b c => (F4 j a c).trans (F2 j b c)
      have g0 := (hh S (by omega) (by omega) (by omega)).trans h0
      obtain ⟨ss, sE, sN⟩ : ∃ ss : Nat → sS, (∀ q, q ≤ done → ss q = sts q) ∧ ss (done + 1) = stS x right (sts done) := ⟨fun q => if q = done + 1 then stS x right (sts done) else sts q, fun q hq => if_neg (by omega), if_pos rfl⟩
      have S1 : sea hY S (n' + 1) K wa (nI f) (upd li done (digI f0)) to ta (done + 1) ss := by
        refine ⟨g0, y1, seaC_in (hh _ (by omega) (by omega) (by omega)) (hh _ (by omega) (by omega) (by omega)) (hh _ (by omega) (by omega) (by omega)) ⟨⟨fS, hC1, hC2⟩, hC3, hC4⟩, fun q hq => ?_, fun q hq => ?_, (hh _ (by omega) (by omega) (by omega)).trans h8, fun p hp => (hh _ (by omega) (by omega) (by omega)).trans (hta p hp)⟩
        · by_cases c : q = done + 1
          · subst c
            exact ⟨_, _, _, _, _, _, _, hT ▸ y2, ((F4 _ (by omega) (by omega)).trans s1)⟩
          · exact scr_in (fun j a b => hh j (by omega) (by omega) (by omega)) (hh _ (by omega) (by omega) (by omega)) (hsc q hq)
        · by_cases c : q = done + 1
          · subst c
            rw [sN]
            refine ⟨_, _, _, _, _, _, hT ▸ y2, ((F4 _ (by omega) (by omega)).trans s1), fun u hu9 => ?_, s2⟩
            obtain ⟨a1, a2⟩ := l6 u hu9
            unfold tPl tUp stS
            dsimp only
            rw [cpN_at hu9, cpN_at hu9, a1, a2]
            simp only [hu9, true_and, and_self]
          · rw [sE q (by omega)]
            exact lvl_in (fun j a b => hh j (by omega) (by omega) (by omega)) (hh _ (by omega) (by omega) (by omega)) (hlv q (by omega))
      have cv := CV f hY (upd li done (digI f0)) ta ss (by rw [sN]; have := bnS_st (right := right) hb (by omega) xb; rw [show (20 : Int) + 30 * ((done + 1 : Nat) : Int) = 20 + 30 * (done : Int) + 30 by omega]; exact this) S1
      rw [sN] at cv
      refine z_ald0 (n := 122) (by decide +kernel) ?_
      refine z_ild1 (n := 123) (by decide +kernel) ?_
      refine z_iconst (n := 124) (q := 1) (v := 1) (by decide +kernel) ?_
      refine z_iadd (n := 125) (by decide +kernel) ?_
      refine z_top (nI_1 _) ?_
      refine z_g1 (n := 128) (idx := 57) (by decide +kernel) ml_X3_57 (by assumption) rfl (Nat.le_of_ble_eq_true rfl) (by omega) ⟨Nat.le_refl _, Nat.le_refl _⟩ (cv) (fun x125 h125 q125 => ?_)
      skip
      first | refine z_zr1 (by decide +kernel) rfl (Nat.le_refl _) ?_ | refine z_zr0 (by decide +kernel) rfl (Nat.le_refl _) ?_ | refine z_zrb (by decide +kernel) rfl (Nat.le_refl _) ?_
      refine ⟨x125, rfl, ?_⟩
      obtain ⟨q1, li', fd', ta', q2, q3, q4, q5⟩ := q125
      refine ⟨frm_tr (frm_tr (frm_wd F (by omega) (by omega)) (frm_wd F3 (by omega) (by omega))) q1, li', fd', ta', ?_, ?_, ?_, ?_⟩
      · obtain ⟨v0, v1, v2, v3, v4, v5, v6⟩ := q2
        exact ⟨v0, v1, v2, v3, fun q hq => by have := v4 q (by omega); rw [sE q hq] at this; exact this, v5, v6⟩
      · intro j hj
        rw [q3 j (by omega), upd_nn (by omega)]
      · intro z
        obtain ⟨w1, w2, w3⟩ := q4 z
        rw [List.length_map]
        refine ⟨w1, fun p s hp hs => ?_, w3⟩
        rw [cnL_map]
        exact w2 p s hp hs
      · intro z
        obtain ⟨j, w1, w2, w3⟩ := q5 z
        refine ⟨j, by rw [List.length_map]; exact w1, w2, fun i hi => ?_⟩
        have eg : (((srF (n' + 1) to (K - (done + 1)) (stS x right (sts done))).map (fun q => ((f0 :: q.1, q.2) : sL))).getD j dL).1 = f0 :: ((srF (n' + 1) to (K - (done + 1)) (stS x right (sts done))).getD j dL).1 := by
          rw [gtD (by rw [List.length_map]; exact w1), List.getElem_map, gtD w1]
        rw [eg]
        cases i with
        | zero => rw [Nat.add_zero, q3 done (by omega), upd_ss]; rfl
        | succ i =>
          have := w3 i (by omega)
          rw [show done + 1 + i = done + (i + 1) by omega] at this
          rw [this, gD_s]
    cases right with
    | true =>
      have eI : digI f0 = x := by unfold digI; rw [hr, if_pos rfl, hx]
      rw [eI] at f121
      refine z_ald4 (n := 95) (by decide +kernel) ?_
      refine z_v0v (n := 98) (idx := 100) (by decide +kernel) ml_X3_100 (by first | assumption | (simp (disch := omega) only [hTn, hu_s, hu_n]; first | assumption | rfl)) rfl (Nat.le_of_ble_eq_true rfl) (by omega) ⟨Nat.le_refl _, Nat.le_refl _⟩ (k_tally (N := 12) (k := n' + 1) 1 (by omega) u0 u1 u4 (by omega) (by omega) (by omega)) ?_
      refine z_ald4 (n := 100) (by decide +kernel) ?_
      refine z_ild2 (n := 101) (by decide +kernel) ?_
      refine z_ild3 (n := 102) (by decide +kernel) ?_
      refine z_v2v (n := 105) (idx := 103) (by decide +kernel) ml_X3_103 (by first | assumption | (simp (disch := omega) only [hTn, hu_s, hu_n]; first | assumption | rfl)) rfl (Nat.le_of_ble_eq_true rfl) (by omega) ⟨Nat.le_refl _, Nat.le_refl _⟩ (k_turnOver (N := 12) (k := n' + 1) (tl := mnF (cpN pl pl2 (n' + 1)) (n' + 1)) (ht := tHt ht2 (cpN pl pl2 (n' + 1)) 12 (mnF (cpN pl pl2 (n' + 1)) (n' + 1)) (n' + 1)) (pl := cpN pl pl2 (n' + 1)) (ly := cpN ly ly2 (n' + 1)) (up := cpN up up2 (n' + 1)) 1 (by omega) (by simp (disch := omega) only [hTn, hCr, hFl, hu_s, hu_n]; first | done | assumption | rfl) (by simp (disch := omega) only [hTn, hCr, hFl, hu_s, hu_n]; first | done | assumption | rfl) (by simp (disch := omega) only [hTn, hCr, hFl, hu_s, hu_n]; first | done | assumption | rfl) (by simp (disch := omega) only [hTn, hCr, hFl, hu_s, hu_n]; first | done | assumption | rfl) (by simp (disch := omega) only [hTn, hCr, hFl, hu_s, hu_n]; first | done | assumption | rfl) (by omega) (by omega)) ?_
      refine z_ald0 (n := 106) (by decide +kernel) ?_
      refine z_getf (n := 109) (idx := 11) (by decide +kernel) fl_X3_11 (by first | assumption | (simp (disch := omega) only [hTn, hu_s, hu_n]; first | assumption | rfl)) (by rfl) ?_
      refine z_ild1 (n := 110) (by decide +kernel) ?_
      refine z_ild3 (n := 111) (by decide +kernel) ?_
      refine z_ifb_eq_f (n := 114) (off := 7) (tgt := 118) (by decide +kernel) (rfl) ?_
      refine z_ild2 (n := 115) (by decide +kernel) ?_
      refine z_goto (n := 118) (off := 5) (tgt := 120) (by decide +kernel) ?_
      refine z_iast (n := 121) (by decide +kernel) (by first | assumption | (simp (disch := omega) only [hTn, hu_s, hu_n]; first | assumption | rfl)) (by first | assumption | exact ix_nI (by omega) (by omega) | exact ix_of (by simp only [n_0, n_1, n_2, n_3, n_4, n_5, n_6, n_7, n_8, n_10, n_50, n_90, n_130, n_370, n_570, nI_add, pk_mul]; rfl) (by omega) (by omega)) ?_
      refine f121 _ (fun j hj => by simp (disch := omega) only [hTn, hu_n]) (fun j a b => by simp (disch := omega) only [hTn, hu_n]) (by simp (disch := omega) only [hTn, hCr, hFl, hu_s, hu_n]; first | done | assumption | rfl) ⟨_, _, _, (by simp (disch := omega) only [hTn, hCr, hFl, hu_s, hu_n]; first | done | assumption | rfl), (by simp (disch := omega) only [hTn, hCr, hFl, hu_s, hu_n]; first | done | assumption | rfl), (by simp (disch := omega) only [hTn, hCr, hFl, hu_s, hu_n]; first | done | assumption | rfl), (by simp (disch := omega) only [hTn, hCr, hFl, hu_s, hu_n]; first | done | assumption | rfl), (by simp (disch := omega) only [hTn, hCr, hFl, hu_s, hu_n]; first | done | assumption | rfl)⟩
    | false =>
      have eI : digI f0 = -x := by unfold digI; rw [hr, if_neg (by decide), hx]
      rw [eI] at f121
      refine z_ald4 (n := 95) (by decide +kernel) ?_
      refine z_v0v (n := 98) (idx := 100) (by decide +kernel) ml_X3_100 (by first | assumption | (simp (disch := omega) only [hTn, hu_s, hu_n]; first | assumption | rfl)) rfl (Nat.le_of_ble_eq_true rfl) (by omega) ⟨Nat.le_refl _, Nat.le_refl _⟩ (k_tally (N := 12) (k := n' + 1) 1 (by omega) u0 u1 u4 (by omega) (by omega) (by omega)) ?_
      refine z_ald4 (n := 100) (by decide +kernel) ?_
      refine z_ild2 (n := 101) (by decide +kernel) ?_
      refine z_ild3 (n := 102) (by decide +kernel) ?_
      refine z_v2v (n := 105) (idx := 103) (by decide +kernel) ml_X3_103 (by first | assumption | (simp (disch := omega) only [hTn, hu_s, hu_n]; first | assumption | rfl)) rfl (Nat.le_of_ble_eq_true rfl) (by omega) ⟨Nat.le_refl _, Nat.le_refl _⟩ (k_turnOver (N := 12) (k := n' + 1) (tl := mnF (cpN pl pl2 (n' + 1)) (n' + 1)) (ht := tHt ht2 (cpN pl pl2 (n' + 1)) 12 (mnF (cpN pl pl2 (n' + 1)) (n' + 1)) (n' + 1)) (pl := cpN pl pl2 (n' + 1)) (ly := cpN ly ly2 (n' + 1)) (up := cpN up up2 (n' + 1)) 1 (by omega) (by simp (disch := omega) only [hTn, hCr, hFl, hu_s, hu_n]; first | done | assumption | rfl) (by simp (disch := omega) only [hTn, hCr, hFl, hu_s, hu_n]; first | done | assumption | rfl) (by simp (disch := omega) only [hTn, hCr, hFl, hu_s, hu_n]; first | done | assumption | rfl) (by simp (disch := omega) only [hTn, hCr, hFl, hu_s, hu_n]; first | done | assumption | rfl) (by simp (disch := omega) only [hTn, hCr, hFl, hu_s, hu_n]; first | done | assumption | rfl) (by omega) (by omega)) ?_
      refine z_ald0 (n := 106) (by decide +kernel) ?_
      refine z_getf (n := 109) (idx := 11) (by decide +kernel) fl_X3_11 (by first | assumption | (simp (disch := omega) only [hTn, hu_s, hu_n]; first | assumption | rfl)) (by rfl) ?_
      refine z_ild1 (n := 110) (by decide +kernel) ?_
      refine z_ild3 (n := 111) (by decide +kernel) ?_
      refine z_ifb_eq_t (n := 114) (off := 7) (tgt := 118) (by decide +kernel) (rfl) ?_
      refine z_ild2 (n := 119) (by decide +kernel) ?_
      refine z_ineg (n := 120) (by decide +kernel) ?_
      refine z_iast (n := 121) (by decide +kernel) (by first | assumption | (simp (disch := omega) only [hTn, hu_s, hu_n]; first | assumption | rfl)) (by first | assumption | exact ix_nI (by omega) (by omega) | exact ix_of (by simp only [n_0, n_1, n_2, n_3, n_4, n_5, n_6, n_7, n_8, n_10, n_50, n_90, n_130, n_370, n_570, nI_add, pk_mul]; rfl) (by omega) (by omega)) ?_
      refine f121 _ (fun j hj => by simp (disch := omega) only [hTn, hu_n]) (fun j a b => by simp (disch := omega) only [hTn, hu_n]) (by simp (disch := omega) only [hTn, hCr, hFl, hu_s, hu_n]; first | done | assumption | rfl) ⟨_, _, _, (by simp (disch := omega) only [hTn, hCr, hFl, hu_s, hu_n]; first | done | assumption | rfl), (by simp (disch := omega) only [hTn, hCr, hFl, hu_s, hu_n]; first | done | assumption | rfl), (by simp (disch := omega) only [hTn, hCr, hFl, hu_s, hu_n]; first | done | assumption | rfl), (by simp (disch := omega) only [hTn, hCr, hFl, hu_s, hu_n]; first | done | assumption | rfl), (by simp (disch := omega) only [hTn, hCr, hFl, hu_s, hu_n]; first | done | assumption | rfl)⟩
  have f24 : ∀ w u, u + w = n' → ∀ (hX : mH) (sgX : Nat → Int32), frm h hX (S + 4) (S + 42) → (∀ j, (j < S + 5 + done ∨ S + 5 + done < j) → (j < S + 22 + 5 * (done + 1) ∨ S + 22 + 5 * (done + 1) + 5 ≤ j) → hX j = h j) → hX (S + 3 + 1 + (done + 1)) = aI 12 sgX → (∀ p, p < u → sgX (p + 1) = nI ((stS x right (sts done)).2.2 (p + 1))) → stp hX (S + 22 + 5 * (done + 1)) 12 (n' + 1) tl2 (cpN pl pl2 (n' + 1)) (cpN ly ly2 (n' + 1)) (cpN up up2 (n' + 1)) ht2 → Z G m_X3_goOnBy d 0 0 0 0 24 [some (.ref S), some (.int (nI done)), some (.int x), some (.int (bI right)), some (.ref (S + 22 + 5 * (done + 1))), some (.int (nI (u + 1))), none] [] hX (fun r h' => ∃ x9, r = some (.int (bI x9)) ∧ gPo h h' S (n' + 1) K wa f ((srF (n' + 1) to (K - (done + 1)) (stS x right (sts done))).map (fun q => (f0 :: q.1, q.2))) done sts li to ta x9) := by
    intro w
    induction w with
    | zero =>
      intro u hu9 hX sgX F F2 y1 y2 y3
      have g0 := (F S (by omega)).trans h0
      refine z_ild5 (n := 26) (by decide +kernel) ?_
      refine z_ald0 (n := 27) (by decide +kernel) ?_
      refine z_getf (n := 30) (idx := 35) (by decide +kernel) fl_X3_35 (by assumption) (by rfl) ?_
      refine z_icmp_ge_t (n := 33) (off := 63) (tgt := 93) (by decide +kernel) (by rw [show u = n' by omega]; exact Int32.le_refl _) ?_
      exact z_wk (lv' := [some (.ref S), some (.int (nI done)), some (.int x), some (.int (bI right)), some (.ref (S + 22 + 5 * (done + 1))), none, none]) (by simp [wk]) (f93 hX F F2 ⟨sgX, y1, fun p hp => y2 p (by omega)⟩ y3)
    | succ w ih =>
      intro u hu9 hX sgX F F2 y1 y2 y3
      have g0 := (F S (by omega)).trans h0
      have g3 := (F (S + 3) (by omega)).trans hC3
      have g5 := (F2 (S + 3 + 1 + done) (by omega) (by omega)).trans l5
      have Y3 := y3
      obtain ⟨z0, z1, z2, z3, z4⟩ := y3
      have u12 : u + 1 < 12 := by omega
      obtain ⟨a1, a2⟩ := l6 (u + 1) (by omega)
      obtain ⟨a3, a4⟩ := l6 u (by omega)
      have ec : crs (cpN pl pl2 (n' + 1)) u x = crs (sts done).1 u x := crs_ag (by rw [cpN_at (by omega), a3]) (by rw [cpN_at (by omega), a1])
      have eu : cpN up up2 (n' + 1) (u + 1) = (sts done).2.1 (u + 1) := by rw [cpN_at (by omega), a2]
      have nx : ∀ v : Int32, v = nI ((stS x right (sts done)).2.2 (u + 1)) → Z G m_X3_goOnBy d 0 0 0 0 87 [some (.ref S), some (.int (nI done)), some (.int x), some (.int (bI right)), some (.ref (S + 22 + 5 * (done + 1))), some (.int (nI (u + 1))), none] [] (hu hX (S + 3 + 1 + (done + 1)) (aI 12 (upd sgX (u + 1) v))) (fun r h' => ∃ x9, r = some (.int (bI x9)) ∧ gPo h h' S (n' + 1) K wa f ((srF (n' + 1) to (K - (done + 1)) (stS x right (sts done))).map (fun q => (f0 :: q.1, q.2))) done sts li to ta x9) := by
        intro v hv
        refine z_inc5 (n := 90) (q := 1) (by decide +kernel) rfl (nI_1 _) ?_
        refine z_goto (n := 93) (off := -66) (tgt := 24) (by decide +kernel) ?_
        skip
        refine ih (u + 1) (by omega) _ (upd sgX (u + 1) v) (frm_tr F (fun j hj => hu_n (by omega))) (fun j a b => (hu_n (by omega)).trans (F2 j a b)) hu_s (fun p hp => ?_) (stp_in (fun j a b => hu_n (by omega)) Y3)
        by_cases c : p = u
        · subst c; rw [upd_ss]; exact hv
        · rw [upd_nn (by omega)]; exact y2 p (by omega)
      have f51 : ∀ v : Int32, v = nI (if (sts done).2.1 (u + 1) = true then 1 else 2) → Z G m_X3_goOnBy d 0 0 0 0 51 [some (.ref S), some (.int (nI done)), some (.int x), some (.int (bI right)), some (.ref (S + 22 + 5 * (done + 1))), some (.int (nI (u + 1))), some (.int v)] [] hX (fun r h' => ∃ x9, r = some (.int (bI x9)) ∧ gPo h h' S (n' + 1) K wa f ((srF (n' + 1) to (K - (done + 1)) (stS x right (sts done))).map (fun q => (f0 :: q.1, q.2))) done sts li to ta x9) := by
        intro v hv
        have es : (stS x right (sts done)).2.2 (u + 1) = if crs (sts done).1 u x = true then (if (sts done).2.1 (u + 1) = true then 1 else 2) else (sts done).2.2 (u + 1) := rfl
        by_cases c : crs (sts done).1 u x = true
        · refine z_ald0 (n := 52) (by decide +kernel) ?_
          refine z_getf (n := 55) (idx := 23) (by decide +kernel) fl_X3_23 (by assumption) (by rfl) ?_
          refine z_ild1 (n := 56) (by decide +kernel) ?_
          refine z_iconst (n := 57) (q := 1) (v := 1) (by decide +kernel) ?_
          refine z_iadd (n := 58) (by decide +kernel) ?_
          refine z_top (nI_1 _) ?_
          refine z_aald2 (n := 59) (by decide +kernel) (by assumption) (by first | assumption | exact ix_nI (by omega) (by omega) | exact ix_of (by simp only [n_0, n_1, n_2, n_3, n_4, n_5, n_6, n_7, n_8, n_10, n_50, n_90, n_130, n_370, n_570, nI_add, pk_mul]; rfl) (by omega) (by omega)) (by rw [if_pos d5]) ?_
          refine z_ild5 (n := 61) (by decide +kernel) ?_
          refine z_ald4 (n := 63) (by decide +kernel) ?_
          refine z_ild5 (n := 65) (by decide +kernel) ?_
          refine z_ild2 (n := 66) (by decide +kernel) ?_
          refine z_v2 (n := 69) (idx := 96) (by decide +kernel) ml_X3_96 (by assumption) rfl (Nat.le_of_ble_eq_true rfl) (by omega) ⟨Nat.le_refl _, Nat.le_refl _⟩ (k_crosses (N := 12) (p := u) (f := cpN pl pl2 (n' + 1)) 0 z0 z1 u12 (by omega)) ?_
          refine z_ifb_eq_f (n := 72) (off := 8) (tgt := 77) (by decide +kernel) (ec.trans c) ?_
          refine z_ild6 (n := 74) (by decide +kernel) ?_
          refine z_goto (n := 77) (off := 12) (tgt := 86) (by decide +kernel) ?_
          refine z_iast (n := 87) (by decide +kernel) (by assumption) (by first | assumption | exact ix_nI (by omega) (by omega) | exact ix_of (by simp only [n_0, n_1, n_2, n_3, n_4, n_5, n_6, n_7, n_8, n_10, n_50, n_90, n_130, n_370, n_570, nI_add, pk_mul]; rfl) (by omega) (by omega)) ?_
          exact z_wk (lv' := [some (.ref S), some (.int (nI done)), some (.int x), some (.int (bI right)), some (.ref (S + 22 + 5 * (done + 1))), some (.int (nI (u + 1))), none]) (by simp [wk]) (nx v (by rw [es, if_pos c]; exact hv))
        · refine z_ald0 (n := 52) (by decide +kernel) ?_
          refine z_getf (n := 55) (idx := 23) (by decide +kernel) fl_X3_23 (by assumption) (by rfl) ?_
          refine z_ild1 (n := 56) (by decide +kernel) ?_
          refine z_iconst (n := 57) (q := 1) (v := 1) (by decide +kernel) ?_
          refine z_iadd (n := 58) (by decide +kernel) ?_
          refine z_top (nI_1 _) ?_
          refine z_aald2 (n := 59) (by decide +kernel) (by assumption) (by first | assumption | exact ix_nI (by omega) (by omega) | exact ix_of (by simp only [n_0, n_1, n_2, n_3, n_4, n_5, n_6, n_7, n_8, n_10, n_50, n_90, n_130, n_370, n_570, nI_add, pk_mul]; rfl) (by omega) (by omega)) (by rw [if_pos d5]) ?_
          refine z_ild5 (n := 61) (by decide +kernel) ?_
          refine z_ald4 (n := 63) (by decide +kernel) ?_
          refine z_ild5 (n := 65) (by decide +kernel) ?_
          refine z_ild2 (n := 66) (by decide +kernel) ?_
          refine z_v2 (n := 69) (idx := 96) (by decide +kernel) ml_X3_96 (by assumption) rfl (Nat.le_of_ble_eq_true rfl) (by omega) ⟨Nat.le_refl _, Nat.le_refl _⟩ (k_crosses (N := 12) (p := u) (f := cpN pl pl2 (n' + 1)) 0 z0 z1 u12 (by omega)) ?_
          refine z_ifb_eq_t (n := 72) (off := 8) (tgt := 77) (by decide +kernel) (ec.trans (Bool.eq_false_iff.mpr c)) ?_
          refine z_ald0 (n := 78) (by decide +kernel) ?_
          refine z_getf (n := 81) (idx := 23) (by decide +kernel) fl_X3_23 (by assumption) (by rfl) ?_
          refine z_ild1 (n := 82) (by decide +kernel) ?_
          refine z_aald2 (n := 83) (by decide +kernel) (by assumption) (by first | assumption | exact ix_nI (by omega) (by omega) | exact ix_of (by simp only [n_0, n_1, n_2, n_3, n_4, n_5, n_6, n_7, n_8, n_10, n_50, n_90, n_130, n_370, n_570, nI_add, pk_mul]; rfl) (by omega) (by omega)) (by rw [if_pos d4]) ?_
          refine z_ild5 (n := 85) (by decide +kernel) ?_
          refine z_iald (n := 86) (by decide +kernel) (by assumption) (by first | assumption | exact ix_nI (by omega) (by omega) | exact ix_of (by simp only [n_0, n_1, n_2, n_3, n_4, n_5, n_6, n_7, n_8, n_10, n_50, n_90, n_130, n_370, n_570, nI_add, pk_mul]; rfl) (by omega) (by omega)) ?_
          refine z_iast (n := 87) (by decide +kernel) (by assumption) (by first | assumption | exact ix_nI (by omega) (by omega) | exact ix_of (by simp only [n_0, n_1, n_2, n_3, n_4, n_5, n_6, n_7, n_8, n_10, n_50, n_90, n_130, n_370, n_570, nI_add, pk_mul]; rfl) (by omega) (by omega)) ?_
          exact z_wk (lv' := [some (.ref S), some (.int (nI done)), some (.int x), some (.int (bI right)), some (.ref (S + 22 + 5 * (done + 1))), some (.int (nI (u + 1))), none]) (by simp [wk]) (nx _ (by rw [es, if_neg c]; exact l7 u (by omega)))
      by_cases c : (sts done).2.1 (u + 1) = true
      · refine z_ild5 (n := 26) (by decide +kernel) ?_
        refine z_ald0 (n := 27) (by decide +kernel) ?_
        refine z_getf (n := 30) (idx := 35) (by decide +kernel) fl_X3_35 (by assumption) (by rfl) ?_
        refine z_icmp_ge_f (n := 33) (off := 63) (tgt := 93) (by decide +kernel) (nI_ge (by omega) (by omega)) ?_
        refine z_ald4 (n := 35) (by decide +kernel) ?_
        refine z_getf (n := 38) (idx := 92) (by decide +kernel) fl_X3_92 (by assumption) (by rfl) ?_
        refine z_ild5 (n := 40) (by decide +kernel) ?_
        refine z_zald (n := 41) (by decide +kernel) (by assumption) (by first | assumption | exact ix_nI (by omega) (by omega) | exact ix_of (by simp only [n_0, n_1, n_2, n_3, n_4, n_5, n_6, n_7, n_8, n_10, n_50, n_90, n_130, n_370, n_570, nI_add, pk_mul]; rfl) (by omega) (by omega)) ?_
        refine z_ifb_eq_f (n := 44) (off := 7) (tgt := 48) (by decide +kernel) (eu.trans c) ?_
        refine z_iconst (n := 45) (q := 1) (v := 1) (by decide +kernel) ?_
        refine z_goto (n := 48) (off := 4) (tgt := 49) (by decide +kernel) ?_
        refine z_ist6 (n := 51) (by decide +kernel) rfl ?_
        exact f51 1 (by rw [if_pos c]; rfl)
      · refine z_ild5 (n := 26) (by decide +kernel) ?_
        refine z_ald0 (n := 27) (by decide +kernel) ?_
        refine z_getf (n := 30) (idx := 35) (by decide +kernel) fl_X3_35 (by assumption) (by rfl) ?_
        refine z_icmp_ge_f (n := 33) (off := 63) (tgt := 93) (by decide +kernel) (nI_ge (by omega) (by omega)) ?_
        refine z_ald4 (n := 35) (by decide +kernel) ?_
        refine z_getf (n := 38) (idx := 92) (by decide +kernel) fl_X3_92 (by assumption) (by rfl) ?_
        refine z_ild5 (n := 40) (by decide +kernel) ?_
        refine z_zald (n := 41) (by decide +kernel) (by assumption) (by first | assumption | exact ix_nI (by omega) (by omega) | exact ix_of (by simp only [n_0, n_1, n_2, n_3, n_4, n_5, n_6, n_7, n_8, n_10, n_50, n_90, n_130, n_370, n_570, nI_add, pk_mul]; rfl) (by omega) (by omega)) ?_
        refine z_ifb_eq_t (n := 44) (off := 7) (tgt := 48) (by decide +kernel) (eu.trans (Bool.eq_false_iff.mpr c)) ?_
        refine z_iconst (n := 49) (q := 2) (v := 2) (by decide +kernel) ?_
        refine z_ist6 (n := 51) (by decide +kernel) rfl ?_
        exact f51 2 (by rw [if_neg c]; rfl)
  refine ev_4_3 rfl rfl rfl rfl (by decide +kernel) (by decide +kernel) ?_
  refine z_ald0 (n := 1) (by decide +kernel) ?_
  refine z_getf (n := 4) (idx := 17) (by decide +kernel) fl_X3_17 (by first | assumption | (simp (disch := omega) only [hu_s, hu_n]; first | assumption | rfl)) (by rfl) ?_
  refine z_ild1 (n := 5) (by decide +kernel) ?_
  refine z_iconst (n := 6) (q := 1) (v := 1) (by decide +kernel) ?_
  refine z_iadd (n := 7) (by decide +kernel) ?_
  refine z_top (nI_1 _) ?_
  refine z_aald (n := 8) (by decide +kernel) (by first | assumption | (simp (disch := omega) only [hu_s, hu_n]; first | assumption | rfl)) (by first | assumption | exact ix_nI (by omega) (by omega) | exact ix_of (by simp only [n_0, n_1, n_2, n_3, n_4, n_5, n_6, n_7, n_8, n_10, n_50, n_90, n_130, n_370, n_570, nI_add, pk_mul]; rfl) (by omega) (by omega)) (hC2 (done + 1) d5) ?_
  refine z_ast4 (n := 10) (by decide +kernel) rfl ?_
  refine z_ald4 (n := 12) (by decide +kernel) ?_
  refine z_ald0 (n := 13) (by decide +kernel) ?_
  refine z_getf (n := 16) (idx := 17) (by decide +kernel) fl_X3_17 (by first | assumption | (simp (disch := omega) only [hu_s, hu_n]; first | assumption | rfl)) (by rfl) ?_
  refine z_ild1 (n := 17) (by decide +kernel) ?_
  refine z_aald (n := 18) (by decide +kernel) (by first | assumption | (simp (disch := omega) only [hu_s, hu_n]; first | assumption | rfl)) (by first | assumption | exact ix_nI (by omega) (by omega) | exact ix_of (by simp only [n_0, n_1, n_2, n_3, n_4, n_5, n_6, n_7, n_8, n_10, n_50, n_90, n_130, n_370, n_570, nI_add, pk_mul]; rfl) (by omega) (by omega)) (hC2 done d4) ?_
  refine z_v1v (n := 21) (idx := 88) (by decide +kernel) ml_X3_88 (by first | assumption | (simp (disch := omega) only [hu_s, hu_n]; first | assumption | rfl)) rfl (Nat.le_of_ble_eq_true rfl) (by omega) ⟨Nat.le_refl _, Nat.le_refl _⟩ (k_stripCopy (N := 12) (N' := 12) (k := n' + 1) (sz := nI sz) (pl' := pl) (ly' := ly) (up' := up) (tl' := tl) 1 (by omega) t0 t1 t2 t3 l0 l1 l2 l3 (by omega) (by omega) (by omega) (by omega)) ?_
  refine z_iconst (n := 22) (q := 1) (v := 1) (by decide +kernel) ?_
  refine z_ist5 (n := 24) (by decide +kernel) rfl ?_
  skip
  refine z_wk (lv' := [some (.ref S), some (.int (nI done)), some (.int x), some (.int (bI right)), some (.ref (S + 22 + 5 * (done + 1))), some (.int (nI (0 + 1))), none]) (by simp [wk]; rfl) (f24 n' 0 (by omega) _ sg2 (fun j hj => by simp (disch := omega) only [hu_n]) (fun j a b => by simp (disch := omega) only [hu_n]) (by simp (disch := omega) only [hTn, hCr, hFl, hu_s, hu_n]; first | done | assumption | rfl) (fun p hp => absurd hp (Nat.not_lt_zero _)) ⟨(by simp (disch := omega) only [hTn, hCr, hFl, hu_s, hu_n]; first | done | assumption | rfl), (by simp (disch := omega) only [hTn, hCr, hFl, hu_s, hu_n]; first | done | assumption | rfl), (by simp (disch := omega) only [hTn, hCr, hFl, hu_s, hu_n]; first | done | assumption | rfl), (by simp (disch := omega) only [hTn, hCr, hFl, hu_s, hu_n]; first | done | assumption | rfl), (by simp (disch := omega) only [hTn, hCr, hFl, hu_s, hu_n]; first | done | assumption | rfl)⟩)
