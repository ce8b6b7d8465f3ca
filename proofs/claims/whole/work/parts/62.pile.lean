/-! Panels: all piles -/
def rgF {α : Type} (f : Nat → List α) : Nat → Nat → List α
  | 0, _ => []
  | m + 1, u => f u ++ rgF f m (u + 1)
def lvX (n : Nat) (s : Nat → Nat) : Nat → List Nat → List (List Nat)
  | 0, pre => [pre]
  | k + 1, pre => rgF (fun v => if v ∈ pre then [] else if okX n s pre v = true then lvX n s k (pre ++ [v]) else []) n 0
theorem rgF_len {α : Type} {f : Nat → List α} {b : Nat} (h : ∀ u, (f u).length ≤ b) : ∀ m u, (rgF f m u).length ≤ m * b
  | 0, u => by simp [rgF]
  | m + 1, u => by
    rw [rgF, List.length_append, Nat.succ_mul]
    have := h u
    have := rgF_len h m (u + 1)
    omega
theorem lvX_len (n : Nat) (s : Nat → Nat) : ∀ k pre, (lvX n s k pre).length ≤ n ^ k
  | 0, pre => by simp [lvX]
  | k + 1, pre => by
    rw [lvX, Nat.pow_succ, Nat.mul_comm]
    refine rgF_len (fun u => ?_) n 0
    split
    · simp
    · split
      · exact lvX_len n s k _
      · simp
theorem getD_app1 {l : List Nat} {x i : Nat} (h : i < l.length) : (l ++ [x]).getD i 0 = l.getD i 0 := by
  rw [gtD (by simp; omega), gtD h, List.getElem_append_left h]
theorem getD_app2 {l : List Nat} {x : Nat} : (l ++ [x]).getD l.length 0 = x := by
  rw [gtD (by simp)]
  simp
theorem getD_mem {l : List Nat} {i : Nat} (h : i < l.length) : l.getD i 0 ∈ l := by
  rw [gtD h]
  exact List.getElem_mem h
theorem pil_push {n u : Nat} {pre : List Nat} {pI lO : Nat → Int32} (L : pil n pre pI lO) (hu9 : u < n) (hn : u ∉ pre) (hl : pre.length < n) : pil n (pre ++ [u]) (upd pI pre.length (nI u)) (upd lO u (nI pre.length)) := by
  obtain ⟨⟨h1, h2⟩, h3, h4, h5⟩ := L
  refine ⟨⟨?_, by simp; omega⟩, ?_, ?_, ?_⟩
  · rw [List.nodup_append]
    refine ⟨h1, by simp, ?_⟩
    intro a ha b hb
    rw [List.mem_singleton] at hb
    subst hb
    exact fun z => hn (z ▸ ha)
  · intro p hp
    rcases List.mem_append.mp hp with z | z
    · exact h3 p z
    · rw [List.mem_singleton] at z; omega
  · intro l hl9
    rw [List.length_append, List.length_singleton] at hl9
    by_cases c : l = pre.length
    · subst c
      rw [getD_app2, upd_ss, upd_ss]
      exact ⟨rfl, rfl⟩
    · rw [getD_app1 (by omega), upd_nn c]
      obtain ⟨e1, e2⟩ := h4 l (by omega)
      refine ⟨e1, ?_⟩
      rw [upd_nn (fun z => hn (by rw [← z]; exact getD_mem (by omega)))]
      exact e2
  · intro p hp hq
    rw [List.mem_append, List.mem_singleton] at hq
    rw [upd_nn (fun z => hq (.inr z))]
    exact h5 p hp (fun z => hq (.inl z))
theorem pil_pop {n u : Nat} {pre : List Nat} {pI lO : Nat → Int32} (L : pil n (pre ++ [u]) pI lO) : pil n pre pI (upd lO u (-1)) := by
  obtain ⟨⟨h1, h2⟩, h3, h4, h5⟩ := L
  rw [List.nodup_append] at h1
  obtain ⟨n1, _, n3⟩ := h1
  have hu9 : u ∉ pre := fun z => n3 u z u (by simp) rfl
  refine ⟨⟨n1, by simp at h2; omega⟩, fun p hp => h3 p (List.mem_append_left _ hp), ?_, ?_⟩
  · intro l hl
    obtain ⟨e1, e2⟩ := h4 l (by simp; omega)
    rw [getD_app1 hl] at e1 e2
    refine ⟨e1, ?_⟩
    rw [upd_nn (fun z => hu9 (by rw [← z]; exact getD_mem hl))]
    exact e2
  · intro p hp hq
    by_cases c : p = u
    · subst c; exact upd_ss
    · rw [upd_nn c]
      exact h5 p hp (by rw [List.mem_append, List.mem_singleton]; exact fun z => z.elim hq c)
/-- behind a search for the way wt: f ways were found before, ls are the ways here -/
def pPo (h h' : mH) (A n : Nat) (wt : Int32) (f : Nat) (ls : List (List Nat)) (pre : List Nat) (sg : Nat → Int32) (x : Bool) : Prop := frm h h' A (A + 4) ∧ ∃ pI lO fd, pnl h' A n wt fd pI lO sg ∧
  (x = false → fd = nI (f + ls.length) ∧ pil n pre pI lO ∧ ∀ j, j < ls.length → ¬ wt = nI (f + j)) ∧
  (x = true → ∃ j, j < ls.length ∧ wt = nI (f + j) ∧ ∀ l, l < n → pI l = nI ((ls.getD j []).getD l 0))
theorem pPo_fr {h h1 h' : mH} {A n : Nat} {wt : Int32} {f : Nat} {ls : List (List Nat)} {pre : List Nat} {sg : Nat → Int32} {x : Bool} (a : frm h h1 A (A + 4)) (p : pPo h1 h' A n wt f ls pre sg x) : pPo h h' A n wt f ls pre sg x := ⟨frm_tr a p.1, p.2⟩
theorem getD_appL {α : Type} {l1 l2 : List α} {i : Nat} {x : α} (h : i < l1.length) : (l1 ++ l2).getD i x = l1.getD i x := by
  rw [gtD (by simp; omega), gtD h, List.getElem_append_left h]
theorem getD_appR {α : Type} {l1 l2 : List α} {i : Nat} {x : α} : (l1 ++ l2).getD (l1.length + i) x = l2.getD i x := by
  simp [List.getD, List.getElem?_append_right]
/-- found here: found in all -/
theorem pPo_t {h h' : mH} {A n : Nat} {wt : Int32} {f : Nat} {l1 l2 : List (List Nat)} {pre pre' : List Nat} {sg : Nat → Int32} (p : pPo h h' A n wt f l1 pre' sg true) : pPo h h' A n wt f (l1 ++ l2) pre sg true := by
  obtain ⟨p1, pI, lO, fd, p2, p3, p4⟩ := p
  refine ⟨p1, pI, lO, fd, p2, fun z => Bool.noConfusion z, fun _ => ?_⟩
  obtain ⟨j, j1, j2, j3⟩ := p4 rfl
  refine ⟨j, by rw [List.length_append]; omega, j2, ?_⟩
  rw [getD_appL j1]
  exact j3
/-- not found among the first: go on behind them -/
theorem pPo_app {h h' : mH} {A n : Nat} {wt : Int32} {f : Nat} {l1 l2 : List (List Nat)} {pre : List Nat} {sg : Nat → Int32} {x : Bool} (hf : ∀ j, j < l1.length → ¬ wt = nI (f + j)) (p : pPo h h' A n wt (f + l1.length) l2 pre sg x) : pPo h h' A n wt f (l1 ++ l2) pre sg x := by
  obtain ⟨p1, pI, lO, fd, p2, p3, p4⟩ := p
  refine ⟨p1, pI, lO, fd, p2, fun z => ?_, fun z => ?_⟩
  · obtain ⟨q1, q2, q3⟩ := p3 z
    refine ⟨by rw [q1, List.length_append, Nat.add_assoc], q2, fun j hj => ?_⟩
    rw [List.length_append] at hj
    by_cases c : j < l1.length
    · exact hf j c
    · have := q3 (j - l1.length) (by omega)
      rw [show f + l1.length + (j - l1.length) = f + j by omega] at this
      exact this
  · obtain ⟨j, j1, j2, j3⟩ := p4 z
    refine ⟨l1.length + j, by rw [List.length_append]; omega, by rw [← Nat.add_assoc]; exact j2, ?_⟩
    rw [getD_appR]
    exact j3
theorem k_pileFrom {G : mG} {A n : Nat} {wt : Int32} {sg : Nat → Int32} {s : Nat → Nat} (hn : n ≤ 8) (hsg : ∀ c, c + 1 < n → sg c = nI (s c) ∧ s c < 3) : ∀ (k d f : Nat) (h : mH) (pI lO : Nat → Int32) (pre : List Nat), k + 3 ≤ d → pre.length + k = n → f + (lvX n s k pre).length < 2 ^ 31 → pnl h A n wt (nI f) pI lO sg → pil n pre pI lO → EV G m_X1_pileFrom d 0 0 [.ref A, .int (nI pre.length)] h (fun r h' => ∃ x, r = some (.int (bI x)) ∧ pPo h h' A n wt f (lvX n s k pre) pre sg x) := by
  intro k
  induction k with
  | zero =>
    intro d f h pI lO pre hd hk hf H L
    have H' := H
    obtain ⟨h0, h1, h2, h3⟩ := H
    refine ev_2_1 rfl rfl (by decide +kernel) (by decide +kernel) ?_
    by_cases c : nI f = wt
    · refine z_ild1 (n := 1) (by decide +kernel) ?_
      refine z_ald0 (n := 2) (by decide +kernel) ?_
      refine z_getf (n := 5) (idx := 21) (by decide +kernel) fl_X1_21 (by first | assumption | (simp (disch := omega) only [hu_s, hu_n]; first | assumption | rfl)) (by rfl) ?_
      refine z_icmp_lt_f (n := 8) (off := 32) (tgt := 37) (by decide +kernel) (nI_nlt (by omega) (by omega)) ?_
      refine z_ald0 (n := 9) (by decide +kernel) ?_
      refine z_dup (n := 10) (by decide +kernel) rfl ?_
      refine z_getf (n := 13) (idx := 28) (by decide +kernel) fl_X1_28 (by first | assumption | (simp (disch := omega) only [hu_s, hu_n]; first | assumption | rfl)) (by rfl) ?_
      refine z_iconst (n := 14) (q := 1) (v := 1) (by decide +kernel) ?_
      refine z_iadd (n := 15) (by decide +kernel) ?_
      refine z_top (nI_1 _) ?_
      refine z_putf (n := 18) (idx := 28) (ty := .int) (by decide +kernel) fl_X1_28 (by first | assumption | (simp (disch := omega) only [hu_s, hu_n]; first | assumption | rfl)) ⟨_, _, _, rfl, rfl, by decide +kernel⟩ rfl rfl (Nat.le_of_ble_eq_true rfl) ?_
      refine z_ald0 (n := 19) (by decide +kernel) ?_
      refine z_getf (n := 22) (idx := 28) (by decide +kernel) fl_X1_28 (by first | assumption | (simp (disch := omega) only [hu_s, hu_n]; first | assumption | rfl)) (by rfl) ?_
      refine z_iconst (n := 23) (q := 1) (v := 1) (by decide +kernel) ?_
      refine z_isub (n := 24) (by decide +kernel) ?_
      refine z_top (nI_pred f) ?_
      refine z_ald0 (n := 25) (by decide +kernel) ?_
      refine z_getf (n := 28) (idx := 25) (by decide +kernel) fl_X1_25 (by first | assumption | (simp (disch := omega) only [hu_s, hu_n]; first | assumption | rfl)) (by rfl) ?_
      refine z_icmp_ne_f (n := 31) (off := 7) (tgt := 35) (by decide +kernel) (c) ?_
      refine z_iconst (n := 32) (q := 1) (v := 1) (by decide +kernel) ?_
      refine z_goto (n := 35) (off := 4) (tgt := 36) (by decide +kernel) ?_
      first | refine z_zr1 (by decide +kernel) rfl (Nat.le_refl _) ?_ | refine z_zr0 (by decide +kernel) rfl (Nat.le_refl _) ?_ | refine z_zrb (by decide +kernel) rfl (Nat.le_refl _) ?_
      exact ⟨true, rfl, fun j hj => hu_n (by omega), pI, lO, _, ⟨(by simp (disch := omega) only [hTn, hCr, hFl, hu_s, hu_n]; first | done | assumption | rfl), (by simp (disch := omega) only [hTn, hCr, hFl, hu_s, hu_n]; first | done | assumption | rfl), (by simp (disch := omega) only [hTn, hCr, hFl, hu_s, hu_n]; first | done | assumption | rfl), (by simp (disch := omega) only [hTn, hCr, hFl, hu_s, hu_n]; first | done | assumption | rfl)⟩, fun z => Bool.noConfusion z, fun _ => ⟨0, by simp [lvX], c.symm, fun l hl => (L.2.2.1 l (by omega)).1⟩⟩
    · refine z_ild1 (n := 1) (by decide +kernel) ?_
      refine z_ald0 (n := 2) (by decide +kernel) ?_
      refine z_getf (n := 5) (idx := 21) (by decide +kernel) fl_X1_21 (by first | assumption | (simp (disch := omega) only [hu_s, hu_n]; first | assumption | rfl)) (by rfl) ?_
      refine z_icmp_lt_f (n := 8) (off := 32) (tgt := 37) (by decide +kernel) (nI_nlt (by omega) (by omega)) ?_
      refine z_ald0 (n := 9) (by decide +kernel) ?_
      refine z_dup (n := 10) (by decide +kernel) rfl ?_
      refine z_getf (n := 13) (idx := 28) (by decide +kernel) fl_X1_28 (by first | assumption | (simp (disch := omega) only [hu_s, hu_n]; first | assumption | rfl)) (by rfl) ?_
      refine z_iconst (n := 14) (q := 1) (v := 1) (by decide +kernel) ?_
      refine z_iadd (n := 15) (by decide +kernel) ?_
      refine z_top (nI_1 _) ?_
      refine z_putf (n := 18) (idx := 28) (ty := .int) (by decide +kernel) fl_X1_28 (by first | assumption | (simp (disch := omega) only [hu_s, hu_n]; first | assumption | rfl)) ⟨_, _, _, rfl, rfl, by decide +kernel⟩ rfl rfl (Nat.le_of_ble_eq_true rfl) ?_
      refine z_ald0 (n := 19) (by decide +kernel) ?_
      refine z_getf (n := 22) (idx := 28) (by decide +kernel) fl_X1_28 (by first | assumption | (simp (disch := omega) only [hu_s, hu_n]; first | assumption | rfl)) (by rfl) ?_
      refine z_iconst (n := 23) (q := 1) (v := 1) (by decide +kernel) ?_
      refine z_isub (n := 24) (by decide +kernel) ?_
      refine z_top (nI_pred f) ?_
      refine z_ald0 (n := 25) (by decide +kernel) ?_
      refine z_getf (n := 28) (idx := 25) (by decide +kernel) fl_X1_25 (by first | assumption | (simp (disch := omega) only [hu_s, hu_n]; first | assumption | rfl)) (by rfl) ?_
      refine z_icmp_ne_t (n := 31) (off := 7) (tgt := 35) (by decide +kernel) (c) ?_
      refine z_iconst (n := 36) (q := 0) (v := 0) (by decide +kernel) ?_
      first | refine z_zr1 (by decide +kernel) rfl (Nat.le_refl _) ?_ | refine z_zr0 (by decide +kernel) rfl (Nat.le_refl _) ?_ | refine z_zrb (by decide +kernel) rfl (Nat.le_refl _) ?_
      exact ⟨false, rfl, fun j hj => hu_n (by omega), pI, lO, _, ⟨(by simp (disch := omega) only [hTn, hCr, hFl, hu_s, hu_n]; first | done | assumption | rfl), (by simp (disch := omega) only [hTn, hCr, hFl, hu_s, hu_n]; first | done | assumption | rfl), (by simp (disch := omega) only [hTn, hCr, hFl, hu_s, hu_n]; first | done | assumption | rfl), (by simp (disch := omega) only [hTn, hCr, hFl, hu_s, hu_n]; first | done | assumption | rfl)⟩, fun _ => ⟨rfl, L, fun j hj => by simp [lvX] at hj; subst hj; exact fun z => c z.symm⟩, fun z => Bool.noConfusion z⟩
  | succ k ih =>
    intro d f h pI lO pre hd hk hf H L
    have hl := pil_len L hn
    generalize hB : (fun v => if v ∈ pre then [] else if okX n s pre v = true then lvX n s k (pre ++ [v]) else []) = B
    have lp : ∀ m u, u + m = n → ∀ (ls : List (List Nat)) (h1 : mH) (pI lO : Nat → Int32), frm h h1 A (A + 4) → f + (ls ++ rgF B m u).length < 2 ^ 31 → pnl h1 A n wt (nI (f + ls.length)) pI lO sg → pil n pre pI lO → (∀ j, j < ls.length → ¬ wt = nI (f + j)) → Z G m_X1_pileFrom d 0 0 0 0 39 [some (.ref A), some (.int (nI pre.length)), some (.int (nI u))] [] h1 (fun r h' => ∃ x, r = some (.int (bI x)) ∧ pPo h h' A n wt f (ls ++ rgF B m u) pre sg x) := by
      intro m
      induction m with
      | zero =>
        intro u hu9 ls h1 pI lO F0 hf H L hls
        have H' := H
        obtain ⟨h0, h1, h2, h3⟩ := H
        refine z_ild2 (n := 40) (by decide +kernel) ?_
        refine z_ald0 (n := 41) (by decide +kernel) ?_
        refine z_getf (n := 44) (idx := 21) (by decide +kernel) fl_X1_21 (by assumption) (by rfl) ?_
        refine z_icmp_ge_t (n := 47) (off := 61) (tgt := 105) (by decide +kernel) (by rw [show u = n by omega]; exact Int32.le_refl _) ?_
        refine z_iconst (n := 106) (q := 0) (v := 0) (by decide +kernel) ?_
        first | refine z_zr1 (by decide +kernel) rfl (Nat.le_refl _) ?_ | refine z_zr0 (by decide +kernel) rfl (Nat.le_refl _) ?_ | refine z_zrb (by decide +kernel) rfl (Nat.le_refl _) ?_
        exact ⟨false, rfl, F0, pI, lO, _, H', fun _ => ⟨by rw [rgF, List.append_nil], L, by rw [rgF, List.append_nil]; exact hls⟩, fun z => Bool.noConfusion z⟩
      | succ m ihm =>
        intro u hu9 ls hX pI lO F0 hf H L hls
        have H' := H
        have hu8 : u < 8 := by omega
        have hpl : pre.length < 8 := by omega
        have eB : B u = if u ∈ pre then [] else if okX n s pre u = true then lvX n s k (pre ++ [u]) else [] := by rw [← hB]
        rw [rgF] at hf ⊢
        obtain ⟨h0, h1, h2, h3⟩ := H
        obtain ⟨q1, q2⟩ := pil_lo L (show u < n by omega)
        have nx : B u = [] → Z G m_X1_pileFrom d 0 0 0 0 99 [some (.ref A), some (.int (nI pre.length)), some (.int (nI u))] [] hX (fun r h' => ∃ x, r = some (.int (bI x)) ∧ pPo h h' A n wt f (ls ++ (B u ++ rgF B m (u + 1))) pre sg x) := by
          intro z
          rw [z, List.nil_append] at hf ⊢
          refine z_inc2 (n := 102) (q := 1) (by decide +kernel) rfl (nI_1 _) ?_
          refine z_goto (n := 105) (off := -63) (tgt := 39) (by decide +kernel) ?_
          exact ihm (u + 1) (by omega) ls _ pI lO F0 hf H' L hls
        by_cases ci : u ∈ pre
        · have hi := List.idxOf_lt_length_of_mem ci
          refine z_ild2 (n := 40) (by decide +kernel) ?_
          refine z_ald0 (n := 41) (by decide +kernel) ?_
          refine z_getf (n := 44) (idx := 21) (by decide +kernel) fl_X1_21 (by first | assumption | (simp (disch := omega) only [hu_s, hu_n]; first | assumption | rfl)) (by rfl) ?_
          refine z_icmp_ge_f (n := 47) (off := 61) (tgt := 105) (by decide +kernel) (nI_ge (by omega) (by omega)) ?_
          refine z_ald0 (n := 48) (by decide +kernel) ?_
          refine z_getf (n := 51) (idx := 15) (by decide +kernel) fl_X1_15 (by first | assumption | (simp (disch := omega) only [hu_s, hu_n]; first | assumption | rfl)) (by rfl) ?_
          refine z_ild2 (n := 52) (by decide +kernel) ?_
          refine z_iald (n := 53) (by decide +kernel) (by first | assumption | (simp (disch := omega) only [hu_s, hu_n]; first | assumption | rfl)) (by first | assumption | exact ix_nI (by omega) (by omega)) ?_
          refine z_top (q1 ci) ?_
          refine z_iconst (n := 54) (q := -1) (v := -1) (by decide +kernel) ?_
          refine z_icmp_ne_t (n := 57) (off := 45) (tgt := 99) (by decide +kernel) (fun z => absurd (z ▸ nI_pos' (n := pre.idxOf u) (by omega) : (0 : Int32) ≤ -1) (by decide)) ?_
          exact nx (eB.trans (if_pos ci))
        · by_cases co : okX n s pre u = true
          · have eb : B u = lvX n s k (pre ++ [u]) := by rw [eB, if_neg ci, if_pos co]
            have Lp := pil_push L (show u < n by omega) ci (by omega)
            have el : (pre ++ [u]).length = pre.length + 1 := by simp
            have hf2 : f + ls.length + (lvX n s k (pre ++ [u])).length < 2 ^ 31 := by
              rw [eb, List.length_append, List.length_append] at hf
              omega
            have cv := ih (d - 1) (f + ls.length) (hu (hu hX (A + 1) (aI 8 (upd pI pre.length (nI u)))) (A + 2) (aI 8 (upd lO u (nI pre.length)))) _ _ (pre ++ [u]) (by omega) (by rw [el]; omega) hf2 ⟨(by simp (disch := omega) only [hTn, hCr, hFl, hu_s, hu_n]; first | done | assumption | rfl), (by simp (disch := omega) only [hTn, hCr, hFl, hu_s, hu_n]; first | done | assumption | rfl), (by simp (disch := omega) only [hTn, hCr, hFl, hu_s, hu_n]; first | done | assumption | rfl), (by simp (disch := omega) only [hTn, hCr, hFl, hu_s, hu_n]; first | done | assumption | rfl)⟩ Lp
            rw [el] at cv
            refine z_ild2 (n := 40) (by decide +kernel) ?_
            refine z_ald0 (n := 41) (by decide +kernel) ?_
            refine z_getf (n := 44) (idx := 21) (by decide +kernel) fl_X1_21 (by first | assumption | (simp (disch := omega) only [hu_s, hu_n]; first | assumption | rfl)) (by rfl) ?_
            refine z_icmp_ge_f (n := 47) (off := 61) (tgt := 105) (by decide +kernel) (nI_ge (by omega) (by omega)) ?_
            refine z_ald0 (n := 48) (by decide +kernel) ?_
            refine z_getf (n := 51) (idx := 15) (by decide +kernel) fl_X1_15 (by first | assumption | (simp (disch := omega) only [hu_s, hu_n]; first | assumption | rfl)) (by rfl) ?_
            refine z_ild2 (n := 52) (by decide +kernel) ?_
            refine z_iald (n := 53) (by decide +kernel) (by first | assumption | (simp (disch := omega) only [hu_s, hu_n]; first | assumption | rfl)) (by first | assumption | exact ix_nI (by omega) (by omega)) ?_
            refine z_top (q2 ci) ?_
            refine z_iconst (n := 54) (q := -1) (v := -1) (by decide +kernel) ?_
            refine z_icmp_ne_f (n := 57) (off := 45) (tgt := 99) (by decide +kernel) (rfl) ?_
            refine z_ald0 (n := 58) (by decide +kernel) ?_
            refine z_ild2 (n := 59) (by decide +kernel) ?_
            refine z_ild1 (n := 60) (by decide +kernel) ?_
            refine z_v2 (n := 63) (idx := 35) (by decide +kernel) ml_X1_35 (by first | assumption | (simp (disch := omega) only [hu_s, hu_n]; first | assumption | rfl)) rfl (Nat.le_of_ble_eq_true rfl) (by omega) ⟨Nat.le_refl _, Nat.le_refl _⟩ (k_canLie (s := s) (p := u) (pre := pre) 2 (by omega) (by omega) hn hsg H' L) ?_
            refine z_ifb_eq_f (n := 66) (off := 36) (tgt := 99) (by decide +kernel) (co) ?_
            refine z_ald0 (n := 67) (by decide +kernel) ?_
            refine z_getf (n := 70) (idx := 11) (by decide +kernel) fl_X1_11 (by first | assumption | (simp (disch := omega) only [hu_s, hu_n]; first | assumption | rfl)) (by rfl) ?_
            refine z_ild1 (n := 71) (by decide +kernel) ?_
            refine z_ild2 (n := 72) (by decide +kernel) ?_
            refine z_iast (n := 73) (by decide +kernel) (by first | assumption | (simp (disch := omega) only [hu_s, hu_n]; first | assumption | rfl)) (by first | assumption | exact ix_nI (by omega) (by omega)) ?_
            refine z_ald0 (n := 74) (by decide +kernel) ?_
            refine z_getf (n := 77) (idx := 15) (by decide +kernel) fl_X1_15 (by first | assumption | (simp (disch := omega) only [hu_s, hu_n]; first | assumption | rfl)) (by rfl) ?_
            refine z_ild2 (n := 78) (by decide +kernel) ?_
            refine z_ild1 (n := 79) (by decide +kernel) ?_
            refine z_iast (n := 80) (by decide +kernel) (by first | assumption | (simp (disch := omega) only [hu_s, hu_n]; first | assumption | rfl)) (by first | assumption | exact ix_nI (by omega) (by omega)) ?_
            refine z_ald0 (n := 81) (by decide +kernel) ?_
            refine z_ild1 (n := 82) (by decide +kernel) ?_
            refine z_iconst (n := 83) (q := 1) (v := 1) (by decide +kernel) ?_
            refine z_iadd (n := 84) (by decide +kernel) ?_
            refine z_top (nI_1 _) ?_
            refine z_g1 (n := 87) (idx := 31) (by decide +kernel) ml_X1_31 (by first | assumption | (simp (disch := omega) only [hu_s, hu_n]; first | assumption | rfl)) rfl (Nat.le_of_ble_eq_true rfl) (by omega) ⟨Nat.le_refl _, Nat.le_refl _⟩ (cv) (fun x84 h84 q84 => ?_)
            skip
            cases x84 with
            | true =>
              refine z_ifb_eq_f (n := 90) (off := 5) (tgt := 92) (by decide +kernel) (rfl) ?_
              refine z_iconst (n := 91) (q := 1) (v := 1) (by decide +kernel) ?_
              first | refine z_zr1 (by decide +kernel) rfl (Nat.le_refl _) ?_ | refine z_zr0 (by decide +kernel) rfl (Nat.le_refl _) ?_ | refine z_zrb (by decide +kernel) rfl (Nat.le_refl _) ?_
              exact ⟨true, rfl, pPo_app hls (by rw [eb]; exact pPo_t (pPo_fr (frm_tr F0 (fun j hj => by simp (disch := omega) only [hu_n])) q84))⟩
            | false =>
              obtain ⟨y1, pI', lO', fd', ⟨g0, g1, g2, g3⟩, y3, -⟩ := q84
              obtain ⟨rfl, y4, y5⟩ := y3 rfl
              refine z_ifb_eq_t (n := 90) (off := 5) (tgt := 92) (by decide +kernel) (rfl) ?_
              refine z_ald0 (n := 93) (by decide +kernel) ?_
              refine z_getf (n := 96) (idx := 15) (by decide +kernel) fl_X1_15 (by first | assumption | (simp (disch := omega) only [hu_s, hu_n]; first | assumption | rfl)) (by rfl) ?_
              refine z_ild2 (n := 97) (by decide +kernel) ?_
              refine z_iconst (n := 98) (q := -1) (v := -1) (by decide +kernel) ?_
              refine z_iast (n := 99) (by decide +kernel) (by first | assumption | (simp (disch := omega) only [hu_s, hu_n]; first | assumption | rfl)) (by first | assumption | exact ix_nI (by omega) (by omega)) ?_
              refine z_inc2 (n := 102) (q := 1) (by decide +kernel) rfl (nI_1 _) ?_
              refine z_goto (n := 105) (off := -63) (tgt := 39) (by decide +kernel) ?_
              skip
              rw [← List.append_assoc] at hf ⊢
              have ll : (ls ++ B u).length = ls.length + (lvX n s k (pre ++ [u])).length := by rw [List.length_append, eb]
              refine ihm (u + 1) (by omega) (ls ++ B u) _ pI' (upd lO' u (-1)) (frm_tr (frm_tr (frm_tr F0 (fun j hj => by simp (disch := omega) only [hu_n])) y1) (fun j hj => hu_n (by omega))) hf ⟨by rw [ll, ← Nat.add_assoc]; exact (by simp (disch := omega) only [hTn, hCr, hFl, hu_s, hu_n]; first | done | assumption | rfl), (by simp (disch := omega) only [hTn, hCr, hFl, hu_s, hu_n]; first | done | assumption | rfl), (by simp (disch := omega) only [hTn, hCr, hFl, hu_s, hu_n]; first | done | assumption | rfl), (by simp (disch := omega) only [hTn, hCr, hFl, hu_s, hu_n]; first | done | assumption | rfl)⟩ (pil_pop y4) ?_
              intro j hj
              rw [ll] at hj
              by_cases c : j < ls.length
              · exact hls j c
              · have := y5 (j - ls.length) (by omega)
                rw [show f + ls.length + (j - ls.length) = f + j by omega] at this
                exact this
          · have co' := Bool.eq_false_iff.mpr co
            refine z_ild2 (n := 40) (by decide +kernel) ?_
            refine z_ald0 (n := 41) (by decide +kernel) ?_
            refine z_getf (n := 44) (idx := 21) (by decide +kernel) fl_X1_21 (by first | assumption | (simp (disch := omega) only [hu_s, hu_n]; first | assumption | rfl)) (by rfl) ?_
            refine z_icmp_ge_f (n := 47) (off := 61) (tgt := 105) (by decide +kernel) (nI_ge (by omega) (by omega)) ?_
            refine z_ald0 (n := 48) (by decide +kernel) ?_
            refine z_getf (n := 51) (idx := 15) (by decide +kernel) fl_X1_15 (by first | assumption | (simp (disch := omega) only [hu_s, hu_n]; first | assumption | rfl)) (by rfl) ?_
            refine z_ild2 (n := 52) (by decide +kernel) ?_
            refine z_iald (n := 53) (by decide +kernel) (by first | assumption | (simp (disch := omega) only [hu_s, hu_n]; first | assumption | rfl)) (by first | assumption | exact ix_nI (by omega) (by omega)) ?_
            refine z_top (q2 ci) ?_
            refine z_iconst (n := 54) (q := -1) (v := -1) (by decide +kernel) ?_
            refine z_icmp_ne_f (n := 57) (off := 45) (tgt := 99) (by decide +kernel) (rfl) ?_
            refine z_ald0 (n := 58) (by decide +kernel) ?_
            refine z_ild2 (n := 59) (by decide +kernel) ?_
            refine z_ild1 (n := 60) (by decide +kernel) ?_
            refine z_v2 (n := 63) (idx := 35) (by decide +kernel) ml_X1_35 (by first | assumption | (simp (disch := omega) only [hu_s, hu_n]; first | assumption | rfl)) rfl (Nat.le_of_ble_eq_true rfl) (by omega) ⟨Nat.le_refl _, Nat.le_refl _⟩ (k_canLie (s := s) (p := u) (pre := pre) 2 (by omega) (by omega) hn hsg H' L) ?_
            refine z_ifb_eq_t (n := 66) (off := 36) (tgt := 99) (by decide +kernel) (co') ?_
            exact nx (by rw [eB, if_neg ci, if_neg co])
    have H' := H
    obtain ⟨h0, h1, h2, h3⟩ := H
    refine ev_2_1 rfl rfl (by decide +kernel) (by decide +kernel) ?_
    refine z_ild1 (n := 1) (by decide +kernel) ?_
    refine z_ald0 (n := 2) (by decide +kernel) ?_
    refine z_getf (n := 5) (idx := 21) (by decide +kernel) fl_X1_21 (by assumption) (by rfl) ?_
    refine z_icmp_lt_t (n := 8) (off := 32) (tgt := 37) (by decide +kernel) (nI_lt (by omega) (by omega)) ?_
    refine z_iconst (n := 38) (q := 0) (v := 0) (by decide +kernel) ?_
    refine z_ist2 (n := 39) (by decide +kernel) rfl ?_
    skip
    rw [lvX, hB] at hf ⊢
    have q := lp n 0 (by omega) [] h pI lO frm_rf (by rw [List.nil_append]; exact hf) H' L (fun j hj => absurd hj (Nat.not_lt_zero _))
    rw [List.nil_append] at q
    exact q
