/-! CreasedPaperModel: ways -/
theorem m_ways {G : mG} {h : mH} {Q : Nat} {N : Int32} {m : Nat → Int32} {wd : Int64} {o li : Nat → Int32} {x t i l : Int32} (d : Nat) (hd : 1 ≤ d) (hQ : h Q = oMod Q N m wd) (hO : h (Q + 11) = aI 8 o) (hL : h (Q + 12) = aI 8 li) : EV G m_X11_ways d 0 0 [.ref Q, .int x, .int t, .int i, .int l] h (fun r h' => r = some (.int (wayC x t i l)) ∧ (wyF h h' Q ∧ ∃ o' li', wyC h' Q N m wd o' li')) := by
  have H0 : wyC h Q N m wd o li := ⟨hQ, hO, hL⟩
  refine ev_5_3 rfl rfl rfl rfl rfl (by decide +kernel) (by decide +kernel) ?_
  by_cases c1 : win x 2 8 = true
  · obtain ⟨n, hn2, hn, rfl⟩ := win_28 (lo := 2) (hi := 8) c1 (by omega) (by omega)
    obtain ⟨n', rfl⟩ : ∃ n', n = n' + 1 := ⟨n - 1, by omega⟩
    have p7 : 3 ^ n' ≤ 2187 := Nat.le_trans (Nat.pow_le_pow_right (by omega) (show n' ≤ 7 by omega)) (by decide)
    have p0 : 0 < 3 ^ n' := Nat.pow_pos (by omega)
    have ew : wayC (nI (n' + 1)) t i l = if (!decide (t < 0) && decide (-1 ≤ i)) = true then wayN (lvX (n' + 1) (dg3 t.toNatClampNeg) (n' + 1) []) (n' + 1) t.toNatClampNeg i l else -1 := by
      unfold wayC
      rw [c1, Bool.true_and, nI_clamp (by omega)]
    -- behind the tests of i and layer
    have f33 : -1 ≤ i → (i = -1 ∨ win l 0 (nI n') = true) → Z G m_X11_ways d 0 0 0 0 33 [some (.ref Q), some (.int (nI (n' + 1))), some (.int t), some (.int i), some (.int l), none, none, none] [] h (fun r h' => r = some (.int (wayC (nI (n' + 1)) t i l)) ∧ (wyF h h' Q ∧ ∃ o' li', wyC h' Q N m wd o' li')) := by
      intro hi hil
      rw [ew, decide_eq_true hi, Bool.and_true]
      have f57 : Z G m_X11_ways d 0 0 0 0 57 [some (.ref Q), some (.int (nI (n' + 1))), some (.int t), some (.int i), some (.int l), some (.int (nI (3 ^ n'))), none, none] [] h (fun r h' => r = some (.int (if (!decide (t < 0)) = true then wayN (lvX (n' + 1) (dg3 t.toNatClampNeg) (n' + 1) []) (n' + 1) t.toNatClampNeg i l else -1)) ∧ (wyF h h' Q ∧ ∃ o' li', wyC h' Q N m wd o' li')) := by
        have ep : nI (3 ^ n') - 1 = nI (3 ^ n' - 1) := pk_sub (b := 1) (by omega)
        by_cases ct : win t 0 (nI (3 ^ n' - 1)) = true
        · obtain ⟨t9, _, ht9, rfl⟩ := win_28 (lo := 0) (hi := 3 ^ n' - 1) ct (by omega) (by omega)
          have t0 : t9 / 3 ^ n' = 0 := Nat.div_eq_of_lt (by omega)
          rw [decide_eq_false (nI_pos (by omega)), Bool.not_false, if_pos rfl, nI_clamp (by omega)]
          unfold wayN
          rw [Nat.add_sub_cancel, if_pos t0]
          have f95 : ∀ o', (∀ j, j < n' + 1 → o' j = nI j) → Z G m_X11_ways d 0 0 0 0 95 [some (.ref Q), some (.int (nI (n' + 1))), some (.int (nI t9)), some (.int i), some (.int l), none, none, none] [] (hu h (Q + 11) (aI 8 o')) (fun r h' => r = some (.int (if i = -1 then nI (lvX (n' + 1) (dg3 t9) (n' + 1) []).length else if win l 0 (nI n') = true then (if i.toNatClampNeg < (lvX (n' + 1) (dg3 t9) (n' + 1) []).length then nI (((lvX (n' + 1) (dg3 t9) (n' + 1) []).getD i.toNatClampNeg []).getD l.toNatClampNeg 0) else -1) else -1)) ∧ (wyF h h' Q ∧ ∃ o' li', wyC h' Q N m wd o' li')) := by
            intro o' ho'
            have b31 := lvX_31 (s := dg3 t9) hn []
            refine z_iconst (n := 96) (q := 0) (v := 0) (by decide +kernel) ?_
            refine z_ist6 (n := 98) (by decide +kernel) rfl ?_
            refine z_iconst (n := 99) (q := 1) (v := 1) (by decide +kernel) ?_
            refine z_ist7 (n := 101) (by decide +kernel) rfl ?_
            skip
            refine z_wk (lv' := [some (.ref Q), some (.int (nI (n' + 1))), some (.int (nI t9)), some (.int i), some (.int l), none, some (.int (nI 0)), some (.int 1)]) (by simp [wk]; rfl) ?_
            refine m_wE (n := n' + 1) (t := t9) (i := i) (lay := l) d hd hn2 hn (by omega) (fun z => ?_) (n' + 1) [] (List.range (n' + 1)) _ (rst_nil _).symm (by rw [List.length_range]) (by rw [List.nil_append]) (wy_lv hn2).symm 0 _ o' li (by omega) ⟨(hu_n (by omega)).trans hQ, hu_s, (hu_n (by omega)).trans hL⟩ ?_ ?_ ?_
            · obtain ⟨y, _, hy, rfl⟩ := win_28 (lo := 0) (hi := n') (hil.resolve_left z) (by omega) (by omega)
              exact ⟨y, by omega, rfl⟩
            · intro j hj
              rw [List.nil_append, List.length_range] at hj
              rw [List.nil_append, gtD (by rw [List.length_range]; exact hj), List.getElem_range]
              exact ho' j hj
            · intro h' o2 li2 z1 z2 z3 z4
              rw [List.nil_append] at z4
              obtain ⟨g0, g1, g2⟩ := z3
              have F : wyF h h' Q := fun j p q => (z2 j p q).trans (hu_n p)
              have gd : ∀ j, j < n' + 1 → ((List.range (n' + 1)).reverse).getD j 0 = n' - j := by
                intro j hj
                rw [gD_rev (by rw [List.length_range]; exact hj), List.length_range, gtD (by rw [List.length_range]; omega), List.getElem_range]
                omega
              by_cases ci : i = -1
              · rw [if_pos ci]
                refine z_ald0 (n := 133) (by decide +kernel) ?_
                refine z_ild1 (n := 134) (by decide +kernel) ?_
                refine z_v1 (n := 137) (idx := 231) (by decide +kernel) ml_X11_231 (by assumption) rfl (Nat.le_of_ble_eq_true rfl) (by omega) ⟨Nat.le_refl _, Nat.le_refl _⟩ (m_next_f (n := n' + 1) (V := fun j => n' - j) 0 hn2 hn g0 g1 (fun j hj => by rw [z4 j (by rw [List.length_reverse, List.length_range]; exact hj), gd j hj]) (fun j hj => by omega) (fun k hk => by omega)) ?_
                refine z_ist7 (n := 139) (by decide +kernel) rfl ?_
                refine z_goto (n := 142) (off := -38) (tgt := 101) (by decide +kernel) ?_
                refine z_ild7 (n := 103) (by decide +kernel) ?_
                refine z_if_eq_t (n := 106) (off := 39) (tgt := 142) (by decide +kernel) (rfl) ?_
                refine z_ild3 (n := 143) (by decide +kernel) ?_
                refine z_iconst (n := 144) (q := -1) (v := -1) (by decide +kernel) ?_
                refine z_icmp_ne_f (n := 147) (off := 8) (tgt := 152) (by decide +kernel) (ci) ?_
                refine z_ild6 (n := 149) (by decide +kernel) ?_
                refine z_goto (n := 152) (off := 4) (tgt := 153) (by decide +kernel) ?_
                refine z_iret (by decide +kernel) rfl (Nat.le_refl _) ?_
                exact ⟨by rw [Nat.zero_add], F, o2, li2, g0, g1, g2⟩
              · rw [if_neg ci, if_pos (hil.resolve_left ci)]
                have hi0 : ¬ i < 0 := fun z => ci (Int32.le_antisymm (i_ltm z) hi)
                obtain ⟨i9, hi9, rfl⟩ := nI_of hi0
                rw [nI_clamp hi9, if_neg (fun z => z1 i9 z (by rw [Nat.zero_add]))]
                refine z_ald0 (n := 133) (by decide +kernel) ?_
                refine z_ild1 (n := 134) (by decide +kernel) ?_
                refine z_v1 (n := 137) (idx := 231) (by decide +kernel) ml_X11_231 (by assumption) rfl (Nat.le_of_ble_eq_true rfl) (by omega) ⟨Nat.le_refl _, Nat.le_refl _⟩ (m_next_f (n := n' + 1) (V := fun j => n' - j) 0 hn2 hn g0 g1 (fun j hj => by rw [z4 j (by rw [List.length_reverse, List.length_range]; exact hj), gd j hj]) (fun j hj => by omega) (fun k hk => by omega)) ?_
                refine z_ist7 (n := 139) (by decide +kernel) rfl ?_
                refine z_goto (n := 142) (off := -38) (tgt := 101) (by decide +kernel) ?_
                refine z_ild7 (n := 103) (by decide +kernel) ?_
                refine z_if_eq_t (n := 106) (off := 39) (tgt := 142) (by decide +kernel) (rfl) ?_
                refine z_ild3 (n := 143) (by decide +kernel) ?_
                refine z_iconst (n := 144) (q := -1) (v := -1) (by decide +kernel) ?_
                refine z_icmp_ne_t (n := 147) (off := 8) (tgt := 152) (by decide +kernel) (ci) ?_
                refine z_iconst (n := 153) (q := -1) (v := -1) (by decide +kernel) ?_
                refine z_iret (by decide +kernel) rfl (Nat.le_refl _) ?_
                exact ⟨rfl, F, o2, li2, g0, g1, g2⟩
            · intro j h' o2 li2 z1 z2 z3 z4
              rw [Nat.zero_add] at z2
              have F : wyF h h' Q := fun j p q => (z3 j p q).trans (hu_n p)
              have ci : ¬ i = -1 := fun z => absurd ((z2.symm.trans z) ▸ nI_pos' (n := j) (by omega) : (0 : Int32) ≤ -1) (by decide)
              refine ⟨?_, F, o2, li2, z4⟩
              rw [if_neg ci, if_pos (hil.resolve_left ci), z2, nI_clamp (by omega), if_pos z1]
          have l7 : ∀ w k, k + w = n' + 1 → ∀ o', (∀ j, j < k → o' j = nI j) → Z G m_X11_ways d 0 0 0 0 74 [some (.ref Q), some (.int (nI (n' + 1))), some (.int (nI t9)), some (.int i), some (.int l), none, some (.int (nI k)), none] [] (hu h (Q + 11) (aI 8 o')) (fun r h' => r = some (.int (if i = -1 then nI (lvX (n' + 1) (dg3 t9) (n' + 1) []).length else if win l 0 (nI n') = true then (if i.toNatClampNeg < (lvX (n' + 1) (dg3 t9) (n' + 1) []).length then nI (((lvX (n' + 1) (dg3 t9) (n' + 1) []).getD i.toNatClampNeg []).getD l.toNatClampNeg 0) else -1) else -1)) ∧ (wyF h h' Q ∧ ∃ o' li', wyC h' Q N m wd o' li')) := by
            intro w
            induction w with
            | zero =>
              intro k hk o' ho'
              refine z_ild6 (n := 76) (by decide +kernel) ?_
              refine z_ild1 (n := 77) (by decide +kernel) ?_
              refine z_icmp_ge_t (n := 80) (off := 18) (tgt := 95) (by decide +kernel) (by rw [show k = n' + 1 by omega]; exact Int32.le_refl _) ?_
              exact z_wk (lv' := [some (.ref Q), some (.int (nI (n' + 1))), some (.int (nI t9)), some (.int i), some (.int l), none, none, none]) (by simp [wk]) (f95 o' (fun j hj => ho' j (by omega)))
            | succ w ih =>
              intro k hk o' ho'
              have k8 : k < 8 := by omega
              refine z_ild6 (n := 76) (by decide +kernel) ?_
              refine z_ild1 (n := 77) (by decide +kernel) ?_
              refine z_icmp_ge_f (n := 80) (off := 18) (tgt := 95) (by decide +kernel) (nI_ge (by omega) (by omega)) ?_
              refine z_ald0 (n := 81) (by decide +kernel) ?_
              refine z_getf (n := 84) (idx := 50) (by decide +kernel) fl_X11_50 (by first | assumption | (simp (disch := omega) only [hu_s, hu_n]; first | assumption | rfl)) (by rfl) ?_
              refine z_ild6 (n := 86) (by decide +kernel) ?_
              refine z_ild6 (n := 88) (by decide +kernel) ?_
              refine z_iast (n := 89) (by decide +kernel) (by first | assumption | (simp (disch := omega) only [hu_s, hu_n]; first | assumption | rfl)) (by first | assumption | exact ix_nI (by omega) (by omega)) ?_
              refine z_inc6 (n := 92) (q := 1) (by decide +kernel) rfl (nI_1 _) ?_
              refine z_goto (n := 95) (off := -18) (tgt := 74) (by decide +kernel) ?_
              skip
              rw [hu_hu]
              refine ih (k + 1) (by omega) _ (fun j hj => ?_)
              by_cases c : j = k
              · subst c; exact upd_ss
              · rw [upd_nn c]; exact ho' j (by omega)
          refine z_ild2 (n := 58) (by decide +kernel) ?_
          refine z_iconst (n := 59) (q := 0) (v := 0) (by decide +kernel) ?_
          refine z_ild5 (n := 61) (by decide +kernel) ?_
          refine z_iconst (n := 62) (q := 1) (v := 1) (by decide +kernel) ?_
          refine z_isub (n := 63) (by decide +kernel) ?_
          refine z_top ep ?_
          refine z_s3 (n := 66) (idx := 81) (by decide +kernel) ml_X11_81 (Nat.le_of_ble_eq_true rfl) (by omega) ⟨Nat.le_refl _, Nat.le_refl _⟩ (m_isIn 0) ?_
          refine z_ifb_ne_t (n := 69) (off := 5) (tgt := 71) (by decide +kernel) (ct) ?_
          refine z_iconst (n := 72) (q := 0) (v := 0) (by decide +kernel) ?_
          refine z_ist6 (n := 74) (by decide +kernel) rfl ?_
          skip
          have q := l7 (n' + 1) 0 (by omega) o (fun j hj => absurd hj (Nat.not_lt_zero _))
          rw [show hu h (Q + 11) (aI 8 o) = h from by rw [← hO]; exact hu_same] at q
          exact z_wk (lv' := [some (.ref Q), some (.int (nI (n' + 1))), some (.int (nI t9)), some (.int i), some (.int l), none, some (.int (nI 0)), none]) (by simp [wk]; rfl) q
        · have ez : (if (!decide (t < 0)) = true then wayN (lvX (n' + 1) (dg3 t.toNatClampNeg) (n' + 1) []) (n' + 1) t.toNatClampNeg i l else -1) = -1 := by
            by_cases ct0 : t < 0
            · rw [decide_eq_true ct0]; rfl
            · rw [decide_eq_false ct0, Bool.not_false, if_pos rfl]
              obtain ⟨t9, ht9, rfl⟩ := nI_of ct0
              rw [nI_clamp ht9]
              unfold wayN
              rw [Nat.add_sub_cancel, if_neg]
              intro z
              have : t9 < 3 ^ n' := (Nat.div_eq_zero_iff.mp z).resolve_left (by omega)
              refine ct ?_
              unfold win
              rw [decide_eq_false (nI_pos ht9), decide_eq_false (nI_nlt (by omega) (by omega))]
              rfl
          rw [ez]
          refine z_ild2 (n := 58) (by decide +kernel) ?_
          refine z_iconst (n := 59) (q := 0) (v := 0) (by decide +kernel) ?_
          refine z_ild5 (n := 61) (by decide +kernel) ?_
          refine z_iconst (n := 62) (q := 1) (v := 1) (by decide +kernel) ?_
          refine z_isub (n := 63) (by decide +kernel) ?_
          refine z_top ep ?_
          refine z_s3 (n := 66) (idx := 81) (by decide +kernel) ml_X11_81 (Nat.le_of_ble_eq_true rfl) (by omega) ⟨Nat.le_refl _, Nat.le_refl _⟩ (m_isIn 0) ?_
          refine z_ifb_ne_f (n := 69) (off := 5) (tgt := 71) (by decide +kernel) (Bool.eq_false_iff.mpr ct) ?_
          refine z_iconst (n := 70) (q := -1) (v := -1) (by decide +kernel) ?_
          refine z_iret (by decide +kernel) rfl (Nat.le_refl _) ?_
          exact ⟨rfl, wyF_rf, o, li, H0⟩
      have l3 : ∀ w k, k + w = n' → Z G m_X11_ways d 0 0 0 0 39 [some (.ref Q), some (.int (nI (n' + 1))), some (.int t), some (.int i), some (.int l), some (.int (nI (3 ^ k))), some (.int (nI (k + 1))), none] [] h (fun r h' => r = some (.int (if (!decide (t < 0)) = true then wayN (lvX (n' + 1) (dg3 t.toNatClampNeg) (n' + 1) []) (n' + 1) t.toNatClampNeg i l else -1)) ∧ (wyF h h' Q ∧ ∃ o' li', wyC h' Q N m wd o' li')) := by
        intro w
        induction w with
        | zero =>
          intro k hk
          have e : k = n' := by omega
          subst e
          refine z_ild6 (n := 41) (by decide +kernel) ?_
          refine z_ild1 (n := 42) (by decide +kernel) ?_
          refine z_icmp_ge_t (n := 45) (off := 15) (tgt := 57) (by decide +kernel) (Int32.le_refl _) ?_
          exact z_wk (lv' := [some (.ref Q), some (.int (nI (k + 1))), some (.int t), some (.int i), some (.int l), some (.int (nI (3 ^ k))), none, none]) (by simp [wk]) f57
        | succ w ih =>
          intro k hk
          refine z_ild6 (n := 41) (by decide +kernel) ?_
          refine z_ild1 (n := 42) (by decide +kernel) ?_
          refine z_icmp_ge_f (n := 45) (off := 15) (tgt := 57) (by decide +kernel) (nI_ge (by omega) (by omega)) ?_
          refine z_ild5 (n := 47) (by decide +kernel) ?_
          refine z_iconst (n := 48) (q := 3) (v := 3) (by decide +kernel) ?_
          refine z_imul (n := 49) (by decide +kernel) ?_
          refine z_top (show nI (3 ^ k) * 3 = nI (3 ^ (k + 1)) from by rw [show (3 : Int32) = nI 3 from rfl, pk_mul, Nat.pow_succ]) ?_
          refine z_ist5 (n := 51) (by decide +kernel) rfl ?_
          refine z_inc6 (n := 54) (q := 1) (by decide +kernel) rfl (nI_1 _) ?_
          refine z_goto (n := 57) (off := -15) (tgt := 39) (by decide +kernel) ?_
          exact ih (k + 1) (by omega)
      refine z_iconst (n := 34) (q := 1) (v := 1) (by decide +kernel) ?_
      refine z_ist5 (n := 36) (by decide +kernel) rfl ?_
      refine z_iconst (n := 37) (q := 1) (v := 1) (by decide +kernel) ?_
      refine z_ist6 (n := 39) (by decide +kernel) rfl ?_
      exact l3 n' 0 (by omega)
    by_cases c2 : i < -1
    · have e9 : wayC (nI (n' + 1)) t i l = -1 := by
        rw [ew, decide_eq_false (Int32.not_le.mpr c2), Bool.and_false]
        rfl
      rw [e9]
      refine z_ild1 (n := 1) (by decide +kernel) ?_
      refine z_iconst (n := 2) (q := 2) (v := 2) (by decide +kernel) ?_
      refine z_bipush (n := 4) (q := 8) (v := 8) (by decide +kernel) ?_
      refine z_s3 (n := 7) (idx := 81) (by decide +kernel) ml_X11_81 (Nat.le_of_ble_eq_true rfl) (by omega) ⟨Nat.le_refl _, Nat.le_refl _⟩ (m_isIn 0) ?_
      refine z_ifb_eq_f (n := 10) (off := 24) (tgt := 31) (by decide +kernel) (c1) ?_
      refine z_ild3 (n := 11) (by decide +kernel) ?_
      refine z_iconst (n := 12) (q := -1) (v := -1) (by decide +kernel) ?_
      refine z_icmp_lt_t (n := 15) (off := 19) (tgt := 31) (by decide +kernel) (c2) ?_
      refine z_iconst (n := 32) (q := -1) (v := -1) (by decide +kernel) ?_
      refine z_iret (by decide +kernel) rfl (Nat.le_refl _) ?_
      exact ⟨rfl, wyF_rf, o, li, H0⟩
    · by_cases c3 : i < 0
      · refine z_ild1 (n := 1) (by decide +kernel) ?_
        refine z_iconst (n := 2) (q := 2) (v := 2) (by decide +kernel) ?_
        refine z_bipush (n := 4) (q := 8) (v := 8) (by decide +kernel) ?_
        refine z_s3 (n := 7) (idx := 81) (by decide +kernel) ml_X11_81 (Nat.le_of_ble_eq_true rfl) (by omega) ⟨Nat.le_refl _, Nat.le_refl _⟩ (m_isIn 0) ?_
        refine z_ifb_eq_f (n := 10) (off := 24) (tgt := 31) (by decide +kernel) (c1) ?_
        refine z_ild3 (n := 11) (by decide +kernel) ?_
        refine z_iconst (n := 12) (q := -1) (v := -1) (by decide +kernel) ?_
        refine z_icmp_lt_f (n := 15) (off := 19) (tgt := 31) (by decide +kernel) (c2) ?_
        refine z_ild3 (n := 16) (by decide +kernel) ?_
        refine z_if_lt_t (n := 19) (off := 17) (tgt := 33) (by decide +kernel) (c3) ?_
        exact f33 (Int32.not_lt.mp c2) (.inl (Int32.le_antisymm (i_ltm c3) (Int32.not_lt.mp c2)))
      · by_cases c4 : win l 0 (nI n') = true
        · refine z_ild1 (n := 1) (by decide +kernel) ?_
          refine z_iconst (n := 2) (q := 2) (v := 2) (by decide +kernel) ?_
          refine z_bipush (n := 4) (q := 8) (v := 8) (by decide +kernel) ?_
          refine z_s3 (n := 7) (idx := 81) (by decide +kernel) ml_X11_81 (Nat.le_of_ble_eq_true rfl) (by omega) ⟨Nat.le_refl _, Nat.le_refl _⟩ (m_isIn 0) ?_
          refine z_ifb_eq_f (n := 10) (off := 24) (tgt := 31) (by decide +kernel) (c1) ?_
          refine z_ild3 (n := 11) (by decide +kernel) ?_
          refine z_iconst (n := 12) (q := -1) (v := -1) (by decide +kernel) ?_
          refine z_icmp_lt_f (n := 15) (off := 19) (tgt := 31) (by decide +kernel) (c2) ?_
          refine z_ild3 (n := 16) (by decide +kernel) ?_
          refine z_if_lt_f (n := 19) (off := 17) (tgt := 33) (by decide +kernel) (c3) ?_
          refine z_ild4 (n := 21) (by decide +kernel) ?_
          refine z_iconst (n := 22) (q := 0) (v := 0) (by decide +kernel) ?_
          refine z_ild1 (n := 23) (by decide +kernel) ?_
          refine z_iconst (n := 24) (q := 1) (v := 1) (by decide +kernel) ?_
          refine z_isub (n := 25) (by decide +kernel) ?_
          refine z_top (nI_pred _) ?_
          refine z_s3 (n := 28) (idx := 81) (by decide +kernel) ml_X11_81 (Nat.le_of_ble_eq_true rfl) (by omega) ⟨Nat.le_refl _, Nat.le_refl _⟩ (m_isIn 0) ?_
          refine z_ifb_ne_t (n := 31) (off := 5) (tgt := 33) (by decide +kernel) (c4) ?_
          exact f33 (Int32.not_lt.mp c2) (.inr c4)
        · have e9 : wayC (nI (n' + 1)) t i l = -1 := by
            rw [ew]
            have ci : ¬ i = -1 := fun z => c3 (by rw [z]; decide)
            split
            · unfold wayN
              rw [Nat.add_sub_cancel, if_neg ci, if_neg c4]
              split <;> rfl
            · rfl
          rw [e9]
          refine z_ild1 (n := 1) (by decide +kernel) ?_
          refine z_iconst (n := 2) (q := 2) (v := 2) (by decide +kernel) ?_
          refine z_bipush (n := 4) (q := 8) (v := 8) (by decide +kernel) ?_
          refine z_s3 (n := 7) (idx := 81) (by decide +kernel) ml_X11_81 (Nat.le_of_ble_eq_true rfl) (by omega) ⟨Nat.le_refl _, Nat.le_refl _⟩ (m_isIn 0) ?_
          refine z_ifb_eq_f (n := 10) (off := 24) (tgt := 31) (by decide +kernel) (c1) ?_
          refine z_ild3 (n := 11) (by decide +kernel) ?_
          refine z_iconst (n := 12) (q := -1) (v := -1) (by decide +kernel) ?_
          refine z_icmp_lt_f (n := 15) (off := 19) (tgt := 31) (by decide +kernel) (c2) ?_
          refine z_ild3 (n := 16) (by decide +kernel) ?_
          refine z_if_lt_f (n := 19) (off := 17) (tgt := 33) (by decide +kernel) (c3) ?_
          refine z_ild4 (n := 21) (by decide +kernel) ?_
          refine z_iconst (n := 22) (q := 0) (v := 0) (by decide +kernel) ?_
          refine z_ild1 (n := 23) (by decide +kernel) ?_
          refine z_iconst (n := 24) (q := 1) (v := 1) (by decide +kernel) ?_
          refine z_isub (n := 25) (by decide +kernel) ?_
          refine z_top (nI_pred _) ?_
          refine z_s3 (n := 28) (idx := 81) (by decide +kernel) ml_X11_81 (Nat.le_of_ble_eq_true rfl) (by omega) ⟨Nat.le_refl _, Nat.le_refl _⟩ (m_isIn 0) ?_
          refine z_ifb_ne_f (n := 31) (off := 5) (tgt := 33) (by decide +kernel) (Bool.eq_false_iff.mpr c4) ?_
          refine z_iconst (n := 32) (q := -1) (v := -1) (by decide +kernel) ?_
          refine z_iret (by decide +kernel) rfl (Nat.le_refl _) ?_
          exact ⟨rfl, wyF_rf, o, li, H0⟩
  · have c1' := Bool.eq_false_iff.mpr c1
    have e9 : wayC x t i l = -1 := by unfold wayC; rw [c1']; rfl
    rw [e9]
    refine z_ild1 (n := 1) (by decide +kernel) ?_
    refine z_iconst (n := 2) (q := 2) (v := 2) (by decide +kernel) ?_
    refine z_bipush (n := 4) (q := 8) (v := 8) (by decide +kernel) ?_
    refine z_s3 (n := 7) (idx := 81) (by decide +kernel) ml_X11_81 (Nat.le_of_ble_eq_true rfl) (by omega) ⟨Nat.le_refl _, Nat.le_refl _⟩ (m_isIn 0) ?_
    refine z_ifb_eq_t (n := 10) (off := 24) (tgt := 31) (by decide +kernel) (c1') ?_
    refine z_iconst (n := 32) (q := -1) (v := -1) (by decide +kernel) ?_
    refine z_iret (by decide +kernel) rfl (Nat.le_refl _) ?_
    exact ⟨rfl, wyF_rf, o, li, H0⟩
