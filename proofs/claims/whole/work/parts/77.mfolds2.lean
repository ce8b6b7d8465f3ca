/-! CreasedPaperModel: folds -/
theorem m_folds {G : mG} {h : mH} {Q n : Nat} {N : Int32} {m : Nat → Int32} {wd : Int64} {x : Int32} {right : Bool} {st : sS} (d : Nat) (hd : 1 ≤ d) (hn1 : 1 ≤ n) (hn : n ≤ 12) (hx : 0 ≤ x.toInt ∧ x.toInt ≤ 12) (hb : ∀ u, u < n → -200 ≤ (st.1 u).toInt ∧ (st.1 u).toInt ≤ 200) (hQ : h Q = oMod Q N m wd) (H : mlv h Q n st) : EV G m_X11_folds d 0 0 [.ref Q, .int (nI n), .int x, .int (bI right)] h (fun r h' => r = some (.int (bI (lgS n x st))) ∧ (mlF h h' Q ∧ (lgS n x st = true → mlv h' Q n (stS x right st)) ∧ (lgS n x st = false → mlv h' Q n st))) := by
  have H' := H
  obtain ⟨sp, up, si, h13, h14, h15, ha, hs⟩ := H
  obtain ⟨n', rfl⟩ : ∃ n', n = n' + 1 := ⟨n - 1, by omega⟩
  have eL : lgS (n' + 1) x st = (lwF sp x (n' + 1) && hwF sp x (n' + 1)) := by
    rw [lwF_ag (n' + 1) (fun u hu9 => (ha u hu9).1), hwF_ag (n' + 1) (fun u hu9 => (ha u hu9).1), lwF_mn, hwF_mx]
    rfl
  -- the last loop
  have l3 : ∀ w u, u + w = n' + 1 → ∀ hX, mlF h hX Q → hX (Q + 13) = aI 12 (tPl sp x right u) → (∃ u9, hX (Q + 14) = aI 12 u9 ∧ (∀ v, v < n' + 1 → u9 v = bI (if v < u ∧ mvs (st.1 v) x right = true then !st.2.1 v else st.2.1 v))) → (∃ si9, hX (Q + 15) = aI 12 si9 ∧ ∀ p, p + 1 < n' + 1 → si9 (p + 1) = nI ((stS x right st).2.2 (p + 1))) → lgS (n' + 1) x st = true → Z G m_X11_folds d 0 0 0 0 169 [some (.ref Q), some (.int (nI (n' + 1))), some (.int x), some (.int (bI right)), none, none, some (.int (nI u))] [] hX (fun r h' => r = some (.int (bI (lgS (n' + 1) x st))) ∧ (mlF h h' Q ∧ (lgS (n' + 1) x st = true → mlv h' Q (n' + 1) (stS x right st)) ∧ (lgS (n' + 1) x st = false → mlv h' Q (n' + 1) st))) := by
    intro w
    induction w with
    | zero =>
      intro u hu9 hX F a1 a2 a3 hL
      obtain ⟨u9, b1, b2⟩ := a2
      obtain ⟨si9, b3, b4⟩ := a3
      rw [hL]
      refine z_ild6 (n := 171) (by decide +kernel) ?_
      refine z_ild1 (n := 172) (by decide +kernel) ?_
      refine z_icmp_ge_t (n := 175) (off := 63) (tgt := 235) (by decide +kernel) (by rw [show u = n' + 1 by omega]; exact Int32.le_refl _) ?_
      refine z_iconst (n := 236) (q := 1) (v := 1) (by decide +kernel) ?_
      first | refine z_zr1 (by decide +kernel) rfl (Nat.le_refl _) ?_ | refine z_zr0 (by decide +kernel) rfl (Nat.le_refl _) ?_ | refine z_zrb (by decide +kernel) rfl (Nat.le_refl _) ?_
      exact ⟨rfl, F, fun _ => ⟨_, _, _, a1, b1, b3, fun v hv => ⟨by unfold tPl; rw [(ha v hv).1]; show _ = if mvs (st.1 v) x right = true then 2 * x - 1 - st.1 v else st.1 v; simp only [show v < u by omega, true_and], by rw [b2 v hv]; show _ = bI (if mvs (st.1 v) x right = true then !st.2.1 v else st.2.1 v); simp only [show v < u by omega, true_and]⟩, b4⟩, fun z => Bool.noConfusion z⟩
    | succ w ih =>
      intro u hu9 hX F a1 a2 a3 hL
      obtain ⟨u9, b1, b2⟩ := a2
      have g0 := (F Q (by omega) (by omega) (by omega)).trans hQ
      have u12 : u < 12 := by omega
      have eu := b2 u (by omega)
      rw [if_neg (by omega)] at eu
      have es := (ha u (by omega)).1
      have ep : tPl sp x right u u = sp u := tPl_u sp x right u
      by_cases c : mvs (sp u) x right = true
      · have cs : mvs (st.1 u) x right = true := by rw [← es]; exact c
        refine z_ild6 (n := 171) (by decide +kernel) ?_
        refine z_ild1 (n := 172) (by decide +kernel) ?_
        refine z_icmp_ge_f (n := 175) (off := 63) (tgt := 235) (by decide +kernel) (nI_ge (by omega) (by omega)) ?_
        refine z_ald0 (n := 176) (by decide +kernel) ?_
        refine z_getf (n := 179) (idx := 56) (by decide +kernel) fl_X11_56 (by first | assumption | (simp (disch := omega) only [hu_s, hu_n]; first | assumption | rfl)) (by rfl) ?_
        refine z_ild6 (n := 181) (by decide +kernel) ?_
        refine z_iald (n := 182) (by decide +kernel) (by first | assumption | (simp (disch := omega) only [hu_s, hu_n]; first | assumption | rfl)) (by first | assumption | exact ix_nI (by omega) (by omega)) ?_
        refine z_top ep ?_
        refine z_ild2 (n := 183) (by decide +kernel) ?_
        refine z_ild3 (n := 184) (by decide +kernel) ?_
        refine z_s3 (n := 187) (idx := 89) (by decide +kernel) ml_X11_89 (Nat.le_of_ble_eq_true rfl) (by omega) ⟨Nat.le_refl _, Nat.le_refl _⟩ (m_moves 0) ?_
        refine z_ifb_ne_t (n := 190) (off := 6) (tgt := 193) (by decide +kernel) (c) ?_
        refine z_ald0 (n := 194) (by decide +kernel) ?_
        refine z_getf (n := 197) (idx := 56) (by decide +kernel) fl_X11_56 (by first | assumption | (simp (disch := omega) only [hu_s, hu_n]; first | assumption | rfl)) (by rfl) ?_
        refine z_ild6 (n := 199) (by decide +kernel) ?_
        refine z_iconst (n := 200) (q := 2) (v := 2) (by decide +kernel) ?_
        refine z_ild2 (n := 201) (by decide +kernel) ?_
        refine z_imul (n := 202) (by decide +kernel) ?_
        refine z_iconst (n := 203) (q := 1) (v := 1) (by decide +kernel) ?_
        refine z_isub (n := 204) (by decide +kernel) ?_
        refine z_ald0 (n := 205) (by decide +kernel) ?_
        refine z_getf (n := 208) (idx := 56) (by decide +kernel) fl_X11_56 (by first | assumption | (simp (disch := omega) only [hu_s, hu_n]; first | assumption | rfl)) (by rfl) ?_
        refine z_ild6 (n := 210) (by decide +kernel) ?_
        refine z_iald (n := 211) (by decide +kernel) (by first | assumption | (simp (disch := omega) only [hu_s, hu_n]; first | assumption | rfl)) (by first | assumption | exact ix_nI (by omega) (by omega)) ?_
        refine z_top ep ?_
        refine z_isub (n := 212) (by decide +kernel) ?_
        refine z_iast (n := 213) (by decide +kernel) (by first | assumption | (simp (disch := omega) only [hu_s, hu_n]; first | assumption | rfl)) (by first | assumption | exact ix_nI (by omega) (by omega)) ?_
        refine z_ald0 (n := 214) (by decide +kernel) ?_
        refine z_getf (n := 217) (idx := 59) (by decide +kernel) fl_X11_59 (by first | assumption | (simp (disch := omega) only [hu_s, hu_n]; first | assumption | rfl)) (by rfl) ?_
        refine z_ild6 (n := 219) (by decide +kernel) ?_
        refine z_iconst (n := 220) (q := 1) (v := 1) (by decide +kernel) ?_
        refine z_ald0 (n := 221) (by decide +kernel) ?_
        refine z_getf (n := 224) (idx := 59) (by decide +kernel) fl_X11_59 (by first | assumption | (simp (disch := omega) only [hu_s, hu_n]; first | assumption | rfl)) (by rfl) ?_
        refine z_ild6 (n := 226) (by decide +kernel) ?_
        refine z_iald (n := 227) (by decide +kernel) (by first | assumption | (simp (disch := omega) only [hu_s, hu_n]; first | assumption | rfl)) (by first | assumption | exact ix_nI (by omega) (by omega)) ?_
        refine z_top eu ?_
        refine z_isub (n := 228) (by decide +kernel) ?_
        refine z_top (bI_not _) ?_
        refine z_iast (n := 229) (by decide +kernel) (by first | assumption | (simp (disch := omega) only [hu_s, hu_n]; first | assumption | rfl)) (by first | assumption | exact ix_nI (by omega) (by omega)) ?_
        refine z_inc6 (n := 232) (q := 1) (by decide +kernel) rfl (nI_1 _) ?_
        refine z_goto (n := 235) (off := -63) (tgt := 169) (by decide +kernel) ?_
        skip
        refine ih (u + 1) (by omega) _ (mlF_tr F (fun j p q r => by rw [hu_n q, hu_n p])) ((hu_n (by omega)).trans (by rw [hu_s, tPl_y c])) ⟨_, hu_s, fun v hv => ?_⟩ (by obtain ⟨si9, b3, b4⟩ := a3; exact ⟨si9, (by simp (disch := omega) only [hTn, hCr, hFl, hu_s, hu_n]; first | done | assumption | rfl), b4⟩) hL
        by_cases cv : v = u
        · subst cv
          rw [upd_ss, if_pos ⟨by omega, cs⟩]
        · rw [upd_nn cv, b2 v hv]
          by_cases cw : v < u
          · simp only [show v < u + 1 by omega, cw]
          · simp only [show ¬ v < u + 1 by omega, cw]
      · have c' := Bool.eq_false_iff.mpr c
        have cs : ¬ mvs (st.1 u) x right = true := by rw [← es]; exact c
        refine z_ild6 (n := 171) (by decide +kernel) ?_
        refine z_ild1 (n := 172) (by decide +kernel) ?_
        refine z_icmp_ge_f (n := 175) (off := 63) (tgt := 235) (by decide +kernel) (nI_ge (by omega) (by omega)) ?_
        refine z_ald0 (n := 176) (by decide +kernel) ?_
        refine z_getf (n := 179) (idx := 56) (by decide +kernel) fl_X11_56 (by first | assumption | (simp (disch := omega) only [hu_s, hu_n]; first | assumption | rfl)) (by rfl) ?_
        refine z_ild6 (n := 181) (by decide +kernel) ?_
        refine z_iald (n := 182) (by decide +kernel) (by first | assumption | (simp (disch := omega) only [hu_s, hu_n]; first | assumption | rfl)) (by first | assumption | exact ix_nI (by omega) (by omega)) ?_
        refine z_top ep ?_
        refine z_ild2 (n := 183) (by decide +kernel) ?_
        refine z_ild3 (n := 184) (by decide +kernel) ?_
        refine z_s3 (n := 187) (idx := 89) (by decide +kernel) ml_X11_89 (Nat.le_of_ble_eq_true rfl) (by omega) ⟨Nat.le_refl _, Nat.le_refl _⟩ (m_moves 0) ?_
        refine z_ifb_ne_f (n := 190) (off := 6) (tgt := 193) (by decide +kernel) (c') ?_
        refine z_goto (n := 193) (off := 39) (tgt := 229) (by decide +kernel) ?_
        refine z_inc6 (n := 232) (q := 1) (by decide +kernel) rfl (nI_1 _) ?_
        refine z_goto (n := 235) (off := -63) (tgt := 169) (by decide +kernel) ?_
        skip
        refine ih (u + 1) (by omega) hX F (by rw [tPl_n c']; exact a1) ⟨u9, b1, fun v hv => ?_⟩ a3 hL
        rw [b2 v hv]
        by_cases cv : v = u
        · subst cv
          rw [if_neg (fun z => cs z.2), if_neg (fun z => cs z.2)]
        · by_cases cw : v < u
          · simp only [show v < u + 1 by omega, cw]
          · simp only [show ¬ v < u + 1 by omega, cw]
  have l2 : lgS (n' + 1) x st = true → ∀ w u, u + w = n' → ∀ si9, (∀ p, p + 1 < n' + 1 → si9 (p + 1) = nI (if p < u then (stS x right st).2.2 (p + 1) else st.2.2 (p + 1))) → Z G m_X11_folds d 0 0 0 0 82 [some (.ref Q), some (.int (nI (n' + 1))), some (.int x), some (.int (bI right)), none, none, some (.int (nI (u + 1)))] [] (hu h (Q + 15) (aI 12 si9)) (fun r h' => r = some (.int (bI (lgS (n' + 1) x st))) ∧ (mlF h h' Q ∧ (lgS (n' + 1) x st = true → mlv h' Q (n' + 1) (stS x right st)) ∧ (lgS (n' + 1) x st = false → mlv h' Q (n' + 1) st))) := by
    intro hL w
    induction w with
    | zero =>
      intro u hu9 si9 hsi
      refine z_ild6 (n := 84) (by decide +kernel) ?_
      refine z_ild1 (n := 85) (by decide +kernel) ?_
      refine z_icmp_ge_t (n := 88) (off := 81) (tgt := 166) (by decide +kernel) (by rw [show u = n' by omega]; exact Int32.le_refl _) ?_
      refine z_iconst (n := 167) (q := 0) (v := 0) (by decide +kernel) ?_
      refine z_ist6 (n := 169) (by decide +kernel) rfl ?_
      skip
      have q := l3 (n' + 1) 0 (by omega) (hu h (Q + 15) (aI 12 si9)) (fun j p q r => hu_n r) (by rw [tPl_0]; exact (hu_n (by omega)).trans h13) ⟨up, (hu_n (by omega)).trans h14, fun v hv => by rw [if_neg (by omega)]; exact (ha v hv).2⟩ ⟨si9, hu_s, fun p hp => by rw [hsi p hp, if_pos (by omega)]⟩ hL
      exact q
    | succ w ih =>
      intro u hu9 si9 hsi
      have u12 : u < 12 := by omega
      have u13 : u + 1 < 12 := by omega
      obtain ⟨a1, a2⟩ := ha (u + 1) (by omega)
      obtain ⟨a3, a4⟩ := ha u (by omega)
      have cm := crs_m (a := sp u) (b := sp (u + 1)) (x := x) (by rw [a3]; exact hb u (by omega)) (by rw [a1]; exact hb (u + 1) (by omega)) hx
      have ec : crs st.1 u x = crs sp u x := crs_ag a3.symm a1.symm
      have es : (stS x right st).2.2 (u + 1) = if crs st.1 u x = true then (if st.2.1 (u + 1) = true then 1 else 2) else st.2.2 (u + 1) := rfl
      have nx0 : crs st.1 u x = false → Z G m_X11_folds d 0 0 0 0 160 [some (.ref Q), some (.int (nI (n' + 1))), some (.int x), some (.int (bI right)), none, none, some (.int (nI (u + 1)))] [] (hu h (Q + 15) (aI 12 si9)) (fun r h' => r = some (.int (bI (lgS (n' + 1) x st))) ∧ (mlF h h' Q ∧ (lgS (n' + 1) x st = true → mlv h' Q (n' + 1) (stS x right st)) ∧ (lgS (n' + 1) x st = false → mlv h' Q (n' + 1) st))) := by
        intro z
        refine z_inc6 (n := 163) (q := 1) (by decide +kernel) rfl (nI_1 _) ?_
        refine z_goto (n := 166) (off := -81) (tgt := 82) (by decide +kernel) ?_
        skip
        refine ih (u + 1) (by omega) si9 (fun p hp => ?_)
        rw [hsi p hp]
        by_cases c : p = u
        · subst c
          rw [if_neg (by omega), if_pos (by omega), es, z]
          rfl
        · by_cases cw : p < u
          · rw [if_pos cw, if_pos (by omega)]
          · rw [if_neg cw, if_neg (by omega)]
      have nx1 : crs st.1 u x = true → ∀ v, v = nI (if st.2.1 (u + 1) = true then 1 else 2) → Z G m_X11_folds d 0 0 0 0 160 [some (.ref Q), some (.int (nI (n' + 1))), some (.int x), some (.int (bI right)), none, none, some (.int (nI (u + 1)))] [] (hu (hu h (Q + 15) (aI 12 si9)) (Q + 15) (aI 12 (upd si9 (u + 1) v))) (fun r h' => r = some (.int (bI (lgS (n' + 1) x st))) ∧ (mlF h h' Q ∧ (lgS (n' + 1) x st = true → mlv h' Q (n' + 1) (stS x right st)) ∧ (lgS (n' + 1) x st = false → mlv h' Q (n' + 1) st))) := by
        intro z v hv
        rw [hu_hu]
        refine z_inc6 (n := 163) (q := 1) (by decide +kernel) rfl (nI_1 _) ?_
        refine z_goto (n := 166) (off := -81) (tgt := 82) (by decide +kernel) ?_
        skip
        refine ih (u + 1) (by omega) (upd si9 (u + 1) v) (fun p hp => ?_)
        by_cases c : p = u
        · subst c
          rw [upd_ss, if_pos (by omega), es, if_pos z, hv]
        · rw [upd_nn (by omega), hsi p hp]
          by_cases cw : p < u
          · rw [if_pos cw, if_pos (by omega)]
          · rw [if_neg cw, if_neg (by omega)]
      by_cases c : crs st.1 u x = true
      · obtain ⟨k1, k2⟩ := cm.mpr (crs_iff.mp (ec ▸ c))
        by_cases cu : st.2.1 (u + 1) = true
        · refine z_ild6 (n := 84) (by decide +kernel) ?_
          refine z_ild1 (n := 85) (by decide +kernel) ?_
          refine z_icmp_ge_f (n := 88) (off := 81) (tgt := 166) (by decide +kernel) (nI_ge (by omega) (by omega)) ?_
          refine z_ald0 (n := 89) (by decide +kernel) ?_
          refine z_getf (n := 92) (idx := 56) (by decide +kernel) fl_X11_56 (by first | assumption | (simp (disch := omega) only [hu_s, hu_n]; first | assumption | rfl)) (by rfl) ?_
          refine z_ild6 (n := 94) (by decide +kernel) ?_
          refine z_iconst (n := 95) (q := 1) (v := 1) (by decide +kernel) ?_
          refine z_isub (n := 96) (by decide +kernel) ?_
          refine z_top (nI_pred u) ?_
          refine z_iald (n := 97) (by decide +kernel) (by first | assumption | (simp (disch := omega) only [hu_s, hu_n]; first | assumption | rfl)) (by first | assumption | exact ix_nI (by omega) (by omega)) ?_
          refine z_ald0 (n := 98) (by decide +kernel) ?_
          refine z_getf (n := 101) (idx := 56) (by decide +kernel) fl_X11_56 (by first | assumption | (simp (disch := omega) only [hu_s, hu_n]; first | assumption | rfl)) (by rfl) ?_
          refine z_ild6 (n := 103) (by decide +kernel) ?_
          refine z_iald (n := 104) (by decide +kernel) (by first | assumption | (simp (disch := omega) only [hu_s, hu_n]; first | assumption | rfl)) (by first | assumption | exact ix_nI (by omega) (by omega)) ?_
          refine z_iadd (n := 105) (by decide +kernel) ?_
          refine z_iconst (n := 106) (q := 2) (v := 2) (by decide +kernel) ?_
          refine z_ild2 (n := 107) (by decide +kernel) ?_
          refine z_imul (n := 108) (by decide +kernel) ?_
          refine z_iconst (n := 109) (q := 1) (v := 1) (by decide +kernel) ?_
          refine z_isub (n := 110) (by decide +kernel) ?_
          refine z_icmp_ne_f (n := 113) (off := 50) (tgt := 160) (by decide +kernel) (k1) ?_
          refine z_ald0 (n := 114) (by decide +kernel) ?_
          refine z_getf (n := 117) (idx := 56) (by decide +kernel) fl_X11_56 (by first | assumption | (simp (disch := omega) only [hu_s, hu_n]; first | assumption | rfl)) (by rfl) ?_
          refine z_ild6 (n := 119) (by decide +kernel) ?_
          refine z_iconst (n := 120) (q := 1) (v := 1) (by decide +kernel) ?_
          refine z_isub (n := 121) (by decide +kernel) ?_
          refine z_top (nI_pred u) ?_
          refine z_iald (n := 122) (by decide +kernel) (by first | assumption | (simp (disch := omega) only [hu_s, hu_n]; first | assumption | rfl)) (by first | assumption | exact ix_nI (by omega) (by omega)) ?_
          refine z_ald0 (n := 123) (by decide +kernel) ?_
          refine z_getf (n := 126) (idx := 56) (by decide +kernel) fl_X11_56 (by first | assumption | (simp (disch := omega) only [hu_s, hu_n]; first | assumption | rfl)) (by rfl) ?_
          refine z_ild6 (n := 128) (by decide +kernel) ?_
          refine z_iald (n := 129) (by decide +kernel) (by first | assumption | (simp (disch := omega) only [hu_s, hu_n]; first | assumption | rfl)) (by first | assumption | exact ix_nI (by omega) (by omega)) ?_
          refine z_isub (n := 130) (by decide +kernel) ?_
          refine z_s1 (n := 133) (idx := 221) (by decide +kernel) ml_X11_221 (Nat.le_of_ble_eq_true rfl) (by omega) ⟨Nat.le_refl _, Nat.le_refl _⟩ (m_abs 0) ?_
          refine z_iconst (n := 134) (q := 1) (v := 1) (by decide +kernel) ?_
          refine z_icmp_ne_f (n := 137) (off := 26) (tgt := 160) (by decide +kernel) (k2) ?_
          refine z_ald0 (n := 138) (by decide +kernel) ?_
          refine z_getf (n := 141) (idx := 62) (by decide +kernel) fl_X11_62 (by first | assumption | (simp (disch := omega) only [hu_s, hu_n]; first | assumption | rfl)) (by rfl) ?_
          refine z_ild6 (n := 143) (by decide +kernel) ?_
          refine z_ald0 (n := 144) (by decide +kernel) ?_
          refine z_getf (n := 147) (idx := 59) (by decide +kernel) fl_X11_59 (by first | assumption | (simp (disch := omega) only [hu_s, hu_n]; first | assumption | rfl)) (by rfl) ?_
          refine z_ild6 (n := 149) (by decide +kernel) ?_
          refine z_iald (n := 150) (by decide +kernel) (by first | assumption | (simp (disch := omega) only [hu_s, hu_n]; first | assumption | rfl)) (by first | assumption | exact ix_nI (by omega) (by omega)) ?_
          refine z_top a2 ?_
          refine z_iconst (n := 151) (q := 1) (v := 1) (by decide +kernel) ?_
          refine z_icmp_ne_f (n := 154) (off := 7) (tgt := 158) (by decide +kernel) (by rw [cu]; rfl) ?_
          refine z_iconst (n := 155) (q := 1) (v := 1) (by decide +kernel) ?_
          refine z_goto (n := 158) (off := 4) (tgt := 159) (by decide +kernel) ?_
          refine z_iast (n := 160) (by decide +kernel) (by first | assumption | (simp (disch := omega) only [hu_s, hu_n]; first | assumption | rfl)) (by first | assumption | exact ix_nI (by omega) (by omega)) ?_
          exact nx1 c 1 (by rw [if_pos cu]; rfl)
        · refine z_ild6 (n := 84) (by decide +kernel) ?_
          refine z_ild1 (n := 85) (by decide +kernel) ?_
          refine z_icmp_ge_f (n := 88) (off := 81) (tgt := 166) (by decide +kernel) (nI_ge (by omega) (by omega)) ?_
          refine z_ald0 (n := 89) (by decide +kernel) ?_
          refine z_getf (n := 92) (idx := 56) (by decide +kernel) fl_X11_56 (by first | assumption | (simp (disch := omega) only [hu_s, hu_n]; first | assumption | rfl)) (by rfl) ?_
          refine z_ild6 (n := 94) (by decide +kernel) ?_
          refine z_iconst (n := 95) (q := 1) (v := 1) (by decide +kernel) ?_
          refine z_isub (n := 96) (by decide +kernel) ?_
          refine z_top (nI_pred u) ?_
          refine z_iald (n := 97) (by decide +kernel) (by first | assumption | (simp (disch := omega) only [hu_s, hu_n]; first | assumption | rfl)) (by first | assumption | exact ix_nI (by omega) (by omega)) ?_
          refine z_ald0 (n := 98) (by decide +kernel) ?_
          refine z_getf (n := 101) (idx := 56) (by decide +kernel) fl_X11_56 (by first | assumption | (simp (disch := omega) only [hu_s, hu_n]; first | assumption | rfl)) (by rfl) ?_
          refine z_ild6 (n := 103) (by decide +kernel) ?_
          refine z_iald (n := 104) (by decide +kernel) (by first | assumption | (simp (disch := omega) only [hu_s, hu_n]; first | assumption | rfl)) (by first | assumption | exact ix_nI (by omega) (by omega)) ?_
          refine z_iadd (n := 105) (by decide +kernel) ?_
          refine z_iconst (n := 106) (q := 2) (v := 2) (by decide +kernel) ?_
          refine z_ild2 (n := 107) (by decide +kernel) ?_
          refine z_imul (n := 108) (by decide +kernel) ?_
          refine z_iconst (n := 109) (q := 1) (v := 1) (by decide +kernel) ?_
          refine z_isub (n := 110) (by decide +kernel) ?_
          refine z_icmp_ne_f (n := 113) (off := 50) (tgt := 160) (by decide +kernel) (k1) ?_
          refine z_ald0 (n := 114) (by decide +kernel) ?_
          refine z_getf (n := 117) (idx := 56) (by decide +kernel) fl_X11_56 (by first | assumption | (simp (disch := omega) only [hu_s, hu_n]; first | assumption | rfl)) (by rfl) ?_
          refine z_ild6 (n := 119) (by decide +kernel) ?_
          refine z_iconst (n := 120) (q := 1) (v := 1) (by decide +kernel) ?_
          refine z_isub (n := 121) (by decide +kernel) ?_
          refine z_top (nI_pred u) ?_
          refine z_iald (n := 122) (by decide +kernel) (by first | assumption | (simp (disch := omega) only [hu_s, hu_n]; first | assumption | rfl)) (by first | assumption | exact ix_nI (by omega) (by omega)) ?_
          refine z_ald0 (n := 123) (by decide +kernel) ?_
          refine z_getf (n := 126) (idx := 56) (by decide +kernel) fl_X11_56 (by first | assumption | (simp (disch := omega) only [hu_s, hu_n]; first | assumption | rfl)) (by rfl) ?_
          refine z_ild6 (n := 128) (by decide +kernel) ?_
          refine z_iald (n := 129) (by decide +kernel) (by first | assumption | (simp (disch := omega) only [hu_s, hu_n]; first | assumption | rfl)) (by first | assumption | exact ix_nI (by omega) (by omega)) ?_
          refine z_isub (n := 130) (by decide +kernel) ?_
          refine z_s1 (n := 133) (idx := 221) (by decide +kernel) ml_X11_221 (Nat.le_of_ble_eq_true rfl) (by omega) ⟨Nat.le_refl _, Nat.le_refl _⟩ (m_abs 0) ?_
          refine z_iconst (n := 134) (q := 1) (v := 1) (by decide +kernel) ?_
          refine z_icmp_ne_f (n := 137) (off := 26) (tgt := 160) (by decide +kernel) (k2) ?_
          refine z_ald0 (n := 138) (by decide +kernel) ?_
          refine z_getf (n := 141) (idx := 62) (by decide +kernel) fl_X11_62 (by first | assumption | (simp (disch := omega) only [hu_s, hu_n]; first | assumption | rfl)) (by rfl) ?_
          refine z_ild6 (n := 143) (by decide +kernel) ?_
          refine z_ald0 (n := 144) (by decide +kernel) ?_
          refine z_getf (n := 147) (idx := 59) (by decide +kernel) fl_X11_59 (by first | assumption | (simp (disch := omega) only [hu_s, hu_n]; first | assumption | rfl)) (by rfl) ?_
          refine z_ild6 (n := 149) (by decide +kernel) ?_
          refine z_iald (n := 150) (by decide +kernel) (by first | assumption | (simp (disch := omega) only [hu_s, hu_n]; first | assumption | rfl)) (by first | assumption | exact ix_nI (by omega) (by omega)) ?_
          refine z_top a2 ?_
          refine z_iconst (n := 151) (q := 1) (v := 1) (by decide +kernel) ?_
          refine z_icmp_ne_t (n := 154) (off := 7) (tgt := 158) (by decide +kernel) (by rw [Bool.eq_false_iff.mpr cu]; decide) ?_
          refine z_iconst (n := 159) (q := 2) (v := 2) (by decide +kernel) ?_
          refine z_iast (n := 160) (by decide +kernel) (by first | assumption | (simp (disch := omega) only [hu_s, hu_n]; first | assumption | rfl)) (by first | assumption | exact ix_nI (by omega) (by omega)) ?_
          exact nx1 c 2 (by rw [if_neg cu]; rfl)
      · refine z_ild6 (n := 84) (by decide +kernel) ?_
        refine z_ild1 (n := 85) (by decide +kernel) ?_
        refine z_icmp_ge_f (n := 88) (off := 81) (tgt := 166) (by decide +kernel) (nI_ge (by omega) (by omega)) ?_
        refine z_ald0 (n := 89) (by decide +kernel) ?_
        refine z_getf (n := 92) (idx := 56) (by decide +kernel) fl_X11_56 (by first | assumption | (simp (disch := omega) only [hu_s, hu_n]; first | assumption | rfl)) (by rfl) ?_
        refine z_ild6 (n := 94) (by decide +kernel) ?_
        refine z_iconst (n := 95) (q := 1) (v := 1) (by decide +kernel) ?_
        refine z_isub (n := 96) (by decide +kernel) ?_
        refine z_top (nI_pred u) ?_
        refine z_iald (n := 97) (by decide +kernel) (by first | assumption | (simp (disch := omega) only [hu_s, hu_n]; first | assumption | rfl)) (by first | assumption | exact ix_nI (by omega) (by omega)) ?_
        refine z_ald0 (n := 98) (by decide +kernel) ?_
        refine z_getf (n := 101) (idx := 56) (by decide +kernel) fl_X11_56 (by first | assumption | (simp (disch := omega) only [hu_s, hu_n]; first | assumption | rfl)) (by rfl) ?_
        refine z_ild6 (n := 103) (by decide +kernel) ?_
        refine z_iald (n := 104) (by decide +kernel) (by first | assumption | (simp (disch := omega) only [hu_s, hu_n]; first | assumption | rfl)) (by first | assumption | exact ix_nI (by omega) (by omega)) ?_
        refine z_iadd (n := 105) (by decide +kernel) ?_
        refine z_iconst (n := 106) (q := 2) (v := 2) (by decide +kernel) ?_
        refine z_ild2 (n := 107) (by decide +kernel) ?_
        refine z_imul (n := 108) (by decide +kernel) ?_
        refine z_iconst (n := 109) (q := 1) (v := 1) (by decide +kernel) ?_
        refine z_isub (n := 110) (by decide +kernel) ?_
        refine z_icmp_ne (n := 113) (off := 50) (tgt := 160) (by decide +kernel) (fun c110 => ?_) (fun c110 => ?_)
        · exact nx0 (Bool.eq_false_iff.mpr c)
        · refine z_ald0 (n := 114) (by decide +kernel) ?_
          refine z_getf (n := 117) (idx := 56) (by decide +kernel) fl_X11_56 (by first | assumption | (simp (disch := omega) only [hu_s, hu_n]; first | assumption | rfl)) (by rfl) ?_
          refine z_ild6 (n := 119) (by decide +kernel) ?_
          refine z_iconst (n := 120) (q := 1) (v := 1) (by decide +kernel) ?_
          refine z_isub (n := 121) (by decide +kernel) ?_
          refine z_top (nI_pred u) ?_
          refine z_iald (n := 122) (by decide +kernel) (by first | assumption | (simp (disch := omega) only [hu_s, hu_n]; first | assumption | rfl)) (by first | assumption | exact ix_nI (by omega) (by omega)) ?_
          refine z_ald0 (n := 123) (by decide +kernel) ?_
          refine z_getf (n := 126) (idx := 56) (by decide +kernel) fl_X11_56 (by first | assumption | (simp (disch := omega) only [hu_s, hu_n]; first | assumption | rfl)) (by rfl) ?_
          refine z_ild6 (n := 128) (by decide +kernel) ?_
          refine z_iald (n := 129) (by decide +kernel) (by first | assumption | (simp (disch := omega) only [hu_s, hu_n]; first | assumption | rfl)) (by first | assumption | exact ix_nI (by omega) (by omega)) ?_
          refine z_isub (n := 130) (by decide +kernel) ?_
          refine z_s1 (n := 133) (idx := 221) (by decide +kernel) ml_X11_221 (Nat.le_of_ble_eq_true rfl) (by omega) ⟨Nat.le_refl _, Nat.le_refl _⟩ (m_abs 0) ?_
          refine z_iconst (n := 134) (q := 1) (v := 1) (by decide +kernel) ?_
          refine z_icmp_ne (n := 137) (off := 26) (tgt := 160) (by decide +kernel) (fun c134 => ?_) (fun c134 => ?_)
          · exact nx0 (Bool.eq_false_iff.mpr c)
          · exact absurd (ec.trans (crs_iff.mpr (cm.mp ⟨c110, c134⟩))) c
  have l1 : ∀ w u, u + w = n' + 1 → Z G m_X11_folds d 0 0 0 0 9 [some (.ref Q), some (.int (nI (n' + 1))), some (.int x), some (.int (bI right)), some (.int (bI (lwF sp x u))), some (.int (bI (hwF sp x u))), some (.int (nI u))] [] h (fun r h' => r = some (.int (bI (lgS (n' + 1) x st))) ∧ (mlF h h' Q ∧ (lgS (n' + 1) x st = true → mlv h' Q (n' + 1) (stS x right st)) ∧ (lgS (n' + 1) x st = false → mlv h' Q (n' + 1) st))) := by
    intro w
    induction w with
    | zero =>
      intro u hu9
      have e : u = n' + 1 := by omega
      subst e
      have no : lgS (n' + 1) x st = false → (fun r h' => r = some (.int (bI (lgS (n' + 1) x st))) ∧ (mlF h h' Q ∧ (lgS (n' + 1) x st = true → mlv h' Q (n' + 1) (stS x right st)) ∧ (lgS (n' + 1) x st = false → mlv h' Q (n' + 1) st))) (some (Value.int (bI false))) h := fun z => ⟨by rw [z], mlF_rf, fun q => by rw [z] at q; exact Bool.noConfusion q, fun _ => H'⟩
      by_cases cl : lwF sp x (n' + 1) = true
      · by_cases ch : hwF sp x (n' + 1) = true
        · have hL : lgS (n' + 1) x st = true := by rw [eL, cl, ch]; rfl
          refine z_ild6 (n := 11) (by decide +kernel) ?_
          refine z_ild1 (n := 12) (by decide +kernel) ?_
          refine z_icmp_ge_t (n := 15) (off := 55) (tgt := 67) (by decide +kernel) (Int32.le_refl _) ?_
          refine z_ild4 (n := 69) (by decide +kernel) ?_
          refine z_ifb_eq_f (n := 72) (off := 8) (tgt := 77) (by decide +kernel) (cl) ?_
          refine z_ild5 (n := 74) (by decide +kernel) ?_
          refine z_ifb_ne_t (n := 77) (off := 5) (tgt := 79) (by decide +kernel) (ch) ?_
          refine z_iconst (n := 80) (q := 1) (v := 1) (by decide +kernel) ?_
          refine z_ist6 (n := 82) (by decide +kernel) rfl ?_
          skip
          have q := l2 hL n' 0 (by omega) si (fun p hp => by rw [if_neg (by omega)]; exact hs p hp)
          rw [show hu h (Q + 15) (aI 12 si) = h from by rw [← h15]; exact hu_same] at q
          exact z_wk (lv' := [some (.ref Q), some (.int (nI (n' + 1))), some (.int x), some (.int (bI right)), none, none, some (.int (nI (0 + 1)))]) (by simp [wk]; rfl) q
        · refine z_ild6 (n := 11) (by decide +kernel) ?_
          refine z_ild1 (n := 12) (by decide +kernel) ?_
          refine z_icmp_ge_t (n := 15) (off := 55) (tgt := 67) (by decide +kernel) (Int32.le_refl _) ?_
          refine z_ild4 (n := 69) (by decide +kernel) ?_
          refine z_ifb_eq_f (n := 72) (off := 8) (tgt := 77) (by decide +kernel) (cl) ?_
          refine z_ild5 (n := 74) (by decide +kernel) ?_
          refine z_ifb_ne_f (n := 77) (off := 5) (tgt := 79) (by decide +kernel) (Bool.eq_false_iff.mpr ch) ?_
          refine z_iconst (n := 78) (q := 0) (v := 0) (by decide +kernel) ?_
          first | refine z_zr1 (by decide +kernel) rfl (Nat.le_refl _) ?_ | refine z_zr0 (by decide +kernel) rfl (Nat.le_refl _) ?_ | refine z_zrb (by decide +kernel) rfl (Nat.le_refl _) ?_
          exact no (by rw [eL, Bool.eq_false_iff.mpr ch, Bool.and_false])
      · refine z_ild6 (n := 11) (by decide +kernel) ?_
        refine z_ild1 (n := 12) (by decide +kernel) ?_
        refine z_icmp_ge_t (n := 15) (off := 55) (tgt := 67) (by decide +kernel) (Int32.le_refl _) ?_
        refine z_ild4 (n := 69) (by decide +kernel) ?_
        refine z_ifb_eq_t (n := 72) (off := 8) (tgt := 77) (by decide +kernel) (Bool.eq_false_iff.mpr cl) ?_
        refine z_iconst (n := 78) (q := 0) (v := 0) (by decide +kernel) ?_
        first | refine z_zr1 (by decide +kernel) rfl (Nat.le_refl _) ?_ | refine z_zr0 (by decide +kernel) rfl (Nat.le_refl _) ?_ | refine z_zrb (by decide +kernel) rfl (Nat.le_refl _) ?_
        exact no (by rw [eL, Bool.eq_false_iff.mpr cl, Bool.false_and])
    | succ w ih =>
      intro u hu9
      have u12 : u < 12 := by omega
      have ih9 := ih (u + 1) (by omega)
      have f38 : ∀ b1, b1 = lwF sp x (u + 1) → Z G m_X11_folds d 0 0 0 0 38 [some (.ref Q), some (.int (nI (n' + 1))), some (.int x), some (.int (bI right)), some (.int (bI b1)), some (.int (bI (hwF sp x u))), some (.int (nI u))] [] h (fun r h' => r = some (.int (bI (lgS (n' + 1) x st))) ∧ (mlF h h' Q ∧ (lgS (n' + 1) x st = true → mlv h' Q (n' + 1) (stS x right st)) ∧ (lgS (n' + 1) x st = false → mlv h' Q (n' + 1) st))) := by
        intro b1 e1
        subst e1
        have f61 : ∀ b2, b2 = hwF sp x (u + 1) → Z G m_X11_folds d 0 0 0 0 61 [some (.ref Q), some (.int (nI (n' + 1))), some (.int x), some (.int (bI right)), some (.int (bI (lwF sp x (u + 1)))), some (.int (bI b2)), some (.int (nI u))] [] h (fun r h' => r = some (.int (bI (lgS (n' + 1) x st))) ∧ (mlF h h' Q ∧ (lgS (n' + 1) x st = true → mlv h' Q (n' + 1) (stS x right st)) ∧ (lgS (n' + 1) x st = false → mlv h' Q (n' + 1) st))) := by
          intro b2 e2
          subst e2
          refine z_inc6 (n := 64) (q := 1) (by decide +kernel) rfl (nI_1 _) ?_
          refine z_goto (n := 67) (off := -55) (tgt := 9) (by decide +kernel) ?_
          exact ih9
        refine z_ild5 (n := 40) (by decide +kernel) ?_
        refine z_ifb_ne (n := 43) (off := 14) (tgt := 54) (by decide +kernel) (fun c40 => ?_) (fun c40 => ?_)
        · refine z_iconst (n := 55) (q := 1) (v := 1) (by decide +kernel) ?_
          refine z_goto (n := 58) (off := 4) (tgt := 59) (by decide +kernel) ?_
          refine z_ist5 (n := 61) (by decide +kernel) rfl ?_
          first | exact f61 true (by rw [hwF, c40, Bool.true_or]) | exact f61 false (by rw [hwF, c40, decide_eq_true c51]; rfl) | exact f61 true (by rw [hwF, c40, decide_eq_false c51]; rfl)
        · refine z_ald0 (n := 44) (by decide +kernel) ?_
          refine z_getf (n := 47) (idx := 56) (by decide +kernel) fl_X11_56 (by first | assumption | (simp (disch := omega) only [hu_s, hu_n]; first | assumption | rfl)) (by rfl) ?_
          refine z_ild6 (n := 49) (by decide +kernel) ?_
          refine z_iald (n := 50) (by decide +kernel) (by first | assumption | (simp (disch := omega) only [hu_s, hu_n]; first | assumption | rfl)) (by first | assumption | exact ix_nI (by omega) (by omega)) ?_
          refine z_ild2 (n := 51) (by decide +kernel) ?_
          refine z_icmp_lt (n := 54) (off := 7) (tgt := 58) (by decide +kernel) (fun c51 => ?_) (fun c51 => ?_)
          · refine z_iconst (n := 59) (q := 0) (v := 0) (by decide +kernel) ?_
            refine z_ist5 (n := 61) (by decide +kernel) rfl ?_
            first | exact f61 true (by rw [hwF, c40, Bool.true_or]) | exact f61 false (by rw [hwF, c40, decide_eq_true c51]; rfl) | exact f61 true (by rw [hwF, c40, decide_eq_false c51]; rfl)
          · refine z_iconst (n := 55) (q := 1) (v := 1) (by decide +kernel) ?_
            refine z_goto (n := 58) (off := 4) (tgt := 59) (by decide +kernel) ?_
            refine z_ist5 (n := 61) (by decide +kernel) rfl ?_
            first | exact f61 true (by rw [hwF, c40, Bool.true_or]) | exact f61 false (by rw [hwF, c40, decide_eq_true c51]; rfl) | exact f61 true (by rw [hwF, c40, decide_eq_false c51]; rfl)
      refine z_ild6 (n := 11) (by decide +kernel) ?_
      refine z_ild1 (n := 12) (by decide +kernel) ?_
      refine z_icmp_ge_f (n := 15) (off := 55) (tgt := 67) (by decide +kernel) (nI_ge (by omega) (by omega)) ?_
      refine z_ild4 (n := 17) (by decide +kernel) ?_
      refine z_ifb_ne (n := 20) (off := 14) (tgt := 31) (by decide +kernel) (fun c17 => ?_) (fun c17 => ?_)
      · refine z_iconst (n := 32) (q := 1) (v := 1) (by decide +kernel) ?_
        refine z_goto (n := 35) (off := 4) (tgt := 36) (by decide +kernel) ?_
        refine z_ist4 (n := 38) (by decide +kernel) rfl ?_
        first | exact f38 true (by rw [lwF, c17, Bool.true_or]) | exact f38 false (by rw [lwF, c17, decide_eq_false (Int32.not_lt.mpr c28)]; rfl) | exact f38 true (by rw [lwF, c17, decide_eq_true (Int32.not_le.mp c28)]; rfl)
      · refine z_ald0 (n := 21) (by decide +kernel) ?_
        refine z_getf (n := 24) (idx := 56) (by decide +kernel) fl_X11_56 (by first | assumption | (simp (disch := omega) only [hu_s, hu_n]; first | assumption | rfl)) (by rfl) ?_
        refine z_ild6 (n := 26) (by decide +kernel) ?_
        refine z_iald (n := 27) (by decide +kernel) (by first | assumption | (simp (disch := omega) only [hu_s, hu_n]; first | assumption | rfl)) (by first | assumption | exact ix_nI (by omega) (by omega)) ?_
        refine z_ild2 (n := 28) (by decide +kernel) ?_
        refine z_icmp_ge (n := 31) (off := 7) (tgt := 35) (by decide +kernel) (fun c28 => ?_) (fun c28 => ?_)
        · refine z_iconst (n := 36) (q := 0) (v := 0) (by decide +kernel) ?_
          refine z_ist4 (n := 38) (by decide +kernel) rfl ?_
          first | exact f38 true (by rw [lwF, c17, Bool.true_or]) | exact f38 false (by rw [lwF, c17, decide_eq_false (Int32.not_lt.mpr c28)]; rfl) | exact f38 true (by rw [lwF, c17, decide_eq_true (Int32.not_le.mp c28)]; rfl)
        · refine z_iconst (n := 32) (q := 1) (v := 1) (by decide +kernel) ?_
          refine z_goto (n := 35) (off := 4) (tgt := 36) (by decide +kernel) ?_
          refine z_ist4 (n := 38) (by decide +kernel) rfl ?_
          first | exact f38 true (by rw [lwF, c17, Bool.true_or]) | exact f38 false (by rw [lwF, c17, decide_eq_false (Int32.not_lt.mpr c28)]; rfl) | exact f38 true (by rw [lwF, c17, decide_eq_true (Int32.not_le.mp c28)]; rfl)
  refine ev_4_3 rfl rfl rfl rfl (by decide +kernel) (by decide +kernel) ?_
  refine z_iconst (n := 1) (q := 0) (v := 0) (by decide +kernel) ?_
  refine z_ist4 (n := 3) (by decide +kernel) rfl ?_
  refine z_iconst (n := 4) (q := 0) (v := 0) (by decide +kernel) ?_
  refine z_ist5 (n := 6) (by decide +kernel) rfl ?_
  refine z_iconst (n := 7) (q := 0) (v := 0) (by decide +kernel) ?_
  refine z_ist6 (n := 9) (by decide +kernel) rfl ?_
  exact l1 (n' + 1) 0 (by omega)
