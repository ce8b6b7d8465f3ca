/-! CreasedPaperModel: next -/
def mnxF (h h' : mH) (Q : Nat) : Prop := ∀ j, j ≠ Q + 13 → j ≠ Q + 14 → j ≠ Q + 15 → j ≠ Q + 16 → j ≠ Q + 17 → h' j = h j
def mxT (c : Nat → Nat) : Nat → Nat
  | 0 => 0
  | t + 1 => if mxT c t < c t then c t else mxT c t
theorem mxT_3 {ls : List sL} {p : Nat} : mxT (fun s => cnL ls p s) 3 = mxL ls p := by
  unfold mxL
  rw [mxT, mxT, mxT, mxT]
  split <;> split <;> split <;> omega
theorem mxT_le {c : Nat → Nat} {B : Nat} (h : ∀ t, c t ≤ B) : ∀ t, mxT c t ≤ B
  | 0 => Nat.zero_le _
  | t + 1 => by
    rw [mxT]
    split
    · exact h t
    · exact mxT_le h t
theorem m_nextP {G : mG} {h : mH} {Q lk : Nat} {N : Int32} {m : Nat → Int32} {wd : Int64} {a ct : Nat → Int32} {x k : Int32} (d : Nat) (hd : 3 ≤ d) (hQ : h Q = oMod Q N m wd) (hA : h (Q + 1) = aI 600 a) (hC : moC h Q) (h17 : h (Q + 17) = aI 36 ct) (h3 : a 3 = nI lk) (hl : lk ≤ 100) (hp : ∀ t, t < lk → ∃ q, q < 12 ∧ a (370 + 2 * t) = nI q) (hw : ∀ p, p < 12 → wtM a p = -1 ∨ 0 ≤ wtM a p) : EV G m_X11_next d 0 0 [.ref Q, .int x, .int k] h (fun r h' => r = some (.int (nxtC (wtM a) x k)) ∧ (mnxF h h' Q ∧ moC h' Q ∧ ∃ ct', h' (Q + 17) = aI 36 ct')) := by
  by_cases c : (win x 2 12 && win k 1 3) = true
  · have cc := c
    simp only [Bool.and_eq_true] at cc
    obtain ⟨c1, c2⟩ := cc
    obtain ⟨n, hn2, hn, rfl⟩ := win_28 (lo := 2) (hi := 12) c1 (by omega) (by omega)
    obtain ⟨K, hK1, hK, rfl⟩ := win_28 (lo := 1) (hi := 3) c2 (by omega) (by omega)
    have ew : nxtC (wtM a) (nI n) (nI K) = bsF (mxL (srF n (wtM a) K st0)) (n - 1) 1 (srF n (wtM a) K st0).length (-1) := by unfold nxtC; rw [if_pos c, nI_clamp (by omega), nI_clamp (by omega)]
    rw [ew]
    have b31 := srF_31 (to := wtM a) (st := st0) hn hK
    obtain ⟨n', rfl⟩ : ∃ n', n = n' + 1 := ⟨n - 1, by omega⟩
    rw [Nat.add_sub_cancel]
    have pb : ∀ j, j ≤ 3 → (2 * n') ^ j ≤ 10648 := fun j hj => Nat.le_trans (Nat.pow_le_pow_left (show 2 * n' ≤ 22 by omega) j) (Nat.le_trans (Nat.pow_le_pow_right (by omega) hj) (by decide))
    obtain ⟨⟨sp, g13⟩, ⟨up, g14⟩, ⟨si, g15⟩, ⟨wt, g16⟩⟩ := hC
    refine ev_3_7 rfl rfl rfl (by decide +kernel) (by decide +kernel) ?_
    refine z_ild1 (n := 1) (by decide +kernel) ?_
    refine z_iconst (n := 2) (q := 2) (v := 2) (by decide +kernel) ?_
    refine z_bipush (n := 4) (q := 12) (v := 12) (by decide +kernel) ?_
    refine z_s3 (n := 7) (idx := 81) (by decide +kernel) ml_X11_81 (Nat.le_of_ble_eq_true rfl) (by omega) ⟨Nat.le_refl _, Nat.le_refl _⟩ (m_isIn 0) ?_
    refine z_ifb_eq_f (n := 10) (off := 12) (tgt := 19) (by decide +kernel) (c1) ?_
    refine z_ild2 (n := 11) (by decide +kernel) ?_
    refine z_iconst (n := 12) (q := 1) (v := 1) (by decide +kernel) ?_
    refine z_iconst (n := 13) (q := 3) (v := 3) (by decide +kernel) ?_
    refine z_s3 (n := 16) (idx := 81) (by decide +kernel) ml_X11_81 (Nat.le_of_ble_eq_true rfl) (by omega) ⟨Nat.le_refl _, Nat.le_refl _⟩ (m_isIn 0) ?_
    refine z_ifb_ne_t (n := 19) (off := 5) (tgt := 21) (by decide +kernel) (c2) ?_
    refine z_ald0 (n := 22) (by decide +kernel) ?_
    refine z_w0v (n := 25) (idx := 237) (by decide +kernel) ml_X11_237 (by assumption) rfl (Nat.le_of_ble_eq_true rfl) (by omega) ⟨Nat.le_refl _, Nat.le_refl _⟩ (m_lookAll (lk := lk) (wt := wt) 0 hQ hA g16 h3 hl hp) (fun h22 q22 => ?_)
    skip
    obtain ⟨wt', rfl, hwt⟩ := q22
    have el : srF (n' + 1) wt' K st0 = srF (n' + 1) (wtM a) K st0 := srF_ag (fun p hp => hwt (p + 1) (by omega)) K st0
    have eR : srF (n' + 1) (wtM a) K st0 = rwP (n' + 1) wt' K ((2 * n') ^ K) := by rw [← el, srF_rows hn2 K st0]; rfl
    generalize hal : (2 * n') ^ K = al at *
    have alb : al ≤ 10648 := by rw [← hal]; exact pb K hK
    have hw' : ∀ p, p < 12 → wt' p = -1 ∨ 0 ≤ wt' p := fun p hp => by rw [hwt p hp]; exact hw p hp
    rw [eR] at b31 ⊢
    generalize hP : rwP (n' + 1) wt' K = P at *
    -- where to look
    have l4 : ∀ (hX : mH) (ct9 : Nat → Int32), mnxF h hX Q → moC hX Q → hX Q = oMod Q N m wd → hX (Q + 17) = aI 36 ct9 → (∀ p s, p + 1 < n' + 1 → s < 3 → ct9 (3 * (p + 1) + s) = nI (cnL (P al) (p + 1) s)) → ∀ w u l b, u + w = n' → l ≤ 10648 → bsF (mxL (P al)) w (u + 1) l b = bsF (mxL (P al)) n' 1 (P al).length (-1) → Z G m_X11_next d 0 0 0 0 134 [some (.ref Q), some (.int (nI (n' + 1))), some (.int (nI K)), none, none, some (.int b), some (.int (nI l)), some (.int (nI (u + 1))), none, none] [] hX (fun r h' => r = some (.int (bsF (mxL (P al)) n' 1 (P al).length (-1))) ∧ (mnxF h h' Q ∧ moC h' Q ∧ ∃ ct', h' (Q + 17) = aI 36 ct')) := by
      intro hX ct9 F C g0 g17 hct w
      induction w with
      | zero =>
        intro u l b hu9 hl9 hq
        rw [← hq]
        refine z_ild7 (n := 136) (by decide +kernel) ?_
        refine z_ild1 (n := 137) (by decide +kernel) ?_
        refine z_icmp_ge_t (n := 140) (off := 76) (tgt := 213) (by decide +kernel) (by rw [show u = n' by omega]; exact Int32.le_refl _) ?_
        refine z_ild5 (n := 215) (by decide +kernel) ?_
        refine z_iret (by decide +kernel) rfl (Nat.le_refl _) ?_
        exact ⟨rfl, F, C, ct9, g17⟩
      | succ w ih =>
        intro u l b hu9 hl9 hq
        have cb : ∀ t, (fun s => cnL (P al) (u + 1) s) t ≤ 10648 := fun t => Nat.le_trans cnL_le b31
        have f189 : Z G m_X11_next d 0 0 0 0 189 [some (.ref Q), some (.int (nI (n' + 1))), some (.int (nI K)), none, none, some (.int b), some (.int (nI l)), some (.int (nI (u + 1))), some (.int (nI (mxL (P al) (u + 1)))), none] [] hX (fun r h' => r = some (.int (bsF (mxL (P al)) n' 1 (P al).length (-1))) ∧ (mnxF h h' Q ∧ moC h' Q ∧ ∃ ct', h' (Q + 17) = aI 36 ct')) := by
          have mb : mxL (P al) (u + 1) ≤ 10648 := by rw [← mxT_3]; exact mxT_le cb 3
          rw [bsF] at hq
          by_cases c9 : mxL (P al) (u + 1) < l
          · rw [if_pos c9] at hq
            refine z_ild8 (n := 191) (by decide +kernel) ?_
            refine z_ild6 (n := 193) (by decide +kernel) ?_
            refine z_icmp_lt_t (n := 196) (off := 6) (tgt := 199) (by decide +kernel) (nI_lt c9 (by omega)) ?_
            refine z_ild7 (n := 201) (by decide +kernel) ?_
            refine z_ist5 (n := 203) (by decide +kernel) rfl ?_
            refine z_ild8 (n := 205) (by decide +kernel) ?_
            refine z_ist6 (n := 207) (by decide +kernel) rfl ?_
            refine z_inc7 (n := 210) (q := 1) (by decide +kernel) rfl (nI_1 _) ?_
            refine z_goto (n := 213) (off := -76) (tgt := 134) (by decide +kernel) ?_
            exact z_wk (lv' := [some (.ref Q), some (.int (nI (n' + 1))), some (.int (nI K)), none, none, some (.int (nI (u + 1))), some (.int (nI (mxL (P al) (u + 1)))), some (.int (nI (u + 1 + 1))), none, none]) (by simp [wk]) (ih (u + 1) _ _ (by omega) mb hq)
          · rw [if_neg c9] at hq
            refine z_ild8 (n := 191) (by decide +kernel) ?_
            refine z_ild6 (n := 193) (by decide +kernel) ?_
            refine z_icmp_lt_f (n := 196) (off := 6) (tgt := 199) (by decide +kernel) (nI_nlt (by omega) (by omega)) ?_
            refine z_goto (n := 199) (off := 11) (tgt := 207) (by decide +kernel) ?_
            refine z_inc7 (n := 210) (q := 1) (by decide +kernel) rfl (nI_1 _) ?_
            refine z_goto (n := 213) (off := -76) (tgt := 134) (by decide +kernel) ?_
            exact z_wk (lv' := [some (.ref Q), some (.int (nI (n' + 1))), some (.int (nI K)), none, none, some (.int b), some (.int (nI l)), some (.int (nI (u + 1 + 1))), none, none]) (by simp [wk]) (ih (u + 1) _ _ (by omega) hl9 hq)
        have l5 : ∀ v t, t + v = 3 → Z G m_X11_next d 0 0 0 0 146 [some (.ref Q), some (.int (nI (n' + 1))), some (.int (nI K)), none, none, some (.int b), some (.int (nI l)), some (.int (nI (u + 1))), some (.int (nI (mxT (fun s => cnL (P al) (u + 1) s) t))), some (.int (nI t))] [] hX (fun r h' => r = some (.int (bsF (mxL (P al)) n' 1 (P al).length (-1))) ∧ (mnxF h h' Q ∧ moC h' Q ∧ ∃ ct', h' (Q + 17) = aI 36 ct')) := by
          intro v
          induction v with
          | zero =>
            intro t ht
            have e : t = 3 := by omega
            subst e
            rw [mxT_3]
            refine z_ild9 (n := 148) (by decide +kernel) ?_
            refine z_iconst (n := 149) (q := 3) (v := 3) (by decide +kernel) ?_
            refine z_icmp_ge_t (n := 152) (off := 40) (tgt := 189) (by decide +kernel) (by decide) ?_
            exact z_wk (lv' := [some (.ref Q), some (.int (nI (n' + 1))), some (.int (nI K)), none, none, some (.int b), some (.int (nI l)), some (.int (nI (u + 1))), some (.int (nI (mxL (P al) (u + 1)))), none]) (by simp [wk]) f189
          | succ v ihv =>
            intro t ht
            have ec := hct u t (by omega) (by omega)
            have i1 : ix (3 * nI (u + 1) + nI t) (3 * (u + 1) + t) 36 := by
              rw [show (3 : Int32) = nI 3 from rfl, pk_mul, nI_add]
              exact ix_nI (by omega) (by omega)
            have b1 : cnL (P al) (u + 1) t ≤ 10648 := cb t
            have b2 := mxT_le cb t
            have ihq := ihv (t + 1) (by omega)
            rw [mxT] at ihq
            by_cases c9 : mxT (fun s => cnL (P al) (u + 1) s) t < cnL (P al) (u + 1) t
            · rw [if_pos c9] at ihq
              refine z_ild9 (n := 148) (by decide +kernel) ?_
              refine z_iconst (n := 149) (q := 3) (v := 3) (by decide +kernel) ?_
              refine z_icmp_ge_f (n := 152) (off := 40) (tgt := 189) (by decide +kernel) (nI_ge (b := 3) (by omega) (by omega)) ?_
              refine z_ald0 (n := 153) (by decide +kernel) ?_
              refine z_getf (n := 156) (idx := 68) (by decide +kernel) fl_X11_68 (by assumption) (by rfl) ?_
              refine z_iconst (n := 157) (q := 3) (v := 3) (by decide +kernel) ?_
              refine z_ild7 (n := 159) (by decide +kernel) ?_
              refine z_imul (n := 160) (by decide +kernel) ?_
              refine z_ild9 (n := 162) (by decide +kernel) ?_
              refine z_iadd (n := 163) (by decide +kernel) ?_
              refine z_iald (n := 164) (by decide +kernel) (by assumption) (by exact i1) ?_
              refine z_top ec ?_
              refine z_ild8 (n := 166) (by decide +kernel) ?_
              refine z_icmp_le_f (n := 169) (off := 17) (tgt := 183) (by decide +kernel) (nI_ge c9 (by omega)) ?_
              refine z_ald0 (n := 170) (by decide +kernel) ?_
              refine z_getf (n := 173) (idx := 68) (by decide +kernel) fl_X11_68 (by assumption) (by rfl) ?_
              refine z_iconst (n := 174) (q := 3) (v := 3) (by decide +kernel) ?_
              refine z_ild7 (n := 176) (by decide +kernel) ?_
              refine z_imul (n := 177) (by decide +kernel) ?_
              refine z_ild9 (n := 179) (by decide +kernel) ?_
              refine z_iadd (n := 180) (by decide +kernel) ?_
              refine z_iald (n := 181) (by decide +kernel) (by assumption) (by exact i1) ?_
              refine z_top ec ?_
              refine z_ist8 (n := 183) (by decide +kernel) rfl ?_
              refine z_inc9 (n := 186) (q := 1) (by decide +kernel) rfl (nI_1 _) ?_
              refine z_goto (n := 189) (off := -40) (tgt := 146) (by decide +kernel) ?_
              exact ihq
            · rw [if_neg c9] at ihq
              refine z_ild9 (n := 148) (by decide +kernel) ?_
              refine z_iconst (n := 149) (q := 3) (v := 3) (by decide +kernel) ?_
              refine z_icmp_ge_f (n := 152) (off := 40) (tgt := 189) (by decide +kernel) (nI_ge (b := 3) (by omega) (by omega)) ?_
              refine z_ald0 (n := 153) (by decide +kernel) ?_
              refine z_getf (n := 156) (idx := 68) (by decide +kernel) fl_X11_68 (by assumption) (by rfl) ?_
              refine z_iconst (n := 157) (q := 3) (v := 3) (by decide +kernel) ?_
              refine z_ild7 (n := 159) (by decide +kernel) ?_
              refine z_imul (n := 160) (by decide +kernel) ?_
              refine z_ild9 (n := 162) (by decide +kernel) ?_
              refine z_iadd (n := 163) (by decide +kernel) ?_
              refine z_iald (n := 164) (by decide +kernel) (by assumption) (by exact i1) ?_
              refine z_top ec ?_
              refine z_ild8 (n := 166) (by decide +kernel) ?_
              refine z_icmp_le_t (n := 169) (off := 17) (tgt := 183) (by decide +kernel) (nI_le (by omega) (by omega)) ?_
              refine z_inc9 (n := 186) (q := 1) (by decide +kernel) rfl (nI_1 _) ?_
              refine z_goto (n := 189) (off := -40) (tgt := 146) (by decide +kernel) ?_
              exact ihq
        refine z_ild7 (n := 136) (by decide +kernel) ?_
        refine z_ild1 (n := 137) (by decide +kernel) ?_
        refine z_icmp_ge_f (n := 140) (off := 76) (tgt := 213) (by decide +kernel) (nI_ge (by omega) (by omega)) ?_
        refine z_iconst (n := 141) (q := 0) (v := 0) (by decide +kernel) ?_
        refine z_ist8 (n := 143) (by decide +kernel) rfl ?_
        refine z_iconst (n := 144) (q := 0) (v := 0) (by decide +kernel) ?_
        refine z_ist9 (n := 146) (by decide +kernel) rfl ?_
        exact z_wk (lv' := [some (.ref Q), some (.int (nI (n' + 1))), some (.int (nI K)), none, none, some (.int b), some (.int (nI l)), some (.int (nI (u + 1))), some (.int (nI 0)), some (.int (nI 0))]) (by simp [wk]; rfl) (l5 3 0 (by omega))
    have l3 : ∀ w r, r + w = al → ∀ (hX : mH) (ct9 : Nat → Int32), mnxF h hX Q → hX (Q + 16) = aI 12 wt' → (∃ sp u si, hX (Q + 13) = aI 12 sp ∧ hX (Q + 14) = aI 12 u ∧ hX (Q + 15) = aI 12 si) → hX (Q + 17) = aI 36 ct9 → (∀ p s, p + 1 < n' + 1 → s < 3 → ct9 (3 * (p + 1) + s) = nI (cnL (P r) (p + 1) s)) → Z G m_X11_next d 0 0 0 0 58 [some (.ref Q), some (.int (nI (n' + 1))), some (.int (nI K)), some (.int (nI al)), some (.int (nI (P r).length)), some (.int (nI r)), none, none, none, none] [] hX (fun r h' => r = some (.int (bsF (mxL (P al)) n' 1 (P al).length (-1))) ∧ (mnxF h h' Q ∧ moC h' Q ∧ ∃ ct', h' (Q + 17) = aI 36 ct')) := by
      intro w
      induction w with
      | zero =>
        intro r hr hX ct9 F g16 M g17 hct
        have e : r = al := by omega
        subst e
        obtain ⟨sp, u, si, m1, m2, m3⟩ := M
        have g0 := (F Q (by omega) (by omega) (by omega) (by omega) (by omega)).trans hQ
        refine z_ild5 (n := 60) (by decide +kernel) ?_
        refine z_ild3 (n := 61) (by decide +kernel) ?_
        refine z_icmp_ge_t (n := 64) (off := 63) (tgt := 124) (by decide +kernel) (Int32.le_refl _) ?_
        refine z_iconst (n := 125) (q := -1) (v := -1) (by decide +kernel) ?_
        refine z_ist5 (n := 127) (by decide +kernel) rfl ?_
        refine z_ild4 (n := 129) (by decide +kernel) ?_
        refine z_ist6 (n := 131) (by decide +kernel) rfl ?_
        refine z_iconst (n := 132) (q := 1) (v := 1) (by decide +kernel) ?_
        refine z_ist7 (n := 134) (by decide +kernel) rfl ?_
        exact z_wk (lv' := [some (.ref Q), some (.int (nI (n' + 1))), some (.int (nI K)), none, none, some (.int (-1)), some (.int (nI (P r).length)), some (.int (nI (0 + 1))), none, none]) (by simp [wk]; rfl) (l4 hX ct9 F ⟨⟨_, m1⟩, ⟨_, m2⟩, ⟨_, m3⟩, ⟨_, g16⟩⟩ g0 g17 hct n' 0 _ _ (by omega) b31 rfl)
      | succ w ih =>
        intro r hr hX ct9 F g16 M g17 hct
        obtain ⟨sp, u, si, m1, m2, m3⟩ := M
        have g0 := (F Q (by omega) (by omega) (by omega) (by omega) (by omega)).trans hQ
        have fv := m_fits (G := G) (n := n' + 1) (k := K) (r := r) 2 (by omega) hn2 hn hK (by rw [Nat.add_sub_cancel, hal]; omega) g0 m1 m2 m3 g16 hw'
        rw [Nat.add_sub_cancel, hal] at fv
        refine z_ild5 (n := 60) (by decide +kernel) ?_
        refine z_ild3 (n := 61) (by decide +kernel) ?_
        refine z_icmp_ge_f (n := 64) (off := 63) (tgt := 124) (by decide +kernel) (nI_ge (by omega) (by omega)) ?_
        refine z_ald0 (n := 65) (by decide +kernel) ?_
        refine z_ild1 (n := 66) (by decide +kernel) ?_
        refine z_ild2 (n := 67) (by decide +kernel) ?_
        refine z_ild5 (n := 69) (by decide +kernel) ?_
        refine z_ild3 (n := 70) (by decide +kernel) ?_
        refine z_g4 (n := 73) (idx := 243) (by decide +kernel) ml_X11_243 (by assumption) rfl (Nat.le_of_ble_eq_true rfl) (by omega) ⟨Nat.le_refl _, Nat.le_refl _⟩ (fv) (fun x70 h70 q70 => ?_)
        skip
        obtain ⟨y1, y2, y3, y4⟩ := q70
        have F2 : mnxF h h70 Q := fun j a b c d e => (y2 j a b c).trans (F j a b c d e)
        have k16 := (y2 (Q + 16) (by omega) (by omega) (by omega)).trans g16
        have k17 := (y2 (Q + 17) (by omega) (by omega) (by omega)).trans g17
        obtain ⟨rf, rt⟩ := rowF_eq (n := n' + 1) (to := wt') (k := K) (st := st0) (r := r)
        cases x70 with
        | false =>
          have ep : P (r + 1) = P r := by rw [← hP, rwP_s, rf y1.symm, List.append_nil]
          refine z_ifb_ne_f (n := 76) (off := 6) (tgt := 79) (by decide +kernel) (rfl) ?_
          refine z_goto (n := 79) (off := 42) (tgt := 118) (by decide +kernel) ?_
          refine z_inc5 (n := 121) (q := 1) (by decide +kernel) rfl (nI_1 _) ?_
          refine z_goto (n := 124) (off := -63) (tgt := 58) (by decide +kernel) ?_
          skip
          have q := ih (r + 1) (by omega) h70 ct9 F2 k16 y3 k17 (by rw [ep]; exact hct)
          rw [ep] at q
          exact q
        | true =>
          obtain ⟨s, s1, s2, s3⟩ := rt y1.symm
          have epl : P (r + 1) = P r ++ [(digs (2 * (n' + 1 - 1)) K r, s.2.2)] := by rw [← hP, rwP_s, s3]
          have ep : (P (r + 1)).length = (P r).length + 1 := by rw [epl]; simp
          have ecn : ∀ p t, cnL (P (r + 1)) p t = cnL (P r) p t + (if s.2.2 p = t then 1 else 0) := by
            intro p t
            rw [epl, cnL_app]
            refine congrArg (cnL (P r) p t + ·) ?_
            unfold cnL
            rw [List.filter_cons]
            by_cases c9 : s.2.2 p = t
            · rw [if_pos c9, if_pos (by simpa using c9)]; rfl
            · rw [if_neg c9, if_neg (by simpa using c9)]; rfl
          have sb := (runM_b hn2 hn K r st0 s 20 (bnS_mono (bnS_0 hn) (by omega)) (by omega) (by rw [Nat.add_sub_cancel, hal]; omega) s1).2
          have Ms := y4 s s1
          have l6 : ∀ v u, u + v = n' → ∀ (hY : mH) (ct8 : Nat → Int32), (∀ j, j ≠ Q + 17 → hY j = h70 j) → hY (Q + 17) = aI 36 ct8 → (∀ p t, p + 1 < n' + 1 → t < 3 → ct8 (3 * (p + 1) + t) = nI (cnL (P r) (p + 1) t + (if p < u ∧ s.2.2 (p + 1) = t then 1 else 0))) → Z G m_X11_next d 0 0 0 0 85 [some (.ref Q), some (.int (nI (n' + 1))), some (.int (nI K)), some (.int (nI al)), some (.int (nI ((P r).length + 1))), some (.int (nI r)), some (.int (nI (u + 1))), none, none, none] [] hY (fun r h' => r = some (.int (bsF (mxL (P al)) n' 1 (P al).length (-1))) ∧ (mnxF h h' Q ∧ moC h' Q ∧ ∃ ct', h' (Q + 17) = aI 36 ct')) := by
            intro v
            induction v with
            | zero =>
              intro u hu9 hY ct8 FY gY hct8
              refine z_ild6 (n := 87) (by decide +kernel) ?_
              refine z_ild1 (n := 88) (by decide +kernel) ?_
              refine z_icmp_ge_t (n := 91) (off := 30) (tgt := 118) (by decide +kernel) (by rw [show u = n' by omega]; exact Int32.le_refl _) ?_
              refine z_inc5 (n := 121) (q := 1) (by decide +kernel) rfl (nI_1 _) ?_
              refine z_goto (n := 124) (off := -63) (tgt := 58) (by decide +kernel) ?_
              skip
              have q := ih (r + 1) (by omega) hY ct8 (fun j a b c d e => (FY j e).trans (F2 j a b c d e)) ((FY _ (by omega)).trans k16) (by obtain ⟨x1, x2, x3, z1, z2, z3⟩ := y3; exact ⟨x1, x2, x3, (FY _ (by omega)).trans z1, (FY _ (by omega)).trans z2, (FY _ (by omega)).trans z3⟩) gY (fun p t hp ht => by rw [hct8 p t hp ht, ecn]; simp only [show p < u by omega, true_and])
              rw [ep] at q
              exact z_wk (lv' := [some (.ref Q), some (.int (nI (n' + 1))), some (.int (nI K)), some (.int (nI al)), some (.int (nI ((P r).length + 1))), some (.int (nI (r + 1))), none, none, none, none]) (by simp [wk]) q
            | succ v ihv =>
              intro u hu9 hY ct8 FY gY hct8
              have Ms2 := Ms
              obtain ⟨xs, xu, xi, n1, n2, n3, n4, n5⟩ := Ms2
              have g0 := (FY Q (by omega)).trans ((y2 Q (by omega) (by omega) (by omega)).trans ((F Q (by omega) (by omega) (by omega) (by omega) (by omega)).trans hQ))
              have gi := (FY (Q + 15) (by omega)).trans n3
              have es := n5 u (by omega)
              have ss := sb (u + 1) (by omega)
              have u12 : u + 1 < 12 := by omega
              have i1 : ix (3 * nI (u + 1) + nI (s.2.2 (u + 1))) (3 * (u + 1) + s.2.2 (u + 1)) 36 := by
                rw [show (3 : Int32) = nI 3 from rfl, pk_mul, nI_add]
                exact ix_nI (by omega) (by omega)
              have ec := hct8 u (s.2.2 (u + 1)) (by omega) ss
              rw [if_neg (by omega), Nat.add_zero] at ec
              refine z_ild6 (n := 87) (by decide +kernel) ?_
              refine z_ild1 (n := 88) (by decide +kernel) ?_
              refine z_icmp_ge_f (n := 91) (off := 30) (tgt := 118) (by decide +kernel) (nI_ge (by omega) (by omega)) ?_
              refine z_ald0 (n := 92) (by decide +kernel) ?_
              refine z_getf (n := 95) (idx := 68) (by decide +kernel) fl_X11_68 (by first | assumption | (simp (disch := omega) only [hu_s, hu_n]; first | assumption | rfl)) (by rfl) ?_
              refine z_iconst (n := 96) (q := 3) (v := 3) (by decide +kernel) ?_
              refine z_ild6 (n := 98) (by decide +kernel) ?_
              refine z_imul (n := 99) (by decide +kernel) ?_
              refine z_ald0 (n := 100) (by decide +kernel) ?_
              refine z_getf (n := 103) (idx := 62) (by decide +kernel) fl_X11_62 (by first | assumption | (simp (disch := omega) only [hu_s, hu_n]; first | assumption | rfl)) (by rfl) ?_
              refine z_ild6 (n := 105) (by decide +kernel) ?_
              refine z_iald (n := 106) (by decide +kernel) (by first | assumption | (simp (disch := omega) only [hu_s, hu_n]; first | assumption | rfl)) (by first | assumption | exact ix_nI (by omega) (by omega)) ?_
              refine z_top es ?_
              refine z_iadd (n := 107) (by decide +kernel) ?_
              refine z_dup2 (n := 108) (by decide +kernel) rfl rfl ?_
              refine z_iald (n := 109) (by decide +kernel) (by first | assumption | (simp (disch := omega) only [hu_s, hu_n]; first | assumption | rfl)) (by exact i1) ?_
              refine z_top ec ?_
              refine z_iconst (n := 110) (q := 1) (v := 1) (by decide +kernel) ?_
              refine z_iadd (n := 111) (by decide +kernel) ?_
              refine z_top (nI_1 _) ?_
              refine z_iast (n := 112) (by decide +kernel) (by first | assumption | (simp (disch := omega) only [hu_s, hu_n]; first | assumption | rfl)) (by exact i1) ?_
              refine z_inc6 (n := 115) (q := 1) (by decide +kernel) rfl (nI_1 _) ?_
              refine z_goto (n := 118) (off := -30) (tgt := 85) (by decide +kernel) ?_
              skip
              refine ihv (u + 1) (by omega) _ (upd ct8 (3 * (u + 1) + s.2.2 (u + 1)) (nI (cnL (P r) (u + 1) (s.2.2 (u + 1)) + 1))) (fun j hj => (hu_n hj).trans (FY j hj)) hu_s (fun p t hp ht => ?_)
              by_cases c9 : p = u
              · subst c9
                by_cases c8 : s.2.2 (p + 1) = t
                · subst c8
                  rw [upd_ss, if_pos ⟨by omega, rfl⟩]
                · rw [upd_nn (by omega), hct8 p t hp ht, if_neg (by omega), if_neg (fun z => c8 z.2)]
              · rw [upd_nn (by omega), hct8 p t hp ht]
                by_cases c7 : p < u
                · simp only [c7, show p < u + 1 by omega]
                · simp only [c7, show ¬ p < u + 1 by omega]
          refine z_ifb_ne_t (n := 76) (off := 6) (tgt := 79) (by decide +kernel) (rfl) ?_
          refine z_inc4 (n := 82) (q := 1) (by decide +kernel) rfl (nI_1 _) ?_
          refine z_iconst (n := 83) (q := 1) (v := 1) (by decide +kernel) ?_
          refine z_ist6 (n := 85) (by decide +kernel) rfl ?_
          exact z_wk (lv' := [some (.ref Q), some (.int (nI (n' + 1))), some (.int (nI K)), some (.int (nI al)), some (.int (nI ((P r).length + 1))), some (.int (nI r)), some (.int (nI (0 + 1))), none, none, none]) (by simp [wk]; rfl) (l6 n' 0 (by omega) h70 ct9 (fun _ _ => rfl) k17 (fun p t hp ht => by rw [hct p t hp ht, if_neg (by omega)]; rfl))
    have l2 : ∀ w u, u + w = 36 → ∀ (ct9 : Nat → Int32), (∀ j, j < u → ct9 j = 0) → Z G m_X11_next d 0 0 0 0 27 [some (.ref Q), some (.int (nI (n' + 1))), some (.int (nI K)), some (.int (nI u)), none, none, none, none, none, none] [] (hu (hu h (Q + 16) (aI 12 wt')) (Q + 17) (aI 36 ct9)) (fun r h' => r = some (.int (bsF (mxL (P al)) n' 1 (P al).length (-1))) ∧ (mnxF h h' Q ∧ moC h' Q ∧ ∃ ct', h' (Q + 17) = aI 36 ct')) := by
      intro w
      induction w with
      | zero =>
        intro u hu9 ct9 hct
        have rv := m_rowsOf (G := G) (h := hu (hu h (Q + 16) (aI 12 wt')) (Q + 17) (aI 36 ct9)) (n := n' + 1) (k := K) 0 (by omega) hn hK
        rw [Nat.add_sub_cancel, hal] at rv
        refine z_ild3 (n := 28) (by decide +kernel) ?_
        refine z_bipush (n := 30) (q := 36) (v := 36) (by decide +kernel) ?_
        refine z_icmp_ge_t (n := 33) (off := 16) (tgt := 46) (by decide +kernel) (by rw [show u = 36 by omega]; decide) ?_
        refine z_ild1 (n := 47) (by decide +kernel) ?_
        refine z_ild2 (n := 48) (by decide +kernel) ?_
        refine z_s2 (n := 51) (idx := 240) (by decide +kernel) ml_X11_240 (Nat.le_of_ble_eq_true rfl) (by omega) ⟨Nat.le_refl _, Nat.le_refl _⟩ (rv) ?_
        refine z_ist3 (n := 52) (by decide +kernel) rfl ?_
        refine z_iconst (n := 53) (q := 0) (v := 0) (by decide +kernel) ?_
        refine z_ist4 (n := 55) (by decide +kernel) rfl ?_
        refine z_iconst (n := 56) (q := 0) (v := 0) (by decide +kernel) ?_
        refine z_ist5 (n := 58) (by decide +kernel) rfl ?_
        skip
        have p0 : P 0 = [] := by rw [← hP]; rfl
        exact z_wk (lv' := [some (.ref Q), some (.int (nI (n' + 1))), some (.int (nI K)), some (.int (nI al)), some (.int (nI (P 0).length)), some (.int (nI 0)), none, none, none, none]) (by rw [p0]; simp [wk]; rfl) (l3 al 0 (by omega) _ ct9 (fun j a b c d e => by rw [hu_n e, hu_n d]) (by simp (disch := omega) only [hTn, hCr, hFl, hu_s, hu_n]; first | done | assumption | rfl) ⟨sp, up, si, (by simp (disch := omega) only [hTn, hCr, hFl, hu_s, hu_n]; first | done | assumption | rfl), (by simp (disch := omega) only [hTn, hCr, hFl, hu_s, hu_n]; first | done | assumption | rfl), (by simp (disch := omega) only [hTn, hCr, hFl, hu_s, hu_n]; first | done | assumption | rfl)⟩ (by simp (disch := omega) only [hTn, hCr, hFl, hu_s, hu_n]; first | done | assumption | rfl) (fun p t hp ht => by rw [p0, hct _ (by omega)]; rfl))
      | succ w ih =>
        intro u hu9 ct9 hct
        have u36 : u < 36 := by omega
        refine z_ild3 (n := 28) (by decide +kernel) ?_
        refine z_bipush (n := 30) (q := 36) (v := 36) (by decide +kernel) ?_
        refine z_icmp_ge_f (n := 33) (off := 16) (tgt := 46) (by decide +kernel) (nI_ge (b := 36) (by omega) (by omega)) ?_
        refine z_ald0 (n := 34) (by decide +kernel) ?_
        refine z_getf (n := 37) (idx := 68) (by decide +kernel) fl_X11_68 (by first | assumption | (simp (disch := omega) only [hu_s, hu_n]; first | assumption | rfl)) (by rfl) ?_
        refine z_ild3 (n := 38) (by decide +kernel) ?_
        refine z_iconst (n := 39) (q := 0) (v := 0) (by decide +kernel) ?_
        refine z_iast (n := 40) (by decide +kernel) (by first | assumption | (simp (disch := omega) only [hu_s, hu_n]; first | assumption | rfl)) (by first | assumption | exact ix_nI (by omega) (by omega)) ?_
        refine z_inc3 (n := 43) (q := 1) (by decide +kernel) rfl (nI_1 _) ?_
        refine z_goto (n := 46) (off := -16) (tgt := 27) (by decide +kernel) ?_
        skip
        rw [hu_hu]
        refine ih (u + 1) (by omega) _ (fun j hj => ?_)
        by_cases c9 : j = u
        · subst c9; exact upd_ss
        · rw [upd_nn c9]; exact hct j (by omega)
    refine z_iconst (n := 26) (q := 0) (v := 0) (by decide +kernel) ?_
    refine z_ist3 (n := 27) (by decide +kernel) rfl ?_
    skip
    have q := l2 36 0 (by omega) ct (fun j hj => absurd hj (Nat.not_lt_zero _))
    have eq : hu (hu h (Q + 16) (aI 12 wt')) (Q + 17) (aI 36 ct) = hu h (Q + 16) (aI 12 wt') := by
      have e1 : (hu h (Q + 16) (aI 12 wt')) (Q + 17) = aI 36 ct := (hu_n (by omega)).trans h17
      rw [← e1]
      exact hu_same
    rw [eq] at q
    exact q
  · have ew : nxtC (wtM a) x k = -1 := if_neg c
    rw [ew]
    refine ev_3_7 rfl rfl rfl (by decide +kernel) (by decide +kernel) ?_
    refine z_ild1 (n := 1) (by decide +kernel) ?_
    refine z_iconst (n := 2) (q := 2) (v := 2) (by decide +kernel) ?_
    refine z_bipush (n := 4) (q := 12) (v := 12) (by decide +kernel) ?_
    refine z_s3 (n := 7) (idx := 81) (by decide +kernel) ml_X11_81 (Nat.le_of_ble_eq_true rfl) (by omega) ⟨Nat.le_refl _, Nat.le_refl _⟩ (m_isIn 0) ?_
    refine z_ifb_eq (n := 10) (off := 12) (tgt := 19) (by decide +kernel) (fun c7 => ?_) (fun c7 => ?_)
    · refine z_iconst (n := 20) (q := -1) (v := -1) (by decide +kernel) ?_
      refine z_iret (by decide +kernel) rfl (Nat.le_refl _) ?_
      exact ⟨rfl, fun _ _ _ _ _ _ => rfl, hC, ct, h17⟩
    · refine z_ild2 (n := 11) (by decide +kernel) ?_
      refine z_iconst (n := 12) (q := 1) (v := 1) (by decide +kernel) ?_
      refine z_iconst (n := 13) (q := 3) (v := 3) (by decide +kernel) ?_
      refine z_s3 (n := 16) (idx := 81) (by decide +kernel) ml_X11_81 (Nat.le_of_ble_eq_true rfl) (by omega) ⟨Nat.le_refl _, Nat.le_refl _⟩ (m_isIn 0) ?_
      refine z_ifb_ne (n := 19) (off := 5) (tgt := 21) (by decide +kernel) (fun c16 => ?_) (fun c16 => ?_)
      · exact absurd (by rw [c7, c16]; rfl) c
      · refine z_iconst (n := 20) (q := -1) (v := -1) (by decide +kernel) ?_
        refine z_iret (by decide +kernel) rfl (Nat.le_refl _) ?_
        exact ⟨rfl, fun _ _ _ _ _ _ => rfl, hC, ct, h17⟩
