/-! CreasedPaperModel: orders -/
def moF (h h' : mH) (Q : Nat) : Prop := ∀ j, j ≠ Q + 13 → j ≠ Q + 14 → j ≠ Q + 15 → j ≠ Q + 16 → h' j = h j
theorem moF_rf {h : mH} {Q : Nat} : moF h h Q := fun _ _ _ _ _ => rfl
theorem moF_tr {h h1 h2 : mH} {Q : Nat} (a : moF h h1 Q) (b : moF h1 h2 Q) : moF h h2 Q := fun j p q r s => (b j p q r s).trans (a j p q r s)
def moC (h : mH) (Q : Nat) : Prop := (∃ f, h (Q + 13) = aI 12 f) ∧ (∃ f, h (Q + 14) = aI 12 f) ∧ (∃ f, h (Q + 15) = aI 12 f) ∧ ∃ f, h (Q + 16) = aI 12 f
def rwP (n : Nat) (to : Nat → Int32) (k r : Nat) : List sL := rgF (rowF n to k st0) r 0
theorem rwP_s {n k r : Nat} {to : Nat → Int32} : rwP n to k (r + 1) = rwP n to k r ++ rowF n to k st0 r := by
  unfold rwP
  rw [rgF_app, Nat.zero_add, rgF, rgF, List.append_nil]
theorem rwP_get {n k r : Nat} {to : Nat → Int32} {e : sL} : ∀ w, rowF n to k st0 r = [e] → (rwP n to k r).length < (rwP n to k (r + 1 + w)).length ∧ (rwP n to k (r + 1 + w)).getD (rwP n to k r).length dL = e
  | w, he => by
    have e1 : rwP n to k (r + 1 + w) = rwP n to k r ++ ([e] ++ rgF (rowF n to k st0) w (r + 1)) := by
      unfold rwP
      rw [rgF_app, rgF_app r 1 0, Nat.zero_add, Nat.zero_add, List.append_assoc]
      rw [show rgF (rowF n to k st0) 1 r = [e] from by rw [rgF, rgF, List.append_nil, he]]
    rw [e1]
    refine ⟨by simp, ?_⟩
    have := getD_appR (l1 := rwP n to k r) (l2 := [e] ++ rgF (rowF n to k st0) w (r + 1)) (i := 0) (x := dL)
    exact this.trans rfl
theorem digI_odd {f : Nat} (h : ¬ f % 2 = 0) : (-1 : Int32) - nI (f / 2) = digI f := by
  unfold digI digR
  rw [decide_eq_false h, if_neg (by decide)]
  unfold digL
  rw [← nI_add, Int32.neg_add, show -nI 1 = (-1 : Int32) by decide]
theorem digI_even {f : Nat} (h : f % 2 = 0) : (1 : Int32) + nI (f / 2) = digI f := by
  unfold digI digR
  rw [decide_eq_true h, if_pos rfl]
  exact nI_add 1 (f / 2)
theorem m_orders {G : mG} {h : mH} {Q lk : Nat} {N : Int32} {m : Nat → Int32} {wd : Int64} {a : Nat → Int32} {x k i j : Int32} (d : Nat) (hd : 3 ≤ d) (hQ : h Q = oMod Q N m wd) (hA : h (Q + 1) = aI 600 a) (hC : moC h Q) (h3 : a 3 = nI lk) (hl : lk ≤ 100) (hp : ∀ t, t < lk → ∃ q, q < 12 ∧ a (370 + 2 * t) = nI q) (hw : ∀ p, p < 12 → wtM a p = -1 ∨ 0 ≤ wtM a p) : EV G m_X11_orders d 0 0 [.ref Q, .int x, .int k, .int i, .int j] h (fun r h' => r = some (.int (ordC (wtM a) x k i j)) ∧ (moF h h' Q ∧ moC h' Q)) := by
  by_cases c : (win x 2 12 && win k 1 3 && decide (-1 ≤ i)) = true
  · have cc := c
    simp only [Bool.and_eq_true, decide_eq_true_eq] at cc
    obtain ⟨⟨c1, c2⟩, c3⟩ := cc
    obtain ⟨n, hn2, hn, rfl⟩ := win_28 (lo := 2) (hi := 12) c1 (by omega) (by omega)
    obtain ⟨K, hK1, hK, rfl⟩ := win_28 (lo := 1) (hi := 3) c2 (by omega) (by omega)
    have ew : ordC (wtM a) (nI n) (nI K) i j = ordN (srF n (wtM a) K st0) K i j := by unfold ordC; rw [if_pos c, nI_clamp (by omega), nI_clamp (by omega)]
    rw [ew]
    have b31 := srF_31 (to := wtM a) (st := st0) hn hK
    obtain ⟨n', rfl⟩ : ∃ n', n = n' + 1 := ⟨n - 1, by omega⟩
    have pb : ∀ j, j ≤ 3 → (2 * n') ^ j ≤ 10648 := fun j hj => Nat.le_trans (Nat.pow_le_pow_left (show 2 * n' ≤ 22 by omega) j) (Nat.le_trans (Nat.pow_le_pow_right (by omega) hj) (by decide))
    have f44 : (i = -1 ∨ win j 0 (nI (K - 1)) = true) → Z G m_X11_orders d 0 0 0 0 44 [some (.ref Q), some (.int (nI (n' + 1))), some (.int (nI K)), some (.int i), some (.int j), none, none, none, none, none] [] h (fun r h' => r = some (.int (ordN (srF (n' + 1) (wtM a) K st0) K i j)) ∧ (moF h h' Q ∧ moC h' Q)) := by
      intro hij
      obtain ⟨⟨sp, g13⟩, ⟨up, g14⟩, ⟨si, g15⟩, ⟨wt, g16⟩⟩ := hC
      refine z_ald0 (n := 45) (by decide +kernel) ?_
      refine z_w0v (n := 48) (idx := 237) (by decide +kernel) ml_X11_237 (by assumption) rfl (Nat.le_of_ble_eq_true rfl) (by omega) ⟨Nat.le_refl _, Nat.le_refl _⟩ (m_lookAll (lk := lk) (wt := wt) 0 hQ hA g16 h3 hl hp) (fun h45 q45 => ?_)
      skip
      obtain ⟨wt', rfl, hwt⟩ := q45
      have el : srF (n' + 1) wt' K st0 = srF (n' + 1) (wtM a) K st0 := srF_ag (fun p hp => hwt (p + 1) (by omega)) K st0
      have eR : srF (n' + 1) (wtM a) K st0 = rwP (n' + 1) wt' K ((2 * n') ^ K) := by rw [← el, srF_rows hn2 K st0]; rfl
      generalize hal : (2 * n') ^ K = al at *
      have alb : al ≤ 10648 := by rw [← hal]; exact pb K hK
      have hw' : ∀ p, p < 12 → wt' p = -1 ∨ 0 ≤ wt' p := fun p hp => by rw [hwt p hp]; exact hw p hp
      rw [eR] at b31 ⊢
      have lp : ∀ w r, r + w = al → ∀ hX, mlF (hu h (Q + 16) (aI 12 wt')) hX Q → (∃ sp u si, hX (Q + 13) = aI 12 sp ∧ hX (Q + 14) = aI 12 u ∧ hX (Q + 15) = aI 12 si) → (rwP (n' + 1) wt' K r).length ≤ 10648 → (∀ t, t < (rwP (n' + 1) wt' K r).length → ¬ i = nI t) → Z G m_X11_orders d 0 0 0 0 61 [some (.ref Q), some (.int (nI (n' + 1))), some (.int (nI K)), some (.int i), some (.int j), some (.int (nI al)), some (.int (nI (rwP (n' + 1) wt' K r).length)), some (.int (nI r)), none, none] [] hX (fun r h' => r = some (.int (ordN (rwP (n' + 1) wt' K al) K i j)) ∧ (moF h h' Q ∧ moC h' Q)) := by
        intro w
        induction w with
        | zero =>
          intro r hr hX F M b1 b2
          obtain ⟨sp, u, si, m1, m2, m3⟩ := M
          have e : r = al := by omega
          subst e
          have fin : moF h hX Q ∧ moC hX Q := ⟨fun j p q r s => (F j p q r).trans (hu_n s), ⟨_, m1⟩, ⟨_, m2⟩, ⟨_, m3⟩, ⟨_, (F (Q + 16) (by omega) (by omega) (by omega)).trans hu_s⟩⟩
          unfold ordN
          by_cases ci : i = -1
          · rw [if_pos ci]
            refine z_ild7 (n := 63) (by decide +kernel) ?_
            refine z_ild5 (n := 65) (by decide +kernel) ?_
            refine z_icmp_ge_t (n := 68) (off := 99) (tgt := 164) (by decide +kernel) (Int32.le_refl _) ?_
            refine z_ild3 (n := 165) (by decide +kernel) ?_
            refine z_iconst (n := 166) (q := -1) (v := -1) (by decide +kernel) ?_
            refine z_icmp_ne_f (n := 169) (off := 8) (tgt := 174) (by decide +kernel) (ci) ?_
            refine z_ild6 (n := 171) (by decide +kernel) ?_
            refine z_goto (n := 174) (off := 6) (tgt := 177) (by decide +kernel) ?_
            refine z_iret (by decide +kernel) rfl (Nat.le_refl _) ?_
            exact ⟨rfl, fin⟩
          · rw [if_neg ci, if_pos (hij.resolve_left ci)]
            have hi0 : ¬ i < 0 := fun z => ci (Int32.le_antisymm (i_ltm z) c3)
            obtain ⟨i9, hi9, rfl⟩ := nI_of hi0
            rw [nI_clamp hi9, if_neg (fun z => b2 i9 z rfl)]
            refine z_ild7 (n := 63) (by decide +kernel) ?_
            refine z_ild5 (n := 65) (by decide +kernel) ?_
            refine z_icmp_ge_t (n := 68) (off := 99) (tgt := 164) (by decide +kernel) (Int32.le_refl _) ?_
            refine z_ild3 (n := 165) (by decide +kernel) ?_
            refine z_iconst (n := 166) (q := -1) (v := -1) (by decide +kernel) ?_
            refine z_icmp_ne_t (n := 169) (off := 8) (tgt := 174) (by decide +kernel) (ci) ?_
            refine z_sipush (n := 177) (q := -1000) (v := -1000) (by decide +kernel) ?_
            refine z_iret (by decide +kernel) rfl (Nat.le_refl _) ?_
            exact ⟨rfl, fin⟩
        | succ w ih =>
          intro r hr hX F M b1 b2
          obtain ⟨sp, u, si, m1, m2, m3⟩ := M
          have g0 := (F Q (by omega) (by omega) (by omega)).trans ((hu_n (by omega)).trans hQ)
          have g16 : hX (Q + 16) = aI 12 wt' := (F (Q + 16) (by omega) (by omega) (by omega)).trans hu_s
          have fv := m_fits (G := G) (n := n' + 1) (k := K) (r := r) 2 (by omega) hn2 hn hK (by rw [Nat.add_sub_cancel, hal]; omega) g0 m1 m2 m3 g16 hw'
          rw [Nat.add_sub_cancel, hal] at fv
          refine z_ild7 (n := 63) (by decide +kernel) ?_
          refine z_ild5 (n := 65) (by decide +kernel) ?_
          refine z_icmp_ge_f (n := 68) (off := 99) (tgt := 164) (by decide +kernel) (nI_ge (by omega) (by omega)) ?_
          refine z_ald0 (n := 69) (by decide +kernel) ?_
          refine z_ild1 (n := 70) (by decide +kernel) ?_
          refine z_ild2 (n := 71) (by decide +kernel) ?_
          refine z_ild7 (n := 73) (by decide +kernel) ?_
          refine z_ild5 (n := 75) (by decide +kernel) ?_
          refine z_g4 (n := 78) (idx := 243) (by decide +kernel) ml_X11_243 (by assumption) rfl (Nat.le_of_ble_eq_true rfl) (by omega) ⟨Nat.le_refl _, Nat.le_refl _⟩ (fv) (fun x75 h75 q75 => ?_)
          skip
          obtain ⟨y1, y2, y3, y4⟩ := q75
          have F2 := mlF_tr F y2
          obtain ⟨rf, rt⟩ := rowF_eq (n := n' + 1) (to := wt') (k := K) (st := st0) (r := r)
          cases x75 with
          | false =>
            have ep : rwP (n' + 1) wt' K (r + 1) = rwP (n' + 1) wt' K r := by rw [rwP_s, rf y1.symm, List.append_nil]
            refine z_ifb_ne_f (n := 81) (off := 6) (tgt := 84) (by decide +kernel) (rfl) ?_
            refine z_goto (n := 84) (off := 77) (tgt := 158) (by decide +kernel) ?_
            refine z_inc7 (n := 161) (q := 1) (by decide +kernel) rfl (nI_1 _) ?_
            refine z_goto (n := 164) (off := -100) (tgt := 61) (by decide +kernel) ?_
            skip
            have q := ih (r + 1) (by omega) h75 F2 y3 (by rw [ep]; exact b1) (by rw [ep]; exact b2)
            rw [ep] at q
            exact q
          | true =>
            obtain ⟨s, s1, s2, s3⟩ := rt y1.symm
            have ep : (rwP (n' + 1) wt' K (r + 1)).length = (rwP (n' + 1) wt' K r).length + 1 := by rw [rwP_s, s3]; simp
            have gg := rwP_get w s3
            rw [show r + 1 + w = al by omega] at gg
            by_cases ce : nI (rwP (n' + 1) wt' K r).length = i
            · have ci : ¬ i = -1 := fun z => absurd ((ce.trans z) ▸ nI_pos' (n := (rwP (n' + 1) wt' K r).length) (by omega) : (0 : Int32) ≤ -1) (by decide)
              obtain ⟨K8, rfl⟩ : ∃ K8, K = K8 + 1 := ⟨K - 1, by omega⟩
              have wj := hij.resolve_left ci
              rw [Nat.add_sub_cancel] at wj
              obtain ⟨j9, _, hj9, rfl⟩ := win_28 (lo := 0) (hi := K8) wj (by omega) (by omega)
              have fin : moF h h75 Q ∧ moC h75 Q := by
                obtain ⟨a, b, c, z1, z2, z3⟩ := y3
                exact ⟨fun j p q r s => (F2 j p q r).trans (hu_n s), ⟨_, z1⟩, ⟨_, z2⟩, ⟨_, z3⟩, ⟨_, (F2 (Q + 16) (by omega) (by omega) (by omega)).trans hu_s⟩⟩
              have rb : r < (2 * n') ^ (K8 + 1) := by rw [hal]; omega
              have eo : ordN (rwP (n' + 1) wt' (K8 + 1) al) (K8 + 1) i (nI j9) = digI (r / (2 * n') ^ (K8 - j9) % (2 * n')) := by
                unfold ordN
                rw [if_neg ci, Nat.add_sub_cancel, if_pos wj, ← ce, nI_clamp (by omega), if_pos gg.1, gg.2, nI_clamp (by omega)]
                dsimp only
                have := digs_get (B := 2 * n') (by omega) (K8 + 1) r j9 rb (by omega)
                rw [Nat.add_sub_cancel] at this
                rw [Nat.add_sub_cancel, this]
              rw [eo]
              have r1 : r < 10648 := by omega
              have l2 : ∀ v, j9 + v ≤ K8 → Z G m_X11_orders d 0 0 0 0 99 [some (.ref Q), some (.int (nI (n' + 1))), some (.int (nI (K8 + 1))), some (.int i), some (.int (nI j9)), none, none, none, some (.int (nI (r / (2 * n') ^ (K8 - (j9 + v))))), some (.int (nI (j9 + v)))] [] h75 (fun r9 h' => r9 = some (.int (digI (r / (2 * n') ^ (K8 - j9) % (2 * n')))) ∧ (moF h h' Q ∧ moC h' Q)) := by
                intro v
                induction v with
                | zero =>
                  intro hv
                  rw [Nat.add_zero]
                  have q1 : r / (2 * n') ^ (K8 - j9) ≤ r := Nat.div_le_self _ _
                  generalize r / (2 * n') ^ (K8 - j9) = q at *
                  have q2 : q % (2 * n') < 2 * n' := Nat.mod_lt _ (by omega)
                  generalize hf : q % (2 * n') = f at *
                  by_cases c9 : f % 2 = 0
                  · refine z_ild9 (n := 101) (by decide +kernel) ?_
                    refine z_ild4 (n := 103) (by decide +kernel) ?_
                    refine z_icmp_le_t (n := 106) (off := 19) (tgt := 122) (by decide +kernel) (Int32.le_refl _) ?_
                    refine z_ild8 (n := 124) (by decide +kernel) ?_
                    refine z_iconst (n := 125) (q := 2) (v := 2) (by decide +kernel) ?_
                    refine z_ild1 (n := 126) (by decide +kernel) ?_
                    refine z_iconst (n := 127) (q := 1) (v := 1) (by decide +kernel) ?_
                    refine z_isub (n := 128) (by decide +kernel) ?_
                    refine z_top (nI_pred _) ?_
                    refine z_imul (n := 129) (by decide +kernel) ?_
                    refine z_top (show (2 : Int32) * nI n' = nI (2 * n') from pk_mul 2 n') ?_
                    refine z_irem (n := 130) (by decide +kernel) (nI_ne0 (by omega) (by omega)) ?_
                    refine z_top ((pk_rem (by omega) (by omega) (by omega)).trans (congrArg nI hf)) ?_
                    refine z_ist9 (n := 132) (by decide +kernel) rfl ?_
                    refine z_ild9 (n := 134) (by decide +kernel) ?_
                    refine z_iconst (n := 135) (q := 2) (v := 2) (by decide +kernel) ?_
                    refine z_irem (n := 136) (by decide +kernel) (by decide) ?_
                    refine z_top (pk_rem (d := 2) (by omega) (by decide) (by decide)) ?_
                    refine z_if_ne_f (n := 139) (off := 12) (tgt := 148) (by decide +kernel) (by rw [c9]; rfl) ?_
                    refine z_iconst (n := 140) (q := 1) (v := 1) (by decide +kernel) ?_
                    refine z_ild9 (n := 142) (by decide +kernel) ?_
                    refine z_iconst (n := 143) (q := 2) (v := 2) (by decide +kernel) ?_
                    refine z_idiv (n := 144) (by decide +kernel) (by decide) ?_
                    refine z_top (pk_div (d := 2) (by omega) (by decide) (by decide)) ?_
                    refine z_iadd (n := 145) (by decide +kernel) ?_
                    refine z_top (digI_even c9) ?_
                    refine z_goto (n := 148) (off := 9) (tgt := 154) (by decide +kernel) ?_
                    refine z_iret (by decide +kernel) rfl (Nat.le_refl _) ?_
                    exact ⟨rfl, fin⟩
                  · refine z_ild9 (n := 101) (by decide +kernel) ?_
                    refine z_ild4 (n := 103) (by decide +kernel) ?_
                    refine z_icmp_le_t (n := 106) (off := 19) (tgt := 122) (by decide +kernel) (Int32.le_refl _) ?_
                    refine z_ild8 (n := 124) (by decide +kernel) ?_
                    refine z_iconst (n := 125) (q := 2) (v := 2) (by decide +kernel) ?_
                    refine z_ild1 (n := 126) (by decide +kernel) ?_
                    refine z_iconst (n := 127) (q := 1) (v := 1) (by decide +kernel) ?_
                    refine z_isub (n := 128) (by decide +kernel) ?_
                    refine z_top (nI_pred _) ?_
                    refine z_imul (n := 129) (by decide +kernel) ?_
                    refine z_top (show (2 : Int32) * nI n' = nI (2 * n') from pk_mul 2 n') ?_
                    refine z_irem (n := 130) (by decide +kernel) (nI_ne0 (by omega) (by omega)) ?_
                    refine z_top ((pk_rem (by omega) (by omega) (by omega)).trans (congrArg nI hf)) ?_
                    refine z_ist9 (n := 132) (by decide +kernel) rfl ?_
                    refine z_ild9 (n := 134) (by decide +kernel) ?_
                    refine z_iconst (n := 135) (q := 2) (v := 2) (by decide +kernel) ?_
                    refine z_irem (n := 136) (by decide +kernel) (by decide) ?_
                    refine z_top (pk_rem (d := 2) (by omega) (by decide) (by decide)) ?_
                    refine z_if_ne_t (n := 139) (off := 12) (tgt := 148) (by decide +kernel) (nI_ne0 (by omega) (by omega)) ?_
                    refine z_iconst (n := 149) (q := -1) (v := -1) (by decide +kernel) ?_
                    refine z_ild9 (n := 151) (by decide +kernel) ?_
                    refine z_iconst (n := 152) (q := 2) (v := 2) (by decide +kernel) ?_
                    refine z_idiv (n := 153) (by decide +kernel) (by decide) ?_
                    refine z_top (pk_div (d := 2) (by omega) (by decide) (by decide)) ?_
                    refine z_isub (n := 154) (by decide +kernel) ?_
                    refine z_top (digI_odd c9) ?_
                    refine z_iret (by decide +kernel) rfl (Nat.le_refl _) ?_
                    exact ⟨rfl, fin⟩
                | succ v ihv =>
                  intro hv
                  have q1 : r / (2 * n') ^ (K8 - (j9 + (v + 1))) ≤ r := Nat.div_le_self _ _
                  have ed : r / (2 * n') ^ (K8 - (j9 + (v + 1))) / (2 * n') = r / (2 * n') ^ (K8 - (j9 + v)) := by
                    rw [Nat.div_div_eq_div_mul, ← Nat.pow_succ, show (K8 - (j9 + (v + 1))).succ = K8 - (j9 + v) by omega]
                  refine z_ild9 (n := 101) (by decide +kernel) ?_
                  refine z_ild4 (n := 103) (by decide +kernel) ?_
                  refine z_icmp_le_f (n := 106) (off := 19) (tgt := 122) (by decide +kernel) (nI_ge (by omega) (by omega)) ?_
                  refine z_ild8 (n := 108) (by decide +kernel) ?_
                  refine z_iconst (n := 109) (q := 2) (v := 2) (by decide +kernel) ?_
                  refine z_ild1 (n := 110) (by decide +kernel) ?_
                  refine z_iconst (n := 111) (q := 1) (v := 1) (by decide +kernel) ?_
                  refine z_isub (n := 112) (by decide +kernel) ?_
                  refine z_top (nI_pred _) ?_
                  refine z_imul (n := 113) (by decide +kernel) ?_
                  refine z_top (show (2 : Int32) * nI n' = nI (2 * n') from pk_mul 2 n') ?_
                  refine z_idiv (n := 114) (by decide +kernel) (nI_ne0 (by omega) (by omega)) ?_
                  refine z_top ((pk_div (Nat.lt_of_le_of_lt q1 (by omega)) (by omega) (by omega)).trans (congrArg nI ed)) ?_
                  refine z_ist8 (n := 116) (by decide +kernel) rfl ?_
                  refine z_inc9 (n := 119) (q := -1) (by decide +kernel) rfl ((i_dec _).trans (nI_pred (j9 + v))) ?_
                  refine z_goto (n := 122) (off := -20) (tgt := 99) (by decide +kernel) ?_
                  exact ihv (by omega)
              have l2e := l2 (K8 - j9) (by omega)
              rw [show j9 + (K8 - j9) = K8 by omega, Nat.sub_self, Nat.pow_zero, Nat.div_one] at l2e
              refine z_ifb_ne_t (n := 81) (off := 6) (tgt := 84) (by decide +kernel) (rfl) ?_
              refine z_ild6 (n := 86) (by decide +kernel) ?_
              refine z_ild3 (n := 87) (by decide +kernel) ?_
              refine z_icmp_ne_f (n := 90) (off := 68) (tgt := 155) (by decide +kernel) (ce) ?_
              refine z_ild7 (n := 92) (by decide +kernel) ?_
              refine z_ist8 (n := 94) (by decide +kernel) rfl ?_
              refine z_ild2 (n := 95) (by decide +kernel) ?_
              refine z_iconst (n := 96) (q := 1) (v := 1) (by decide +kernel) ?_
              refine z_isub (n := 97) (by decide +kernel) ?_
              refine z_top (nI_pred _) ?_
              refine z_ist9 (n := 99) (by decide +kernel) rfl ?_
              exact z_wk (lv' := [some (.ref Q), some (.int (nI (n' + 1))), some (.int (nI (K8 + 1))), some (.int i), some (.int (nI j9)), none, none, none, some (.int (nI r)), some (.int (nI K8))]) (by simp [wk]) l2e
            · refine z_ifb_ne_t (n := 81) (off := 6) (tgt := 84) (by decide +kernel) (rfl) ?_
              refine z_ild6 (n := 86) (by decide +kernel) ?_
              refine z_ild3 (n := 87) (by decide +kernel) ?_
              refine z_icmp_ne_t (n := 90) (off := 68) (tgt := 155) (by decide +kernel) (ce) ?_
              refine z_inc6 (n := 158) (q := 1) (by decide +kernel) rfl (nI_1 _) ?_
              refine z_inc7 (n := 161) (q := 1) (by decide +kernel) rfl (nI_1 _) ?_
              refine z_goto (n := 164) (off := -100) (tgt := 61) (by decide +kernel) ?_
              skip
              have bl : (rwP (n' + 1) wt' K r).length < (rwP (n' + 1) wt' K al).length := gg.1
              have q := ih (r + 1) (by omega) h75 F2 y3 (by rw [ep]; omega) (fun t ht => by
                rw [ep] at ht
                by_cases c9 : t = (rwP (n' + 1) wt' K r).length
                · rw [c9]; exact fun z => ce z.symm
                · exact b2 t (by omega))
              rw [ep] at q
              exact q
      have rv := m_rowsOf (G := G) (h := hu h (Q + 16) (aI 12 wt')) (n := n' + 1) (k := K) 0 (by omega) hn hK
      rw [Nat.add_sub_cancel, hal] at rv
      refine z_ild1 (n := 49) (by decide +kernel) ?_
      refine z_ild2 (n := 50) (by decide +kernel) ?_
      refine z_s2 (n := 53) (idx := 240) (by decide +kernel) ml_X11_240 (Nat.le_of_ble_eq_true rfl) (by omega) ⟨Nat.le_refl _, Nat.le_refl _⟩ (rv) ?_
      refine z_ist5 (n := 55) (by decide +kernel) rfl ?_
      refine z_iconst (n := 56) (q := 0) (v := 0) (by decide +kernel) ?_
      refine z_ist6 (n := 58) (by decide +kernel) rfl ?_
      refine z_iconst (n := 59) (q := 0) (v := 0) (by decide +kernel) ?_
      refine z_ist7 (n := 61) (by decide +kernel) rfl ?_
      skip
      exact z_wk (lv' := [some (.ref Q), some (.int (nI (n' + 1))), some (.int (nI K)), some (.int i), some (.int j), some (.int (nI al)), some (.int (nI (rwP (n' + 1) wt' K 0).length)), some (.int (nI 0)), none, none]) (by simp [wk]; exact ⟨rfl, rfl⟩) (lp al 0 (by omega) _ mlF_rf ⟨sp, up, si, (hu_n (by omega)).trans g13, (hu_n (by omega)).trans g14, (hu_n (by omega)).trans g15⟩ (Nat.zero_le _) (fun t ht => absurd ht (Nat.not_lt_zero _)))
    refine ev_5_5 rfl rfl rfl rfl rfl (by decide +kernel) (by decide +kernel) ?_
    obtain ⟨K8, rfl⟩ : ∃ K8, K = K8 + 1 := ⟨K - 1, by omega⟩
    by_cases c4 : i < 0
    · refine z_ild1 (n := 1) (by decide +kernel) ?_
      refine z_iconst (n := 2) (q := 2) (v := 2) (by decide +kernel) ?_
      refine z_bipush (n := 4) (q := 12) (v := 12) (by decide +kernel) ?_
      refine z_s3 (n := 7) (idx := 81) (by decide +kernel) ml_X11_81 (Nat.le_of_ble_eq_true rfl) (by omega) ⟨Nat.le_refl _, Nat.le_refl _⟩ (m_isIn 0) ?_
      refine z_ifb_eq_f (n := 10) (off := 33) (tgt := 40) (by decide +kernel) (c1) ?_
      refine z_ild2 (n := 11) (by decide +kernel) ?_
      refine z_iconst (n := 12) (q := 1) (v := 1) (by decide +kernel) ?_
      refine z_iconst (n := 13) (q := 3) (v := 3) (by decide +kernel) ?_
      refine z_s3 (n := 16) (idx := 81) (by decide +kernel) ml_X11_81 (Nat.le_of_ble_eq_true rfl) (by omega) ⟨Nat.le_refl _, Nat.le_refl _⟩ (m_isIn 0) ?_
      refine z_ifb_eq_f (n := 19) (off := 24) (tgt := 40) (by decide +kernel) (c2) ?_
      refine z_ild3 (n := 20) (by decide +kernel) ?_
      refine z_iconst (n := 21) (q := -1) (v := -1) (by decide +kernel) ?_
      refine z_icmp_lt_f (n := 24) (off := 19) (tgt := 40) (by decide +kernel) (Int32.not_lt.mpr c3) ?_
      refine z_ild3 (n := 25) (by decide +kernel) ?_
      refine z_if_lt_t (n := 28) (off := 19) (tgt := 44) (by decide +kernel) (c4) ?_
      exact f44 (.inl (Int32.le_antisymm (i_ltm c4) c3))
    · by_cases c5 : win j 0 (nI K8) = true
      · refine z_ild1 (n := 1) (by decide +kernel) ?_
        refine z_iconst (n := 2) (q := 2) (v := 2) (by decide +kernel) ?_
        refine z_bipush (n := 4) (q := 12) (v := 12) (by decide +kernel) ?_
        refine z_s3 (n := 7) (idx := 81) (by decide +kernel) ml_X11_81 (Nat.le_of_ble_eq_true rfl) (by omega) ⟨Nat.le_refl _, Nat.le_refl _⟩ (m_isIn 0) ?_
        refine z_ifb_eq_f (n := 10) (off := 33) (tgt := 40) (by decide +kernel) (c1) ?_
        refine z_ild2 (n := 11) (by decide +kernel) ?_
        refine z_iconst (n := 12) (q := 1) (v := 1) (by decide +kernel) ?_
        refine z_iconst (n := 13) (q := 3) (v := 3) (by decide +kernel) ?_
        refine z_s3 (n := 16) (idx := 81) (by decide +kernel) ml_X11_81 (Nat.le_of_ble_eq_true rfl) (by omega) ⟨Nat.le_refl _, Nat.le_refl _⟩ (m_isIn 0) ?_
        refine z_ifb_eq_f (n := 19) (off := 24) (tgt := 40) (by decide +kernel) (c2) ?_
        refine z_ild3 (n := 20) (by decide +kernel) ?_
        refine z_iconst (n := 21) (q := -1) (v := -1) (by decide +kernel) ?_
        refine z_icmp_lt_f (n := 24) (off := 19) (tgt := 40) (by decide +kernel) (Int32.not_lt.mpr c3) ?_
        refine z_ild3 (n := 25) (by decide +kernel) ?_
        refine z_if_lt_f (n := 28) (off := 19) (tgt := 44) (by decide +kernel) (c4) ?_
        refine z_ild4 (n := 30) (by decide +kernel) ?_
        refine z_iconst (n := 31) (q := 0) (v := 0) (by decide +kernel) ?_
        refine z_ild2 (n := 32) (by decide +kernel) ?_
        refine z_iconst (n := 33) (q := 1) (v := 1) (by decide +kernel) ?_
        refine z_isub (n := 34) (by decide +kernel) ?_
        refine z_top (nI_pred K8) ?_
        refine z_s3 (n := 37) (idx := 81) (by decide +kernel) ml_X11_81 (Nat.le_of_ble_eq_true rfl) (by omega) ⟨Nat.le_refl _, Nat.le_refl _⟩ (m_isIn 0) ?_
        refine z_ifb_ne_t (n := 40) (off := 7) (tgt := 44) (by decide +kernel) (c5) ?_
        exact f44 (.inr c5)
      · have e9 : ordN (srF (n' + 1) (wtM a) (K8 + 1) st0) (K8 + 1) i j = -1000 := by
          unfold ordN
          rw [if_neg (fun z => c4 (by rw [z]; decide)), Nat.add_sub_cancel, if_neg c5]
        rw [e9]
        refine z_ild1 (n := 1) (by decide +kernel) ?_
        refine z_iconst (n := 2) (q := 2) (v := 2) (by decide +kernel) ?_
        refine z_bipush (n := 4) (q := 12) (v := 12) (by decide +kernel) ?_
        refine z_s3 (n := 7) (idx := 81) (by decide +kernel) ml_X11_81 (Nat.le_of_ble_eq_true rfl) (by omega) ⟨Nat.le_refl _, Nat.le_refl _⟩ (m_isIn 0) ?_
        refine z_ifb_eq_f (n := 10) (off := 33) (tgt := 40) (by decide +kernel) (c1) ?_
        refine z_ild2 (n := 11) (by decide +kernel) ?_
        refine z_iconst (n := 12) (q := 1) (v := 1) (by decide +kernel) ?_
        refine z_iconst (n := 13) (q := 3) (v := 3) (by decide +kernel) ?_
        refine z_s3 (n := 16) (idx := 81) (by decide +kernel) ml_X11_81 (Nat.le_of_ble_eq_true rfl) (by omega) ⟨Nat.le_refl _, Nat.le_refl _⟩ (m_isIn 0) ?_
        refine z_ifb_eq_f (n := 19) (off := 24) (tgt := 40) (by decide +kernel) (c2) ?_
        refine z_ild3 (n := 20) (by decide +kernel) ?_
        refine z_iconst (n := 21) (q := -1) (v := -1) (by decide +kernel) ?_
        refine z_icmp_lt_f (n := 24) (off := 19) (tgt := 40) (by decide +kernel) (Int32.not_lt.mpr c3) ?_
        refine z_ild3 (n := 25) (by decide +kernel) ?_
        refine z_if_lt_f (n := 28) (off := 19) (tgt := 44) (by decide +kernel) (c4) ?_
        refine z_ild4 (n := 30) (by decide +kernel) ?_
        refine z_iconst (n := 31) (q := 0) (v := 0) (by decide +kernel) ?_
        refine z_ild2 (n := 32) (by decide +kernel) ?_
        refine z_iconst (n := 33) (q := 1) (v := 1) (by decide +kernel) ?_
        refine z_isub (n := 34) (by decide +kernel) ?_
        refine z_top (nI_pred K8) ?_
        refine z_s3 (n := 37) (idx := 81) (by decide +kernel) ml_X11_81 (Nat.le_of_ble_eq_true rfl) (by omega) ⟨Nat.le_refl _, Nat.le_refl _⟩ (m_isIn 0) ?_
        refine z_ifb_ne_f (n := 40) (off := 7) (tgt := 44) (by decide +kernel) (Bool.eq_false_iff.mpr c5) ?_
        refine z_sipush (n := 43) (q := -1000) (v := -1000) (by decide +kernel) ?_
        refine z_iret (by decide +kernel) rfl (Nat.le_refl _) ?_
        exact ⟨rfl, moF_rf, hC⟩
  · have ew : ordC (wtM a) x k i j = -1000 := if_neg c
    rw [ew]
    refine ev_5_5 rfl rfl rfl rfl rfl (by decide +kernel) (by decide +kernel) ?_
    refine z_ild1 (n := 1) (by decide +kernel) ?_
    refine z_iconst (n := 2) (q := 2) (v := 2) (by decide +kernel) ?_
    refine z_bipush (n := 4) (q := 12) (v := 12) (by decide +kernel) ?_
    refine z_s3 (n := 7) (idx := 81) (by decide +kernel) ml_X11_81 (Nat.le_of_ble_eq_true rfl) (by omega) ⟨Nat.le_refl _, Nat.le_refl _⟩ (m_isIn 0) ?_
    refine z_ifb_eq (n := 10) (off := 33) (tgt := 40) (by decide +kernel) (fun c7 => ?_) (fun c7 => ?_)
    · refine z_sipush (n := 43) (q := -1000) (v := -1000) (by decide +kernel) ?_
      refine z_iret (by decide +kernel) rfl (Nat.le_refl _) ?_
      exact ⟨rfl, moF_rf, hC⟩
    · refine z_ild2 (n := 11) (by decide +kernel) ?_
      refine z_iconst (n := 12) (q := 1) (v := 1) (by decide +kernel) ?_
      refine z_iconst (n := 13) (q := 3) (v := 3) (by decide +kernel) ?_
      refine z_s3 (n := 16) (idx := 81) (by decide +kernel) ml_X11_81 (Nat.le_of_ble_eq_true rfl) (by omega) ⟨Nat.le_refl _, Nat.le_refl _⟩ (m_isIn 0) ?_
      refine z_ifb_eq (n := 19) (off := 24) (tgt := 40) (by decide +kernel) (fun c16 => ?_) (fun c16 => ?_)
      · refine z_sipush (n := 43) (q := -1000) (v := -1000) (by decide +kernel) ?_
        refine z_iret (by decide +kernel) rfl (Nat.le_refl _) ?_
        exact ⟨rfl, moF_rf, hC⟩
      · refine z_ild3 (n := 20) (by decide +kernel) ?_
        refine z_iconst (n := 21) (q := -1) (v := -1) (by decide +kernel) ?_
        refine z_icmp_lt (n := 24) (off := 19) (tgt := 40) (by decide +kernel) (fun c21 => ?_) (fun c21 => ?_)
        · refine z_sipush (n := 43) (q := -1000) (v := -1000) (by decide +kernel) ?_
          refine z_iret (by decide +kernel) rfl (Nat.le_refl _) ?_
          exact ⟨rfl, moF_rf, hC⟩
        · exact absurd (by rw [c7, c16, decide_eq_true (Int32.not_lt.mp c21)]; rfl) c
