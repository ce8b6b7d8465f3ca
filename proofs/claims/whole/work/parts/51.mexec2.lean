/-! CreasedPaperModel: doAll -/
/-- the model's state at the head of doAll's loop -/
def dSt (h : mH) (Q n : Nat) (m0 : Nat → Int32) (d e : Nat) (so mu fr un op tn : Nat → Int32) (s : mS) : Prop := (∃ m wd, h Q = oMod Q (nI (n + 1)) m wd ∧ (∀ q, q < 4 → m q = m0 q) ∧ m 8 = nI d ∧ m 9 = nI e) ∧ wSt h Q s ∧ h (Q + 5) = aI 41 so ∧ h (Q + 6) = aI 41 mu ∧ h (Q + 7) = aI 41 fr ∧ h (Q + 8) = aI 41 un ∧ h (Q + 9) = aI 5 op ∧ h (Q + 10) = aI 41 tn
def dFr (h h' : mH) (Q : Nat) : Prop := ∀ j, j ≠ Q → j ≠ Q + 1 → j ≠ Q + 3 → j ≠ Q + 9 → j ≠ Q + 10 → h' j = h j
theorem dFr_rf {h : mH} {Q : Nat} : dFr h h Q := fun _ _ _ _ _ _ => rfl
theorem dFr_tr {h h1 h2 : mH} {Q : Nat} (a : dFr h h1 Q) (b : dFr h1 h2 Q) : dFr h h2 Q := fun j p q r s t => (b j p q r s t).trans (a j p q r s t)
/-- all is done, or it stopped -/
def dEn (h : mH) (Q n : Nat) (m0 : Nat → Int32) (sp : Int32) (so mu fr un : Nat → Int32) (s : mS) : Prop := (∃ m wd, h Q = oMod Q (nI (n + 1)) m wd ∧ (∀ q, q < 3 → m q = m0 q) ∧ m 3 = sp) ∧ wSt h Q s ∧ h (Q + 5) = aI 41 so ∧ h (Q + 6) = aI 41 mu ∧ h (Q + 7) = aI 41 fr ∧ h (Q + 8) = aI 41 un ∧ (∃ op, h (Q + 9) = aI 5 op) ∧ ∃ tn, h (Q + 10) = aI 41 tn
/-- the bracket that is open, if there is one -/
def dUp (op un : Nat → Int32) (e to : Nat) : Prop := e = 0 ∨ ∃ e' g U, e = e' + 1 ∧ op e' = nI g ∧ g < 41 ∧ un g = nI U ∧ to ≤ U ∧ U ≤ 40
def dAl (G : mG) (Q n : Nat) (m0 : Nat → Int32) (d : Nat) (so mu fr un : Nat → Int32) (r k to : Nat) (l : List Nat) : Prop := to ≤ d → k ≤ to ∧ ∀ (dd9 e dn : Nat) (h : mH) (op tn : Nat → Int32) (s : mS) (QQ : Option Value → mH → Prop), 4 ≤ dd9 → e + r = 4 → dn ≤ 300 → dSt h Q n m0 d e so mu fr un op tn s → dUp op un e to →
  (∀ (dn' : Nat) (h' : mH) (op' tn' : Nat → Int32) (s' : mS), exL (actM n so mu) l dn s = (none, dn', s') → dn' ≤ 300 → dFr h h' Q → (∀ j, j < e → op' j = op j) → (∀ j, (j < k ∨ to ≤ j) → tn' j = tn j) → dSt h' Q n m0 d e so mu fr un op' tn' s' → Z G m_X11_doAll dd9 0 0 0 0 9 [some (.ref Q), some (.int (nI dn')), some (.int (nI to)), none] [] h' QQ) →
  (∀ (i dn' : Nat) (h' : mH) (s' : mS), exL (actM n so mu) l dn s = (some i, dn', s') → dFr h h' Q → dEn h' Q n m0 (fr i) so mu fr un s' → QQ (some (.int (nI dn'))) h') →
  Z G m_X11_doAll dd9 0 0 0 0 9 [some (.ref Q), some (.int (nI dn)), some (.int (nI k)), none] [] h QQ
/-- the head, before the end of a range -/
theorem dA_head {G : mG} {Q n : Nat} {m0 : Nat → Int32} {d : Nat} {so mu fr un : Nat → Int32} {k to : Nat} (hd4 : d ≤ 40) (hto : to ≤ d) (hk : k < to) {dd9 e dn : Nat} {h : mH} {op tn : Nat → Int32} {s : mS} {QQ : Option Value → mH → Prop} (he : e ≤ 4) (S : dSt h Q n m0 d e so mu fr un op tn s) (U : dUp op un e to) (K : Z G m_X11_doAll dd9 0 0 0 0 102 [some (.ref Q), some (.int (nI dn)), some (.int (nI k)), none] [] h QQ) : Z G m_X11_doAll dd9 0 0 0 0 9 [some (.ref Q), some (.int (nI dn)), some (.int (nI k)), none] [] h QQ := by
  obtain ⟨⟨m, wd, h0, hm, h8, h9⟩, hw, e5, e6, e7, e8, e9, e10⟩ := S
  have g8 : (oMod Q (nI (n + 1)) m wd) = (oMod Q (nI (n + 1)) m wd) := rfl
  rcases U with rfl | ⟨e', g, U, rfl, o1, o2, o3, o4, o5⟩
  · refine z_ild2 (n := 10) (by decide +kernel) ?_
    refine z_ald0 (n := 11) (by decide +kernel) ?_
    refine z_getf (n := 14) (idx := 152) (by decide +kernel) fl_X11_152 (by assumption) (by rfl) ?_
    refine z_top h8 ?_
    refine z_icmp_lt_t (n := 17) (off := 10) (tgt := 24) (by decide +kernel) (nI_lt (by omega) (by omega)) ?_
    refine z_ald0 (n := 25) (by decide +kernel) ?_
    refine z_getf (n := 28) (idx := 159) (by decide +kernel) fl_X11_159 (by assumption) (by rfl) ?_
    refine z_top h9 ?_
    refine z_if_le_t (n := 31) (off := 74) (tgt := 102) (by decide +kernel) (by decide) ?_
    exact K
  · have i1 : ix (op e') g 41 := by rw [o1]; exact ix_nI o2 (by omega)
    refine z_ild2 (n := 10) (by decide +kernel) ?_
    refine z_ald0 (n := 11) (by decide +kernel) ?_
    refine z_getf (n := 14) (idx := 152) (by decide +kernel) fl_X11_152 (by assumption) (by rfl) ?_
    refine z_top h8 ?_
    refine z_icmp_lt_t (n := 17) (off := 10) (tgt := 24) (by decide +kernel) (nI_lt (by omega) (by omega)) ?_
    refine z_ald0 (n := 25) (by decide +kernel) ?_
    refine z_getf (n := 28) (idx := 159) (by decide +kernel) fl_X11_159 (by assumption) (by rfl) ?_
    refine z_top h9 ?_
    refine z_if_le_f (n := 31) (off := 74) (tgt := 102) (by decide +kernel) (Int32.not_le.mpr (nI_lt (a := 0) (by omega) (by omega))) ?_
    refine z_ild2 (n := 32) (by decide +kernel) ?_
    refine z_ald0 (n := 33) (by decide +kernel) ?_
    refine z_getf (n := 36) (idx := 41) (by decide +kernel) fl_X11_41 (by assumption) (by rfl) ?_
    refine z_ald0 (n := 37) (by decide +kernel) ?_
    refine z_getf (n := 40) (idx := 44) (by decide +kernel) fl_X11_44 (by assumption) (by rfl) ?_
    refine z_ald0 (n := 41) (by decide +kernel) ?_
    refine z_getf (n := 44) (idx := 159) (by decide +kernel) fl_X11_159 (by assumption) (by rfl) ?_
    refine z_top h9 ?_
    refine z_iconst (n := 45) (q := 1) (v := 1) (by decide +kernel) ?_
    refine z_isub (n := 46) (by decide +kernel) ?_
    refine z_top (nI_pred e') ?_
    refine z_iald (n := 47) (by decide +kernel) (by assumption) (by first | assumption | exact ix_nI (by omega) (by omega)) ?_
    refine z_iald (n := 48) (by decide +kernel) (by assumption) (by exact i1) ?_
    refine z_top o3 ?_
    refine z_icmp_ne_t (n := 51) (off := 54) (tgt := 102) (by decide +kernel) (fun z => absurd ((nI_ij (by omega) (by omega)).mp z) (by omega)) ?_
    exact K
/-- what the rows say to each other -/
def dMR (d : Nat) (so mu un vb bh nu : Nat → Int32) : Prop := ∀ i, i < d → (vb i = 3 → so i = 5 ∧ un i = bh i ∧ mu i = nu i) ∧ (¬ vb i = 3 → so i < 5)
theorem m_dAl {G : mG} {Q n : Nat} {m0 : Nat → Int32} {d : Nat} {so mu fr un vb bh nu : Nat → Int32} {rt : Nat → Bool} (hn : n + 1 ≤ 40) (hd4 : d ≤ 40) (R : dMR d so mu un vb bh nu) {r k to : Nat} {l : List Nat} (hr4 : r ≤ 4) (F : FL vb bh nu r k to l) : dAl G Q n m0 d so mu fr un r k to l := by
  refine (F (fun r k to l => FL vb bh nu r k to l ∧ dAl G Q n m0 d so mu fr un r k to l) ?_ ?_ ?_).2
  · intro r k
    refine ⟨FL_nil r k, fun h40 => ⟨Nat.le_refl _, ?_⟩⟩
    intro dd9 e dn h op tn s QQ hd he hdn S U KS KF
    exact KS dn h op tn s rfl hdn dFr_rf (fun _ _ => rfl) (fun _ _ => rfl) S
  · intro r k to l h1 h2 ⟨F3, h3⟩
    refine ⟨FL_act h1 h2 F3, fun h40 => ⟨by omega, ?_⟩⟩
    obtain ⟨_, hr⟩ := h3 h40
    intro dd9 e dn h op tn s QQ hd he hdn S U KS KF
    refine dA_head hd4 h40 h1 (by omega) S U ?_
    have S' := S
    have hk41 : k < 41 := by omega
    obtain ⟨⟨m, wd, h0, hm, h8, h9⟩, hw, e5, e6, e7, e8, e9, e10⟩ := S
    have sk := (R k (by omega)).2 h2
    by_cases c3 : dn = 300
    · refine z_ald0 (n := 103) (by decide +kernel) ?_
      refine z_getf (n := 106) (idx := 32) (by decide +kernel) fl_X11_32 (by first | assumption | (simp (disch := omega) only [hu_s, hu_n]; first | assumption | rfl)) (by rfl) ?_
      refine z_ild2 (n := 107) (by decide +kernel) ?_
      refine z_iald (n := 108) (by decide +kernel) (by first | assumption | (simp (disch := omega) only [hu_s, hu_n]; first | assumption | rfl)) (by first | assumption | exact ix_nI (by omega) (by omega)) ?_
      refine z_iconst (n := 109) (q := 5) (v := 5) (by decide +kernel) ?_
      refine z_icmp_ne_t (n := 112) (off := 59) (tgt := 168) (by decide +kernel) (Int32.ne_of_lt sk) ?_
      refine z_ild1 (n := 169) (by decide +kernel) ?_
      refine z_sipush (n := 172) (q := 300) (v := 300) (by decide +kernel) ?_
      refine z_icmp_eq_t (n := 175) (off := 11) (tgt := 183) (by decide +kernel) (by rw [c3]; rfl) ?_
      refine z_ald0 (n := 184) (by decide +kernel) ?_
      refine z_ald0 (n := 185) (by decide +kernel) ?_
      refine z_getf (n := 188) (idx := 38) (by decide +kernel) fl_X11_38 (by first | assumption | (simp (disch := omega) only [hu_s, hu_n]; first | assumption | rfl)) (by rfl) ?_
      refine z_ild2 (n := 189) (by decide +kernel) ?_
      refine z_iald (n := 190) (by decide +kernel) (by first | assumption | (simp (disch := omega) only [hu_s, hu_n]; first | assumption | rfl)) (by first | assumption | exact ix_nI (by omega) (by omega)) ?_
      refine z_putf (n := 193) (idx := 29) (ty := .int) (by decide +kernel) fl_X11_29 (by first | assumption | (simp (disch := omega) only [hu_s, hu_n]; first | assumption | rfl)) ⟨_, _, _, rfl, rfl, by decide +kernel⟩ rfl rfl (Nat.le_of_ble_eq_true rfl) ?_
      refine z_ild1 (n := 194) (by decide +kernel) ?_
      refine z_iret (by decide +kernel) rfl (Nat.le_refl _) ?_
      exact KF k dn _ s (exL_full c3) (fun j p _ _ _ _ => hu_n p) ⟨⟨upd m 3 (fr k), wd, (by simp (disch := omega) only [hTn, hCr, hFl, hu_s, hu_n]; first | done | assumption | rfl), fun q hq => by rw [upd_nn (by omega)]; exact hm q (by omega), rfl⟩, ⟨(hu_n (by omega)).trans hw.1, (hu_n (by omega)).trans hw.2⟩, (by simp (disch := omega) only [hTn, hCr, hFl, hu_s, hu_n]; first | done | assumption | rfl), (by simp (disch := omega) only [hTn, hCr, hFl, hu_s, hu_n]; first | done | assumption | rfl), (by simp (disch := omega) only [hTn, hCr, hFl, hu_s, hu_n]; first | done | assumption | rfl), (by simp (disch := omega) only [hTn, hCr, hFl, hu_s, hu_n]; first | done | assumption | rfl), ⟨op, (by simp (disch := omega) only [hTn, hCr, hFl, hu_s, hu_n]; first | done | assumption | rfl)⟩, ⟨tn, (by simp (disch := omega) only [hTn, hCr, hFl, hu_s, hu_n]; first | done | assumption | rfl)⟩⟩
    · refine z_ald0 (n := 103) (by decide +kernel) ?_
      refine z_getf (n := 106) (idx := 32) (by decide +kernel) fl_X11_32 (by first | assumption | (simp (disch := omega) only [hu_s, hu_n]; first | assumption | rfl)) (by rfl) ?_
      refine z_ild2 (n := 107) (by decide +kernel) ?_
      refine z_iald (n := 108) (by decide +kernel) (by first | assumption | (simp (disch := omega) only [hu_s, hu_n]; first | assumption | rfl)) (by first | assumption | exact ix_nI (by omega) (by omega)) ?_
      refine z_iconst (n := 109) (q := 5) (v := 5) (by decide +kernel) ?_
      refine z_icmp_ne_t (n := 112) (off := 59) (tgt := 168) (by decide +kernel) (Int32.ne_of_lt sk) ?_
      refine z_ild1 (n := 169) (by decide +kernel) ?_
      refine z_sipush (n := 172) (q := 300) (v := 300) (by decide +kernel) ?_
      refine z_icmp_eq_f (n := 175) (off := 11) (tgt := 183) (by decide +kernel) (fun z => c3 ((nI_ij (b := 300) (by omega) (by omega)).mp z)) ?_
      refine z_ald0 (n := 176) (by decide +kernel) ?_
      refine z_ild2 (n := 177) (by decide +kernel) ?_
      refine z_g1 (n := 180) (idx := 194) (by decide +kernel) ml_X11_194 (by first | assumption | (simp (disch := omega) only [hu_s, hu_n]; first | assumption | rfl)) rfl (Nat.le_of_ble_eq_true rfl) (by omega) ⟨Nat.le_refl _, Nat.le_refl _⟩ (m_does (n := n) (i := k) (s := s) 3 (by omega) hn hk41 h0 e5 e6 hw) (fun x177 h177 q177 => ?_)
      skip
      obtain ⟨y1, y2, y3⟩ := q177
      have g0 := (y2 Q (by omega) (by omega)).trans h0
      have g5 := (y2 (Q + 5) (by omega) (by omega)).trans e5
      have g6 := (y2 (Q + 6) (by omega) (by omega)).trans e6
      have g7 := (y2 (Q + 7) (by omega) (by omega)).trans e7
      have g8 := (y2 (Q + 8) (by omega) (by omega)).trans e8
      have g9 := (y2 (Q + 9) (by omega) (by omega)).trans e9
      have g10 := (y2 (Q + 10) (by omega) (by omega)).trans e10
      have yF : dFr h h177 Q := fun j a b c _ _ => y2 j b c
      cases x177 with
      | false =>
        refine z_ifb_ne_f (n := 183) (off := 15) (tgt := 195) (by decide +kernel) (rfl) ?_
        refine z_ald0 (n := 184) (by decide +kernel) ?_
        refine z_ald0 (n := 185) (by decide +kernel) ?_
        refine z_getf (n := 188) (idx := 38) (by decide +kernel) fl_X11_38 (by first | assumption | (simp (disch := omega) only [hu_s, hu_n]; first | assumption | rfl)) (by rfl) ?_
        refine z_ild2 (n := 189) (by decide +kernel) ?_
        refine z_iald (n := 190) (by decide +kernel) (by first | assumption | (simp (disch := omega) only [hu_s, hu_n]; first | assumption | rfl)) (by first | assumption | exact ix_nI (by omega) (by omega)) ?_
        refine z_putf (n := 193) (idx := 29) (ty := .int) (by decide +kernel) fl_X11_29 (by first | assumption | (simp (disch := omega) only [hu_s, hu_n]; first | assumption | rfl)) ⟨_, _, _, rfl, rfl, by decide +kernel⟩ rfl rfl (Nat.le_of_ble_eq_true rfl) ?_
        refine z_ild1 (n := 194) (by decide +kernel) ?_
        refine z_iret (by decide +kernel) rfl (Nat.le_refl _) ?_
        exact KF k dn _ _ (exL_no c3 y1.symm) (dFr_tr yF (fun j p _ _ _ _ => hu_n p)) ⟨⟨upd m 3 (fr k), wd, (by simp (disch := omega) only [hTn, hCr, hFl, hu_s, hu_n]; first | done | assumption | rfl), fun q hq => by rw [upd_nn (by omega)]; exact hm q (by omega), rfl⟩, ⟨(hu_n (by omega)).trans y3.1, (hu_n (by omega)).trans y3.2⟩, (by simp (disch := omega) only [hTn, hCr, hFl, hu_s, hu_n]; first | done | assumption | rfl), (by simp (disch := omega) only [hTn, hCr, hFl, hu_s, hu_n]; first | done | assumption | rfl), (by simp (disch := omega) only [hTn, hCr, hFl, hu_s, hu_n]; first | done | assumption | rfl), (by simp (disch := omega) only [hTn, hCr, hFl, hu_s, hu_n]; first | done | assumption | rfl), ⟨op, (by simp (disch := omega) only [hTn, hCr, hFl, hu_s, hu_n]; first | done | assumption | rfl)⟩, ⟨tn, (by simp (disch := omega) only [hTn, hCr, hFl, hu_s, hu_n]; first | done | assumption | rfl)⟩⟩
      | true =>
        have eo := exL_ok (l := l) c3 y1.symm
        refine z_ifb_ne_t (n := 183) (off := 15) (tgt := 195) (by decide +kernel) (rfl) ?_
        refine z_inc1 (n := 198) (q := 1) (by decide +kernel) rfl (nI_1 _) ?_
        refine z_inc2 (n := 201) (q := 1) (by decide +kernel) rfl (nI_1 _) ?_
        refine z_goto (n := 204) (off := -192) (tgt := 9) (by decide +kernel) ?_
        skip
        refine hr dd9 e (dn + 1) h177 op tn _ QQ hd he (by omega) ⟨⟨m, wd, g0, hm, h8, h9⟩, y3, g5, g6, g7, g8, g9, g10⟩ U ?_ ?_
        · intro dn' h' op' tn' s' x1 x2 x3 x4 x5 x6
          exact KS dn' h' op' tn' s' (eo.trans x1) x2 (dFr_tr yF x3) x4 (fun j hj => x5 j (by omega)) x6
        · intro i dn' h' s' x1 x2 x3
          exact KF i dn' h' s' (eo.trans x1) (dFr_tr yF x2) x3
  · intro r k b to N l1 l2 h1 h2 h3 h4 h5 h51 h52 ⟨F6, h6⟩ ⟨F7, h7⟩
    refine ⟨FL_aga h1 h2 h3 h4 h5 h51 h52 F6 F7, fun h40 => ⟨by omega, ?_⟩⟩
    obtain ⟨_, hr⟩ := h7 h40
    obtain ⟨_, hi⟩ := h6 (by omega)
    intro dd9 e dn h op tn s QQ hd he hdn S U KS KF
    obtain ⟨⟨r5, ru, rm⟩, _⟩ := (show (so k = 5 ∧ un k = bh k ∧ mu k = nu k) ∧ True from ⟨(R k (by omega)).1 h1, trivial⟩)
    have uk : un k = nI b := ru.trans h2
    have hk41 : k < 41 := by omega
    have e5' : e < 5 := by omega
    refine dA_head hd4 h40 (show k < to by omega) (by omega) S U ?_
    have S' := S
    obtain ⟨⟨m, wd, h0, hm, h8, h9⟩, hw, e5, e6, e7, e8, e9, e10⟩ := S
    have U2 : ∀ op', (∀ j, j < e → op' j = op j) → dUp op' un e to := by
      intro op' ho
      rcases U with z | ⟨e', g, U, z1, o1, o2, o3, o4, o5⟩
      · exact .inl z
      · exact .inr ⟨e', g, U, z1, (ho e' (by omega)).trans o1, o2, o3, o4, o5⟩
    by_cases ca : anyA vb (k + 1) (b - (k + 1)) = false
    · have el := FL_no F6 (fun i p q => anyA_f _ _ ca i p (by omega))
      refine z_ald0 (n := 103) (by decide +kernel) ?_
      refine z_getf (n := 106) (idx := 32) (by decide +kernel) fl_X11_32 (by first | assumption | (simp (disch := omega) only [hu_s, hu_n]; first | assumption | rfl)) (by rfl) ?_
      refine z_ild2 (n := 107) (by decide +kernel) ?_
      refine z_iald (n := 108) (by decide +kernel) (by first | assumption | (simp (disch := omega) only [hu_s, hu_n]; first | assumption | rfl)) (by first | assumption | exact ix_nI (by omega) (by omega)) ?_
      refine z_iconst (n := 109) (q := 5) (v := 5) (by decide +kernel) ?_
      refine z_icmp_ne_f (n := 112) (off := 59) (tgt := 168) (by decide +kernel) (r5) ?_
      refine z_ald0 (n := 113) (by decide +kernel) ?_
      refine z_ild2 (n := 114) (by decide +kernel) ?_
      refine z_v1 (n := 117) (idx := 191) (by decide +kernel) ml_X11_191 (by first | assumption | (simp (disch := omega) only [hu_s, hu_n]; first | assumption | rfl)) rfl (Nat.le_of_ble_eq_true rfl) (by omega) ⟨Nat.le_refl _, Nat.le_refl _⟩ (m_hasActs (n := n) (k := k) (b := b) (vb := vb) 0 h3 (by omega) h0 e5 e8 uk (fun i hi => ⟨fun z => ((R i (by omega)).1 z).1, (R i (by omega)).2⟩)) ?_
      refine z_ifb_eq_t (n := 120) (off := 41) (tgt := 158) (by decide +kernel) (ca) ?_
      refine z_ald0 (n := 159) (by decide +kernel) ?_
      refine z_getf (n := 162) (idx := 41) (by decide +kernel) fl_X11_41 (by first | assumption | (simp (disch := omega) only [hu_s, hu_n]; first | assumption | rfl)) (by rfl) ?_
      refine z_ild2 (n := 163) (by decide +kernel) ?_
      refine z_iald (n := 164) (by decide +kernel) (by first | assumption | (simp (disch := omega) only [hu_s, hu_n]; first | assumption | rfl)) (by first | assumption | exact ix_nI (by omega) (by omega)) ?_
      refine z_top uk ?_
      refine z_ist2 (n := 165) (by decide +kernel) rfl ?_
      refine z_goto (n := 168) (off := -156) (tgt := 9) (by decide +kernel) ?_
      skip
      have e0 : (List.replicate N l1).flatten ++ l2 = l2 := by rw [el, flat_nil]; rfl
      rw [e0] at KS KF
      refine hr dd9 e dn h op tn s QQ hd he hdn S' U ?_ KF
      intro dn' h' op' tn' s' x1 x2 x3 x4 x5 x6
      exact KS dn' h' op' tn' s' x1 x2 x3 x4 (fun j hj => x5 j (by omega)) x6
    · -- the rounds
      have rounds : ∀ w (dn : Nat) (h1 : mH) (op1 tn1 : Nat → Int32) (s1 : mS), w + 1 ≤ N → dn ≤ 300 → dFr h h1 Q → (∀ j, j < e → op1 j = op j) → (∀ j, (j < k ∨ to ≤ j) → tn1 j = tn j) → op1 e = nI k → tn1 k = nI (w + 1) → dSt h1 Q n m0 d (e + 1) so mu fr un op1 tn1 s1 →
          (∀ (dn' : Nat) (h' : mH) (op' tn' : Nat → Int32) (s' : mS), exL (actM n so mu) ((List.replicate (w + 1) l1).flatten ++ l2) dn s1 = (none, dn', s') → dn' ≤ 300 → dFr h h' Q → (∀ j, j < e → op' j = op j) → (∀ j, (j < k ∨ to ≤ j) → tn' j = tn j) → dSt h' Q n m0 d e so mu fr un op' tn' s' → Z G m_X11_doAll dd9 0 0 0 0 9 [some (.ref Q), some (.int (nI dn')), some (.int (nI to)), none] [] h' QQ) →
          (∀ (i dn' : Nat) (h' : mH) (s' : mS), exL (actM n so mu) ((List.replicate (w + 1) l1).flatten ++ l2) dn s1 = (some i, dn', s') → dFr h h' Q → dEn h' Q n m0 (fr i) so mu fr un s' → QQ (some (.int (nI dn'))) h') →
          Z G m_X11_doAll dd9 0 0 0 0 9 [some (.ref Q), some (.int (nI dn)), some (.int (nI (k + 1))), none] [] h1 QQ := by
        intro w
        induction w with
        | zero =>
          intro dn h1 op1 tn1 s1 hw1 hdn F1 ho ht hok htk S1 K1 K2
          refine hi dd9 (e + 1) dn h1 op1 tn1 s1 QQ hd (by omega) hdn S1 (.inr ⟨e, k, b, rfl, hok, hk41, uk, Nat.le_refl _, by omega⟩) ?_ ?_
          · intro dn' h' op' tn' s' x1 x2 x3 x4 x5 x6
            have x6' := x6
            obtain ⟨⟨m2, wd2, g0, gm, g8, g9⟩, gw, d5, d6, d7, d8, d9, d10⟩ := x6
            have oe : op' e = nI k := (x4 e (by omega)).trans hok
            have te : tn' k = nI 1 := (x5 k (by omega)).trans htk
            have i1 : ix (op' e) k 41 := by rw [oe]; exact ix_nI hk41 (by omega)
            have fin : Z G m_X11_doAll dd9 0 0 0 0 24 [some (.ref Q), some (.int (nI dn')), some (.int (nI b)), none] [] h' QQ := by
              refine z_ald0 (n := 25) (by decide +kernel) ?_
              refine z_getf (n := 28) (idx := 159) (by decide +kernel) fl_X11_159 (by first | assumption | (simp (disch := omega) only [hu_s, hu_n]; first | assumption | rfl)) (by rfl) ?_
              refine z_top g9 ?_
              refine z_if_le_f (n := 31) (off := 74) (tgt := 102) (by decide +kernel) (Int32.not_le.mpr (nI_lt (a := 0) (by omega) (by omega))) ?_
              refine z_ild2 (n := 32) (by decide +kernel) ?_
              refine z_ald0 (n := 33) (by decide +kernel) ?_
              refine z_getf (n := 36) (idx := 41) (by decide +kernel) fl_X11_41 (by first | assumption | (simp (disch := omega) only [hu_s, hu_n]; first | assumption | rfl)) (by rfl) ?_
              refine z_ald0 (n := 37) (by decide +kernel) ?_
              refine z_getf (n := 40) (idx := 44) (by decide +kernel) fl_X11_44 (by first | assumption | (simp (disch := omega) only [hu_s, hu_n]; first | assumption | rfl)) (by rfl) ?_
              refine z_ald0 (n := 41) (by decide +kernel) ?_
              refine z_getf (n := 44) (idx := 159) (by decide +kernel) fl_X11_159 (by first | assumption | (simp (disch := omega) only [hu_s, hu_n]; first | assumption | rfl)) (by rfl) ?_
              refine z_top g9 ?_
              refine z_iconst (n := 45) (q := 1) (v := 1) (by decide +kernel) ?_
              refine z_isub (n := 46) (by decide +kernel) ?_
              refine z_top (nI_pred e) ?_
              refine z_iald (n := 47) (by decide +kernel) (by first | assumption | (simp (disch := omega) only [hu_s, hu_n]; first | assumption | rfl)) (by first | assumption | exact ix_nI (by omega) (by omega)) ?_
              refine z_iald (n := 48) (by decide +kernel) (by first | assumption | (simp (disch := omega) only [hu_s, hu_n]; first | assumption | rfl)) (by exact i1) ?_
              refine z_top uk ?_
              refine z_icmp_ne_f (n := 51) (off := 54) (tgt := 102) (by decide +kernel) (rfl) ?_
              refine z_ald0 (n := 52) (by decide +kernel) ?_
              refine z_getf (n := 55) (idx := 44) (by decide +kernel) fl_X11_44 (by first | assumption | (simp (disch := omega) only [hu_s, hu_n]; first | assumption | rfl)) (by rfl) ?_
              refine z_ald0 (n := 56) (by decide +kernel) ?_
              refine z_getf (n := 59) (idx := 159) (by decide +kernel) fl_X11_159 (by first | assumption | (simp (disch := omega) only [hu_s, hu_n]; first | assumption | rfl)) (by rfl) ?_
              refine z_top g9 ?_
              refine z_iconst (n := 60) (q := 1) (v := 1) (by decide +kernel) ?_
              refine z_isub (n := 61) (by decide +kernel) ?_
              refine z_top (nI_pred e) ?_
              refine z_iald (n := 62) (by decide +kernel) (by first | assumption | (simp (disch := omega) only [hu_s, hu_n]; first | assumption | rfl)) (by first | assumption | exact ix_nI (by omega) (by omega)) ?_
              refine z_top oe ?_
              refine z_ist3 (n := 63) (by decide +kernel) rfl ?_
              refine z_ald0 (n := 64) (by decide +kernel) ?_
              refine z_getf (n := 67) (idx := 47) (by decide +kernel) fl_X11_47 (by first | assumption | (simp (disch := omega) only [hu_s, hu_n]; first | assumption | rfl)) (by rfl) ?_
              refine z_ild3 (n := 68) (by decide +kernel) ?_
              refine z_dup2 (n := 69) (by decide +kernel) rfl rfl ?_
              refine z_iald (n := 70) (by decide +kernel) (by first | assumption | (simp (disch := omega) only [hu_s, hu_n]; first | assumption | rfl)) (by first | assumption | exact ix_nI (by omega) (by omega)) ?_
              refine z_top te ?_
              refine z_iconst (n := 71) (q := 1) (v := 1) (by decide +kernel) ?_
              refine z_isub (n := 72) (by decide +kernel) ?_
              refine z_top (show nI 1 - 1 = 0 from rfl) ?_
              refine z_iast (n := 73) (by decide +kernel) (by first | assumption | (simp (disch := omega) only [hu_s, hu_n]; first | assumption | rfl)) (by first | assumption | exact ix_nI (by omega) (by omega)) ?_
              refine z_ald0 (n := 74) (by decide +kernel) ?_
              refine z_getf (n := 77) (idx := 47) (by decide +kernel) fl_X11_47 (by first | assumption | (simp (disch := omega) only [hu_s, hu_n]; first | assumption | rfl)) (by rfl) ?_
              refine z_ild3 (n := 78) (by decide +kernel) ?_
              refine z_iald (n := 79) (by decide +kernel) (by first | assumption | (simp (disch := omega) only [hu_s, hu_n]; first | assumption | rfl)) (by first | assumption | exact ix_nI (by omega) (by omega)) ?_
              refine z_top (show upd tn' k 0 k = 0 from upd_ss) ?_
              refine z_if_le_t (n := 82) (off := 10) (tgt := 89) (by decide +kernel) (by decide) ?_
              refine z_ald0 (n := 90) (by decide +kernel) ?_
              refine z_dup (n := 91) (by decide +kernel) rfl ?_
              refine z_getf (n := 94) (idx := 159) (by decide +kernel) fl_X11_159 (by first | assumption | (simp (disch := omega) only [hu_s, hu_n]; first | assumption | rfl)) (by rfl) ?_
              refine z_top g9 ?_
              refine z_iconst (n := 95) (q := 1) (v := 1) (by decide +kernel) ?_
              refine z_isub (n := 96) (by decide +kernel) ?_
              refine z_top (nI_pred e) ?_
              refine z_putf (n := 99) (idx := 159) (ty := .int) (by decide +kernel) fl_X11_159 (by first | assumption | (simp (disch := omega) only [hu_s, hu_n]; first | assumption | rfl)) ⟨_, _, _, rfl, rfl, by decide +kernel⟩ rfl rfl (Nat.le_of_ble_eq_true rfl) ?_
              refine z_goto (n := 102) (off := -90) (tgt := 9) (by decide +kernel) ?_
              skip
              refine z_wk (lv' := [some (.ref Q), some (.int (nI dn')), some (.int (nI b)), none]) (by simp [wk]) ?_
              refine hr dd9 e dn' _ op' (upd tn' k 0) s' QQ hd he x2 ⟨⟨upd m2 9 (nI e), wd2, (by simp (disch := omega) only [hTn, hCr, hFl, hu_s, hu_n]; first | done | assumption | rfl), fun q hq => by rw [upd_nn (by omega)]; exact gm q hq, g8, rfl⟩, ⟨(hu_n (by omega)).trans ((hu_n (by omega)).trans gw.1), (hu_n (by omega)).trans ((hu_n (by omega)).trans gw.2)⟩, (by simp (disch := omega) only [hTn, hCr, hFl, hu_s, hu_n]; first | done | assumption | rfl), (by simp (disch := omega) only [hTn, hCr, hFl, hu_s, hu_n]; first | done | assumption | rfl), (by simp (disch := omega) only [hTn, hCr, hFl, hu_s, hu_n]; first | done | assumption | rfl), (by simp (disch := omega) only [hTn, hCr, hFl, hu_s, hu_n]; first | done | assumption | rfl), (by simp (disch := omega) only [hTn, hCr, hFl, hu_s, hu_n]; first | done | assumption | rfl), (by simp (disch := omega) only [hTn, hCr, hFl, hu_s, hu_n]; first | done | assumption | rfl)⟩ (U2 op' (fun j hj => (x4 j (by omega)).trans (ho j hj))) ?_ ?_
              · intro dn2 h2 op2 tn2 s2 z1 z2 z3 z4 z5 z6
                refine K1 dn2 h2 op2 tn2 s2 ?_ z2 (dFr_tr (dFr_tr (dFr_tr F1 x3) (fun j a _ _ b c => by simp (disch := omega) only [hu_n])) z3) (fun j hj => (z4 j hj).trans ((x4 j (by omega)).trans (ho j hj))) (fun j hj => ?_) z6
                · rw [List.replicate_succ, List.flatten_cons, List.replicate_zero, List.flatten_nil, List.append_nil]
                  exact (exL_app x1).trans z1
                · rw [z5 j (by omega), upd_nn (by omega), x5 j (by omega)]
                  exact ht j hj
              · intro i dn2 h2 s2 z1 z2 z3
                refine K2 i dn2 h2 s2 ?_ (dFr_tr (dFr_tr (dFr_tr F1 x3) (fun j a _ _ b c => by simp (disch := omega) only [hu_n])) z2) z3
                rw [List.replicate_succ, List.flatten_cons, List.replicate_zero, List.flatten_nil, List.append_nil]
                exact (exL_app x1).trans z1
            refine z_ild2 (n := 10) (by decide +kernel) ?_
            refine z_ald0 (n := 11) (by decide +kernel) ?_
            refine z_getf (n := 14) (idx := 152) (by decide +kernel) fl_X11_152 (by first | assumption | (simp (disch := omega) only [hu_s, hu_n]; first | assumption | rfl)) (by rfl) ?_
            refine z_top g8 ?_
            refine z_icmp_lt (n := 17) (off := 10) (tgt := 24) (by decide +kernel) (fun c14 => ?_) (fun c14 => ?_)
            · exact fin
            · refine z_ald0 (n := 18) (by decide +kernel) ?_
              refine z_getf (n := 21) (idx := 159) (by decide +kernel) fl_X11_159 (by first | assumption | (simp (disch := omega) only [hu_s, hu_n]; first | assumption | rfl)) (by rfl) ?_
              refine z_top g9 ?_
              refine z_if_le_f (n := 24) (off := 183) (tgt := 204) (by decide +kernel) (Int32.not_le.mpr (nI_lt (a := 0) (by omega) (by omega))) ?_
              exact fin
          · intro i dn' h' s' x1 x2 x3
            refine K2 i dn' h' s' ?_ (dFr_tr F1 x2) x3
            rw [List.replicate_succ, List.flatten_cons, List.append_assoc]
            exact exL_stop x1
        | succ w ih =>
          intro dn h1 op1 tn1 s1 hw1 hdn F1 ho ht hok htk S1 K1 K2
          refine hi dd9 (e + 1) dn h1 op1 tn1 s1 QQ hd (by omega) hdn S1 (.inr ⟨e, k, b, rfl, hok, hk41, uk, Nat.le_refl _, by omega⟩) ?_ ?_
          · intro dn' h' op' tn' s' x1 x2 x3 x4 x5 x6
            have x6' := x6
            obtain ⟨⟨m2, wd2, g0, gm, g8, g9⟩, gw, d5, d6, d7, d8, d9, d10⟩ := x6
            have oe : op' e = nI k := (x4 e (by omega)).trans hok
            have te : tn' k = nI (w + 1 + 1) := (x5 k (by omega)).trans htk
            have i1 : ix (op' e) k 41 := by rw [oe]; exact ix_nI hk41 (by omega)
            have fin : Z G m_X11_doAll dd9 0 0 0 0 24 [some (.ref Q), some (.int (nI dn')), some (.int (nI b)), none] [] h' QQ := by
              refine z_ald0 (n := 25) (by decide +kernel) ?_
              refine z_getf (n := 28) (idx := 159) (by decide +kernel) fl_X11_159 (by first | assumption | (simp (disch := omega) only [hu_s, hu_n]; first | assumption | rfl)) (by rfl) ?_
              refine z_top g9 ?_
              refine z_if_le_f (n := 31) (off := 74) (tgt := 102) (by decide +kernel) (Int32.not_le.mpr (nI_lt (a := 0) (by omega) (by omega))) ?_
              refine z_ild2 (n := 32) (by decide +kernel) ?_
              refine z_ald0 (n := 33) (by decide +kernel) ?_
              refine z_getf (n := 36) (idx := 41) (by decide +kernel) fl_X11_41 (by first | assumption | (simp (disch := omega) only [hu_s, hu_n]; first | assumption | rfl)) (by rfl) ?_
              refine z_ald0 (n := 37) (by decide +kernel) ?_
              refine z_getf (n := 40) (idx := 44) (by decide +kernel) fl_X11_44 (by first | assumption | (simp (disch := omega) only [hu_s, hu_n]; first | assumption | rfl)) (by rfl) ?_
              refine z_ald0 (n := 41) (by decide +kernel) ?_
              refine z_getf (n := 44) (idx := 159) (by decide +kernel) fl_X11_159 (by first | assumption | (simp (disch := omega) only [hu_s, hu_n]; first | assumption | rfl)) (by rfl) ?_
              refine z_top g9 ?_
              refine z_iconst (n := 45) (q := 1) (v := 1) (by decide +kernel) ?_
              refine z_isub (n := 46) (by decide +kernel) ?_
              refine z_top (nI_pred e) ?_
              refine z_iald (n := 47) (by decide +kernel) (by first | assumption | (simp (disch := omega) only [hu_s, hu_n]; first | assumption | rfl)) (by first | assumption | exact ix_nI (by omega) (by omega)) ?_
              refine z_iald (n := 48) (by decide +kernel) (by first | assumption | (simp (disch := omega) only [hu_s, hu_n]; first | assumption | rfl)) (by exact i1) ?_
              refine z_top uk ?_
              refine z_icmp_ne_f (n := 51) (off := 54) (tgt := 102) (by decide +kernel) (rfl) ?_
              refine z_ald0 (n := 52) (by decide +kernel) ?_
              refine z_getf (n := 55) (idx := 44) (by decide +kernel) fl_X11_44 (by first | assumption | (simp (disch := omega) only [hu_s, hu_n]; first | assumption | rfl)) (by rfl) ?_
              refine z_ald0 (n := 56) (by decide +kernel) ?_
              refine z_getf (n := 59) (idx := 159) (by decide +kernel) fl_X11_159 (by first | assumption | (simp (disch := omega) only [hu_s, hu_n]; first | assumption | rfl)) (by rfl) ?_
              refine z_top g9 ?_
              refine z_iconst (n := 60) (q := 1) (v := 1) (by decide +kernel) ?_
              refine z_isub (n := 61) (by decide +kernel) ?_
              refine z_top (nI_pred e) ?_
              refine z_iald (n := 62) (by decide +kernel) (by first | assumption | (simp (disch := omega) only [hu_s, hu_n]; first | assumption | rfl)) (by first | assumption | exact ix_nI (by omega) (by omega)) ?_
              refine z_top oe ?_
              refine z_ist3 (n := 63) (by decide +kernel) rfl ?_
              refine z_ald0 (n := 64) (by decide +kernel) ?_
              refine z_getf (n := 67) (idx := 47) (by decide +kernel) fl_X11_47 (by first | assumption | (simp (disch := omega) only [hu_s, hu_n]; first | assumption | rfl)) (by rfl) ?_
              refine z_ild3 (n := 68) (by decide +kernel) ?_
              refine z_dup2 (n := 69) (by decide +kernel) rfl rfl ?_
              refine z_iald (n := 70) (by decide +kernel) (by first | assumption | (simp (disch := omega) only [hu_s, hu_n]; first | assumption | rfl)) (by first | assumption | exact ix_nI (by omega) (by omega)) ?_
              refine z_top te ?_
              refine z_iconst (n := 71) (q := 1) (v := 1) (by decide +kernel) ?_
              refine z_isub (n := 72) (by decide +kernel) ?_
              refine z_top (nI_pred (w + 1)) ?_
              refine z_iast (n := 73) (by decide +kernel) (by first | assumption | (simp (disch := omega) only [hu_s, hu_n]; first | assumption | rfl)) (by first | assumption | exact ix_nI (by omega) (by omega)) ?_
              refine z_ald0 (n := 74) (by decide +kernel) ?_
              refine z_getf (n := 77) (idx := 47) (by decide +kernel) fl_X11_47 (by first | assumption | (simp (disch := omega) only [hu_s, hu_n]; first | assumption | rfl)) (by rfl) ?_
              refine z_ild3 (n := 78) (by decide +kernel) ?_
              refine z_iald (n := 79) (by decide +kernel) (by first | assumption | (simp (disch := omega) only [hu_s, hu_n]; first | assumption | rfl)) (by first | assumption | exact ix_nI (by omega) (by omega)) ?_
              refine z_top (show upd tn' k (nI (w + 1)) k = nI (w + 1) from upd_ss) ?_
              refine z_if_le_f (n := 82) (off := 10) (tgt := 89) (by decide +kernel) (Int32.not_le.mpr (nI_lt (a := 0) (by omega) (by omega))) ?_
              refine z_ild3 (n := 83) (by decide +kernel) ?_
              refine z_iconst (n := 84) (q := 1) (v := 1) (by decide +kernel) ?_
              refine z_iadd (n := 85) (by decide +kernel) ?_
              refine z_top (nI_1 _) ?_
              refine z_ist2 (n := 86) (by decide +kernel) rfl ?_
              refine z_goto (n := 89) (off := 13) (tgt := 99) (by decide +kernel) ?_
              refine z_goto (n := 102) (off := -90) (tgt := 9) (by decide +kernel) ?_
              skip
              refine z_wk (lv' := [some (.ref Q), some (.int (nI dn')), some (.int (nI (k + 1))), none]) (by simp [wk]) ?_
              refine ih dn' _ op' (upd tn' k (nI (w + 1))) s' (by omega) x2 (dFr_tr (dFr_tr F1 x3) (fun j a _ _ b c => by simp (disch := omega) only [hu_n])) (fun j hj => (x4 j (by omega)).trans (ho j hj)) (fun j hj => ?_) oe upd_ss ⟨⟨m2, wd2, (by simp (disch := omega) only [hTn, hCr, hFl, hu_s, hu_n]; first | done | assumption | rfl), gm, g8, g9⟩, ⟨(hu_n (by omega)).trans gw.1, (hu_n (by omega)).trans gw.2⟩, (by simp (disch := omega) only [hTn, hCr, hFl, hu_s, hu_n]; first | done | assumption | rfl), (by simp (disch := omega) only [hTn, hCr, hFl, hu_s, hu_n]; first | done | assumption | rfl), (by simp (disch := omega) only [hTn, hCr, hFl, hu_s, hu_n]; first | done | assumption | rfl), (by simp (disch := omega) only [hTn, hCr, hFl, hu_s, hu_n]; first | done | assumption | rfl), (by simp (disch := omega) only [hTn, hCr, hFl, hu_s, hu_n]; first | done | assumption | rfl), (by simp (disch := omega) only [hTn, hCr, hFl, hu_s, hu_n]; first | done | assumption | rfl)⟩ ?_ ?_
              · rw [upd_nn (by omega), x5 j (by omega)]
                exact ht j hj
              · intro dn2 h2 op2 tn2 s2 z1 z2 z3 z4 z5 z6
                refine K1 dn2 h2 op2 tn2 s2 ?_ z2 z3 z4 z5 z6
                rw [List.replicate_succ, List.flatten_cons, List.append_assoc]
                exact (exL_app x1).trans z1
              · intro i dn2 h2 s2 z1 z2 z3
                refine K2 i dn2 h2 s2 ?_ z2 z3
                rw [List.replicate_succ, List.flatten_cons, List.append_assoc]
                exact (exL_app x1).trans z1
            refine z_ild2 (n := 10) (by decide +kernel) ?_
            refine z_ald0 (n := 11) (by decide +kernel) ?_
            refine z_getf (n := 14) (idx := 152) (by decide +kernel) fl_X11_152 (by first | assumption | (simp (disch := omega) only [hu_s, hu_n]; first | assumption | rfl)) (by rfl) ?_
            refine z_top g8 ?_
            refine z_icmp_lt (n := 17) (off := 10) (tgt := 24) (by decide +kernel) (fun c14 => ?_) (fun c14 => ?_)
            · exact fin
            · refine z_ald0 (n := 18) (by decide +kernel) ?_
              refine z_getf (n := 21) (idx := 159) (by decide +kernel) fl_X11_159 (by first | assumption | (simp (disch := omega) only [hu_s, hu_n]; first | assumption | rfl)) (by rfl) ?_
              refine z_top g9 ?_
              refine z_if_le_f (n := 24) (off := 183) (tgt := 204) (by decide +kernel) (Int32.not_le.mpr (nI_lt (a := 0) (by omega) (by omega))) ?_
              exact fin
          · intro i dn' h' s' x1 x2 x3
            refine K2 i dn' h' s' ?_ (dFr_tr F1 x2) x3
            rw [List.replicate_succ, List.flatten_cons, List.append_assoc]
            exact exL_stop x1
      obtain ⟨N', rfl⟩ : ∃ N', N = N' + 1 := ⟨N - 1, by omega⟩
      refine z_ald0 (n := 103) (by decide +kernel) ?_
      refine z_getf (n := 106) (idx := 32) (by decide +kernel) fl_X11_32 (by first | assumption | (simp (disch := omega) only [hu_s, hu_n]; first | assumption | rfl)) (by rfl) ?_
      refine z_ild2 (n := 107) (by decide +kernel) ?_
      refine z_iald (n := 108) (by decide +kernel) (by first | assumption | (simp (disch := omega) only [hu_s, hu_n]; first | assumption | rfl)) (by first | assumption | exact ix_nI (by omega) (by omega)) ?_
      refine z_iconst (n := 109) (q := 5) (v := 5) (by decide +kernel) ?_
      refine z_icmp_ne_f (n := 112) (off := 59) (tgt := 168) (by decide +kernel) (r5) ?_
      refine z_ald0 (n := 113) (by decide +kernel) ?_
      refine z_ild2 (n := 114) (by decide +kernel) ?_
      refine z_v1 (n := 117) (idx := 191) (by decide +kernel) ml_X11_191 (by first | assumption | (simp (disch := omega) only [hu_s, hu_n]; first | assumption | rfl)) rfl (Nat.le_of_ble_eq_true rfl) (by omega) ⟨Nat.le_refl _, Nat.le_refl _⟩ (m_hasActs (n := n) (k := k) (b := b) (vb := vb) 0 h3 (by omega) h0 e5 e8 uk (fun i hi => ⟨fun z => ((R i (by omega)).1 z).1, (R i (by omega)).2⟩)) ?_
      refine z_ifb_eq_f (n := 120) (off := 41) (tgt := 158) (by decide +kernel) (by simpa using ca) ?_
      refine z_ald0 (n := 121) (by decide +kernel) ?_
      refine z_getf (n := 124) (idx := 44) (by decide +kernel) fl_X11_44 (by first | assumption | (simp (disch := omega) only [hu_s, hu_n]; first | assumption | rfl)) (by rfl) ?_
      refine z_ald0 (n := 125) (by decide +kernel) ?_
      refine z_getf (n := 128) (idx := 159) (by decide +kernel) fl_X11_159 (by first | assumption | (simp (disch := omega) only [hu_s, hu_n]; first | assumption | rfl)) (by rfl) ?_
      refine z_top h9 ?_
      refine z_ild2 (n := 129) (by decide +kernel) ?_
      refine z_iast (n := 130) (by decide +kernel) (by first | assumption | (simp (disch := omega) only [hu_s, hu_n]; first | assumption | rfl)) (by first | assumption | exact ix_nI (by omega) (by omega)) ?_
      refine z_ald0 (n := 131) (by decide +kernel) ?_
      refine z_dup (n := 132) (by decide +kernel) rfl ?_
      refine z_getf (n := 135) (idx := 159) (by decide +kernel) fl_X11_159 (by first | assumption | (simp (disch := omega) only [hu_s, hu_n]; first | assumption | rfl)) (by rfl) ?_
      refine z_top h9 ?_
      refine z_iconst (n := 136) (q := 1) (v := 1) (by decide +kernel) ?_
      refine z_iadd (n := 137) (by decide +kernel) ?_
      refine z_top (nI_1 _) ?_
      refine z_putf (n := 140) (idx := 159) (ty := .int) (by decide +kernel) fl_X11_159 (by first | assumption | (simp (disch := omega) only [hu_s, hu_n]; first | assumption | rfl)) ⟨_, _, _, rfl, rfl, by decide +kernel⟩ rfl rfl (Nat.le_of_ble_eq_true rfl) ?_
      refine z_ald0 (n := 141) (by decide +kernel) ?_
      refine z_getf (n := 144) (idx := 47) (by decide +kernel) fl_X11_47 (by first | assumption | (simp (disch := omega) only [hu_s, hu_n]; first | assumption | rfl)) (by rfl) ?_
      refine z_ild2 (n := 145) (by decide +kernel) ?_
      refine z_ald0 (n := 146) (by decide +kernel) ?_
      refine z_getf (n := 149) (idx := 35) (by decide +kernel) fl_X11_35 (by first | assumption | (simp (disch := omega) only [hu_s, hu_n]; first | assumption | rfl)) (by rfl) ?_
      refine z_ild2 (n := 150) (by decide +kernel) ?_
      refine z_iald (n := 151) (by decide +kernel) (by first | assumption | (simp (disch := omega) only [hu_s, hu_n]; first | assumption | rfl)) (by first | assumption | exact ix_nI (by omega) (by omega)) ?_
      refine z_top (rm.trans h5) ?_
      refine z_iast (n := 152) (by decide +kernel) (by first | assumption | (simp (disch := omega) only [hu_s, hu_n]; first | assumption | rfl)) (by first | assumption | exact ix_nI (by omega) (by omega)) ?_
      refine z_inc2 (n := 155) (q := 1) (by decide +kernel) rfl (nI_1 _) ?_
      refine z_goto (n := 158) (off := -146) (tgt := 9) (by decide +kernel) ?_
      skip
      refine rounds N' dn _ (upd op e (nI k)) (upd tn k (nI (N' + 1))) s (by omega) hdn (fun j a _ _ b c => by simp (disch := omega) only [hu_n]) (fun j hj => upd_nn (by omega)) (fun j hj => upd_nn (by omega)) upd_ss upd_ss ⟨⟨upd m 9 (nI (e + 1)), wd, (by simp (disch := omega) only [hTn, hCr, hFl, hu_s, hu_n]; first | done | assumption | rfl), fun q hq => by rw [upd_nn (by omega)]; exact hm q hq, h8, rfl⟩, ⟨(hu_n (by omega)).trans ((hu_n (by omega)).trans ((hu_n (by omega)).trans hw.1)), (hu_n (by omega)).trans ((hu_n (by omega)).trans ((hu_n (by omega)).trans hw.2))⟩, (by simp (disch := omega) only [hTn, hCr, hFl, hu_s, hu_n]; first | done | assumption | rfl), (by simp (disch := omega) only [hTn, hCr, hFl, hu_s, hu_n]; first | done | assumption | rfl), (by simp (disch := omega) only [hTn, hCr, hFl, hu_s, hu_n]; first | done | assumption | rfl), (by simp (disch := omega) only [hTn, hCr, hFl, hu_s, hu_n]; first | done | assumption | rfl), (by simp (disch := omega) only [hTn, hCr, hFl, hu_s, hu_n]; first | done | assumption | rfl), (by simp (disch := omega) only [hTn, hCr, hFl, hu_s, hu_n]; first | done | assumption | rfl)⟩ KS KF
