/-! bytes of the class and of the model; CreasedPaper: feed, hands -/
theorem i_nat (x : Int32) : x.toInt = if 2 * x.toBitVec.toNat < 2 ^ 32 then (x.toBitVec.toNat : Int) else (x.toBitVec.toNat : Int) - 2 ^ 32 := by
  show x.toBitVec.toInt = _
  rw [BitVec.toInt_eq_toNat_cond]
  rfl
theorem by_ba0 (v : Int32) : by4 v 0 = ba4 v 0 := by
  unfold by4 ba4
  rw [pk_and (v >>> (0 &&& 31)) (m := 255) 8 (by decide), pk_and (v.toUInt32 >>> (Int32.toUInt32 0 &&& Int32.toUInt32 31)).toInt32 (m := 255) 8 (by decide), pk_ushr v 0 0 (by decide)]
  have e := pk_shr v (0 &&& 31) 0 (by decide)
  rw [Int.shiftRight_eq_div_pow] at e
  have a := i_nat v
  have b := i_nat (v >>> (0 &&& 31))
  have l1 := v.toBitVec.isLt
  have l2 := (v >>> (0 &&& 31)).toBitVec.isLt
  rw [e] at b
  generalize v.toInt = V at *
  generalize v.toBitVec.toNat = N at *
  generalize (v >>> (0 &&& 31)).toBitVec.toNat = S at *
  refine congrArg nI ?_
  split at a <;> split at b <;> omega
theorem by_ba8 (v : Int32) : by4 v 8 = ba4 v 8 := by
  unfold by4 ba4
  rw [pk_and (v >>> (8 &&& 31)) (m := 255) 8 (by decide), pk_and (v.toUInt32 >>> (Int32.toUInt32 8 &&& Int32.toUInt32 31)).toInt32 (m := 255) 8 (by decide), pk_ushr v 8 8 (by decide)]
  have e := pk_shr v (8 &&& 31) 8 (by decide)
  rw [Int.shiftRight_eq_div_pow] at e
  have a := i_nat v
  have b := i_nat (v >>> (8 &&& 31))
  have l1 := v.toBitVec.isLt
  have l2 := (v >>> (8 &&& 31)).toBitVec.isLt
  rw [e] at b
  generalize v.toInt = V at *
  generalize v.toBitVec.toNat = N at *
  generalize (v >>> (8 &&& 31)).toBitVec.toNat = S at *
  refine congrArg nI ?_
  split at a <;> split at b <;> omega
theorem by_ba16 (v : Int32) : by4 v 16 = ba4 v 16 := by
  unfold by4 ba4
  rw [pk_and (v >>> (16 &&& 31)) (m := 255) 8 (by decide), pk_and (v.toUInt32 >>> (Int32.toUInt32 16 &&& Int32.toUInt32 31)).toInt32 (m := 255) 8 (by decide), pk_ushr v 16 16 (by decide)]
  have e := pk_shr v (16 &&& 31) 16 (by decide)
  rw [Int.shiftRight_eq_div_pow] at e
  have a := i_nat v
  have b := i_nat (v >>> (16 &&& 31))
  have l1 := v.toBitVec.isLt
  have l2 := (v >>> (16 &&& 31)).toBitVec.isLt
  rw [e] at b
  generalize v.toInt = V at *
  generalize v.toBitVec.toNat = N at *
  generalize (v >>> (16 &&& 31)).toBitVec.toNat = S at *
  refine congrArg nI ?_
  split at a <;> split at b <;> omega
theorem by_ba24 (v : Int32) : by4 v 24 = ba4 v 24 := by
  unfold by4 ba4
  rw [pk_and (v >>> (24 &&& 31)) (m := 255) 8 (by decide), pk_and (v.toUInt32 >>> (Int32.toUInt32 24 &&& Int32.toUInt32 31)).toInt32 (m := 255) 8 (by decide), pk_ushr v 24 24 (by decide)]
  have e := pk_shr v (24 &&& 31) 24 (by decide)
  rw [Int.shiftRight_eq_div_pow] at e
  have a := i_nat v
  have b := i_nat (v >>> (24 &&& 31))
  have l1 := v.toBitVec.isLt
  have l2 := (v >>> (24 &&& 31)).toBitVec.isLt
  rw [e] at b
  generalize v.toInt = V at *
  generalize v.toBitVec.toNat = N at *
  generalize (v >>> (24 &&& 31)).toBitVec.toNat = S at *
  refine congrArg nI ?_
  split at a <;> split at b <;> omega
theorem f4_g4 : f4 = g4 := by
  funext t L v
  unfold f4 g4
  rw [by_ba24, by_ba16, by_ba8, by_ba0]
theorem f20_g20 {t : Nat → Int32} {L : Nat} {x1 x2 x3 x4 x5 : Int32} : f20 t L x1 x2 x3 x4 x5 = g20 t L x1 x2 x3 x4 x5 := by
  unfold f20 g20
  rw [f4_g4]
theorem ba4_p (v j : Int32) : 0 ≤ ba4 v j := by
  unfold ba4
  obtain ⟨n, hn, e⟩ := pk_andE (v.toUInt32 >>> (j.toUInt32 &&& Int32.toUInt32 31)).toInt32 (m := 255) 8 (by decide)
  rw [e]
  exact nI_pos' (by omega)
theorem upd_p {t : Nat → Int32} {k : Nat} {x : Int32} (h : ∀ i, 0 ≤ t i) (hx : 0 ≤ x) : ∀ i, 0 ≤ upd t k x i := by
  intro i
  by_cases c : i = k
  · subst c; rw [upd_ss]; exact hx
  · rw [upd_nn c]; exact h i
theorem g4_p {t : Nat → Int32} {L : Nat} {v : Int32} (h : ∀ i, 0 ≤ t i) : ∀ i, 0 ≤ g4 t L v i := upd_p (upd_p (upd_p (upd_p h (ba4_p _ _)) (ba4_p _ _)) (ba4_p _ _)) (ba4_p _ _)
theorem g20_p {t : Nat → Int32} {L : Nat} {x1 x2 x3 x4 x5 : Int32} (h : ∀ i, 0 ≤ t i) : ∀ i, 0 ≤ g20 t L x1 x2 x3 x4 x5 i := g4_p (g4_p (g4_p (g4_p (g4_p h))))
theorem k_feed {G : mG} {h : mH} {C n : Nat} {p po : pS} {e eo : eS} {y yo : yS} {ln : Nat} {bt : Nat → Int32} {wr : Bool} {fk fp sp : Int32} {x1 x2 x3 x4 x5 : Int32} (d : Nat) (hd : 1 ≤ d) (hl : ln ≤ 300) (hc : clsP h C n p po e eo y yo ln bt wr fk fp sp) : EV G m_X10_feed d 0 0 [.ref C, .int x1, .int x2, .int x3, .int x4, .int x5] h (fun r h' => r = some (.int (if ln + 20 ≤ 300 then nI (ln + 20) else -1)) ∧ frm h h' C (C + 102) ∧ clsP h' C n p po e eo y yo (if ln + 20 ≤ 300 then ln + 20 else ln) (if ln + 20 ≤ 300 then g20 bt ln x1 x2 x3 x4 x5 else bt) wr fk fp sp) := by
  have hc0 := hc
  obtain ⟨q0, q1, q2, q3, q4, q5, q6, ⟨kd, sa, bh, vl, t0, t1⟩, q8, q9, q10, q11⟩ := hc
  by_cases c : ln + 20 ≤ 300
  · rw [if_pos c, if_pos c, if_pos c]
    refine ev_6_0 rfl rfl rfl rfl rfl rfl (by decide +kernel) (by decide +kernel) ?_
    refine z_ald0 (n := 1) (by decide +kernel) ?_
    refine z_getf (n := 4) (idx := 53) (by decide +kernel) fl_X10_53 (by first | assumption | (simp (disch := omega) only [hu_s, hu_n]; first | assumption | rfl)) (by rfl) ?_
    refine z_bipush (n := 6) (q := 20) (v := 20) (by decide +kernel) ?_
    refine z_v1 (n := 9) (idx := 171) (by decide +kernel) ml_X10_171 (by first | assumption | (simp (disch := omega) only [hu_s, hu_n]; first | assumption | rfl)) rfl (Nat.le_of_ble_eq_true rfl) (by omega) ⟨Nat.le_refl _, Nat.le_refl _⟩ (k_hasRoom (L := ln) (t := bt) 0 t0 hl) ?_
    refine z_ifb_ne_t (n := 12) (off := 5) (tgt := 14) (by decide +kernel) (decide_eq_true c) ?_
    refine z_ald0 (n := 15) (by decide +kernel) ?_
    refine z_getf (n := 18) (idx := 53) (by decide +kernel) fl_X10_53 (by first | assumption | (simp (disch := omega) only [hu_s, hu_n]; first | assumption | rfl)) (by rfl) ?_
    refine z_ild1 (n := 19) (by decide +kernel) ?_
    refine z_v1v (n := 22) (idx := 174) (by decide +kernel) ml_X10_174 (by first | assumption | (simp (disch := omega) only [hu_s, hu_n]; first | assumption | rfl)) rfl (Nat.le_of_ble_eq_true rfl) (by omega) ⟨Nat.le_refl _, Nat.le_refl _⟩ (k_addWord (L := ln) (t := bt) 0 t0 t1 (by omega)) ?_
    refine z_ald0 (n := 23) (by decide +kernel) ?_
    refine z_getf (n := 26) (idx := 53) (by decide +kernel) fl_X10_53 (by first | assumption | (simp (disch := omega) only [hu_s, hu_n]; first | assumption | rfl)) (by rfl) ?_
    refine z_ild2 (n := 27) (by decide +kernel) ?_
    refine z_v1v (n := 30) (idx := 174) (by decide +kernel) ml_X10_174 (by first | assumption | (simp (disch := omega) only [hu_s, hu_n]; first | assumption | rfl)) rfl (Nat.le_of_ble_eq_true rfl) (by omega) ⟨Nat.le_refl _, Nat.le_refl _⟩ (k_addWord (L := ln + 4) (t := g4 bt ln x1) 0 (by simp (disch := omega) only [hTn, hCr, hFl, hu_s, hu_n]; first | done | assumption | rfl) (by simp (disch := omega) only [hTn, hCr, hFl, hu_s, hu_n]; first | done | assumption | rfl) (by omega)) ?_
    refine z_ald0 (n := 31) (by decide +kernel) ?_
    refine z_getf (n := 34) (idx := 53) (by decide +kernel) fl_X10_53 (by first | assumption | (simp (disch := omega) only [hu_s, hu_n]; first | assumption | rfl)) (by rfl) ?_
    refine z_ild3 (n := 35) (by decide +kernel) ?_
    refine z_v1v (n := 38) (idx := 174) (by decide +kernel) ml_X10_174 (by first | assumption | (simp (disch := omega) only [hu_s, hu_n]; first | assumption | rfl)) rfl (Nat.le_of_ble_eq_true rfl) (by omega) ⟨Nat.le_refl _, Nat.le_refl _⟩ (k_addWord (L := ln + 4 + 4) (t := g4 (g4 bt ln x1) (ln + 4) x2) 0 (by simp (disch := omega) only [hTn, hCr, hFl, hu_s, hu_n]; first | done | assumption | rfl) (by simp (disch := omega) only [hTn, hCr, hFl, hu_s, hu_n]; first | done | assumption | rfl) (by omega)) ?_
    refine z_ald0 (n := 39) (by decide +kernel) ?_
    refine z_getf (n := 42) (idx := 53) (by decide +kernel) fl_X10_53 (by first | assumption | (simp (disch := omega) only [hu_s, hu_n]; first | assumption | rfl)) (by rfl) ?_
    refine z_ild4 (n := 44) (by decide +kernel) ?_
    refine z_v1v (n := 47) (idx := 174) (by decide +kernel) ml_X10_174 (by first | assumption | (simp (disch := omega) only [hu_s, hu_n]; first | assumption | rfl)) rfl (Nat.le_of_ble_eq_true rfl) (by omega) ⟨Nat.le_refl _, Nat.le_refl _⟩ (k_addWord (L := ln + 4 + 4 + 4) (t := g4 (g4 (g4 bt ln x1) (ln + 4) x2) (ln + 4 + 4) x3) 0 (by simp (disch := omega) only [hTn, hCr, hFl, hu_s, hu_n]; first | done | assumption | rfl) (by simp (disch := omega) only [hTn, hCr, hFl, hu_s, hu_n]; first | done | assumption | rfl) (by omega)) ?_
    refine z_ald0 (n := 48) (by decide +kernel) ?_
    refine z_getf (n := 51) (idx := 53) (by decide +kernel) fl_X10_53 (by first | assumption | (simp (disch := omega) only [hu_s, hu_n]; first | assumption | rfl)) (by rfl) ?_
    refine z_ild5 (n := 53) (by decide +kernel) ?_
    refine z_v1v (n := 56) (idx := 174) (by decide +kernel) ml_X10_174 (by first | assumption | (simp (disch := omega) only [hu_s, hu_n]; first | assumption | rfl)) rfl (Nat.le_of_ble_eq_true rfl) (by omega) ⟨Nat.le_refl _, Nat.le_refl _⟩ (k_addWord (L := ln + 4 + 4 + 4 + 4) (t := g4 (g4 (g4 (g4 bt ln x1) (ln + 4) x2) (ln + 4 + 4) x3) (ln + 4 + 4 + 4) x4) 0 (by simp (disch := omega) only [hTn, hCr, hFl, hu_s, hu_n]; first | done | assumption | rfl) (by simp (disch := omega) only [hTn, hCr, hFl, hu_s, hu_n]; first | done | assumption | rfl) (by omega)) ?_
    refine z_ald0 (n := 57) (by decide +kernel) ?_
    refine z_getf (n := 60) (idx := 53) (by decide +kernel) fl_X10_53 (by first | assumption | (simp (disch := omega) only [hu_s, hu_n]; first | assumption | rfl)) (by rfl) ?_
    refine z_getf (n := 63) (idx := 177) (by decide +kernel) fl_X10_177 (by first | assumption | (simp (disch := omega) only [hu_s, hu_n]; first | assumption | rfl)) (by rfl) ?_
    refine z_iret (by decide +kernel) rfl (Nat.le_refl _) ?_
    exact ⟨rfl, fun j hj => by simp (disch := omega) only [hu_n], cls_tap hc0 (fun j hj => by simp (disch := omega) only [hu_n]) ⟨kd, sa, bh, vl, (by simp (disch := omega) only [hTn, hCr, hFl, hu_s, hu_n]; first | done | assumption | rfl), (by simp (disch := omega) only [hTn, hCr, hFl, hu_s, hu_n]; first | done | assumption | rfl)⟩⟩
  · rw [if_neg c, if_neg c, if_neg c]
    refine ev_6_0 rfl rfl rfl rfl rfl rfl (by decide +kernel) (by decide +kernel) ?_
    refine z_ald0 (n := 1) (by decide +kernel) ?_
    refine z_getf (n := 4) (idx := 53) (by decide +kernel) fl_X10_53 (by first | assumption | (simp (disch := omega) only [hu_s, hu_n]; first | assumption | rfl)) (by rfl) ?_
    refine z_bipush (n := 6) (q := 20) (v := 20) (by decide +kernel) ?_
    refine z_v1 (n := 9) (idx := 171) (by decide +kernel) ml_X10_171 (by first | assumption | (simp (disch := omega) only [hu_s, hu_n]; first | assumption | rfl)) rfl (Nat.le_of_ble_eq_true rfl) (by omega) ⟨Nat.le_refl _, Nat.le_refl _⟩ (k_hasRoom (L := ln) (t := bt) 0 t0 hl) ?_
    refine z_ifb_ne_f (n := 12) (off := 5) (tgt := 14) (by decide +kernel) (decide_eq_false c) ?_
    refine z_iconst (n := 13) (q := -1) (v := -1) (by decide +kernel) ?_
    refine z_iret (by decide +kernel) rfl (Nat.le_refl _) ?_
    exact ⟨rfl, frm_rf, hc0⟩
/-- what hands answer and leave of the class: nothing read (fault), or the acts of the text -/
def hnC (h' : mH) (C n : Nat) (p po : pS) (e eo : eS) (y yo : yS) (bt : Nat → Int32) (l : List Nat) (res : Sum (Int32 × Nat) tSt) (v : Int32) : Prop :=
  (∀ f q, res = .inl (f, q) → v = -1 ∧ clsP h' C n p po e eo y yo 0 bt true f (nI q) (-1)) ∧
  (∀ s, res = .inr s → v = nI (exL (actP n s.2.1.1 s.2.1.2.1 s.2.1.2.2) l 0 p).2.1 ∧ clsP h' C n (exL (actP n s.2.1.1 s.2.1.2.1 s.2.1.2.2) l 0 p).2.2 po e eo y yo 0 bt true 0 (-1) (eSp s.2.2.1 (exL (actP n s.2.1.1 s.2.1.2.1 s.2.1.2.2) l 0 p).1))
theorem rdF_inv {t : Nat → Int32} {L : Nat} : ∀ f (s s' : tSt), INV s → rdF t L f s = .inr s' → INV s' ∧ s'.1.2.2 = 0
  | 0, s, s', _, h => by rw [rdF] at h; cases h
  | f + 1, s, s', I, h => by
    by_cases c0 : tC t L s.1.1 = 0 ∧ s.1.2.2 = 0
    · rw [rdF_d c0] at h
      cases h
      exact ⟨I, c0.2⟩
    · by_cases cc : sgn t L s.1.1 41 = true ∧ ¬ s.1.2.2 = 0
      · rw [rdF_c cc] at h
        exact rdF_inv f _ s' (INV_cl I cc.2) h
      · rcases dR_cases (dR t L s.1.1 s.1.2.1 s.1.2.2) with ⟨fx, px, er⟩ | ⟨v, num, right, k', er⟩
        · rw [rdF_b c0 cc er] at h; cases h
        · rw [rdF_o c0 cc er] at h
          exact rdF_inv f _ s' (INV_ok I er) h
theorem rdF_FL {t : Nat → Int32} {L : Nat} {r0 : (Nat → Int32) × (Nat → Int32) × (Nat → Bool)} {r1 : (Nat → Int32) × (Nat → Int32) × (Nat → Int32)} : ∃ l, ∀ s, rdF t L 301 ((0, 0, 0), r0, r1) = .inr s → FL s.2.1.1 s.2.2.2.1 s.2.1.2.1 4 0 s.1.2.1 l := by
  cases er : rdF t L 301 ((0, 0, 0), r0, r1) with
  | inl q => exact ⟨[], fun s h => by cases h⟩
  | inr s =>
    obtain ⟨I, z3⟩ := rdF_inv 301 _ s (INV_0 (v1 := r0.1) (v2 := r0.2.1) (v3 := r0.2.2) (v4 := r1.1) (v5 := r1.2.1) (v6 := r1.2.2)) er
    obtain ⟨gg, _, w1⟩ := I.2.2.2
    have w2 := w1 0 (Nat.zero_le _)
    rw [z3, if_pos rfl, if_neg (by omega), Nat.sub_zero] at w2
    obtain ⟨l, hFL⟩ := FL_of w2
    exact ⟨l, fun s' e => by cases e; exact hFL⟩
theorem k_hands {G : mG} {h : mH} {C n : Nat} {p po : pS} {e eo : eS} {y yo : yS} {ln : Nat} {bt : Nat → Int32} {wr : Bool} {fk fp sp : Int32} (d : Nat) (hd : 15 ≤ d) (hST : ∀ U, gI G U → sOK G U) (hl : ln ≤ 300) (hn : n + 1 ≤ 40) (hc : clsP h C n p po e eo y yo ln bt wr fk fp sp) : ∃ r0 : (Nat → Int32) × (Nat → Int32) × (Nat → Bool), ∃ r1 : (Nat → Int32) × (Nat → Int32) × (Nat → Int32), ∀ l, (∀ s, rdF bt ln 301 ((0, 0, 0), r0, r1) = .inr s → FL s.2.1.1 s.2.2.2.1 s.2.1.2.1 4 0 s.1.2.1 l) → EV G m_X10_hands d 0 0 [.ref C] h (fun r h' => ∃ v, r = some (.int v) ∧ frm h h' C (C + 102) ∧ hnC h' C n p po e eo y yo bt l (rdF bt ln 301 ((0, 0, 0), r0, r1)) v) := by
  have hc0 := hc
  obtain ⟨q0, q1, q2, q3, q4, q5, q6, ⟨kd, sa, bh, vl, t0, t1⟩, ⟨ds, dp, ad, vb, nu, fb, bhh, oa, tr, T⟩, q9, q10, q11⟩ := hc
  refine ⟨(vb, nu, tr), (fb, bhh, oa), fun l hl9 => ?_⟩
  have T0 := T.1
  refine ev_1_1 rfl (by decide +kernel) (by decide +kernel) ?_
  refine z_ald0 (n := 1) (by decide +kernel) ?_
  refine z_getf (n := 4) (idx := 60) (by decide +kernel) fl_X10_60 (by first | assumption | (simp (disch := omega) only [hu_s, hu_n]; first | assumption | rfl)) (by rfl) ?_
  refine z_ald0 (n := 5) (by decide +kernel) ?_
  refine z_getf (n := 8) (idx := 53) (by decide +kernel) fl_X10_53 (by first | assumption | (simp (disch := omega) only [hu_s, hu_n]; first | assumption | rfl)) (by rfl) ?_
  refine z_g1 (n := 11) (idx := 180) (by decide +kernel) ml_X10_180 (by first | assumption | (simp (disch := omega) only [hu_s, hu_n]; first | assumption | rfl)) rfl (Nat.le_of_ble_eq_true rfl) (by omega) ⟨Nat.le_refl _, Nat.le_refl _⟩ (k_readFrom (P := C + 45) (t := bt) (L := ln) 7 (by omega) hST hl t0 t1 T) (fun x8 h8 q8 => ?_)
  skip
  obtain ⟨f1, z1, z2⟩ := q8
  have g0 := (f1 C (by omega)).trans q0
  cases er : rdF bt ln 301 ((0, 0, 0), (vb, nu, tr), (fb, bhh, oa)) with
  | inl fq =>
    obtain ⟨f, q⟩ := fq
    obtain ⟨rfl, z3⟩ := z1 f q er
    obtain ⟨⟨kd2, sa2, bh2, vl2, u0⟩, u1, ds2, dp2, ad2, vb2, nu2, fb2, bh2, oa2, tr2, u2⟩ := z3
    refine z_ist1 (n := 12) (by decide +kernel) rfl ?_
    refine z_ald0 (n := 13) (by decide +kernel) ?_
    refine z_getf (n := 16) (idx := 53) (by decide +kernel) fl_X10_53 (by first | assumption | (simp (disch := omega) only [hu_s, hu_n]; first | assumption | rfl)) (by rfl) ?_
    refine z_iconst (n := 17) (q := 0) (v := 0) (by decide +kernel) ?_
    refine z_putf (n := 20) (idx := 177) (ty := .int) (by decide +kernel) fl_X10_177 (by first | assumption | (simp (disch := omega) only [hu_s, hu_n]; first | assumption | rfl)) ⟨_, _, _, rfl, rfl, by decide +kernel⟩ rfl rfl (Nat.le_of_ble_eq_true rfl) ?_
    refine z_ild1 (n := 21) (by decide +kernel) ?_
    refine z_ifb_eq_t (n := 24) (off := 17) (tgt := 38) (by decide +kernel) (rfl) ?_
    refine z_iconst (n := 39) (q := -1) (v := -1) (by decide +kernel) ?_
    refine z_iret (by decide +kernel) rfl (Nat.le_refl _) ?_
    refine ⟨-1, rfl, fun j hj => by rw [hu_n (by omega)]; exact f1 j (by omega), fun f' q' e' => ?_, fun s e' => by cases e'⟩
    cases e'
    refine ⟨rfl, ?_⟩
    exact ⟨(by simp (disch := omega) only [hTn, hCr, hFl, hu_s, hu_n]; first | done | assumption | rfl), pap_in (fun j a b => (hu_n (by omega)).trans (f1 j (by omega))) q1, pap_in (fun j a b => (hu_n (by omega)).trans (f1 j (by omega))) q2, she_in (fun j a b => (hu_n (by omega)).trans (f1 j (by omega))) q3, she_in (fun j a b => (hu_n (by omega)).trans (f1 j (by omega))) q4, see_in (fun j a b => (hu_n (by omega)).trans (f1 j (by omega))) q5, see_in (fun j a b => (hu_n (by omega)).trans (f1 j (by omega))) q6, ⟨kd2, sa2, _, vl2, hu_s, (by simp (disch := omega) only [hTn, hCr, hFl, hu_s, hu_n]; first | done | assumption | rfl)⟩, ⟨_, _, _, _, _, _, _, _, _, txt_in (fun j a b => hu_n (by omega)) u2⟩, shaX_in (fun j a b => (hu_n (by omega)).trans (f1 j (by omega))) q9, panX_in (fun j a b => (hu_n (by omega)).trans (f1 j (by omega))) q10, seaX_in (fun j a b => (hu_n (by omega)).trans (f1 j (by omega))) q11⟩
  | inr s =>
    obtain ⟨rfl, z3, I, z4⟩ := z2 s er
    obtain ⟨⟨vl2, u0⟩, u1, u2⟩ := z4
    unfold oTok at u0
    have hFL := hl9 s er
    have p1 : pap (hu h8 (C + 45) (oTap (C + 45) 0 (nI (tC bt ln s.1.1)) (nI (tS bt ln s.1.1)) (nI (tE bt ln s.1.1)) (if tC bt ln s.1.1 = 3 then tV bt ln s.1.1 else vl2))) (C + 1) n p := pap_in (fun j a b => (hu_n (by omega)).trans (f1 j (by omega))) q1
    have u3 : txt (hu h8 (C + 45) (oTap (C + 45) 0 (nI (tC bt ln s.1.1)) (nI (tS bt ln s.1.1)) (nI (tE bt ln s.1.1)) (if tC bt ln s.1.1 = 3 then tV bt ln s.1.1 else vl2))) (C + 47) true 0 (-1) (-1) (nI s.1.2.1) (nI s.1.2.2) ad s.2.1.1 s.2.1.2.1 s.2.2.1 s.2.2.2.1 s.2.2.2.2 s.2.1.2.2 := txt_in (fun j a b => hu_n (by omega)) u2
    have u30 := u3.1
    refine z_ist1 (n := 12) (by decide +kernel) rfl ?_
    refine z_ald0 (n := 13) (by decide +kernel) ?_
    refine z_getf (n := 16) (idx := 53) (by decide +kernel) fl_X10_53 (by first | assumption | (simp (disch := omega) only [hu_s, hu_n]; first | assumption | rfl)) (by rfl) ?_
    refine z_iconst (n := 17) (q := 0) (v := 0) (by decide +kernel) ?_
    refine z_putf (n := 20) (idx := 177) (ty := .int) (by decide +kernel) fl_X10_177 (by first | assumption | (simp (disch := omega) only [hu_s, hu_n]; first | assumption | rfl)) ⟨_, _, _, rfl, rfl, by decide +kernel⟩ rfl rfl (Nat.le_of_ble_eq_true rfl) ?_
    refine z_ild1 (n := 21) (by decide +kernel) ?_
    refine z_ifb_eq_f (n := 24) (off := 17) (tgt := 38) (by decide +kernel) (rfl) ?_
    refine z_ald0 (n := 25) (by decide +kernel) ?_
    refine z_getf (n := 28) (idx := 60) (by decide +kernel) fl_X10_60 (by first | assumption | (simp (disch := omega) only [hu_s, hu_n]; first | assumption | rfl)) (by rfl) ?_
    refine z_ald0 (n := 29) (by decide +kernel) ?_
    refine z_getf (n := 32) (idx := 23) (by decide +kernel) fl_X10_23 (by first | assumption | (simp (disch := omega) only [hu_s, hu_n]; first | assumption | rfl)) (by rfl) ?_
    refine z_w1 (n := 35) (idx := 184) (by decide +kernel) ml_X10_184 (by first | assumption | (simp (disch := omega) only [hu_s, hu_n]; first | assumption | rfl)) rfl (Nat.le_of_ble_eq_true rfl) (by omega) ⟨Nat.le_refl _, Nat.le_refl _⟩ (k_doneTo (n := n) (ds := 0) (sp := 0) (X := C + 47) (B := C + 1) (d := s.1.2.1) (l := l) (by omega) (by omega) hFL I.2.1 14 (by omega) u3 p1) (fun h32 q32 => ?_)
    refine z_goto (n := 38) (off := 4) (tgt := 39) (by decide +kernel) ?_
    refine z_iret (by decide +kernel) rfl (Nat.le_refl _) ?_
    refine ⟨_, rfl, ?_, fun f' q' e' => (by cases e'), fun s' e' => ?_⟩
    · intro j hj
      rw [q32.1 j (by omega) (by omega), hu_n (by omega)]
      exact f1 j (by omega)
    · cases e'
      obtain ⟨F3, E1, E2⟩ := q32
      refine ⟨rfl, ?_⟩
      have hh : ∀ j, (j < C + 1 ∨ C + 14 ≤ j) → (j < C + 45 ∨ C + 54 ≤ j) → h32 j = h j := fun j a b => by
        rw [F3 j (by omega) (by omega), hu_n (by omega)]
        exact f1 j (by omega)
      refine ⟨(hh C (by omega) (by omega)).trans q0, E2, pap_in (fun j a b => hh j (by omega) (by omega)) q2, she_in (fun j a b => hh j (by omega) (by omega)) q3, she_in (fun j a b => hh j (by omega) (by omega)) q4, see_in (fun j a b => hh j (by omega) (by omega)) q5, see_in (fun j a b => hh j (by omega) (by omega)) q6, ⟨_, _, _, _, (F3 (C + 45) (by omega) (by omega)).trans hu_s, (F3 (C + 46) (by omega) (by omega)).trans ((hu_n (by omega)).trans u1)⟩, ⟨_, _, _, _, _, _, _, _, _, E1⟩, shaX_in (fun j a b => hh j (by omega) (by omega)) q9, panX_in (fun j a b => hh j (by omega) (by omega)) q10, seaX_in (fun j a b => hh j (by omega) (by omega)) q11⟩
