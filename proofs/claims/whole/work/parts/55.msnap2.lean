/-! CreasedPaperModel: snap -/
def stp1 (q t : Int32) : Int32 := if q ≤ t then 1 else -1
theorem i_rc {a b c : Int32} (h : a + c = b + c) : a = b := by
  have := congrArg (· - c) h
  simpa using this
theorem i_lc {a b c : Int32} (h : c + a = c + b) : a = b := i_rc (c := c) (by rw [Int32.add_comm a, Int32.add_comm b]; exact h)
theorem mul_m1 (x : Int32) : x * -1 = -x := by rw [Int32.mul_neg, Int32.mul_one]
theorem ab_end {q t : Int32} {k : Nat} (hk : ab32 (t - q) = nI k) (h1 : win q (-1000000) 1000000 = true) (h2 : win t (-1000000) 1000000 = true) : q + nI k * stp1 q t = t := by
  unfold win at h1 h2
  simp only [Bool.and_eq_true, Bool.not_eq_true', decide_eq_false_iff_not] at h1 h2
  have a1 : (-1000000 : Int) ≤ q.toInt := Int32.le_iff_toInt_le.mp (Int32.not_lt.mp h1.1)
  have a2 : q.toInt ≤ 1000000 := Int32.le_iff_toInt_le.mp (Int32.not_lt.mp h1.2)
  have b1 : (-1000000 : Int) ≤ t.toInt := Int32.le_iff_toInt_le.mp (Int32.not_lt.mp h2.1)
  have b2 : t.toInt ≤ 1000000 := Int32.le_iff_toInt_le.mp (Int32.not_lt.mp h2.2)
  have e : (t - q).toInt = t.toInt - q.toInt := by
    rw [Int32.toInt_sub]
    exact Int.bmod_eq_of_le (by omega) (by omega)
  unfold stp1
  rw [← hk]
  unfold ab32
  by_cases c : q ≤ t
  · have c9 := Int32.le_iff_toInt_le.mp c
    rw [if_pos c, if_pos (by rw [Int32.le_iff_toInt_le, e]; show (0 : Int) ≤ _; omega), Int32.mul_one, Int32.add_comm, Int32.sub_add_cancel]
  · have c9 : ¬ q.toInt ≤ t.toInt := fun z => c (Int32.le_iff_toInt_le.mpr z)
    rw [if_neg c, if_neg (by rw [Int32.le_iff_toInt_le, e]; show ¬ (0 : Int) ≤ _; omega), mul_m1, Int32.zero_sub, Int32.neg_neg, Int32.add_comm, Int32.sub_add_cancel]
theorem ab_inj {q t : Int32} {u k : Nat} (hu9 : u ≤ 2000) (hk : k ≤ 2000) (h : q + nI u * stp1 q t = q + nI k * stp1 q t) : u = k := by
  have h1 := i_lc h
  unfold stp1 at h1
  split at h1
  · rw [Int32.mul_one, Int32.mul_one] at h1
    exact (nI_ij (by omega) (by omega)).mp h1
  · rw [mul_m1, mul_m1] at h1
    exact (nI_ij (by omega) (by omega)).mp (Int32.neg_inj.mp h1)
def snM (a : Nat → Int32) (x an q t w : Int32) : Int32 := if (win x 0 (a 4 - 1) && win an (-180) 180 && win q (-1000000) 1000000 && win t (-1000000) 1000000 && !decide (2000 < ab32 (t - q)) && win w 0 2) = true then (if styI (tbM a x.toNatClampNeg) (an + 180).toNatClampNeg q = true then (if w = 0 then toA (psT (tbM a x.toNatClampNeg) q (stp1 q t) (an + 180).toNatClampNeg (ab32 (t - q)).toNatClampNeg).1 else if w = 1 then (psT (tbM a x.toNatClampNeg) q (stp1 q t) (an + 180).toNatClampNeg (ab32 (t - q)).toNatClampNeg).2.1 else (psT (tbM a x.toNatClampNeg) q (stp1 q t) (an + 180).toNatClampNeg (ab32 (t - q)).toNatClampNeg).2.2) else -3000) else -3000
theorem m_snapLoop {G : mG} {h : mH} {Q n sh : Nat} {m : Nat → Int32} {wd : Int64} {a : Nat → Int32} {q t w : Int32} {i0 k : Nat} (d : Nat) (hd : 3 ≤ d) (hs : sh < 6) (hQ : h Q = oMod Q (nI (n + 1)) m wd) (hA : h (Q + 1) = aI 600 a) (hn : n + 1 ≤ 40) (hi0 : i0 ≤ 360) (hk : k ≤ 2000) (he : q + nI k * stp1 q t = t) : ∀ r u, u + r = k → Z G m_X11_snap d 0 0 0 0 87 [some (.ref Q), some (.int (nI sh)), some (.int (ang i0)), some (.int q), some (.int t), some (.int w), some (.int (toA (psT (tbM a sh) q (stp1 q t) i0 u).1)), some (.int (psT (tbM a sh) q (stp1 q t) i0 u).2.1), some (.int (psT (tbM a sh) q (stp1 q t) i0 u).2.2), some (.int (q + nI u * stp1 q t)), none] [] h (RE (some (.int (if w = 0 then toA (psT (tbM a sh) q (stp1 q t) i0 k).1 else if w = 1 then (psT (tbM a sh) q (stp1 q t) i0 k).2.1 else (psT (tbM a sh) q (stp1 q t) i0 k).2.2))) h) := by
  intro r
  induction r with
  | zero =>
    intro u hr
    have : u = k := by omega
    subst this
    refine z_ild9 (n := 89) (by decide +kernel) ?_
    refine z_ild4 (n := 91) (by decide +kernel) ?_
    refine z_icmp_eq_t (n := 94) (off := 97) (tgt := 188) (by decide +kernel) (he) ?_
    refine z_ild5 (n := 190) (by decide +kernel) ?_
    refine z_if_ne (n := 193) (off := 8) (tgt := 198) (by decide +kernel) (fun c190 => ?_) (fun c190 => ?_)
    · refine z_ild5 (n := 200) (by decide +kernel) ?_
      refine z_iconst (n := 201) (q := 1) (v := 1) (by decide +kernel) ?_
      refine z_icmp_ne (n := 204) (off := 8) (tgt := 209) (by decide +kernel) (fun c201 => ?_) (fun c201 => ?_)
      · refine z_ild8 (n := 211) (by decide +kernel) ?_
        refine z_iret (by decide +kernel) rfl (Nat.le_refl _) ?_
        refine ⟨?_, rfl⟩; simp only [eq_false c190, eq_false c201, if_true, if_false]
      · refine z_ild7 (n := 206) (by decide +kernel) ?_
        refine z_goto (n := 209) (off := 5) (tgt := 211) (by decide +kernel) ?_
        refine z_iret (by decide +kernel) rfl (Nat.le_refl _) ?_
        refine ⟨?_, rfl⟩; simp only [eq_false c190, eq_true c201, if_true, if_false]
    · refine z_ild6 (n := 195) (by decide +kernel) ?_
      refine z_goto (n := 198) (off := 16) (tgt := 211) (by decide +kernel) ?_
      refine z_iret (by decide +kernel) rfl (Nat.le_refl _) ?_
      refine ⟨?_, rfl⟩; simp only [eq_true c190, if_true, if_false]
  | succ r ih =>
    intro u hr
    have nt : ¬ q + nI u * stp1 q t = t := fun z => by
      have := ab_inj (q := q) (t := t) (u := u) (k := k) (by omega) hk (z.trans he.symm)
      omega
    cases e : (psT (tbM a sh) q (stp1 q t) i0 u).1 with
    | none =>
      have ek := psT_none e k (by omega)
      rw [ek]
      refine z_ild9 (n := 89) (by decide +kernel) ?_
      refine z_ild4 (n := 91) (by decide +kernel) ?_
      refine z_icmp_eq_f (n := 94) (off := 97) (tgt := 188) (by decide +kernel) (nt) ?_
      refine z_ild6 (n := 96) (by decide +kernel) ?_
      refine z_sipush (n := 99) (q := -1000) (v := -1000) (by decide +kernel) ?_
      refine z_icmp_eq_t (n := 102) (off := 89) (tgt := 188) (by decide +kernel) (rfl) ?_
      refine z_ild5 (n := 190) (by decide +kernel) ?_
      refine z_if_ne (n := 193) (off := 8) (tgt := 198) (by decide +kernel) (fun c190 => ?_) (fun c190 => ?_)
      · refine z_ild5 (n := 200) (by decide +kernel) ?_
        refine z_iconst (n := 201) (q := 1) (v := 1) (by decide +kernel) ?_
        refine z_icmp_ne (n := 204) (off := 8) (tgt := 209) (by decide +kernel) (fun c201 => ?_) (fun c201 => ?_)
        · refine z_ild8 (n := 211) (by decide +kernel) ?_
          refine z_iret (by decide +kernel) rfl (Nat.le_refl _) ?_
          refine ⟨?_, rfl⟩; simp only [eq_false c190, eq_false c201, if_true, if_false, e]
        · refine z_ild7 (n := 206) (by decide +kernel) ?_
          refine z_goto (n := 209) (off := 5) (tgt := 211) (by decide +kernel) ?_
          refine z_iret (by decide +kernel) rfl (Nat.le_refl _) ?_
          refine ⟨?_, rfl⟩; simp only [eq_false c190, eq_true c201, if_true, if_false, e]
      · refine z_ild6 (n := 195) (by decide +kernel) ?_
        refine z_goto (n := 198) (off := 16) (tgt := 211) (by decide +kernel) ?_
        refine z_iret (by decide +kernel) rfl (Nat.le_refl _) ?_
        refine ⟨?_, rfl⟩; simp only [eq_true c190, if_true, if_false, e]
    | some i =>
      have hi : i ≤ 360 := psT_le hi0 u i e
      have hstep : q + nI u * stp1 q t + stp1 q t = q + nI (u + 1) * stp1 q t := by
        rw [← nI_1, Int32.add_mul, Int32.one_mul, Int32.add_assoc]
      have ep : psT (tbM a sh) q (stp1 q t) i0 (u + 1) = folT (tbM a sh) (q + nI (u + 1) * stp1 q t) i (psT (tbM a sh) q (stp1 q t) i0 u).2.1 (psT (tbM a sh) q (stp1 q t) i0 u).2.2 := by
        rw [psT]
        rcases ee : psT (tbM a sh) q (stp1 q t) i0 u with ⟨o, s1, s2⟩
        rw [ee] at e
        cases e
        rfl
      rw [folT_m hi] at ep
      have ihx := ih (u + 1) (by omega)
      rw [ep] at ihx
      generalize (psT (tbM a sh) q (stp1 q t) i0 u).2.1 = sn at ihx ⊢
      generalize (psT (tbM a sh) q (stp1 q t) i0 u).2.2 = fp at ihx ⊢
      have f118 : Z G m_X11_snap d 0 0 0 0 118 [some (.ref Q), some (.int (nI sh)), some (.int (ang i0)), some (.int q), some (.int t), some (.int w), some (.int (ang i)), some (.int sn), some (.int fp), some (.int (q + nI (u + 1) * stp1 q t)), none] [] h (RE (some (.int (if w = 0 then toA (psT (tbM a sh) q (stp1 q t) i0 k).1 else if w = 1 then (psT (tbM a sh) q (stp1 q t) i0 k).2.1 else (psT (tbM a sh) q (stp1 q t) i0 k).2.2))) h) := by
        cases e2 : nrO (fun j => styI (tbM a sh) j (q + nI (u + 1) * stp1 q t)) i 2 0 with
        | some j =>
          rw [e2] at ihx
          have hj := nrO_le hi _ _ e2
          refine z_ald0 (n := 119) (by decide +kernel) ?_
          refine z_ild1 (n := 120) (by decide +kernel) ?_
          refine z_ild9 (n := 122) (by decide +kernel) ?_
          refine z_ild6 (n := 124) (by decide +kernel) ?_
          refine z_iconst (n := 125) (q := 0) (v := 0) (by decide +kernel) ?_
          refine z_iconst (n := 126) (q := 1) (v := 1) (by decide +kernel) ?_
          refine z_v5 (n := 129) (idx := 224) (by decide +kernel) ml_X11_224 (by assumption) rfl (Nat.le_of_ble_eq_true rfl) (by omega) ⟨Nat.le_refl _, Nat.le_refl _⟩ (m_nearest (n := n) (sh := sh) (i := i) (lo := 0) (hi := 1) 2 (by omega) hs hQ hA hn hi (by omega) (by omega)) ?_
          refine z_top (congrArg toA e2) ?_
          refine z_ist10 (n := 131) (by decide +kernel) rfl ?_
          refine z_ild10 (n := 133) (by decide +kernel) ?_
          refine z_sipush (n := 136) (q := -1000) (v := -1000) (by decide +kernel) ?_
          refine z_icmp_eq_f (n := 139) (off := 10) (tgt := 146) (by decide +kernel) (ang_gone hj) ?_
          refine z_ild10 (n := 141) (by decide +kernel) ?_
          refine z_ist6 (n := 143) (by decide +kernel) rfl ?_
          refine z_goto (n := 146) (off := -56) (tgt := 87) (by decide +kernel) ?_
          exact z_wk (lv' := [some (.ref Q), some (.int (nI sh)), some (.int (ang i0)), some (.int q), some (.int t), some (.int w), some (.int (ang j)), some (.int sn), some (.int fp), some (.int (q + nI (u + 1) * stp1 q t)), none]) (by simp [wk]; rfl) ihx
        | none =>
          rw [e2] at ihx
          cases e3 : nrO (fun j => styI (tbM a sh) j (q + nI (u + 1) * stp1 q t)) i 359 2 with
          | none =>
            rw [e3] at ihx
            refine z_ald0 (n := 119) (by decide +kernel) ?_
            refine z_ild1 (n := 120) (by decide +kernel) ?_
            refine z_ild9 (n := 122) (by decide +kernel) ?_
            refine z_ild6 (n := 124) (by decide +kernel) ?_
            refine z_iconst (n := 125) (q := 0) (v := 0) (by decide +kernel) ?_
            refine z_iconst (n := 126) (q := 1) (v := 1) (by decide +kernel) ?_
            refine z_v5 (n := 129) (idx := 224) (by decide +kernel) ml_X11_224 (by assumption) rfl (Nat.le_of_ble_eq_true rfl) (by omega) ⟨Nat.le_refl _, Nat.le_refl _⟩ (m_nearest (n := n) (sh := sh) (i := i) (lo := 0) (hi := 1) 2 (by omega) hs hQ hA hn hi (by omega) (by omega)) ?_
            refine z_top (congrArg toA e2) ?_
            refine z_ist10 (n := 131) (by decide +kernel) rfl ?_
            refine z_ild10 (n := 133) (by decide +kernel) ?_
            refine z_sipush (n := 136) (q := -1000) (v := -1000) (by decide +kernel) ?_
            refine z_icmp_eq_t (n := 139) (off := 10) (tgt := 146) (by decide +kernel) (rfl) ?_
            refine z_ald0 (n := 147) (by decide +kernel) ?_
            refine z_ild1 (n := 148) (by decide +kernel) ?_
            refine z_ild9 (n := 150) (by decide +kernel) ?_
            refine z_ild6 (n := 152) (by decide +kernel) ?_
            refine z_iconst (n := 153) (q := 2) (v := 2) (by decide +kernel) ?_
            refine z_sipush (n := 156) (q := 360) (v := 360) (by decide +kernel) ?_
            refine z_v5 (n := 159) (idx := 224) (by decide +kernel) ml_X11_224 (by assumption) rfl (Nat.le_of_ble_eq_true rfl) (by omega) ⟨Nat.le_refl _, Nat.le_refl _⟩ (m_nearest (n := n) (sh := sh) (i := i) (lo := 2) (hi := 360) 2 (by omega) hs hQ hA hn hi (by omega) (by omega)) ?_
            refine z_top (congrArg toA e3) ?_
            refine z_ist6 (n := 161) (by decide +kernel) rfl ?_
            refine z_ild6 (n := 163) (by decide +kernel) ?_
            refine z_sipush (n := 166) (q := -1000) (v := -1000) (by decide +kernel) ?_
            refine z_icmp_ne_f (n := 169) (off := 6) (tgt := 172) (by decide +kernel) (rfl) ?_
            refine z_goto (n := 172) (off := -82) (tgt := 87) (by decide +kernel) ?_
            exact z_wk (lv' := [some (.ref Q), some (.int (nI sh)), some (.int (ang i0)), some (.int q), some (.int t), some (.int w), some (.int (-1000)), some (.int sn), some (.int fp), some (.int (q + nI (u + 1) * stp1 q t)), none]) (by simp [wk]; rfl) ihx
          | some j =>
            rw [e3] at ihx
            have hj := nrO_le hi _ _ e3
            by_cases c0 : sn = 0
            · subst c0
              refine z_ald0 (n := 119) (by decide +kernel) ?_
              refine z_ild1 (n := 120) (by decide +kernel) ?_
              refine z_ild9 (n := 122) (by decide +kernel) ?_
              refine z_ild6 (n := 124) (by decide +kernel) ?_
              refine z_iconst (n := 125) (q := 0) (v := 0) (by decide +kernel) ?_
              refine z_iconst (n := 126) (q := 1) (v := 1) (by decide +kernel) ?_
              refine z_v5 (n := 129) (idx := 224) (by decide +kernel) ml_X11_224 (by assumption) rfl (Nat.le_of_ble_eq_true rfl) (by omega) ⟨Nat.le_refl _, Nat.le_refl _⟩ (m_nearest (n := n) (sh := sh) (i := i) (lo := 0) (hi := 1) 2 (by omega) hs hQ hA hn hi (by omega) (by omega)) ?_
              refine z_top (congrArg toA e2) ?_
              refine z_ist10 (n := 131) (by decide +kernel) rfl ?_
              refine z_ild10 (n := 133) (by decide +kernel) ?_
              refine z_sipush (n := 136) (q := -1000) (v := -1000) (by decide +kernel) ?_
              refine z_icmp_eq_t (n := 139) (off := 10) (tgt := 146) (by decide +kernel) (rfl) ?_
              refine z_ald0 (n := 147) (by decide +kernel) ?_
              refine z_ild1 (n := 148) (by decide +kernel) ?_
              refine z_ild9 (n := 150) (by decide +kernel) ?_
              refine z_ild6 (n := 152) (by decide +kernel) ?_
              refine z_iconst (n := 153) (q := 2) (v := 2) (by decide +kernel) ?_
              refine z_sipush (n := 156) (q := 360) (v := 360) (by decide +kernel) ?_
              refine z_v5 (n := 159) (idx := 224) (by decide +kernel) ml_X11_224 (by assumption) rfl (Nat.le_of_ble_eq_true rfl) (by omega) ⟨Nat.le_refl _, Nat.le_refl _⟩ (m_nearest (n := n) (sh := sh) (i := i) (lo := 2) (hi := 360) 2 (by omega) hs hQ hA hn hi (by omega) (by omega)) ?_
              refine z_top (congrArg toA e3) ?_
              refine z_ist6 (n := 161) (by decide +kernel) rfl ?_
              refine z_ild6 (n := 163) (by decide +kernel) ?_
              refine z_sipush (n := 166) (q := -1000) (v := -1000) (by decide +kernel) ?_
              refine z_icmp_ne_t (n := 169) (off := 6) (tgt := 172) (by decide +kernel) (ang_gone hj) ?_
              refine z_inc7 (n := 175) (q := 1) (by decide +kernel) rfl (rfl) ?_
              refine z_ild7 (n := 177) (by decide +kernel) ?_
              refine z_iconst (n := 178) (q := 1) (v := 1) (by decide +kernel) ?_
              refine z_icmp_ne_f (n := 181) (off := 7) (tgt := 185) (by decide +kernel) (rfl) ?_
              refine z_ild9 (n := 183) (by decide +kernel) ?_
              refine z_ist8 (n := 185) (by decide +kernel) rfl ?_
              refine z_goto (n := 188) (off := -98) (tgt := 87) (by decide +kernel) ?_
              exact z_wk (lv' := [some (.ref Q), some (.int (nI sh)), some (.int (ang i0)), some (.int q), some (.int t), some (.int w), some (.int (ang j)), some (.int (0 + 1)), some (.int (q + nI (u + 1) * stp1 q t)), some (.int (q + nI (u + 1) * stp1 q t)), none]) (by simp [wk]; rfl) ihx
            · dsimp only at ihx
              rw [if_neg c0] at ihx
              have cs : ¬ sn + 1 = 1 := fun z => c0 (by
                have z2 : sn + 1 = 0 + 1 := z
                exact i_rc z2)
              refine z_ald0 (n := 119) (by decide +kernel) ?_
              refine z_ild1 (n := 120) (by decide +kernel) ?_
              refine z_ild9 (n := 122) (by decide +kernel) ?_
              refine z_ild6 (n := 124) (by decide +kernel) ?_
              refine z_iconst (n := 125) (q := 0) (v := 0) (by decide +kernel) ?_
              refine z_iconst (n := 126) (q := 1) (v := 1) (by decide +kernel) ?_
              refine z_v5 (n := 129) (idx := 224) (by decide +kernel) ml_X11_224 (by assumption) rfl (Nat.le_of_ble_eq_true rfl) (by omega) ⟨Nat.le_refl _, Nat.le_refl _⟩ (m_nearest (n := n) (sh := sh) (i := i) (lo := 0) (hi := 1) 2 (by omega) hs hQ hA hn hi (by omega) (by omega)) ?_
              refine z_top (congrArg toA e2) ?_
              refine z_ist10 (n := 131) (by decide +kernel) rfl ?_
              refine z_ild10 (n := 133) (by decide +kernel) ?_
              refine z_sipush (n := 136) (q := -1000) (v := -1000) (by decide +kernel) ?_
              refine z_icmp_eq_t (n := 139) (off := 10) (tgt := 146) (by decide +kernel) (rfl) ?_
              refine z_ald0 (n := 147) (by decide +kernel) ?_
              refine z_ild1 (n := 148) (by decide +kernel) ?_
              refine z_ild9 (n := 150) (by decide +kernel) ?_
              refine z_ild6 (n := 152) (by decide +kernel) ?_
              refine z_iconst (n := 153) (q := 2) (v := 2) (by decide +kernel) ?_
              refine z_sipush (n := 156) (q := 360) (v := 360) (by decide +kernel) ?_
              refine z_v5 (n := 159) (idx := 224) (by decide +kernel) ml_X11_224 (by assumption) rfl (Nat.le_of_ble_eq_true rfl) (by omega) ⟨Nat.le_refl _, Nat.le_refl _⟩ (m_nearest (n := n) (sh := sh) (i := i) (lo := 2) (hi := 360) 2 (by omega) hs hQ hA hn hi (by omega) (by omega)) ?_
              refine z_top (congrArg toA e3) ?_
              refine z_ist6 (n := 161) (by decide +kernel) rfl ?_
              refine z_ild6 (n := 163) (by decide +kernel) ?_
              refine z_sipush (n := 166) (q := -1000) (v := -1000) (by decide +kernel) ?_
              refine z_icmp_ne_t (n := 169) (off := 6) (tgt := 172) (by decide +kernel) (ang_gone hj) ?_
              refine z_inc7 (n := 175) (q := 1) (by decide +kernel) rfl (rfl) ?_
              refine z_ild7 (n := 177) (by decide +kernel) ?_
              refine z_iconst (n := 178) (q := 1) (v := 1) (by decide +kernel) ?_
              refine z_icmp_ne_t (n := 181) (off := 7) (tgt := 185) (by decide +kernel) (cs) ?_
              refine z_goto (n := 188) (off := -98) (tgt := 87) (by decide +kernel) ?_
              exact z_wk (lv' := [some (.ref Q), some (.int (nI sh)), some (.int (ang i0)), some (.int q), some (.int t), some (.int w), some (.int (ang j)), some (.int (sn + 1)), some (.int fp), some (.int (q + nI (u + 1) * stp1 q t)), none]) (by simp [wk]; rfl) ihx
      have cq : t ≤ q ↔ ¬ q ≤ t := by
        constructor
        · intro z1 z2
          have z3 : q = t := Int32.le_antisymm z2 z1
          have z4 : k = 0 := by
            have hh := he
            rw [z3] at hh
            have hz : t + nI k * stp1 t t = t + nI 0 * stp1 t t := by rw [hh, nI_0, Int32.zero_mul, Int32.add_zero]
            exact ab_inj hk (by omega) hz
          omega
        · intro z
          exact Int32.le_of_lt (Int32.not_le.mp z)
      have gs : toA (some i) = ang i := rfl
      by_cases c : q ≤ t
      · have es : stp1 q t = 1 := if_pos c
        refine z_ild9 (n := 89) (by decide +kernel) ?_
        refine z_ild4 (n := 91) (by decide +kernel) ?_
        refine z_icmp_eq_f (n := 94) (off := 97) (tgt := 188) (by decide +kernel) (nt) ?_
        refine z_ild6 (n := 96) (by decide +kernel) ?_
        refine z_sipush (n := 99) (q := -1000) (v := -1000) (by decide +kernel) ?_
        refine z_icmp_eq_f (n := 102) (off := 89) (tgt := 188) (by decide +kernel) (ang_gone hi) ?_
        refine z_ild9 (n := 104) (by decide +kernel) ?_
        refine z_ild4 (n := 106) (by decide +kernel) ?_
        refine z_ild3 (n := 107) (by decide +kernel) ?_
        refine z_icmp_le_f (n := 110) (off := 7) (tgt := 114) (by decide +kernel) (fun z => cq.mp z c) ?_
        refine z_iconst (n := 111) (q := 1) (v := 1) (by decide +kernel) ?_
        refine z_goto (n := 114) (off := 4) (tgt := 115) (by decide +kernel) ?_
        refine z_iadd (n := 116) (by decide +kernel) ?_
        refine z_top (show q + nI u * stp1 q t + 1 = q + nI (u + 1) * stp1 q t from by rw [← hstep, es]) ?_
        refine z_ist9 (n := 118) (by decide +kernel) rfl ?_
        exact f118
      · have es : stp1 q t = -1 := if_neg c
        refine z_ild9 (n := 89) (by decide +kernel) ?_
        refine z_ild4 (n := 91) (by decide +kernel) ?_
        refine z_icmp_eq_f (n := 94) (off := 97) (tgt := 188) (by decide +kernel) (nt) ?_
        refine z_ild6 (n := 96) (by decide +kernel) ?_
        refine z_sipush (n := 99) (q := -1000) (v := -1000) (by decide +kernel) ?_
        refine z_icmp_eq_f (n := 102) (off := 89) (tgt := 188) (by decide +kernel) (ang_gone hi) ?_
        refine z_ild9 (n := 104) (by decide +kernel) ?_
        refine z_ild4 (n := 106) (by decide +kernel) ?_
        refine z_ild3 (n := 107) (by decide +kernel) ?_
        refine z_icmp_le_t (n := 110) (off := 7) (tgt := 114) (by decide +kernel) (cq.mpr c) ?_
        refine z_iconst (n := 115) (q := -1) (v := -1) (by decide +kernel) ?_
        refine z_iadd (n := 116) (by decide +kernel) ?_
        refine z_top (show q + nI u * stp1 q t + -1 = q + nI (u + 1) * stp1 q t from by rw [← hstep, es]) ?_
        refine z_ist9 (n := 118) (by decide +kernel) rfl ?_
        exact f118
theorem ab_m (x : Int32) : (if 0 ≤ x then x else -x) = ab32 x := by unfold ab32; rw [Int32.zero_sub]
theorem m_snap {G : mG} {h : mH} {Q n sh : Nat} {m : Nat → Int32} {wd : Int64} {a : Nat → Int32} {x an q t w : Int32} {k : Nat} (d : Nat) (hd : 3 ≤ d) (hk : a 4 = nI k) (hk6 : k ≤ 6) (hQ : h Q = oMod Q (nI (n + 1)) m wd) (hA : h (Q + 1) = aI 600 a) (hn : n + 1 ≤ 40) : EV G m_X11_snap d 0 0 [.ref Q, .int x, .int an, .int q, .int t, .int w] h (RE (some (.int (snM a x an q t w))) h) := by
  refine ev_6_5 rfl rfl rfl rfl rfl rfl (by decide +kernel) (by decide +kernel) ?_
  by_cases c : (win x 0 (a 4 - 1) && win an (-180) 180 && win q (-1000000) 1000000 && win t (-1000000) 1000000 && !decide (2000 < ab32 (t - q)) && win w 0 2) = true
  · have cc := c
    simp only [Bool.and_eq_true, Bool.not_eq_true', decide_eq_false_iff_not] at cc
    obtain ⟨⟨⟨⟨⟨c1, c2⟩, c3⟩, c4⟩, c5⟩, c6⟩ := cc
    obtain ⟨sh, hs, rfl⟩ : ∃ sh, sh < 6 ∧ x = nI sh := sh_of hk hk6 c1
    obtain ⟨i0, hi, rfl⟩ : ∃ i, i ≤ 360 ∧ an = ang i := an_of c2
    obtain ⟨k9, hk9, e9⟩ := ab32_nat c3 c4 c5
    unfold snM
    rw [if_pos c, nI_clamp (show sh < 2 ^ 31 by omega), ang_ix, nI_clamp (show i0 < 2 ^ 31 by omega), e9, nI_clamp (show k9 < 2 ^ 31 by omega)]
    by_cases c7 : styI (tbM a sh) i0 q = true
    · rw [if_pos c7]
      refine z_ald0 (n := 1) (by decide +kernel) ?_
      refine z_ild1 (n := 2) (by decide +kernel) ?_
      refine z_v1 (n := 5) (idx := 205) (by decide +kernel) ml_X11_205 (by assumption) rfl (Nat.le_of_ble_eq_true rfl) (by omega) ⟨Nat.le_refl _, Nat.le_refl _⟩ (m_isSheet (n := n) 1 (by omega) hQ hA hn) ?_
      refine z_ifb_eq_f (n := 8) (off := 65) (tgt := 70) (by decide +kernel) (c1) ?_
      refine z_ild3 (n := 9) (by decide +kernel) ?_
      refine z_s1 (n := 12) (idx := 214) (by decide +kernel) ml_X11_214 (Nat.le_of_ble_eq_true rfl) (by omega) ⟨Nat.le_refl _, Nat.le_refl _⟩ (m_isPush 1 (by omega)) ?_
      refine z_ifb_eq_f (n := 15) (off := 58) (tgt := 70) (by decide +kernel) (c3) ?_
      refine z_ild4 (n := 17) (by decide +kernel) ?_
      refine z_s1 (n := 20) (idx := 214) (by decide +kernel) ml_X11_214 (Nat.le_of_ble_eq_true rfl) (by omega) ⟨Nat.le_refl _, Nat.le_refl _⟩ (m_isPush 1 (by omega)) ?_
      refine z_ifb_eq_f (n := 23) (off := 50) (tgt := 70) (by decide +kernel) (c4) ?_
      refine z_ild4 (n := 25) (by decide +kernel) ?_
      refine z_ild3 (n := 26) (by decide +kernel) ?_
      refine z_isub (n := 27) (by decide +kernel) ?_
      refine z_s1 (n := 30) (idx := 221) (by decide +kernel) ml_X11_221 (Nat.le_of_ble_eq_true rfl) (by omega) ⟨Nat.le_refl _, Nat.le_refl _⟩ (m_abs 0) ?_
      refine z_top (ab_m _) ?_
      refine z_sipush (n := 33) (q := 2000) (v := 2000) (by decide +kernel) ?_
      refine z_icmp_gt_f (n := 36) (off := 37) (tgt := 70) (by decide +kernel) (c5) ?_
      refine z_ild2 (n := 37) (by decide +kernel) ?_
      refine z_sipush (n := 40) (q := -180) (v := -180) (by decide +kernel) ?_
      refine z_sipush (n := 43) (q := 180) (v := 180) (by decide +kernel) ?_
      refine z_s3 (n := 46) (idx := 81) (by decide +kernel) ml_X11_81 (Nat.le_of_ble_eq_true rfl) (by omega) ⟨Nat.le_refl _, Nat.le_refl _⟩ (m_isIn 0) ?_
      refine z_ifb_eq_f (n := 49) (off := 24) (tgt := 70) (by decide +kernel) (c2) ?_
      refine z_ild5 (n := 51) (by decide +kernel) ?_
      refine z_iconst (n := 52) (q := 0) (v := 0) (by decide +kernel) ?_
      refine z_iconst (n := 53) (q := 2) (v := 2) (by decide +kernel) ?_
      refine z_s3 (n := 56) (idx := 81) (by decide +kernel) ml_X11_81 (Nat.le_of_ble_eq_true rfl) (by omega) ⟨Nat.le_refl _, Nat.le_refl _⟩ (m_isIn 0) ?_
      refine z_ifb_eq_f (n := 59) (off := 14) (tgt := 70) (by decide +kernel) (c6) ?_
      refine z_ald0 (n := 60) (by decide +kernel) ?_
      refine z_ild1 (n := 61) (by decide +kernel) ?_
      refine z_ild3 (n := 62) (by decide +kernel) ?_
      refine z_ild2 (n := 63) (by decide +kernel) ?_
      refine z_iconst (n := 64) (q := 1) (v := 1) (by decide +kernel) ?_
      refine z_v4 (n := 67) (idx := 217) (by decide +kernel) ml_X11_217 (by assumption) rfl (Nat.le_of_ble_eq_true rfl) (by omega) ⟨Nat.le_refl _, Nat.le_refl _⟩ (m_restsAt (n := n) (sh := sh) (i := i0) (st := true) 1 (by omega) hs hQ hA hn hi) ?_
      refine z_ifb_ne_t (n := 70) (off := 7) (tgt := 74) (by decide +kernel) (by rw [if_pos rfl]; exact c7) ?_
      refine z_ild2 (n := 75) (by decide +kernel) ?_
      refine z_ist6 (n := 77) (by decide +kernel) rfl ?_
      refine z_iconst (n := 78) (q := 0) (v := 0) (by decide +kernel) ?_
      refine z_ist7 (n := 80) (by decide +kernel) rfl ?_
      refine z_ldc (n := 82) (q := 211) (by decide +kernel) lc_X11_211 ?_
      refine z_ist8 (n := 84) (by decide +kernel) rfl ?_
      refine z_ild3 (n := 85) (by decide +kernel) ?_
      refine z_ist9 (n := 87) (by decide +kernel) rfl ?_
      skip
      have q0 := m_snapLoop (G := G) (n := n) (sh := sh) (w := w) (q := q) (t := t) (i0 := i0) (k := k9) d hd hs hQ hA hn hi hk9 (ab_end e9 c3 c4) k9 0 (by omega)
      rw [show q + nI 0 * stp1 q t = q by rw [nI_0, Int32.zero_mul, Int32.add_zero]] at q0
      exact q0
    · rw [if_neg c7]
      refine z_ald0 (n := 1) (by decide +kernel) ?_
      refine z_ild1 (n := 2) (by decide +kernel) ?_
      refine z_v1 (n := 5) (idx := 205) (by decide +kernel) ml_X11_205 (by assumption) rfl (Nat.le_of_ble_eq_true rfl) (by omega) ⟨Nat.le_refl _, Nat.le_refl _⟩ (m_isSheet (n := n) 1 (by omega) hQ hA hn) ?_
      refine z_ifb_eq_f (n := 8) (off := 65) (tgt := 70) (by decide +kernel) (c1) ?_
      refine z_ild3 (n := 9) (by decide +kernel) ?_
      refine z_s1 (n := 12) (idx := 214) (by decide +kernel) ml_X11_214 (Nat.le_of_ble_eq_true rfl) (by omega) ⟨Nat.le_refl _, Nat.le_refl _⟩ (m_isPush 1 (by omega)) ?_
      refine z_ifb_eq_f (n := 15) (off := 58) (tgt := 70) (by decide +kernel) (c3) ?_
      refine z_ild4 (n := 17) (by decide +kernel) ?_
      refine z_s1 (n := 20) (idx := 214) (by decide +kernel) ml_X11_214 (Nat.le_of_ble_eq_true rfl) (by omega) ⟨Nat.le_refl _, Nat.le_refl _⟩ (m_isPush 1 (by omega)) ?_
      refine z_ifb_eq_f (n := 23) (off := 50) (tgt := 70) (by decide +kernel) (c4) ?_
      refine z_ild4 (n := 25) (by decide +kernel) ?_
      refine z_ild3 (n := 26) (by decide +kernel) ?_
      refine z_isub (n := 27) (by decide +kernel) ?_
      refine z_s1 (n := 30) (idx := 221) (by decide +kernel) ml_X11_221 (Nat.le_of_ble_eq_true rfl) (by omega) ⟨Nat.le_refl _, Nat.le_refl _⟩ (m_abs 0) ?_
      refine z_top (ab_m _) ?_
      refine z_sipush (n := 33) (q := 2000) (v := 2000) (by decide +kernel) ?_
      refine z_icmp_gt_f (n := 36) (off := 37) (tgt := 70) (by decide +kernel) (c5) ?_
      refine z_ild2 (n := 37) (by decide +kernel) ?_
      refine z_sipush (n := 40) (q := -180) (v := -180) (by decide +kernel) ?_
      refine z_sipush (n := 43) (q := 180) (v := 180) (by decide +kernel) ?_
      refine z_s3 (n := 46) (idx := 81) (by decide +kernel) ml_X11_81 (Nat.le_of_ble_eq_true rfl) (by omega) ⟨Nat.le_refl _, Nat.le_refl _⟩ (m_isIn 0) ?_
      refine z_ifb_eq_f (n := 49) (off := 24) (tgt := 70) (by decide +kernel) (c2) ?_
      refine z_ild5 (n := 51) (by decide +kernel) ?_
      refine z_iconst (n := 52) (q := 0) (v := 0) (by decide +kernel) ?_
      refine z_iconst (n := 53) (q := 2) (v := 2) (by decide +kernel) ?_
      refine z_s3 (n := 56) (idx := 81) (by decide +kernel) ml_X11_81 (Nat.le_of_ble_eq_true rfl) (by omega) ⟨Nat.le_refl _, Nat.le_refl _⟩ (m_isIn 0) ?_
      refine z_ifb_eq_f (n := 59) (off := 14) (tgt := 70) (by decide +kernel) (c6) ?_
      refine z_ald0 (n := 60) (by decide +kernel) ?_
      refine z_ild1 (n := 61) (by decide +kernel) ?_
      refine z_ild3 (n := 62) (by decide +kernel) ?_
      refine z_ild2 (n := 63) (by decide +kernel) ?_
      refine z_iconst (n := 64) (q := 1) (v := 1) (by decide +kernel) ?_
      refine z_v4 (n := 67) (idx := 217) (by decide +kernel) ml_X11_217 (by assumption) rfl (Nat.le_of_ble_eq_true rfl) (by omega) ⟨Nat.le_refl _, Nat.le_refl _⟩ (m_restsAt (n := n) (sh := sh) (i := i0) (st := true) 1 (by omega) hs hQ hA hn hi) ?_
      refine z_ifb_ne_f (n := 70) (off := 7) (tgt := 74) (by decide +kernel) (by rw [if_pos rfl]; exact Bool.eq_false_iff.mpr c7) ?_
      refine z_sipush (n := 73) (q := -3000) (v := -3000) (by decide +kernel) ?_
      refine z_iret (by decide +kernel) rfl (Nat.le_refl _) ?_
      exact ⟨rfl, rfl⟩
  · have ce : snM a x an q t w = -3000 := if_neg c
    rw [ce]
    refine z_ald0 (n := 1) (by decide +kernel) ?_
    refine z_ild1 (n := 2) (by decide +kernel) ?_
    refine z_v1 (n := 5) (idx := 205) (by decide +kernel) ml_X11_205 (by assumption) rfl (Nat.le_of_ble_eq_true rfl) (by omega) ⟨Nat.le_refl _, Nat.le_refl _⟩ (m_isSheet (n := n) 1 (by omega) hQ hA hn) ?_
    refine z_ifb_eq (n := 8) (off := 65) (tgt := 70) (by decide +kernel) (fun c5 => ?_) (fun c5 => ?_)
    · refine z_sipush (n := 73) (q := -3000) (v := -3000) (by decide +kernel) ?_
      refine z_iret (by decide +kernel) rfl (Nat.le_refl _) ?_
      exact ⟨rfl, rfl⟩
    · refine z_ild3 (n := 9) (by decide +kernel) ?_
      refine z_s1 (n := 12) (idx := 214) (by decide +kernel) ml_X11_214 (Nat.le_of_ble_eq_true rfl) (by omega) ⟨Nat.le_refl _, Nat.le_refl _⟩ (m_isPush 1 (by omega)) ?_
      refine z_ifb_eq (n := 15) (off := 58) (tgt := 70) (by decide +kernel) (fun c12 => ?_) (fun c12 => ?_)
      · refine z_sipush (n := 73) (q := -3000) (v := -3000) (by decide +kernel) ?_
        refine z_iret (by decide +kernel) rfl (Nat.le_refl _) ?_
        exact ⟨rfl, rfl⟩
      · refine z_ild4 (n := 17) (by decide +kernel) ?_
        refine z_s1 (n := 20) (idx := 214) (by decide +kernel) ml_X11_214 (Nat.le_of_ble_eq_true rfl) (by omega) ⟨Nat.le_refl _, Nat.le_refl _⟩ (m_isPush 1 (by omega)) ?_
        refine z_ifb_eq (n := 23) (off := 50) (tgt := 70) (by decide +kernel) (fun c20 => ?_) (fun c20 => ?_)
        · refine z_sipush (n := 73) (q := -3000) (v := -3000) (by decide +kernel) ?_
          refine z_iret (by decide +kernel) rfl (Nat.le_refl _) ?_
          exact ⟨rfl, rfl⟩
        · refine z_ild4 (n := 25) (by decide +kernel) ?_
          refine z_ild3 (n := 26) (by decide +kernel) ?_
          refine z_isub (n := 27) (by decide +kernel) ?_
          refine z_s1 (n := 30) (idx := 221) (by decide +kernel) ml_X11_221 (Nat.le_of_ble_eq_true rfl) (by omega) ⟨Nat.le_refl _, Nat.le_refl _⟩ (m_abs 0) ?_
          refine z_top (ab_m _) ?_
          refine z_sipush (n := 33) (q := 2000) (v := 2000) (by decide +kernel) ?_
          refine z_icmp_gt (n := 36) (off := 37) (tgt := 70) (by decide +kernel) (fun c33 => ?_) (fun c33 => ?_)
          · refine z_sipush (n := 73) (q := -3000) (v := -3000) (by decide +kernel) ?_
            refine z_iret (by decide +kernel) rfl (Nat.le_refl _) ?_
            exact ⟨rfl, rfl⟩
          · refine z_ild2 (n := 37) (by decide +kernel) ?_
            refine z_sipush (n := 40) (q := -180) (v := -180) (by decide +kernel) ?_
            refine z_sipush (n := 43) (q := 180) (v := 180) (by decide +kernel) ?_
            refine z_s3 (n := 46) (idx := 81) (by decide +kernel) ml_X11_81 (Nat.le_of_ble_eq_true rfl) (by omega) ⟨Nat.le_refl _, Nat.le_refl _⟩ (m_isIn 0) ?_
            refine z_ifb_eq (n := 49) (off := 24) (tgt := 70) (by decide +kernel) (fun c46 => ?_) (fun c46 => ?_)
            · refine z_sipush (n := 73) (q := -3000) (v := -3000) (by decide +kernel) ?_
              refine z_iret (by decide +kernel) rfl (Nat.le_refl _) ?_
              exact ⟨rfl, rfl⟩
            · refine z_ild5 (n := 51) (by decide +kernel) ?_
              refine z_iconst (n := 52) (q := 0) (v := 0) (by decide +kernel) ?_
              refine z_iconst (n := 53) (q := 2) (v := 2) (by decide +kernel) ?_
              refine z_s3 (n := 56) (idx := 81) (by decide +kernel) ml_X11_81 (Nat.le_of_ble_eq_true rfl) (by omega) ⟨Nat.le_refl _, Nat.le_refl _⟩ (m_isIn 0) ?_
              refine z_ifb_eq (n := 59) (off := 14) (tgt := 70) (by decide +kernel) (fun c56 => ?_) (fun c56 => ?_)
              · refine z_sipush (n := 73) (q := -3000) (v := -3000) (by decide +kernel) ?_
                refine z_iret (by decide +kernel) rfl (Nat.le_refl _) ?_
                exact ⟨rfl, rfl⟩
              · exact absurd (by simp only [c5, c12, c20, eq_false c33, c46, c56, decide_false, Bool.not_false, Bool.and_self]) c
