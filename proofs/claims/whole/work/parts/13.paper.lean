/-! Paper -/
def oPap (B : Nat) (cp es sg th ck ak : Int32) : mE := oB 2 [.ref (B + 1), .ref (B + 6), .int cp, .int es, .int sg, .int th, .int ck, .int ak]
/-- does one of the first n hold -/
def anB (b : Nat → Bool) : Nat → Bool
  | 0 => false
  | n + 1 => anB b n || b n
theorem anB_of {b : Nat → Bool} {j : Nat} (hb : b j = true) : ∀ n, j < n → anB b n = true
  | 0, h => by omega
  | n + 1, h => by
    by_cases e : j = n
    · subst e; simp [anB, hb]
    · simp [anB, anB_of hb n (by omega)]
/-- at the points 1 .. u at which b holds (of the cell before) f, else g -/
def cu {α : Type} (b : Nat → Bool) (f g : Nat → α) (u : Nat) : Nat → α := fun j => if 0 < j ∧ j ≤ u ∧ b (j - 1) = true then f j else g j
theorem cu_0 {α : Type} (b : Nat → Bool) (f g : Nat → α) : cu b f g 0 = g := by
  funext j
  simp only [cu]
  rw [if_neg (by omega)]
theorem cu_c {j u : Nat} {b : Prop} (hj : j ≠ u + 1) : (0 < j ∧ j ≤ u + 1 ∧ b) ↔ (0 < j ∧ j ≤ u ∧ b) := by
  constructor
  · exact fun ⟨a, c, e⟩ => ⟨a, by omega, e⟩
  · exact fun ⟨a, c, e⟩ => ⟨a, by omega, e⟩
theorem cu_n {α : Type} {b : Nat → Bool} {f g : Nat → α} {u : Nat} (hb : b u = false) : cu b f g (u + 1) = cu b f g u := by
  funext j
  by_cases e : j = u + 1
  · subst e; simp [cu, hb]
  · simp only [cu, cu_c e]
theorem cu_y {b : Nat → Bool} {f g : Nat → Int32} {u : Nat} (hb : b u = true) : upd (cu b f g u) (u + 1) (f (u + 1)) = cu b f g (u + 1) := by
  funext j
  by_cases e : j = u + 1
  · subst e; simp [cu, hb, upd]
  · simp only [upd, if_neg e, cu, cu_c e]
theorem cu_yB {b : Nat → Bool} {f g : Nat → Bool} {u : Nat} (hb : b u = true) : updB (cu b f g u) (u + 1) (f (u + 1)) = cu b f g (u + 1) := by
  funext j
  by_cases e : j = u + 1
  · subst e; simp [cu, hb, updB]
  · simp only [updB, if_neg e, cu, cu_c e]
theorem cu_u {α : Type} (b : Nat → Bool) (f g : Nat → α) (u : Nat) : cu b f g u (u + 1) = g (u + 1) := by
  simp only [cu]
  rw [if_neg (by omega)]
theorem updB_self (f : Nat → Bool) (k : Nat) : updB f k (f k) = f := by
  funext j
  by_cases e : j = k
  · subst e; simp [updB]
  · simp [updB, e]
theorem k_isTornAlong {G : mG} {h : mH} {B N n : Nat} {cp es sg th ck ak tl x : Int32} {pl : Nat → Int32} {tn : Nat → Bool} (d : Nat) (hd : 1 ≤ d) (hB : h B = oPap B cp es sg th ck ak) (hS : h (B + 1) = oStrip (B + 1) (nI (n + 1)) tl) (hP : h (B + 1 + 1) = aI N pl) (hC : h (B + 6) = oCre (B + 6)) (h6 : h (B + 6 + 6) = aZ N tn) (hk : n + 1 ≤ N) (hN : N < 2 ^ 31) : EV G m_X2_isTornAlong d 0 0 [.ref B, .int x] h (RE (some (.int (bI (anB (fun j => tn (j + 1) && crs pl j x) n)))) h) := by
  refine ev_2_1 rfl rfl (by decide +kernel) (by decide +kernel) ?_
  refine z_iconst (n := 1) (q := 1) (v := 1) (by decide +kernel) ?_
  refine z_ist2 (n := 2) (by decide +kernel) rfl ?_
  refine loopZ (k := n) (fun u => anB (fun j => tn (j + 1) && crs pl j x) u = false → Z G m_X2_isTornAlong d 0 0 0 0 2 [some (.ref B), some (.int x), some (.int (nI (u + 1)))] [] h (RE (some (.int (bI (anB (fun j => tn (j + 1) && crs pl j x) n)))) h)) ?_ ?_ 0 (Nat.zero_le n) rfl
  · intro h0
    refine z_ild2 (n := 3) (by decide +kernel) ?_
    refine z_ald0 (n := 4) (by decide +kernel) ?_
    refine z_getf (n := 7) (idx := 29) (by decide +kernel) fl_X2_29 (by assumption) (by rfl) ?_
    refine z_getf (n := 10) (idx := 78) (by decide +kernel) fl_X2_78 (by assumption) (by rfl) ?_
    refine z_icmp_ge_t (n := 13) (off := 35) (tgt := 45) (by decide +kernel) (nI_le (Nat.le_refl _) (by omega)) ?_
    refine z_iconst (n := 46) (q := 0) (v := 0) (by decide +kernel) ?_
    first | refine z_zr1 (by decide +kernel) rfl (Nat.le_refl _) ?_ | refine z_zr0 (by decide +kernel) rfl (Nat.le_refl _) ?_ | refine z_zrb (by decide +kernel) rfl (Nat.le_refl _) ?_
    exact ⟨by rw [h0], rfl⟩
  · intro u ul ih h0
    refine z_ild2 (n := 3) (by decide +kernel) ?_
    refine z_ald0 (n := 4) (by decide +kernel) ?_
    refine z_getf (n := 7) (idx := 29) (by decide +kernel) fl_X2_29 (by assumption) (by rfl) ?_
    refine z_getf (n := 10) (idx := 78) (by decide +kernel) fl_X2_78 (by assumption) (by rfl) ?_
    refine z_icmp_ge_f (n := 13) (off := 35) (tgt := 45) (by decide +kernel) (nI_ge (by omega) (by omega)) ?_
    refine z_ald0 (n := 14) (by decide +kernel) ?_
    refine z_getf (n := 17) (idx := 36) (by decide +kernel) fl_X2_36 (by assumption) (by rfl) ?_
    refine z_getf (n := 20) (idx := 84) (by decide +kernel) fl_X2_84 (by assumption) (by rfl) ?_
    refine z_ild2 (n := 21) (by decide +kernel) ?_
    refine z_zald (n := 22) (by decide +kernel) (by assumption) (by first | assumption | exact ix_nI (by omega) (by omega)) ?_
    refine z_ifb_eq (n := 25) (off := 17) (tgt := 39) (by decide +kernel) (fun c22 => ?_) (fun c22 => ?_)
    · refine z_inc2 (n := 42) (q := 1) (by decide +kernel) rfl (nI_1 _) ?_
      refine z_goto (n := 45) (off := -40) (tgt := 2) (by decide +kernel) ?_
      exact ih (by simp [anB, h0, c22])
    · refine z_ald0 (n := 26) (by decide +kernel) ?_
      refine z_getf (n := 29) (idx := 29) (by decide +kernel) fl_X2_29 (by assumption) (by rfl) ?_
      refine z_ild2 (n := 30) (by decide +kernel) ?_
      refine z_ild1 (n := 31) (by decide +kernel) ?_
      refine z_v2 (n := 34) (idx := 88) (by decide +kernel) ml_X2_88 (by assumption) rfl (Nat.le_of_ble_eq_true rfl) (by omega) ⟨Nat.le_refl _, Nat.le_refl _⟩ (k_crosses 0 hS hP (by omega) hN) ?_
      refine z_ifb_eq (n := 37) (off := 5) (tgt := 39) (by decide +kernel) (fun c34 => ?_) (fun c34 => ?_)
      · refine z_inc2 (n := 42) (q := 1) (by decide +kernel) rfl (nI_1 _) ?_
        refine z_goto (n := 45) (off := -40) (tgt := 2) (by decide +kernel) ?_
        exact ih (by simp [anB, h0, c22, c34])
      · refine z_iconst (n := 38) (q := 1) (v := 1) (by decide +kernel) ?_
        first | refine z_zr1 (by decide +kernel) rfl (Nat.le_refl _) ?_ | refine z_zr0 (by decide +kernel) rfl (Nat.le_refl _) ?_ | refine z_zrb (by decide +kernel) rfl (Nat.le_refl _) ?_
        exact ⟨by rw [anB_of (j := u) (by simp [c22, c34]) n ul], rfl⟩
def mwF (H : Int32 → Int32) (x : Int32) : Int32 := 1 + (if H (x - 1) < H x then H x else H (x - 1)) / 8
def hCr (h : mH) (B N : Nat) (b : Nat → Bool) (mw sg ck ak : Int32) (si rs wr tk ac : Nat → Int32) (up tn : Nat → Bool) (u : Nat) : mH :=
  hu (hu (hu (hu (hu (hu h (B + 6 + 1) (aI N (cu b (fun j => if up j then 1 else 2) si u))) (B + 6 + 2) (aI N (cu b (fun j => mx3 (rs j)) rs u))) (B + 6 + 3) (aI N (cu b (fun j => wr j + mw) wr u))) (B + 6 + 6) (aZ N (cu b (fun j => if wr j + mw < sg then tn j else true) tn u))) (B + 6 + 4) (aI N (cu b (fun _ => ck) tk u))) (B + 6 + 5) (aI N (cu b (fun _ => ak) ac u))
theorem hCr_0 {h : mH} {B N : Nat} {b : Nat → Bool} {mw sg ck ak : Int32} {si rs wr tk ac : Nat → Int32} {up tn : Nat → Bool} (h1 : h (B + 6 + 1) = aI N si) (h2 : h (B + 6 + 2) = aI N rs) (h3 : h (B + 6 + 3) = aI N wr) (h4 : h (B + 6 + 4) = aI N tk) (h5 : h (B + 6 + 5) = aI N ac) (h6 : h (B + 6 + 6) = aZ N tn) : h = hCr h B N b mw sg ck ak si rs wr tk ac up tn 0 := by
  rw [hCr, cu_0, cu_0, cu_0, cu_0, cu_0, cu_0, hu_self h1, hu_self h2, hu_self h3, hu_self h6, hu_self h4, hu_self h5]
theorem k_creaseAlong {G : mG} {h : mH} {B N n : Nat} {cp es sg th ck ak tl x : Int32} {pl ht si rs wr tk ac : Nat → Int32} {up tn : Nat → Bool} (d : Nat) (hd : 2 ≤ d) (hB : h B = oPap B cp es sg th ck ak) (hS : h (B + 1) = oStrip (B + 1) (nI (n + 1)) tl) (hP : h (B + 1 + 1) = aI N pl) (hU : h (B + 1 + 3) = aZ N up) (hT : h (B + 1 + 4) = aI N ht) (hC : h (B + 6) = oCre (B + 6)) (h1 : h (B + 6 + 1) = aI N si) (h2 : h (B + 6 + 2) = aI N rs) (h3 : h (B + 6 + 3) = aI N wr) (h4 : h (B + 6 + 4) = aI N tk) (h5 : h (B + 6 + 5) = aI N ac) (h6 : h (B + 6 + 6) = aZ N tn) (hk : n + 1 ≤ N) (hN : N < 2 ^ 31) :
    EV G m_X2_creaseAlong d 0 0 [.ref B, .int x] h (RE (some (.int (nI (cnb (fun j => crs pl j x) n)))) (hCr h B N (fun j => crs pl j x) (mwF (hgt ht N tl) x) sg ck ak si rs wr tk ac up tn n)) := by
  refine ev_2_4 rfl rfl (by decide +kernel) (by decide +kernel) ?_
  refine z_iconst (n := 1) (q := 1) (v := 1) (by decide +kernel) ?_
  refine z_ald0 (n := 2) (by decide +kernel) ?_
  refine z_getf (n := 5) (idx := 29) (by decide +kernel) fl_X2_29 (by assumption) (by rfl) ?_
  refine z_ild1 (n := 6) (by decide +kernel) ?_
  refine z_iconst (n := 7) (q := 1) (v := 1) (by decide +kernel) ?_
  refine z_isub (n := 8) (by decide +kernel) ?_
  refine z_v1 (n := 11) (idx := 92) (by decide +kernel) ml_X2_92 (by assumption) rfl (Nat.le_of_ble_eq_true rfl) (by omega) ⟨Nat.le_refl _, Nat.le_refl _⟩ (k_heightOf 0 hS hT hN) ?_
  refine z_ald0 (n := 12) (by decide +kernel) ?_
  refine z_getf (n := 15) (idx := 29) (by decide +kernel) fl_X2_29 (by assumption) (by rfl) ?_
  refine z_ild1 (n := 16) (by decide +kernel) ?_
  refine z_v1 (n := 19) (idx := 92) (by decide +kernel) ml_X2_92 (by assumption) rfl (Nat.le_of_ble_eq_true rfl) (by omega) ⟨Nat.le_refl _, Nat.le_refl _⟩ (k_heightOf 0 hS hT hN) ?_
  refine z_mmax (n := 22) (idx := 95) (by decide +kernel) jl_X2_95 (Nat.le_of_ble_eq_true rfl) (by omega) (Nat.le_refl _) (Nat.le_refl _) ?_
  refine z_bipush (n := 24) (q := 8) (v := 8) (by decide +kernel) ?_
  refine z_idiv (n := 25) (by decide +kernel) (by decide) ?_
  refine z_iadd (n := 26) (by decide +kernel) ?_
  refine z_ist2 (n := 27) (by decide +kernel) rfl ?_
  refine z_iconst (n := 28) (q := 0) (v := 0) (by decide +kernel) ?_
  refine z_ist3 (n := 29) (by decide +kernel) rfl ?_
  refine z_iconst (n := 30) (q := 1) (v := 1) (by decide +kernel) ?_
  refine z_ist4 (n := 32) (by decide +kernel) rfl ?_
  skip
  refine z_heap (hCr_0 (b := fun j => crs pl j x) (mw := mwF (hgt ht N tl) x) (sg := sg) (ck := ck) (ak := ak) (up := up) h1 h2 h3 h4 h5 h6) ?_
  refine loopZ (k := n) (fun u => Z G m_X2_creaseAlong d 0 0 0 0 32 [some (.ref B), some (.int x), some (.int (mwF (hgt ht N tl) x)), some (.int (nI (cnb (fun j => crs pl j x) u))), some (.int (nI (u + 1))), none] [] (hCr h B N (fun j => crs pl j x) (mwF (hgt ht N tl) x) sg ck ak si rs wr tk ac up tn u) (RE (some (.int (nI (cnb (fun j => crs pl j x) n)))) (hCr h B N (fun j => crs pl j x) (mwF (hgt ht N tl) x) sg ck ak si rs wr tk ac up tn n))) ?_ ?_ 0 (Nat.zero_le n)
  · refine z_ild4 (n := 34) (by decide +kernel) ?_
    refine z_ald0 (n := 35) (by decide +kernel) ?_
    refine z_getf (n := 38) (idx := 29) (by decide +kernel) fl_X2_29 (by unfold hCr; simp (disch := omega) only [hu_s, hu_n]; first | assumption | rfl) (by rfl) ?_
    refine z_getf (n := 41) (idx := 78) (by decide +kernel) fl_X2_78 (by unfold hCr; simp (disch := omega) only [hu_s, hu_n]; first | assumption | rfl) (by rfl) ?_
    refine z_icmp_ge_t (n := 44) (off := 89) (tgt := 130) (by decide +kernel) (nI_le (Nat.le_refl _) (by omega)) ?_
    refine z_ild3 (n := 131) (by decide +kernel) ?_
    refine z_iret (by decide +kernel) rfl (Nat.le_refl _) ?_
    exact ⟨rfl, rfl⟩
  · intro u ul ih
    have no : crs pl u x = false → Z G m_X2_creaseAlong d 0 0 0 0 124 [some (.ref B), some (.int x), some (.int (mwF (hgt ht N tl) x)), some (.int (nI (cnb (fun j => crs pl j x) u))), some (.int (nI (u + 1))), none] [] (hCr h B N (fun j => crs pl j x) (mwF (hgt ht N tl) x) sg ck ak si rs wr tk ac up tn u) (RE (some (.int (nI (cnb (fun j => crs pl j x) n)))) (hCr h B N (fun j => crs pl j x) (mwF (hgt ht N tl) x) sg ck ak si rs wr tk ac up tn n)) := by
      intro hm
      refine z_inc4 (n := 127) (q := 1) (by decide +kernel) rfl (nI_1 _) ?_
      refine z_goto (n := 130) (off := -95) (tgt := 32) (by decide +kernel) ?_
      refine z_heap (h1 := hCr h B N (fun j => crs pl j x) (mwF (hgt ht N tl) x) sg ck ak si rs wr tk ac up tn (u + 1)) (by simp only [hCr]; rw [cu_n hm, cu_n hm, cu_n hm, cu_n hm, cu_n hm, cu_n hm]) (by simpa [cnb, hm] using ih)
    have ya : crs pl u x = true → ∀ sn : Int32, sn = (if up (u + 1) then 1 else 2) → Z G m_X2_creaseAlong d 0 0 0 0 77 [some (.ref B), some (.int x), some (.int (mwF (hgt ht N tl) x)), some (.int (nI (cnb (fun j => crs pl j x) u))), some (.int (nI (u + 1))), some (.int sn)] [] (hCr h B N (fun j => crs pl j x) (mwF (hgt ht N tl) x) sg ck ak si rs wr tk ac up tn u) (RE (some (.int (nI (cnb (fun j => crs pl j x) n)))) (hCr h B N (fun j => crs pl j x) (mwF (hgt ht N tl) x) sg ck ak si rs wr tk ac up tn n)) := by
      intro hm sn hsn
      have fin : hu (hu (hu (hu (hu (hu (hCr h B N (fun j => crs pl j x) (mwF (hgt ht N tl) x) sg ck ak si rs wr tk ac up tn u) (B + 6 + 1) (aI N (upd (cu (fun j => crs pl j x) (fun j => if up j then 1 else 2) si u) (u + 1) sn))) (B + 6 + 2) (aI N (upd (cu (fun j => crs pl j x) (fun j => mx3 (rs j)) rs u) (u + 1) (mx3 (cu (fun j => crs pl j x) (fun j => mx3 (rs j)) rs u (u + 1)))))) (B + 6 + 3) (aI N (upd (cu (fun j => crs pl j x) (fun j => wr j + mwF (hgt ht N tl) x) wr u) (u + 1) (cu (fun j => crs pl j x) (fun j => wr j + mwF (hgt ht N tl) x) wr u (u + 1) + mwF (hgt ht N tl) x)))) (B + 6 + 6) (aZ N (if cu (fun j => crs pl j x) (fun j => wr j + mwF (hgt ht N tl) x) wr u (u + 1) + mwF (hgt ht N tl) x < sg then cu (fun j => crs pl j x) (fun j => if wr j + mwF (hgt ht N tl) x < sg then tn j else true) tn u else updB (cu (fun j => crs pl j x) (fun j => if wr j + mwF (hgt ht N tl) x < sg then tn j else true) tn u) (u + 1) true))) (B + 6 + 4) (aI N (upd (cu (fun j => crs pl j x) (fun _ => ck) tk u) (u + 1) ck))) (B + 6 + 5) (aI N (upd (cu (fun j => crs pl j x) (fun _ => ak) ac u) (u + 1) ak))
          = hCr h B N (fun j => crs pl j x) (mwF (hgt ht N tl) x) sg ck ak si rs wr tk ac up tn (u + 1) := by
        subst hsn
        have e1 := cu_y (b := fun j => crs pl j x) (f := fun j => if up j then 1 else 2) (g := si) hm
        have e2 := cu_y (b := fun j => crs pl j x) (f := fun j => mx3 (rs j)) (g := rs) hm
        have e3 := cu_y (b := fun j => crs pl j x) (f := fun j => wr j + mwF (hgt ht N tl) x) (g := wr) hm
        have e4 := cu_y (b := fun j => crs pl j x) (f := fun _ => ck) (g := tk) hm
        have e5 := cu_y (b := fun j => crs pl j x) (f := fun _ => ak) (g := ac) hm
        have e6 : (if wr (u + 1) + mwF (hgt ht N tl) x < sg then cu (fun j => crs pl j x) (fun j => if wr j + mwF (hgt ht N tl) x < sg then tn j else true) tn u else updB (cu (fun j => crs pl j x) (fun j => if wr j + mwF (hgt ht N tl) x < sg then tn j else true) tn u) (u + 1) true) = cu (fun j => crs pl j x) (fun j => if wr j + mwF (hgt ht N tl) x < sg then tn j else true) tn (u + 1) := by
          rw [← cu_yB (b := fun j => crs pl j x) hm]
          split
          · have e9 := updB_self (cu (fun j => crs pl j x) (fun j => if wr j + mwF (hgt ht N tl) x < sg then tn j else true) tn u) (u + 1)
            rw [cu_u] at e9
            exact e9.symm
          · rfl
        rw [cu_u, cu_u, e1, e2, e3, e4, e5, e6]
        unfold hCr
        funext j9
        by_cases e90 : j9 = B + 6 + 1
        · subst e90; simp [hu]
        by_cases e91 : j9 = B + 6 + 2
        · subst e91; simp [hu]
        by_cases e92 : j9 = B + 6 + 3
        · subst e92; simp [hu]
        by_cases e93 : j9 = B + 6 + 4
        · subst e93; simp [hu]
        by_cases e94 : j9 = B + 6 + 5
        · subst e94; simp [hu]
        by_cases e95 : j9 = B + 6 + 6
        · subst e95; simp [hu]
        simp [hu, e90, e91, e92, e93, e94, e95]
      refine z_ald0 (n := 78) (by decide +kernel) ?_
      refine z_getf (n := 81) (idx := 36) (by decide +kernel) fl_X2_36 (by unfold hCr; simp (disch := omega) only [hu_s, hu_n]; first | assumption | rfl) (by rfl) ?_
      refine z_ild4 (n := 83) (by decide +kernel) ?_
      refine z_ild5 (n := 85) (by decide +kernel) ?_
      refine z_ild2 (n := 86) (by decide +kernel) ?_
      refine z_ald0 (n := 87) (by decide +kernel) ?_
      refine z_getf (n := 90) (idx := 18) (by decide +kernel) fl_X2_18 (by unfold hCr; simp (disch := omega) only [hu_s, hu_n]; first | assumption | rfl) (by rfl) ?_
      refine z_v4v (n := 93) (idx := 104) (by decide +kernel) ml_X2_104 (by unfold hCr; simp (disch := omega) only [hu_s, hu_n]; first | assumption | rfl) rfl (Nat.le_of_ble_eq_true rfl) (by omega) ⟨Nat.le_refl _, Nat.le_refl _⟩ (k_press (si := cu (fun j => crs pl j x) (fun j => if up j then 1 else 2) si u) (rs := cu (fun j => crs pl j x) (fun j => mx3 (rs j)) rs u) (wr := cu (fun j => crs pl j x) (fun j => wr j + mwF (hgt ht N tl) x) wr u) (tn := cu (fun j => crs pl j x) (fun j => if wr j + mwF (hgt ht N tl) x < sg then tn j else true) tn u) (N := N) 1 (by omega) (by unfold hCr; simp (disch := omega) only [hu_s, hu_n]; assumption) (by unfold hCr; simp (disch := omega) only [hu_s, hu_n]) (by unfold hCr; simp (disch := omega) only [hu_s, hu_n]) (by unfold hCr; simp (disch := omega) only [hu_s, hu_n]) (by unfold hCr; simp (disch := omega) only [hu_s, hu_n]) (by omega) hN) ?_
      refine z_ald0 (n := 94) (by decide +kernel) ?_
      refine z_getf (n := 97) (idx := 36) (by decide +kernel) fl_X2_36 (by unfold hCr; simp (disch := omega) only [hu_s, hu_n]; first | assumption | rfl) (by rfl) ?_
      refine z_getf (n := 100) (idx := 108) (by decide +kernel) fl_X2_108 (by unfold hCr; simp (disch := omega) only [hu_s, hu_n]; first | assumption | rfl) (by rfl) ?_
      refine z_ild4 (n := 102) (by decide +kernel) ?_
      refine z_ald0 (n := 103) (by decide +kernel) ?_
      refine z_getf (n := 106) (idx := 47) (by decide +kernel) fl_X2_47 (by unfold hCr; simp (disch := omega) only [hu_s, hu_n]; first | assumption | rfl) (by rfl) ?_
      refine z_iast (n := 107) (by decide +kernel) (by unfold hCr; simp (disch := omega) only [hu_s, hu_n]; first | assumption | rfl) (by first | assumption | exact ix_nI (by omega) (by omega)) ?_
      refine z_ald0 (n := 108) (by decide +kernel) ?_
      refine z_getf (n := 111) (idx := 36) (by decide +kernel) fl_X2_36 (by unfold hCr; simp (disch := omega) only [hu_s, hu_n]; first | assumption | rfl) (by rfl) ?_
      refine z_getf (n := 114) (idx := 112) (by decide +kernel) fl_X2_112 (by unfold hCr; simp (disch := omega) only [hu_s, hu_n]; first | assumption | rfl) (by rfl) ?_
      refine z_ild4 (n := 116) (by decide +kernel) ?_
      refine z_ald0 (n := 117) (by decide +kernel) ?_
      refine z_getf (n := 120) (idx := 50) (by decide +kernel) fl_X2_50 (by unfold hCr; simp (disch := omega) only [hu_s, hu_n]; first | assumption | rfl) (by rfl) ?_
      refine z_iast (n := 121) (by decide +kernel) (by unfold hCr; simp (disch := omega) only [hu_s, hu_n]; first | assumption | rfl) (by first | assumption | exact ix_nI (by omega) (by omega)) ?_
      refine z_inc3 (n := 124) (q := 1) (by decide +kernel) rfl (nI_1 _) ?_
      refine z_inc4 (n := 127) (q := 1) (by decide +kernel) rfl (nI_1 _) ?_
      refine z_goto (n := 130) (off := -95) (tgt := 32) (by decide +kernel) ?_
      exact z_wk (lv' := [some (.ref B), some (.int x), some (.int (mwF (hgt ht N tl) x)), some (.int (nI (cnb (fun j => crs pl j x) u + 1))), some (.int (nI (u + 1 + 1))), none]) (by simp [wk]) (z_heap fin (by simpa [cnb, hm] using ih))
    refine z_ild4 (n := 34) (by decide +kernel) ?_
    refine z_ald0 (n := 35) (by decide +kernel) ?_
    refine z_getf (n := 38) (idx := 29) (by decide +kernel) fl_X2_29 (by unfold hCr; simp (disch := omega) only [hu_s, hu_n]; first | assumption | rfl) (by rfl) ?_
    refine z_getf (n := 41) (idx := 78) (by decide +kernel) fl_X2_78 (by unfold hCr; simp (disch := omega) only [hu_s, hu_n]; first | assumption | rfl) (by rfl) ?_
    refine z_icmp_ge_f (n := 44) (off := 89) (tgt := 130) (by decide +kernel) (nI_ge (by omega) (by omega)) ?_
    refine z_ald0 (n := 45) (by decide +kernel) ?_
    refine z_getf (n := 48) (idx := 29) (by decide +kernel) fl_X2_29 (by unfold hCr; simp (disch := omega) only [hu_s, hu_n]; first | assumption | rfl) (by rfl) ?_
    refine z_ild4 (n := 50) (by decide +kernel) ?_
    refine z_ild1 (n := 51) (by decide +kernel) ?_
    refine z_v2 (n := 54) (idx := 88) (by decide +kernel) ml_X2_88 (by unfold hCr; simp (disch := omega) only [hu_s, hu_n]; first | assumption | rfl) rfl (Nat.le_of_ble_eq_true rfl) (by omega) ⟨Nat.le_refl _, Nat.le_refl _⟩ (k_crosses (f := pl) (N := N) 0 (by unfold hCr; simp (disch := omega) only [hu_s, hu_n]; assumption) (by unfold hCr; simp (disch := omega) only [hu_s, hu_n]; assumption) (by omega) hN) ?_
    refine z_ifb_eq (n := 57) (off := 70) (tgt := 124) (by decide +kernel) (fun c54 => ?_) (fun c54 => ?_)
    · exact no c54
    · refine z_ald0 (n := 58) (by decide +kernel) ?_
      refine z_getf (n := 61) (idx := 29) (by decide +kernel) fl_X2_29 (by unfold hCr; simp (disch := omega) only [hu_s, hu_n]; first | assumption | rfl) (by rfl) ?_
      refine z_getf (n := 64) (idx := 101) (by decide +kernel) fl_X2_101 (by unfold hCr; simp (disch := omega) only [hu_s, hu_n]; first | assumption | rfl) (by rfl) ?_
      refine z_ild4 (n := 66) (by decide +kernel) ?_
      refine z_zald (n := 67) (by decide +kernel) (by unfold hCr; simp (disch := omega) only [hu_s, hu_n]; first | assumption | rfl) (by first | assumption | exact ix_nI (by omega) (by omega)) ?_
      refine z_ifb_eq (n := 70) (off := 7) (tgt := 74) (by decide +kernel) (fun c67 => ?_) (fun c67 => ?_)
      · refine z_iconst (n := 75) (q := 2) (v := 2) (by decide +kernel) ?_
        refine z_ist5 (n := 77) (by decide +kernel) rfl ?_
        exact ya c54 _ (by simp [c67])
      · refine z_iconst (n := 71) (q := 1) (v := 1) (by decide +kernel) ?_
        refine z_goto (n := 74) (off := 4) (tgt := 75) (by decide +kernel) ?_
        refine z_ist5 (n := 77) (by decide +kernel) rfl ?_
        exact ya c54 _ (by simp [c67])
/-- rest behind t ticks -/
def rsF (cp es : Int32) (t : Nat) (pl rs : Nat → Int32) (j : Nat) : Int32 := if pl (j - 1) = pl j then itr (crF cp) t (rs j) else itr (esF es) t (rs j)
theorem k_endAct {G : mG} {h : mH} {B N n t : Nat} {cp es sg th ck ak tl : Int32} {pl si rs : Nat → Int32} (d : Nat) (hd : 1 ≤ d) (hB : h B = oPap B cp es sg th ck ak) (hS : h (B + 1) = oStrip (B + 1) (nI (n + 1)) tl) (hP : h (B + 1 + 1) = aI N pl) (hC : h (B + 6) = oCre (B + 6)) (h1 : h (B + 6 + 1) = aI N si) (h2 : h (B + 6 + 2) = aI N rs) (hk : n + 1 ≤ N) (hN : N < 2 ^ 31) (ht : t < 2 ^ 31) :
    EV G m_X2_endAct d 0 0 [.ref B, .int (nI t)] h (RE none (hu (hu h B (oPap B cp es sg th (ck + nI t) (ak + 1))) (B + 6 + 2) (aI N (cu (fun j => !decide (si (j + 1) = 0)) (rsF cp es t pl rs) rs n)))) := by
  refine ev_2_1 rfl rfl (by decide +kernel) (by decide +kernel) ?_
  refine z_ald0 (n := 1) (by decide +kernel) ?_
  refine z_dup (n := 2) (by decide +kernel) rfl ?_
  refine z_getf (n := 5) (idx := 50) (by decide +kernel) fl_X2_50 (by first | assumption | (simp (disch := omega) only [hu_s, hu_n]; first | assumption | rfl)) (by rfl) ?_
  refine z_iconst (n := 6) (q := 1) (v := 1) (by decide +kernel) ?_
  refine z_iadd (n := 7) (by decide +kernel) ?_
  refine z_putf (n := 10) (idx := 50) (ty := .int) (by decide +kernel) fl_X2_50 (by first | assumption | (simp (disch := omega) only [hu_s, hu_n]; first | assumption | rfl)) ⟨_, _, _, rfl, rfl, by decide +kernel⟩ rfl rfl (Nat.le_of_ble_eq_true rfl) ?_
  refine z_ald0 (n := 11) (by decide +kernel) ?_
  refine z_dup (n := 12) (by decide +kernel) rfl ?_
  refine z_getf (n := 15) (idx := 47) (by decide +kernel) fl_X2_47 (by first | assumption | (simp (disch := omega) only [hu_s, hu_n]; first | assumption | rfl)) (by rfl) ?_
  refine z_ild1 (n := 16) (by decide +kernel) ?_
  refine z_iadd (n := 17) (by decide +kernel) ?_
  refine z_putf (n := 20) (idx := 47) (ty := .int) (by decide +kernel) fl_X2_47 (by first | assumption | (simp (disch := omega) only [hu_s, hu_n]; first | assumption | rfl)) ⟨_, _, _, rfl, rfl, by decide +kernel⟩ rfl rfl (Nat.le_of_ble_eq_true rfl) ?_
  refine z_iconst (n := 21) (q := 1) (v := 1) (by decide +kernel) ?_
  refine z_ist2 (n := 22) (by decide +kernel) rfl ?_
  skip
  refine z_heap (h1 := hu (hu h B (oPap B cp es sg th (ck + nI t) (ak + 1))) (B + 6 + 2) (aI N (cu (fun j => !decide (si (j + 1) = 0)) (rsF cp es t pl rs) rs 0))) (by rw [cu_0, hu_hu, hu_self (i := B + 6 + 2)]; rfl; simp (disch := omega) only [hu_n]; assumption) ?_
  refine loopZ (k := n) (fun u => Z G m_X2_endAct d 0 0 0 0 22 [some (.ref B), some (.int (nI t)), some (.int (nI (u + 1)))] [] (hu (hu h B (oPap B cp es sg th (ck + nI t) (ak + 1))) (B + 6 + 2) (aI N (cu (fun j => !decide (si (j + 1) = 0)) (rsF cp es t pl rs) rs u))) (RE none (hu (hu h B (oPap B cp es sg th (ck + nI t) (ak + 1))) (B + 6 + 2) (aI N (cu (fun j => !decide (si (j + 1) = 0)) (rsF cp es t pl rs) rs n))))) ?_ ?_ 0 (Nat.zero_le n)
  · refine z_ild2 (n := 23) (by decide +kernel) ?_
    refine z_ald0 (n := 24) (by decide +kernel) ?_
    refine z_getf (n := 27) (idx := 29) (by decide +kernel) fl_X2_29 (by first | assumption | (simp (disch := omega) only [hu_s, hu_n]; first | assumption | rfl)) (by rfl) ?_
    refine z_getf (n := 30) (idx := 78) (by decide +kernel) fl_X2_78 (by first | assumption | (simp (disch := omega) only [hu_s, hu_n]; first | assumption | rfl)) (by rfl) ?_
    refine z_icmp_ge_t (n := 33) (off := 64) (tgt := 94) (by decide +kernel) (nI_le (Nat.le_refl _) (by omega)) ?_
    refine z_vret (by decide +kernel) rfl (Nat.le_refl _) ?_
    exact ⟨rfl, rfl⟩
  · intro u ul ih
    have nn : si (u + 1) = 0 → aI N (cu (fun j => !decide (si (j + 1) = 0)) (rsF cp es t pl rs) rs u) = aI N (cu (fun j => !decide (si (j + 1) = 0)) (rsF cp es t pl rs) rs (u + 1)) := by
      intro e
      rw [cu_n (by simp [e])]
    have yy : ∀ v : Int32, ¬ si (u + 1) = 0 → v = rsF cp es t pl rs (u + 1) → hu (hu (hu h B (oPap B cp es sg th (ck + nI t) (ak + 1))) (B + 6 + 2) (aI N (cu (fun j => !decide (si (j + 1) = 0)) (rsF cp es t pl rs) rs u))) (B + 6 + 2) (aI N (upd (cu (fun j => !decide (si (j + 1) = 0)) (rsF cp es t pl rs) rs u) (u + 1) v)) = hu (hu h B (oPap B cp es sg th (ck + nI t) (ak + 1))) (B + 6 + 2) (aI N (cu (fun j => !decide (si (j + 1) = 0)) (rsF cp es t pl rs) rs (u + 1))) := by
      intro v e1 e2
      rw [hu_hu, e2, cu_y (by simp [e1])]
    refine z_ild2 (n := 23) (by decide +kernel) ?_
    refine z_ald0 (n := 24) (by decide +kernel) ?_
    refine z_getf (n := 27) (idx := 29) (by decide +kernel) fl_X2_29 (by first | assumption | (simp (disch := omega) only [hu_s, hu_n]; first | assumption | rfl)) (by rfl) ?_
    refine z_getf (n := 30) (idx := 78) (by decide +kernel) fl_X2_78 (by first | assumption | (simp (disch := omega) only [hu_s, hu_n]; first | assumption | rfl)) (by rfl) ?_
    refine z_icmp_ge_f (n := 33) (off := 64) (tgt := 94) (by decide +kernel) (nI_ge (by omega) (by omega)) ?_
    refine z_ald0 (n := 34) (by decide +kernel) ?_
    refine z_getf (n := 37) (idx := 36) (by decide +kernel) fl_X2_36 (by first | assumption | (simp (disch := omega) only [hu_s, hu_n]; first | assumption | rfl)) (by rfl) ?_
    refine z_getf (n := 40) (idx := 115) (by decide +kernel) fl_X2_115 (by first | assumption | (simp (disch := omega) only [hu_s, hu_n]; first | assumption | rfl)) (by rfl) ?_
    refine z_ild2 (n := 41) (by decide +kernel) ?_
    refine z_iald (n := 42) (by decide +kernel) (by first | assumption | (simp (disch := omega) only [hu_s, hu_n]; first | assumption | rfl)) (by first | assumption | exact ix_nI (by omega) (by omega)) ?_
    refine z_if_ne (n := 45) (off := 6) (tgt := 48) (by decide +kernel) (fun c42 => ?_) (fun c42 => ?_)
    · refine z_ald0 (n := 49) (by decide +kernel) ?_
      refine z_getf (n := 52) (idx := 29) (by decide +kernel) fl_X2_29 (by first | assumption | (simp (disch := omega) only [hu_s, hu_n]; first | assumption | rfl)) (by rfl) ?_
      refine z_ild2 (n := 53) (by decide +kernel) ?_
      refine z_v1 (n := 56) (idx := 118) (by decide +kernel) ml_X2_118 (by first | assumption | (simp (disch := omega) only [hu_s, hu_n]; first | assumption | rfl)) rfl (Nat.le_of_ble_eq_true rfl) (by omega) ⟨Nat.le_refl _, Nat.le_refl _⟩ (k_isFolded (f := pl) (N := N) 0 (by simp (disch := omega) only [hu_s, hu_n]; assumption) (by simp (disch := omega) only [hu_s, hu_n]; assumption) (by omega) hN) ?_
      refine z_ifb_eq (n := 59) (off := 19) (tgt := 75) (by decide +kernel) (fun c56 => ?_) (fun c56 => ?_)
      · refine z_ald0 (n := 76) (by decide +kernel) ?_
        refine z_getf (n := 79) (idx := 36) (by decide +kernel) fl_X2_36 (by first | assumption | (simp (disch := omega) only [hu_s, hu_n]; first | assumption | rfl)) (by rfl) ?_
        refine z_ild2 (n := 80) (by decide +kernel) ?_
        refine z_ald0 (n := 81) (by decide +kernel) ?_
        refine z_getf (n := 84) (idx := 15) (by decide +kernel) fl_X2_15 (by first | assumption | (simp (disch := omega) only [hu_s, hu_n]; first | assumption | rfl)) (by rfl) ?_
        refine z_ild1 (n := 85) (by decide +kernel) ?_
        refine z_v3v (n := 88) (idx := 124) (by decide +kernel) ml_X2_124 (by first | assumption | (simp (disch := omega) only [hu_s, hu_n]; first | assumption | rfl)) rfl (Nat.le_of_ble_eq_true rfl) (by omega) ⟨Nat.le_refl _, Nat.le_refl _⟩ (k_ease (N := N) (rs := cu (fun j => !decide (si (j + 1) = 0)) (rsF cp es t pl rs) rs u) 0 (by simp (disch := omega) only [hu_s, hu_n]; assumption) (by simp (disch := omega) only [hu_s, hu_n]) (by omega) hN ht) ?_
        refine z_inc2 (n := 91) (q := 1) (by decide +kernel) rfl (nI_1 _) ?_
        refine z_goto (n := 94) (off := -69) (tgt := 22) (by decide +kernel) ?_
        first | exact z_heap (by rw [nn c42]) ih | exact z_heap (yy _ c42 (by rw [cu_u]; simp [rsF] at c56 ⊢; simp [c56])) ih
      · refine z_ald0 (n := 60) (by decide +kernel) ?_
        refine z_getf (n := 63) (idx := 36) (by decide +kernel) fl_X2_36 (by first | assumption | (simp (disch := omega) only [hu_s, hu_n]; first | assumption | rfl)) (by rfl) ?_
        refine z_ild2 (n := 64) (by decide +kernel) ?_
        refine z_ald0 (n := 65) (by decide +kernel) ?_
        refine z_getf (n := 68) (idx := 9) (by decide +kernel) fl_X2_9 (by first | assumption | (simp (disch := omega) only [hu_s, hu_n]; first | assumption | rfl)) (by rfl) ?_
        refine z_ild1 (n := 69) (by decide +kernel) ?_
        refine z_v3v (n := 72) (idx := 121) (by decide +kernel) ml_X2_121 (by first | assumption | (simp (disch := omega) only [hu_s, hu_n]; first | assumption | rfl)) rfl (Nat.le_of_ble_eq_true rfl) (by omega) ⟨Nat.le_refl _, Nat.le_refl _⟩ (k_creep (N := N) (rs := cu (fun j => !decide (si (j + 1) = 0)) (rsF cp es t pl rs) rs u) 0 (by simp (disch := omega) only [hu_s, hu_n]; assumption) (by simp (disch := omega) only [hu_s, hu_n]) (by omega) hN ht) ?_
        refine z_goto (n := 75) (off := 16) (tgt := 88) (by decide +kernel) ?_
        refine z_inc2 (n := 91) (q := 1) (by decide +kernel) rfl (nI_1 _) ?_
        refine z_goto (n := 94) (off := -69) (tgt := 22) (by decide +kernel) ?_
        first | exact z_heap (by rw [nn c42]) ih | exact z_heap (yy _ c42 (by rw [cu_u]; simp [rsF] at c56 ⊢; simp [c56])) ih
    · refine z_goto (n := 48) (off := 43) (tgt := 88) (by decide +kernel) ?_
      refine z_inc2 (n := 91) (q := 1) (by decide +kernel) rfl (nI_1 _) ?_
      refine z_goto (n := 94) (off := -69) (tgt := 22) (by decide +kernel) ?_
      first | exact z_heap (by rw [nn c42]) ih | exact z_heap (yy _ c42 (by rw [cu_u]; simp [rsF] at c56 ⊢; simp [c56])) ih
