/-! CreasedPaperModel: fold, crease -/
def fcS (c : Nat → Int32) (w : Int32) (p : Nat) : Nat → Int32 :=
  let k := 130 + 6 * p
  let c1 := upd c k (if c (90 + p) = 1 then 1 else 2)
  let c2 := if 300 ≤ c1 (k + 1) then c1 else upd c1 (k + 1) 300
  let c3 := upd c2 (k + 2) (c2 (k + 2) + w)
  let c4 := upd c3 (k + 3) (c3 0)
  let c5 := upd c4 (k + 4) (c4 1)
  if c5 (k + 2) < c5 7 then c5 else upd c5 (k + 5) 1
def fcA (a : Nat → Int32) (x w : Int32) : Nat → Nat → Int32
  | 0 => a
  | u + 1 => if crs (fun v => a (10 + v)) u x = true then fcS (fcA a x w u) w (u + 1) else fcA a x w u
theorem hu3 {h : mH} {i j : Nat} {c c' c'' : mE} (hn : i ≠ j) : hu (hu (hu h i c) j c') i c'' = hu (hu h i c'') j c' := by rw [hu_comm (Ne.symm hn), hu_hu]
theorem upd_nn {f : Nat → Int32} {k j : Nat} {x : Int32} (hj : j ≠ k) : upd f k x j = f j := by simp [upd, hj]
theorem fcS_lo {c : Nat → Int32} {w : Int32} {p i : Nat} (hi : i < 130) : fcS c w p i = c i := by
  unfold fcS
  (repeat' split) <;> simp (disch := omega) only [upd_nn]
theorem fcA_lo {a : Nat → Int32} {x w : Int32} {i : Nat} (hi : i < 130) : ∀ u, fcA a x w u i = a i
  | 0 => rfl
  | u + 1 => by
    unfold fcA
    split
    · rw [fcS_lo hi, fcA_lo hi u]
    · exact fcA_lo hi u
theorem crs_c {f g : Nat → Int32} {u : Nat} {x : Int32} (h1 : f u = g u) (h2 : f (u + 1) = g (u + 1)) : crs f u x = crs g u x := by unfold crs; rw [h1, h2]
def lyF (n : Nat) (c : Nat → Int32) (x : Int32) (right : Bool) (j : Nat) : Int32 :=
  if mvs (c (10 + j)) x right = true then (if mvs (2 * x - 1 - c (10 + j)) x right = true then 0 else nI (cnt (fun u => c (10 + u)) (2 * x - 1 - c (10 + j)) (n + 1))) + nI (cnt (fun u => c (10 + u)) (c (10 + j)) (n + 1)) - 1 - c (50 + j) else c (50 + j)
def lyA (n : Nat) (c : Nat → Int32) (x : Int32) (right : Bool) (l : Nat → Int32) : Nat → Nat → Int32
  | 0 => l
  | u + 1 => upd (lyA n c x right l u) u (lyF n c x right u)
def mvA (c l : Nat → Int32) (x : Int32) (right : Bool) : Nat → Nat → Int32
  | 0 => c
  | u + 1 =>
    let c1 := upd (mvA c l x right u) (50 + u) (l u)
    if mvs (c1 (10 + u)) x right = true then upd (upd c1 (10 + u) (2 * x - 1 - c1 (10 + u))) (90 + u) (1 - upd c1 (10 + u) (2 * x - 1 - c1 (10 + u)) (90 + u)) else c1
def wrA (n : Nat) (x : Int32) (a : Nat → Int32) : Int32 := 1 + (if nI (cnt (fun u => a (10 + u)) (x - 1) (n + 1)) ≤ nI (cnt (fun u => a (10 + u)) x (n + 1)) then nI (cnt (fun u => a (10 + u)) x (n + 1)) else nI (cnt (fun u => a (10 + u)) (x - 1) (n + 1))) / 8
def fl1 (n : Nat) (x : Int32) (a : Nat → Int32) : Nat → Int32 := fcA a x (wrA n x a) n
def flL (n : Nat) (x : Int32) (right : Bool) (a l : Nat → Int32) : Nat → Int32 := lyA n (fl1 n x a) x right l (n + 1)
def flM (n : Nat) (x : Int32) (right : Bool) (a l : Nat → Int32) : Nat → Int32 := mvA (fl1 n x a) (flL n x right a l) x right (n + 1)
def fldA (n : Nat) (x : Int32) (right : Bool) (a l : Nat → Int32) : Nat → Int32 := paA n 1 (flM n x right a l)
theorem m_fold {G : mG} {h : mH} {Q n : Nat} {m : Nat → Int32} {wd : Int64} {a : Nat → Int32} {x : Int32} {right : Bool} {l : Nat → Int32} (d : Nat) (hd : 2 ≤ d) (hQ : h Q = oMod Q (nI (n + 1)) m wd) (hA : h (Q + 1) = aI 600 a) (hn : n + 1 ≤ 40) (hL : h (Q + 3) = aI 40 l) : EV G m_X11_fold d 0 0 [.ref Q, .int x, .int (bI right)] h (RE (some (.int (if agF n x right a < 0 then agF n x right a else nI (cnb (fun j => crs (fun u => a (10 + u)) j x) n)))) (if agF n x right a < 0 then h else hu (hu h (Q + 3) (aI 40 (flL n x right a l))) (Q + 1) (aI 600 (fldA n x right a l)))) := by
  have L3 : ∀ r : Int32, Z G m_X11_fold d 0 0 0 0 327 [some (.ref Q), some (.int x), some (.int (bI right)), none, none, none, none, some (.int r), some (.int (nI 0)), none] [] (hu (hu h (Q + 3) (aI 40 (flL n x right a l))) (Q + 1) (aI 600 (fl1 n x a))) (RE (some (.int r)) (hu (hu h (Q + 3) (aI 40 (flL n x right a l))) (Q + 1) (aI 600 (fldA n x right a l)))) := by
    intro r
    generalize hk9 : flL n x right a l = k9
    have e0 : fldA n x right a l = paA n 1 (mvA (fl1 n x a) k9 x right (n + 1)) := by unfold fldA flM; rw [hk9]
    rw [e0]
    generalize fl1 n x a = c
    refine loopZ (k := n + 1) (fun u => Z G m_X11_fold d 0 0 0 0 327 [some (.ref Q), some (.int x), some (.int (bI right)), none, none, none, none, some (.int r), some (.int (nI u)), none] [] (hu (hu h (Q + 3) (aI 40 k9)) (Q + 1) (aI 600 (mvA c k9 x right u))) (RE (some (.int r)) (hu (hu h (Q + 3) (aI 40 k9)) (Q + 1) (aI 600 (paA n 1 (mvA c k9 x right (n + 1))))))) ?_ ?_ 0 (Nat.zero_le _)
    · refine z_ild8 (n := 329) (by decide +kernel) ?_
      refine z_ald0 (n := 330) (by decide +kernel) ?_
      refine z_getf (n := 333) (idx := 71) (by decide +kernel) fl_X11_71 (by first | assumption | (simp (disch := omega) only [hu_s, hu_n]; first | assumption | rfl)) (by rfl) ?_
      refine z_icmp_ge_t (n := 336) (off := 95) (tgt := 428) (by decide +kernel) (nI_le (Nat.le_refl _) (by omega)) ?_
      refine z_ald0 (n := 429) (by decide +kernel) ?_
      refine z_iconst (n := 430) (q := 1) (v := 1) (by decide +kernel) ?_
      refine z_v1v (n := 433) (idx := 110) (by decide +kernel) ml_X11_110 (by first | assumption | (simp (disch := omega) only [hu_s, hu_n]; first | assumption | rfl)) rfl (Nat.le_of_ble_eq_true rfl) (by omega) ⟨Nat.le_refl _, Nat.le_refl _⟩ (m_pass (n := n) (t := 1) 1 (by omega) (by omega) (by simp (disch := omega) only [hTn, hCr, hFl, hu_s, hu_n]; first | done | assumption | rfl) (by simp (disch := omega) only [hTn, hCr, hFl, hu_s, hu_n]; first | done | assumption | rfl) hn) ?_
      refine z_ild7 (n := 435) (by decide +kernel) ?_
      refine z_iret (by decide +kernel) rfl (Nat.le_refl _) ?_
      exact ⟨rfl, by simp only [hu_hu]⟩
    · intro u ul ih
      have e1 : mvs (upd (mvA c k9 x right u) (50 + u) (k9 u) (10 + u)) x right = true → mvA c k9 x right (u + 1) = upd (upd (upd (mvA c k9 x right u) (50 + u) (k9 u)) (10 + u) (2 * x - 1 - upd (mvA c k9 x right u) (50 + u) (k9 u) (10 + u))) (90 + u) (1 - upd (upd (mvA c k9 x right u) (50 + u) (k9 u)) (10 + u) (2 * x - 1 - upd (mvA c k9 x right u) (50 + u) (k9 u) (10 + u)) (90 + u)) := fun q => by rw [mvA]; simp only [q, if_true]
      have e2 : mvs (upd (mvA c k9 x right u) (50 + u) (k9 u) (10 + u)) x right = false → mvA c k9 x right (u + 1) = upd (mvA c k9 x right u) (50 + u) (k9 u) := fun q => by rw [mvA]; simp only [q]; rfl
      generalize mvA c k9 x right u = c9 at e1 e2
      refine z_ild8 (n := 329) (by decide +kernel) ?_
      refine z_ald0 (n := 330) (by decide +kernel) ?_
      refine z_getf (n := 333) (idx := 71) (by decide +kernel) fl_X11_71 (by first | assumption | (simp (disch := omega) only [hu_s, hu_n]; first | assumption | rfl)) (by rfl) ?_
      refine z_icmp_ge_f (n := 336) (off := 95) (tgt := 428) (by decide +kernel) (nI_ge ul (by omega)) ?_
      refine z_ald0 (n := 337) (by decide +kernel) ?_
      refine z_getf (n := 340) (idx := 7) (by decide +kernel) fl_X11_7 (by first | assumption | (simp (disch := omega) only [hu_s, hu_n]; first | assumption | rfl)) (by rfl) ?_
      refine z_bipush (n := 342) (q := 50) (v := 50) (by decide +kernel) ?_
      refine z_ild8 (n := 344) (by decide +kernel) ?_
      refine z_iadd (n := 345) (by decide +kernel) ?_
      refine z_ald0 (n := 346) (by decide +kernel) ?_
      refine z_getf (n := 349) (idx := 16) (by decide +kernel) fl_X11_16 (by first | assumption | (simp (disch := omega) only [hu_s, hu_n]; first | assumption | rfl)) (by rfl) ?_
      refine z_ild8 (n := 351) (by decide +kernel) ?_
      refine z_iald (n := 352) (by decide +kernel) (by first | assumption | (simp (disch := omega) only [hu_s, hu_n]; first | assumption | rfl)) (by first | assumption | exact ix_nI (by omega) (by omega) | exact ix_of (by simp only [n_0, n_1, n_2, n_3, n_4, n_5, n_6, n_7, n_8, n_10, n_50, n_90, n_130, n_370, n_570, nI_add, pk_mul]; rfl) (by omega) (by omega)) ?_
      refine z_iast (n := 353) (by decide +kernel) (by first | assumption | (simp (disch := omega) only [hu_s, hu_n]; first | assumption | rfl)) (by first | assumption | exact ix_nI (by omega) (by omega) | exact ix_of (by simp only [n_0, n_1, n_2, n_3, n_4, n_5, n_6, n_7, n_8, n_10, n_50, n_90, n_130, n_370, n_570, nI_add, pk_mul]; rfl) (by omega) (by omega)) ?_
      refine z_ald0 (n := 354) (by decide +kernel) ?_
      refine z_getf (n := 357) (idx := 7) (by decide +kernel) fl_X11_7 (by first | assumption | (simp (disch := omega) only [hu_s, hu_n]; first | assumption | rfl)) (by rfl) ?_
      refine z_bipush (n := 359) (q := 10) (v := 10) (by decide +kernel) ?_
      refine z_ild8 (n := 361) (by decide +kernel) ?_
      refine z_iadd (n := 362) (by decide +kernel) ?_
      refine z_iald (n := 363) (by decide +kernel) (by first | assumption | (simp (disch := omega) only [hu_s, hu_n]; first | assumption | rfl)) (by first | assumption | exact ix_nI (by omega) (by omega) | exact ix_of (by simp only [n_0, n_1, n_2, n_3, n_4, n_5, n_6, n_7, n_8, n_10, n_50, n_90, n_130, n_370, n_570, nI_add, pk_mul]; rfl) (by omega) (by omega)) ?_
      refine z_ild1 (n := 364) (by decide +kernel) ?_
      refine z_ild2 (n := 365) (by decide +kernel) ?_
      refine z_s3 (n := 368) (idx := 89) (by decide +kernel) ml_X11_89 (Nat.le_of_ble_eq_true rfl) (by omega) ⟨Nat.le_refl _, Nat.le_refl _⟩ (m_moves 0) ?_
      refine z_ifb_ne (n := 371) (off := 6) (tgt := 374) (by decide +kernel) (fun c368 => ?_) (fun c368 => ?_)
      · refine z_ald0 (n := 375) (by decide +kernel) ?_
        refine z_getf (n := 378) (idx := 7) (by decide +kernel) fl_X11_7 (by first | assumption | (simp (disch := omega) only [hu_s, hu_n]; first | assumption | rfl)) (by rfl) ?_
        refine z_bipush (n := 380) (q := 10) (v := 10) (by decide +kernel) ?_
        refine z_ild8 (n := 382) (by decide +kernel) ?_
        refine z_iadd (n := 383) (by decide +kernel) ?_
        refine z_iconst (n := 384) (q := 2) (v := 2) (by decide +kernel) ?_
        refine z_ild1 (n := 385) (by decide +kernel) ?_
        refine z_imul (n := 386) (by decide +kernel) ?_
        refine z_iconst (n := 387) (q := 1) (v := 1) (by decide +kernel) ?_
        refine z_isub (n := 388) (by decide +kernel) ?_
        refine z_ald0 (n := 389) (by decide +kernel) ?_
        refine z_getf (n := 392) (idx := 7) (by decide +kernel) fl_X11_7 (by first | assumption | (simp (disch := omega) only [hu_s, hu_n]; first | assumption | rfl)) (by rfl) ?_
        refine z_bipush (n := 394) (q := 10) (v := 10) (by decide +kernel) ?_
        refine z_ild8 (n := 396) (by decide +kernel) ?_
        refine z_iadd (n := 397) (by decide +kernel) ?_
        refine z_iald (n := 398) (by decide +kernel) (by first | assumption | (simp (disch := omega) only [hu_s, hu_n]; first | assumption | rfl)) (by first | assumption | exact ix_nI (by omega) (by omega) | exact ix_of (by simp only [n_0, n_1, n_2, n_3, n_4, n_5, n_6, n_7, n_8, n_10, n_50, n_90, n_130, n_370, n_570, nI_add, pk_mul]; rfl) (by omega) (by omega)) ?_
        refine z_isub (n := 399) (by decide +kernel) ?_
        refine z_iast (n := 400) (by decide +kernel) (by first | assumption | (simp (disch := omega) only [hu_s, hu_n]; first | assumption | rfl)) (by first | assumption | exact ix_nI (by omega) (by omega) | exact ix_of (by simp only [n_0, n_1, n_2, n_3, n_4, n_5, n_6, n_7, n_8, n_10, n_50, n_90, n_130, n_370, n_570, nI_add, pk_mul]; rfl) (by omega) (by omega)) ?_
        refine z_ald0 (n := 401) (by decide +kernel) ?_
        refine z_getf (n := 404) (idx := 7) (by decide +kernel) fl_X11_7 (by first | assumption | (simp (disch := omega) only [hu_s, hu_n]; first | assumption | rfl)) (by rfl) ?_
        refine z_bipush (n := 406) (q := 90) (v := 90) (by decide +kernel) ?_
        refine z_ild8 (n := 408) (by decide +kernel) ?_
        refine z_iadd (n := 409) (by decide +kernel) ?_
        refine z_iconst (n := 410) (q := 1) (v := 1) (by decide +kernel) ?_
        refine z_ald0 (n := 411) (by decide +kernel) ?_
        refine z_getf (n := 414) (idx := 7) (by decide +kernel) fl_X11_7 (by first | assumption | (simp (disch := omega) only [hu_s, hu_n]; first | assumption | rfl)) (by rfl) ?_
        refine z_bipush (n := 416) (q := 90) (v := 90) (by decide +kernel) ?_
        refine z_ild8 (n := 418) (by decide +kernel) ?_
        refine z_iadd (n := 419) (by decide +kernel) ?_
        refine z_iald (n := 420) (by decide +kernel) (by first | assumption | (simp (disch := omega) only [hu_s, hu_n]; first | assumption | rfl)) (by first | assumption | exact ix_nI (by omega) (by omega) | exact ix_of (by simp only [n_0, n_1, n_2, n_3, n_4, n_5, n_6, n_7, n_8, n_10, n_50, n_90, n_130, n_370, n_570, nI_add, pk_mul]; rfl) (by omega) (by omega)) ?_
        refine z_isub (n := 421) (by decide +kernel) ?_
        refine z_iast (n := 422) (by decide +kernel) (by first | assumption | (simp (disch := omega) only [hu_s, hu_n]; first | assumption | rfl)) (by first | assumption | exact ix_nI (by omega) (by omega) | exact ix_of (by simp only [n_0, n_1, n_2, n_3, n_4, n_5, n_6, n_7, n_8, n_10, n_50, n_90, n_130, n_370, n_570, nI_add, pk_mul]; rfl) (by omega) (by omega)) ?_
        refine z_inc8 (n := 425) (q := 1) (by decide +kernel) rfl (nI_1 _) ?_
        refine z_goto (n := 428) (off := -98) (tgt := 327) (by decide +kernel) ?_
        exact z_heap (by first | (rw [e1 c368]; simp only [hu_hu]) | (rw [e2 c368]; simp only [hu_hu])) ih
      · refine z_goto (n := 374) (off := 51) (tgt := 422) (by decide +kernel) ?_
        refine z_inc8 (n := 425) (q := 1) (by decide +kernel) rfl (nI_1 _) ?_
        refine z_goto (n := 428) (off := -98) (tgt := 327) (by decide +kernel) ?_
        exact z_heap (by first | (rw [e1 c368]; simp only [hu_hu]) | (rw [e2 c368]; simp only [hu_hu])) ih
  have L2 : ∀ r : Int32, Z G m_X11_fold d 0 0 0 0 229 [some (.ref Q), some (.int x), some (.int (bI right)), none, none, none, none, some (.int r), some (.int (nI 0)), none] [] (hu (hu h (Q + 3) (aI 40 l)) (Q + 1) (aI 600 (fl1 n x a))) (RE (some (.int r)) (hu (hu h (Q + 3) (aI 40 (flL n x right a l))) (Q + 1) (aI 600 (fldA n x right a l)))) := by
    intro r
    have L3 := L3 r
    have e0 : flL n x right a l = lyA n (fl1 n x a) x right l (n + 1) := rfl
    rw [e0] at L3
    rw [e0]
    generalize fldA n x right a l = w9 at L3
    generalize fl1 n x a = c at L3
    refine loopZ (k := n + 1) (fun u => Z G m_X11_fold d 0 0 0 0 229 [some (.ref Q), some (.int x), some (.int (bI right)), none, none, none, none, some (.int r), some (.int (nI u)), none] [] (hu (hu h (Q + 3) (aI 40 (lyA n c x right l u))) (Q + 1) (aI 600 c)) (RE (some (.int r)) (hu (hu h (Q + 3) (aI 40 (lyA n c x right l (n + 1)))) (Q + 1) (aI 600 w9)))) ?_ ?_ 0 (Nat.zero_le _)
    · refine z_ild8 (n := 231) (by decide +kernel) ?_
      refine z_ald0 (n := 232) (by decide +kernel) ?_
      refine z_getf (n := 235) (idx := 71) (by decide +kernel) fl_X11_71 (by first | assumption | (simp (disch := omega) only [hu_s, hu_n]; first | assumption | rfl)) (by rfl) ?_
      refine z_icmp_ge_t (n := 238) (off := 89) (tgt := 324) (by decide +kernel) (nI_le (Nat.le_refl _) (by omega)) ?_
      refine z_iconst (n := 325) (q := 0) (v := 0) (by decide +kernel) ?_
      refine z_ist8 (n := 327) (by decide +kernel) rfl ?_
      exact L3
    · intro u ul ih
      have e1 : mvs (c (10 + u)) x right = true → lyF n c x right u = (if mvs (2 * x - 1 - c (10 + u)) x right = true then 0 else nI (cnt (fun u => c (10 + u)) (2 * x - 1 - c (10 + u)) (n + 1))) + nI (cnt (fun u => c (10 + u)) (c (10 + u)) (n + 1)) - 1 - c (50 + u) := fun q => by unfold lyF; rw [if_pos q]
      have e2 : mvs (c (10 + u)) x right = false → lyF n c x right u = c (50 + u) := fun q => by unfold lyF; rw [if_neg (by rw [q]; decide)]
      have e3 : lyA n c x right l (u + 1) = upd (lyA n c x right l u) u (lyF n c x right u) := rfl
      rw [e3] at ih
      generalize lyA n c x right l u = l9 at ih
      refine z_ild8 (n := 231) (by decide +kernel) ?_
      refine z_ald0 (n := 232) (by decide +kernel) ?_
      refine z_getf (n := 235) (idx := 71) (by decide +kernel) fl_X11_71 (by first | assumption | (simp (disch := omega) only [hu_s, hu_n]; first | assumption | rfl)) (by rfl) ?_
      refine z_icmp_ge_f (n := 238) (off := 89) (tgt := 324) (by decide +kernel) (nI_ge ul (by omega)) ?_
      refine z_ald0 (n := 239) (by decide +kernel) ?_
      refine z_getf (n := 242) (idx := 7) (by decide +kernel) fl_X11_7 (by first | assumption | (simp (disch := omega) only [hu_s, hu_n]; first | assumption | rfl)) (by rfl) ?_
      refine z_bipush (n := 244) (q := 10) (v := 10) (by decide +kernel) ?_
      refine z_ild8 (n := 246) (by decide +kernel) ?_
      refine z_iadd (n := 247) (by decide +kernel) ?_
      refine z_iald (n := 248) (by decide +kernel) (by first | assumption | (simp (disch := omega) only [hu_s, hu_n]; first | assumption | rfl)) (by first | assumption | exact ix_nI (by omega) (by omega) | exact ix_of (by simp only [n_0, n_1, n_2, n_3, n_4, n_5, n_6, n_7, n_8, n_10, n_50, n_90, n_130, n_370, n_570, nI_add, pk_mul]; rfl) (by omega) (by omega)) ?_
      refine z_ist9 (n := 250) (by decide +kernel) rfl ?_
      refine z_ald0 (n := 251) (by decide +kernel) ?_
      refine z_getf (n := 254) (idx := 16) (by decide +kernel) fl_X11_16 (by first | assumption | (simp (disch := omega) only [hu_s, hu_n]; first | assumption | rfl)) (by rfl) ?_
      refine z_ild8 (n := 256) (by decide +kernel) ?_
      refine z_ald0 (n := 257) (by decide +kernel) ?_
      refine z_getf (n := 260) (idx := 7) (by decide +kernel) fl_X11_7 (by first | assumption | (simp (disch := omega) only [hu_s, hu_n]; first | assumption | rfl)) (by rfl) ?_
      refine z_bipush (n := 262) (q := 50) (v := 50) (by decide +kernel) ?_
      refine z_ild8 (n := 264) (by decide +kernel) ?_
      refine z_iadd (n := 265) (by decide +kernel) ?_
      refine z_iald (n := 266) (by decide +kernel) (by first | assumption | (simp (disch := omega) only [hu_s, hu_n]; first | assumption | rfl)) (by first | assumption | exact ix_nI (by omega) (by omega) | exact ix_of (by simp only [n_0, n_1, n_2, n_3, n_4, n_5, n_6, n_7, n_8, n_10, n_50, n_90, n_130, n_370, n_570, nI_add, pk_mul]; rfl) (by omega) (by omega)) ?_
      refine z_iast (n := 267) (by decide +kernel) (by first | assumption | (simp (disch := omega) only [hu_s, hu_n]; first | assumption | rfl)) (by first | assumption | exact ix_nI (by omega) (by omega) | exact ix_of (by simp only [n_0, n_1, n_2, n_3, n_4, n_5, n_6, n_7, n_8, n_10, n_50, n_90, n_130, n_370, n_570, nI_add, pk_mul]; rfl) (by omega) (by omega)) ?_
      refine z_ild9 (n := 269) (by decide +kernel) ?_
      refine z_ild1 (n := 270) (by decide +kernel) ?_
      refine z_ild2 (n := 271) (by decide +kernel) ?_
      refine z_s3 (n := 274) (idx := 89) (by decide +kernel) ml_X11_89 (Nat.le_of_ble_eq_true rfl) (by omega) ⟨Nat.le_refl _, Nat.le_refl _⟩ (m_moves 0) ?_
      refine z_ifb_eq (n := 277) (off := 44) (tgt := 318) (by decide +kernel) (fun c274 => ?_) (fun c274 => ?_)
      · refine z_inc8 (n := 321) (q := 1) (by decide +kernel) rfl (nI_1 _) ?_
        refine z_goto (n := 324) (off := -92) (tgt := 229) (by decide +kernel) ?_
        exact z_wk (lv' := [some (.ref Q), some (.int x), some (.int (bI right)), none, none, none, none, some (.int r), some (.int (nI (u + 1))), none]) (by simp [wk]) (z_heap (by first | (rw [e1 c274, hu_hu, upd_upd]; exact hu3 (by omega)) | (rw [e2 c274]; exact hu3 (by omega))) ih)
      · refine z_ald0 (n := 278) (by decide +kernel) ?_
        refine z_getf (n := 281) (idx := 16) (by decide +kernel) fl_X11_16 (by first | assumption | (simp (disch := omega) only [hu_s, hu_n]; first | assumption | rfl)) (by rfl) ?_
        refine z_ild8 (n := 283) (by decide +kernel) ?_
        refine z_ald0 (n := 284) (by decide +kernel) ?_
        refine z_iconst (n := 285) (q := 2) (v := 2) (by decide +kernel) ?_
        refine z_ild1 (n := 286) (by decide +kernel) ?_
        refine z_imul (n := 287) (by decide +kernel) ?_
        refine z_iconst (n := 288) (q := 1) (v := 1) (by decide +kernel) ?_
        refine z_isub (n := 289) (by decide +kernel) ?_
        refine z_ild9 (n := 291) (by decide +kernel) ?_
        refine z_isub (n := 292) (by decide +kernel) ?_
        refine z_ild1 (n := 293) (by decide +kernel) ?_
        refine z_ild2 (n := 294) (by decide +kernel) ?_
        refine z_v3 (n := 297) (idx := 106) (by decide +kernel) ml_X11_106 (by first | assumption | (simp (disch := omega) only [hu_s, hu_n]; first | assumption | rfl)) rfl (Nat.le_of_ble_eq_true rfl) (by omega) ⟨Nat.le_refl _, Nat.le_refl _⟩ (m_staying (n := n) (a := c) 1 (by omega) (by simp (disch := omega) only [hTn, hCr, hFl, hu_s, hu_n]; first | done | assumption | rfl) (by simp (disch := omega) only [hTn, hCr, hFl, hu_s, hu_n]; first | done | assumption | rfl) hn) ?_
        refine z_ald0 (n := 298) (by decide +kernel) ?_
        refine z_ild9 (n := 300) (by decide +kernel) ?_
        refine z_v1 (n := 303) (idx := 102) (by decide +kernel) ml_X11_102 (by first | assumption | (simp (disch := omega) only [hu_s, hu_n]; first | assumption | rfl)) rfl (Nat.le_of_ble_eq_true rfl) (by omega) ⟨Nat.le_refl _, Nat.le_refl _⟩ (m_layers (n := n) (a := c) 0 (by simp (disch := omega) only [hTn, hCr, hFl, hu_s, hu_n]; first | done | assumption | rfl) (by simp (disch := omega) only [hTn, hCr, hFl, hu_s, hu_n]; first | done | assumption | rfl) hn) ?_
        refine z_iadd (n := 304) (by decide +kernel) ?_
        refine z_iconst (n := 305) (q := 1) (v := 1) (by decide +kernel) ?_
        refine z_isub (n := 306) (by decide +kernel) ?_
        refine z_ald0 (n := 307) (by decide +kernel) ?_
        refine z_getf (n := 310) (idx := 7) (by decide +kernel) fl_X11_7 (by first | assumption | (simp (disch := omega) only [hu_s, hu_n]; first | assumption | rfl)) (by rfl) ?_
        refine z_bipush (n := 312) (q := 50) (v := 50) (by decide +kernel) ?_
        refine z_ild8 (n := 314) (by decide +kernel) ?_
        refine z_iadd (n := 315) (by decide +kernel) ?_
        refine z_iald (n := 316) (by decide +kernel) (by first | assumption | (simp (disch := omega) only [hu_s, hu_n]; first | assumption | rfl)) (by first | assumption | exact ix_nI (by omega) (by omega) | exact ix_of (by simp only [n_0, n_1, n_2, n_3, n_4, n_5, n_6, n_7, n_8, n_10, n_50, n_90, n_130, n_370, n_570, nI_add, pk_mul]; rfl) (by omega) (by omega)) ?_
        refine z_isub (n := 317) (by decide +kernel) ?_
        refine z_iast (n := 318) (by decide +kernel) (by first | assumption | (simp (disch := omega) only [hu_s, hu_n]; first | assumption | rfl)) (by first | assumption | exact ix_nI (by omega) (by omega) | exact ix_of (by simp only [n_0, n_1, n_2, n_3, n_4, n_5, n_6, n_7, n_8, n_10, n_50, n_90, n_130, n_370, n_570, nI_add, pk_mul]; rfl) (by omega) (by omega)) ?_
        refine z_inc8 (n := 321) (q := 1) (by decide +kernel) rfl (nI_1 _) ?_
        refine z_goto (n := 324) (off := -92) (tgt := 229) (by decide +kernel) ?_
        exact z_wk (lv' := [some (.ref Q), some (.int x), some (.int (bI right)), none, none, none, none, some (.int r), some (.int (nI (u + 1))), none]) (by simp [wk]) (z_heap (by first | (rw [e1 c274, hu_hu, upd_upd]; exact hu3 (by omega)) | (rw [e2 c274]; exact hu3 (by omega))) ih)
  have L1 : ∀ w : Int32, w = wrA n x a → Z G m_X11_fold d 0 0 0 0 56 [some (.ref Q), some (.int x), some (.int (bI right)), none, none, none, some (.int w), some (.int (nI 0)), some (.int (nI 1)), none] [] h (RE (some (.int (nI (cnb (fun j => crs (fun u => a (10 + u)) j x) n)))) (hu (hu h (Q + 3) (aI 40 (flL n x right a l))) (Q + 1) (aI 600 (fldA n x right a l)))) := by
    intro w hw
    have L2 := L2 (nI (cnb (fun j => crs (fun u => a (10 + u)) j x) n))
    generalize fldA n x right a l = w9 at L2
    generalize flL n x right a l = k9 at L2
    have e0 : fl1 n x a = fcA a x w n := by rw [hw]; rfl
    rw [e0, hu_self hL] at L2
    refine z_heap (h1 := hu h (Q + 1) (aI 600 (fcA a x w 0))) (hu_self hA).symm ?_
    refine loopZ (k := n) (fun u => Z G m_X11_fold d 0 0 0 0 56 [some (.ref Q), some (.int x), some (.int (bI right)), none, none, none, some (.int w), some (.int (nI (cnb (fun j => crs (fun u => a (10 + u)) j x) u))), some (.int (nI (u + 1))), none] [] (hu h (Q + 1) (aI 600 (fcA a x w u))) (RE (some (.int (nI (cnb (fun j => crs (fun u => a (10 + u)) j x) n)))) (hu (hu h (Q + 3) (aI 40 k9)) (Q + 1) (aI 600 w9)))) ?_ ?_ 0 (Nat.zero_le _)
    · refine z_ild8 (n := 58) (by decide +kernel) ?_
      refine z_ald0 (n := 59) (by decide +kernel) ?_
      refine z_getf (n := 62) (idx := 71) (by decide +kernel) fl_X11_71 (by first | assumption | (simp (disch := omega) only [hu_s, hu_n]; first | assumption | rfl)) (by rfl) ?_
      refine z_icmp_ge_t (n := 65) (off := 164) (tgt := 226) (by decide +kernel) (nI_le (Nat.le_refl _) (by omega)) ?_
      refine z_iconst (n := 227) (q := 0) (v := 0) (by decide +kernel) ?_
      refine z_ist8 (n := 229) (by decide +kernel) rfl ?_
      exact z_wk (lv' := [some (.ref Q), some (.int x), some (.int (bI right)), none, none, none, none, some (.int (nI (cnb (fun j => crs (fun u => a (10 + u)) j x) n))), some (.int (nI 0)), none]) (by simp [wk]; rfl) L2
    · intro u ul ih
      have f1 : crs (fun v => fcA a x w u (10 + v)) u x = crs (fun v => a (10 + v)) u x := crs_c (fcA_lo (by omega) u) (fcA_lo (by omega) u)
      have e1 : crs (fun v => fcA a x w u (10 + v)) u x = true → Z G m_X11_fold d 0 0 0 0 56 [some (.ref Q), some (.int x), some (.int (bI right)), none, none, none, some (.int w), some (.int (nI (cnb (fun j => crs (fun u => a (10 + u)) j x) u + 1))), some (.int (nI (u + 1 + 1))), none] [] (hu h (Q + 1) (aI 600 (fcS (fcA a x w u) w (u + 1)))) (RE (some (.int (nI (cnb (fun j => crs (fun u => a (10 + u)) j x) n)))) (hu (hu h (Q + 3) (aI 40 k9)) (Q + 1) (aI 600 w9))) := by
        intro q
        rw [f1] at q
        rw [cnb_t q, show fcA a x w (u + 1) = fcS (fcA a x w u) w (u + 1) by rw [fcA, if_pos q]] at ih
        exact ih
      have e2 : crs (fun v => fcA a x w u (10 + v)) u x = false → Z G m_X11_fold d 0 0 0 0 56 [some (.ref Q), some (.int x), some (.int (bI right)), none, none, none, some (.int w), some (.int (nI (cnb (fun j => crs (fun u => a (10 + u)) j x) u))), some (.int (nI (u + 1 + 1))), none] [] (hu h (Q + 1) (aI 600 (fcA a x w u))) (RE (some (.int (nI (cnb (fun j => crs (fun u => a (10 + u)) j x) n)))) (hu (hu h (Q + 3) (aI 40 k9)) (Q + 1) (aI 600 w9))) := by
        intro q
        rw [f1] at q
        rw [cnb_f q, show fcA a x w (u + 1) = fcA a x w u by rw [fcA, if_neg (by rw [q]; decide)]] at ih
        exact ih
      clear ih f1
      generalize cnb (fun j => crs (fun u => a (10 + u)) j x) n = r9 at e1 e2
      generalize cnb (fun j => crs (fun u => a (10 + u)) j x) u = s9 at e1 e2
      generalize fcA a x w u = c9 at e1 e2
      refine z_ild8 (n := 58) (by decide +kernel) ?_
      refine z_ald0 (n := 59) (by decide +kernel) ?_
      refine z_getf (n := 62) (idx := 71) (by decide +kernel) fl_X11_71 (by first | assumption | (simp (disch := omega) only [hu_s, hu_n]; first | assumption | rfl)) (by rfl) ?_
      refine z_icmp_ge_f (n := 65) (off := 164) (tgt := 226) (by decide +kernel) (nI_ge (by omega) (by omega)) ?_
      refine z_ald0 (n := 66) (by decide +kernel) ?_
      refine z_ild8 (n := 68) (by decide +kernel) ?_
      refine z_ild1 (n := 69) (by decide +kernel) ?_
      refine z_v2 (n := 72) (idx := 93) (by decide +kernel) ml_X11_93 (by first | assumption | (simp (disch := omega) only [hu_s, hu_n]; first | assumption | rfl)) rfl (Nat.le_of_ble_eq_true rfl) (by omega) ⟨Nat.le_refl _, Nat.le_refl _⟩ (m_creases (n := n) (a := c9) 0 (by omega) (by simp (disch := omega) only [hTn, hCr, hFl, hu_s, hu_n]; first | done | assumption | rfl) (by simp (disch := omega) only [hTn, hCr, hFl, hu_s, hu_n]; first | done | assumption | rfl) hn) ?_
      refine z_ifb_ne (n := 75) (off := 6) (tgt := 78) (by decide +kernel) (fun c72 => ?_) (fun c72 => ?_)
      · refine z_sipush (n := 81) (q := 130) (v := 130) (by decide +kernel) ?_
        refine z_bipush (n := 83) (q := 6) (v := 6) (by decide +kernel) ?_
        refine z_ild8 (n := 85) (by decide +kernel) ?_
        refine z_imul (n := 86) (by decide +kernel) ?_
        refine z_iadd (n := 87) (by decide +kernel) ?_
        refine z_top (show _ = nI (130 + 6 * (u + 1)) by rw [n_130, n_6, pk_mul, nI_add]) ?_
        refine z_ist9 (n := 89) (by decide +kernel) rfl ?_
        refine z_ald0 (n := 90) (by decide +kernel) ?_
        refine z_getf (n := 93) (idx := 7) (by decide +kernel) fl_X11_7 (by first | assumption | (simp (disch := omega) only [hu_s, hu_n]; first | assumption | rfl)) (by rfl) ?_
        refine z_ild9 (n := 95) (by decide +kernel) ?_
        refine z_iconst (n := 96) (q := 0) (v := 0) (by decide +kernel) ?_
        refine z_iadd (n := 97) (by decide +kernel) ?_
        refine z_top (show _ = nI (130 + 6 * (u + 1)) by rw [n_0, nI_add]; rfl) ?_
        refine z_ald0 (n := 98) (by decide +kernel) ?_
        refine z_getf (n := 101) (idx := 7) (by decide +kernel) fl_X11_7 (by first | assumption | (simp (disch := omega) only [hu_s, hu_n]; first | assumption | rfl)) (by rfl) ?_
        refine z_bipush (n := 103) (q := 90) (v := 90) (by decide +kernel) ?_
        refine z_ild8 (n := 105) (by decide +kernel) ?_
        refine z_iadd (n := 106) (by decide +kernel) ?_
        refine z_iald (n := 107) (by decide +kernel) (by first | assumption | (simp (disch := omega) only [hu_s, hu_n]; first | assumption | rfl)) (by first | assumption | exact ix_nI (by omega) (by omega) | exact ix_of (by simp only [n_0, n_1, n_2, n_3, n_4, n_5, n_6, n_7, n_8, n_10, n_50, n_90, n_130, n_370, n_570, nI_add, pk_mul]; rfl) (by omega) (by omega)) ?_
        refine z_iconst (n := 108) (q := 1) (v := 1) (by decide +kernel) ?_
        refine z_icmp_ne (n := 111) (off := 7) (tgt := 115) (by decide +kernel) (fun c108 => ?_) (fun c108 => ?_)
        · refine z_iconst (n := 116) (q := 2) (v := 2) (by decide +kernel) ?_
          refine z_iast (n := 117) (by decide +kernel) (by first | assumption | (simp (disch := omega) only [hu_s, hu_n]; first | assumption | rfl)) (by first | assumption | exact ix_nI (by omega) (by omega) | exact ix_of (by simp only [n_0, n_1, n_2, n_3, n_4, n_5, n_6, n_7, n_8, n_10, n_50, n_90, n_130, n_370, n_570, nI_add, pk_mul]; rfl) (by omega) (by omega)) ?_
          refine z_ald0 (n := 118) (by decide +kernel) ?_
          refine z_getf (n := 121) (idx := 7) (by decide +kernel) fl_X11_7 (by first | assumption | (simp (disch := omega) only [hu_s, hu_n]; first | assumption | rfl)) (by rfl) ?_
          refine z_ild9 (n := 123) (by decide +kernel) ?_
          refine z_iconst (n := 124) (q := 1) (v := 1) (by decide +kernel) ?_
          refine z_iadd (n := 125) (by decide +kernel) ?_
          refine z_iald (n := 126) (by decide +kernel) (by first | assumption | (simp (disch := omega) only [hu_s, hu_n]; first | assumption | rfl)) (by first | assumption | exact ix_nI (by omega) (by omega) | exact ix_of (by simp only [n_0, n_1, n_2, n_3, n_4, n_5, n_6, n_7, n_8, n_10, n_50, n_90, n_130, n_370, n_570, nI_add, pk_mul]; rfl) (by omega) (by omega)) ?_
          refine z_sipush (n := 129) (q := 300) (v := 300) (by decide +kernel) ?_
          refine z_icmp_ge (n := 132) (off := 15) (tgt := 144) (by decide +kernel) (fun c129 => ?_) (fun c129 => ?_)
          · refine z_ald0 (n := 145) (by decide +kernel) ?_
            refine z_getf (n := 148) (idx := 7) (by decide +kernel) fl_X11_7 (by first | assumption | (simp (disch := omega) only [hu_s, hu_n]; first | assumption | rfl)) (by rfl) ?_
            refine z_ild9 (n := 150) (by decide +kernel) ?_
            refine z_iconst (n := 151) (q := 2) (v := 2) (by decide +kernel) ?_
            refine z_iadd (n := 152) (by decide +kernel) ?_
            refine z_dup2 (n := 153) (by decide +kernel) rfl rfl ?_
            refine z_iald (n := 154) (by decide +kernel) (by first | assumption | (simp (disch := omega) only [hu_s, hu_n]; first | assumption | rfl)) (by first | assumption | exact ix_nI (by omega) (by omega) | exact ix_of (by simp only [n_0, n_1, n_2, n_3, n_4, n_5, n_6, n_7, n_8, n_10, n_50, n_90, n_130, n_370, n_570, nI_add, pk_mul]; rfl) (by omega) (by omega)) ?_
            refine z_ild6 (n := 156) (by decide +kernel) ?_
            refine z_iadd (n := 157) (by decide +kernel) ?_
            refine z_iast (n := 158) (by decide +kernel) (by first | assumption | (simp (disch := omega) only [hu_s, hu_n]; first | assumption | rfl)) (by first | assumption | exact ix_nI (by omega) (by omega) | exact ix_of (by simp only [n_0, n_1, n_2, n_3, n_4, n_5, n_6, n_7, n_8, n_10, n_50, n_90, n_130, n_370, n_570, nI_add, pk_mul]; rfl) (by omega) (by omega)) ?_
            refine z_ald0 (n := 159) (by decide +kernel) ?_
            refine z_getf (n := 162) (idx := 7) (by decide +kernel) fl_X11_7 (by first | assumption | (simp (disch := omega) only [hu_s, hu_n]; first | assumption | rfl)) (by rfl) ?_
            refine z_ild9 (n := 164) (by decide +kernel) ?_
            refine z_iconst (n := 165) (q := 3) (v := 3) (by decide +kernel) ?_
            refine z_iadd (n := 166) (by decide +kernel) ?_
            refine z_ald0 (n := 167) (by decide +kernel) ?_
            refine z_getf (n := 170) (idx := 7) (by decide +kernel) fl_X11_7 (by first | assumption | (simp (disch := omega) only [hu_s, hu_n]; first | assumption | rfl)) (by rfl) ?_
            refine z_iconst (n := 171) (q := 0) (v := 0) (by decide +kernel) ?_
            refine z_iald (n := 172) (by decide +kernel) (by first | assumption | (simp (disch := omega) only [hu_s, hu_n]; first | assumption | rfl)) (by first | assumption | exact ix_nI (by omega) (by omega) | exact ix_of (by simp only [n_0, n_1, n_2, n_3, n_4, n_5, n_6, n_7, n_8, n_10, n_50, n_90, n_130, n_370, n_570, nI_add, pk_mul]; rfl) (by omega) (by omega)) ?_
            refine z_iast (n := 173) (by decide +kernel) (by first | assumption | (simp (disch := omega) only [hu_s, hu_n]; first | assumption | rfl)) (by first | assumption | exact ix_nI (by omega) (by omega) | exact ix_of (by simp only [n_0, n_1, n_2, n_3, n_4, n_5, n_6, n_7, n_8, n_10, n_50, n_90, n_130, n_370, n_570, nI_add, pk_mul]; rfl) (by omega) (by omega)) ?_
            refine z_ald0 (n := 174) (by decide +kernel) ?_
            refine z_getf (n := 177) (idx := 7) (by decide +kernel) fl_X11_7 (by first | assumption | (simp (disch := omega) only [hu_s, hu_n]; first | assumption | rfl)) (by rfl) ?_
            refine z_ild9 (n := 179) (by decide +kernel) ?_
            refine z_iconst (n := 180) (q := 4) (v := 4) (by decide +kernel) ?_
            refine z_iadd (n := 181) (by decide +kernel) ?_
            refine z_ald0 (n := 182) (by decide +kernel) ?_
            refine z_getf (n := 185) (idx := 7) (by decide +kernel) fl_X11_7 (by first | assumption | (simp (disch := omega) only [hu_s, hu_n]; first | assumption | rfl)) (by rfl) ?_
            refine z_iconst (n := 186) (q := 1) (v := 1) (by decide +kernel) ?_
            refine z_iald (n := 187) (by decide +kernel) (by first | assumption | (simp (disch := omega) only [hu_s, hu_n]; first | assumption | rfl)) (by first | assumption | exact ix_nI (by omega) (by omega) | exact ix_of (by simp only [n_0, n_1, n_2, n_3, n_4, n_5, n_6, n_7, n_8, n_10, n_50, n_90, n_130, n_370, n_570, nI_add, pk_mul]; rfl) (by omega) (by omega)) ?_
            refine z_iast (n := 188) (by decide +kernel) (by first | assumption | (simp (disch := omega) only [hu_s, hu_n]; first | assumption | rfl)) (by first | assumption | exact ix_nI (by omega) (by omega) | exact ix_of (by simp only [n_0, n_1, n_2, n_3, n_4, n_5, n_6, n_7, n_8, n_10, n_50, n_90, n_130, n_370, n_570, nI_add, pk_mul]; rfl) (by omega) (by omega)) ?_
            refine z_ald0 (n := 189) (by decide +kernel) ?_
            refine z_getf (n := 192) (idx := 7) (by decide +kernel) fl_X11_7 (by first | assumption | (simp (disch := omega) only [hu_s, hu_n]; first | assumption | rfl)) (by rfl) ?_
            refine z_ild9 (n := 194) (by decide +kernel) ?_
            refine z_iconst (n := 195) (q := 2) (v := 2) (by decide +kernel) ?_
            refine z_iadd (n := 196) (by decide +kernel) ?_
            refine z_iald (n := 197) (by decide +kernel) (by first | assumption | (simp (disch := omega) only [hu_s, hu_n]; first | assumption | rfl)) (by first | assumption | exact ix_nI (by omega) (by omega) | exact ix_of (by simp only [n_0, n_1, n_2, n_3, n_4, n_5, n_6, n_7, n_8, n_10, n_50, n_90, n_130, n_370, n_570, nI_add, pk_mul]; rfl) (by omega) (by omega)) ?_
            refine z_ald0 (n := 198) (by decide +kernel) ?_
            refine z_getf (n := 201) (idx := 7) (by decide +kernel) fl_X11_7 (by first | assumption | (simp (disch := omega) only [hu_s, hu_n]; first | assumption | rfl)) (by rfl) ?_
            refine z_bipush (n := 203) (q := 7) (v := 7) (by decide +kernel) ?_
            refine z_iald (n := 204) (by decide +kernel) (by first | assumption | (simp (disch := omega) only [hu_s, hu_n]; first | assumption | rfl)) (by first | assumption | exact ix_nI (by omega) (by omega) | exact ix_of (by simp only [n_0, n_1, n_2, n_3, n_4, n_5, n_6, n_7, n_8, n_10, n_50, n_90, n_130, n_370, n_570, nI_add, pk_mul]; rfl) (by omega) (by omega)) ?_
            refine z_icmp_lt (n := 207) (off := 13) (tgt := 217) (by decide +kernel) (fun c204 => ?_) (fun c204 => ?_)
            · refine z_inc7 (n := 220) (q := 1) (by decide +kernel) rfl (nI_1 _) ?_
              refine z_inc8 (n := 223) (q := 1) (by decide +kernel) rfl (nI_1 _) ?_
              refine z_goto (n := 226) (off := -167) (tgt := 56) (by decide +kernel) ?_
              first | exact z_wk (lv' := [some (.ref Q), some (.int x), some (.int (bI right)), none, none, none, some (.int w), some (.int (nI (s9))), some (.int (nI (u + 1 + 1))), none]) (by simp [wk]) (e2 c72) | exact z_wk (lv' := [some (.ref Q), some (.int x), some (.int (bI right)), none, none, none, some (.int w), some (.int (nI (s9 + 1))), some (.int (nI (u + 1 + 1))), none]) (by simp [wk]) (z_heap (by unfold fcS; simp only [c72, eq_false c108, eq_true c129, eq_true c204, if_true, if_false, hu_hu]) (e1 c72))
            · refine z_ald0 (n := 208) (by decide +kernel) ?_
              refine z_getf (n := 211) (idx := 7) (by decide +kernel) fl_X11_7 (by first | assumption | (simp (disch := omega) only [hu_s, hu_n]; first | assumption | rfl)) (by rfl) ?_
              refine z_ild9 (n := 213) (by decide +kernel) ?_
              refine z_iconst (n := 214) (q := 5) (v := 5) (by decide +kernel) ?_
              refine z_iadd (n := 215) (by decide +kernel) ?_
              refine z_iconst (n := 216) (q := 1) (v := 1) (by decide +kernel) ?_
              refine z_iast (n := 217) (by decide +kernel) (by first | assumption | (simp (disch := omega) only [hu_s, hu_n]; first | assumption | rfl)) (by first | assumption | exact ix_nI (by omega) (by omega) | exact ix_of (by simp only [n_0, n_1, n_2, n_3, n_4, n_5, n_6, n_7, n_8, n_10, n_50, n_90, n_130, n_370, n_570, nI_add, pk_mul]; rfl) (by omega) (by omega)) ?_
              refine z_inc7 (n := 220) (q := 1) (by decide +kernel) rfl (nI_1 _) ?_
              refine z_inc8 (n := 223) (q := 1) (by decide +kernel) rfl (nI_1 _) ?_
              refine z_goto (n := 226) (off := -167) (tgt := 56) (by decide +kernel) ?_
              first | exact z_wk (lv' := [some (.ref Q), some (.int x), some (.int (bI right)), none, none, none, some (.int w), some (.int (nI (s9))), some (.int (nI (u + 1 + 1))), none]) (by simp [wk]) (e2 c72) | exact z_wk (lv' := [some (.ref Q), some (.int x), some (.int (bI right)), none, none, none, some (.int w), some (.int (nI (s9 + 1))), some (.int (nI (u + 1 + 1))), none]) (by simp [wk]) (z_heap (by unfold fcS; simp only [c72, eq_false c108, eq_true c129, eq_false c204, if_true, if_false, hu_hu]) (e1 c72))
          · refine z_ald0 (n := 133) (by decide +kernel) ?_
            refine z_getf (n := 136) (idx := 7) (by decide +kernel) fl_X11_7 (by first | assumption | (simp (disch := omega) only [hu_s, hu_n]; first | assumption | rfl)) (by rfl) ?_
            refine z_ild9 (n := 138) (by decide +kernel) ?_
            refine z_iconst (n := 139) (q := 1) (v := 1) (by decide +kernel) ?_
            refine z_iadd (n := 140) (by decide +kernel) ?_
            refine z_sipush (n := 143) (q := 300) (v := 300) (by decide +kernel) ?_
            refine z_iast (n := 144) (by decide +kernel) (by first | assumption | (simp (disch := omega) only [hu_s, hu_n]; first | assumption | rfl)) (by first | assumption | exact ix_nI (by omega) (by omega) | exact ix_of (by simp only [n_0, n_1, n_2, n_3, n_4, n_5, n_6, n_7, n_8, n_10, n_50, n_90, n_130, n_370, n_570, nI_add, pk_mul]; rfl) (by omega) (by omega)) ?_
            refine z_ald0 (n := 145) (by decide +kernel) ?_
            refine z_getf (n := 148) (idx := 7) (by decide +kernel) fl_X11_7 (by first | assumption | (simp (disch := omega) only [hu_s, hu_n]; first | assumption | rfl)) (by rfl) ?_
            refine z_ild9 (n := 150) (by decide +kernel) ?_
            refine z_iconst (n := 151) (q := 2) (v := 2) (by decide +kernel) ?_
            refine z_iadd (n := 152) (by decide +kernel) ?_
            refine z_dup2 (n := 153) (by decide +kernel) rfl rfl ?_
            refine z_iald (n := 154) (by decide +kernel) (by first | assumption | (simp (disch := omega) only [hu_s, hu_n]; first | assumption | rfl)) (by first | assumption | exact ix_nI (by omega) (by omega) | exact ix_of (by simp only [n_0, n_1, n_2, n_3, n_4, n_5, n_6, n_7, n_8, n_10, n_50, n_90, n_130, n_370, n_570, nI_add, pk_mul]; rfl) (by omega) (by omega)) ?_
            refine z_ild6 (n := 156) (by decide +kernel) ?_
            refine z_iadd (n := 157) (by decide +kernel) ?_
            refine z_iast (n := 158) (by decide +kernel) (by first | assumption | (simp (disch := omega) only [hu_s, hu_n]; first | assumption | rfl)) (by first | assumption | exact ix_nI (by omega) (by omega) | exact ix_of (by simp only [n_0, n_1, n_2, n_3, n_4, n_5, n_6, n_7, n_8, n_10, n_50, n_90, n_130, n_370, n_570, nI_add, pk_mul]; rfl) (by omega) (by omega)) ?_
            refine z_ald0 (n := 159) (by decide +kernel) ?_
            refine z_getf (n := 162) (idx := 7) (by decide +kernel) fl_X11_7 (by first | assumption | (simp (disch := omega) only [hu_s, hu_n]; first | assumption | rfl)) (by rfl) ?_
            refine z_ild9 (n := 164) (by decide +kernel) ?_
            refine z_iconst (n := 165) (q := 3) (v := 3) (by decide +kernel) ?_
            refine z_iadd (n := 166) (by decide +kernel) ?_
            refine z_ald0 (n := 167) (by decide +kernel) ?_
            refine z_getf (n := 170) (idx := 7) (by decide +kernel) fl_X11_7 (by first | assumption | (simp (disch := omega) only [hu_s, hu_n]; first | assumption | rfl)) (by rfl) ?_
            refine z_iconst (n := 171) (q := 0) (v := 0) (by decide +kernel) ?_
            refine z_iald (n := 172) (by decide +kernel) (by first | assumption | (simp (disch := omega) only [hu_s, hu_n]; first | assumption | rfl)) (by first | assumption | exact ix_nI (by omega) (by omega) | exact ix_of (by simp only [n_0, n_1, n_2, n_3, n_4, n_5, n_6, n_7, n_8, n_10, n_50, n_90, n_130, n_370, n_570, nI_add, pk_mul]; rfl) (by omega) (by omega)) ?_
            refine z_iast (n := 173) (by decide +kernel) (by first | assumption | (simp (disch := omega) only [hu_s, hu_n]; first | assumption | rfl)) (by first | assumption | exact ix_nI (by omega) (by omega) | exact ix_of (by simp only [n_0, n_1, n_2, n_3, n_4, n_5, n_6, n_7, n_8, n_10, n_50, n_90, n_130, n_370, n_570, nI_add, pk_mul]; rfl) (by omega) (by omega)) ?_
            refine z_ald0 (n := 174) (by decide +kernel) ?_
            refine z_getf (n := 177) (idx := 7) (by decide +kernel) fl_X11_7 (by first | assumption | (simp (disch := omega) only [hu_s, hu_n]; first | assumption | rfl)) (by rfl) ?_
            refine z_ild9 (n := 179) (by decide +kernel) ?_
            refine z_iconst (n := 180) (q := 4) (v := 4) (by decide +kernel) ?_
            refine z_iadd (n := 181) (by decide +kernel) ?_
            refine z_ald0 (n := 182) (by decide +kernel) ?_
            refine z_getf (n := 185) (idx := 7) (by decide +kernel) fl_X11_7 (by first | assumption | (simp (disch := omega) only [hu_s, hu_n]; first | assumption | rfl)) (by rfl) ?_
            refine z_iconst (n := 186) (q := 1) (v := 1) (by decide +kernel) ?_
            refine z_iald (n := 187) (by decide +kernel) (by first | assumption | (simp (disch := omega) only [hu_s, hu_n]; first | assumption | rfl)) (by first | assumption | exact ix_nI (by omega) (by omega) | exact ix_of (by simp only [n_0, n_1, n_2, n_3, n_4, n_5, n_6, n_7, n_8, n_10, n_50, n_90, n_130, n_370, n_570, nI_add, pk_mul]; rfl) (by omega) (by omega)) ?_
            refine z_iast (n := 188) (by decide +kernel) (by first | assumption | (simp (disch := omega) only [hu_s, hu_n]; first | assumption | rfl)) (by first | assumption | exact ix_nI (by omega) (by omega) | exact ix_of (by simp only [n_0, n_1, n_2, n_3, n_4, n_5, n_6, n_7, n_8, n_10, n_50, n_90, n_130, n_370, n_570, nI_add, pk_mul]; rfl) (by omega) (by omega)) ?_
            refine z_ald0 (n := 189) (by decide +kernel) ?_
            refine z_getf (n := 192) (idx := 7) (by decide +kernel) fl_X11_7 (by first | assumption | (simp (disch := omega) only [hu_s, hu_n]; first | assumption | rfl)) (by rfl) ?_
            refine z_ild9 (n := 194) (by decide +kernel) ?_
            refine z_iconst (n := 195) (q := 2) (v := 2) (by decide +kernel) ?_
            refine z_iadd (n := 196) (by decide +kernel) ?_
            refine z_iald (n := 197) (by decide +kernel) (by first | assumption | (simp (disch := omega) only [hu_s, hu_n]; first | assumption | rfl)) (by first | assumption | exact ix_nI (by omega) (by omega) | exact ix_of (by simp only [n_0, n_1, n_2, n_3, n_4, n_5, n_6, n_7, n_8, n_10, n_50, n_90, n_130, n_370, n_570, nI_add, pk_mul]; rfl) (by omega) (by omega)) ?_
            refine z_ald0 (n := 198) (by decide +kernel) ?_
            refine z_getf (n := 201) (idx := 7) (by decide +kernel) fl_X11_7 (by first | assumption | (simp (disch := omega) only [hu_s, hu_n]; first | assumption | rfl)) (by rfl) ?_
            refine z_bipush (n := 203) (q := 7) (v := 7) (by decide +kernel) ?_
            refine z_iald (n := 204) (by decide +kernel) (by first | assumption | (simp (disch := omega) only [hu_s, hu_n]; first | assumption | rfl)) (by first | assumption | exact ix_nI (by omega) (by omega) | exact ix_of (by simp only [n_0, n_1, n_2, n_3, n_4, n_5, n_6, n_7, n_8, n_10, n_50, n_90, n_130, n_370, n_570, nI_add, pk_mul]; rfl) (by omega) (by omega)) ?_
            refine z_icmp_lt (n := 207) (off := 13) (tgt := 217) (by decide +kernel) (fun c204 => ?_) (fun c204 => ?_)
            · refine z_inc7 (n := 220) (q := 1) (by decide +kernel) rfl (nI_1 _) ?_
              refine z_inc8 (n := 223) (q := 1) (by decide +kernel) rfl (nI_1 _) ?_
              refine z_goto (n := 226) (off := -167) (tgt := 56) (by decide +kernel) ?_
              first | exact z_wk (lv' := [some (.ref Q), some (.int x), some (.int (bI right)), none, none, none, some (.int w), some (.int (nI (s9))), some (.int (nI (u + 1 + 1))), none]) (by simp [wk]) (e2 c72) | exact z_wk (lv' := [some (.ref Q), some (.int x), some (.int (bI right)), none, none, none, some (.int w), some (.int (nI (s9 + 1))), some (.int (nI (u + 1 + 1))), none]) (by simp [wk]) (z_heap (by unfold fcS; simp only [c72, eq_false c108, eq_false c129, eq_true c204, if_true, if_false, hu_hu]) (e1 c72))
            · refine z_ald0 (n := 208) (by decide +kernel) ?_
              refine z_getf (n := 211) (idx := 7) (by decide +kernel) fl_X11_7 (by first | assumption | (simp (disch := omega) only [hu_s, hu_n]; first | assumption | rfl)) (by rfl) ?_
              refine z_ild9 (n := 213) (by decide +kernel) ?_
              refine z_iconst (n := 214) (q := 5) (v := 5) (by decide +kernel) ?_
              refine z_iadd (n := 215) (by decide +kernel) ?_
              refine z_iconst (n := 216) (q := 1) (v := 1) (by decide +kernel) ?_
              refine z_iast (n := 217) (by decide +kernel) (by first | assumption | (simp (disch := omega) only [hu_s, hu_n]; first | assumption | rfl)) (by first | assumption | exact ix_nI (by omega) (by omega) | exact ix_of (by simp only [n_0, n_1, n_2, n_3, n_4, n_5, n_6, n_7, n_8, n_10, n_50, n_90, n_130, n_370, n_570, nI_add, pk_mul]; rfl) (by omega) (by omega)) ?_
              refine z_inc7 (n := 220) (q := 1) (by decide +kernel) rfl (nI_1 _) ?_
              refine z_inc8 (n := 223) (q := 1) (by decide +kernel) rfl (nI_1 _) ?_
              refine z_goto (n := 226) (off := -167) (tgt := 56) (by decide +kernel) ?_
              first | exact z_wk (lv' := [some (.ref Q), some (.int x), some (.int (bI right)), none, none, none, some (.int w), some (.int (nI (s9))), some (.int (nI (u + 1 + 1))), none]) (by simp [wk]) (e2 c72) | exact z_wk (lv' := [some (.ref Q), some (.int x), some (.int (bI right)), none, none, none, some (.int w), some (.int (nI (s9 + 1))), some (.int (nI (u + 1 + 1))), none]) (by simp [wk]) (z_heap (by unfold fcS; simp only [c72, eq_false c108, eq_false c129, eq_false c204, if_true, if_false, hu_hu]) (e1 c72))
        · refine z_iconst (n := 112) (q := 1) (v := 1) (by decide +kernel) ?_
          refine z_goto (n := 115) (off := 4) (tgt := 116) (by decide +kernel) ?_
          refine z_iast (n := 117) (by decide +kernel) (by first | assumption | (simp (disch := omega) only [hu_s, hu_n]; first | assumption | rfl)) (by first | assumption | exact ix_nI (by omega) (by omega) | exact ix_of (by simp only [n_0, n_1, n_2, n_3, n_4, n_5, n_6, n_7, n_8, n_10, n_50, n_90, n_130, n_370, n_570, nI_add, pk_mul]; rfl) (by omega) (by omega)) ?_
          refine z_ald0 (n := 118) (by decide +kernel) ?_
          refine z_getf (n := 121) (idx := 7) (by decide +kernel) fl_X11_7 (by first | assumption | (simp (disch := omega) only [hu_s, hu_n]; first | assumption | rfl)) (by rfl) ?_
          refine z_ild9 (n := 123) (by decide +kernel) ?_
          refine z_iconst (n := 124) (q := 1) (v := 1) (by decide +kernel) ?_
          refine z_iadd (n := 125) (by decide +kernel) ?_
          refine z_iald (n := 126) (by decide +kernel) (by first | assumption | (simp (disch := omega) only [hu_s, hu_n]; first | assumption | rfl)) (by first | assumption | exact ix_nI (by omega) (by omega) | exact ix_of (by simp only [n_0, n_1, n_2, n_3, n_4, n_5, n_6, n_7, n_8, n_10, n_50, n_90, n_130, n_370, n_570, nI_add, pk_mul]; rfl) (by omega) (by omega)) ?_
          refine z_sipush (n := 129) (q := 300) (v := 300) (by decide +kernel) ?_
          refine z_icmp_ge (n := 132) (off := 15) (tgt := 144) (by decide +kernel) (fun c129 => ?_) (fun c129 => ?_)
          · refine z_ald0 (n := 145) (by decide +kernel) ?_
            refine z_getf (n := 148) (idx := 7) (by decide +kernel) fl_X11_7 (by first | assumption | (simp (disch := omega) only [hu_s, hu_n]; first | assumption | rfl)) (by rfl) ?_
            refine z_ild9 (n := 150) (by decide +kernel) ?_
            refine z_iconst (n := 151) (q := 2) (v := 2) (by decide +kernel) ?_
            refine z_iadd (n := 152) (by decide +kernel) ?_
            refine z_dup2 (n := 153) (by decide +kernel) rfl rfl ?_
            refine z_iald (n := 154) (by decide +kernel) (by first | assumption | (simp (disch := omega) only [hu_s, hu_n]; first | assumption | rfl)) (by first | assumption | exact ix_nI (by omega) (by omega) | exact ix_of (by simp only [n_0, n_1, n_2, n_3, n_4, n_5, n_6, n_7, n_8, n_10, n_50, n_90, n_130, n_370, n_570, nI_add, pk_mul]; rfl) (by omega) (by omega)) ?_
            refine z_ild6 (n := 156) (by decide +kernel) ?_
            refine z_iadd (n := 157) (by decide +kernel) ?_
            refine z_iast (n := 158) (by decide +kernel) (by first | assumption | (simp (disch := omega) only [hu_s, hu_n]; first | assumption | rfl)) (by first | assumption | exact ix_nI (by omega) (by omega) | exact ix_of (by simp only [n_0, n_1, n_2, n_3, n_4, n_5, n_6, n_7, n_8, n_10, n_50, n_90, n_130, n_370, n_570, nI_add, pk_mul]; rfl) (by omega) (by omega)) ?_
            refine z_ald0 (n := 159) (by decide +kernel) ?_
            refine z_getf (n := 162) (idx := 7) (by decide +kernel) fl_X11_7 (by first | assumption | (simp (disch := omega) only [hu_s, hu_n]; first | assumption | rfl)) (by rfl) ?_
            refine z_ild9 (n := 164) (by decide +kernel) ?_
            refine z_iconst (n := 165) (q := 3) (v := 3) (by decide +kernel) ?_
            refine z_iadd (n := 166) (by decide +kernel) ?_
            refine z_ald0 (n := 167) (by decide +kernel) ?_
            refine z_getf (n := 170) (idx := 7) (by decide +kernel) fl_X11_7 (by first | assumption | (simp (disch := omega) only [hu_s, hu_n]; first | assumption | rfl)) (by rfl) ?_
            refine z_iconst (n := 171) (q := 0) (v := 0) (by decide +kernel) ?_
            refine z_iald (n := 172) (by decide +kernel) (by first | assumption | (simp (disch := omega) only [hu_s, hu_n]; first | assumption | rfl)) (by first | assumption | exact ix_nI (by omega) (by omega) | exact ix_of (by simp only [n_0, n_1, n_2, n_3, n_4, n_5, n_6, n_7, n_8, n_10, n_50, n_90, n_130, n_370, n_570, nI_add, pk_mul]; rfl) (by omega) (by omega)) ?_
            refine z_iast (n := 173) (by decide +kernel) (by first | assumption | (simp (disch := omega) only [hu_s, hu_n]; first | assumption | rfl)) (by first | assumption | exact ix_nI (by omega) (by omega) | exact ix_of (by simp only [n_0, n_1, n_2, n_3, n_4, n_5, n_6, n_7, n_8, n_10, n_50, n_90, n_130, n_370, n_570, nI_add, pk_mul]; rfl) (by omega) (by omega)) ?_
            refine z_ald0 (n := 174) (by decide +kernel) ?_
            refine z_getf (n := 177) (idx := 7) (by decide +kernel) fl_X11_7 (by first | assumption | (simp (disch := omega) only [hu_s, hu_n]; first | assumption | rfl)) (by rfl) ?_
            refine z_ild9 (n := 179) (by decide +kernel) ?_
            refine z_iconst (n := 180) (q := 4) (v := 4) (by decide +kernel) ?_
            refine z_iadd (n := 181) (by decide +kernel) ?_
            refine z_ald0 (n := 182) (by decide +kernel) ?_
            refine z_getf (n := 185) (idx := 7) (by decide +kernel) fl_X11_7 (by first | assumption | (simp (disch := omega) only [hu_s, hu_n]; first | assumption | rfl)) (by rfl) ?_
            refine z_iconst (n := 186) (q := 1) (v := 1) (by decide +kernel) ?_
            refine z_iald (n := 187) (by decide +kernel) (by first | assumption | (simp (disch := omega) only [hu_s, hu_n]; first | assumption | rfl)) (by first | assumption | exact ix_nI (by omega) (by omega) | exact ix_of (by simp only [n_0, n_1, n_2, n_3, n_4, n_5, n_6, n_7, n_8, n_10, n_50, n_90, n_130, n_370, n_570, nI_add, pk_mul]; rfl) (by omega) (by omega)) ?_
            refine z_iast (n := 188) (by decide +kernel) (by first | assumption | (simp (disch := omega) only [hu_s, hu_n]; first | assumption | rfl)) (by first | assumption | exact ix_nI (by omega) (by omega) | exact ix_of (by simp only [n_0, n_1, n_2, n_3, n_4, n_5, n_6, n_7, n_8, n_10, n_50, n_90, n_130, n_370, n_570, nI_add, pk_mul]; rfl) (by omega) (by omega)) ?_
            refine z_ald0 (n := 189) (by decide +kernel) ?_
            refine z_getf (n := 192) (idx := 7) (by decide +kernel) fl_X11_7 (by first | assumption | (simp (disch := omega) only [hu_s, hu_n]; first | assumption | rfl)) (by rfl) ?_
            refine z_ild9 (n := 194) (by decide +kernel) ?_
            refine z_iconst (n := 195) (q := 2) (v := 2) (by decide +kernel) ?_
            refine z_iadd (n := 196) (by decide +kernel) ?_
            refine z_iald (n := 197) (by decide +kernel) (by first | assumption | (simp (disch := omega) only [hu_s, hu_n]; first | assumption | rfl)) (by first | assumption | exact ix_nI (by omega) (by omega) | exact ix_of (by simp only [n_0, n_1, n_2, n_3, n_4, n_5, n_6, n_7, n_8, n_10, n_50, n_90, n_130, n_370, n_570, nI_add, pk_mul]; rfl) (by omega) (by omega)) ?_
            refine z_ald0 (n := 198) (by decide +kernel) ?_
            refine z_getf (n := 201) (idx := 7) (by decide +kernel) fl_X11_7 (by first | assumption | (simp (disch := omega) only [hu_s, hu_n]; first | assumption | rfl)) (by rfl) ?_
            refine z_bipush (n := 203) (q := 7) (v := 7) (by decide +kernel) ?_
            refine z_iald (n := 204) (by decide +kernel) (by first | assumption | (simp (disch := omega) only [hu_s, hu_n]; first | assumption | rfl)) (by first | assumption | exact ix_nI (by omega) (by omega) | exact ix_of (by simp only [n_0, n_1, n_2, n_3, n_4, n_5, n_6, n_7, n_8, n_10, n_50, n_90, n_130, n_370, n_570, nI_add, pk_mul]; rfl) (by omega) (by omega)) ?_
            refine z_icmp_lt (n := 207) (off := 13) (tgt := 217) (by decide +kernel) (fun c204 => ?_) (fun c204 => ?_)
            · refine z_inc7 (n := 220) (q := 1) (by decide +kernel) rfl (nI_1 _) ?_
              refine z_inc8 (n := 223) (q := 1) (by decide +kernel) rfl (nI_1 _) ?_
              refine z_goto (n := 226) (off := -167) (tgt := 56) (by decide +kernel) ?_
              first | exact z_wk (lv' := [some (.ref Q), some (.int x), some (.int (bI right)), none, none, none, some (.int w), some (.int (nI (s9))), some (.int (nI (u + 1 + 1))), none]) (by simp [wk]) (e2 c72) | exact z_wk (lv' := [some (.ref Q), some (.int x), some (.int (bI right)), none, none, none, some (.int w), some (.int (nI (s9 + 1))), some (.int (nI (u + 1 + 1))), none]) (by simp [wk]) (z_heap (by unfold fcS; simp only [c72, eq_true c108, eq_true c129, eq_true c204, if_true, if_false, hu_hu]) (e1 c72))
            · refine z_ald0 (n := 208) (by decide +kernel) ?_
              refine z_getf (n := 211) (idx := 7) (by decide +kernel) fl_X11_7 (by first | assumption | (simp (disch := omega) only [hu_s, hu_n]; first | assumption | rfl)) (by rfl) ?_
              refine z_ild9 (n := 213) (by decide +kernel) ?_
              refine z_iconst (n := 214) (q := 5) (v := 5) (by decide +kernel) ?_
              refine z_iadd (n := 215) (by decide +kernel) ?_
              refine z_iconst (n := 216) (q := 1) (v := 1) (by decide +kernel) ?_
              refine z_iast (n := 217) (by decide +kernel) (by first | assumption | (simp (disch := omega) only [hu_s, hu_n]; first | assumption | rfl)) (by first | assumption | exact ix_nI (by omega) (by omega) | exact ix_of (by simp only [n_0, n_1, n_2, n_3, n_4, n_5, n_6, n_7, n_8, n_10, n_50, n_90, n_130, n_370, n_570, nI_add, pk_mul]; rfl) (by omega) (by omega)) ?_
              refine z_inc7 (n := 220) (q := 1) (by decide +kernel) rfl (nI_1 _) ?_
              refine z_inc8 (n := 223) (q := 1) (by decide +kernel) rfl (nI_1 _) ?_
              refine z_goto (n := 226) (off := -167) (tgt := 56) (by decide +kernel) ?_
              first | exact z_wk (lv' := [some (.ref Q), some (.int x), some (.int (bI right)), none, none, none, some (.int w), some (.int (nI (s9))), some (.int (nI (u + 1 + 1))), none]) (by simp [wk]) (e2 c72) | exact z_wk (lv' := [some (.ref Q), some (.int x), some (.int (bI right)), none, none, none, some (.int w), some (.int (nI (s9 + 1))), some (.int (nI (u + 1 + 1))), none]) (by simp [wk]) (z_heap (by unfold fcS; simp only [c72, eq_true c108, eq_true c129, eq_false c204, if_true, if_false, hu_hu]) (e1 c72))
          · refine z_ald0 (n := 133) (by decide +kernel) ?_
            refine z_getf (n := 136) (idx := 7) (by decide +kernel) fl_X11_7 (by first | assumption | (simp (disch := omega) only [hu_s, hu_n]; first | assumption | rfl)) (by rfl) ?_
            refine z_ild9 (n := 138) (by decide +kernel) ?_
            refine z_iconst (n := 139) (q := 1) (v := 1) (by decide +kernel) ?_
            refine z_iadd (n := 140) (by decide +kernel) ?_
            refine z_sipush (n := 143) (q := 300) (v := 300) (by decide +kernel) ?_
            refine z_iast (n := 144) (by decide +kernel) (by first | assumption | (simp (disch := omega) only [hu_s, hu_n]; first | assumption | rfl)) (by first | assumption | exact ix_nI (by omega) (by omega) | exact ix_of (by simp only [n_0, n_1, n_2, n_3, n_4, n_5, n_6, n_7, n_8, n_10, n_50, n_90, n_130, n_370, n_570, nI_add, pk_mul]; rfl) (by omega) (by omega)) ?_
            refine z_ald0 (n := 145) (by decide +kernel) ?_
            refine z_getf (n := 148) (idx := 7) (by decide +kernel) fl_X11_7 (by first | assumption | (simp (disch := omega) only [hu_s, hu_n]; first | assumption | rfl)) (by rfl) ?_
            refine z_ild9 (n := 150) (by decide +kernel) ?_
            refine z_iconst (n := 151) (q := 2) (v := 2) (by decide +kernel) ?_
            refine z_iadd (n := 152) (by decide +kernel) ?_
            refine z_dup2 (n := 153) (by decide +kernel) rfl rfl ?_
            refine z_iald (n := 154) (by decide +kernel) (by first | assumption | (simp (disch := omega) only [hu_s, hu_n]; first | assumption | rfl)) (by first | assumption | exact ix_nI (by omega) (by omega) | exact ix_of (by simp only [n_0, n_1, n_2, n_3, n_4, n_5, n_6, n_7, n_8, n_10, n_50, n_90, n_130, n_370, n_570, nI_add, pk_mul]; rfl) (by omega) (by omega)) ?_
            refine z_ild6 (n := 156) (by decide +kernel) ?_
            refine z_iadd (n := 157) (by decide +kernel) ?_
            refine z_iast (n := 158) (by decide +kernel) (by first | assumption | (simp (disch := omega) only [hu_s, hu_n]; first | assumption | rfl)) (by first | assumption | exact ix_nI (by omega) (by omega) | exact ix_of (by simp only [n_0, n_1, n_2, n_3, n_4, n_5, n_6, n_7, n_8, n_10, n_50, n_90, n_130, n_370, n_570, nI_add, pk_mul]; rfl) (by omega) (by omega)) ?_
            refine z_ald0 (n := 159) (by decide +kernel) ?_
            refine z_getf (n := 162) (idx := 7) (by decide +kernel) fl_X11_7 (by first | assumption | (simp (disch := omega) only [hu_s, hu_n]; first | assumption | rfl)) (by rfl) ?_
            refine z_ild9 (n := 164) (by decide +kernel) ?_
            refine z_iconst (n := 165) (q := 3) (v := 3) (by decide +kernel) ?_
            refine z_iadd (n := 166) (by decide +kernel) ?_
            refine z_ald0 (n := 167) (by decide +kernel) ?_
            refine z_getf (n := 170) (idx := 7) (by decide +kernel) fl_X11_7 (by first | assumption | (simp (disch := omega) only [hu_s, hu_n]; first | assumption | rfl)) (by rfl) ?_
            refine z_iconst (n := 171) (q := 0) (v := 0) (by decide +kernel) ?_
            refine z_iald (n := 172) (by decide +kernel) (by first | assumption | (simp (disch := omega) only [hu_s, hu_n]; first | assumption | rfl)) (by first | assumption | exact ix_nI (by omega) (by omega) | exact ix_of (by simp only [n_0, n_1, n_2, n_3, n_4, n_5, n_6, n_7, n_8, n_10, n_50, n_90, n_130, n_370, n_570, nI_add, pk_mul]; rfl) (by omega) (by omega)) ?_
            refine z_iast (n := 173) (by decide +kernel) (by first | assumption | (simp (disch := omega) only [hu_s, hu_n]; first | assumption | rfl)) (by first | assumption | exact ix_nI (by omega) (by omega) | exact ix_of (by simp only [n_0, n_1, n_2, n_3, n_4, n_5, n_6, n_7, n_8, n_10, n_50, n_90, n_130, n_370, n_570, nI_add, pk_mul]; rfl) (by omega) (by omega)) ?_
            refine z_ald0 (n := 174) (by decide +kernel) ?_
            refine z_getf (n := 177) (idx := 7) (by decide +kernel) fl_X11_7 (by first | assumption | (simp (disch := omega) only [hu_s, hu_n]; first | assumption | rfl)) (by rfl) ?_
            refine z_ild9 (n := 179) (by decide +kernel) ?_
            refine z_iconst (n := 180) (q := 4) (v := 4) (by decide +kernel) ?_
            refine z_iadd (n := 181) (by decide +kernel) ?_
            refine z_ald0 (n := 182) (by decide +kernel) ?_
            refine z_getf (n := 185) (idx := 7) (by decide +kernel) fl_X11_7 (by first | assumption | (simp (disch := omega) only [hu_s, hu_n]; first | assumption | rfl)) (by rfl) ?_
            refine z_iconst (n := 186) (q := 1) (v := 1) (by decide +kernel) ?_
            refine z_iald (n := 187) (by decide +kernel) (by first | assumption | (simp (disch := omega) only [hu_s, hu_n]; first | assumption | rfl)) (by first | assumption | exact ix_nI (by omega) (by omega) | exact ix_of (by simp only [n_0, n_1, n_2, n_3, n_4, n_5, n_6, n_7, n_8, n_10, n_50, n_90, n_130, n_370, n_570, nI_add, pk_mul]; rfl) (by omega) (by omega)) ?_
            refine z_iast (n := 188) (by decide +kernel) (by first | assumption | (simp (disch := omega) only [hu_s, hu_n]; first | assumption | rfl)) (by first | assumption | exact ix_nI (by omega) (by omega) | exact ix_of (by simp only [n_0, n_1, n_2, n_3, n_4, n_5, n_6, n_7, n_8, n_10, n_50, n_90, n_130, n_370, n_570, nI_add, pk_mul]; rfl) (by omega) (by omega)) ?_
            refine z_ald0 (n := 189) (by decide +kernel) ?_
            refine z_getf (n := 192) (idx := 7) (by decide +kernel) fl_X11_7 (by first | assumption | (simp (disch := omega) only [hu_s, hu_n]; first | assumption | rfl)) (by rfl) ?_
            refine z_ild9 (n := 194) (by decide +kernel) ?_
            refine z_iconst (n := 195) (q := 2) (v := 2) (by decide +kernel) ?_
            refine z_iadd (n := 196) (by decide +kernel) ?_
            refine z_iald (n := 197) (by decide +kernel) (by first | assumption | (simp (disch := omega) only [hu_s, hu_n]; first | assumption | rfl)) (by first | assumption | exact ix_nI (by omega) (by omega) | exact ix_of (by simp only [n_0, n_1, n_2, n_3, n_4, n_5, n_6, n_7, n_8, n_10, n_50, n_90, n_130, n_370, n_570, nI_add, pk_mul]; rfl) (by omega) (by omega)) ?_
            refine z_ald0 (n := 198) (by decide +kernel) ?_
            refine z_getf (n := 201) (idx := 7) (by decide +kernel) fl_X11_7 (by first | assumption | (simp (disch := omega) only [hu_s, hu_n]; first | assumption | rfl)) (by rfl) ?_
            refine z_bipush (n := 203) (q := 7) (v := 7) (by decide +kernel) ?_
            refine z_iald (n := 204) (by decide +kernel) (by first | assumption | (simp (disch := omega) only [hu_s, hu_n]; first | assumption | rfl)) (by first | assumption | exact ix_nI (by omega) (by omega) | exact ix_of (by simp only [n_0, n_1, n_2, n_3, n_4, n_5, n_6, n_7, n_8, n_10, n_50, n_90, n_130, n_370, n_570, nI_add, pk_mul]; rfl) (by omega) (by omega)) ?_
            refine z_icmp_lt (n := 207) (off := 13) (tgt := 217) (by decide +kernel) (fun c204 => ?_) (fun c204 => ?_)
            · refine z_inc7 (n := 220) (q := 1) (by decide +kernel) rfl (nI_1 _) ?_
              refine z_inc8 (n := 223) (q := 1) (by decide +kernel) rfl (nI_1 _) ?_
              refine z_goto (n := 226) (off := -167) (tgt := 56) (by decide +kernel) ?_
              first | exact z_wk (lv' := [some (.ref Q), some (.int x), some (.int (bI right)), none, none, none, some (.int w), some (.int (nI (s9))), some (.int (nI (u + 1 + 1))), none]) (by simp [wk]) (e2 c72) | exact z_wk (lv' := [some (.ref Q), some (.int x), some (.int (bI right)), none, none, none, some (.int w), some (.int (nI (s9 + 1))), some (.int (nI (u + 1 + 1))), none]) (by simp [wk]) (z_heap (by unfold fcS; simp only [c72, eq_true c108, eq_false c129, eq_true c204, if_true, if_false, hu_hu]) (e1 c72))
            · refine z_ald0 (n := 208) (by decide +kernel) ?_
              refine z_getf (n := 211) (idx := 7) (by decide +kernel) fl_X11_7 (by first | assumption | (simp (disch := omega) only [hu_s, hu_n]; first | assumption | rfl)) (by rfl) ?_
              refine z_ild9 (n := 213) (by decide +kernel) ?_
              refine z_iconst (n := 214) (q := 5) (v := 5) (by decide +kernel) ?_
              refine z_iadd (n := 215) (by decide +kernel) ?_
              refine z_iconst (n := 216) (q := 1) (v := 1) (by decide +kernel) ?_
              refine z_iast (n := 217) (by decide +kernel) (by first | assumption | (simp (disch := omega) only [hu_s, hu_n]; first | assumption | rfl)) (by first | assumption | exact ix_nI (by omega) (by omega) | exact ix_of (by simp only [n_0, n_1, n_2, n_3, n_4, n_5, n_6, n_7, n_8, n_10, n_50, n_90, n_130, n_370, n_570, nI_add, pk_mul]; rfl) (by omega) (by omega)) ?_
              refine z_inc7 (n := 220) (q := 1) (by decide +kernel) rfl (nI_1 _) ?_
              refine z_inc8 (n := 223) (q := 1) (by decide +kernel) rfl (nI_1 _) ?_
              refine z_goto (n := 226) (off := -167) (tgt := 56) (by decide +kernel) ?_
              first | exact z_wk (lv' := [some (.ref Q), some (.int x), some (.int (bI right)), none, none, none, some (.int w), some (.int (nI (s9))), some (.int (nI (u + 1 + 1))), none]) (by simp [wk]) (e2 c72) | exact z_wk (lv' := [some (.ref Q), some (.int x), some (.int (bI right)), none, none, none, some (.int w), some (.int (nI (s9 + 1))), some (.int (nI (u + 1 + 1))), none]) (by simp [wk]) (z_heap (by unfold fcS; simp only [c72, eq_true c108, eq_false c129, eq_false c204, if_true, if_false, hu_hu]) (e1 c72))
      · refine z_goto (n := 78) (off := 145) (tgt := 220) (by decide +kernel) ?_
        refine z_inc8 (n := 223) (q := 1) (by decide +kernel) rfl (nI_1 _) ?_
        refine z_goto (n := 226) (off := -167) (tgt := 56) (by decide +kernel) ?_
        first | exact z_wk (lv' := [some (.ref Q), some (.int x), some (.int (bI right)), none, none, none, some (.int w), some (.int (nI (s9))), some (.int (nI (u + 1 + 1))), none]) (by simp [wk]) (e2 c72) | exact z_wk (lv' := [some (.ref Q), some (.int x), some (.int (bI right)), none, none, none, some (.int w), some (.int (nI (s9 + 1))), some (.int (nI (u + 1 + 1))), none]) (by simp [wk]) (z_heap (by unfold fcS; simp only [c72, if_true, if_false, hu_hu]) (e1 c72))
  refine ev_3_7 rfl rfl rfl (by decide +kernel) (by decide +kernel) ?_
  have fin : ¬ agF n x right a < 0 → Z G m_X11_fold d 0 0 0 0 13 [some (.ref Q), some (.int x), some (.int (bI right)), none, none, none, none, none, none, none] [] h (RE (some (.int (if agF n x right a < 0 then agF n x right a else nI (cnb (fun j => crs (fun u => a (10 + u)) j x) n)))) (if agF n x right a < 0 then h else hu (hu h (Q + 3) (aI 40 (flL n x right a l))) (Q + 1) (aI 600 (fldA n x right a l)))) := by
    intro q
    rw [if_neg q, if_neg q]
    refine z_ald0 (n := 14) (by decide +kernel) ?_
    refine z_ild1 (n := 15) (by decide +kernel) ?_
    refine z_iconst (n := 16) (q := 1) (v := 1) (by decide +kernel) ?_
    refine z_isub (n := 17) (by decide +kernel) ?_
    refine z_v1 (n := 20) (idx := 102) (by decide +kernel) ml_X11_102 (by first | assumption | (simp (disch := omega) only [hu_s, hu_n]; first | assumption | rfl)) rfl (Nat.le_of_ble_eq_true rfl) (by omega) ⟨Nat.le_refl _, Nat.le_refl _⟩ (m_layers (n := n) 0 hQ hA hn) ?_
    refine z_ist4 (n := 22) (by decide +kernel) rfl ?_
    refine z_ald0 (n := 23) (by decide +kernel) ?_
    refine z_ild1 (n := 24) (by decide +kernel) ?_
    refine z_v1 (n := 27) (idx := 102) (by decide +kernel) ml_X11_102 (by first | assumption | (simp (disch := omega) only [hu_s, hu_n]; first | assumption | rfl)) rfl (Nat.le_of_ble_eq_true rfl) (by omega) ⟨Nat.le_refl _, Nat.le_refl _⟩ (m_layers (n := n) 0 hQ hA hn) ?_
    refine z_ist5 (n := 29) (by decide +kernel) rfl ?_
    refine z_iconst (n := 30) (q := 1) (v := 1) (by decide +kernel) ?_
    refine z_ild4 (n := 32) (by decide +kernel) ?_
    refine z_ild5 (n := 34) (by decide +kernel) ?_
    refine z_icmp_le (n := 37) (off := 8) (tgt := 42) (by decide +kernel) (fun c34 => ?_) (fun c34 => ?_)
    · refine z_ild5 (n := 44) (by decide +kernel) ?_
      refine z_bipush (n := 46) (q := 8) (v := 8) (by decide +kernel) ?_
      refine z_idiv (n := 47) (by decide +kernel) (by decide) ?_
      refine z_iadd (n := 48) (by decide +kernel) ?_
      refine z_ist6 (n := 50) (by decide +kernel) rfl ?_
      refine z_iconst (n := 51) (q := 0) (v := 0) (by decide +kernel) ?_
      refine z_ist7 (n := 53) (by decide +kernel) rfl ?_
      refine z_iconst (n := 54) (q := 1) (v := 1) (by decide +kernel) ?_
      refine z_ist8 (n := 56) (by decide +kernel) rfl ?_
      first | exact z_wk (lv' := [some (.ref Q), some (.int x), some (.int (bI right)), none, none, none, some (.int (1 + nI (cnt (fun u => a (10 + u)) (x) (n + 1)) / 8)), some (.int (nI 0)), some (.int (nI 1)), none]) (by simp [wk]; constructor <;> rfl) (L1 _ (by unfold wrA; rw [if_pos c34])) | exact z_wk (lv' := [some (.ref Q), some (.int x), some (.int (bI right)), none, none, none, some (.int (1 + nI (cnt (fun u => a (10 + u)) (x - 1) (n + 1)) / 8)), some (.int (nI 0)), some (.int (nI 1)), none]) (by simp [wk]; constructor <;> rfl) (L1 _ (by unfold wrA; rw [if_neg c34]))
    · refine z_ild4 (n := 39) (by decide +kernel) ?_
      refine z_goto (n := 42) (off := 5) (tgt := 44) (by decide +kernel) ?_
      refine z_bipush (n := 46) (q := 8) (v := 8) (by decide +kernel) ?_
      refine z_idiv (n := 47) (by decide +kernel) (by decide) ?_
      refine z_iadd (n := 48) (by decide +kernel) ?_
      refine z_ist6 (n := 50) (by decide +kernel) rfl ?_
      refine z_iconst (n := 51) (q := 0) (v := 0) (by decide +kernel) ?_
      refine z_ist7 (n := 53) (by decide +kernel) rfl ?_
      refine z_iconst (n := 54) (q := 1) (v := 1) (by decide +kernel) ?_
      refine z_ist8 (n := 56) (by decide +kernel) rfl ?_
      first | exact z_wk (lv' := [some (.ref Q), some (.int x), some (.int (bI right)), none, none, none, some (.int (1 + nI (cnt (fun u => a (10 + u)) (x) (n + 1)) / 8)), some (.int (nI 0)), some (.int (nI 1)), none]) (by simp [wk]; constructor <;> rfl) (L1 _ (by unfold wrA; rw [if_pos c34])) | exact z_wk (lv' := [some (.ref Q), some (.int x), some (.int (bI right)), none, none, none, some (.int (1 + nI (cnt (fun u => a (10 + u)) (x - 1) (n + 1)) / 8)), some (.int (nI 0)), some (.int (nI 1)), none]) (by simp [wk]; constructor <;> rfl) (L1 _ (by unfold wrA; rw [if_neg c34]))
  refine z_ald0 (n := 1) (by decide +kernel) ?_
  refine z_ild1 (n := 2) (by decide +kernel) ?_
  refine z_ild2 (n := 3) (by decide +kernel) ?_
  refine z_v2 (n := 6) (idx := 98) (by decide +kernel) ml_X11_98 (by first | assumption | (simp (disch := omega) only [hu_s, hu_n]; first | assumption | rfl)) rfl (Nat.le_of_ble_eq_true rfl) (by omega) ⟨Nat.le_refl _, Nat.le_refl _⟩ (m_against (n := n) 1 (by omega) hQ hA hn) ?_
  refine z_ist3 (n := 7) (by decide +kernel) rfl ?_
  refine z_ild3 (n := 8) (by decide +kernel) ?_
  refine z_if_ge (n := 11) (off := 5) (tgt := 13) (by decide +kernel) (fun c8 => ?_) (fun c8 => ?_)
  · exact z_wk (lv' := [some (.ref Q), some (.int x), some (.int (bI right)), none, none, none, none, none, none, none]) (by simp [wk]) (fin (Int32.not_lt.mpr c8))
  · refine z_ild3 (n := 12) (by decide +kernel) ?_
    refine z_iret (by decide +kernel) rfl (Nat.le_refl _) ?_
    exact ⟨by rw [if_pos (Int32.not_le.mp c8)], by rw [if_pos (Int32.not_le.mp c8)]⟩
theorem m_crease {G : mG} {h : mH} {Q n : Nat} {m : Nat → Int32} {wd : Int64} {a : Nat → Int32} {x w : Int32} (d : Nat) (hd : 1 ≤ d) (hQ : h Q = oMod Q (nI (n + 1)) m wd) (hA : h (Q + 1) = aI 600 a) (hn : n + 1 ≤ 40) : EV G m_X11_crease d 0 0 [.ref Q, .int x, .int w] h (RE (some (.int (if win x 1 (nI n) = true then (if win w 0 6 = true then (if w = 6 then bI (decide (a (10 + (x.toNatClampNeg - 1)) = a (10 + (x.toNatClampNeg - 1 + 1)))) else a (130 + 6 * x.toNatClampNeg + w.toNatClampNeg)) else -1) else -1))) h) := by
  have fin : win x 1 (nI n) = true → win w 0 6 = true → Z G m_X11_crease d 0 0 0 0 26 [some (.ref Q), some (.int x), some (.int w)] [] h (RE (some (.int (if win x 1 (nI n) = true then (if win w 0 6 = true then (if w = 6 then bI (decide (a (10 + (x.toNatClampNeg - 1)) = a (10 + (x.toNatClampNeg - 1 + 1)))) else a (130 + 6 * x.toNatClampNeg + w.toNatClampNeg)) else -1) else -1))) h) := by
    intro hx hw
    rw [if_pos hx, if_pos hw]
    obtain ⟨u, hu9, rfl⟩ := win1_nat (by omega) hx
    obtain ⟨v, hv9, rfl⟩ := win_nat (m := 6) (by omega) hw
    rw [nI_clamp (by omega), nI_clamp (by omega)]
    refine z_ild2 (n := 27) (by decide +kernel) ?_
    refine z_bipush (n := 29) (q := 6) (v := 6) (by decide +kernel) ?_
    refine z_icmp_ne (n := 32) (off := 19) (tgt := 48) (by decide +kernel) (fun c29 => ?_) (fun c29 => ?_)
    · refine z_ald0 (n := 49) (by decide +kernel) ?_
      refine z_getf (n := 52) (idx := 7) (by decide +kernel) fl_X11_7 (by assumption) (by rfl) ?_
      refine z_sipush (n := 55) (q := 130) (v := 130) (by decide +kernel) ?_
      refine z_bipush (n := 57) (q := 6) (v := 6) (by decide +kernel) ?_
      refine z_ild1 (n := 58) (by decide +kernel) ?_
      refine z_imul (n := 59) (by decide +kernel) ?_
      refine z_iadd (n := 60) (by decide +kernel) ?_
      refine z_ild2 (n := 61) (by decide +kernel) ?_
      refine z_iadd (n := 62) (by decide +kernel) ?_
      refine z_iald (n := 63) (by decide +kernel) (by assumption) (by first | assumption | exact ix_nI (by omega) (by omega) | exact ix_of (by simp only [n_0, n_1, n_2, n_3, n_4, n_5, n_6, n_7, n_8, n_10, n_50, n_90, n_130, n_370, n_570, nI_add, pk_mul]; rfl) (by omega) (by omega)) ?_
      refine z_iret (by decide +kernel) rfl (Nat.le_refl _) ?_
      exact ⟨by first | (rw [if_pos c29]; simp only [Nat.add_sub_cancel]; rw [c37]; rfl) | (rw [if_neg c29]), rfl⟩
    · refine z_ald0 (n := 33) (by decide +kernel) ?_
      refine z_ild1 (n := 34) (by decide +kernel) ?_
      refine z_v1 (n := 37) (idx := 85) (by decide +kernel) ml_X11_85 (by assumption) rfl (Nat.le_of_ble_eq_true rfl) (by omega) ⟨Nat.le_refl _, Nat.le_refl _⟩ (m_isFolded (n := n) (u := u) 0 (by omega) hQ hA hn) ?_
      refine z_ifb_eq (n := 40) (off := 7) (tgt := 44) (by decide +kernel) (fun c37 => ?_) (fun c37 => ?_)
      · refine z_iconst (n := 45) (q := 0) (v := 0) (by decide +kernel) ?_
        refine z_goto (n := 48) (off := 18) (tgt := 63) (by decide +kernel) ?_
        refine z_iret (by decide +kernel) rfl (Nat.le_refl _) ?_
        exact ⟨by first | (rw [if_pos c29]; simp only [Nat.add_sub_cancel]; rw [c37]; rfl) | (rw [if_neg c29]), rfl⟩
      · refine z_iconst (n := 41) (q := 1) (v := 1) (by decide +kernel) ?_
        refine z_goto (n := 44) (off := 22) (tgt := 63) (by decide +kernel) ?_
        refine z_iret (by decide +kernel) rfl (Nat.le_refl _) ?_
        exact ⟨by first | (rw [if_pos c29]; simp only [Nat.add_sub_cancel]; rw [c37]; rfl) | (rw [if_neg c29]), rfl⟩
  refine ev_3_0 rfl rfl rfl (by decide +kernel) (by decide +kernel) ?_
  refine z_ild1 (n := 1) (by decide +kernel) ?_
  refine z_iconst (n := 2) (q := 1) (v := 1) (by decide +kernel) ?_
  refine z_ald0 (n := 3) (by decide +kernel) ?_
  refine z_getf (n := 6) (idx := 71) (by decide +kernel) fl_X11_71 (by assumption) (by rfl) ?_
  refine z_iconst (n := 7) (q := 1) (v := 1) (by decide +kernel) ?_
  refine z_isub (n := 8) (by decide +kernel) ?_
  refine z_top (nI_pred n) ?_
  refine z_s3 (n := 11) (idx := 81) (by decide +kernel) ml_X11_81 (Nat.le_of_ble_eq_true rfl) (by omega) ⟨Nat.le_refl _, Nat.le_refl _⟩ (m_isIn 0) ?_
  refine z_ifb_eq (n := 14) (off := 13) (tgt := 24) (by decide +kernel) (fun c11 => ?_) (fun c11 => ?_)
  · refine z_iconst (n := 25) (q := -1) (v := -1) (by decide +kernel) ?_
    refine z_iret (by decide +kernel) rfl (Nat.le_refl _) ?_
    exact ⟨by simp only [c11, if_true, if_false]; try rfl, rfl⟩
  · refine z_ild2 (n := 15) (by decide +kernel) ?_
    refine z_iconst (n := 16) (q := 0) (v := 0) (by decide +kernel) ?_
    refine z_bipush (n := 18) (q := 6) (v := 6) (by decide +kernel) ?_
    refine z_s3 (n := 21) (idx := 81) (by decide +kernel) ml_X11_81 (Nat.le_of_ble_eq_true rfl) (by omega) ⟨Nat.le_refl _, Nat.le_refl _⟩ (m_isIn 0) ?_
    refine z_ifb_ne (n := 24) (off := 5) (tgt := 26) (by decide +kernel) (fun c21 => ?_) (fun c21 => ?_)
    · exact fin c11 c21
    · refine z_iconst (n := 25) (q := -1) (v := -1) (by decide +kernel) ?_
      refine z_iret (by decide +kernel) rfl (Nat.le_refl _) ?_
      exact ⟨by simp only [c11, c21, if_true, if_false]; try rfl, rfl⟩
