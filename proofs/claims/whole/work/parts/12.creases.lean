/-! Creases -/
def oCre (C : Nat) : mE := oB 0 [.ref (C + 1), .ref (C + 2), .ref (C + 3), .ref (C + 4), .ref (C + 5), .ref (C + 6)]
/-- how many of the first n hold -/
def cnb (b : Nat → Bool) : Nat → Nat
  | 0 => 0
  | n + 1 => cnb b n + (if b n then 1 else 0)
theorem cnb_le (b : Nat → Bool) : ∀ n, cnb b n ≤ n
  | 0 => Nat.le_refl 0
  | n + 1 => by
    have := cnb_le b n
    unfold cnb
    split <;> omega
def itr (f : Int32 → Int32) : Nat → Int32 → Int32
  | 0, r => r
  | n + 1, r => f (itr f n r)
theorem itr_fix {f : Int32 → Int32} {i : Nat} {r : Int32} (hf : f (itr f i r) = itr f i r) : ∀ t, i ≤ t → itr f t r = itr f i r := by
  intro t ht
  obtain ⟨m, rfl⟩ : ∃ m, t = i + m := ⟨t - i, by omega⟩
  clear ht
  induction m with
  | zero => rfl
  | succ m ih =>
    show f (itr f (i + m) r) = _
    rw [ih, hf]
def crF (c r : Int32) : Int32 := r + (1800 - r) * c / 1000
def esF (c r : Int32) : Int32 := r - r * c / 1000
def mx3 (r : Int32) : Int32 := if r < 300 then 300 else r
theorem upd_upd (f : Nat → Int32) (k : Nat) (x y : Int32) : upd (upd f k x) k y = upd f k y := by
  funext j
  by_cases e : j = k <;> simp [upd, e]
theorem upd_self (f : Nat → Int32) (k : Nat) : upd f k (f k) = f := by
  funext j
  by_cases e : j = k
  · subst e; simp [upd]
  · simp [upd, e]
theorem k_press {G : mG} {h : mH} {C N p : Nat} {sn mw sg : Int32} {si rs wr : Nat → Int32} {tn : Nat → Bool} (d : Nat) (hd : 1 ≤ d) (hC : h C = oCre C) (h1 : h (C + 1) = aI N si) (h2 : h (C + 2) = aI N rs) (h3 : h (C + 3) = aI N wr) (h6 : h (C + 6) = aZ N tn) (hp : p < N) (hN : N < 2 ^ 31) : EV G m_X0_press d 0 0 [.ref C, .int (nI p), .int sn, .int mw, .int sg] h (RE none (hu (hu (hu (hu h (C + 1) (aI N (upd si p sn))) (C + 2) (aI N (upd rs p (mx3 (rs p))))) (C + 3) (aI N (upd wr p (wr p + mw)))) (C + 6) (aZ N (if wr p + mw < sg then tn else updB tn p true)))) := by
  refine ev_5_0 rfl rfl rfl rfl rfl (by decide +kernel) (by decide +kernel) ?_
  refine z_ald0 (n := 1) (by decide +kernel) ?_
  refine z_getf (n := 4) (idx := 9) (by decide +kernel) fl_X0_9 (by first | assumption | (simp (disch := omega) only [hu_s, hu_n]; first | assumption | rfl)) (by rfl) ?_
  refine z_ild1 (n := 5) (by decide +kernel) ?_
  refine z_ild2 (n := 6) (by decide +kernel) ?_
  refine z_iast (n := 7) (by decide +kernel) (by first | assumption | (simp (disch := omega) only [hu_s, hu_n]; first | assumption | rfl)) (by first | assumption | exact ix_nI (by omega) (by omega)) ?_
  refine z_ald0 (n := 8) (by decide +kernel) ?_
  refine z_getf (n := 11) (idx := 15) (by decide +kernel) fl_X0_15 (by first | assumption | (simp (disch := omega) only [hu_s, hu_n]; first | assumption | rfl)) (by rfl) ?_
  refine z_ild1 (n := 12) (by decide +kernel) ?_
  refine z_ald0 (n := 13) (by decide +kernel) ?_
  refine z_getf (n := 16) (idx := 15) (by decide +kernel) fl_X0_15 (by first | assumption | (simp (disch := omega) only [hu_s, hu_n]; first | assumption | rfl)) (by rfl) ?_
  refine z_ild1 (n := 17) (by decide +kernel) ?_
  refine z_iald (n := 18) (by decide +kernel) (by first | assumption | (simp (disch := omega) only [hu_s, hu_n]; first | assumption | rfl)) (by first | assumption | exact ix_nI (by omega) (by omega)) ?_
  refine z_sipush (n := 21) (q := 300) (v := 300) (by decide +kernel) ?_
  refine z_mmax (n := 24) (idx := 43) (by decide +kernel) jl_X0_43 (Nat.le_of_ble_eq_true rfl) (by omega) (Nat.le_refl _) (Nat.le_refl _) ?_
  refine z_iast (n := 25) (by decide +kernel) (by first | assumption | (simp (disch := omega) only [hu_s, hu_n]; first | assumption | rfl)) (by first | assumption | exact ix_nI (by omega) (by omega)) ?_
  refine z_ald0 (n := 26) (by decide +kernel) ?_
  refine z_getf (n := 29) (idx := 18) (by decide +kernel) fl_X0_18 (by first | assumption | (simp (disch := omega) only [hu_s, hu_n]; first | assumption | rfl)) (by rfl) ?_
  refine z_ild1 (n := 30) (by decide +kernel) ?_
  refine z_dup2 (n := 31) (by decide +kernel) rfl rfl ?_
  refine z_iald (n := 32) (by decide +kernel) (by first | assumption | (simp (disch := omega) only [hu_s, hu_n]; first | assumption | rfl)) (by first | assumption | exact ix_nI (by omega) (by omega)) ?_
  refine z_ild3 (n := 33) (by decide +kernel) ?_
  refine z_iadd (n := 34) (by decide +kernel) ?_
  refine z_iast (n := 35) (by decide +kernel) (by first | assumption | (simp (disch := omega) only [hu_s, hu_n]; first | assumption | rfl)) (by first | assumption | exact ix_nI (by omega) (by omega)) ?_
  refine z_ald0 (n := 36) (by decide +kernel) ?_
  refine z_getf (n := 39) (idx := 18) (by decide +kernel) fl_X0_18 (by first | assumption | (simp (disch := omega) only [hu_s, hu_n]; first | assumption | rfl)) (by rfl) ?_
  refine z_ild1 (n := 40) (by decide +kernel) ?_
  refine z_iald (n := 41) (by decide +kernel) (by first | assumption | (simp (disch := omega) only [hu_s, hu_n]; first | assumption | rfl)) (by first | assumption | exact ix_nI (by omega) (by omega)) ?_
  refine z_top pk_us ?_
  refine z_ild4 (n := 43) (by decide +kernel) ?_
  refine z_icmp_lt (n := 46) (off := 10) (tgt := 53) (by decide +kernel) (fun c43 => ?_) (fun c43 => ?_)
  · refine z_vret (by decide +kernel) rfl (Nat.le_refl _) ?_
    exact ⟨rfl, by simp only [eq_true c43, if_true, if_false]; first | rfl | (rw [hu_self (i := C + 6)]; rfl; simp (disch := omega) only [hu_n]; assumption)⟩
  · refine z_ald0 (n := 47) (by decide +kernel) ?_
    refine z_getf (n := 50) (idx := 27) (by decide +kernel) fl_X0_27 (by first | assumption | (simp (disch := omega) only [hu_s, hu_n]; first | assumption | rfl)) (by rfl) ?_
    refine z_ild1 (n := 51) (by decide +kernel) ?_
    refine z_iconst (n := 52) (q := 1) (v := 1) (by decide +kernel) ?_
    refine z_zast (n := 53) (by decide +kernel) (by first | assumption | (simp (disch := omega) only [hu_s, hu_n]; first | assumption | rfl)) (by first | assumption | exact ix_nI (by omega) (by omega)) (by first | exact bI_t.symm | exact bI_f.symm | rfl) ?_
    refine z_vret (by decide +kernel) rfl (Nat.le_refl _) ?_
    exact ⟨rfl, by simp only [eq_false c43, if_true, if_false]; first | rfl | (rw [hu_self (i := C + 6)]; rfl; simp (disch := omega) only [hu_n]; assumption)⟩
theorem k_creep {G : mG} {h : mH} {C N p t : Nat} {c : Int32} {rs : Nat → Int32} (d : Nat) (hC : h C = oCre C) (h2 : h (C + 2) = aI N rs) (hp : p < N) (hN : N < 2 ^ 31) (ht : t < 2 ^ 31) : EV G m_X0_creep d 0 0 [.ref C, .int (nI p), .int c, .int (nI t)] h (RE none (hu h (C + 2) (aI N (upd rs p (itr (crF c) t (rs p)))))) := by
  refine ev_4_2 rfl rfl rfl rfl (by decide +kernel) (by decide +kernel) ?_
  refine z_iconst (n := 1) (q := 0) (v := 0) (by decide +kernel) ?_
  refine z_ist4 (n := 3) (by decide +kernel) rfl ?_
  refine z_heap (h1 := hu h (C + 2) (aI N (upd rs p (itr (crF c) 0 (rs p))))) (by rw [show itr (crF c) 0 (rs p) = rs p from rfl, upd_self, hu_self h2]) ?_
  refine loopZ (k := t) (fun i => Z G m_X0_creep d 0 0 0 0 3 [some (.ref C), some (.int (nI p)), some (.int c), some (.int (nI t)), some (.int (nI i)), none] [] (hu h (C + 2) (aI N (upd rs p (itr (crF c) i (rs p))))) (RE none (hu h (C + 2) (aI N (upd rs p (itr (crF c) t (rs p))))))) ?_ ?_ 0 (Nat.zero_le t)
  · refine z_ild4 (n := 5) (by decide +kernel) ?_
    refine z_ild3 (n := 6) (by decide +kernel) ?_
    refine z_icmp_ge_t (n := 9) (off := 46) (tgt := 52) (by decide +kernel) (nI_le (Nat.le_refl t) (by omega)) ?_
    refine z_vret (by decide +kernel) rfl (Nat.le_refl _) ?_
    exact ⟨rfl, rfl⟩
  · intro i il ih
    refine z_ild4 (n := 5) (by decide +kernel) ?_
    refine z_ild3 (n := 6) (by decide +kernel) ?_
    refine z_icmp_ge_f (n := 9) (off := 46) (tgt := 52) (by decide +kernel) (nI_ge il (by omega)) ?_
    refine z_sipush (n := 12) (q := 1800) (v := 1800) (by decide +kernel) ?_
    refine z_ald0 (n := 13) (by decide +kernel) ?_
    refine z_getf (n := 16) (idx := 15) (by decide +kernel) fl_X0_15 (by first | assumption | (simp (disch := omega) only [hu_s, hu_n]; first | assumption | rfl)) (by rfl) ?_
    refine z_ild1 (n := 17) (by decide +kernel) ?_
    refine z_iald (n := 18) (by decide +kernel) (by first | assumption | (simp (disch := omega) only [hu_s, hu_n]; first | assumption | rfl)) (by first | assumption | exact ix_nI (by omega) (by omega)) ?_
    refine z_top pk_us ?_
    refine z_isub (n := 19) (by decide +kernel) ?_
    refine z_ild2 (n := 20) (by decide +kernel) ?_
    refine z_imul (n := 21) (by decide +kernel) ?_
    refine z_sipush (n := 24) (q := 1000) (v := 1000) (by decide +kernel) ?_
    refine z_idiv (n := 25) (by decide +kernel) (by decide) ?_
    refine z_ist5 (n := 27) (by decide +kernel) rfl ?_
    refine z_ild5 (n := 29) (by decide +kernel) ?_
    refine z_if_ne (n := 32) (off := 6) (tgt := 35) (by decide +kernel) (fun c29 => ?_) (fun c29 => ?_)
    · refine z_ald0 (n := 36) (by decide +kernel) ?_
      refine z_getf (n := 39) (idx := 15) (by decide +kernel) fl_X0_15 (by first | assumption | (simp (disch := omega) only [hu_s, hu_n]; first | assumption | rfl)) (by rfl) ?_
      refine z_ild1 (n := 40) (by decide +kernel) ?_
      refine z_dup2 (n := 41) (by decide +kernel) rfl rfl ?_
      refine z_iald (n := 42) (by decide +kernel) (by first | assumption | (simp (disch := omega) only [hu_s, hu_n]; first | assumption | rfl)) (by first | assumption | exact ix_nI (by omega) (by omega)) ?_
      refine z_top pk_us ?_
      refine z_ild5 (n := 44) (by decide +kernel) ?_
      refine z_iadd (n := 45) (by decide +kernel) ?_
      refine z_iast (n := 46) (by decide +kernel) (by first | assumption | (simp (disch := omega) only [hu_s, hu_n]; first | assumption | rfl)) (by first | assumption | exact ix_nI (by omega) (by omega)) ?_
      refine z_inc4 (n := 49) (q := 1) (by decide +kernel) rfl (nI_1 _) ?_
      refine z_goto (n := 52) (off := -46) (tgt := 3) (by decide +kernel) ?_
      exact z_wk (lv' := [some (.ref C), some (.int (nI p)), some (.int c), some (.int (nI t)), some (.int (nI (i + 1))), none]) (by simp [wk]) (z_heap (by rw [hu_hu, upd_upd]; rfl) ih)
    · refine z_goto (n := 35) (off := 20) (tgt := 52) (by decide +kernel) ?_
      refine z_vret (by decide +kernel) rfl (Nat.le_refl _) ?_
      exact ⟨rfl, by rw [itr_fix (i := i) (by show itr _ i _ + _ = _; rw [c29]; simp) t (by omega)]⟩
theorem k_ease {G : mG} {h : mH} {C N p t : Nat} {c : Int32} {rs : Nat → Int32} (d : Nat) (hC : h C = oCre C) (h2 : h (C + 2) = aI N rs) (hp : p < N) (hN : N < 2 ^ 31) (ht : t < 2 ^ 31) : EV G m_X0_ease d 0 0 [.ref C, .int (nI p), .int c, .int (nI t)] h (RE none (hu h (C + 2) (aI N (upd rs p (itr (esF c) t (rs p)))))) := by
  refine ev_4_2 rfl rfl rfl rfl (by decide +kernel) (by decide +kernel) ?_
  refine z_iconst (n := 1) (q := 0) (v := 0) (by decide +kernel) ?_
  refine z_ist4 (n := 3) (by decide +kernel) rfl ?_
  refine z_heap (h1 := hu h (C + 2) (aI N (upd rs p (itr (esF c) 0 (rs p))))) (by rw [show itr (esF c) 0 (rs p) = rs p from rfl, upd_self, hu_self h2]) ?_
  refine loopZ (k := t) (fun i => Z G m_X0_ease d 0 0 0 0 3 [some (.ref C), some (.int (nI p)), some (.int c), some (.int (nI t)), some (.int (nI i)), none] [] (hu h (C + 2) (aI N (upd rs p (itr (esF c) i (rs p))))) (RE none (hu h (C + 2) (aI N (upd rs p (itr (esF c) t (rs p))))))) ?_ ?_ 0 (Nat.zero_le t)
  · refine z_ild4 (n := 5) (by decide +kernel) ?_
    refine z_ild3 (n := 6) (by decide +kernel) ?_
    refine z_icmp_ge_t (n := 9) (off := 42) (tgt := 48) (by decide +kernel) (nI_le (Nat.le_refl t) (by omega)) ?_
    refine z_vret (by decide +kernel) rfl (Nat.le_refl _) ?_
    exact ⟨rfl, rfl⟩
  · intro i il ih
    refine z_ild4 (n := 5) (by decide +kernel) ?_
    refine z_ild3 (n := 6) (by decide +kernel) ?_
    refine z_icmp_ge_f (n := 9) (off := 42) (tgt := 48) (by decide +kernel) (nI_ge il (by omega)) ?_
    refine z_ald0 (n := 10) (by decide +kernel) ?_
    refine z_getf (n := 13) (idx := 15) (by decide +kernel) fl_X0_15 (by first | assumption | (simp (disch := omega) only [hu_s, hu_n]; first | assumption | rfl)) (by rfl) ?_
    refine z_ild1 (n := 14) (by decide +kernel) ?_
    refine z_iald (n := 15) (by decide +kernel) (by first | assumption | (simp (disch := omega) only [hu_s, hu_n]; first | assumption | rfl)) (by first | assumption | exact ix_nI (by omega) (by omega)) ?_
    refine z_top pk_us ?_
    refine z_ild2 (n := 16) (by decide +kernel) ?_
    refine z_imul (n := 17) (by decide +kernel) ?_
    refine z_sipush (n := 20) (q := 1000) (v := 1000) (by decide +kernel) ?_
    refine z_idiv (n := 21) (by decide +kernel) (by decide) ?_
    refine z_ist5 (n := 23) (by decide +kernel) rfl ?_
    refine z_ild5 (n := 25) (by decide +kernel) ?_
    refine z_if_ne (n := 28) (off := 6) (tgt := 31) (by decide +kernel) (fun c25 => ?_) (fun c25 => ?_)
    · refine z_ald0 (n := 32) (by decide +kernel) ?_
      refine z_getf (n := 35) (idx := 15) (by decide +kernel) fl_X0_15 (by first | assumption | (simp (disch := omega) only [hu_s, hu_n]; first | assumption | rfl)) (by rfl) ?_
      refine z_ild1 (n := 36) (by decide +kernel) ?_
      refine z_dup2 (n := 37) (by decide +kernel) rfl rfl ?_
      refine z_iald (n := 38) (by decide +kernel) (by first | assumption | (simp (disch := omega) only [hu_s, hu_n]; first | assumption | rfl)) (by first | assumption | exact ix_nI (by omega) (by omega)) ?_
      refine z_top pk_us ?_
      refine z_ild5 (n := 40) (by decide +kernel) ?_
      refine z_isub (n := 41) (by decide +kernel) ?_
      refine z_iast (n := 42) (by decide +kernel) (by first | assumption | (simp (disch := omega) only [hu_s, hu_n]; first | assumption | rfl)) (by first | assumption | exact ix_nI (by omega) (by omega)) ?_
      refine z_inc4 (n := 45) (q := 1) (by decide +kernel) rfl (nI_1 _) ?_
      refine z_goto (n := 48) (off := -42) (tgt := 3) (by decide +kernel) ?_
      exact z_wk (lv' := [some (.ref C), some (.int (nI p)), some (.int c), some (.int (nI t)), some (.int (nI (i + 1))), none]) (by simp [wk]) (z_heap (by rw [hu_hu, upd_upd]; rfl) ih)
    · refine z_goto (n := 31) (off := 20) (tgt := 48) (by decide +kernel) ?_
      refine z_vret (by decide +kernel) rfl (Nat.le_refl _) ?_
      exact ⟨rfl, by rw [itr_fix (i := i) (by show itr _ i _ - _ = _; rw [c25]; simp) t (by omega)]⟩
theorem k_countCreased {G : mG} {h : mH} {C n : Nat} {si : Nat → Int32} (d : Nat) (hC : h C = oCre C) (h1 : h (C + 1) = aI (n + 1) si) (hN : n + 1 < 2 ^ 31) : EV G m_X0_countCreased d 0 0 [.ref C] h (RE (some (.int (nI (cnb (fun j => !decide (si (j + 1) = 0)) n)))) h) := by
  refine ev_1_2 rfl (by decide +kernel) (by decide +kernel) ?_
  refine z_iconst (n := 1) (q := 0) (v := 0) (by decide +kernel) ?_
  refine z_ist1 (n := 2) (by decide +kernel) rfl ?_
  refine z_iconst (n := 3) (q := 1) (v := 1) (by decide +kernel) ?_
  refine z_ist2 (n := 4) (by decide +kernel) rfl ?_
  refine loopZ (k := n) (fun u => Z G m_X0_countCreased d 0 0 0 0 4 [some (.ref C), some (.int (nI (cnb (fun j => !decide (si (j + 1) = 0)) u))), some (.int (nI (u + 1)))] [] h (RE (some (.int (nI (cnb (fun j => !decide (si (j + 1) = 0)) n)))) h)) ?_ ?_ 0 (Nat.zero_le n)
  · refine z_ild2 (n := 5) (by decide +kernel) ?_
    refine z_ald0 (n := 6) (by decide +kernel) ?_
    refine z_getf (n := 9) (idx := 9) (by decide +kernel) fl_X0_9 (by assumption) (by rfl) ?_
    refine z_alenI (n := 10) (by decide +kernel) (by assumption) ?_
    refine z_icmp_ge_t (n := 13) (off := 21) (tgt := 31) (by decide +kernel) (nI_le (Nat.le_refl _) (by omega)) ?_
    refine z_ild1 (n := 32) (by decide +kernel) ?_
    refine z_iret (by decide +kernel) rfl (Nat.le_refl _) ?_
    exact ⟨rfl, rfl⟩
  · intro u ul ih
    refine z_ild2 (n := 5) (by decide +kernel) ?_
    refine z_ald0 (n := 6) (by decide +kernel) ?_
    refine z_getf (n := 9) (idx := 9) (by decide +kernel) fl_X0_9 (by assumption) (by rfl) ?_
    refine z_alenI (n := 10) (by decide +kernel) (by assumption) ?_
    refine z_icmp_ge_f (n := 13) (off := 21) (tgt := 31) (by decide +kernel) (nI_ge (by omega) (by omega)) ?_
    refine z_ald0 (n := 14) (by decide +kernel) ?_
    refine z_getf (n := 17) (idx := 9) (by decide +kernel) fl_X0_9 (by assumption) (by rfl) ?_
    refine z_ild2 (n := 18) (by decide +kernel) ?_
    refine z_iald (n := 19) (by decide +kernel) (by assumption) (by first | assumption | exact ix_nI (by omega) (by omega)) ?_
    refine z_if_eq (n := 22) (off := 6) (tgt := 25) (by decide +kernel) (fun c19 => ?_) (fun c19 => ?_)
    · refine z_inc2 (n := 28) (q := 1) (by decide +kernel) rfl (nI_1 _) ?_
      refine z_goto (n := 31) (off := -24) (tgt := 4) (by decide +kernel) ?_
      simpa [cnb, c19] using ih
    · refine z_inc1 (n := 25) (q := 1) (by decide +kernel) rfl (nI_1 _) ?_
      refine z_inc2 (n := 28) (q := 1) (by decide +kernel) rfl (nI_1 _) ?_
      refine z_goto (n := 31) (off := -24) (tgt := 4) (by decide +kernel) ?_
      simpa [cnb, c19] using ih
theorem k_countTorn {G : mG} {h : mH} {C n : Nat} {tn : Nat → Bool} (d : Nat) (hC : h C = oCre C) (h1 : h (C + 6) = aZ (n + 1) tn) (hN : n + 1 < 2 ^ 31) : EV G m_X0_countTorn d 0 0 [.ref C] h (RE (some (.int (nI (cnb (fun j => tn (j + 1)) n)))) h) := by
  refine ev_1_2 rfl (by decide +kernel) (by decide +kernel) ?_
  refine z_iconst (n := 1) (q := 0) (v := 0) (by decide +kernel) ?_
  refine z_ist1 (n := 2) (by decide +kernel) rfl ?_
  refine z_iconst (n := 3) (q := 1) (v := 1) (by decide +kernel) ?_
  refine z_ist2 (n := 4) (by decide +kernel) rfl ?_
  refine loopZ (k := n) (fun u => Z G m_X0_countTorn d 0 0 0 0 4 [some (.ref C), some (.int (nI (cnb (fun j => tn (j + 1)) u))), some (.int (nI (u + 1)))] [] h (RE (some (.int (nI (cnb (fun j => tn (j + 1)) n)))) h)) ?_ ?_ 0 (Nat.zero_le n)
  · refine z_ild2 (n := 5) (by decide +kernel) ?_
    refine z_ald0 (n := 6) (by decide +kernel) ?_
    refine z_getf (n := 9) (idx := 27) (by decide +kernel) fl_X0_27 (by assumption) (by rfl) ?_
    refine z_alenZ (n := 10) (by decide +kernel) (by assumption) ?_
    refine z_icmp_ge_t (n := 13) (off := 21) (tgt := 31) (by decide +kernel) (nI_le (Nat.le_refl _) (by omega)) ?_
    refine z_ild1 (n := 32) (by decide +kernel) ?_
    refine z_iret (by decide +kernel) rfl (Nat.le_refl _) ?_
    exact ⟨rfl, rfl⟩
  · intro u ul ih
    refine z_ild2 (n := 5) (by decide +kernel) ?_
    refine z_ald0 (n := 6) (by decide +kernel) ?_
    refine z_getf (n := 9) (idx := 27) (by decide +kernel) fl_X0_27 (by assumption) (by rfl) ?_
    refine z_alenZ (n := 10) (by decide +kernel) (by assumption) ?_
    refine z_icmp_ge_f (n := 13) (off := 21) (tgt := 31) (by decide +kernel) (nI_ge (by omega) (by omega)) ?_
    refine z_ald0 (n := 14) (by decide +kernel) ?_
    refine z_getf (n := 17) (idx := 27) (by decide +kernel) fl_X0_27 (by assumption) (by rfl) ?_
    refine z_ild2 (n := 18) (by decide +kernel) ?_
    refine z_zald (n := 19) (by decide +kernel) (by assumption) (by first | assumption | exact ix_nI (by omega) (by omega)) ?_
    refine z_ifb_eq (n := 22) (off := 6) (tgt := 25) (by decide +kernel) (fun c19 => ?_) (fun c19 => ?_)
    · refine z_inc2 (n := 28) (q := 1) (by decide +kernel) rfl (nI_1 _) ?_
      refine z_goto (n := 31) (off := -24) (tgt := 4) (by decide +kernel) ?_
      simpa [cnb, c19] using ih
    · refine z_inc1 (n := 25) (q := 1) (by decide +kernel) rfl (nI_1 _) ?_
      refine z_inc2 (n := 28) (q := 1) (by decide +kernel) rfl (nI_1 _) ?_
      refine z_goto (n := 31) (off := -24) (tgt := 4) (by decide +kernel) ?_
      simpa [cnb, c19] using ih
theorem k_creCopy {G : mG} {h : mH} {C C' N : Nat} {si rs wr tk ac si' rs' wr' tk' ac' : Nat → Int32} {tn tn' : Nat → Bool} (d : Nat) (hd : 1 ≤ d) (hC : h C = oCre C) (h1 : h (C + 1) = aI N si) (h2 : h (C + 2) = aI N rs) (h3 : h (C + 3) = aI N wr) (h4 : h (C + 4) = aI N tk) (h5 : h (C + 5) = aI N ac) (h6 : h (C + 6) = aZ N tn) (hC' : h C' = oCre C') (h1' : h (C' + 1) = aI N si') (h2' : h (C' + 2) = aI N rs') (h3' : h (C' + 3) = aI N wr') (h4' : h (C' + 4) = aI N tk') (h5' : h (C' + 5) = aI N ac') (h6' : h (C' + 6) = aZ N tn') (hN : N < 2 ^ 31) (hap : C + 6 < C' ∨ C' + 6 < C) :
    EV G m_X0_copyFrom d 0 0 [.ref C, .ref C'] h (RE none (hu (hu (hu (hu (hu (hu h (C + 1) (aI N (cpN si' si N))) (C + 2) (aI N (cpN rs' rs N))) (C + 3) (aI N (cpN wr' wr N))) (C + 4) (aI N (cpN tk' tk N))) (C + 5) (aI N (cpN ac' ac N))) (C + 6) (aZ N (cpN tn' tn N)))) := by
  refine ev_2_1 rfl rfl (by decide +kernel) (by decide +kernel) ?_
  refine z_ald0 (n := 1) (by decide +kernel) ?_
  refine z_getf (n := 4) (idx := 9) (by decide +kernel) fl_X0_9 (by first | assumption | (simp (disch := omega) only [hu_s, hu_n]; first | assumption | rfl)) (by rfl) ?_
  refine z_alenI (n := 5) (by decide +kernel) (by first | assumption | (simp (disch := omega) only [hu_s, hu_n]; first | assumption | rfl)) ?_
  refine z_ald1 (n := 6) (by decide +kernel) ?_
  refine z_getf (n := 9) (idx := 9) (by decide +kernel) fl_X0_9 (by first | assumption | (simp (disch := omega) only [hu_s, hu_n]; first | assumption | rfl)) (by rfl) ?_
  refine z_alenI (n := 10) (by decide +kernel) (by first | assumption | (simp (disch := omega) only [hu_s, hu_n]; first | assumption | rfl)) ?_
  refine z_mmin (n := 13) (idx := 31) (by decide +kernel) jl_X0_31 (Nat.le_of_ble_eq_true rfl) (by omega) (Nat.le_refl _) (Nat.le_refl _) ?_
  refine z_top (show _ = nI N from if_neg (nI_nlt (Nat.le_refl N) (by omega))) ?_
  refine z_ist2 (n := 14) (by decide +kernel) rfl ?_
  refine z_ald1 (n := 15) (by decide +kernel) ?_
  refine z_getf (n := 18) (idx := 9) (by decide +kernel) fl_X0_9 (by first | assumption | (simp (disch := omega) only [hu_s, hu_n]; first | assumption | rfl)) (by rfl) ?_
  refine z_iconst (n := 19) (q := 0) (v := 0) (by decide +kernel) ?_
  refine z_ald0 (n := 20) (by decide +kernel) ?_
  refine z_getf (n := 23) (idx := 9) (by decide +kernel) fl_X0_9 (by first | assumption | (simp (disch := omega) only [hu_s, hu_n]; first | assumption | rfl)) (by rfl) ?_
  refine z_iconst (n := 24) (q := 0) (v := 0) (by decide +kernel) ?_
  refine z_ild2 (n := 25) (by decide +kernel) ?_
  refine z_cpyI (n := 28) (idx := 37) (by decide +kernel) jl_X0_37 (Nat.le_of_ble_eq_true rfl) (by omega) (by first | assumption | (simp (disch := omega) only [hu_s, hu_n]; first | assumption | rfl)) (by first | assumption | (simp (disch := omega) only [hu_s, hu_n]; first | assumption | rfl)) (by omega) (by omega) (by omega) ?_
  refine z_ald1 (n := 29) (by decide +kernel) ?_
  refine z_getf (n := 32) (idx := 15) (by decide +kernel) fl_X0_15 (by first | assumption | (simp (disch := omega) only [hu_s, hu_n]; first | assumption | rfl)) (by rfl) ?_
  refine z_iconst (n := 33) (q := 0) (v := 0) (by decide +kernel) ?_
  refine z_ald0 (n := 34) (by decide +kernel) ?_
  refine z_getf (n := 37) (idx := 15) (by decide +kernel) fl_X0_15 (by first | assumption | (simp (disch := omega) only [hu_s, hu_n]; first | assumption | rfl)) (by rfl) ?_
  refine z_iconst (n := 38) (q := 0) (v := 0) (by decide +kernel) ?_
  refine z_ild2 (n := 39) (by decide +kernel) ?_
  refine z_cpyI (n := 42) (idx := 37) (by decide +kernel) jl_X0_37 (Nat.le_of_ble_eq_true rfl) (by omega) (by first | assumption | (simp (disch := omega) only [hu_s, hu_n]; first | assumption | rfl)) (by first | assumption | (simp (disch := omega) only [hu_s, hu_n]; first | assumption | rfl)) (by omega) (by omega) (by omega) ?_
  refine z_ald1 (n := 43) (by decide +kernel) ?_
  refine z_getf (n := 46) (idx := 18) (by decide +kernel) fl_X0_18 (by first | assumption | (simp (disch := omega) only [hu_s, hu_n]; first | assumption | rfl)) (by rfl) ?_
  refine z_iconst (n := 47) (q := 0) (v := 0) (by decide +kernel) ?_
  refine z_ald0 (n := 48) (by decide +kernel) ?_
  refine z_getf (n := 51) (idx := 18) (by decide +kernel) fl_X0_18 (by first | assumption | (simp (disch := omega) only [hu_s, hu_n]; first | assumption | rfl)) (by rfl) ?_
  refine z_iconst (n := 52) (q := 0) (v := 0) (by decide +kernel) ?_
  refine z_ild2 (n := 53) (by decide +kernel) ?_
  refine z_cpyI (n := 56) (idx := 37) (by decide +kernel) jl_X0_37 (Nat.le_of_ble_eq_true rfl) (by omega) (by first | assumption | (simp (disch := omega) only [hu_s, hu_n]; first | assumption | rfl)) (by first | assumption | (simp (disch := omega) only [hu_s, hu_n]; first | assumption | rfl)) (by omega) (by omega) (by omega) ?_
  refine z_ald1 (n := 57) (by decide +kernel) ?_
  refine z_getf (n := 60) (idx := 21) (by decide +kernel) fl_X0_21 (by first | assumption | (simp (disch := omega) only [hu_s, hu_n]; first | assumption | rfl)) (by rfl) ?_
  refine z_iconst (n := 61) (q := 0) (v := 0) (by decide +kernel) ?_
  refine z_ald0 (n := 62) (by decide +kernel) ?_
  refine z_getf (n := 65) (idx := 21) (by decide +kernel) fl_X0_21 (by first | assumption | (simp (disch := omega) only [hu_s, hu_n]; first | assumption | rfl)) (by rfl) ?_
  refine z_iconst (n := 66) (q := 0) (v := 0) (by decide +kernel) ?_
  refine z_ild2 (n := 67) (by decide +kernel) ?_
  refine z_cpyI (n := 70) (idx := 37) (by decide +kernel) jl_X0_37 (Nat.le_of_ble_eq_true rfl) (by omega) (by first | assumption | (simp (disch := omega) only [hu_s, hu_n]; first | assumption | rfl)) (by first | assumption | (simp (disch := omega) only [hu_s, hu_n]; first | assumption | rfl)) (by omega) (by omega) (by omega) ?_
  refine z_ald1 (n := 71) (by decide +kernel) ?_
  refine z_getf (n := 74) (idx := 24) (by decide +kernel) fl_X0_24 (by first | assumption | (simp (disch := omega) only [hu_s, hu_n]; first | assumption | rfl)) (by rfl) ?_
  refine z_iconst (n := 75) (q := 0) (v := 0) (by decide +kernel) ?_
  refine z_ald0 (n := 76) (by decide +kernel) ?_
  refine z_getf (n := 79) (idx := 24) (by decide +kernel) fl_X0_24 (by first | assumption | (simp (disch := omega) only [hu_s, hu_n]; first | assumption | rfl)) (by rfl) ?_
  refine z_iconst (n := 80) (q := 0) (v := 0) (by decide +kernel) ?_
  refine z_ild2 (n := 81) (by decide +kernel) ?_
  refine z_cpyI (n := 84) (idx := 37) (by decide +kernel) jl_X0_37 (Nat.le_of_ble_eq_true rfl) (by omega) (by first | assumption | (simp (disch := omega) only [hu_s, hu_n]; first | assumption | rfl)) (by first | assumption | (simp (disch := omega) only [hu_s, hu_n]; first | assumption | rfl)) (by omega) (by omega) (by omega) ?_
  refine z_ald1 (n := 85) (by decide +kernel) ?_
  refine z_getf (n := 88) (idx := 27) (by decide +kernel) fl_X0_27 (by first | assumption | (simp (disch := omega) only [hu_s, hu_n]; first | assumption | rfl)) (by rfl) ?_
  refine z_iconst (n := 89) (q := 0) (v := 0) (by decide +kernel) ?_
  refine z_ald0 (n := 90) (by decide +kernel) ?_
  refine z_getf (n := 93) (idx := 27) (by decide +kernel) fl_X0_27 (by first | assumption | (simp (disch := omega) only [hu_s, hu_n]; first | assumption | rfl)) (by rfl) ?_
  refine z_iconst (n := 94) (q := 0) (v := 0) (by decide +kernel) ?_
  refine z_ild2 (n := 95) (by decide +kernel) ?_
  refine z_cpyZ (n := 98) (idx := 37) (by decide +kernel) jl_X0_37 (Nat.le_of_ble_eq_true rfl) (by omega) (by first | assumption | (simp (disch := omega) only [hu_s, hu_n]; first | assumption | rfl)) (by first | assumption | (simp (disch := omega) only [hu_s, hu_n]; first | assumption | rfl)) (by omega) (by omega) (by omega) ?_
  refine z_vret (by decide +kernel) rfl (Nat.le_refl _) ?_
  exact ⟨rfl, rfl⟩
