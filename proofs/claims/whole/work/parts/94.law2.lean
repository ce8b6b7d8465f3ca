/-! THE LAW: its loop, its whole walk -/
theorem R_init {n : Nat} (hn : n < 40) (hn1 : 1 ≤ n) : RA n (pS0 n) (0, fun _ _ => 0) ((0, 0), (fun _ => 0), fun _ => 0) (a0 n) := by
  have o : ∀ j, (j < 10 ∨ 130 ≤ j) → a0 n j = aN 40 j := fun j hj => flA_o _ (fun u hu9 => by omega)
  have hi : ∀ u j, u ≤ 40 → 370 ≤ j → aN u j = 0 := by
    intro u
    induction u with
    | zero => intro j _ hj; show upd (upd (upd (upd (fun _ => 0) 5 100) 6 10) 7 100) 8 40 j = 0; rw [upd_nn (by omega), upd_nn (by omega), upd_nn (by omega), upd_nn (by omega)]
    | succ u ih => intro j hu9 hj; rw [aN_s, upd_nn (by omega), upd_nn (by omega)]; exact ih j (by omega) hj
  have lo : ∀ u j, u ≤ 40 → j < 130 → aN u j = upd (upd (upd (upd (fun _ => 0) 5 100) 6 10) 7 100) 8 40 j := by
    intro u
    induction u with
    | zero => intro j _ hj; rfl
    | succ u ih => intro j hu9 hj; rw [aN_s, upd_nn (by omega), upd_nn (by omega)]; exact ih j (by omega) hj
  have pt : ∀ u q i, u ≤ 40 → i < 6 → aN u (130 + 6 * q + i) = if q < u ∧ (i = 3 ∨ i = 4) then -1 else 0 := by
    intro u
    induction u with
    | zero => intro q i _ hi9; rw [if_neg (by omega)]; show upd (upd (upd (upd (fun _ => 0) 5 100) 6 10) 7 100) 8 40 _ = 0; rw [upd_nn (by omega), upd_nn (by omega), upd_nn (by omega), upd_nn (by omega)]
    | succ u ih =>
      intro q i hu9 hi9
      rw [aN_s]
      by_cases c : q = u
      · subst c
        rcases (show i = 0 ∨ i = 1 ∨ i = 2 ∨ i = 3 ∨ i = 4 ∨ i = 5 by omega) with rfl | rfl | rfl | rfl | rfl | rfl
        · rw [upd_nn (by omega), upd_nn (by omega), ih q 0 (by omega) (by omega), if_neg (by omega), if_neg (by omega)]
        · rw [upd_nn (by omega), upd_nn (by omega), ih q 1 (by omega) (by omega), if_neg (by omega), if_neg (by omega)]
        · rw [upd_nn (by omega), upd_nn (by omega), ih q 2 (by omega) (by omega), if_neg (by omega), if_neg (by omega)]
        · rw [upd_nn (by omega), upd_ss, if_pos (by omega)]
        · rw [upd_ss, if_pos (by omega)]
        · rw [upd_nn (by omega), upd_nn (by omega), ih q 5 (by omega) (by omega), if_neg (by omega), if_neg (by omega)]
      · rw [upd_nn (by omega), upd_nn (by omega), ih q i (by omega) hi9]
        by_cases k : q < u ∧ (i = 3 ∨ i = 4)
        · rw [if_pos k, if_pos (by omega)]
        · rw [if_neg k, if_neg (by omega)]
  have m1 : ((nI 0 : Int32)).toInt = 0 := rfl
  have cp : ∀ u, u ≤ n → (cpN nI (fun _ => 0) (n + 1) u).toInt = u := fun u hu9 => by rw [cpN_at (by omega), nI_toInt (by omega)]
  refine ⟨⟨fun u hu9 => ?_, fun q hq => ?_, ?_, ?_, ?_, ?_, ?_, ?_⟩, ⟨⟨Int.le_refl _, show ((0 : Int32)).toInt ≤ 100000 by decide⟩, show (0 : Int32) ≤ 40 by decide, fun u hu9 => ?_, fun u hu9 => ?_, fun q hq => Or.inl rfl⟩, ⟨Nat.zero_le _, ?_, fun i hi9 r hr => ?_⟩, ⟨⟨Nat.zero_le _, Nat.le_refl _⟩, ?_, ?_, fun t ht => ⟨?_, ?_⟩, fun t ht => absurd ht (Nat.not_lt_zero _)⟩⟩
  · obtain ⟨e1, e2, e3⟩ := flA_c (a := aN 40) (u := u) (n + 1) (by omega) (by omega)
    refine ⟨e1.trans ?_, e2.trans ?_, e3.trans ?_⟩
    · show nI u = cpN nI (fun _ => 0) (n + 1) u; rw [cpN_at (by omega)]
    · show (0 : Int32) = cpN (fun _ => 0) (fun _ => 0) (n + 1) u; rw [cpN_at (by omega)]
    · show (1 : Int32) = bI (cpN (fun _ => true) (fun _ => false) (n + 1) u); rw [cpN_at (by omega)]; rfl
  · refine ⟨?_, ?_, ?_, ?_, ?_, ?_⟩
    · rw [o _ (by omega)]; exact (pt 40 (q + 1) 0 (by omega) (by omega)).trans (if_neg (by omega))
    · rw [o _ (by omega), pt 40 (q + 1) 1 (by omega) (by omega), if_neg (by omega)]; rfl
    · rw [o _ (by omega), pt 40 (q + 1) 2 (by omega) (by omega), if_neg (by omega)]; rfl
    · rw [o _ (by omega), pt 40 (q + 1) 3 (by omega) (by omega), if_pos (by omega)]; show (-1 : Int32) = cpN (fun _ => -1) (fun _ => 0) (n + 1) (q + 1); rw [cpN_at (by omega)]
    · rw [o _ (by omega), pt 40 (q + 1) 4 (by omega) (by omega), if_pos (by omega)]; show (-1 : Int32) = cpN (fun _ => -1) (fun _ => 0) (n + 1) (q + 1); rw [cpN_at (by omega)]
    · rw [o _ (by omega), pt 40 (q + 1) 5 (by omega) (by omega), if_neg (by omega)]; rfl
  · rw [o _ (by omega), lo 40 _ (by omega) (by omega)]; rfl
  · rw [o _ (by omega), lo 40 _ (by omega) (by omega)]; rfl
  · rw [o _ (by omega), lo 40 _ (by omega) (by omega)]; rfl
  · rw [o _ (by omega), lo 40 _ (by omega) (by omega)]; rfl
  · rw [o _ (by omega), lo 40 _ (by omega) (by omega)]; rfl
  · rw [o _ (by omega), lo 40 _ (by omega) (by omega)]; rfl
  · show -(40 * ((0 : Int32).toInt + 1)) ≤ (cpN nI (fun _ => 0) (n + 1) u).toInt ∧ (cpN nI (fun _ => 0) (n + 1) u).toInt ≤ 40 * ((0 : Int32).toInt + 1)
    rw [cp u hu9, show ((0 : Int32)).toInt = 0 from rfl]; omega
  · show (cpN nI (fun _ => 0) (n + 1) u).toInt - (cpN nI (fun _ => 0) (n + 1) (u + 1)).toInt ≤ 1 ∧ (cpN nI (fun _ => 0) (n + 1) (u + 1)).toInt - (cpN nI (fun _ => 0) (n + 1) u).toInt ≤ 1
    rw [cp u (by omega), cp (u + 1) (by omega)]; omega
  · rw [o _ (by omega), lo 40 _ (by omega) (by omega)]; rfl
  · rw [o _ (by omega), hi 40 _ (by omega) (by omega)]
  · rw [o _ (by omega), lo 40 _ (by omega) (by omega)]; rfl
  · rw [o _ (by omega), lo 40 _ (by omega) (by omega)]; rfl
  · rw [o _ (by omega), hi 40 _ (by omega) (by omega)]
  · rw [o _ (by omega), hi 40 _ (by omega) (by omega)]
theorem RA_ag {n : Nat} {p : pS} {e : eS} {y : yS} {a a' : Nat → Int32} (hn : n < 40) (A : RA n p e y a) (o : ∀ j, j < 600 → a' j = a j) : RA n p e y a' := by
  obtain ⟨A1, A2, ⟨A3, A4, A5⟩, ⟨A6, A7, A8, A9, A10⟩⟩ := A
  exact ⟨Rp_o hn A1 (fun j hj => o j (by omega)), A2, ⟨A3, (o 4 (by omega)).trans A4, fun i hi r hr => (o _ (by omega)).trans (A5 i hi r hr)⟩, ⟨A6, (o 2 (by omega)).trans A7, (o 3 (by omega)).trans A8, fun t ht => ⟨(o _ (by omega)).trans (A9 t ht).1, (o _ (by omega)).trans (A9 t ht).2⟩, A10⟩⟩
theorem rel_init {h h1 : mH} {C Q n : Nat} (hn : n < 40) (hn1 : 1 ≤ n) (c : cls0 h1 C n) (hf : ∀ j, C ≤ j → j < C + 102 → h j = h1 j) (M : mdP h Q n (a0 n, fun _ => 0) (cpA (a0 n) (fun _ => 0) 600) 0 (fun _ => 0) (-1) (-1) (-1)) : RelX C Q n h := by
  obtain ⟨q0, q1, q2, q3, q4, q5, q6, q7, q8, q9, q10, q11⟩ := c
  have R := R_init hn hn1
  exact ⟨_, _, _, _, _, _, 0, fun _ => 0, false, 0, -1, -1, _, _, -1, -1, -1, cls_fr hf ⟨q0, q1, q2, q3, q4, q5, q6, ⟨_, _, _, _, q7⟩, ⟨_, _, _, _, _, _, _, _, _, q8⟩, q9, q10, q11⟩, M, R, RA_ag hn R (fun j hj => if_pos hj), Nat.zero_le _, fun _ => show (0 : Int32) ≤ 0 by decide, Or.inl ⟨rfl, rfl, rfl, rfl⟩⟩
