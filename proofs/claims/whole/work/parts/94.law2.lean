/-! THE LAW: its loop, its whole walk -/
theorem R_init {n : Nat} (hn : n < 40) (hn1 : 1 ≤ n) : RA n (pS0 n) (0, fun _ _ => 0) ((0, 0), (fun _ => 0), fun _ => 0) (a0 n) := by
  have o : ∀ j, (j < 10 ∨ 130 ≤ j) → a0 n j = aN 40 j := fun j hj => flA_o _ (fun u hu9 => by omega)
  have hi : ∀ u j, u ≤ 40 → 370 ≤ j → aN u j = 0 := by
    intro u
    induction u with
    | zero => intro j _ hj; show upd (upd (upd (upd (fun _ => 0) 5 100) 6 10) 7 100) 8 40 j = 0; rw [upd_nn (by omega), upd_nn (by omega), upd_nn (by omega), upd_nn (by omega)]
    | succ u ih => intro j hu9 hj; rw [aN_s, upd_nn (by omega), upd_nn (by omega)]; exact ih j (by omega) hj
  have lo : ∀ u j, u ≤ 40 → j < 130 → aN u j = upd (upd (upd (upd (fun _ => 0) 5 100) 6 10) 7 100) 8 40 j := by
    intro u
    induction u with
    | zero => intro j _ hj; rfl
    | succ u ih => intro j hu9 hj; rw [aN_s, upd_nn (by omega), upd_nn (by omega)]; exact ih j (by omega) hj
  have pt : ∀ u q i, u ≤ 40 → i < 6 → aN u (130 + 6 * q + i) = if q < u ∧ (i = 3 ∨ i = 4) then -1 else 0 := by
    intro u
    induction u with
    | zero => intro q i _ hi9; rw [if_neg (by omega)]; show upd (upd (upd (upd (fun _ => 0) 5 100) 6 10) 7 100) 8 40 _ = 0; rw [upd_nn (by omega), upd_nn (by omega), upd_nn (by omega), upd_nn (by omega)]
    | succ u ih =>
      intro q i hu9 hi9
      rw [aN_s]
      by_cases c : q = u
      · subst c
        rcases (show i = 0 ∨ i = 1 ∨ i = 2 ∨ i = 3 ∨ i = 4 ∨ i = 5 by omega) with rfl | rfl | rfl | rfl | rfl | rfl
        · rw [upd_nn (by omega), upd_nn (by omega), ih q 0 (by omega) (by omega), if_neg (by omega), if_neg (by omega)]
        · rw [upd_nn (by omega), upd_nn (by omega), ih q 1 (by omega) (by omega), if_neg (by omega), if_neg (by omega)]
        · rw [upd_nn (by omega), upd_nn (by omega), ih q 2 (by omega) (by omega), if_neg (by omega), if_neg (by omega)]
        · rw [upd_nn (by omega), upd_ss, if_pos (by omega)]
        · rw [upd_ss, if_pos (by omega)]
        · rw [upd_nn (by omega), upd_nn (by omega), ih q 5 (by omega) (by omega), if_neg (by omega), if_neg (by omega)]
      · rw [upd_nn (by omega), upd_nn (by omega), ih q i (by omega) hi9]
        by_cases k : q < u ∧ (i = 3 ∨ i = 4)
        · rw [if_pos k, if_pos (by omega)]
        · rw [if_neg k, if_neg (by omega)]
  refine ⟨⟨fun u hu9 => ?_, fun q hq => ?_, ?_, ?_, ?_, ?_, ?_, ?_⟩, ⟨?_, ?_, fun u hu9 => ?_, fun u hu9 => ?_, fun q hq => ?_⟩, ⟨Nat.zero_le _, ?_, fun i hi9 r hr => ?_⟩, ⟨⟨Nat.zero_le _, Nat.le_refl _⟩, ?_, ?_, fun t ht => ?_, fun t ht => absurd ht (Nat.not_lt_zero _)⟩⟩
  all_goals skip
