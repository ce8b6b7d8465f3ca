/-! Strip: reading -/
/-- how many of the first n places of f are x -/
def cnt (f : Nat → Int32) (x : Int32) : Nat → Nat
  | 0 => 0
  | n + 1 => cnt f x n + (if f n = x then 1 else 0)
/-- the object of a strip at the id S: place S + 1, layer S + 2, up S + 3, heights S + 4 -/
def oStrip (S : Nat) (size tallied : Int32) : mE := oB 7 [.ref (S + 1), .ref (S + 2), .ref (S + 3), .int size, .ref (S + 4), .int tallied]
theorem cnt_le (f : Nat → Int32) (x : Int32) : ∀ n, cnt f x n ≤ n
  | 0 => Nat.le_refl 0
  | n + 1 => by
    have := cnt_le f x n
    unfold cnt
    split <;> omega
theorem k_countIn {G : mG} {h : mH} {S N k : Nat} {tl x : Int32} {f : Nat → Int32} (d : Nat) (hS : h S = oStrip S (nI k) tl) (hP : h (S + 1) = aI N f) (hk : k ≤ N) (hN : N < 2 ^ 31) : EV G m_X7_countIn d 0 0 [.ref S, .int x] h (RE (some (.int (nI (cnt f x k)))) h) := by
  refine ev_intro 2 rfl (by decide +kernel) rfl ?_
  refine z_iconst (n := 1) (q := 0) (v := 0) (by decide +kernel) ?_
  refine z_ist2 (n := 2) (by decide +kernel) rfl ?_
  refine z_iconst (n := 3) (q := 0) (v := 0) (by decide +kernel) ?_
  refine z_ist3 (n := 4) (by decide +kernel) rfl ?_
  have L : ∀ (r u : Nat), u + r = k → Z G m_X7_countIn d 0 0 0 0 4 [some (.ref S), some (.int x), some (.int (nI (cnt f x u))), some (.int (nI u))] [] h (RE (some (.int (nI (cnt f x k)))) h) := by
    intro r
    induction r with
    | zero =>
      intro u hu
      refine z_ild3 (n := 5) (by decide +kernel) ?_
      refine z_ald0 (n := 6) (by decide +kernel) ?_
      refine z_getf (n := 9) (idx := 38) (by decide +kernel) fl_X7_38 (by assumption) (by rfl) ?_
      refine z_icmp_ge (n := 12) (off := 22) (tgt := 31) (by decide +kernel) (fun c => ?_) (fun c => ?_)
      · refine z_ild2 (n := 32) (by decide +kernel) ?_
        refine z_iret (by decide +kernel) rfl (Nat.le_refl _) ?_
        have e : u = k := by omega
        subst e
        exact ⟨rfl, rfl⟩
      · exact absurd (nI_le (by omega) (by omega)) c
    | succ r ih =>
      intro u hu
      refine z_ild3 (n := 5) (by decide +kernel) ?_
      refine z_ald0 (n := 6) (by decide +kernel) ?_
      refine z_getf (n := 9) (idx := 38) (by decide +kernel) fl_X7_38 (by assumption) (by rfl) ?_
      refine z_icmp_ge (n := 12) (off := 22) (tgt := 31) (by decide +kernel) (fun c => ?_) (fun c => ?_)
      · exact absurd c (nI_ge (by omega) (by omega))
      · refine z_ald0 (n := 13) (by decide +kernel) ?_
        refine z_getf (n := 16) (idx := 9) (by decide +kernel) fl_X7_9 (by assumption) (by rfl) ?_
        refine z_ild3 (n := 17) (by decide +kernel) ?_
        refine z_iald (n := 18) (by decide +kernel) (by assumption) (by first | assumption | exact ix_nI (by omega) (by omega)) ?_
        refine z_ild1 (n := 19) (by decide +kernel) ?_
        refine z_icmp_ne (n := 22) (off := 6) (tgt := 25) (by decide +kernel) (fun c2 => ?_) (fun c2 => ?_)
        · refine z_inc3 (n := 28) (q := 1) (by decide +kernel) rfl (nI_1 u) ?_
          refine z_goto (n := 31) (off := -24) (tgt := 4) (by decide +kernel) ?_
          have e := ih (u + 1) (by omega)
          rw [show cnt f x (u + 1) = cnt f x u by simp [cnt, c2]] at e
          exact e
        · refine z_inc2 (n := 25) (q := 1) (by decide +kernel) rfl (nI_1 _) ?_
          refine z_inc3 (n := 28) (q := 1) (by decide +kernel) rfl (nI_1 u) ?_
          refine z_goto (n := 31) (off := -24) (tgt := 4) (by decide +kernel) ?_
          have e := ih (u + 1) (by omega)
          rw [show cnt f x (u + 1) = cnt f x u + 1 by simp [cnt, c2]] at e
          exact e
  exact L k 0 (by omega)
