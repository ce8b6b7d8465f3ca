/-! a text as it is read: its state, its ranges -/
/-- k, dos, depth; verbs, numbers, sides, first bytes, behind, open agains -/
abbrev tSt := (Nat × Nat × Nat) × ((Nat → Int32) × (Nat → Int32) × (Nat → Bool)) × ((Nat → Int32) × (Nat → Int32) × (Nat → Int32))
def clN (t : Nat → Int32) (L : Nat) (s : tSt) : tSt := ((tE t L s.1.1, s.1.2.1, s.1.2.2 - 1), s.2.1, (s.2.2.1, upd s.2.2.2.1 (s.2.2.2.2 (s.1.2.2 - 1)).toNatClampNeg (nI s.1.2.1), s.2.2.2.2))
def okN (t : Nat → Int32) (L : Nat) (s : tSt) (v num : Int32) (right : Bool) (k : Nat) : tSt := ((k, s.1.2.1 + 1, if v = 3 then s.1.2.2 + 1 else s.1.2.2), (upd s.2.1.1 s.1.2.1 v, if v = 2 then s.2.1.2.1 else upd s.2.1.2.1 s.1.2.1 num, if v = 0 then updB s.2.1.2.2 s.1.2.1 right else s.2.1.2.2), (upd s.2.2.1 s.1.2.1 (nI (tS t L s.1.1)), s.2.2.2.1, if v = 3 then upd s.2.2.2.2 s.1.2.2 (nI s.1.2.1) else s.2.2.2.2))
def rdF (t : Nat → Int32) (L : Nat) : Nat → tSt → Sum (Int32 × Nat) tSt
  | 0, _ => .inl (0, 0)
  | f + 1, s => if tC t L s.1.1 = 0 ∧ s.1.2.2 = 0 then .inr s else
    if sgn t L s.1.1 41 = true ∧ ¬ s.1.2.2 = 0 then rdF t L f (clN t L s) else
    match dR t L s.1.1 s.1.2.1 s.1.2.2 with
    | .inl q => .inl q
    | .inr q => rdF t L f (okN t L s q.1 q.2.1 q.2.2.1 q.2.2.2)
theorem rdF_d {t : Nat → Int32} {L f : Nat} {s : tSt} (h : tC t L s.1.1 = 0 ∧ s.1.2.2 = 0) : rdF t L (f + 1) s = .inr s := by rw [rdF, if_pos h]
theorem rdF_c {t : Nat → Int32} {L f : Nat} {s : tSt} (h : sgn t L s.1.1 41 = true ∧ ¬ s.1.2.2 = 0) : rdF t L (f + 1) s = rdF t L f (clN t L s) := by rw [rdF, if_neg (fun z => h.2 z.2), if_pos h]
theorem rdF_b {t : Nat → Int32} {L f : Nat} {s : tSt} {x : Int32} {p : Nat} (h1 : ¬ (tC t L s.1.1 = 0 ∧ s.1.2.2 = 0)) (h2 : ¬ (sgn t L s.1.1 41 = true ∧ ¬ s.1.2.2 = 0)) (h : dR t L s.1.1 s.1.2.1 s.1.2.2 = bd x p) : rdF t L (f + 1) s = .inl (x, p) := by rw [rdF, if_neg h1, if_neg h2, h]; rfl
theorem rdF_o {t : Nat → Int32} {L f : Nat} {s : tSt} {v num : Int32} {right : Bool} {k : Nat} (h1 : ¬ (tC t L s.1.1 = 0 ∧ s.1.2.2 = 0)) (h2 : ¬ (sgn t L s.1.1 41 = true ∧ ¬ s.1.2.2 = 0)) (h : dR t L s.1.1 s.1.2.1 s.1.2.2 = okd v num right k) : rdF t L (f + 1) s = rdF t L f (okN t L s v num right k) := by rw [rdF, if_neg h1, if_neg h2, h]; rfl
/-! progress -/
theorem tS_ge {t : Nat → Int32} {L k : Nat} : k ≤ tS t L k := sk_ge _ k rfl
theorem tE_ge {t : Nat → Int32} {L k : Nat} : k ≤ tE t L k := by
  have h := tS_ge (t := t) (L := L) (k := k)
  unfold tE
  split
  · exact h
  · split
    · exact Nat.le_trans h (sk_ge _ _ rfl)
    · split
      · exact Nat.le_trans h (sk_ge _ _ rfl)
      · omega
theorem tE_L {t : Nat → Int32} {L k : Nat} (h : k ≤ L) : tE t L k ≤ L := by
  have h1 : tS t L k ≤ L := sk_le _ k rfl h
  unfold tE
  split
  · exact h1
  · split
    · exact sk_le _ _ rfl h1
    · split
      · exact sk_le _ _ rfl h1
      · omega
theorem tE_gt {t : Nat → Int32} {L k : Nat} (h : ¬ tC t L k = 0) : k < tE t L k := by
  have h0 := tS_ge (t := t) (L := L) (k := k)
  have h1 : ¬ L ≤ tS t L k := fun z => h (by unfold tC; rw [if_pos z])
  unfold tE
  rw [if_neg h1]
  split
  · rename_i c
    rw [sk_t (by omega) c]
    exact Nat.lt_of_lt_of_le (by omega) (sk_ge (p := isLe) (t := t) (L := L) _ _ rfl)
  · split
    · rename_i c
      rw [sk_t (by omega) c]
      exact Nat.lt_of_lt_of_le (by omega) (sk_ge (p := isDi) (t := t) (L := L) _ _ rfl)
    · omega
theorem vbO_c {t : Nat → Int32} {L k : Nat} (h : ¬ vbO t L k = -1) : ¬ tC t L k = 0 := by
  intro z
  apply h
  have e : ∀ w, wIs t L k w = false := fun w => by unfold wIs; rw [z]; rfl
  unfold vbO
  rw [e, e, e, e]
  rfl
theorem okd_i {v v' num num' : Int32} {r r' : Bool} {k k' : Nat} (h : okd v num r k = okd v' num' r' k') : v = v' ∧ num = num' ∧ r = r' ∧ k = k' := by
  unfold okd at h
  injection h with h
  injection h with h1 h
  injection h with h2 h
  injection h with h3 h4
  exact ⟨h1, h2, h3, h4⟩
theorem bd_ok {f : Int32} {p : Nat} {v num : Int32} {r : Bool} {k : Nat} (h : bd f p = okd v num r k) : False := by unfold bd okd at h; cases h
/-- what a good DO is -/
theorem dR_ok {t : Nat → Int32} {L k d e : Nat} {v num : Int32} {right : Bool} {k' : Nat} (h : dR t L k d e = okd v num right k') : k < k' ∧ (k ≤ L → k' ≤ L) ∧ ¬ d = 40 ∧ (v = 0 ∨ v = 1 ∨ v = 2 ∨ v = 3) ∧ (v = 3 → ¬ e = 4 ∧ win num 1 50 = true) := by
  have g := fun k => tE_ge (t := t) (L := L) (k := k)
  have nuw : ∀ k lo hi, nuC t L k lo hi = 0 → win (tV t L k) lo hi = true := by
    intro k lo hi z
    unfold nuC at z
    split at z
    · split at z
      · assumption
      · exact absurd z (by decide)
    · exact absurd z (by decide)
  unfold dR at h
  by_cases c1 : vbO t L k = -1
  · rw [if_pos c1] at h; exact (bd_ok h).elim
  rw [if_neg c1] at h
  have hk := tE_gt (vbO_c c1)
  by_cases c2 : d = 40
  · rw [if_pos c2] at h; exact (bd_ok h).elim
  rw [if_neg c2] at h
  by_cases c3 : vbO t L k = 0
  · rw [if_pos c3] at h
    unfold dFo at h
    split at h
    · split at h
      · split at h
        · obtain ⟨rfl, rfl, rfl, rfl⟩ := okd_i h
          have := g (tE t L k); have := g (tE t L (tE t L k)); have := g (tE t L (tE t L (tE t L k)))
          exact ⟨by omega, fun z => tE_L (tE_L (tE_L (tE_L z))), c2, .inl rfl, fun z => absurd z (by decide)⟩
        · exact (bd_ok h).elim
      · exact (bd_ok h).elim
    · exact (bd_ok h).elim
  rw [if_neg c3] at h
  by_cases c4 : vbO t L k = 1
  · rw [if_pos c4] at h
    unfold dHo at h
    split at h
    · split at h
      · obtain ⟨rfl, rfl, rfl, rfl⟩ := okd_i h
        have := g (tE t L k); have := g (tE t L (tE t L k))
        exact ⟨by omega, fun z => tE_L (tE_L (tE_L z)), c2, .inr (.inl rfl), fun z => absurd z (by decide)⟩
      · exact (bd_ok h).elim
    · exact (bd_ok h).elim
  rw [if_neg c4] at h
  by_cases c5 : vbO t L k = 2
  · rw [if_pos c5] at h
    unfold dOp at h
    split at h
    · obtain ⟨rfl, rfl, rfl, rfl⟩ := okd_i h
      have := g (tE t L k)
      exact ⟨by omega, fun z => tE_L (tE_L z), c2, .inr (.inr (.inl rfl)), fun z => absurd z (by decide)⟩
    · exact (bd_ok h).elim
  rw [if_neg c5] at h
  unfold dAg at h
  split at h
  · rename_i cn
    split at h
    · split at h
      · exact (bd_ok h).elim
      · rename_i ce
        obtain ⟨rfl, rfl, rfl, rfl⟩ := okd_i h
        have := g (tE t L k); have := g (tE t L (tE t L k))
        exact ⟨by omega, fun z => tE_L (tE_L (tE_L z)), c2, .inr (.inr (.inr rfl)), fun _ => ⟨ce, nuw _ _ _ cn⟩⟩
    · exact (bd_ok h).elim
  · exact (bd_ok h).elim
/-! ranges of DOs, r brackets deep at most -/
def nOK (nm : Nat → Int32) (k : Nat) : Prop := ∃ N, nm k = nI N ∧ 1 ≤ N ∧ N ≤ 50
def WR (vb bh nm : Nat → Int32) (r k to : Nat) : Prop := ∀ P : Nat → Nat → Nat → Prop, (∀ r k, P r k k) → (∀ r k to, k < to → ¬ vb k = 3 → P r (k + 1) to → P r k to) → (∀ r k b to, vb k = 3 → bh k = nI b → k < b → b ≤ to → nOK nm k → P r (k + 1) b → P (r + 1) b to → P (r + 1) k to) → P r k to
section WRS
variable {vb bh nm : Nat → Int32}
theorem WR_nil (r k : Nat) : WR vb bh nm r k k := fun _ h _ _ => h r k
theorem WR_act {r k to : Nat} (h1 : k < to) (h2 : ¬ vb k = 3) (h3 : WR vb bh nm r (k + 1) to) : WR vb bh nm r k to := fun P a b c => b r k to h1 h2 (h3 P a b c)
theorem WR_aga {r k b to : Nat} (h1 : vb k = 3) (h2 : bh k = nI b) (h3 : k < b) (h4 : b ≤ to) (h5 : nOK nm k) (h6 : WR vb bh nm r (k + 1) b) (h7 : WR vb bh nm (r + 1) b to) : WR vb bh nm (r + 1) k to := fun P p q c => c r k b to h1 h2 h3 h4 h5 (h6 P p q c) (h7 P p q c)
theorem WR_le {r k to : Nat} (h : WR vb bh nm r k to) : k ≤ to := h (fun _ k to => k ≤ to) (fun _ _ => Nat.le_refl _) (fun _ _ _ h _ _ => Nat.le_of_lt h) (fun _ _ _ _ _ _ h1 h2 _ _ _ => by omega)
theorem WR_sa {r k to : Nat} (h : WR vb bh nm r k to) (hv : ¬ vb to = 3) : WR vb bh nm r k (to + 1) := by
  refine (h (fun r k to => WR vb bh nm r k to ∧ (¬ vb to = 3 → WR vb bh nm r k (to + 1))) ?_ ?_ ?_).2 hv
  · intro r k
    exact ⟨WR_nil r k, fun q => WR_act (by omega) q (WR_nil r _)⟩
  · intro r k to h1 h2 h3
    exact ⟨WR_act h1 h2 h3.1, fun q => WR_act (by omega) h2 (h3.2 q)⟩
  · intro r k b to h1 h2 h3 h4 h5 h6 h7
    exact ⟨WR_aga h1 h2 h3 h4 h5 h6.1 h7.1, fun q => WR_aga h1 h2 h3 (by omega) h5 h6.1 (h7.2 q)⟩
theorem WR_sg {r k to b : Nat} (h : WR vb bh nm (r + 1) k to) (h1 : vb to = 3) (h2 : bh to = nI b) (h3 : to < b) (h5 : nOK nm to) (h6 : WR vb bh nm r (to + 1) b) : WR vb bh nm (r + 1) k b := by
  refine (h (fun r' k to => WR vb bh nm r' k to ∧ (∀ r b, r' = r + 1 → vb to = 3 → bh to = nI b → to < b → nOK nm to → WR vb bh nm r (to + 1) b → WR vb bh nm r' k b)) ?_ ?_ ?_).2 r b rfl h1 h2 h3 h5 h6
  · intro r k
    refine ⟨WR_nil r k, ?_⟩
    intro r' b e h1 h2 h3 h5 h6
    subst e
    exact WR_aga h1 h2 h3 (Nat.le_refl _) h5 h6 (WR_nil _ _)
  · intro r k to a1 a2 a3
    refine ⟨WR_act a1 a2 a3.1, ?_⟩
    intro r' b e h1 h2 h3 h5 h6
    exact WR_act (by omega) a2 (a3.2 r' b e h1 h2 h3 h5 h6)
  · intro r k b0 to a1 a2 a3 a4 a5 a6 a7
    refine ⟨WR_aga a1 a2 a3 a4 a5 a6.1 a7.1, ?_⟩
    intro r' b e h1 h2 h3 h5 h6
    exact WR_aga a1 a2 a3 (by omega) a5 a6.1 (a7.2 r' b e h1 h2 h3 h5 h6)
theorem WR_cg {vb' bh' nm' : Nat → Int32} {r k to : Nat} (h : WR vb bh nm r k to) (hc : ∀ i, k ≤ i → i < to → vb' i = vb i ∧ (vb i = 3 → bh' i = bh i ∧ nm' i = nm i)) : WR vb' bh' nm' r k to := by
  refine (h (fun r k to => k ≤ to ∧ ((∀ i, k ≤ i → i < to → vb' i = vb i ∧ (vb i = 3 → bh' i = bh i ∧ nm' i = nm i)) → WR vb' bh' nm' r k to)) ?_ ?_ ?_).2 hc
  · intro r k
    exact ⟨Nat.le_refl _, fun _ => WR_nil r k⟩
  · intro r k to h1 h2 h3
    exact ⟨by omega, fun q => WR_act h1 (by rw [(q k (by omega) h1).1]; exact h2) (h3.2 (fun i a b => q i (by omega) b))⟩
  · intro r k b to h1 h2 h3 h4 h5 h6 h7
    refine ⟨by omega, fun q => ?_⟩
    obtain ⟨q1, q2⟩ := q k (by omega) (by omega)
    obtain ⟨q3, q4⟩ := q2 h1
    exact WR_aga (by rw [q1]; exact h1) (by rw [q3]; exact h2) h3 h4 (by unfold nOK; rw [q4]; exact h5) (h6.2 (fun i a b => q i (by omega) (by omega))) (h7.2 (fun i a b => q i (by omega) (by omega)))
end WRS
