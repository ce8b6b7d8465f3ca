/-! the model's words are the bytes -/
theorem b64 : ∀ B : Fin 256, ((nI B.1).toInt64).toBitVec.toNat = B.1 := by decide +kernel
theorem sh8 (x : Int64) : (x <<< ((8 : Int32).toInt64 &&& 63)).toBitVec = x.toBitVec <<< 8 := by
  rw [show ((8 : Int32).toInt64 &&& 63) = 8 from by decide]
  rw [Int64.toBitVec_shiftLeft]
  rfl
theorem wd_step {x : Int64} {b : Int32} {N B : Nat} (hx : x.toBitVec.toNat = N) (hN : N < 2 ^ 48) (hb : b = nI B) (hB : B < 256) : (x <<< ((8 : Int32).toInt64 &&& 63) ||| b.toInt64).toBitVec.toNat = N * 256 + B := by
  subst hb
  rw [Int64.toBitVec_or, sh8, BitVec.toNat_or, BitVec.toNat_shiftLeft, hx, b64 ⟨B, hB⟩, Nat.mod_eq_of_lt (by rw [Nat.shiftLeft_eq]; omega)]
  rw [← Nat.shiftLeft_add_eq_or_of_lt (by omega), Nat.shiftLeft_eq]
theorem le_nI {b : Int32} (h : isLe b = true) : ∃ B, 65 ≤ B ∧ B < 256 ∧ b = nI B := by
  have h0 : ¬ b < 65 ∧ ¬ 122 < b := by
    unfold isLe win at h
    simp only [Bool.or_eq_true, Bool.and_eq_true, Bool.not_eq_true', decide_eq_false_iff_not, Int32.not_lt] at h
    rcases h with h | h
    · exact ⟨Int32.not_lt.mpr (Int32.le_trans (by decide) h.1), Int32.not_lt.mpr h.2⟩
    · exact ⟨Int32.not_lt.mpr h.1, Int32.not_lt.mpr (Int32.le_trans h.2 (by decide))⟩
  obtain ⟨j, hj, rfl⟩ := nI_of (x := b) (fun q => h0.1 (Int32.lt_of_lt_of_le q (by decide)))
  refine ⟨j, ?_, ?_, rfl⟩
  · exact Nat.le_of_not_lt (fun z => h0.1 (Int32.not_le.mp (nI_ge (a := j) (b := 65) z (by omega))))
  · exact Nat.lt_of_not_le (fun z => h0.2 (Int32.not_le.mp (nI_ge (a := 122) (b := j) (by omega) hj)))
def wNn (B : Nat → Nat) : Nat → Nat
  | 0 => 0
  | j + 1 => wNn B j * 256 + B j
theorem wd_val {t : Nat → Int32} {s : Nat} {B : Nat → Nat} : ∀ j, j ≤ 5 → (∀ i, i < j → B i < 256 ∧ t (s + i) = nI (B i)) → (wdF t s j).toBitVec.toNat = wNn B j ∧ wNn B j < 256 ^ j
  | 0, _, _ => ⟨rfl, Nat.one_pos⟩
  | j + 1, hj, hb => by
    obtain ⟨h1, h2⟩ := wd_val (t := t) (s := s) (B := B) j (by omega) (fun i hi => hb i (by omega))
    obtain ⟨b1, b2⟩ := hb j (by omega)
    have h3 : 256 ^ j ≤ 256 ^ 4 := Nat.pow_le_pow_right (by omega) (by omega)
    have e : wdF t s (j + 1) = (wdF t s j) <<< ((8 : Int32).toInt64 &&& 63) ||| (t (s + j)).toInt64 := by
      show (if j < 5 then _ else _) = _
      rw [if_pos (by omega)]
    refine ⟨?_, ?_⟩
    · rw [e, wd_step h1 (by omega) b2 b1]
      rfl
    · show wNn B j * 256 + B j < 256 ^ (j + 1)
      rw [Nat.pow_succ]
      omega
theorem i64_eq {x y : Int64} : x = y ↔ x.toBitVec.toNat = y.toBitVec.toNat := by
  constructor
  · intro q; rw [q]
  · intro q
    exact Int64.toBitVec_inj.mp (BitVec.eq_of_toNat_eq q)
theorem nI_ij {a b : Nat} (ha : a < 2 ^ 31) (hb : b < 2 ^ 31) : nI a = nI b ↔ a = b := by
  constructor
  · intro q
    have := congrArg Int32.toNatClampNeg q
    rwa [nI_clamp ha, nI_clamp hb] at this
  · intro q; rw [q]
theorem dg {x y x' y' : Nat} (h1 : y < 256) (h2 : y' < 256) : x * 256 + y = x' * 256 + y' ↔ x = x' ∧ y = y' := by omega
theorem word4 {t : Nat → Int32} {s n : Nat} {B : Nat → Nat} {W : Int64} {c0 c1 c2 c3 : Nat} (hW : W.toBitVec.toNat = ((c0 * 256 + c1) * 256 + c2) * 256 + c3) (h0 : 1 ≤ c0 ∧ c0 < 256) (h1 : c1 < 256) (h2 : c2 < 256) (h3 : c3 < 256) (hn : n ≤ 5) (hb : ∀ i, i < n → 65 ≤ B i ∧ B i < 256 ∧ t (s + i) = nI (B i)) : wdF t s n = W ↔ n = 4 ∧ ∀ i, i < 4 → t (s + i) = [nI c0, nI c1, nI c2, nI c3].getD i 0 := by
  obtain ⟨v1, v2⟩ := wd_val (t := t) (s := s) (B := B) n hn (fun i hi => (hb i hi).2)
  rw [i64_eq, v1, hW]
  have key : wNn B n = ((c0 * 256 + c1) * 256 + c2) * 256 + c3 ↔ n = 4 ∧ B 0 = c0 ∧ B 1 = c1 ∧ B 2 = c2 ∧ B 3 = c3 := by
    rcases (show n = 0 ∨ n = 1 ∨ n = 2 ∨ n = 3 ∨ n = 4 ∨ n = 5 by omega) with e | e | e | e | e | e
    · subst e; simp only [wNn]; omega
    · subst e; have := hb 0 (by omega); simp only [wNn]; omega
    · subst e; have := hb 0 (by omega); have := hb 1 (by omega); simp only [wNn]; omega
    · subst e; have := hb 0 (by omega); have := hb 1 (by omega); have := hb 2 (by omega); simp only [wNn]; omega
    · subst e; have := hb 0 (by omega); have := hb 1 (by omega); have := hb 2 (by omega); have := hb 3 (by omega); simp only [wNn]; rw [dg (show B 3 < 256 by omega) h3, dg (show B 2 < 256 by omega) h2, dg (show B 1 < 256 by omega) h1]; exact ⟨fun q => ⟨trivial, by omega, q.1.1.2, q.1.2, q.2⟩, fun q => ⟨⟨⟨by omega, q.2.2.1⟩, q.2.2.2.1⟩, q.2.2.2.2⟩⟩
    · subst e; have := hb 0 (by omega); have := hb 1 (by omega); have := hb 2 (by omega); have := hb 3 (by omega); have := hb 4 (by omega); simp only [wNn]; omega
  rw [key]
  constructor
  · rintro ⟨rfl, e0, e1, e2, e3⟩
    refine ⟨rfl, fun i hi => ?_⟩
    rcases (show i = 0 ∨ i = 1 ∨ i = 2 ∨ i = 3 by omega) with e | e | e | e <;> subst e
    · rw [(hb 0 (by omega)).2.2, e0]; rfl
    · rw [(hb 1 (by omega)).2.2, e1]; rfl
    · rw [(hb 2 (by omega)).2.2, e2]; rfl
    · rw [(hb 3 (by omega)).2.2, e3]; rfl
  · rintro ⟨rfl, q⟩
    have g : ∀ i c, i < 4 → c < 256 → t (s + i) = nI c → B i = c := fun i c hi hc z => by
      have := hb i hi
      rw [this.2.2] at z
      exact (nI_ij (by omega) (by omega)).mp z
    exact ⟨rfl, g 0 _ (by omega) (by omega) (q 0 (by omega)), g 1 _ (by omega) (by omega) (q 1 (by omega)), g 2 _ (by omega) (by omega) (q 2 (by omega)), g 3 _ (by omega) (by omega) (q 3 (by omega))⟩
theorem word5 {t : Nat → Int32} {s n : Nat} {B : Nat → Nat} {W : Int64} {c0 c1 c2 c3 c4 : Nat} (hW : W.toBitVec.toNat = (((c0 * 256 + c1) * 256 + c2) * 256 + c3) * 256 + c4) (h0 : 1 ≤ c0 ∧ c0 < 256) (h1 : c1 < 256) (h2 : c2 < 256) (h3 : c3 < 256) (h4 : c4 < 256) (hn : n ≤ 5) (hb : ∀ i, i < n → 65 ≤ B i ∧ B i < 256 ∧ t (s + i) = nI (B i)) : wdF t s n = W ↔ n = 5 ∧ ∀ i, i < 5 → t (s + i) = [nI c0, nI c1, nI c2, nI c3, nI c4].getD i 0 := by
  obtain ⟨v1, v2⟩ := wd_val (t := t) (s := s) (B := B) n hn (fun i hi => (hb i hi).2)
  rw [i64_eq, v1, hW]
  have key : wNn B n = (((c0 * 256 + c1) * 256 + c2) * 256 + c3) * 256 + c4 ↔ n = 5 ∧ B 0 = c0 ∧ B 1 = c1 ∧ B 2 = c2 ∧ B 3 = c3 ∧ B 4 = c4 := by
    rcases (show n = 0 ∨ n = 1 ∨ n = 2 ∨ n = 3 ∨ n = 4 ∨ n = 5 by omega) with e | e | e | e | e | e
    · subst e; simp only [wNn]; omega
    · subst e; have := hb 0 (by omega); simp only [wNn]; omega
    · subst e; have := hb 0 (by omega); have := hb 1 (by omega); simp only [wNn]; omega
    · subst e; have := hb 0 (by omega); have := hb 1 (by omega); have := hb 2 (by omega); simp only [wNn]; omega
    · subst e; have := hb 0 (by omega); have := hb 1 (by omega); have := hb 2 (by omega); have := hb 3 (by omega); simp only [wNn]; omega
    · subst e; have := hb 0 (by omega); have := hb 1 (by omega); have := hb 2 (by omega); have := hb 3 (by omega); have := hb 4 (by omega); simp only [wNn]; rw [dg (show B 4 < 256 by omega) h4, dg (show B 3 < 256 by omega) h3, dg (show B 2 < 256 by omega) h2, dg (show B 1 < 256 by omega) h1]; exact ⟨fun q => ⟨trivial, by omega, q.1.1.1.2, q.1.1.2, q.1.2, q.2⟩, fun q => ⟨⟨⟨⟨by omega, q.2.2.1⟩, q.2.2.2.1⟩, q.2.2.2.2.1⟩, q.2.2.2.2.2⟩⟩
  rw [key]
  constructor
  · rintro ⟨rfl, e0, e1, e2, e3, e4⟩
    refine ⟨rfl, fun i hi => ?_⟩
    rcases (show i = 0 ∨ i = 1 ∨ i = 2 ∨ i = 3 ∨ i = 4 by omega) with e | e | e | e | e <;> subst e
    · rw [(hb 0 (by omega)).2.2, e0]; rfl
    · rw [(hb 1 (by omega)).2.2, e1]; rfl
    · rw [(hb 2 (by omega)).2.2, e2]; rfl
    · rw [(hb 3 (by omega)).2.2, e3]; rfl
    · rw [(hb 4 (by omega)).2.2, e4]; rfl
  · rintro ⟨rfl, q⟩
    have g : ∀ i c, i < 5 → c < 256 → t (s + i) = nI c → B i = c := fun i c hi hc z => by
      have := hb i hi
      rw [this.2.2] at z
      exact (nI_ij (by omega) (by omega)).mp z
    exact ⟨rfl, g 0 _ (by omega) (by omega) (q 0 (by omega)), g 1 _ (by omega) (by omega) (q 1 (by omega)), g 2 _ (by omega) (by omega) (q 2 (by omega)), g 3 _ (by omega) (by omega) (q 3 (by omega)), g 4 _ (by omega) (by omega) (q 4 (by omega))⟩
/-- all bytes that were skipped are such -/
theorem sk_all {p : Int32 → Bool} {t : Nat → Int32} {L : Nat} : ∀ r k, L - k = r → ∀ i, k ≤ i → i < sk p t L k → p (t i) = true
  | 0, k, h => by
    intro i h1 h2
    rw [sk_e (by omega)] at h2
    omega
  | r + 1, k, h => by
    intro i h1 h2
    by_cases q : p (t k) = true
    · rw [sk_t (by omega) q] at h2
      by_cases e : i = k
      · subst e; exact q
      · exact sk_all r (k + 1) (by omega) i (by omega) h2
    · rw [sk_f (by simpa using q)] at h2
      omega
theorem tk_let {t : Nat → Int32} {L k : Nat} (h : tC t L k = 2) : ∀ i, i < tE t L k - tS t L k → isLe (t (tS t L k + i)) = true := by
  have h1 : ¬ L ≤ tS t L k := fun z => by unfold tC at h; rw [if_pos z] at h; exact absurd h (by decide)
  have h2 : isLe (t (tS t L k)) = true := by
    refine Bool.not_eq_false _ ▸ fun z => ?_
    unfold tC at h
    rw [if_neg h1, if_neg (by rw [z]; decide)] at h
    revert h
    split
    · decide
    · split <;> decide
  have h3 : tE t L k = sk isLe t L (tS t L k) := by unfold tE; rw [if_neg h1, if_pos h2]
  intro i hi
  exact sk_all (p := isLe) (t := t) (L := L) _ (tS t L k) rfl _ (Nat.le_add_right _ _) (by rw [← h3]; omega)
theorem wIs_4 {t : Nat → Int32} {L k : Nat} {wd W : Int64} {c0 c1 c2 c3 : Nat} (hW : W.toBitVec.toNat = ((c0 * 256 + c1) * 256 + c2) * 256 + c3) (h0 : 1 ≤ c0 ∧ c0 < 256) (h1 : c1 < 256) (h2 : c2 < 256) (h3 : c3 < 256) (hwd : tC t L k = 2 → wd = tW t L k) : (decide (tT t L k = 2) && decide (wd = W)) = wIs t L k [nI c0, nI c1, nI c2, nI c3] := by
  by_cases c : tC t L k = 2
  · rw [decide_eq_true (tT_2.mpr c), hwd c, Bool.true_and]
    unfold wIs tW
    rw [decide_eq_true c, Bool.true_and]
    by_cases c5 : 5 < tE t L k - tS t L k
    · rw [if_pos c5, decide_eq_false (p := (0 : Int64) = W) (fun z => by rw [← z] at hW; have e9 : (0 : Int64).toBitVec.toNat = 0 := rfl; omega), decide_eq_false (p := tE t L k - tS t L k = List.length [nI c0, nI c1, nI c2, nI c3]) (by simp only [List.length]; omega), Bool.false_and]
    · rw [if_neg c5, ← Bool.decide_and]
      refine decide_eq_decide.mpr ?_
      have hb : ∀ i, i < tE t L k - tS t L k → 65 ≤ (t (tS t L k + i)).toNatClampNeg ∧ (t (tS t L k + i)).toNatClampNeg < 256 ∧ t (tS t L k + i) = nI ((t (tS t L k + i)).toNatClampNeg) := fun i hi => by
        obtain ⟨B, b1, b2, b3⟩ := le_nI (tk_let c i hi)
        rw [b3, nI_clamp (by omega)]
        exact ⟨b1, b2, rfl⟩
      exact word4 hW h0 h1 h2 h3 (by omega) hb
  · rw [decide_eq_false (fun z => c (tT_2.mp z)), Bool.false_and]
    unfold wIs
    rw [decide_eq_false c, Bool.false_and]
theorem wIs_5 {t : Nat → Int32} {L k : Nat} {wd W : Int64} {c0 c1 c2 c3 c4 : Nat} (hW : W.toBitVec.toNat = (((c0 * 256 + c1) * 256 + c2) * 256 + c3) * 256 + c4) (h0 : 1 ≤ c0 ∧ c0 < 256) (h1 : c1 < 256) (h2 : c2 < 256) (h3 : c3 < 256) (h4 : c4 < 256) (hwd : tC t L k = 2 → wd = tW t L k) : (decide (tT t L k = 2) && decide (wd = W)) = wIs t L k [nI c0, nI c1, nI c2, nI c3, nI c4] := by
  by_cases c : tC t L k = 2
  · rw [decide_eq_true (tT_2.mpr c), hwd c, Bool.true_and]
    unfold wIs tW
    rw [decide_eq_true c, Bool.true_and]
    by_cases c5 : 5 < tE t L k - tS t L k
    · rw [if_pos c5, decide_eq_false (p := (0 : Int64) = W) (fun z => by rw [← z] at hW; have e9 : (0 : Int64).toBitVec.toNat = 0 := rfl; omega), decide_eq_false (p := tE t L k - tS t L k = List.length [nI c0, nI c1, nI c2, nI c3, nI c4]) (by simp only [List.length]; omega), Bool.false_and]
    · rw [if_neg c5, ← Bool.decide_and]
      refine decide_eq_decide.mpr ?_
      have hb : ∀ i, i < tE t L k - tS t L k → 65 ≤ (t (tS t L k + i)).toNatClampNeg ∧ (t (tS t L k + i)).toNatClampNeg < 256 ∧ t (tS t L k + i) = nI ((t (tS t L k + i)).toNatClampNeg) := fun i hi => by
        obtain ⟨B, b1, b2, b3⟩ := le_nI (tk_let c i hi)
        rw [b3, nI_clamp (by omega)]
        exact ⟨b1, b2, rfl⟩
      exact word5 hW h0 h1 h2 h3 h4 (by omega) hb
  · rw [decide_eq_false (fun z => c (tT_2.mp z)), Bool.false_and]
    unfold wIs
    rw [decide_eq_false c, Bool.false_and]
