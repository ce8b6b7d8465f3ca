/-! the class's paper and the model's cells -/
def Rp (n : Nat) (p : pS) (a : Nat → Int32) : Prop := (∀ u, u ≤ n → a (10 + u) = p.2.1 0 u ∧ a (50 + u) = p.2.1 1 u ∧ a (90 + u) = bI (p.2.2 0 u)) ∧ (∀ q, q < n → a (130 + 6 * (q + 1)) = p.2.1 2 (q + 1) ∧ a (130 + 6 * (q + 1) + 1) = p.2.1 3 (q + 1) ∧ a (130 + 6 * (q + 1) + 2) = p.2.1 4 (q + 1) ∧ a (130 + 6 * (q + 1) + 3) = p.2.1 5 (q + 1) ∧ a (130 + 6 * (q + 1) + 4) = p.2.1 6 (q + 1) ∧ a (130 + 6 * (q + 1) + 5) = bI (p.2.2 1 (q + 1))) ∧ (a 0 = p.1 4 ∧ a 1 = p.1 5 ∧ a 5 = p.1 0 ∧ a 6 = p.1 1 ∧ a 7 = p.1 2 ∧ a 8 = p.1 3)
def Ip (n : Nat) (p : pS) : Prop := (0 ≤ (p.1 4).toInt ∧ (p.1 4).toInt ≤ 100000) ∧ 0 ≤ p.1 3 ∧ (∀ u, u ≤ n → -(40 * ((p.1 4).toInt + 1)) ≤ (p.2.1 0 u).toInt ∧ (p.2.1 0 u).toInt ≤ 40 * ((p.1 4).toInt + 1)) ∧ (∀ u, u < n → (p.2.1 0 u).toInt - (p.2.1 0 (u + 1)).toInt ≤ 1 ∧ (p.2.1 0 (u + 1)).toInt - (p.2.1 0 u).toInt ≤ 1) ∧ ∀ q, q < n → p.2.1 2 (q + 1) = 0 ∨ p.2.1 2 (q + 1) = 1 ∨ p.2.1 2 (q + 1) = 2
theorem itr_if {c : Prop} [Decidable c] {f g : Int32 → Int32} {h : Int32 → Int32} (e : ∀ r, h r = if c then f r else g r) (t : Nat) (r : Int32) : itr h t r = if c then itr f t r else itr g t r := by
  by_cases k : c
  · have : h = f := by funext r; rw [e, if_pos k]
    rw [this, if_pos k]
  · have : h = g := by funext r; rw [e, if_neg k]
    rw [this, if_neg k]
theorem R_pas {n t : Nat} {p : pS} {a : Nat → Int32} (hn : n < 40) (R : Rp n p a) : Rp n (pasS n t p) (paA n t a) := by
  obtain ⟨R1, R2, r0, r1, r5, r6, r7, r8⟩ := R
  refine ⟨fun u hu9 => ?_, fun q hq => ?_, ?_, ?_, ?_, ?_, ?_, ?_⟩
  · rw [paA_o (by omega) (by omega) (fun q hq => by omega), paA_o (by omega) (by omega) (fun q hq => by omega), paA_o (by omega) (by omega) (fun q hq => by omega)]
    exact R1 u hu9
  · obtain ⟨e0, e1, e2, e3, e4, e5⟩ := R2 q hq
    refine ⟨?_, ?_, ?_, ?_, ?_, ?_⟩
    · rw [paA_o (by omega) (by omega) (fun q hq => by omega)]; exact e0
    · rw [paA_r hn hq, e0, e1]
      show _ = cu (fun j => !decide (p.2.1 2 (j + 1) = 0)) (rsF (p.1 0) (p.1 1) t (p.2.1 0) (p.2.1 3)) (p.2.1 3) n (q + 1)
      unfold cu
      rw [Nat.add_sub_cancel]
      by_cases c : p.2.1 2 (q + 1) = 0
      · rw [if_pos c, if_neg (fun z => by have h9 : (!decide (p.2.1 2 (q + 1) = 0)) = true := z.2.2; rw [decide_eq_true c] at h9; exact Bool.noConfusion h9)]
      · rw [if_neg c, if_pos ⟨by omega, by omega, show (!decide (p.2.1 2 (q + 1) = 0)) = true from by rw [decide_eq_false c]; rfl⟩]
        unfold rsF
        rw [Nat.add_sub_cancel]
        refine itr_if (fun r => ?_) t _
        unfold stF
        rw [(R1 q (by omega)).1, (R1 (q + 1) (by omega)).1, r5, r6]
    · rw [paA_o (by omega) (by omega) (fun q hq => by omega)]; exact e2
    · rw [paA_o (by omega) (by omega) (fun q hq => by omega)]; exact e3
    · rw [paA_o (by omega) (by omega) (fun q hq => by omega)]; exact e4
    · rw [paA_o (by omega) (by omega) (fun q hq => by omega)]; exact e5
  · rw [paA_0, r0]; rfl
  · rw [paA_1, r1]; rfl
  · rw [paA_o (by omega) (by omega) (fun q hq => by omega)]; exact r5
  · rw [paA_o (by omega) (by omega) (fun q hq => by omega)]; exact r6
  · rw [paA_o (by omega) (by omega) (fun q hq => by omega)]; exact r7
  · rw [paA_o (by omega) (by omega) (fun q hq => by omega)]; exact r8
theorem clk {x : Int32} {t : Nat} (h0 : 0 ≤ x.toInt) (h1 : x.toInt ≤ 100000) (ht : t ≤ 100000) : (x + nI t).toInt = x.toInt + t := by
  rw [Int32.toInt_add, nI_toInt (by omega)]
  exact Int.bmod_eq_of_le (by omega) (by omega)
theorem I_pas {n t : Nat} {p : pS} (I : Ip n p) (ht : (p.1 4).toInt + t ≤ 100000) : Ip n (pasS n t p) := by
  obtain ⟨⟨i1, i2⟩, i3, i4, i5, i6⟩ := I
  have e : ((pasS n t p).1 4).toInt = (p.1 4).toInt + t := by
    show (p.1 4 + nI t).toInt = _
    exact clk i1 i2 (by omega)
  refine ⟨by rw [e]; omega, i3, fun u hu9 => ?_, i5, i6⟩
  rw [e]
  have := i4 u hu9
  show _ ≤ (p.2.1 0 u).toInt ∧ (p.2.1 0 u).toInt ≤ _
  omega
/-- what acts leave of the rest -/
def oth (j : Nat) : Prop := j = 2 ∨ j = 3 ∨ j = 4 ∨ 370 ≤ j
theorem oth_pa {n t j : Nat} {a : Nat → Int32} (hn : n < 40) (h : oth j) : paA n t a j = a j := by
  unfold oth at h
  exact paA_o (by omega) (by omega) (fun q hq => by omega)
theorem oth_fl {m j : Nat} {a : Nat → Int32} (hm : m ≤ 40) (h : oth j) : flA a m j = a j := by
  unfold oth at h
  exact flA_o m (fun u hu9 => by omega)
/-- hold -/
theorem R_hold {n : Nat} {p : pS} {a : Nat → Int32} {x : Int32} (hn : n < 40) (R : Rp n p a) (I : Ip n p) : (hldP n x p).1 = (win x 1 1000 && decide (a 0 + x ≤ 100000)) ∧ ((hldP n x p).1 = true → Rp n (hldP n x p).2 (paA n x.toNatClampNeg a) ∧ Ip n (hldP n x p).2 ∧ 0 ≤ (hldP n x p).2.1 4) ∧ ((hldP n x p).1 = false → (hldP n x p).2 = p) := by
  have r0 := R.2.2.1
  unfold hldP win
  by_cases c1 : x < 1
  · rw [if_pos c1, decide_eq_true c1]
    exact ⟨rfl, fun z => Bool.noConfusion z, fun _ => rfl⟩
  by_cases c2 : 1000 < x
  · rw [if_neg c1, if_pos c2, decide_eq_true c2, decide_eq_false c1]
    exact ⟨rfl, fun z => Bool.noConfusion z, fun _ => rfl⟩
  rw [if_neg c1, if_neg c2, decide_eq_false c1, decide_eq_false c2, r0]
  by_cases c3 : p.1 4 + x ≤ 100000
  · rw [if_pos c3, decide_eq_true c3]
    refine ⟨rfl, fun _ => ?_, fun z => Bool.noConfusion z⟩
    have b1 : (1 : Int) ≤ x.toInt := Int32.le_iff_toInt_le.mp (Int32.not_lt.mp c1)
    have b2 : x.toInt ≤ 1000 := Int32.le_iff_toInt_le.mp (Int32.not_lt.mp c2)
    obtain ⟨k, hk, rfl⟩ : ∃ k : Nat, k ≤ 1000 ∧ x = nI k := by
      refine ⟨x.toInt.toNat, by omega, Int32.toInt_inj.mp ?_⟩
      rw [nI_toInt (by omega)]
      omega
    rw [nI_clamp (by omega)]
    have b3 := Int32.le_iff_toInt_le.mp c3
    rw [clk I.1.1 I.1.2 (by omega)] at b3
    have b4 : (100000 : Int32).toInt = 100000 := rfl
    have I2 := I_pas (t := k) I (by omega)
    refine ⟨R_pas hn R, I2, ?_⟩
    rw [Int32.le_iff_toInt_le]
    exact I2.1.1
  · rw [if_neg c3, decide_eq_false c3]
    exact ⟨rfl, fun z => Bool.noConfusion z, fun _ => rfl⟩
theorem R_fla {n : Nat} {p : pS} {a : Nat → Int32} (hn : n < 40) (R : Rp n p a) : Rp n (flaS n p) (flA a (n + 1)) := by
  obtain ⟨R1, R2, r0, r1, r5, r6, r7, r8⟩ := R
  have o : ∀ j, (j < 10 ∨ 130 ≤ j) → flA a (n + 1) j = a j := fun j hj => flA_o _ (fun u hu9 => by omega)
  refine ⟨fun u hu9 => ?_, fun q hq => ?_, ?_, ?_, ?_, ?_, ?_, ?_⟩
  · obtain ⟨e1, e2, e3⟩ := flA_c (a := a) (u := u) (n + 1) (by omega) (by omega)
    rw [e1, e2, e3]
    refine ⟨?_, ?_, ?_⟩
    · exact (cpN_at (by omega)).symm
    · exact (cpN_at (f := fun _ => (0 : Int32)) (by omega)).symm
    · show _ = bI (cpN (fun _ => true) (p.2.2 0) (n + 1) u)
      rw [cpN_at (by omega)]
      rfl
  · rw [o _ (by omega), o _ (by omega), o _ (by omega), o _ (by omega), o _ (by omega), o _ (by omega)]
    exact R2 q hq
  · rw [o _ (by omega)]; exact r0
  · rw [o _ (by omega)]; exact r1
  · rw [o _ (by omega)]; exact r5
  · rw [o _ (by omega)]; exact r6
  · rw [o _ (by omega)]; exact r7
  · rw [o _ (by omega)]; exact r8
theorem I_fla {n : Nat} {p : pS} (hn : n < 40) (I : Ip n p) : Ip n (flaS n p) := by
  obtain ⟨⟨i1, i2⟩, i3, i4, i5, i6⟩ := I
  have e : ∀ u, u ≤ n → ((flaS n p).2.1 0 u).toInt = u := fun u hu9 => by
    show (cpN nI (p.2.1 0) (n + 1) u).toInt = u
    rw [cpN_at (by omega), nI_toInt (by omega)]
  refine ⟨⟨i1, i2⟩, i3, fun u hu9 => ?_, fun u hu9 => ?_, i6⟩
  · rw [e u hu9]
    show -(40 * ((p.1 4).toInt + 1)) ≤ (u : Int) ∧ (u : Int) ≤ 40 * ((p.1 4).toInt + 1)
    omega
  · rw [e u (by omega), e (u + 1) (by omega)]
    omega
theorem c_max {x : Int32} (h1 : x.toInt ≤ 100000) : (x < 100000) ↔ ¬ x = 100000 := by
  have b4 : (100000 : Int32).toInt = 100000 := rfl
  rw [Int32.lt_iff_toInt_lt, ← Int32.toInt_inj, b4]
  omega
/-- open -/
theorem R_open {n : Nat} {p : pS} {a : Nat → Int32} (hn : n < 40) (R : Rp n p a) (I : Ip n p) : ((opnP n p).1 = !decide (a 0 = 100000)) ∧ ((opnP n p).1 = true → Rp n (opnP n p).2 (paA n 1 (flA a (n + 1))) ∧ Ip n (opnP n p).2 ∧ 0 ≤ (opnP n p).2.1 4) ∧ ((opnP n p).1 = false → (opnP n p).2 = p) := by
  have r0 := R.2.2.1
  have cm := c_max I.1.2
  unfold opnP
  rw [r0]
  by_cases c : p.1 4 < 100000
  · rw [if_pos c, decide_eq_false (cm.mp c)]
    refine ⟨rfl, fun _ => ?_, fun z => Bool.noConfusion z⟩
    have b := Int32.lt_iff_toInt_lt.mp c
    have b4 : (100000 : Int32).toInt = 100000 := rfl
    have I2 := I_pas (t := 1) (I_fla hn I) (by show (p.1 4).toInt + 1 ≤ 100000; omega)
    refine ⟨R_pas hn (R_fla hn R), I2, ?_⟩
    rw [Int32.le_iff_toInt_le]
    exact I2.1.1
  · rw [if_neg c, decide_eq_true (Decidable.byContradiction (fun z => c (cm.mpr z)))]
    exact ⟨rfl, fun z => Bool.noConfusion z, fun _ => rfl⟩
