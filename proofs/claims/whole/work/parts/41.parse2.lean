/-! a text as it is read: what holds of its rows -/
def INV (s : tSt) : Prop := s.1.2.2 ≤ 4 ∧ s.1.2.1 ≤ 40 ∧ (∀ i, i < s.1.2.1 → s.2.1.1 i = 0 ∨ s.2.1.1 i = 1 ∨ s.2.1.1 i = 2 ∨ s.2.1.1 i = 3) ∧ ∃ g : Nat → Nat, (∀ j, j < s.1.2.2 → s.2.2.2.2 j = nI (g j) ∧ s.2.1.1 (g j) = 3 ∧ nOK s.2.1.2.1 (g j) ∧ g j < s.1.2.1) ∧ (∀ j, j ≤ s.1.2.2 → WR s.2.1.1 s.2.2.2.1 s.2.1.2.1 (4 - j) (if j = 0 then 0 else g (j - 1) + 1) (if j < s.1.2.2 then g j else s.1.2.1))
theorem g_mono {vb bh nm : Nat → Int32} {d e : Nat} {g : Nat → Nat} (hw : ∀ j, j ≤ e → WR vb bh nm (4 - j) (if j = 0 then 0 else g (j - 1) + 1) (if j < e then g j else d)) : ∀ j, j < e → ∀ i, i < j → g i < g j
  | 0, _, i, hi => absurd hi (Nat.not_lt_zero _)
  | j + 1, hj, i, hi => by
    have h1 := WR_le (hw (j + 1) (by omega))
    rw [if_neg (by omega), if_pos hj, Nat.add_sub_cancel] at h1
    by_cases c : i = j
    · subst c; omega
    · have := g_mono hw j (by omega) i (by omega)
      omega
theorem upd_ss {f : Nat → Int32} {k : Nat} {x : Int32} : upd f k x k = x := by simp [upd]
theorem INV_cl {t : Nat → Int32} {L : Nat} {s : tSt} (H : INV s) (he : ¬ s.1.2.2 = 0) : INV (clN t L s) := by
  obtain ⟨⟨k, d, e⟩, ⟨vb, nm, rt⟩, ⟨fb, bh, oa⟩⟩ := s
  obtain ⟨h1, h2, h3, g, h4, h5⟩ := H
  dsimp only at *
  obtain ⟨e', rfl⟩ : ∃ e', e = e' + 1 := ⟨e - 1, by omega⟩
  have hg := g_mono h5
  obtain ⟨o1, o2, o3, o4⟩ := h4 e' (by omega)
  refine ⟨by show e' + 1 - 1 ≤ 4; omega, h2, h3, g, ?_, ?_⟩
  · intro j hj
    exact h4 j (by have : j < e' + 1 - 1 := hj; omega)
  · intro j hj
    have hj : j ≤ e' + 1 - 1 := hj
    rw [Nat.add_sub_cancel] at hj
    show WR vb (upd bh (oa (e' + 1 - 1)).toNatClampNeg (nI d)) nm (4 - j) (if j = 0 then 0 else g (j - 1) + 1) (if j < e' + 1 - 1 then g j else d)
    rw [Nat.add_sub_cancel, o1, nI_clamp (by omega)]
    by_cases c : j < e'
    · rw [if_pos c]
      have w := h5 j (by omega)
      rw [if_pos (show j < e' + 1 by omega)] at w
      have := hg e' (by omega) j c
      exact WR_cg w (fun i a b => ⟨rfl, fun _ => ⟨upd_nn (by omega), rfl⟩⟩)
    · have c' : j = e' := by omega
      subst c'
      rw [if_neg c]
      have w := h5 j (by omega)
      rw [if_pos (show j < j + 1 by omega)] at w
      have w2 := h5 (j + 1) (by omega)
      rw [if_neg (show ¬ j + 1 = 0 by omega), if_neg (show ¬ j + 1 < j + 1 by omega), Nat.add_sub_cancel] at w2
      have e4 : 4 - j = (4 - (j + 1)) + 1 := by omega
      rw [e4] at w ⊢
      exact WR_sg (WR_cg w (fun i a b => ⟨rfl, fun _ => ⟨upd_nn (by omega), rfl⟩⟩)) o2 upd_ss o4 o3 (WR_cg w2 (fun i a b => ⟨rfl, fun _ => ⟨upd_nn (by omega), rfl⟩⟩))
theorem win1_50 {x : Int32} (h : win x 1 50 = true) : ∃ N, x = nI N ∧ 1 ≤ N ∧ N ≤ 50 := by
  obtain ⟨u, hu9, rfl⟩ := win1_nat (m := 50) (by omega) h
  exact ⟨u + 1, rfl, by omega, hu9⟩
theorem INV_ok {t : Nat → Int32} {L : Nat} {s : tSt} {v num : Int32} {right : Bool} {k' : Nat} (H : INV s) (h : dR t L s.1.1 s.1.2.1 s.1.2.2 = okd v num right k') : INV (okN t L s v num right k') := by
  obtain ⟨_, _, hd, hv, hv3⟩ := dR_ok h
  obtain ⟨⟨k, d, e⟩, ⟨vb, nm, rt⟩, ⟨fb, bh, oa⟩⟩ := s
  obtain ⟨h1, h2, h3, g, h4, h5⟩ := H
  dsimp only at *
  have hd' : d < 40 := by omega
  have hvb : ∀ i, i < d + 1 → upd vb d v i = 0 ∨ upd vb d v i = 1 ∨ upd vb d v i = 2 ∨ upd vb d v i = 3 := by
    intro i hi
    by_cases c : i = d
    · subst c; rw [upd_ss]; exact hv
    · rw [upd_nn c]; exact h3 i (by omega)
  have cg : ∀ i, i < d → upd vb d v i = vb i ∧ (vb i = 3 → bh i = bh i ∧ (if v = 2 then nm else upd nm d num) i = nm i) := by
    intro i hi
    refine ⟨upd_nn (by omega), fun _ => ⟨rfl, ?_⟩⟩
    split
    · rfl
    · exact upd_nn (by omega)
  have cgn : ∀ i, i < d → nOK nm i → nOK (if v = 2 then nm else upd nm d num) i := by
    intro i hi q
    split
    · exact q
    · unfold nOK; rw [upd_nn (by omega)]; exact q
  by_cases c3 : v = 3
  · obtain ⟨he, hn⟩ := hv3 c3
    subst c3
    refine ⟨by show e + 1 ≤ 4; omega, by show d + 1 ≤ 40; omega, hvb, fun j => if j = e then d else g j, ?_, ?_⟩
    · intro j hj
      have hj : j < e + 1 := hj
      show upd oa e (nI d) j = nI (if j = e then d else g j) ∧ upd vb d 3 (if j = e then d else g j) = 3 ∧ nOK (upd nm d num) (if j = e then d else g j) ∧ (if j = e then d else g j) < d + 1
      by_cases c : j = e
      · subst c
        rw [if_pos rfl, upd_ss, upd_ss]
        obtain ⟨N, q⟩ := win1_50 hn
        exact ⟨rfl, rfl, ⟨N, by rw [upd_ss]; exact q⟩, by omega⟩
      · rw [if_neg c]
        obtain ⟨o1, o2, o3, o4⟩ := h4 j (by omega)
        exact ⟨by rw [upd_nn c]; exact o1, by rw [upd_nn (by omega)]; exact o2, cgn _ o4 o3, by omega⟩
    · intro j hj
      have hj : j ≤ e + 1 := hj
      show WR (upd vb d 3) bh (upd nm d num) (4 - j) (if j = 0 then 0 else (if j - 1 = e then d else g (j - 1)) + 1) (if j < e + 1 then (if j = e then d else g j) else d + 1)
      by_cases c : j = e + 1
      · subst c
        rw [if_neg (show ¬ e + 1 = 0 by omega), Nat.add_sub_cancel, if_pos rfl, if_neg (show ¬ e + 1 < e + 1 by omega)]
        exact WR_nil _ _
      · have w := h5 j (by omega)
        have z0 : (if j = 0 then 0 else (if j - 1 = e then d else g (j - 1)) + 1) = (if j = 0 then 0 else g (j - 1) + 1) := by
          by_cases c0 : j = 0
          · rw [if_pos c0, if_pos c0]
          · rw [if_neg c0, if_neg c0, if_neg (show ¬ j - 1 = e by omega)]
        rw [z0, if_pos (show j < e + 1 by omega)]
        by_cases cj : j = e
        · rw [if_pos cj]
          rw [if_neg (show ¬ j < e by omega)] at w
          exact WR_cg w (fun i a b => cg i b)
        · rw [if_neg cj]
          rw [if_pos (show j < e by omega)] at w
          have := (h4 j (by omega)).2.2.2
          exact WR_cg w (fun i a b => cg i (by omega))
  · have e3 : (if v = 3 then e + 1 else e) = e := if_neg c3
    have e4 : (if v = 3 then upd oa e (nI d) else oa) = oa := if_neg c3
    refine ⟨?_, by show d + 1 ≤ 40; omega, hvb, g, ?_, ?_⟩
    · show (if v = 3 then e + 1 else e) ≤ 4
      rw [e3]; exact h1
    · intro j hj
      have hj : j < (if v = 3 then e + 1 else e) := hj
      rw [e3] at hj
      show (if v = 3 then upd oa e (nI d) else oa) j = nI (g j) ∧ upd vb d v (g j) = 3 ∧ nOK (if v = 2 then nm else upd nm d num) (g j) ∧ g j < d + 1
      rw [e4]
      obtain ⟨o1, o2, o3, o4⟩ := h4 j hj
      exact ⟨o1, by rw [upd_nn (by omega)]; exact o2, cgn _ o4 o3, by omega⟩
    · intro j hj
      have hj : j ≤ (if v = 3 then e + 1 else e) := hj
      rw [e3] at hj
      show WR (upd vb d v) bh (if v = 2 then nm else upd nm d num) (4 - j) (if j = 0 then 0 else g (j - 1) + 1) (if j < (if v = 3 then e + 1 else e) then g j else d + 1)
      rw [e3]
      have w := h5 j hj
      by_cases cj : j < e
      · rw [if_pos cj] at w ⊢
        have := (h4 j cj).2.2.2
        exact WR_cg w (fun i a b => cg i (by omega))
      · rw [if_neg cj] at w ⊢
        exact WR_sa (WR_cg w (fun i a b => cg i b)) (by rw [upd_ss]; exact c3)
/-- the model's rows say the same -/
def MR (s : tSt) (so mu fr un op : Nat → Int32) : Prop := (∀ i, i < s.1.2.1 → so i = sC (s.2.1.1 i) (s.2.1.2.2 i) ∧ (¬ s.2.1.1 i = 2 → mu i = s.2.1.2.1 i) ∧ fr i = s.2.2.1 i ∧ (s.2.1.1 i = 3 → (∃ j, j < s.1.2.2 ∧ s.2.2.2.2 j = nI i) ∨ un i = s.2.2.2.1 i)) ∧ ∀ j, j < s.1.2.2 → op j = s.2.2.2.2 j
theorem updB_nn {f : Nat → Bool} {k j : Nat} {x : Bool} (hj : j ≠ k) : updB f k x j = f j := by simp [updB, hj]
theorem sC_rt {v : Int32} {a b : Bool} (h : ¬ v = 0) : sC v a = sC v b := by unfold sC; rw [if_neg h, if_neg h]
theorem MR_ok {t : Nat → Int32} {L : Nat} {s : tSt} {so mu fr un op : Nat → Int32} {v num : Int32} {right : Bool} {k' : Nat} (H : MR s so mu fr un op) : MR (okN t L s v num right k') (upd so s.1.2.1 (sC v right)) (if v = 2 then mu else upd mu s.1.2.1 num) (upd fr s.1.2.1 (nI (tS t L s.1.1))) un (if v = 3 then upd op s.1.2.2 (nI s.1.2.1) else op) := by
  obtain ⟨⟨k, d, e⟩, ⟨vb, nm, rt⟩, ⟨fb, bh, oa⟩⟩ := s
  obtain ⟨H1, H2⟩ := H
  dsimp only at *
  refine ⟨?_, ?_⟩
  · intro i hi
    have hi : i < d + 1 := hi
    show upd so d (sC v right) i = sC (upd vb d v i) ((if v = 0 then updB rt d right else rt) i) ∧ (¬ upd vb d v i = 2 → (if v = 2 then mu else upd mu d num) i = (if v = 2 then nm else upd nm d num) i) ∧ upd fr d (nI (tS t L k)) i = upd fb d (nI (tS t L k)) i ∧ (upd vb d v i = 3 → (∃ j, j < (if v = 3 then e + 1 else e) ∧ (if v = 3 then upd oa e (nI d) else oa) j = nI i) ∨ un i = bh i)
    by_cases c : i = d
    · subst c
      rw [upd_ss, upd_ss, upd_ss, upd_ss]
      refine ⟨?_, ?_, rfl, ?_⟩
      · by_cases c0 : v = 0
        · rw [if_pos c0]; simp [updB]
        · exact sC_rt c0
      · intro q
        rw [if_neg q, if_neg q, upd_ss, upd_ss]
      · intro q
        refine .inl ⟨e, ?_, ?_⟩
        · rw [if_pos q]; omega
        · rw [if_pos q, upd_ss]
    · obtain ⟨a1, a2, a3, a4⟩ := H1 i (by omega)
      rw [upd_nn c, upd_nn c, upd_nn c, upd_nn c]
      refine ⟨?_, ?_, a3, ?_⟩
      · rw [a1]
        split
        · rw [updB_nn c]
        · rfl
      · intro q
        split
        · exact a2 q
        · rw [upd_nn c, upd_nn c]; exact a2 q
      · intro q
        rcases a4 q with ⟨j, j1, j2⟩ | z
        · refine .inl ⟨j, ?_, ?_⟩
          · split <;> omega
          · split
            · rw [upd_nn (by omega)]; exact j2
            · exact j2
        · exact .inr z
  · intro j hj
    have hj : j < (if v = 3 then e + 1 else e) := hj
    show (if v = 3 then upd op e (nI d) else op) j = (if v = 3 then upd oa e (nI d) else oa) j
    by_cases c3 : v = 3
    · rw [if_pos c3] at hj ⊢
      rw [if_pos c3]
      by_cases c : j = e
      · subst c; rw [upd_ss, upd_ss]
      · rw [upd_nn c, upd_nn c]; exact H2 j (by omega)
    · rw [if_neg c3] at hj ⊢
      rw [if_neg c3]
      exact H2 j hj
theorem MR_cl {t : Nat → Int32} {L : Nat} {s : tSt} {so mu fr un op : Nat → Int32} (I : INV s) (H : MR s so mu fr un op) (he : ¬ s.1.2.2 = 0) : MR (clN t L s) so mu fr (upd un (op (s.1.2.2 - 1)).toNatClampNeg (nI s.1.2.1)) op := by
  obtain ⟨⟨k, d, e⟩, ⟨vb, nm, rt⟩, ⟨fb, bh, oa⟩⟩ := s
  obtain ⟨H1, H2⟩ := H
  obtain ⟨h1, h2, h3, g, h4, h5⟩ := I
  dsimp only at *
  obtain ⟨e', rfl⟩ : ∃ e', e = e' + 1 := ⟨e - 1, by omega⟩
  obtain ⟨o1, o2, o3, o4⟩ := h4 e' (by omega)
  rw [H2 _ (by omega)]
  refine ⟨?_, ?_⟩
  · intro i hi
    obtain ⟨a1, a2, a3, a4⟩ := H1 i hi
    refine ⟨a1, a2, a3, ?_⟩
    intro q
    show (∃ j, j < e' + 1 - 1 ∧ oa j = nI i) ∨ upd un (oa (e' + 1 - 1)).toNatClampNeg (nI d) i = upd bh (oa (e' + 1 - 1)).toNatClampNeg (nI d) i
    rw [Nat.add_sub_cancel, o1, nI_clamp (by omega)]
    by_cases c : i = g e'
    · subst c; rw [upd_ss, upd_ss]; exact .inr rfl
    · rcases a4 q with ⟨j, j1, j2⟩ | z
      · by_cases cj : j = e'
        · subst cj
          rw [o1] at j2
          exact absurd ((nI_ij (by omega) (by have : i < d := hi; omega)).mp j2).symm c
        · exact .inl ⟨j, by omega, j2⟩
      · rw [upd_nn c, upd_nn c]; exact .inr z
  · intro j hj
    exact H2 j (by have : j < e' + 1 - 1 := hj; omega)
