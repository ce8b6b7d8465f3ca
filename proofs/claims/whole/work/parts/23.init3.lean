/-! constructor of Search -/
theorem z_num {G : mG} {M : mD} {d mc ms cs sl cs' sl' pc : Nat} {lv : List (Option Value)} {st : List Value} {h : mH} {Q : Option Value → mH → Prop} (e1 : cs = cs') (e2 : sl = sl') (k : Z G M d mc ms cs' sl' pc lv st h Q) : Z G M d mc ms cs sl pc lv st h Q := by
  subst e1; subst e2; exact k
theorem z_gen {G : mG} {M : mD} {d mc ms cs sl pc : Nat} {lv : List (Option Value)} {st : List Value} {h : mH} {Q : Option Value → mH → Prop} (k : ∀ h2, h2 = h → Z G M d mc ms cs sl pc lv st h2 Q) : Z G M d mc ms cs sl pc lv st h Q := k h rfl
theorem hmu_k {h : mH} {k N K : Nat} : hmu h k N K k = aR 3 N (fun i => if i < N then some (k + 1 + i) else none) := by simp [hmu]
theorem hmu_r {h : mH} {k N K q : Nat} (hq : q < N) : hmu h k N K (k + 1 + q) = aI K (fun _ => 0) := by
  unfold hmu
  rw [if_neg (by omega), if_pos (by omega)]
theorem hmu_n {h : mH} {k N K j : Nat} (hj : j < k ∨ k + 1 + N ≤ j) : hmu h k N K j = h j := by
  unfold hmu
  rw [if_neg (by omega), if_neg (by omega)]
def stp (h : mH) (S N k : Nat) (tl : Int32) (pl ly : Nat → Int32) (up : Nat → Bool) (ht : Nat → Int32) : Prop := h S = oStrip S (nI k) tl ∧ h (S + 1) = aI N pl ∧ h (S + 2) = aI N ly ∧ h (S + 3) = aZ N up ∧ h (S + 4) = aI N ht
def oSea (S : Nat) (ce fo wa fd : Int32) : mE := oB 3 [.ref (S + 1), .ref (S + 2), .ref (S + 3), .ref (S + 8), .ref (S + 9), .int ce, .int fo, .int wa, .int fd]
/-- what never changes of a search -/
def seaC (h : mH) (S m : Nat) : Prop := (∃ f, h (S + 2) = aR 2 4 f ∧ ∀ q, q < m → f q = some (S + 22 + 5 * q)) ∧ h (S + 3) = aR 3 4 (fun i => if i < 4 then some (S + 3 + 1 + i) else none) ∧ h (S + 9) = aR 3 12 (fun i => if i < 12 then some (S + 9 + 1 + i) else none)
theorem i_search {G : mG} {h : mH} {S : Nat} (d : Nat) (hd : 3 ≤ d) (hAO : ∀ U, gI G U → va_AO "CreasedPaper$Strip" U) (hAA : ∀ U, gI G U → (Cond.arrayOver (.array .int)).before #[] U = true) (hz : szH h (S + 1)) (hS : h S = oB 3 [.null, .null, .null, .null, .null, .int 0, .int 0, .int 0, .int 0]) : EV G m_X3_init d 41 783 [.ref S] h (fun r h' => r = none ∧ (∀ j, j < S → h' j = h j) ∧ szH h' (S + 42) ∧ h' S = oSea S 0 0 0 0 ∧ h' (S + 1) = aI 3 (fun _ => 0) ∧ seaC h' S 4 ∧ (∀ q, q < 4 → h' (S + 3 + 1 + q) = aI 12 (fun _ => 0)) ∧ h' (S + 8) = aI 12 (fun _ => 0) ∧ (∀ q, q < 12 → h' (S + 9 + 1 + q) = aI 3 (fun _ => 0)) ∧ (∀ q, q < 4 → stp h' (S + 22 + 5 * q) 12 12 0 (cpN nI (fun _ => 0) 12) (cpN (fun _ => 0) (fun _ => 0) 12) (cpN (fun _ => true) (fun _ => false) 12) (fun _ => 0))) := by
  have key : ∀ i, i ≤ 4 → ∀ h1 : mH, (∀ j, j < S → h1 j = h j) → szH h1 (S + 22 + 5 * i) → h1 S = oSea S 0 0 0 0 → h1 (S + 1) = aI 3 (fun _ => 0) → seaC h1 S i → (∀ q, q < 4 → h1 (S + 3 + 1 + q) = aI 12 (fun _ => 0)) → h1 (S + 8) = aI 12 (fun _ => 0) → (∀ q, q < 12 → h1 (S + 9 + 1 + q) = aI 3 (fun _ => 0)) → (∀ q, q < i → stp h1 (S + 22 + 5 * q) 12 12 0 (cpN nI (fun _ => 0) 12) (cpN (fun _ => 0) (fun _ => 0) 12) (cpN (fun _ => true) (fun _ => false) 12) (fun _ => 0)) → Z G m_X3_init d 41 783 (21 + 5 * i) (119 + 166 * i) 51 [some (.ref S), some (.int (nI i))] [] h1 (fun r h' => r = none ∧ (∀ j, j < S → h' j = h j) ∧ szH h' (S + 42) ∧ h' S = oSea S 0 0 0 0 ∧ h' (S + 1) = aI 3 (fun _ => 0) ∧ seaC h' S 4 ∧ (∀ q, q < 4 → h' (S + 3 + 1 + q) = aI 12 (fun _ => 0)) ∧ h' (S + 8) = aI 12 (fun _ => 0) ∧ (∀ q, q < 12 → h' (S + 9 + 1 + q) = aI 3 (fun _ => 0)) ∧ (∀ q, q < 4 → stp h' (S + 22 + 5 * q) 12 12 0 (cpN nI (fun _ => 0) 12) (cpN (fun _ => 0) (fun _ => 0) 12) (cpN (fun _ => true) (fun _ => false) 12) (fun _ => 0))) := by
    refine loopZ (k := 4) _ ?_ ?_
    · intro h1 hf hz1 e0 e1 e2 e3 e8 e9 es
      refine z_ild1 (n := 52) (by decide +kernel) ?_
      refine z_iconst (n := 53) (q := 3) (v := 3) (by decide +kernel) ?_
      refine z_icmp_gt_t (n := 56) (off := 24) (tgt := 77) (by decide +kernel) (by decide) ?_
      refine z_vret (by decide +kernel) rfl (by first | omega | (simp only [List.length]; omega)) ?_
      exact ⟨rfl, hf, hz1, e0, e1, e2, e3, e8, e9, es⟩
    · intro i il ih h1 hf hz e0 e1 e2 e3 e8 e9 es
      obtain ⟨⟨f, ef, hff⟩, e4, e5⟩ := e2
      refine z_ild1 (n := 52) (by decide +kernel) ?_
      refine z_iconst (n := 53) (q := 3) (v := 3) (by decide +kernel) ?_
      refine z_icmp_gt_f (n := 56) (off := 24) (tgt := 77) (by decide +kernel) (nI_nlt (a := 3) (by omega) (by omega)) ?_
      refine z_ald0 (n := 57) (by decide +kernel) ?_
      refine z_getf (n := 60) (idx := 17) (by decide +kernel) fl_X3_17 (by first | assumption | (simp (disch := omega) only [hu_s, hu_n]; first | assumption | rfl)) (by rfl) ?_
      refine z_ild1 (n := 61) (by decide +kernel) ?_
      refine z_new (n := 64) (idx := 15) (k := S + 22 + 5 * i) (by decide +kernel) kc_X3_15 (by intro i9; (try simp only [hFl, hu]); (repeat' split); all_goals first | exact hz i9 | (rw [hz i9]; omega) | (constructor <;> intro q9 <;> first | omega | cases q9)) (by first | omega | (simp only [List.length]; omega)) (by first | omega | (simp only [List.length]; omega)) ?_
      refine z_dup (n := 65) (by decide +kernel) rfl ?_
      refine z_bipush (n := 67) (q := 12) (v := 12) (by decide +kernel) ?_
      refine z_j1 (n := 70) (idx := 32) (by decide +kernel) ml_X3_32 ⟨rfl, rfl⟩ (Nat.le_of_ble_eq_true rfl) (by omega) ⟨by first | omega | (simp only [List.length]; omega), by first | omega | (simp only [List.length]; omega)⟩ (i_strip (S := S + 22 + 5 * i) (N := 12) 2 (by omega) (szH_push hz oB_dd) (by simp (disch := omega) only [hTn, hCr, hFl, hu_s, hu_n]; first | done | assumption | rfl) (by omega)) (fun h67 q67 => ?_)
      obtain ⟨f67, z67, s0, s1, s2, s3, s4⟩ := q67; have g67 : ∀ j, j < S + 22 + 5 * i → h67 j = h1 j := fun j hj => (f67 j hj).trans (hu_n (by omega)); have a67 : h67 (S + 2) = aR 2 4 f := (g67 _ (by omega)).trans ef
      refine z_aast (n := 71) (by decide +kernel) (by first | assumption | (simp (disch := omega) only [hu_s, hu_n]; first | assumption | rfl)) (by first | assumption | (simp (disch := omega) only [hu_s, hu_n]; first | assumption | rfl)) (by first | assumption | exact ix_nI (by omega) (by omega)) ?_
      refine z_inc1 (n := 74) (q := 1) (by decide +kernel) rfl (nI_1 _) ?_
      refine z_goto (n := 77) (off := -23) (tgt := 51) (by decide +kernel) ?_
      refine z_num (cs' := 21 + 5 * (i + 1)) (sl' := 119 + 166 * (i + 1)) (by omega) (by simp only [List.length]; omega) (ih _ (fun j hj => by rw [hu_n (by omega), g67 j (by omega)]; exact hf j hj) (szH_set z67 (by omega) aR_dd) (by rw [hu_n (by omega), g67 _ (by omega)]; exact e0) (by rw [hu_n (by omega), g67 _ (by omega)]; exact e1) ⟨⟨_, hu_s, fun q hq => ?_⟩, by rw [hu_n (by omega), g67 _ (by omega)]; exact e4, by rw [hu_n (by omega), g67 _ (by omega)]; exact e5⟩ (fun q hq => by rw [hu_n (by omega), g67 _ (by omega)]; exact e3 q hq) (by rw [hu_n (by omega), g67 _ (by omega)]; exact e8) (fun q hq => by rw [hu_n (by omega), g67 _ (by omega)]; exact e9 q hq) (fun q hq => ?_))
      · by_cases e : q = i
        · subst e; simp [va_up]
        · simp only [va_up, if_neg e]
          exact hff q (by omega)
      · by_cases e : q = i
        · subst e
          exact ⟨by rw [hu_n (by omega)]; exact s0, by rw [hu_n (by omega)]; exact s1, by rw [hu_n (by omega)]; exact s2, by rw [hu_n (by omega)]; exact s3, by rw [hu_n (by omega)]; exact s4⟩
        · obtain ⟨r0, r1, r2, r3, r4⟩ := es q (by omega)
          exact ⟨by rw [hu_n (by omega), g67 _ (by omega)]; exact r0, by rw [hu_n (by omega), g67 _ (by omega)]; exact r1, by rw [hu_n (by omega), g67 _ (by omega)]; exact r2, by rw [hu_n (by omega), g67 _ (by omega)]; exact r3, by rw [hu_n (by omega), g67 _ (by omega)]; exact r4⟩
  refine ev_1_1 rfl (by decide +kernel) (by decide +kernel) ?_
  refine z_ald0 (n := 1) (by decide +kernel) ?_
  refine z_objI (n := 4) (idx := 3) (by decide +kernel) jl_X3_3 (Nat.le_of_ble_eq_true rfl) (by omega) ?_
  refine z_ald0 (n := 5) (by decide +kernel) ?_
  refine z_iconst (n := 6) (q := 3) (v := 3) (by decide +kernel) ?_
  refine z_newI (n := 8) (k := S + 1) (N := 3) (by decide +kernel) (by intro i9; (try simp only [hFl, hu]); (repeat' split); all_goals first | exact hz i9 | (rw [hz i9]; omega) | (constructor <;> intro q9 <;> first | omega | cases q9)) (by omega) (by first | omega | (simp only [List.length]; omega)) (by first | omega | (simp only [List.length]; omega)) ?_
  refine z_putF (n := 11) (idx := 11) (ty := (.array .int)) (by decide +kernel) fl_X3_11 (by first | assumption | (simp (disch := omega) only [hu_s, hu_n, hmu_n]; first | assumption | rfl)) ⟨_, _, _, rfl, rfl, rfl, by decide +kernel⟩ rfl rfl (Nat.le_of_ble_eq_true rfl) ?_
  refine z_ald0 (n := 12) (by decide +kernel) ?_
  refine z_iconst (n := 13) (q := 4) (v := 4) (by decide +kernel) ?_
  refine z_newS (n := 16) (idx := 15) (k := S + 2) (N := 4) (by decide +kernel) kl_X3_15 hAO (by intro i9; (try simp only [hFl, hu]); (repeat' split); all_goals first | exact hz i9 | (rw [hz i9]; omega) | (constructor <;> intro q9 <;> first | omega | cases q9)) (by omega) (by first | omega | (simp only [List.length]; omega)) (by first | omega | (simp only [List.length]; omega)) ?_
  refine z_putF (n := 19) (idx := 17) (ty := (.array (.object "CreasedPaper$Strip"))) (by decide +kernel) fl_X3_17 (by first | assumption | (simp (disch := omega) only [hu_s, hu_n, hmu_n]; first | assumption | rfl)) ⟨_, _, _, rfl, rfl, rfl, by decide +kernel⟩ rfl rfl (Nat.le_of_ble_eq_true rfl) ?_
  refine z_ald0 (n := 20) (by decide +kernel) ?_
  refine z_iconst (n := 21) (q := 4) (v := 4) (by decide +kernel) ?_
  refine z_bipush (n := 23) (q := 12) (v := 12) (by decide +kernel) ?_
  refine z_mna (n := 27) (idx := 21) (k := S + 3) (N := 4) (K := 12) (by decide +kernel) kl_X3_21 hAA (by intro i9; (try simp only [hFl, hu]); (repeat' split); all_goals first | exact hz i9 | (rw [hz i9]; omega) | (constructor <;> intro q9 <;> first | omega | cases q9)) (by omega) (by omega) (by first | omega | (simp only [List.length]; omega)) (by first | omega | (simp only [List.length]; omega)) ?_
  refine z_putF (n := 30) (idx := 23) (ty := (.array (.array .int))) (by decide +kernel) fl_X3_23 (by first | assumption | (simp (disch := omega) only [hu_s, hu_n, hmu_n]; first | assumption | rfl)) ⟨_, _, _, rfl, rfl, rfl, by decide +kernel⟩ rfl rfl (Nat.le_of_ble_eq_true rfl) ?_
  skip
  refine z_gen (fun h2 e2 => ?_)
  have hz0 := hz
  have hz : szH h2 (S + 8) := by
    rw [e2]
    exact szH_set (szH_mu (k := S + 3) (by intro i9; (try simp only [hFl, hu]); (repeat' split); all_goals first | exact hz i9 | (rw [hz i9]; omega) | (constructor <;> intro q9 <;> first | omega | cases q9))) (by omega) oB_dd
  have g2 : ∀ j, j < S → h2 j = h j := fun j hj => by rw [e2]; simp (disch := omega) only [hu_n, hmu_n]
  have a0 : h2 S = oB 3 [.ref (S + 1), .ref (S + 2), .ref (S + 3), .null, .null, .int 0, .int 0, .int 0, .int 0] := by rw [e2, hu_s]; rfl
  have a1 : h2 (S + 1) = aI 3 (fun _ => 0) := by rw [e2]; simp (disch := omega) only [hu_s, hu_n, hmu_n]
  have a2 : h2 (S + 2) = aR 2 4 (fun _ => none) := by rw [e2]; simp (disch := omega) only [hu_s, hu_n, hmu_n]
  have a3 : h2 (S + 3) = aR 3 4 (fun i => if i < 4 then some (S + 3 + 1 + i) else none) := by rw [e2, hu_n (by omega), hmu_k]
  have a4 : ∀ q, q < 4 → h2 (S + 3 + 1 + q) = aI 12 (fun _ => 0) := fun q hq => by rw [e2, hu_n (by omega), hmu_r hq]
  clear e2
  refine z_ald0 (n := 31) (by decide +kernel) ?_
  refine z_bipush (n := 33) (q := 12) (v := 12) (by decide +kernel) ?_
  refine z_newI (n := 35) (k := S + 8) (N := 12) (by decide +kernel) (by intro i9; (try simp only [hFl, hu]); (repeat' split); all_goals first | exact hz i9 | (rw [hz i9]; omega) | (constructor <;> intro q9 <;> first | omega | cases q9)) (by omega) (by first | omega | (simp only [List.length]; omega)) (by first | omega | (simp only [List.length]; omega)) ?_
  refine z_putF (n := 38) (idx := 26) (ty := (.array .int)) (by decide +kernel) fl_X3_26 (by first | assumption | (simp (disch := omega) only [hu_s, hu_n, hmu_n]; first | assumption | rfl)) ⟨_, _, _, rfl, rfl, rfl, by decide +kernel⟩ rfl rfl (Nat.le_of_ble_eq_true rfl) ?_
  refine z_ald0 (n := 39) (by decide +kernel) ?_
  refine z_bipush (n := 41) (q := 12) (v := 12) (by decide +kernel) ?_
  refine z_iconst (n := 42) (q := 3) (v := 3) (by decide +kernel) ?_
  refine z_mna (n := 46) (idx := 21) (k := S + 9) (N := 12) (K := 3) (by decide +kernel) kl_X3_21 hAA (by intro i9; (try simp only [hFl, hu]); (repeat' split); all_goals first | exact hz i9 | (rw [hz i9]; omega) | (constructor <;> intro q9 <;> first | omega | cases q9)) (by omega) (by omega) (by first | omega | (simp only [List.length]; omega)) (by first | omega | (simp only [List.length]; omega)) ?_
  refine z_putF (n := 49) (idx := 29) (ty := (.array (.array .int))) (by decide +kernel) fl_X3_29 (by first | assumption | (simp (disch := omega) only [hu_s, hu_n, hmu_n]; first | assumption | rfl)) ⟨_, _, _, rfl, rfl, rfl, by decide +kernel⟩ rfl rfl (Nat.le_of_ble_eq_true rfl) ?_
  refine z_iconst (n := 50) (q := 0) (v := 0) (by decide +kernel) ?_
  refine z_ist1 (n := 51) (by decide +kernel) rfl ?_
  skip
  refine z_num (cs' := 21 + 5 * 0) (sl' := 119 + 166 * 0) (by omega) (by omega) (key 0 (by omega) _ (fun j hj => ?_) (szH_set (szH_mu (k := S + 9) (by intro i9; (try simp only [hFl, hu]); (repeat' split); all_goals first | exact hz i9 | (rw [hz i9]; omega) | (constructor <;> intro q9 <;> first | omega | cases q9))) (by omega) oB_dd) (by rw [hu_s]; rfl) ?_ ⟨⟨fun _ => none, ?_, fun q hq => by omega⟩, ?_, ?_⟩ (fun q hq => ?_) ?_ (fun q hq => ?_) (fun q hq => by omega))
  · simp (disch := omega) only [hu_n, hmu_n]
    exact g2 j hj
  · simp (disch := omega) only [hu_n, hmu_n]
    exact a1
  · simp (disch := omega) only [hu_n, hmu_n]
    exact a2
  · simp (disch := omega) only [hu_n, hmu_n]
    exact a3
  · rw [hu_n (by omega), hmu_k]
  · rw [hu_n (by omega), hmu_n (by omega), hu_n (by omega), hu_n (by omega)]
    exact a4 q hq
  · simp (disch := omega) only [hu_n, hu_s, hmu_n]
  · rw [hu_n (by omega), hmu_r hq]
