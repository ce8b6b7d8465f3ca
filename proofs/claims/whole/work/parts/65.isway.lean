/-! CreasedPaperModel: isWay -/
def allN (f : Nat → Bool) : Nat → Nat → Bool
  | 0, _ => true
  | m + 1, u => f u && allN f m (u + 1)
theorem allN_iff {f : Nat → Bool} : ∀ m u, allN f m u = true ↔ ∀ l, u ≤ l → l < u + m → f l = true
  | 0, u => by
    constructor
    · intro _ l h1 h2; omega
    · intro _; rfl
  | m + 1, u => by
    rw [allN, Bool.and_eq_true, allN_iff m (u + 1)]
    constructor
    · rintro ⟨h1, h2⟩ l h3 h4
      by_cases c : l = u
      · subst c; exact h1
      · exact h2 l (by omega) (by omega)
    · intro h
      exact ⟨h u (Nat.le_refl _) (by omega), fun l h1 h2 => h l (by omega) (by omega)⟩
def al2 (n : Nat) (f : Nat → Bool) : Nat → Nat → Bool
  | 0, _ => true
  | m + 1, k => if k + 1 < n then f k && al2 n f m (k + 2) else true
theorem al2_iff {n : Nat} {f : Nat → Bool} : ∀ m k, al2 n f m k = true ↔ ∀ i, i < m → k + 2 * i + 1 < n → f (k + 2 * i) = true
  | 0, k => by
    constructor
    · intro _ i h; omega
    · intro _; rfl
  | m + 1, k => by
    rw [al2]
    by_cases c : k + 1 < n
    · rw [if_pos c, Bool.and_eq_true, al2_iff m (k + 2)]
      constructor
      · rintro ⟨h1, h2⟩ i h3 h4
        cases i with
        | zero => exact h1
        | succ i =>
          have := h2 i (by omega) (by omega)
          rw [show k + 2 + 2 * i = k + 2 * (i + 1) by omega] at this
          exact this
      · intro h
        refine ⟨h 0 (by omega) (by omega), fun i h3 h4 => ?_⟩
        have := h (i + 1) (by omega) (by omega)
        rw [show k + 2 * (i + 1) = k + 2 + 2 * i by omega] at this
        exact this
    · rw [if_neg c]
      constructor
      · intro _ i h3 h4; omega
      · intro _; rfl
def loW (y : Nat → Nat) (j : Nat) : Nat := if y j < y (j + 1) then y j else y (j + 1)
def hiW (y : Nat → Nat) (j : Nat) : Nat := y j + y (j + 1) - loW y j
def inW (y : Nat → Nat) (j k : Nat) : Bool := decide (loW y j < y k) && decide (y k < hiW y j)
def sgW (s y : Nat → Nat) (j : Nat) : Bool := decide (s j = 0) || (decide (y j < y (j + 1)) == upG s j)
def wyP (n : Nat) (s y : Nat → Nat) : Bool := allN (sgW s y) (n - 1) 0 && allN (fun j => al2 n (fun k => inW y j k == inW y j (k + 1)) n (j + 2)) (n - 1) 0
def wyB (n : Nat) (s : Nat → Nat) (l : List Nat) : Bool := wyP n s (fun p => l.idxOf p)
/-- the array holds the list -/
def oL (o : Nat → Int32) (l : List Nat) : Prop := ∀ i, i < l.length → o i = nI (l.getD i 0)
theorem nI_le9 {a b : Nat} (h : a ≤ b ∧ b < 2 ^ 31) : nI a ≤ nI b := nI_le h.1 h.2
theorem hu_same {h : mH} {i : Nat} : hu h i (h i) = h := by
  funext j
  by_cases c : j = i
  · subst c; exact hu_s
  · exact hu_n c
theorem idx_get {l : List Nat} (h : l.Nodup) {i : Nat} (hi : i < l.length) : l.idxOf (l.getD i 0) = i := by
  rw [gtD hi]
  exact List.Nodup.idxOf_getElem h i hi
theorem get_idx {l : List Nat} {p : Nat} (h : p ∈ l) : l.getD (l.idxOf p) 0 = p := by
  rw [gtD (List.idxOf_lt_length_of_mem h)]
  exact List.getElem_idxOf _
theorem m_isWay {G : mG} {h : mH} {Q n t : Nat} {N : Int32} {m : Nat → Int32} {wd : Int64} {o li : Nat → Int32} {l : List Nat} (d : Nat) (hn2 : 2 ≤ n) (hn : n ≤ 8) (ht : t < 2 ^ 31) (hl : l.Perm (List.range n)) (hQ : h Q = oMod Q N m wd) (hO : h (Q + 11) = aI 8 o) (hL : h (Q + 12) = aI 8 li) (ho : oL o l) : EV G m_X11_isWay d 0 0 [.ref Q, .int (nI n), .int (nI t)] h (fun r h' => ∃ x, r = some (.int (bI x)) ∧ (x = wyB n (dg3 t) l ∧ ∃ li', h' = hu h (Q + 12) (aI 8 li'))) := by
  have ln : l.length = n := by rw [hl.length_eq, List.length_range]
  have nd : l.Nodup := (hl.nodup_iff).mpr List.nodup_range
  have mm : ∀ p, p ∈ l ↔ p < n := fun p => by rw [hl.mem_iff, List.mem_range]
  have gl : ∀ i, i < n → l.getD i 0 < n := fun i hi => (mm _).mp (getD_mem (by omega))
  obtain ⟨n', rfl⟩ : ∃ n', n = n' + 1 := ⟨n - 1, by omega⟩
  -- behind the first loop
  have main : ∀ li', (∀ p, p < n' + 1 → li' p = nI (l.idxOf p)) → Z G m_X11_isWay d 0 0 0 0 25 [some (.ref Q), some (.int (nI (n' + 1))), some (.int (nI t)), none, none, none, none, none, none, none] [] (hu h (Q + 12) (aI 8 li')) (fun r h' => ∃ x, r = some (.int (bI x)) ∧ (x = wyB (n' + 1) (dg3 t) l ∧ ∃ li', h' = hu h (Q + 12) (aI 8 li'))) := by
    intro li' hli
    generalize hy : (fun p => l.idxOf p) = y
    have hli2 : ∀ p, p < n' + 1 → li' p = nI (y p) := fun p hp => by rw [← hy]; exact hli p hp
    have y8 : ∀ p, p < n' + 1 → y p < 8 := fun p hp => by rw [← hy]; exact Nat.lt_of_lt_of_le (List.idxOf_lt_length_of_mem ((mm p).mpr hp)) (by omega)
    have ew : wyB (n' + 1) (dg3 t) l = wyP (n' + 1) (dg3 t) y := by unfold wyB; rw [hy]
    rw [ew]
    unfold wyP
    rw [Nat.add_sub_cancel]
    have hL' : (hu h (Q + 12) (aI 8 li')) (Q + 12) = aI 8 li' := hu_s
    have hQ' : (hu h (Q + 12) (aI 8 li')) Q = oMod Q N m wd := (hu_n (by omega)).trans hQ
    have hE : ∃ li', (hu h (Q + 12) (aI 8 li')) = hu h (Q + 12) (aI 8 li') := ⟨li', rfl⟩
    replace hE : ∃ li2, (hu h (Q + 12) (aI 8 li')) = hu h (Q + 12) (aI 8 li2) := ⟨li', rfl⟩
    generalize (hu h (Q + 12) (aI 8 li')) = hX at hL' hQ' hE ⊢
    generalize hF : (fun j => al2 (n' + 1) (fun k => inW y j k == inW y j (k + 1)) (n' + 1) (j + 2)) = F
    have la : ∀ w j, j + w = n' → Z G m_X11_isWay d 0 0 0 0 125 [some (.ref Q), some (.int (nI (n' + 1))), some (.int (nI t)), none, some (.int (nI j)), none, none, none, none, none] [] hX (fun r h' => ∃ x, r = some (.int (bI x)) ∧ (x = allN F w j ∧ ∃ li', h' = hu h (Q + 12) (aI 8 li'))) := by
      intro w
      induction w with
      | zero =>
        intro j hj
        refine z_ild4 (n := 127) (by decide +kernel) ?_
        refine z_iconst (n := 128) (q := 1) (v := 1) (by decide +kernel) ?_
        refine z_iadd (n := 129) (by decide +kernel) ?_
        refine z_top (nI_1 _) ?_
        refine z_ild1 (n := 130) (by decide +kernel) ?_
        refine z_icmp_ge_t (n := 133) (off := 166) (tgt := 296) (by decide +kernel) (by rw [show j = n' by omega]; exact Int32.le_refl _) ?_
        refine z_iconst (n := 297) (q := 1) (v := 1) (by decide +kernel) ?_
        first | refine z_zr1 (by decide +kernel) rfl (Nat.le_refl _) ?_ | refine z_zr0 (by decide +kernel) rfl (Nat.le_refl _) ?_ | refine z_zrb (by decide +kernel) rfl (Nat.le_refl _) ?_
        exact ⟨true, rfl, rfl, hE⟩
      | succ w ih =>
        intro j hj
        have hj8 : j < 8 := by omega
        have hj9 : j + 1 < 8 := by omega
        have l0 := hli2 j (by omega)
        have l1 := hli2 (j + 1) (by omega)
        have b0 := y8 j (by omega)
        have b1 := y8 (j + 1) (by omega)
        have bh : hiW y j < 16 := by unfold hiW; omega
        have bl : loW y j < 8 := by unfold loW; split <;> assumption
        have ih9 := ih (j + 1) (by omega)
        have lk : ∀ m k, n' + 1 ≤ k + 2 * m → k ≤ 40 - 2 * m → m ≤ 10 → Z G m_X11_isWay d 0 0 0 0 201 [some (.ref Q), some (.int (nI (n' + 1))), some (.int (nI t)), none, some (.int (nI j)), some (.int (nI (loW y j))), some (.int (nI (hiW y j))), some (.int (nI k)), none, none] [] hX (fun r h' => ∃ x, r = some (.int (bI x)) ∧ (x = (al2 (n' + 1) (fun k => inW y j k == inW y j (k + 1)) m k && allN F w (j + 1)) ∧ ∃ li', h' = hu h (Q + 12) (aI 8 li'))) := by
          intro m
          induction m with
          | zero =>
            intro k hk hk40 hm
            rw [al2, Bool.true_and]
            refine z_ild7 (n := 203) (by decide +kernel) ?_
            refine z_iconst (n := 204) (q := 1) (v := 1) (by decide +kernel) ?_
            refine z_iadd (n := 205) (by decide +kernel) ?_
            refine z_top (nI_1 _) ?_
            refine z_ild1 (n := 206) (by decide +kernel) ?_
            refine z_icmp_ge_t (n := 209) (off := 84) (tgt := 290) (by decide +kernel) (nI_le9 ⟨by omega, by omega⟩) ?_
            refine z_inc4 (n := 293) (q := 1) (by decide +kernel) rfl (nI_1 _) ?_
            refine z_goto (n := 296) (off := -168) (tgt := 125) (by decide +kernel) ?_
            exact z_wk (lv' := [some (.ref Q), some (.int (nI (n' + 1))), some (.int (nI t)), none, some (.int (nI (j + 1))), none, none, none, none, none]) (by simp [wk]) ih9
          | succ m ihm =>
            intro k hk hk40 hm
            rw [al2]
            by_cases c : k + 1 < n' + 1
            · rw [if_pos c]
              have hk8 : k < 8 := by omega
              have hk9 : k + 1 < 8 := by omega
              have k0 := hli2 k (by omega)
              have k1 := hli2 (k + 1) (by omega)
              have c0 := y8 k (by omega)
              have c1 := y8 (k + 1) (by omega)
              have f240 : ∀ b : Bool, inW y j k = b → Z G m_X11_isWay d 0 0 0 0 240 [some (.ref Q), some (.int (nI (n' + 1))), some (.int (nI t)), none, some (.int (nI j)), some (.int (nI (loW y j))), some (.int (nI (hiW y j))), some (.int (nI k)), some (.int (bI b)), none] [] hX (fun r h' => ∃ x, r = some (.int (bI x)) ∧ (x = (((inW y j k == inW y j (k + 1)) && al2 (n' + 1) (fun k => inW y j k == inW y j (k + 1)) m (k + 2)) && allN F w (j + 1)) ∧ ∃ li', h' = hu h (Q + 12) (aI 8 li'))) := by
                intro b hb
                rw [hb]
                have f275 : ∀ b2 : Bool, inW y j (k + 1) = b2 → Z G m_X11_isWay d 0 0 0 0 275 [some (.ref Q), some (.int (nI (n' + 1))), some (.int (nI t)), none, some (.int (nI j)), some (.int (nI (loW y j))), some (.int (nI (hiW y j))), some (.int (nI k)), some (.int (bI b)), some (.int (bI b2))] [] hX (fun r h' => ∃ x, r = some (.int (bI x)) ∧ (x = (((b == inW y j (k + 1)) && al2 (n' + 1) (fun k => inW y j k == inW y j (k + 1)) m (k + 2)) && allN F w (j + 1)) ∧ ∃ li', h' = hu h (Q + 12) (aI 8 li'))) := by
                  intro b2 hb2
                  rw [hb2]
                  by_cases e : b = b2
                  · rw [show (b == b2) = true from by rw [e]; simp, Bool.true_and]
                    refine z_ild8 (n := 277) (by decide +kernel) ?_
                    refine z_ild9 (n := 279) (by decide +kernel) ?_
                    refine z_icmp_eq_t (n := 282) (off := 5) (tgt := 284) (by decide +kernel) (by rw [e]) ?_
                    refine z_inc7 (n := 287) (q := 2) (by decide +kernel) rfl (show nI k + 2 = nI (k + 2) from nI_add k 2) ?_
                    refine z_goto (n := 290) (off := -86) (tgt := 201) (by decide +kernel) ?_
                    exact z_wk (lv' := [some (.ref Q), some (.int (nI (n' + 1))), some (.int (nI t)), none, some (.int (nI j)), some (.int (nI (loW y j))), some (.int (nI (hiW y j))), some (.int (nI (k + 2))), none, none]) (by simp [wk]) (ihm (k + 2) (by omega) (by omega) (by omega))
                  · rw [show (b == b2) = false from by simpa using e, Bool.false_and, Bool.false_and]
                    refine z_ild8 (n := 277) (by decide +kernel) ?_
                    refine z_ild9 (n := 279) (by decide +kernel) ?_
                    refine z_icmp_eq_f (n := 282) (off := 5) (tgt := 284) (by decide +kernel) (fun z => e (bI_eq.mp z)) ?_
                    refine z_iconst (n := 283) (q := 0) (v := 0) (by decide +kernel) ?_
                    first | refine z_zr1 (by decide +kernel) rfl (Nat.le_refl _) ?_ | refine z_zr0 (by decide +kernel) rfl (Nat.le_refl _) ?_ | refine z_zrb (by decide +kernel) rfl (Nat.le_refl _) ?_
                    exact ⟨false, rfl, rfl, hE⟩
                by_cases x1 : loW y j < y (k + 1)
                · by_cases x2 : y (k + 1) < hiW y j
                  · refine z_ald0 (n := 241) (by decide +kernel) ?_
                    refine z_getf (n := 244) (idx := 53) (by decide +kernel) fl_X11_53 (by assumption) (by rfl) ?_
                    refine z_ild7 (n := 246) (by decide +kernel) ?_
                    refine z_iconst (n := 247) (q := 1) (v := 1) (by decide +kernel) ?_
                    refine z_iadd (n := 248) (by decide +kernel) ?_
                    refine z_top (nI_1 _) ?_
                    refine z_iald (n := 249) (by decide +kernel) (by assumption) (by first | assumption | exact ix_nI (by omega) (by omega)) ?_
                    refine z_top k1 ?_
                    refine z_ild5 (n := 251) (by decide +kernel) ?_
                    refine z_icmp_le_f (n := 254) (off := 21) (tgt := 272) (by decide +kernel) (nI_ge x1 (by omega)) ?_
                    refine z_ald0 (n := 255) (by decide +kernel) ?_
                    refine z_getf (n := 258) (idx := 53) (by decide +kernel) fl_X11_53 (by assumption) (by rfl) ?_
                    refine z_ild7 (n := 260) (by decide +kernel) ?_
                    refine z_iconst (n := 261) (q := 1) (v := 1) (by decide +kernel) ?_
                    refine z_iadd (n := 262) (by decide +kernel) ?_
                    refine z_top (nI_1 _) ?_
                    refine z_iald (n := 263) (by decide +kernel) (by assumption) (by first | assumption | exact ix_nI (by omega) (by omega)) ?_
                    refine z_top k1 ?_
                    refine z_ild6 (n := 265) (by decide +kernel) ?_
                    refine z_icmp_ge_f (n := 268) (off := 7) (tgt := 272) (by decide +kernel) (nI_ge x2 (by omega)) ?_
                    refine z_iconst (n := 269) (q := 1) (v := 1) (by decide +kernel) ?_
                    refine z_goto (n := 272) (off := 4) (tgt := 273) (by decide +kernel) ?_
                    refine z_ist9 (n := 275) (by decide +kernel) rfl ?_
                    exact f275 true (by unfold inW; rw [decide_eq_true x1, decide_eq_true x2]; rfl)
                  · refine z_ald0 (n := 241) (by decide +kernel) ?_
                    refine z_getf (n := 244) (idx := 53) (by decide +kernel) fl_X11_53 (by assumption) (by rfl) ?_
                    refine z_ild7 (n := 246) (by decide +kernel) ?_
                    refine z_iconst (n := 247) (q := 1) (v := 1) (by decide +kernel) ?_
                    refine z_iadd (n := 248) (by decide +kernel) ?_
                    refine z_top (nI_1 _) ?_
                    refine z_iald (n := 249) (by decide +kernel) (by assumption) (by first | assumption | exact ix_nI (by omega) (by omega)) ?_
                    refine z_top k1 ?_
                    refine z_ild5 (n := 251) (by decide +kernel) ?_
                    refine z_icmp_le_f (n := 254) (off := 21) (tgt := 272) (by decide +kernel) (nI_ge x1 (by omega)) ?_
                    refine z_ald0 (n := 255) (by decide +kernel) ?_
                    refine z_getf (n := 258) (idx := 53) (by decide +kernel) fl_X11_53 (by assumption) (by rfl) ?_
                    refine z_ild7 (n := 260) (by decide +kernel) ?_
                    refine z_iconst (n := 261) (q := 1) (v := 1) (by decide +kernel) ?_
                    refine z_iadd (n := 262) (by decide +kernel) ?_
                    refine z_top (nI_1 _) ?_
                    refine z_iald (n := 263) (by decide +kernel) (by assumption) (by first | assumption | exact ix_nI (by omega) (by omega)) ?_
                    refine z_top k1 ?_
                    refine z_ild6 (n := 265) (by decide +kernel) ?_
                    refine z_icmp_ge_t (n := 268) (off := 7) (tgt := 272) (by decide +kernel) (nI_le (by omega) (by omega)) ?_
                    refine z_iconst (n := 273) (q := 0) (v := 0) (by decide +kernel) ?_
                    refine z_ist9 (n := 275) (by decide +kernel) rfl ?_
                    exact f275 false (by unfold inW; rw [decide_eq_false x2, Bool.and_false])
                · refine z_ald0 (n := 241) (by decide +kernel) ?_
                  refine z_getf (n := 244) (idx := 53) (by decide +kernel) fl_X11_53 (by assumption) (by rfl) ?_
                  refine z_ild7 (n := 246) (by decide +kernel) ?_
                  refine z_iconst (n := 247) (q := 1) (v := 1) (by decide +kernel) ?_
                  refine z_iadd (n := 248) (by decide +kernel) ?_
                  refine z_top (nI_1 _) ?_
                  refine z_iald (n := 249) (by decide +kernel) (by assumption) (by first | assumption | exact ix_nI (by omega) (by omega)) ?_
                  refine z_top k1 ?_
                  refine z_ild5 (n := 251) (by decide +kernel) ?_
                  refine z_icmp_le_t (n := 254) (off := 21) (tgt := 272) (by decide +kernel) (nI_le (by omega) (by omega)) ?_
                  refine z_iconst (n := 273) (q := 0) (v := 0) (by decide +kernel) ?_
                  refine z_ist9 (n := 275) (by decide +kernel) rfl ?_
                  exact f275 false (by unfold inW; rw [decide_eq_false x1, Bool.false_and])
              by_cases x1 : loW y j < y k
              · by_cases x2 : y k < hiW y j
                · refine z_ild7 (n := 203) (by decide +kernel) ?_
                  refine z_iconst (n := 204) (q := 1) (v := 1) (by decide +kernel) ?_
                  refine z_iadd (n := 205) (by decide +kernel) ?_
                  refine z_top (nI_1 _) ?_
                  refine z_ild1 (n := 206) (by decide +kernel) ?_
                  refine z_icmp_ge_f (n := 209) (off := 84) (tgt := 290) (by decide +kernel) (nI_ge c (by omega)) ?_
                  refine z_ald0 (n := 210) (by decide +kernel) ?_
                  refine z_getf (n := 213) (idx := 53) (by decide +kernel) fl_X11_53 (by assumption) (by rfl) ?_
                  refine z_ild7 (n := 215) (by decide +kernel) ?_
                  refine z_iald (n := 216) (by decide +kernel) (by assumption) (by first | assumption | exact ix_nI (by omega) (by omega)) ?_
                  refine z_top k0 ?_
                  refine z_ild5 (n := 218) (by decide +kernel) ?_
                  refine z_icmp_le_f (n := 221) (off := 19) (tgt := 237) (by decide +kernel) (nI_ge x1 (by omega)) ?_
                  refine z_ald0 (n := 222) (by decide +kernel) ?_
                  refine z_getf (n := 225) (idx := 53) (by decide +kernel) fl_X11_53 (by assumption) (by rfl) ?_
                  refine z_ild7 (n := 227) (by decide +kernel) ?_
                  refine z_iald (n := 228) (by decide +kernel) (by assumption) (by first | assumption | exact ix_nI (by omega) (by omega)) ?_
                  refine z_top k0 ?_
                  refine z_ild6 (n := 230) (by decide +kernel) ?_
                  refine z_icmp_ge_f (n := 233) (off := 7) (tgt := 237) (by decide +kernel) (nI_ge x2 (by omega)) ?_
                  refine z_iconst (n := 234) (q := 1) (v := 1) (by decide +kernel) ?_
                  refine z_goto (n := 237) (off := 4) (tgt := 238) (by decide +kernel) ?_
                  refine z_ist8 (n := 240) (by decide +kernel) rfl ?_
                  exact f240 true (by unfold inW; rw [decide_eq_true x1, decide_eq_true x2]; rfl)
                · refine z_ild7 (n := 203) (by decide +kernel) ?_
                  refine z_iconst (n := 204) (q := 1) (v := 1) (by decide +kernel) ?_
                  refine z_iadd (n := 205) (by decide +kernel) ?_
                  refine z_top (nI_1 _) ?_
                  refine z_ild1 (n := 206) (by decide +kernel) ?_
                  refine z_icmp_ge_f (n := 209) (off := 84) (tgt := 290) (by decide +kernel) (nI_ge c (by omega)) ?_
                  refine z_ald0 (n := 210) (by decide +kernel) ?_
                  refine z_getf (n := 213) (idx := 53) (by decide +kernel) fl_X11_53 (by assumption) (by rfl) ?_
                  refine z_ild7 (n := 215) (by decide +kernel) ?_
                  refine z_iald (n := 216) (by decide +kernel) (by assumption) (by first | assumption | exact ix_nI (by omega) (by omega)) ?_
                  refine z_top k0 ?_
                  refine z_ild5 (n := 218) (by decide +kernel) ?_
                  refine z_icmp_le_f (n := 221) (off := 19) (tgt := 237) (by decide +kernel) (nI_ge x1 (by omega)) ?_
                  refine z_ald0 (n := 222) (by decide +kernel) ?_
                  refine z_getf (n := 225) (idx := 53) (by decide +kernel) fl_X11_53 (by assumption) (by rfl) ?_
                  refine z_ild7 (n := 227) (by decide +kernel) ?_
                  refine z_iald (n := 228) (by decide +kernel) (by assumption) (by first | assumption | exact ix_nI (by omega) (by omega)) ?_
                  refine z_top k0 ?_
                  refine z_ild6 (n := 230) (by decide +kernel) ?_
                  refine z_icmp_ge_t (n := 233) (off := 7) (tgt := 237) (by decide +kernel) (nI_le (by omega) (by omega)) ?_
                  refine z_iconst (n := 238) (q := 0) (v := 0) (by decide +kernel) ?_
                  refine z_ist8 (n := 240) (by decide +kernel) rfl ?_
                  exact f240 false (by unfold inW; rw [decide_eq_false x2, Bool.and_false])
              · refine z_ild7 (n := 203) (by decide +kernel) ?_
                refine z_iconst (n := 204) (q := 1) (v := 1) (by decide +kernel) ?_
                refine z_iadd (n := 205) (by decide +kernel) ?_
                refine z_top (nI_1 _) ?_
                refine z_ild1 (n := 206) (by decide +kernel) ?_
                refine z_icmp_ge_f (n := 209) (off := 84) (tgt := 290) (by decide +kernel) (nI_ge c (by omega)) ?_
                refine z_ald0 (n := 210) (by decide +kernel) ?_
                refine z_getf (n := 213) (idx := 53) (by decide +kernel) fl_X11_53 (by assumption) (by rfl) ?_
                refine z_ild7 (n := 215) (by decide +kernel) ?_
                refine z_iald (n := 216) (by decide +kernel) (by assumption) (by first | assumption | exact ix_nI (by omega) (by omega)) ?_
                refine z_top k0 ?_
                refine z_ild5 (n := 218) (by decide +kernel) ?_
                refine z_icmp_le_t (n := 221) (off := 19) (tgt := 237) (by decide +kernel) (nI_le (by omega) (by omega)) ?_
                refine z_iconst (n := 238) (q := 0) (v := 0) (by decide +kernel) ?_
                refine z_ist8 (n := 240) (by decide +kernel) rfl ?_
                exact f240 false (by unfold inW; rw [decide_eq_false x1, Bool.false_and])
            · rw [if_neg c, Bool.true_and]
              refine z_ild7 (n := 203) (by decide +kernel) ?_
              refine z_iconst (n := 204) (q := 1) (v := 1) (by decide +kernel) ?_
              refine z_iadd (n := 205) (by decide +kernel) ?_
              refine z_top (nI_1 _) ?_
              refine z_ild1 (n := 206) (by decide +kernel) ?_
              refine z_icmp_ge_t (n := 209) (off := 84) (tgt := 290) (by decide +kernel) (nI_le9 ⟨by omega, by omega⟩) ?_
              refine z_inc4 (n := 293) (q := 1) (by decide +kernel) rfl (nI_1 _) ?_
              refine z_goto (n := 296) (off := -168) (tgt := 125) (by decide +kernel) ?_
              exact z_wk (lv' := [some (.ref Q), some (.int (nI (n' + 1))), some (.int (nI t)), none, some (.int (nI (j + 1))), none, none, none, none, none]) (by simp [wk]) ih9
        have go : Z G m_X11_isWay d 0 0 0 0 201 [some (.ref Q), some (.int (nI (n' + 1))), some (.int (nI t)), none, some (.int (nI j)), some (.int (nI (loW y j))), some (.int (nI (hiW y j))), some (.int (nI (j + 2))), none, none] [] hX (fun r h' => ∃ x, r = some (.int (bI x)) ∧ (x = allN F (w + 1) j ∧ ∃ li', h' = hu h (Q + 12) (aI 8 li'))) := by
          have q := lk (n' + 1) (j + 2) (by omega) (by omega) (by omega)
          rw [allN, show F j = al2 (n' + 1) (fun k => inW y j k == inW y j (k + 1)) (n' + 1) (j + 2) from by rw [← hF]]
          exact q
        by_cases x1 : y j < y (j + 1)
        · have e1 : loW y j = y j := if_pos x1
          have e2 : nI (y j + y (j + 1)) - nI (y j) = nI (hiW y j) := by unfold hiW; rw [e1, pk_sub (by omega)]
          refine z_ild4 (n := 127) (by decide +kernel) ?_
          refine z_iconst (n := 128) (q := 1) (v := 1) (by decide +kernel) ?_
          refine z_iadd (n := 129) (by decide +kernel) ?_
          refine z_top (nI_1 _) ?_
          refine z_ild1 (n := 130) (by decide +kernel) ?_
          refine z_icmp_ge_f (n := 133) (off := 166) (tgt := 296) (by decide +kernel) (nI_ge (by omega) (by omega)) ?_
          refine z_ald0 (n := 134) (by decide +kernel) ?_
          refine z_getf (n := 137) (idx := 53) (by decide +kernel) fl_X11_53 (by assumption) (by rfl) ?_
          refine z_ild4 (n := 139) (by decide +kernel) ?_
          refine z_iald (n := 140) (by decide +kernel) (by assumption) (by first | assumption | exact ix_nI (by omega) (by omega)) ?_
          refine z_top l0 ?_
          refine z_ald0 (n := 141) (by decide +kernel) ?_
          refine z_getf (n := 144) (idx := 53) (by decide +kernel) fl_X11_53 (by assumption) (by rfl) ?_
          refine z_ild4 (n := 146) (by decide +kernel) ?_
          refine z_iconst (n := 147) (q := 1) (v := 1) (by decide +kernel) ?_
          refine z_iadd (n := 148) (by decide +kernel) ?_
          refine z_top (nI_1 _) ?_
          refine z_iald (n := 149) (by decide +kernel) (by assumption) (by first | assumption | exact ix_nI (by omega) (by omega)) ?_
          refine z_top l1 ?_
          refine z_icmp_ge_f (n := 152) (off := 13) (tgt := 162) (by decide +kernel) (nI_ge x1 (by omega)) ?_
          refine z_ald0 (n := 153) (by decide +kernel) ?_
          refine z_getf (n := 156) (idx := 53) (by decide +kernel) fl_X11_53 (by assumption) (by rfl) ?_
          refine z_ild4 (n := 158) (by decide +kernel) ?_
          refine z_iald (n := 159) (by decide +kernel) (by assumption) (by first | assumption | exact ix_nI (by omega) (by omega)) ?_
          refine z_top l0 ?_
          refine z_goto (n := 162) (off := 12) (tgt := 171) (by decide +kernel) ?_
          refine z_ist5 (n := 173) (by decide +kernel) rfl ?_
          refine z_ald0 (n := 174) (by decide +kernel) ?_
          refine z_getf (n := 177) (idx := 53) (by decide +kernel) fl_X11_53 (by assumption) (by rfl) ?_
          refine z_ild4 (n := 179) (by decide +kernel) ?_
          refine z_iald (n := 180) (by decide +kernel) (by assumption) (by first | assumption | exact ix_nI (by omega) (by omega)) ?_
          refine z_top l0 ?_
          refine z_ald0 (n := 181) (by decide +kernel) ?_
          refine z_getf (n := 184) (idx := 53) (by decide +kernel) fl_X11_53 (by assumption) (by rfl) ?_
          refine z_ild4 (n := 186) (by decide +kernel) ?_
          refine z_iconst (n := 187) (q := 1) (v := 1) (by decide +kernel) ?_
          refine z_iadd (n := 188) (by decide +kernel) ?_
          refine z_top (nI_1 _) ?_
          refine z_iald (n := 189) (by decide +kernel) (by assumption) (by first | assumption | exact ix_nI (by omega) (by omega)) ?_
          refine z_top l1 ?_
          refine z_iadd (n := 190) (by decide +kernel) ?_
          refine z_top (nI_add _ _) ?_
          refine z_ild5 (n := 192) (by decide +kernel) ?_
          refine z_isub (n := 193) (by decide +kernel) ?_
          refine z_top e2 ?_
          refine z_ist6 (n := 195) (by decide +kernel) rfl ?_
          refine z_ild4 (n := 197) (by decide +kernel) ?_
          refine z_iconst (n := 198) (q := 2) (v := 2) (by decide +kernel) ?_
          refine z_iadd (n := 199) (by decide +kernel) ?_
          refine z_top (show nI j + 2 = nI (j + 2) from nI_add j 2) ?_
          refine z_ist7 (n := 201) (by decide +kernel) rfl ?_
          rw [e1] at go; exact go
        · have e1 : loW y j = y (j + 1) := if_neg x1
          have e2 : nI (y j + y (j + 1)) - nI (y (j + 1)) = nI (hiW y j) := by unfold hiW; rw [e1, pk_sub (by omega)]
          refine z_ild4 (n := 127) (by decide +kernel) ?_
          refine z_iconst (n := 128) (q := 1) (v := 1) (by decide +kernel) ?_
          refine z_iadd (n := 129) (by decide +kernel) ?_
          refine z_top (nI_1 _) ?_
          refine z_ild1 (n := 130) (by decide +kernel) ?_
          refine z_icmp_ge_f (n := 133) (off := 166) (tgt := 296) (by decide +kernel) (nI_ge (by omega) (by omega)) ?_
          refine z_ald0 (n := 134) (by decide +kernel) ?_
          refine z_getf (n := 137) (idx := 53) (by decide +kernel) fl_X11_53 (by assumption) (by rfl) ?_
          refine z_ild4 (n := 139) (by decide +kernel) ?_
          refine z_iald (n := 140) (by decide +kernel) (by assumption) (by first | assumption | exact ix_nI (by omega) (by omega)) ?_
          refine z_top l0 ?_
          refine z_ald0 (n := 141) (by decide +kernel) ?_
          refine z_getf (n := 144) (idx := 53) (by decide +kernel) fl_X11_53 (by assumption) (by rfl) ?_
          refine z_ild4 (n := 146) (by decide +kernel) ?_
          refine z_iconst (n := 147) (q := 1) (v := 1) (by decide +kernel) ?_
          refine z_iadd (n := 148) (by decide +kernel) ?_
          refine z_top (nI_1 _) ?_
          refine z_iald (n := 149) (by decide +kernel) (by assumption) (by first | assumption | exact ix_nI (by omega) (by omega)) ?_
          refine z_top l1 ?_
          refine z_icmp_ge_t (n := 152) (off := 13) (tgt := 162) (by decide +kernel) (nI_le (by omega) (by omega)) ?_
          refine z_ald0 (n := 163) (by decide +kernel) ?_
          refine z_getf (n := 166) (idx := 53) (by decide +kernel) fl_X11_53 (by assumption) (by rfl) ?_
          refine z_ild4 (n := 168) (by decide +kernel) ?_
          refine z_iconst (n := 169) (q := 1) (v := 1) (by decide +kernel) ?_
          refine z_iadd (n := 170) (by decide +kernel) ?_
          refine z_top (nI_1 _) ?_
          refine z_iald (n := 171) (by decide +kernel) (by assumption) (by first | assumption | exact ix_nI (by omega) (by omega)) ?_
          refine z_top l1 ?_
          refine z_ist5 (n := 173) (by decide +kernel) rfl ?_
          refine z_ald0 (n := 174) (by decide +kernel) ?_
          refine z_getf (n := 177) (idx := 53) (by decide +kernel) fl_X11_53 (by assumption) (by rfl) ?_
          refine z_ild4 (n := 179) (by decide +kernel) ?_
          refine z_iald (n := 180) (by decide +kernel) (by assumption) (by first | assumption | exact ix_nI (by omega) (by omega)) ?_
          refine z_top l0 ?_
          refine z_ald0 (n := 181) (by decide +kernel) ?_
          refine z_getf (n := 184) (idx := 53) (by decide +kernel) fl_X11_53 (by assumption) (by rfl) ?_
          refine z_ild4 (n := 186) (by decide +kernel) ?_
          refine z_iconst (n := 187) (q := 1) (v := 1) (by decide +kernel) ?_
          refine z_iadd (n := 188) (by decide +kernel) ?_
          refine z_top (nI_1 _) ?_
          refine z_iald (n := 189) (by decide +kernel) (by assumption) (by first | assumption | exact ix_nI (by omega) (by omega)) ?_
          refine z_top l1 ?_
          refine z_iadd (n := 190) (by decide +kernel) ?_
          refine z_top (nI_add _ _) ?_
          refine z_ild5 (n := 192) (by decide +kernel) ?_
          refine z_isub (n := 193) (by decide +kernel) ?_
          refine z_top e2 ?_
          refine z_ist6 (n := 195) (by decide +kernel) rfl ?_
          refine z_ild4 (n := 197) (by decide +kernel) ?_
          refine z_iconst (n := 198) (q := 2) (v := 2) (by decide +kernel) ?_
          refine z_iadd (n := 199) (by decide +kernel) ?_
          refine z_top (show nI j + 2 = nI (j + 2) from nI_add j 2) ?_
          refine z_ist7 (n := 201) (by decide +kernel) rfl ?_
          rw [e1] at go; exact go
    have ls : ∀ w j, j + w = n' → Z G m_X11_isWay d 0 0 0 0 30 [some (.ref Q), some (.int (nI (n' + 1))), some (.int (nI t)), some (.int (nI (t / 3 ^ j))), some (.int (nI j)), none, none, none, none, none] [] hX (fun r h' => ∃ x, r = some (.int (bI x)) ∧ (x = (allN (sgW (dg3 t) y) w j && allN F n' 0) ∧ ∃ li', h' = hu h (Q + 12) (aI 8 li'))) := by
      intro w
      induction w with
      | zero =>
        intro j hj
        rw [allN, Bool.true_and]
        refine z_ild4 (n := 32) (by decide +kernel) ?_
        refine z_iconst (n := 33) (q := 1) (v := 1) (by decide +kernel) ?_
        refine z_iadd (n := 34) (by decide +kernel) ?_
        refine z_top (nI_1 _) ?_
        refine z_ild1 (n := 35) (by decide +kernel) ?_
        refine z_icmp_ge_t (n := 38) (off := 87) (tgt := 122) (by decide +kernel) (by rw [show j = n' by omega]; exact Int32.le_refl _) ?_
        refine z_iconst (n := 123) (q := 0) (v := 0) (by decide +kernel) ?_
        refine z_ist4 (n := 125) (by decide +kernel) rfl ?_
        exact z_wk (lv' := [some (.ref Q), some (.int (nI (n' + 1))), some (.int (nI t)), none, some (.int (nI 0)), none, none, none, none, none]) (by simp [wk]; rfl) (la n' 0 (by omega))
      | succ w ih =>
        intro j hj
        rw [allN]
        have hj8 : j < 8 := by omega
        have hj9 : j + 1 < 8 := by omega
        have l0 := hli2 j (by omega)
        have l1 := hli2 (j + 1) (by omega)
        have b0 := y8 j (by omega)
        have b1 := y8 (j + 1) (by omega)
        have hq : t / 3 ^ j ≤ t := Nat.div_le_self _ _
        have ed : t / 3 ^ j / 3 = t / 3 ^ (j + 1) := by rw [Nat.pow_succ, Nat.div_div_eq_div_mul]
        have d3 := dg3_lt t j
        have nx : sgW (dg3 t) y j = true → Z G m_X11_isWay d 0 0 0 0 116 [some (.ref Q), some (.int (nI (n' + 1))), some (.int (nI t)), some (.int (nI (t / 3 ^ (j + 1)))), some (.int (nI j)), none, none, none, none, none] [] hX (fun r h' => ∃ x, r = some (.int (bI x)) ∧ (x = (sgW (dg3 t) y j && allN (sgW (dg3 t) y) w (j + 1) && allN F n' 0) ∧ ∃ li', h' = hu h (Q + 12) (aI 8 li'))) := by
          intro z
          rw [z, Bool.true_and]
          refine z_inc4 (n := 119) (q := 1) (by decide +kernel) rfl (nI_1 _) ?_
          refine z_goto (n := 122) (off := -89) (tgt := 30) (by decide +kernel) ?_
          exact ih (j + 1) (by omega)
        have f73 : ∀ b : Bool, decide (y j < y (j + 1)) = b → Z G m_X11_isWay d 0 0 0 0 73 [some (.ref Q), some (.int (nI (n' + 1))), some (.int (nI t)), some (.int (nI (t / 3 ^ (j + 1)))), some (.int (nI j)), some (.int (nI (dg3 t j))), some (.int (bI b)), none, none, none] [] hX (fun r h' => ∃ x, r = some (.int (bI x)) ∧ (x = (sgW (dg3 t) y j && allN (sgW (dg3 t) y) w (j + 1) && allN F n' 0) ∧ ∃ li', h' = hu h (Q + 12) (aI 8 li'))) := by
          intro b hb
          have r2 : nI j - nI j / 2 * 2 = nI (j % 2) := pk_rem (d := 2) (by omega) (by omega) (by omega)
          by_cases c0 : dg3 t j = 0
          · refine z_ild5 (n := 75) (by decide +kernel) ?_
            refine z_if_le_t (n := 78) (off := 41) (tgt := 116) (by decide +kernel) (by rw [c0]; decide) ?_
            exact z_wk (lv' := [some (.ref Q), some (.int (nI (n' + 1))), some (.int (nI t)), some (.int (nI (t / 3 ^ (j + 1)))), some (.int (nI j)), none, none, none, none, none]) (by simp [wk]) (nx (by unfold sgW; rw [decide_eq_true c0]; rfl))
          · have es : sgW (dg3 t) y j = (b == upG (dg3 t) j) := by unfold sgW; rw [decide_eq_false c0, Bool.false_or, hb]
            have f111 : ∀ b3 : Bool, upG (dg3 t) j = b3 → Z G m_X11_isWay d 0 0 0 0 111 [some (.ref Q), some (.int (nI (n' + 1))), some (.int (nI t)), some (.int (nI (t / 3 ^ (j + 1)))), some (.int (nI j)), some (.int (nI (dg3 t j))), some (.int (bI b)), none, none, none] [.int (bI b3), .int (bI b)] hX (fun r h' => ∃ x, r = some (.int (bI x)) ∧ (x = (sgW (dg3 t) y j && allN (sgW (dg3 t) y) w (j + 1) && allN F n' 0) ∧ ∃ li', h' = hu h (Q + 12) (aI 8 li'))) := by
              intro b3 hb3
              by_cases e : b = b3
              · refine z_icmp_eq_t (n := 114) (off := 5) (tgt := 116) (by decide +kernel) (by rw [e]) ?_
                exact z_wk (lv' := [some (.ref Q), some (.int (nI (n' + 1))), some (.int (nI t)), some (.int (nI (t / 3 ^ (j + 1)))), some (.int (nI j)), none, none, none, none, none]) (by simp [wk]) (nx (by rw [es, hb3, e]; simp))
              · refine z_icmp_eq_f (n := 114) (off := 5) (tgt := 116) (by decide +kernel) (fun z => e (bI_eq.mp z)) ?_
                refine z_iconst (n := 115) (q := 0) (v := 0) (by decide +kernel) ?_
                first | refine z_zr1 (by decide +kernel) rfl (Nat.le_refl _) ?_ | refine z_zr0 (by decide +kernel) rfl (Nat.le_refl _) ?_ | refine z_zrb (by decide +kernel) rfl (Nat.le_refl _) ?_
                exact ⟨false, rfl, by rw [es, hb3, show (b == b3) = false from by simpa using e]; rfl, hE⟩
            by_cases x1 : dg3 t j = 1
            · by_cases x2 : j % 2 = 0
              · refine z_ild5 (n := 75) (by decide +kernel) ?_
                refine z_if_le_f (n := 78) (off := 41) (tgt := 116) (by decide +kernel) (nI_nle (by omega) (by omega)) ?_
                refine z_ild6 (n := 80) (by decide +kernel) ?_
                refine z_ild5 (n := 82) (by decide +kernel) ?_
                refine z_iconst (n := 83) (q := 1) (v := 1) (by decide +kernel) ?_
                refine z_icmp_ne_f (n := 86) (off := 7) (tgt := 90) (by decide +kernel) (by rw [x1]; rfl) ?_
                refine z_iconst (n := 87) (q := 1) (v := 1) (by decide +kernel) ?_
                refine z_goto (n := 90) (off := 4) (tgt := 91) (by decide +kernel) ?_
                refine z_ild4 (n := 93) (by decide +kernel) ?_
                refine z_iconst (n := 94) (q := 2) (v := 2) (by decide +kernel) ?_
                refine z_irem (n := 95) (by decide +kernel) (by decide) ?_
                refine z_top r2 ?_
                refine z_if_ne_f (n := 98) (off := 7) (tgt := 102) (by decide +kernel) (by rw [x2]; rfl) ?_
                refine z_iconst (n := 99) (q := 1) (v := 1) (by decide +kernel) ?_
                refine z_goto (n := 102) (off := 4) (tgt := 103) (by decide +kernel) ?_
                refine z_icmp_ne_f (n := 106) (off := 7) (tgt := 110) (by decide +kernel) (rfl) ?_
                refine z_iconst (n := 107) (q := 1) (v := 1) (by decide +kernel) ?_
                refine z_goto (n := 110) (off := 4) (tgt := 111) (by decide +kernel) ?_
                exact f111 true (by unfold upG; rw [decide_eq_true x1, decide_eq_true x2]; rfl)
              · refine z_ild5 (n := 75) (by decide +kernel) ?_
                refine z_if_le_f (n := 78) (off := 41) (tgt := 116) (by decide +kernel) (nI_nle (by omega) (by omega)) ?_
                refine z_ild6 (n := 80) (by decide +kernel) ?_
                refine z_ild5 (n := 82) (by decide +kernel) ?_
                refine z_iconst (n := 83) (q := 1) (v := 1) (by decide +kernel) ?_
                refine z_icmp_ne_f (n := 86) (off := 7) (tgt := 90) (by decide +kernel) (by rw [x1]; rfl) ?_
                refine z_iconst (n := 87) (q := 1) (v := 1) (by decide +kernel) ?_
                refine z_goto (n := 90) (off := 4) (tgt := 91) (by decide +kernel) ?_
                refine z_ild4 (n := 93) (by decide +kernel) ?_
                refine z_iconst (n := 94) (q := 2) (v := 2) (by decide +kernel) ?_
                refine z_irem (n := 95) (by decide +kernel) (by decide) ?_
                refine z_top r2 ?_
                refine z_if_ne_t (n := 98) (off := 7) (tgt := 102) (by decide +kernel) (fun z => x2 ((nI_ij (b := 0) (by omega) (by omega)).mp z)) ?_
                refine z_iconst (n := 103) (q := 0) (v := 0) (by decide +kernel) ?_
                refine z_icmp_ne_t (n := 106) (off := 7) (tgt := 110) (by decide +kernel) (by decide) ?_
                refine z_iconst (n := 111) (q := 0) (v := 0) (by decide +kernel) ?_
                exact f111 false (by unfold upG; rw [decide_eq_true x1, decide_eq_false x2]; rfl)
            · by_cases x2 : j % 2 = 0
              · refine z_ild5 (n := 75) (by decide +kernel) ?_
                refine z_if_le_f (n := 78) (off := 41) (tgt := 116) (by decide +kernel) (nI_nle (by omega) (by omega)) ?_
                refine z_ild6 (n := 80) (by decide +kernel) ?_
                refine z_ild5 (n := 82) (by decide +kernel) ?_
                refine z_iconst (n := 83) (q := 1) (v := 1) (by decide +kernel) ?_
                refine z_icmp_ne_t (n := 86) (off := 7) (tgt := 90) (by decide +kernel) (fun z => x1 ((nI_ij (b := 1) (by omega) (by omega)).mp z)) ?_
                refine z_iconst (n := 91) (q := 0) (v := 0) (by decide +kernel) ?_
                refine z_ild4 (n := 93) (by decide +kernel) ?_
                refine z_iconst (n := 94) (q := 2) (v := 2) (by decide +kernel) ?_
                refine z_irem (n := 95) (by decide +kernel) (by decide) ?_
                refine z_top r2 ?_
                refine z_if_ne_f (n := 98) (off := 7) (tgt := 102) (by decide +kernel) (by rw [x2]; rfl) ?_
                refine z_iconst (n := 99) (q := 1) (v := 1) (by decide +kernel) ?_
                refine z_goto (n := 102) (off := 4) (tgt := 103) (by decide +kernel) ?_
                refine z_icmp_ne_t (n := 106) (off := 7) (tgt := 110) (by decide +kernel) (by decide) ?_
                refine z_iconst (n := 111) (q := 0) (v := 0) (by decide +kernel) ?_
                exact f111 false (by unfold upG; rw [decide_eq_false x1, decide_eq_true x2]; rfl)
              · refine z_ild5 (n := 75) (by decide +kernel) ?_
                refine z_if_le_f (n := 78) (off := 41) (tgt := 116) (by decide +kernel) (nI_nle (by omega) (by omega)) ?_
                refine z_ild6 (n := 80) (by decide +kernel) ?_
                refine z_ild5 (n := 82) (by decide +kernel) ?_
                refine z_iconst (n := 83) (q := 1) (v := 1) (by decide +kernel) ?_
                refine z_icmp_ne_t (n := 86) (off := 7) (tgt := 90) (by decide +kernel) (fun z => x1 ((nI_ij (b := 1) (by omega) (by omega)).mp z)) ?_
                refine z_iconst (n := 91) (q := 0) (v := 0) (by decide +kernel) ?_
                refine z_ild4 (n := 93) (by decide +kernel) ?_
                refine z_iconst (n := 94) (q := 2) (v := 2) (by decide +kernel) ?_
                refine z_irem (n := 95) (by decide +kernel) (by decide) ?_
                refine z_top r2 ?_
                refine z_if_ne_t (n := 98) (off := 7) (tgt := 102) (by decide +kernel) (fun z => x2 ((nI_ij (b := 0) (by omega) (by omega)).mp z)) ?_
                refine z_iconst (n := 103) (q := 0) (v := 0) (by decide +kernel) ?_
                refine z_icmp_ne_f (n := 106) (off := 7) (tgt := 110) (by decide +kernel) (rfl) ?_
                refine z_iconst (n := 107) (q := 1) (v := 1) (by decide +kernel) ?_
                refine z_goto (n := 110) (off := 4) (tgt := 111) (by decide +kernel) ?_
                exact f111 true (by unfold upG; rw [decide_eq_false x1, decide_eq_false x2]; rfl)
        by_cases x1 : y j < y (j + 1)
        · refine z_ild4 (n := 32) (by decide +kernel) ?_
          refine z_iconst (n := 33) (q := 1) (v := 1) (by decide +kernel) ?_
          refine z_iadd (n := 34) (by decide +kernel) ?_
          refine z_top (nI_1 _) ?_
          refine z_ild1 (n := 35) (by decide +kernel) ?_
          refine z_icmp_ge_f (n := 38) (off := 87) (tgt := 122) (by decide +kernel) (nI_ge (by omega) (by omega)) ?_
          refine z_ild3 (n := 39) (by decide +kernel) ?_
          refine z_iconst (n := 40) (q := 3) (v := 3) (by decide +kernel) ?_
          refine z_irem (n := 41) (by decide +kernel) (by decide) ?_
          refine z_top (pk_rem (d := 3) (Nat.lt_of_le_of_lt hq ht) (by decide) (by decide)) ?_
          refine z_ist5 (n := 43) (by decide +kernel) rfl ?_
          refine z_ild3 (n := 44) (by decide +kernel) ?_
          refine z_iconst (n := 45) (q := 3) (v := 3) (by decide +kernel) ?_
          refine z_idiv (n := 46) (by decide +kernel) (by decide) ?_
          refine z_top ((pk_div (d := 3) (Nat.lt_of_le_of_lt hq ht) (by decide) (by decide)).trans (congrArg nI ed)) ?_
          refine z_ist3 (n := 47) (by decide +kernel) rfl ?_
          refine z_ald0 (n := 48) (by decide +kernel) ?_
          refine z_getf (n := 51) (idx := 53) (by decide +kernel) fl_X11_53 (by assumption) (by rfl) ?_
          refine z_ild4 (n := 53) (by decide +kernel) ?_
          refine z_iconst (n := 54) (q := 1) (v := 1) (by decide +kernel) ?_
          refine z_iadd (n := 55) (by decide +kernel) ?_
          refine z_top (nI_1 _) ?_
          refine z_iald (n := 56) (by decide +kernel) (by assumption) (by first | assumption | exact ix_nI (by omega) (by omega)) ?_
          refine z_top l1 ?_
          refine z_ald0 (n := 57) (by decide +kernel) ?_
          refine z_getf (n := 60) (idx := 53) (by decide +kernel) fl_X11_53 (by assumption) (by rfl) ?_
          refine z_ild4 (n := 62) (by decide +kernel) ?_
          refine z_iald (n := 63) (by decide +kernel) (by assumption) (by first | assumption | exact ix_nI (by omega) (by omega)) ?_
          refine z_top l0 ?_
          refine z_icmp_le_f (n := 66) (off := 7) (tgt := 70) (by decide +kernel) (nI_ge x1 (by omega)) ?_
          refine z_iconst (n := 67) (q := 1) (v := 1) (by decide +kernel) ?_
          refine z_goto (n := 70) (off := 4) (tgt := 71) (by decide +kernel) ?_
          refine z_ist6 (n := 73) (by decide +kernel) rfl ?_
          exact f73 true (decide_eq_true x1)
        · refine z_ild4 (n := 32) (by decide +kernel) ?_
          refine z_iconst (n := 33) (q := 1) (v := 1) (by decide +kernel) ?_
          refine z_iadd (n := 34) (by decide +kernel) ?_
          refine z_top (nI_1 _) ?_
          refine z_ild1 (n := 35) (by decide +kernel) ?_
          refine z_icmp_ge_f (n := 38) (off := 87) (tgt := 122) (by decide +kernel) (nI_ge (by omega) (by omega)) ?_
          refine z_ild3 (n := 39) (by decide +kernel) ?_
          refine z_iconst (n := 40) (q := 3) (v := 3) (by decide +kernel) ?_
          refine z_irem (n := 41) (by decide +kernel) (by decide) ?_
          refine z_top (pk_rem (d := 3) (Nat.lt_of_le_of_lt hq ht) (by decide) (by decide)) ?_
          refine z_ist5 (n := 43) (by decide +kernel) rfl ?_
          refine z_ild3 (n := 44) (by decide +kernel) ?_
          refine z_iconst (n := 45) (q := 3) (v := 3) (by decide +kernel) ?_
          refine z_idiv (n := 46) (by decide +kernel) (by decide) ?_
          refine z_top ((pk_div (d := 3) (Nat.lt_of_le_of_lt hq ht) (by decide) (by decide)).trans (congrArg nI ed)) ?_
          refine z_ist3 (n := 47) (by decide +kernel) rfl ?_
          refine z_ald0 (n := 48) (by decide +kernel) ?_
          refine z_getf (n := 51) (idx := 53) (by decide +kernel) fl_X11_53 (by assumption) (by rfl) ?_
          refine z_ild4 (n := 53) (by decide +kernel) ?_
          refine z_iconst (n := 54) (q := 1) (v := 1) (by decide +kernel) ?_
          refine z_iadd (n := 55) (by decide +kernel) ?_
          refine z_top (nI_1 _) ?_
          refine z_iald (n := 56) (by decide +kernel) (by assumption) (by first | assumption | exact ix_nI (by omega) (by omega)) ?_
          refine z_top l1 ?_
          refine z_ald0 (n := 57) (by decide +kernel) ?_
          refine z_getf (n := 60) (idx := 53) (by decide +kernel) fl_X11_53 (by assumption) (by rfl) ?_
          refine z_ild4 (n := 62) (by decide +kernel) ?_
          refine z_iald (n := 63) (by decide +kernel) (by assumption) (by first | assumption | exact ix_nI (by omega) (by omega)) ?_
          refine z_top l0 ?_
          refine z_icmp_le_t (n := 66) (off := 7) (tgt := 70) (by decide +kernel) (nI_le (by omega) (by omega)) ?_
          refine z_iconst (n := 71) (q := 0) (v := 0) (by decide +kernel) ?_
          refine z_ist6 (n := 73) (by decide +kernel) rfl ?_
          exact f73 false (decide_eq_false x1)
    refine z_ild2 (n := 26) (by decide +kernel) ?_
    refine z_ist3 (n := 27) (by decide +kernel) rfl ?_
    refine z_iconst (n := 28) (q := 0) (v := 0) (by decide +kernel) ?_
    refine z_ist4 (n := 30) (by decide +kernel) rfl ?_
    skip
    have q := ls n' 0 (by omega)
    rw [Nat.pow_zero, Nat.div_one] at q
    exact q
  have lf : ∀ w k, k + w = n' + 1 → ∀ li', (∀ j, j < k → li' (l.getD j 0) = nI j) → Z G m_X11_isWay d 0 0 0 0 2 [some (.ref Q), some (.int (nI (n' + 1))), some (.int (nI t)), some (.int (nI k)), none, none, none, none, none, none] [] (hu h (Q + 12) (aI 8 li')) (fun r h' => ∃ x, r = some (.int (bI x)) ∧ (x = wyB (n' + 1) (dg3 t) l ∧ ∃ li', h' = hu h (Q + 12) (aI 8 li'))) := by
    intro w
    induction w with
    | zero =>
      intro k hk li' hli
      refine z_ild3 (n := 3) (by decide +kernel) ?_
      refine z_ild1 (n := 4) (by decide +kernel) ?_
      refine z_icmp_ge_t (n := 7) (off := 21) (tgt := 25) (by decide +kernel) (by rw [show k = n' + 1 by omega]; exact Int32.le_refl _) ?_
      exact z_wk (lv' := [some (.ref Q), some (.int (nI (n' + 1))), some (.int (nI t)), none, none, none, none, none, none, none]) (by simp [wk]) (main li' (fun p hp => by have h1 := (mm p).mpr hp; have h2 := hli (l.idxOf p) (by have := List.idxOf_lt_length_of_mem h1; omega); rw [get_idx h1] at h2; exact h2))
    | succ w ih =>
      intro k hk li' hli
      have k8 : k < 8 := by omega
      have g := gl k (by omega)
      have ok := ho k (by omega)
      have i1 : ix (o k) (l.getD k 0) 8 := by rw [ok]; exact ix_nI (by omega) (by omega)
      refine z_ild3 (n := 3) (by decide +kernel) ?_
      refine z_ild1 (n := 4) (by decide +kernel) ?_
      refine z_icmp_ge_f (n := 7) (off := 21) (tgt := 25) (by decide +kernel) (nI_ge (by omega) (by omega)) ?_
      refine z_ald0 (n := 8) (by decide +kernel) ?_
      refine z_getf (n := 11) (idx := 53) (by decide +kernel) fl_X11_53 (by first | assumption | (simp (disch := omega) only [hu_s, hu_n]; first | assumption | rfl)) (by rfl) ?_
      refine z_ald0 (n := 12) (by decide +kernel) ?_
      refine z_getf (n := 15) (idx := 50) (by decide +kernel) fl_X11_50 (by first | assumption | (simp (disch := omega) only [hu_s, hu_n]; first | assumption | rfl)) (by rfl) ?_
      refine z_ild3 (n := 16) (by decide +kernel) ?_
      refine z_iald (n := 17) (by decide +kernel) (by first | assumption | (simp (disch := omega) only [hu_s, hu_n]; first | assumption | rfl)) (by first | assumption | exact ix_nI (by omega) (by omega)) ?_
      refine z_ild3 (n := 18) (by decide +kernel) ?_
      refine z_iast (n := 19) (by decide +kernel) (by first | assumption | (simp (disch := omega) only [hu_s, hu_n]; first | assumption | rfl)) (by exact i1) ?_
      refine z_inc3 (n := 22) (q := 1) (by decide +kernel) rfl (nI_1 _) ?_
      refine z_goto (n := 25) (off := -20) (tgt := 2) (by decide +kernel) ?_
      skip
      rw [hu_hu]
      refine ih (k + 1) (by omega) _ ?_
      intro j hj
      by_cases c : j = k
      · subst c; exact upd_ss
      · have ne : l.getD j 0 ≠ l.getD k 0 := fun z => by
          have z1 := idx_get nd (show j < l.length by omega)
          have z2 := idx_get nd (show k < l.length by omega)
          rw [z] at z1
          omega
        rw [upd_nn ne]
        exact hli j (by omega)
  refine ev_3_7 rfl rfl rfl (by decide +kernel) (by decide +kernel) ?_
  refine z_iconst (n := 1) (q := 0) (v := 0) (by decide +kernel) ?_
  refine z_ist3 (n := 2) (by decide +kernel) rfl ?_
  skip
  have q := lf (n' + 1) 0 (by omega) li (fun j hj => absurd hj (Nat.not_lt_zero _))
  have e : hu h (Q + 12) (aI 8 li) = h := by rw [← hL]; exact hu_same
  rw [e] at q
  exact q
