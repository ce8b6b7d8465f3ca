/-! CreasedPaperModel: ways -/
def wyC (h : mH) (Q : Nat) (N : Int32) (m : Nat → Int32) (wd : Int64) (o li : Nat → Int32) : Prop := h Q = oMod Q N m wd ∧ h (Q + 11) = aI 8 o ∧ h (Q + 12) = aI 8 li
def wyF (h h' : mH) (Q : Nat) : Prop := ∀ j, j ≠ Q + 11 → j ≠ Q + 12 → h' j = h j
theorem wyF_tr {h h1 h2 : mH} {Q : Nat} (a : wyF h h1 Q) (b : wyF h1 h2 Q) : wyF h h2 Q := fun j p q => (b j p q).trans (a j p q)
theorem wyF_rf {h : mH} {Q : Nat} : wyF h h Q := fun _ _ _ => rfl
def wyL (n k t : Nat) (pre : List Nat) : List (List Nat) := (exP n k pre).filter (wyB n (dg3 t))
theorem m_wE {G : mG} {Q n t : Nat} {N i lay : Int32} {m : Nat → Int32} {wd : Int64} {QQ : Option Value → mH → Prop} (d : Nat) (hd : 1 ≤ d) (hn2 : 2 ≤ n) (hn : n ≤ 8) (ht : t < 2 ^ 31) (hi : ¬ i = -1 → ∃ y, y < n ∧ lay = nI y) : ∀ (k : Nat) (pre S : List Nat) (W : List (List Nat)), S = rst n pre → S.length = k → (pre ++ S).Perm (List.range n) → W = wyL n k t pre → ∀ (f : Nat) (h : mH) (o li : Nat → Int32), f + W.length < 2 ^ 31 → wyC h Q N m wd o li → oL o (pre ++ S) → (∀ (h' : mH) (o' li' : Nat → Int32), (∀ j, j < W.length → ¬ i = nI (f + j)) → wyF h h' Q → wyC h' Q N m wd o' li' → oL o' (pre ++ S.reverse) → Z G m_X11_ways d 0 0 0 0 132 [some (.ref Q), some (.int (nI n)), some (.int (nI t)), some (.int i), some (.int lay), none, some (.int (nI (f + W.length))), some (.int 1)] [] h' QQ) → (∀ (j : Nat) (h' : mH) (o' li' : Nat → Int32), j < W.length → i = nI (f + j) → wyF h h' Q → wyC h' Q N m wd o' li' → QQ (some (.int (nI ((W.getD j []).getD lay.toNatClampNeg 0)))) h') → Z G m_X11_ways d 0 0 0 0 101 [some (.ref Q), some (.int (nI n)), some (.int (nI t)), some (.int i), some (.int lay), none, some (.int (nI f)), some (.int 1)] [] h QQ := by
  intro k
  induction k with
  | zero =>
    intro pre S W hS hk hp hW f h o li hf H ho KF KT
    have S0 : S = [] := List.length_eq_zero_iff.mp hk
    subst S0
    rw [List.append_nil] at hp ho
    have ln : pre.length = n := by rw [hp.length_eq, List.length_range]
    have H' := H
    obtain ⟨h0, h1, h2⟩ := H
    refine z_ild7 (n := 103) (by decide +kernel) ?_
    refine z_if_eq_f (n := 106) (off := 39) (tgt := 142) (by decide +kernel) (by decide) ?_
    refine z_ald0 (n := 107) (by decide +kernel) ?_
    refine z_ild1 (n := 108) (by decide +kernel) ?_
    refine z_ild2 (n := 109) (by decide +kernel) ?_
    refine z_g2 (n := 112) (idx := 228) (by decide +kernel) ml_X11_228 (by assumption) rfl (Nat.le_of_ble_eq_true rfl) (by omega) ⟨Nat.le_refl _, Nat.le_refl _⟩ (m_isWay (n := n) (t := t) (l := pre) 0 hn2 hn ht hp h0 h1 h2 ho) (fun x109 h109 q109 => ?_)
    skip
    obtain ⟨ex, li', rfl⟩ := q109
    have C1 : wyC (hu h (Q + 12) (aI 8 li')) Q N m wd o li' := ⟨(hu_n (by omega)).trans h0, (hu_n (by omega)).trans h1, hu_s⟩
    have F1 : wyF h (hu h (Q + 12) (aI 8 li')) Q := fun j p q => hu_n q
    obtain ⟨g0, g1, g2⟩ := C1
    have C1 : wyC (hu h (Q + 12) (aI 8 li')) Q N m wd o li' := ⟨g0, g1, g2⟩
    cases x109 with
    | false =>
      have W0 : W = [] := by rw [hW]; unfold wyL; rw [exP, List.filter_cons, ← ex]; rfl
      subst W0
      refine z_ifb_eq_t (n := 115) (off := 20) (tgt := 132) (by decide +kernel) (rfl) ?_
      exact KF _ o li' (fun j hj => absurd hj (Nat.not_lt_zero _)) F1 C1 (by rw [List.reverse_nil, List.append_nil]; exact ho)
    | true =>
      have W0 : W = [pre] := by rw [hW]; unfold wyL; rw [exP, List.filter_cons, ← ex]; rfl
      subst W0
      by_cases c : nI f = i
      · obtain ⟨y, hy, rfl⟩ := hi (fun z => absurd ((c.trans z) ▸ nI_pos' (n := f) (by simp at hf; omega) : (0 : Int32) ≤ -1) (by decide))
        have y8 : y < 8 := by omega
        have oy := ho y (by omega)
        have kt := KT 0 _ o li' (by simp) c.symm F1 C1
        rw [nI_clamp (by omega)] at kt
        refine z_ifb_eq_f (n := 115) (off := 20) (tgt := 132) (by decide +kernel) (rfl) ?_
        refine z_ild6 (n := 117) (by decide +kernel) ?_
        refine z_ild3 (n := 118) (by decide +kernel) ?_
        refine z_icmp_ne_f (n := 121) (off := 11) (tgt := 129) (by decide +kernel) (c) ?_
        refine z_ald0 (n := 122) (by decide +kernel) ?_
        refine z_getf (n := 125) (idx := 50) (by decide +kernel) fl_X11_50 (by assumption) (by rfl) ?_
        refine z_ild4 (n := 127) (by decide +kernel) ?_
        refine z_iald (n := 128) (by decide +kernel) (by assumption) (by first | assumption | exact ix_nI (by omega) (by omega)) ?_
        refine z_top oy ?_
        refine z_iret (by decide +kernel) rfl (Nat.le_refl _) ?_
        exact kt
      · refine z_ifb_eq_f (n := 115) (off := 20) (tgt := 132) (by decide +kernel) (rfl) ?_
        refine z_ild6 (n := 117) (by decide +kernel) ?_
        refine z_ild3 (n := 118) (by decide +kernel) ?_
        refine z_icmp_ne_t (n := 121) (off := 11) (tgt := 129) (by decide +kernel) (c) ?_
        refine z_inc6 (n := 132) (q := 1) (by decide +kernel) rfl (nI_1 _) ?_
        exact KF _ o li' (fun j hj => by simp at hj; subst hj; exact fun z => c z.symm) F1 C1 (by rw [List.reverse_nil, List.append_nil]; exact ho)
  | succ k ih =>
    intro pre S W hS hk hp hW f h o li hf H ho KF KT
    have hlt : ∀ x, x ∈ pre ++ S → x < n := fun x hx => List.mem_range.mp (hp.mem_iff.mp hx)
    have hln : (pre ++ S).length = n := by rw [hp.length_eq, List.length_range]
    have sS : S.Pairwise (· < ·) := by rw [hS]; exact rst_lt n pre
    have inn : ∀ (b a : List Nat) (v : Nat), S = a ++ v :: b → ∀ (f : Nat) (h : mH) (o li : Nat → Int32) (W : List (List Nat)), W = ((v :: b).flatMap (fun u => exP n k (pre ++ [u]))).filter (wyB n (dg3 t)) → f + W.length < 2 ^ 31 → wyC h Q N m wd o li → oL o (pre ++ v :: (a ++ b)) → (∀ (h' : mH) (o' li' : Nat → Int32), (∀ j, j < W.length → ¬ i = nI (f + j)) → wyF h h' Q → wyC h' Q N m wd o' li' → oL o' (pre ++ S.reverse) → Z G m_X11_ways d 0 0 0 0 132 [some (.ref Q), some (.int (nI n)), some (.int (nI t)), some (.int i), some (.int lay), none, some (.int (nI (f + W.length))), some (.int 1)] [] h' QQ) → (∀ (j : Nat) (h' : mH) (o' li' : Nat → Int32), j < W.length → i = nI (f + j) → wyF h h' Q → wyC h' Q N m wd o' li' → QQ (some (.int (nI ((W.getD j []).getD lay.toNatClampNeg 0)))) h') → Z G m_X11_ways d 0 0 0 0 101 [some (.ref Q), some (.int (nI n)), some (.int (nI t)), some (.int i), some (.int lay), none, some (.int (nI f)), some (.int 1)] [] h QQ := by
      intro b
      induction b with
      | nil =>
        intro a v hab f h o li W hW hf H ho KF KT
        have W1 : W = wyL n k t (pre ++ [v]) := by rw [hW]; unfold wyL; simp
        have r1 : a ++ [] = rst n (pre ++ [v]) := (rst_push (hS ▸ hab)).symm
        have e1 : pre ++ [v] ++ (a ++ []) = pre ++ v :: (a ++ []) := by simp
        refine ih (pre ++ [v]) (a ++ []) W r1 (by rw [hab] at hk; simp at hk ⊢; omega) ?_ W1 f h o li hf H (by rw [e1]; exact ho) ?_ KT
        · rw [e1]
          rw [hab] at hp
          refine List.Perm.trans ?_ hp
          simp only [List.append_nil]
          exact List.Perm.append_left pre (List.perm_append_singleton v a).symm
        · intro h' o' li' z1 z2 z3 z4
          refine KF h' o' li' z1 z2 z3 ?_
          rw [hab]
          simpa using z4
      | cons w b ihb =>
        intro a v hab f h o li W hW hf H ho KF KT
        rw [List.flatMap_cons, List.filter_append] at hW
        generalize hW1 : (exP n k (pre ++ [v])).filter (wyB n (dg3 t)) = W1 at hW
        generalize hW2 : ((w :: b).flatMap (fun u => exP n k (pre ++ [u]))).filter (wyB n (dg3 t)) = W2 at hW
        have lW : W.length = W1.length + W2.length := by rw [hW, List.length_append]
        have r1 : a ++ w :: b = rst n (pre ++ [v]) := (rst_push (hS ▸ hab)).symm
        have e1 : pre ++ [v] ++ (a ++ w :: b) = pre ++ v :: (a ++ w :: b) := by simp
        refine ih (pre ++ [v]) (a ++ w :: b) W1 r1 (by rw [hab] at hk; simp at hk ⊢; omega) ?_ hW1.symm f h o li (by omega) H (by rw [e1]; exact ho) ?_ ?_
        · rw [e1]
          rw [hab] at hp
          exact List.Perm.trans (List.Perm.append_left pre List.perm_middle.symm) hp
        · intro h' o' li' z1 z2 z3 z4
          obtain ⟨g0, g1, g2⟩ := z3
          rw [hab] at hlt hln sS
          have z5 : oL o' (pre ++ v :: (a ++ w :: b).reverse) := by simpa using z4
          refine z_ald0 (n := 133) (by decide +kernel) ?_
          refine z_ild1 (n := 134) (by decide +kernel) ?_
          refine z_w1 (n := 137) (idx := 231) (by decide +kernel) ml_X11_231 (by assumption) rfl (Nat.le_of_ble_eq_true rfl) (by omega) ⟨Nat.le_refl _, Nat.le_refl _⟩ (m_nextL (n := n) (v := v) (w := w) (a := a) (b := b) (pre := pre) 0 hn sS (by rw [← hln]; simp; omega) (fun x hx => hlt x (by simp at hx ⊢; rcases hx with z | z | z | z | z <;> simp [z])) g0 g1 z5) (fun h134 q134 => ?_)
          refine z_ist7 (n := 139) (by decide +kernel) rfl ?_
          refine z_goto (n := 142) (off := -38) (tgt := 101) (by decide +kernel) ?_
          skip
          obtain ⟨o2, rfl, y2⟩ := q134
          refine ihb (a ++ [v]) w (by rw [hab]; simp) (f + W1.length) _ o2 li' W2 hW2.symm (by omega) ⟨(hu_n (by omega)).trans g0, hu_s, (hu_n (by omega)).trans g2⟩ (by simpa using y2) ?_ ?_
          · intro h2 o3 li3 x1 x2 x3 x4
            have q := KF h2 o3 li3 (fun j hj => (by
              by_cases c : j < W1.length
              · exact z1 j c
              · have := x1 (j - W1.length) (by omega)
                rw [show f + W1.length + (j - W1.length) = f + j by omega] at this
                exact this)) (wyF_tr z2 (wyF_tr (fun j p q => hu_n p) x2)) x3 x4
            rw [lW, ← Nat.add_assoc] at q
            exact q
          · intro j h2 o3 li3 x1 x2 x3 x4
            have q := KT (W1.length + j) h2 o3 li3 (by omega) (by rw [x2, Nat.add_assoc]) (wyF_tr z2 (wyF_tr (fun j p q => hu_n p) x3)) x4
            rw [hW, getD_appR] at q
            exact q
        · intro j h' o' li' x1 x2 x3 x4
          have q := KT j h' o' li' (by omega) x2 x3 x4
          rw [hW, getD_appL x1] at q
          exact q
    cases hSS : S with
    | nil => rw [hSS] at hk; simp at hk
    | cons v b =>
      rw [hSS] at ho KF
      refine inn b [] v (by rw [hSS]; rfl) f h o li W ?_ hf H ho ?_ KT
      · rw [hW]
        unfold wyL
        rw [exP, ← hS, hSS]
      · intro h' o' li' z1 z2 z3 z4
        exact KF h' o' li' z1 z2 z3 (by rw [hSS] at z4; exact z4)
