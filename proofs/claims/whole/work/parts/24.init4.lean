/-! constructor of CreasedPaper -/
/-- the length that a strip gets -/
def lenN (x : Int32) : Nat := if x < 2 then 2 else if 40 < x then 40 else x.toNatClampNeg
theorem lenN_in (x : Int32) : 2 ≤ lenN x ∧ lenN x ≤ 40 := by
  unfold lenN
  split
  · omega
  · split
    · omega
    · rename_i a b
      have a1 : (2 : Int) ≤ x.toInt := Int32.le_iff_toInt_le.mp (Int32.not_lt.mp a)
      have b1 : x.toInt ≤ 40 := Int32.le_iff_toInt_le.mp (Int32.not_lt.mp b)
      show 2 ≤ x.toInt.toNat ∧ x.toInt.toNat ≤ 40
      omega
theorem lenN_mid {x : Int32} (a : ¬ x < 2) (b : ¬ 40 < x) : nI (lenN x) = x := by
  unfold lenN
  rw [if_neg a, if_neg b]
  obtain ⟨j, hj, rfl⟩ := nI_of (x := x) (fun q => a (Int32.lt_of_lt_of_le q (by decide)))
  rw [nI_clamp hj]
theorem lenN_c (x : Int32) : (if 2 < (if x < 40 then x else 40) then (if x < 40 then x else 40) else 2) = nI (lenN x) := by
  by_cases a : x < 2
  · have h1 : x < 40 := Int32.lt_of_lt_of_le a (by decide)
    have h2 : ¬ 2 < x := fun q => absurd (Int32.lt_trans a q) (Int32.lt_irrefl)
    rw [if_pos h1, if_neg h2]
    unfold lenN
    rw [if_pos a]
    rfl
  · by_cases b : 40 < x
    · have h1 : ¬ x < 40 := fun q => absurd (Int32.lt_trans b q) (Int32.lt_irrefl)
      rw [if_neg h1, if_pos (by decide)]
      unfold lenN
      rw [if_neg a, if_pos b]
      rfl
    · rw [lenN_mid a b]
      by_cases h1 : x < 40
      · rw [if_pos h1]
        by_cases h2 : 2 < x
        · rw [if_pos h2]
        · rw [if_neg h2]
          exact Int32.le_antisymm (Int32.not_lt.mp a) (Int32.not_lt.mp h2)
      · rw [if_neg h1, if_pos (by decide)]
        exact Int32.le_antisymm (Int32.not_lt.mp h1) (Int32.not_lt.mp b)
theorem pap_in {h h' : mH} {B n : Nat} {s : pS} (hf : ∀ j, B ≤ j → j < B + 13 → h' j = h j) (p : pap h B n s) : pap h' B n s := by
  obtain ⟨tl, ht, h0, h1, h2, h3, h4, h5, h6, h7, h8, h9, h10, h11, h12⟩ := p
  exact ⟨tl, ht, (hf _ (by omega) (by omega)).trans h0, (hf _ (by omega) (by omega)).trans h1, (hf _ (by omega) (by omega)).trans h2, (hf _ (by omega) (by omega)).trans h3, (hf _ (by omega) (by omega)).trans h4, (hf _ (by omega) (by omega)).trans h5, (hf _ (by omega) (by omega)).trans h6, (hf _ (by omega) (by omega)).trans h7, (hf _ (by omega) (by omega)).trans h8, (hf _ (by omega) (by omega)).trans h9, (hf _ (by omega) (by omega)).trans h10, (hf _ (by omega) (by omega)).trans h11, (hf _ (by omega) (by omega)).trans h12⟩
theorem she_in {h h' : mH} {E : Nat} {s : eS} (hf : ∀ j, E ≤ j → j < E + 6 → h' j = h j) (p : she h E s) : she h' E s := by
  obtain ⟨h0, h1, h2, h3, h4, h5⟩ := p
  exact ⟨(hf _ (by omega) (by omega)).trans h0, (hf _ (by omega) (by omega)).trans h1, (hf _ (by omega) (by omega)).trans h2, (hf _ (by omega) (by omega)).trans h3, (hf _ (by omega) (by omega)).trans h4, (hf _ (by omega) (by omega)).trans h5⟩
theorem see_in {h h' : mH} {Y : Nat} {s : yS} (hf : ∀ j, Y ≤ j → j < Y + 3 → h' j = h j) (p : see h Y s) : see h' Y s := by
  obtain ⟨h0, h1, h2⟩ := p
  exact ⟨(hf _ (by omega) (by omega)).trans h0, (hf _ (by omega) (by omega)).trans h1, (hf _ (by omega) (by omega)).trans h2⟩
def oCP (C : Nat) : mE := oB 10 [.ref (C + 1), .ref (C + 14), .ref (C + 27), .ref (C + 33), .ref (C + 39), .ref (C + 42), .ref (C + 45), .ref (C + 47), .ref (C + 54), .ref (C + 56), .ref (C + 60)]
/-- the tape and the text, as far as they are held -/
def tap (h : mH) (P : Nat) (ln kd sa bh vl : Int32) (by_ : Nat → Int32) : Prop := h P = oTap P ln kd sa bh vl ∧ h (P + 1) = aI 300 by_
def txt (h : mH) (X : Nat) (wr : Bool) (fk fp sp ds dp ad : Int32) (vb nu fb bh oa : Nat → Int32) (tr : Nat → Bool) : Prop := h X = oTex X wr fk fp sp ds dp ad ∧ h (X + 1) = aI 40 vb ∧ h (X + 2) = aI 40 nu ∧ h (X + 3) = aZ 40 tr ∧ h (X + 4) = aI 40 fb ∧ h (X + 5) = aI 40 bh ∧ h (X + 6) = aI 4 oa
/-- the cells of a search, their contents aside -/
def seaX (h : mH) (S : Nat) : Prop := (∃ ce fo wa fd, h S = oSea S ce fo wa fd) ∧ (∃ f, h (S + 1) = aI 3 f) ∧ seaC h S 4 ∧ (∀ q, q < 4 → ∃ f, h (S + 3 + 1 + q) = aI 12 f) ∧ (∃ f, h (S + 8) = aI 12 f) ∧ (∀ q, q < 12 → ∃ f, h (S + 9 + 1 + q) = aI 3 f) ∧ (∀ q, q < 4 → ∃ k tl pl ly up ht, stp h (S + 22 + 5 * q) 12 k tl pl ly up ht)
def shaX (h : mH) (S : Nat) : Prop := (∃ an sn fp, h S = oSha S an sn fp) ∧ ∃ f, h (S + 1) = aI 361 f
def panX (h : mH) (S : Nat) : Prop := (∃ ct wt fd, h S = oPan S ct wt fd) ∧ (∃ f, h (S + 1) = aI 8 f) ∧ (∃ f, h (S + 2) = aI 8 f) ∧ ∃ f, h (S + 3) = aI 8 f
theorem seaX_in {h h' : mH} {S : Nat} (hf : ∀ j, S ≤ j → j < S + 42 → h' j = h j) (p : seaX h S) : seaX h' S := by
  obtain ⟨⟨ce, fo, wa, fd, h0⟩, ⟨f1, h1⟩, ⟨⟨f2, h2, h2'⟩, h3, h4⟩, h5, ⟨f6, h6⟩, h7, h8⟩ := p
  refine ⟨⟨ce, fo, wa, fd, (hf _ (by omega) (by omega)).trans h0⟩, ⟨f1, (hf _ (by omega) (by omega)).trans h1⟩, ⟨⟨f2, (hf _ (by omega) (by omega)).trans h2, h2'⟩, (hf _ (by omega) (by omega)).trans h3, (hf _ (by omega) (by omega)).trans h4⟩, fun q hq => ?_, ⟨f6, (hf _ (by omega) (by omega)).trans h6⟩, fun q hq => ?_, fun q hq => ?_⟩
  · obtain ⟨f, e⟩ := h5 q hq
    exact ⟨f, (hf _ (by omega) (by omega)).trans e⟩
  · obtain ⟨f, e⟩ := h7 q hq
    exact ⟨f, (hf _ (by omega) (by omega)).trans e⟩
  · obtain ⟨k, tl, pl, ly, up, ht, e0, e1, e2, e3, e4⟩ := h8 q hq
    exact ⟨k, tl, pl, ly, up, ht, (hf _ (by omega) (by omega)).trans e0, (hf _ (by omega) (by omega)).trans e1, (hf _ (by omega) (by omega)).trans e2, (hf _ (by omega) (by omega)).trans e3, (hf _ (by omega) (by omega)).trans e4⟩
theorem shaX_in {h h' : mH} {S : Nat} (hf : ∀ j, S ≤ j → j < S + 2 → h' j = h j) (p : shaX h S) : shaX h' S := by
  obtain ⟨⟨a, b, c, h0⟩, ⟨f1, h1⟩⟩ := p
  exact ⟨⟨a, b, c, (hf _ (by omega) (by omega)).trans h0⟩, ⟨f1, (hf _ (by omega) (by omega)).trans h1⟩⟩
theorem panX_in {h h' : mH} {S : Nat} (hf : ∀ j, S ≤ j → j < S + 4 → h' j = h j) (p : panX h S) : panX h' S := by
  obtain ⟨⟨a, b, c, h0⟩, ⟨f1, h1⟩, ⟨f2, h2⟩, ⟨f3, h3⟩⟩ := p
  exact ⟨⟨a, b, c, (hf _ (by omega) (by omega)).trans h0⟩, ⟨f1, (hf _ (by omega) (by omega)).trans h1⟩, ⟨f2, (hf _ (by omega) (by omega)).trans h2⟩, ⟨f3, (hf _ (by omega) (by omega)).trans h3⟩⟩
/-- a new object -/
def cls0 (h : mH) (C n : Nat) : Prop := h C = oCP C ∧ pap h (C + 1) n (pS0 n) ∧ pap h (C + 14) n (pS0 n) ∧ she h (C + 27) (0, fun _ _ => 0) ∧ she h (C + 33) (0, fun _ _ => 0) ∧ see h (C + 39) ((0, 0), (fun _ => 0), fun _ => 0) ∧ see h (C + 42) ((0, 0), (fun _ => 0), fun _ => 0) ∧ tap h (C + 45) 0 0 0 0 0 (fun _ => 0) ∧ txt h (C + 47) false 0 (-1) (-1) 0 0 0 (fun _ => 0) (fun _ => 0) (fun _ => 0) (fun _ => 0) (fun _ => 0) (fun _ => false) ∧ shaX h (C + 54) ∧ panX h (C + 56) ∧ seaX h (C + 60)
/-- the words on the constructors of nest mates -/
def nws : List Cond := [.methodLinkNest "CreasedPaper" 32 ⟨"CreasedPaper$Sheets", "<init>", "()V"⟩ "CreasedPaper", .methodLinkNest "CreasedPaper" 42 ⟨"CreasedPaper$Seen", "<init>", "()V"⟩ "CreasedPaper", .methodLinkNest "CreasedPaper" 52 ⟨"CreasedPaper$Tape", "<init>", "()V"⟩ "CreasedPaper", .methodLinkNest "CreasedPaper" 59 ⟨"CreasedPaper$Text", "<init>", "()V"⟩ "CreasedPaper", .methodLinkNest "CreasedPaper" 66 ⟨"CreasedPaper$Shapes", "<init>", "()V"⟩ "CreasedPaper", .methodLinkNest "CreasedPaper" 73 ⟨"CreasedPaper$Panels", "<init>", "()V"⟩ "CreasedPaper"]
theorem i_creased {G : mG} {h : mH} {C n : Nat} {x : Int32} (d : Nat) (hd : 4 ≤ d) (hAO : ∀ U, gI G U → va_AO "CreasedPaper$Strip" U) (hAA : ∀ U, gI G U → (Cond.arrayOver (.array .int)).before #[] U = true) (hNW : ∀ w, w ∈ nws → ∀ U, gI G U → va_Nw w U) (hz : szH h (C + 1)) (hC : h C = oB 10 [.null, .null, .null, .null, .null, .null, .null, .null, .null, .null, .null]) (hn : lenN x = n + 1) : EV G m_X10_init d 101 3100 [.ref C, .int x] h (fun r h' => r = none ∧ (∀ j, j < C → h' j = h j) ∧ szH h' (C + 102) ∧ cls0 h' C n) := by
  have hle := lenN_in x
  refine ev_2_1 rfl rfl (by decide +kernel) (by decide +kernel) ?_
  refine z_ald0 (n := 1) (by decide +kernel) ?_
  refine z_objI (n := 4) (idx := 1) (by decide +kernel) jl_X10_1 (Nat.le_of_ble_eq_true rfl) (by omega) ?_
  refine z_iconst (n := 5) (q := 2) (v := 2) (by decide +kernel) ?_
  refine z_bipush (n := 7) (q := 40) (v := 40) (by decide +kernel) ?_
  refine z_ild1 (n := 8) (by decide +kernel) ?_
  refine z_mmin (n := 11) (idx := 9) (by decide +kernel) jl_X10_9 (Nat.le_of_ble_eq_true rfl) (by omega) (Nat.le_of_ble_eq_true rfl) (Nat.le_of_ble_eq_true rfl) ?_
  refine z_mmax (n := 14) (idx := 15) (by decide +kernel) jl_X10_15 (Nat.le_of_ble_eq_true rfl) (by omega) (Nat.le_of_ble_eq_true rfl) (Nat.le_of_ble_eq_true rfl) ?_
  refine z_top ((lenN_c x).trans (by rw [hn])) ?_
  refine z_ist2 (n := 15) (by decide +kernel) rfl ?_
  refine z_ald0 (n := 16) (by decide +kernel) ?_
  refine z_new (n := 19) (idx := 18) (k := C + 1) (by decide +kernel) kc_X10_18 (by intro i9; (try simp only [hFl, hu]); (repeat' split); all_goals first | exact hz i9 | (rw [hz i9]; omega) | (constructor <;> intro q9 <;> first | omega | cases q9)) (by first | omega | (simp only [List.length]; omega)) (by first | omega | (simp only [List.length]; omega)) ?_
  refine z_dup (n := 20) (by decide +kernel) rfl ?_
  refine z_ild2 (n := 21) (by decide +kernel) ?_
  refine z_j1 (n := 24) (idx := 20) (by decide +kernel) ml_X10_20 ⟨rfl, rfl⟩ (Nat.le_of_ble_eq_true rfl) (by omega) ⟨by first | omega | (simp only [List.length]; omega), by first | omega | (simp only [List.length]; omega)⟩ (i_paper (B := C + 1) (n := n) 3 (by omega) (szH_push (by intro i9; (try simp only [hFl, hu]); (repeat' split); all_goals first | exact hz i9 | (rw [hz i9]; omega) | (constructor <;> intro q9 <;> first | omega | cases q9)) oB_dd) (by simp (disch := omega) only [hTn, hCr, hFl, hu_s, hu_n]; first | done | assumption | rfl) (by omega)) (fun h21 q21 => ?_)
  obtain ⟨f0, z0, p0⟩ := q21; have b0 : h21 C = oB 10 [.null, .null, .null, .null, .null, .null, .null, .null, .null, .null, .null] := (f0 C (by omega)).trans (by simp (disch := omega) only [hu_s, hu_n]; first | done | assumption | rfl); have g0 : ∀ j, j < C + 1 → j ≠ C → h21 j = h j := fun j hj hc => (f0 j (by omega)).trans (by simp (disch := omega) only [hu_n]); clear hz; have hz := z0
  refine z_putF (n := 27) (idx := 23) (ty := (.object "CreasedPaper$Paper")) (by decide +kernel) fl_X10_23 (by first | assumption | (simp (disch := omega) only [hu_s, hu_n]; first | assumption | rfl)) ⟨_, _, _, rfl, rfl, rfl, by decide +kernel⟩ rfl rfl (Nat.le_of_ble_eq_true rfl) ?_
  refine z_ald0 (n := 28) (by decide +kernel) ?_
  refine z_new (n := 31) (idx := 18) (k := C + 14) (by decide +kernel) kc_X10_18 (by intro i9; (try simp only [hFl, hu]); (repeat' split); all_goals first | exact hz i9 | (rw [hz i9]; omega) | (constructor <;> intro q9 <;> first | omega | cases q9)) (by first | omega | (simp only [List.length]; omega)) (by first | omega | (simp only [List.length]; omega)) ?_
  refine z_dup (n := 32) (by decide +kernel) rfl ?_
  refine z_ild2 (n := 33) (by decide +kernel) ?_
  refine z_j1 (n := 36) (idx := 20) (by decide +kernel) ml_X10_20 ⟨rfl, rfl⟩ (Nat.le_of_ble_eq_true rfl) (by omega) ⟨by first | omega | (simp only [List.length]; omega), by first | omega | (simp only [List.length]; omega)⟩ (i_paper (B := C + 14) (n := n) 3 (by omega) (szH_push (by intro i9; (try simp only [hFl, hu]); (repeat' split); all_goals first | exact hz i9 | (rw [hz i9]; omega) | (constructor <;> intro q9 <;> first | omega | cases q9)) oB_dd) (by simp (disch := omega) only [hTn, hCr, hFl, hu_s, hu_n]; first | done | assumption | rfl) (by omega)) (fun h33 q33 => ?_)
  obtain ⟨f1, z1, p1⟩ := q33; have b1 : h33 C = oB 10 [.ref (C + 1), .null, .null, .null, .null, .null, .null, .null, .null, .null, .null] := (f1 C (by omega)).trans (by simp (disch := omega) only [hu_s, hu_n]; first | done | assumption | rfl); have g1 : ∀ j, j < C + 14 → j ≠ C → h33 j = h21 j := fun j hj hc => (f1 j (by omega)).trans (by simp (disch := omega) only [hu_n]); clear hz; have hz := z1
  refine z_putF (n := 39) (idx := 27) (ty := (.object "CreasedPaper$Paper")) (by decide +kernel) fl_X10_27 (by first | assumption | (simp (disch := omega) only [hu_s, hu_n]; first | assumption | rfl)) ⟨_, _, _, rfl, rfl, rfl, by decide +kernel⟩ rfl rfl (Nat.le_of_ble_eq_true rfl) ?_
  refine z_ald0 (n := 40) (by decide +kernel) ?_
  refine z_new (n := 43) (idx := 30) (k := C + 27) (by decide +kernel) kc_X10_30 (by intro i9; (try simp only [hFl, hu]); (repeat' split); all_goals first | exact hz i9 | (rw [hz i9]; omega) | (constructor <;> intro q9 <;> first | omega | cases q9)) (by first | omega | (simp only [List.length]; omega)) (by first | omega | (simp only [List.length]; omega)) ?_
  refine z_dup (n := 44) (by decide +kernel) rfl ?_
  refine z_k0 (n := 47) (idx := 32) (by decide +kernel) ml_X10_32 (hNW _ (by decide +kernel)) ⟨rfl, rfl⟩ (Nat.le_of_ble_eq_true rfl) (by omega) ⟨by first | omega | (simp only [List.length]; omega), by first | omega | (simp only [List.length]; omega)⟩ (i_sheets (S := C + 27) 1 (by omega) (szH_push (by intro i9; (try simp only [hFl, hu]); (repeat' split); all_goals first | exact hz i9 | (rw [hz i9]; omega) | (constructor <;> intro q9 <;> first | omega | cases q9)) oB_dd) (by simp (disch := omega) only [hTn, hCr, hFl, hu_s, hu_n]; first | done | assumption | rfl)) (fun h44 q44 => ?_)
  obtain ⟨f2, z2, p2⟩ := q44; have b2 : h44 C = oB 10 [.ref (C + 1), .ref (C + 14), .null, .null, .null, .null, .null, .null, .null, .null, .null] := (f2 C (by omega)).trans (by simp (disch := omega) only [hu_s, hu_n]; first | done | assumption | rfl); have g2 : ∀ j, j < C + 27 → j ≠ C → h44 j = h33 j := fun j hj hc => (f2 j (by omega)).trans (by simp (disch := omega) only [hu_n]); clear hz; have hz := z2
  refine z_putF (n := 50) (idx := 33) (ty := (.object "CreasedPaper$Sheets")) (by decide +kernel) fl_X10_33 (by first | assumption | (simp (disch := omega) only [hu_s, hu_n]; first | assumption | rfl)) ⟨_, _, _, rfl, rfl, rfl, by decide +kernel⟩ rfl rfl (Nat.le_of_ble_eq_true rfl) ?_
  refine z_ald0 (n := 51) (by decide +kernel) ?_
  refine z_new (n := 54) (idx := 30) (k := C + 33) (by decide +kernel) kc_X10_30 (by intro i9; (try simp only [hFl, hu]); (repeat' split); all_goals first | exact hz i9 | (rw [hz i9]; omega) | (constructor <;> intro q9 <;> first | omega | cases q9)) (by first | omega | (simp only [List.length]; omega)) (by first | omega | (simp only [List.length]; omega)) ?_
  refine z_dup (n := 55) (by decide +kernel) rfl ?_
  refine z_k0 (n := 58) (idx := 32) (by decide +kernel) ml_X10_32 (hNW _ (by decide +kernel)) ⟨rfl, rfl⟩ (Nat.le_of_ble_eq_true rfl) (by omega) ⟨by first | omega | (simp only [List.length]; omega), by first | omega | (simp only [List.length]; omega)⟩ (i_sheets (S := C + 33) 1 (by omega) (szH_push (by intro i9; (try simp only [hFl, hu]); (repeat' split); all_goals first | exact hz i9 | (rw [hz i9]; omega) | (constructor <;> intro q9 <;> first | omega | cases q9)) oB_dd) (by simp (disch := omega) only [hTn, hCr, hFl, hu_s, hu_n]; first | done | assumption | rfl)) (fun h55 q55 => ?_)
  obtain ⟨f3, z3, p3⟩ := q55; have b3 : h55 C = oB 10 [.ref (C + 1), .ref (C + 14), .ref (C + 27), .null, .null, .null, .null, .null, .null, .null, .null] := (f3 C (by omega)).trans (by simp (disch := omega) only [hu_s, hu_n]; first | done | assumption | rfl); have g3 : ∀ j, j < C + 33 → j ≠ C → h55 j = h44 j := fun j hj hc => (f3 j (by omega)).trans (by simp (disch := omega) only [hu_n]); clear hz; have hz := z3
  refine z_putF (n := 61) (idx := 37) (ty := (.object "CreasedPaper$Sheets")) (by decide +kernel) fl_X10_37 (by first | assumption | (simp (disch := omega) only [hu_s, hu_n]; first | assumption | rfl)) ⟨_, _, _, rfl, rfl, rfl, by decide +kernel⟩ rfl rfl (Nat.le_of_ble_eq_true rfl) ?_
  refine z_ald0 (n := 62) (by decide +kernel) ?_
  refine z_new (n := 65) (idx := 40) (k := C + 39) (by decide +kernel) kc_X10_40 (by intro i9; (try simp only [hFl, hu]); (repeat' split); all_goals first | exact hz i9 | (rw [hz i9]; omega) | (constructor <;> intro q9 <;> first | omega | cases q9)) (by first | omega | (simp only [List.length]; omega)) (by first | omega | (simp only [List.length]; omega)) ?_
  refine z_dup (n := 66) (by decide +kernel) rfl ?_
  refine z_k0 (n := 69) (idx := 42) (by decide +kernel) ml_X10_42 (hNW _ (by decide +kernel)) ⟨rfl, rfl⟩ (Nat.le_of_ble_eq_true rfl) (by omega) ⟨by first | omega | (simp only [List.length]; omega), by first | omega | (simp only [List.length]; omega)⟩ (i_seen (S := C + 39) 1 (by omega) (szH_push (by intro i9; (try simp only [hFl, hu]); (repeat' split); all_goals first | exact hz i9 | (rw [hz i9]; omega) | (constructor <;> intro q9 <;> first | omega | cases q9)) oB_dd) (by simp (disch := omega) only [hTn, hCr, hFl, hu_s, hu_n]; first | done | assumption | rfl)) (fun h66 q66 => ?_)
  obtain ⟨f4, z4, p4⟩ := q66; have b4 : h66 C = oB 10 [.ref (C + 1), .ref (C + 14), .ref (C + 27), .ref (C + 33), .null, .null, .null, .null, .null, .null, .null] := (f4 C (by omega)).trans (by simp (disch := omega) only [hu_s, hu_n]; first | done | assumption | rfl); have g4 : ∀ j, j < C + 39 → j ≠ C → h66 j = h55 j := fun j hj hc => (f4 j (by omega)).trans (by simp (disch := omega) only [hu_n]); clear hz; have hz := z4
  refine z_putF (n := 72) (idx := 43) (ty := (.object "CreasedPaper$Seen")) (by decide +kernel) fl_X10_43 (by first | assumption | (simp (disch := omega) only [hu_s, hu_n]; first | assumption | rfl)) ⟨_, _, _, rfl, rfl, rfl, by decide +kernel⟩ rfl rfl (Nat.le_of_ble_eq_true rfl) ?_
  refine z_ald0 (n := 73) (by decide +kernel) ?_
  refine z_new (n := 76) (idx := 40) (k := C + 42) (by decide +kernel) kc_X10_40 (by intro i9; (try simp only [hFl, hu]); (repeat' split); all_goals first | exact hz i9 | (rw [hz i9]; omega) | (constructor <;> intro q9 <;> first | omega | cases q9)) (by first | omega | (simp only [List.length]; omega)) (by first | omega | (simp only [List.length]; omega)) ?_
  refine z_dup (n := 77) (by decide +kernel) rfl ?_
  refine z_k0 (n := 80) (idx := 42) (by decide +kernel) ml_X10_42 (hNW _ (by decide +kernel)) ⟨rfl, rfl⟩ (Nat.le_of_ble_eq_true rfl) (by omega) ⟨by first | omega | (simp only [List.length]; omega), by first | omega | (simp only [List.length]; omega)⟩ (i_seen (S := C + 42) 1 (by omega) (szH_push (by intro i9; (try simp only [hFl, hu]); (repeat' split); all_goals first | exact hz i9 | (rw [hz i9]; omega) | (constructor <;> intro q9 <;> first | omega | cases q9)) oB_dd) (by simp (disch := omega) only [hTn, hCr, hFl, hu_s, hu_n]; first | done | assumption | rfl)) (fun h77 q77 => ?_)
  obtain ⟨f5, z5, p5⟩ := q77; have b5 : h77 C = oB 10 [.ref (C + 1), .ref (C + 14), .ref (C + 27), .ref (C + 33), .ref (C + 39), .null, .null, .null, .null, .null, .null] := (f5 C (by omega)).trans (by simp (disch := omega) only [hu_s, hu_n]; first | done | assumption | rfl); have g5 : ∀ j, j < C + 42 → j ≠ C → h77 j = h66 j := fun j hj hc => (f5 j (by omega)).trans (by simp (disch := omega) only [hu_n]); clear hz; have hz := z5
  refine z_putF (n := 83) (idx := 47) (ty := (.object "CreasedPaper$Seen")) (by decide +kernel) fl_X10_47 (by first | assumption | (simp (disch := omega) only [hu_s, hu_n]; first | assumption | rfl)) ⟨_, _, _, rfl, rfl, rfl, by decide +kernel⟩ rfl rfl (Nat.le_of_ble_eq_true rfl) ?_
  refine z_ald0 (n := 84) (by decide +kernel) ?_
  refine z_new (n := 87) (idx := 50) (k := C + 45) (by decide +kernel) kc_X10_50 (by intro i9; (try simp only [hFl, hu]); (repeat' split); all_goals first | exact hz i9 | (rw [hz i9]; omega) | (constructor <;> intro q9 <;> first | omega | cases q9)) (by first | omega | (simp only [List.length]; omega)) (by first | omega | (simp only [List.length]; omega)) ?_
  refine z_dup (n := 88) (by decide +kernel) rfl ?_
  refine z_k0 (n := 91) (idx := 52) (by decide +kernel) ml_X10_52 (hNW _ (by decide +kernel)) ⟨rfl, rfl⟩ (Nat.le_of_ble_eq_true rfl) (by omega) ⟨by first | omega | (simp only [List.length]; omega), by first | omega | (simp only [List.length]; omega)⟩ (i_tape (S := C + 45) 1 (by omega) (szH_push (by intro i9; (try simp only [hFl, hu]); (repeat' split); all_goals first | exact hz i9 | (rw [hz i9]; omega) | (constructor <;> intro q9 <;> first | omega | cases q9)) oB_dd) (by simp (disch := omega) only [hTn, hCr, hFl, hu_s, hu_n]; first | done | assumption | rfl)) (fun h88 q88 => ?_)
  obtain ⟨f6, z6, p6⟩ := q88; have b6 : h88 C = oB 10 [.ref (C + 1), .ref (C + 14), .ref (C + 27), .ref (C + 33), .ref (C + 39), .ref (C + 42), .null, .null, .null, .null, .null] := (f6 C (by omega)).trans (by simp (disch := omega) only [hu_s, hu_n]; first | done | assumption | rfl); have g6 : ∀ j, j < C + 45 → j ≠ C → h88 j = h77 j := fun j hj hc => (f6 j (by omega)).trans (by simp (disch := omega) only [hu_n]); clear hz; have hz := z6
  refine z_putF (n := 94) (idx := 53) (ty := (.object "CreasedPaper$Tape")) (by decide +kernel) fl_X10_53 (by first | assumption | (simp (disch := omega) only [hu_s, hu_n]; first | assumption | rfl)) ⟨_, _, _, rfl, rfl, rfl, by decide +kernel⟩ rfl rfl (Nat.le_of_ble_eq_true rfl) ?_
  refine z_ald0 (n := 95) (by decide +kernel) ?_
  refine z_new (n := 98) (idx := 57) (k := C + 47) (by decide +kernel) kc_X10_57 (by intro i9; (try simp only [hFl, hu]); (repeat' split); all_goals first | exact hz i9 | (rw [hz i9]; omega) | (constructor <;> intro q9 <;> first | omega | cases q9)) (by first | omega | (simp only [List.length]; omega)) (by first | omega | (simp only [List.length]; omega)) ?_
  refine z_dup (n := 99) (by decide +kernel) rfl ?_
  refine z_k0 (n := 102) (idx := 59) (by decide +kernel) ml_X10_59 (hNW _ (by decide +kernel)) ⟨rfl, rfl⟩ (Nat.le_of_ble_eq_true rfl) (by omega) ⟨by first | omega | (simp only [List.length]; omega), by first | omega | (simp only [List.length]; omega)⟩ (i_text (S := C + 47) 1 (by omega) (szH_push (by intro i9; (try simp only [hFl, hu]); (repeat' split); all_goals first | exact hz i9 | (rw [hz i9]; omega) | (constructor <;> intro q9 <;> first | omega | cases q9)) oB_dd) (by simp (disch := omega) only [hTn, hCr, hFl, hu_s, hu_n]; first | done | assumption | rfl)) (fun h99 q99 => ?_)
  obtain ⟨f7, z7, p7⟩ := q99; have b7 : h99 C = oB 10 [.ref (C + 1), .ref (C + 14), .ref (C + 27), .ref (C + 33), .ref (C + 39), .ref (C + 42), .ref (C + 45), .null, .null, .null, .null] := (f7 C (by omega)).trans (by simp (disch := omega) only [hu_s, hu_n]; first | done | assumption | rfl); have g7 : ∀ j, j < C + 47 → j ≠ C → h99 j = h88 j := fun j hj hc => (f7 j (by omega)).trans (by simp (disch := omega) only [hu_n]); clear hz; have hz := z7
  refine z_putF (n := 105) (idx := 60) (ty := (.object "CreasedPaper$Text")) (by decide +kernel) fl_X10_60 (by first | assumption | (simp (disch := omega) only [hu_s, hu_n]; first | assumption | rfl)) ⟨_, _, _, rfl, rfl, rfl, by decide +kernel⟩ rfl rfl (Nat.le_of_ble_eq_true rfl) ?_
  refine z_ald0 (n := 106) (by decide +kernel) ?_
  refine z_new (n := 109) (idx := 64) (k := C + 54) (by decide +kernel) kc_X10_64 (by intro i9; (try simp only [hFl, hu]); (repeat' split); all_goals first | exact hz i9 | (rw [hz i9]; omega) | (constructor <;> intro q9 <;> first | omega | cases q9)) (by first | omega | (simp only [List.length]; omega)) (by first | omega | (simp only [List.length]; omega)) ?_
  refine z_dup (n := 110) (by decide +kernel) rfl ?_
  refine z_k0 (n := 113) (idx := 66) (by decide +kernel) ml_X10_66 (hNW _ (by decide +kernel)) ⟨rfl, rfl⟩ (Nat.le_of_ble_eq_true rfl) (by omega) ⟨by first | omega | (simp only [List.length]; omega), by first | omega | (simp only [List.length]; omega)⟩ (i_shapes (S := C + 54) 1 (by omega) (szH_push (by intro i9; (try simp only [hFl, hu]); (repeat' split); all_goals first | exact hz i9 | (rw [hz i9]; omega) | (constructor <;> intro q9 <;> first | omega | cases q9)) oB_dd) (by simp (disch := omega) only [hTn, hCr, hFl, hu_s, hu_n]; first | done | assumption | rfl)) (fun h110 q110 => ?_)
  obtain ⟨f8, z8, p8⟩ := q110; have b8 : h110 C = oB 10 [.ref (C + 1), .ref (C + 14), .ref (C + 27), .ref (C + 33), .ref (C + 39), .ref (C + 42), .ref (C + 45), .ref (C + 47), .null, .null, .null] := (f8 C (by omega)).trans (by simp (disch := omega) only [hu_s, hu_n]; first | done | assumption | rfl); have g8 : ∀ j, j < C + 54 → j ≠ C → h110 j = h99 j := fun j hj hc => (f8 j (by omega)).trans (by simp (disch := omega) only [hu_n]); clear hz; have hz := z8
  refine z_putF (n := 116) (idx := 67) (ty := (.object "CreasedPaper$Shapes")) (by decide +kernel) fl_X10_67 (by first | assumption | (simp (disch := omega) only [hu_s, hu_n]; first | assumption | rfl)) ⟨_, _, _, rfl, rfl, rfl, by decide +kernel⟩ rfl rfl (Nat.le_of_ble_eq_true rfl) ?_
  refine z_ald0 (n := 117) (by decide +kernel) ?_
  refine z_new (n := 120) (idx := 71) (k := C + 56) (by decide +kernel) kc_X10_71 (by intro i9; (try simp only [hFl, hu]); (repeat' split); all_goals first | exact hz i9 | (rw [hz i9]; omega) | (constructor <;> intro q9 <;> first | omega | cases q9)) (by first | omega | (simp only [List.length]; omega)) (by first | omega | (simp only [List.length]; omega)) ?_
  refine z_dup (n := 121) (by decide +kernel) rfl ?_
  refine z_k0 (n := 124) (idx := 73) (by decide +kernel) ml_X10_73 (hNW _ (by decide +kernel)) ⟨rfl, rfl⟩ (Nat.le_of_ble_eq_true rfl) (by omega) ⟨by first | omega | (simp only [List.length]; omega), by first | omega | (simp only [List.length]; omega)⟩ (i_panels (S := C + 56) 1 (by omega) (szH_push (by intro i9; (try simp only [hFl, hu]); (repeat' split); all_goals first | exact hz i9 | (rw [hz i9]; omega) | (constructor <;> intro q9 <;> first | omega | cases q9)) oB_dd) (by simp (disch := omega) only [hTn, hCr, hFl, hu_s, hu_n]; first | done | assumption | rfl)) (fun h121 q121 => ?_)
  obtain ⟨f9, z9, p9⟩ := q121; have b9 : h121 C = oB 10 [.ref (C + 1), .ref (C + 14), .ref (C + 27), .ref (C + 33), .ref (C + 39), .ref (C + 42), .ref (C + 45), .ref (C + 47), .ref (C + 54), .null, .null] := (f9 C (by omega)).trans (by simp (disch := omega) only [hu_s, hu_n]; first | done | assumption | rfl); have g9 : ∀ j, j < C + 56 → j ≠ C → h121 j = h110 j := fun j hj hc => (f9 j (by omega)).trans (by simp (disch := omega) only [hu_n]); clear hz; have hz := z9
  refine z_putF (n := 127) (idx := 74) (ty := (.object "CreasedPaper$Panels")) (by decide +kernel) fl_X10_74 (by first | assumption | (simp (disch := omega) only [hu_s, hu_n]; first | assumption | rfl)) ⟨_, _, _, rfl, rfl, rfl, by decide +kernel⟩ rfl rfl (Nat.le_of_ble_eq_true rfl) ?_
  refine z_ald0 (n := 128) (by decide +kernel) ?_
  refine z_new (n := 131) (idx := 78) (k := C + 60) (by decide +kernel) kc_X10_78 (by intro i9; (try simp only [hFl, hu]); (repeat' split); all_goals first | exact hz i9 | (rw [hz i9]; omega) | (constructor <;> intro q9 <;> first | omega | cases q9)) (by first | omega | (simp only [List.length]; omega)) (by first | omega | (simp only [List.length]; omega)) ?_
  refine z_dup (n := 132) (by decide +kernel) rfl ?_
  refine z_j0 (n := 135) (idx := 80) (by decide +kernel) ml_X10_80 ⟨rfl, rfl⟩ (Nat.le_of_ble_eq_true rfl) (by omega) ⟨by first | omega | (simp only [List.length]; omega), by first | omega | (simp only [List.length]; omega)⟩ (i_search (S := C + 60) 3 (by omega) hAO hAA (szH_push (by intro i9; (try simp only [hFl, hu]); (repeat' split); all_goals first | exact hz i9 | (rw [hz i9]; omega) | (constructor <;> intro q9 <;> first | omega | cases q9)) oB_dd) (by simp (disch := omega) only [hTn, hCr, hFl, hu_s, hu_n]; first | done | assumption | rfl)) (fun h132 q132 => ?_)
  obtain ⟨f10, z10, p10⟩ := q132; have b10 : h132 C = oB 10 [.ref (C + 1), .ref (C + 14), .ref (C + 27), .ref (C + 33), .ref (C + 39), .ref (C + 42), .ref (C + 45), .ref (C + 47), .ref (C + 54), .ref (C + 56), .null] := (f10 C (by omega)).trans (by simp (disch := omega) only [hu_s, hu_n]; first | done | assumption | rfl); have g10 : ∀ j, j < C + 60 → j ≠ C → h132 j = h121 j := fun j hj hc => (f10 j (by omega)).trans (by simp (disch := omega) only [hu_n]); clear hz; have hz := z10
  refine z_putF (n := 138) (idx := 81) (ty := (.object "CreasedPaper$Search")) (by decide +kernel) fl_X10_81 (by first | assumption | (simp (disch := omega) only [hu_s, hu_n]; first | assumption | rfl)) ⟨_, _, _, rfl, rfl, rfl, by decide +kernel⟩ rfl rfl (Nat.le_of_ble_eq_true rfl) ?_
  skip
  refine z_gen (fun h9 e9 => ?_)
  have t10 : ∀ j, j < C + 102 → j ≠ C → h9 j = h132 j := fun j hj hc => by rw [e9]; exact hu_n hc
  have t9 : ∀ j, j < C + 60 → j ≠ C → h9 j = h121 j := fun j hj hc => (t10 j (by omega) hc).trans (g10 j hj hc)
  have t8 : ∀ j, j < C + 56 → j ≠ C → h9 j = h110 j := fun j hj hc => (t9 j (by omega) hc).trans (g9 j hj hc)
  have t7 : ∀ j, j < C + 54 → j ≠ C → h9 j = h99 j := fun j hj hc => (t8 j (by omega) hc).trans (g8 j hj hc)
  have t6 : ∀ j, j < C + 47 → j ≠ C → h9 j = h88 j := fun j hj hc => (t7 j (by omega) hc).trans (g7 j hj hc)
  have t5 : ∀ j, j < C + 45 → j ≠ C → h9 j = h77 j := fun j hj hc => (t6 j (by omega) hc).trans (g6 j hj hc)
  have t4 : ∀ j, j < C + 42 → j ≠ C → h9 j = h66 j := fun j hj hc => (t5 j (by omega) hc).trans (g5 j hj hc)
  have t3 : ∀ j, j < C + 39 → j ≠ C → h9 j = h55 j := fun j hj hc => (t4 j (by omega) hc).trans (g4 j hj hc)
  have t2 : ∀ j, j < C + 33 → j ≠ C → h9 j = h44 j := fun j hj hc => (t3 j (by omega) hc).trans (g3 j hj hc)
  have t1 : ∀ j, j < C + 27 → j ≠ C → h9 j = h33 j := fun j hj hc => (t2 j (by omega) hc).trans (g2 j hj hc)
  have t0 : ∀ j, j < C + 14 → j ≠ C → h9 j = h21 j := fun j hj hc => (t1 j (by omega) hc).trans (g1 j hj hc)
  have tz : ∀ j, j < C → h9 j = h j := fun j hj => (t0 j (by omega) (by omega)).trans (g0 j (by omega) (by omega))
  obtain ⟨ta0, ta1⟩ := p6
  obtain ⟨te0, te1, te2, te3, te4, te5, te6⟩ := p7
  obtain ⟨hp0, hp1⟩ := p8
  obtain ⟨pn0, pn1, pn2, pn3⟩ := p9
  obtain ⟨sr0, sr1, sr2, sr3, sr4, sr5, sr6⟩ := p10
  have x8 : shaX h110 (C + 54) := ⟨⟨_, _, _, hp0⟩, ⟨_, hp1⟩⟩
  have x9 : panX h121 (C + 56) := ⟨⟨_, _, _, pn0⟩, ⟨_, pn1⟩, ⟨_, pn2⟩, ⟨_, pn3⟩⟩
  have x10 : seaX h132 (C + 60) := ⟨⟨_, _, _, _, sr0⟩, ⟨_, sr1⟩, sr2, fun q hq => ⟨_, sr3 q hq⟩, ⟨_, sr4⟩, fun q hq => ⟨_, sr5 q hq⟩, fun q hq => ⟨_, _, _, _, _, _, sr6 q hq⟩⟩
  refine z_vret (by decide +kernel) rfl (by first | omega | (simp only [List.length]; omega)) ?_
  exact ⟨rfl, tz, by rw [e9]; exact szH_set hz (by omega) oB_dd, by rw [e9, hu_s]; rfl, pap_in (fun j h1 h2 => t0 j (by omega) (by omega)) p0, pap_in (fun j h1 h2 => t1 j (by omega) (by omega)) p1, she_in (fun j h1 h2 => t2 j (by omega) (by omega)) p2, she_in (fun j h1 h2 => t3 j (by omega) (by omega)) p3, see_in (fun j h1 h2 => t4 j (by omega) (by omega)) p4, see_in (fun j h1 h2 => t5 j (by omega) (by omega)) p5, ⟨(t6 _ (by omega) (by omega)).trans ta0, (t6 _ (by omega) (by omega)).trans ta1⟩, ⟨(t7 _ (by omega) (by omega)).trans te0, (t7 _ (by omega) (by omega)).trans te1, (t7 _ (by omega) (by omega)).trans te2, (t7 _ (by omega) (by omega)).trans te3, (t7 _ (by omega) (by omega)).trans te4, (t7 _ (by omega) (by omega)).trans te5, (t7 _ (by omega) (by omega)).trans te6⟩, shaX_in (fun j h1 h2 => t8 j (by omega) (by omega)) x8, panX_in (fun j h1 h2 => t9 j (by omega) (by omega)) x9, seaX_in (fun j h1 h2 => t10 j (by omega) (by omega)) x10⟩
