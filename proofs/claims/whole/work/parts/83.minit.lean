/-! CreasedPaperModel: its constructor -/
def aN (u : Nat) : Nat → Int32
  | j => match u with
    | 0 => upd (upd (upd (upd (fun _ => 0) 5 100) 6 10) 7 100) 8 40 j
    | u + 1 => upd (upd (aN u) (130 + 6 * u + 3) (-1)) (130 + 6 * u + 4) (-1) j
def a0 (n : Nat) : Nat → Int32 := flA (aN 40) (n + 1)
theorem aN_s (u : Nat) : aN (u + 1) = upd (upd (aN u) (130 + 6 * u + 3) (-1)) (130 + 6 * u + 4) (-1) := rfl
def oMd0 : mE := oB 11 [.int 0, .null, .null, .null, .null, .int 0, .int 0, .int 0, .int 0, .int 0, .int 0, .int 0, .int 0, .long 0, .null, .null, .null, .null, .int 0, .int 0, .null, .null, .null, .null, .null, .null, .null, .null, .null]
def mIn : Nat → Int32 := fun j => if j = 1 then -1 else if j = 2 then -1 else if j = 3 then -1 else 0
def oMd8 (Q : Nat) : mE := oB 11 [.int 0, .ref (Q + 1), .ref (Q + 2), .ref (Q + 3), .ref (Q + 4), .int 0, .int (-1), .int (-1), .int (-1), .int 0, .int 0, .int 0, .int 0, .long 0, .ref (Q + 5), .ref (Q + 6), .ref (Q + 7), .ref (Q + 8), .int 0, .int 0, .null, .null, .null, .null, .null, .null, .null, .null, .null]
theorem mi_217 {G : mG} {h : mH} {Q n : Nat} {x : Int32} (d : Nat) (hd : 2 ≤ d) (hn : lenN x = n + 1) : ∀ hX, (∀ j, j < Q → hX j = h j) → szH hX (Q + 18) → hX Q = oMod Q (nI (n + 1)) mIn 0 → hX (Q + 1) = aI 600 (aN 0) → hX (Q + 2) = aI 600 (fun _ => 0) → hX (Q + 3) = aI 40 (fun _ => 0) → hX (Q + 4) = aI 300 (fun _ => 0) → mdX hX Q → Z G m_X11_init d 17 1850 17 1850 217 [some (.ref Q), some (.int x), none] [] hX (fun r h' => r = none ∧ (∀ j, j < Q → h' j = h j) ∧ szH h' (Q + 18) ∧ mdP h' Q n (a0 n, fun _ => 0) (cpA (a0 n) (fun _ => 0) 600) 0 (fun _ => 0) (-1) (-1) (-1)) := by
  have hle := lenN_in x
  intro hX F Sz g0 g1 g2 g3 g4 gX
  have lp : ∀ w u, u + w = 40 → Z G m_X11_init d 17 1850 17 1850 219 [some (.ref Q), some (.int x), some (.int (nI u))] [] (hu hX (Q + 1) (aI 600 (aN u))) (fun r h' => r = none ∧ (∀ j, j < Q → h' j = h j) ∧ szH h' (Q + 18) ∧ mdP h' Q n (a0 n, fun _ => 0) (cpA (a0 n) (fun _ => 0) 600) 0 (fun _ => 0) (-1) (-1) (-1)) := by
    intro w
    induction w with
    | zero =>
      intro u hu9
      have e : u = 40 := by omega
      subst e
      refine z_ild2 (n := 220) (by decide +kernel) ?_
      refine z_bipush (n := 222) (q := 40) (v := 40) (by decide +kernel) ?_
      refine z_icmp_ge_t (n := 225) (off := 41) (tgt := 263) (by decide +kernel) (by decide) ?_
      refine z_ald0 (n := 264) (by decide +kernel) ?_
      refine z_v0v (n := 267) (idx := 74) (by decide +kernel) ml_X11_74 (by first | assumption | (simp (disch := omega) only [hu_s, hu_n]; first | assumption | rfl)) rfl (Nat.le_of_ble_eq_true rfl) (by omega) ⟨Nat.le_refl _, Nat.le_refl _⟩ (m_flatten (n := n) (m := mIn) (wd := 0) (a := aN 40) 0 (by simp (disch := omega) only [hTn, hCr, hFl, hu_s, hu_n]; first | done | assumption | rfl) (by simp (disch := omega) only [hTn, hCr, hFl, hu_s, hu_n]; first | done | assumption | rfl) (by omega)) ?_
      refine z_ald0 (n := 268) (by decide +kernel) ?_
      refine z_getf (n := 271) (idx := 7) (by decide +kernel) fl_X11_7 (by first | assumption | (simp (disch := omega) only [hu_s, hu_n]; first | assumption | rfl)) (by rfl) ?_
      refine z_ald0 (n := 272) (by decide +kernel) ?_
      refine z_getf (n := 275) (idx := 13) (by decide +kernel) fl_X11_13 (by first | assumption | (simp (disch := omega) only [hu_s, hu_n]; first | assumption | rfl)) (by rfl) ?_
      refine z_s2v (n := 278) (idx := 77) (by decide +kernel) ml_X11_77 (Nat.le_of_ble_eq_true rfl) (by omega) ⟨Nat.le_refl _, Nat.le_refl _⟩ (m_copy (f := flA (aN 40) (n + 1)) (t := fun _ => 0) 0 (by omega) (by simp (disch := omega) only [hTn, hCr, hFl, hu_s, hu_n]; first | done | assumption | rfl) (by simp (disch := omega) only [hTn, hCr, hFl, hu_s, hu_n]; first | done | assumption | rfl)) ?_
      refine z_vret (by decide +kernel) rfl (by first | omega | (simp only [List.length]; omega)) ?_
      refine ⟨rfl, fun j hj => by simp (disch := omega) only [hu_n]; exact F j hj, szH_set (szH_set (szH_set Sz (by omega) aI_dd) (by omega) aI_dd) (by omega) aI_dd, ⟨mIn, 0, (by simp (disch := omega) only [hTn, hCr, hFl, hu_s, hu_n]; first | done | assumption | rfl), rfl, rfl, rfl, rfl⟩, ⟨(by simp (disch := omega) only [hTn, hCr, hFl, hu_s, hu_n]; first | done | assumption | rfl), (by simp (disch := omega) only [hTn, hCr, hFl, hu_s, hu_n]; first | done | assumption | rfl)⟩, (by simp (disch := omega) only [hTn, hCr, hFl, hu_s, hu_n]; first | done | assumption | rfl), (by simp (disch := omega) only [hTn, hCr, hFl, hu_s, hu_n]; first | done | assumption | rfl), ?_⟩
      obtain ⟨⟨x5, k5⟩, ⟨x6, k6⟩, ⟨x7, k7⟩, ⟨x8, k8⟩, ⟨x9, k9⟩, ⟨x10, k10⟩, ⟨x11, k11⟩, ⟨x12, k12⟩, ⟨⟨x13, k13⟩, ⟨x14, k14⟩, ⟨x15, k15⟩, ⟨x16, k16⟩⟩, ⟨x17, k17⟩⟩ := gX
      exact ⟨⟨_, (by simp (disch := omega) only [hTn, hCr, hFl, hu_s, hu_n]; first | done | assumption | rfl)⟩, ⟨_, (by simp (disch := omega) only [hTn, hCr, hFl, hu_s, hu_n]; first | done | assumption | rfl)⟩, ⟨_, (by simp (disch := omega) only [hTn, hCr, hFl, hu_s, hu_n]; first | done | assumption | rfl)⟩, ⟨_, (by simp (disch := omega) only [hTn, hCr, hFl, hu_s, hu_n]; first | done | assumption | rfl)⟩, ⟨_, (by simp (disch := omega) only [hTn, hCr, hFl, hu_s, hu_n]; first | done | assumption | rfl)⟩, ⟨_, (by simp (disch := omega) only [hTn, hCr, hFl, hu_s, hu_n]; first | done | assumption | rfl)⟩, ⟨_, (by simp (disch := omega) only [hTn, hCr, hFl, hu_s, hu_n]; first | done | assumption | rfl)⟩, ⟨_, (by simp (disch := omega) only [hTn, hCr, hFl, hu_s, hu_n]; first | done | assumption | rfl)⟩, ⟨⟨_, (by simp (disch := omega) only [hTn, hCr, hFl, hu_s, hu_n]; first | done | assumption | rfl)⟩, ⟨_, (by simp (disch := omega) only [hTn, hCr, hFl, hu_s, hu_n]; first | done | assumption | rfl)⟩, ⟨_, (by simp (disch := omega) only [hTn, hCr, hFl, hu_s, hu_n]; first | done | assumption | rfl)⟩, ⟨_, (by simp (disch := omega) only [hTn, hCr, hFl, hu_s, hu_n]; first | done | assumption | rfl)⟩⟩, ⟨_, (by simp (disch := omega) only [hTn, hCr, hFl, hu_s, hu_n]; first | done | assumption | rfl)⟩⟩
    | succ w ih =>
      intro u hu9
      refine z_ild2 (n := 220) (by decide +kernel) ?_
      refine z_bipush (n := 222) (q := 40) (v := 40) (by decide +kernel) ?_
      refine z_icmp_ge_f (n := 225) (off := 41) (tgt := 263) (by decide +kernel) (nI_ge (b := 40) (by omega) (by omega)) ?_
      refine z_ald0 (n := 226) (by decide +kernel) ?_
      refine z_getf (n := 229) (idx := 7) (by decide +kernel) fl_X11_7 (by first | assumption | (simp (disch := omega) only [hu_s, hu_n]; first | assumption | rfl)) (by rfl) ?_
      refine z_sipush (n := 232) (q := 130) (v := 130) (by decide +kernel) ?_
      refine z_bipush (n := 234) (q := 6) (v := 6) (by decide +kernel) ?_
      refine z_ild2 (n := 235) (by decide +kernel) ?_
      refine z_imul (n := 236) (by decide +kernel) ?_
      refine z_iadd (n := 237) (by decide +kernel) ?_
      refine z_iconst (n := 238) (q := 3) (v := 3) (by decide +kernel) ?_
      refine z_iadd (n := 239) (by decide +kernel) ?_
      refine z_iconst (n := 240) (q := -1) (v := -1) (by decide +kernel) ?_
      refine z_iast (n := 241) (by decide +kernel) (by first | assumption | (simp (disch := omega) only [hu_s, hu_n]; first | assumption | rfl)) (by first | assumption | exact ix_nI (by omega) (by omega) | exact ix_of (by simp only [n_0, n_1, n_2, n_3, n_4, n_5, n_6, n_7, n_8, n_10, n_50, n_90, n_130, n_370, n_570, nI_add, pk_mul]; rfl) (by omega) (by omega)) ?_
      refine z_ald0 (n := 242) (by decide +kernel) ?_
      refine z_getf (n := 245) (idx := 7) (by decide +kernel) fl_X11_7 (by first | assumption | (simp (disch := omega) only [hu_s, hu_n]; first | assumption | rfl)) (by rfl) ?_
      refine z_sipush (n := 248) (q := 130) (v := 130) (by decide +kernel) ?_
      refine z_bipush (n := 250) (q := 6) (v := 6) (by decide +kernel) ?_
      refine z_ild2 (n := 251) (by decide +kernel) ?_
      refine z_imul (n := 252) (by decide +kernel) ?_
      refine z_iadd (n := 253) (by decide +kernel) ?_
      refine z_iconst (n := 254) (q := 4) (v := 4) (by decide +kernel) ?_
      refine z_iadd (n := 255) (by decide +kernel) ?_
      refine z_iconst (n := 256) (q := -1) (v := -1) (by decide +kernel) ?_
      refine z_iast (n := 257) (by decide +kernel) (by first | assumption | (simp (disch := omega) only [hu_s, hu_n]; first | assumption | rfl)) (by first | assumption | exact ix_nI (by omega) (by omega) | exact ix_of (by simp only [n_0, n_1, n_2, n_3, n_4, n_5, n_6, n_7, n_8, n_10, n_50, n_90, n_130, n_370, n_570, nI_add, pk_mul]; rfl) (by omega) (by omega)) ?_
      refine z_inc2 (n := 260) (q := 1) (by decide +kernel) rfl (nI_1 _) ?_
      refine z_goto (n := 263) (off := -41) (tgt := 219) (by decide +kernel) ?_
      skip
      simp only [hu_hu]
      exact ih (u + 1) (by omega)
  refine z_iconst (n := 218) (q := 0) (v := 0) (by decide +kernel) ?_
  refine z_ist2 (n := 219) (by decide +kernel) rfl ?_
  skip
  have q := lp 40 0 (by omega)
  rw [show hu hX (Q + 1) (aI 600 (aN 0)) = hX from by rw [← g1]; exact hu_same] at q
  exact q
theorem mi_179 {G : mG} {h : mH} {Q n : Nat} {x : Int32} (d : Nat) (hd : 2 ≤ d) (hn : lenN x = n + 1) : ∀ hX, (∀ j, j < Q → hX j = h j) → szH hX (Q + 18) → hX Q = oMod Q 0 mIn 0 → hX (Q + 1) = aI 600 (fun _ => 0) → hX (Q + 2) = aI 600 (fun _ => 0) → hX (Q + 3) = aI 40 (fun _ => 0) → hX (Q + 4) = aI 300 (fun _ => 0) → mdX hX Q → Z G m_X11_init d 17 1850 17 1850 179 [some (.ref Q), some (.int x), none] [.int (nI (n + 1)), .ref Q] hX (fun r h' => r = none ∧ (∀ j, j < Q → h' j = h j) ∧ szH h' (Q + 18) ∧ mdP h' Q n (a0 n, fun _ => 0) (cpA (a0 n) (fun _ => 0) 600) 0 (fun _ => 0) (-1) (-1) (-1)) := by
  intro hX F Sz g0 g1 g2 g3 g4 gX
  refine z_putF (n := 182) (idx := 71) (ty := .int) (by decide +kernel) fl_X11_71 (by first | assumption | (simp (disch := omega) only [hu_s, hu_n]; first | assumption | rfl)) ⟨_, _, _, rfl, rfl, rfl, by decide +kernel⟩ rfl rfl (Nat.le_of_ble_eq_true rfl) ?_
  refine z_ald0 (n := 183) (by decide +kernel) ?_
  refine z_getf (n := 186) (idx := 7) (by decide +kernel) fl_X11_7 (by first | assumption | (simp (disch := omega) only [hu_s, hu_n]; first | assumption | rfl)) (by rfl) ?_
  refine z_iconst (n := 187) (q := 5) (v := 5) (by decide +kernel) ?_
  refine z_bipush (n := 189) (q := 100) (v := 100) (by decide +kernel) ?_
  refine z_iast (n := 190) (by decide +kernel) (by first | assumption | (simp (disch := omega) only [hu_s, hu_n]; first | assumption | rfl)) (by first | assumption | exact ix_nI (by omega) (by omega) | exact ix_of (by simp only [n_0, n_1, n_2, n_3, n_4, n_5, n_6, n_7, n_8, n_10, n_50, n_90, n_130, n_370, n_570, nI_add, pk_mul]; rfl) (by omega) (by omega)) ?_
  refine z_ald0 (n := 191) (by decide +kernel) ?_
  refine z_getf (n := 194) (idx := 7) (by decide +kernel) fl_X11_7 (by first | assumption | (simp (disch := omega) only [hu_s, hu_n]; first | assumption | rfl)) (by rfl) ?_
  refine z_bipush (n := 196) (q := 6) (v := 6) (by decide +kernel) ?_
  refine z_bipush (n := 198) (q := 10) (v := 10) (by decide +kernel) ?_
  refine z_iast (n := 199) (by decide +kernel) (by first | assumption | (simp (disch := omega) only [hu_s, hu_n]; first | assumption | rfl)) (by first | assumption | exact ix_nI (by omega) (by omega) | exact ix_of (by simp only [n_0, n_1, n_2, n_3, n_4, n_5, n_6, n_7, n_8, n_10, n_50, n_90, n_130, n_370, n_570, nI_add, pk_mul]; rfl) (by omega) (by omega)) ?_
  refine z_ald0 (n := 200) (by decide +kernel) ?_
  refine z_getf (n := 203) (idx := 7) (by decide +kernel) fl_X11_7 (by first | assumption | (simp (disch := omega) only [hu_s, hu_n]; first | assumption | rfl)) (by rfl) ?_
  refine z_bipush (n := 205) (q := 7) (v := 7) (by decide +kernel) ?_
  refine z_bipush (n := 207) (q := 100) (v := 100) (by decide +kernel) ?_
  refine z_iast (n := 208) (by decide +kernel) (by first | assumption | (simp (disch := omega) only [hu_s, hu_n]; first | assumption | rfl)) (by first | assumption | exact ix_nI (by omega) (by omega) | exact ix_of (by simp only [n_0, n_1, n_2, n_3, n_4, n_5, n_6, n_7, n_8, n_10, n_50, n_90, n_130, n_370, n_570, nI_add, pk_mul]; rfl) (by omega) (by omega)) ?_
  refine z_ald0 (n := 209) (by decide +kernel) ?_
  refine z_getf (n := 212) (idx := 7) (by decide +kernel) fl_X11_7 (by first | assumption | (simp (disch := omega) only [hu_s, hu_n]; first | assumption | rfl)) (by rfl) ?_
  refine z_bipush (n := 214) (q := 8) (v := 8) (by decide +kernel) ?_
  refine z_bipush (n := 216) (q := 40) (v := 40) (by decide +kernel) ?_
  refine z_iast (n := 217) (by decide +kernel) (by first | assumption | (simp (disch := omega) only [hu_s, hu_n]; first | assumption | rfl)) (by first | assumption | exact ix_nI (by omega) (by omega) | exact ix_of (by simp only [n_0, n_1, n_2, n_3, n_4, n_5, n_6, n_7, n_8, n_10, n_50, n_90, n_130, n_370, n_570, nI_add, pk_mul]; rfl) (by omega) (by omega)) ?_
  skip
  refine mi_217 d hd hn _ (fun j hj => by simp (disch := omega) only [hu_n]; exact F j hj) (by repeat' first | exact Sz | refine szH_set ?_ (by omega) (by first | exact aI_dd | exact oB_dd)) (by simp (disch := omega) only [hTn, hCr, hFl, hu_s, hu_n]; first | done | assumption | rfl) (by simp (disch := omega) only [hTn, hCr, hFl, hu_s, hu_n]; first | done | assumption | rfl) (by simp (disch := omega) only [hTn, hCr, hFl, hu_s, hu_n]; first | done | assumption | rfl) (by simp (disch := omega) only [hTn, hCr, hFl, hu_s, hu_n]; first | done | assumption | rfl) (by simp (disch := omega) only [hTn, hCr, hFl, hu_s, hu_n]; first | done | assumption | rfl) ?_
  obtain ⟨⟨x5, k5⟩, ⟨x6, k6⟩, ⟨x7, k7⟩, ⟨x8, k8⟩, ⟨x9, k9⟩, ⟨x10, k10⟩, ⟨x11, k11⟩, ⟨x12, k12⟩, ⟨⟨x13, k13⟩, ⟨x14, k14⟩, ⟨x15, k15⟩, ⟨x16, k16⟩⟩, ⟨x17, k17⟩⟩ := gX
  exact ⟨⟨_, (by simp (disch := omega) only [hTn, hCr, hFl, hu_s, hu_n]; first | done | assumption | rfl)⟩, ⟨_, (by simp (disch := omega) only [hTn, hCr, hFl, hu_s, hu_n]; first | done | assumption | rfl)⟩, ⟨_, (by simp (disch := omega) only [hTn, hCr, hFl, hu_s, hu_n]; first | done | assumption | rfl)⟩, ⟨_, (by simp (disch := omega) only [hTn, hCr, hFl, hu_s, hu_n]; first | done | assumption | rfl)⟩, ⟨_, (by simp (disch := omega) only [hTn, hCr, hFl, hu_s, hu_n]; first | done | assumption | rfl)⟩, ⟨_, (by simp (disch := omega) only [hTn, hCr, hFl, hu_s, hu_n]; first | done | assumption | rfl)⟩, ⟨_, (by simp (disch := omega) only [hTn, hCr, hFl, hu_s, hu_n]; first | done | assumption | rfl)⟩, ⟨_, (by simp (disch := omega) only [hTn, hCr, hFl, hu_s, hu_n]; first | done | assumption | rfl)⟩, ⟨⟨_, (by simp (disch := omega) only [hTn, hCr, hFl, hu_s, hu_n]; first | done | assumption | rfl)⟩, ⟨_, (by simp (disch := omega) only [hTn, hCr, hFl, hu_s, hu_n]; first | done | assumption | rfl)⟩, ⟨_, (by simp (disch := omega) only [hTn, hCr, hFl, hu_s, hu_n]; first | done | assumption | rfl)⟩, ⟨_, (by simp (disch := omega) only [hTn, hCr, hFl, hu_s, hu_n]; first | done | assumption | rfl)⟩⟩, ⟨_, (by simp (disch := omega) only [hTn, hCr, hFl, hu_s, hu_n]; first | done | assumption | rfl)⟩⟩
theorem mi_157 {G : mG} {h : mH} {Q n : Nat} {x : Int32} (d : Nat) (hd : 2 ≤ d) (hn : lenN x = n + 1) : ∀ hX, (∀ j, j < Q → hX j = h j) → szH hX (Q + 18) → hX Q = oMod Q 0 mIn 0 → hX (Q + 1) = aI 600 (fun _ => 0) → hX (Q + 2) = aI 600 (fun _ => 0) → hX (Q + 3) = aI 40 (fun _ => 0) → hX (Q + 4) = aI 300 (fun _ => 0) → mdX hX Q → Z G m_X11_init d 17 1850 17 1850 157 [some (.ref Q), some (.int x), none] [] hX (fun r h' => r = none ∧ (∀ j, j < Q → h' j = h j) ∧ szH h' (Q + 18) ∧ mdP h' Q n (a0 n, fun _ => 0) (cpA (a0 n) (fun _ => 0) 600) 0 (fun _ => 0) (-1) (-1) (-1)) := by
  intro hX F Sz g0 g1 g2 g3 g4 gX
  have f9 := mi_179 (G := G) d hd hn hX F Sz g0 g1 g2 g3 g4 gX
  by_cases c1 : x < 2
  · have e : nI (n + 1) = 2 := by rw [← hn]; unfold lenN; rw [if_pos c1]; rfl
    rw [e] at f9
    refine z_ald0 (n := 158) (by decide +kernel) ?_
    refine z_ild1 (n := 159) (by decide +kernel) ?_
    refine z_iconst (n := 160) (q := 2) (v := 2) (by decide +kernel) ?_
    refine z_icmp_ge_f (n := 163) (off := 7) (tgt := 167) (by decide +kernel) (Int32.not_le.mpr c1) ?_
    refine z_iconst (n := 164) (q := 2) (v := 2) (by decide +kernel) ?_
    refine z_goto (n := 167) (off := 15) (tgt := 179) (by decide +kernel) ?_
    exact f9
  · by_cases c2 : 40 < x
    · have e : nI (n + 1) = 40 := by rw [← hn]; unfold lenN; rw [if_neg c1, if_pos c2]; rfl
      rw [e] at f9
      refine z_ald0 (n := 158) (by decide +kernel) ?_
      refine z_ild1 (n := 159) (by decide +kernel) ?_
      refine z_iconst (n := 160) (q := 2) (v := 2) (by decide +kernel) ?_
      refine z_icmp_ge_t (n := 163) (off := 7) (tgt := 167) (by decide +kernel) (Int32.not_lt.mp c1) ?_
      refine z_ild1 (n := 168) (by decide +kernel) ?_
      refine z_bipush (n := 170) (q := 40) (v := 40) (by decide +kernel) ?_
      refine z_icmp_le_f (n := 173) (off := 8) (tgt := 178) (by decide +kernel) (Int32.not_le.mpr c2) ?_
      refine z_bipush (n := 175) (q := 40) (v := 40) (by decide +kernel) ?_
      refine z_goto (n := 178) (off := 4) (tgt := 179) (by decide +kernel) ?_
      exact f9
    · have e : nI (n + 1) = x := by rw [← hn]; exact lenN_mid c1 c2
      rw [e] at f9
      refine z_ald0 (n := 158) (by decide +kernel) ?_
      refine z_ild1 (n := 159) (by decide +kernel) ?_
      refine z_iconst (n := 160) (q := 2) (v := 2) (by decide +kernel) ?_
      refine z_icmp_ge_t (n := 163) (off := 7) (tgt := 167) (by decide +kernel) (Int32.not_lt.mp c1) ?_
      refine z_ild1 (n := 168) (by decide +kernel) ?_
      refine z_bipush (n := 170) (q := 40) (v := 40) (by decide +kernel) ?_
      refine z_icmp_le_t (n := 173) (off := 8) (tgt := 178) (by decide +kernel) (Int32.not_lt.mp c2) ?_
      refine z_ild1 (n := 179) (by decide +kernel) ?_
      exact f9
theorem mi_86 {G : mG} {h : mH} {Q n : Nat} {x : Int32} (d : Nat) (hd : 2 ≤ d) (hn : lenN x = n + 1) : ∀ hX, (∀ j, j < Q → hX j = h j) → szH hX (Q + 9) → hX Q = oMd8 Q → hX (Q + 1) = aI 600 (fun _ => 0) → hX (Q + 2) = aI 600 (fun _ => 0) → hX (Q + 3) = aI 40 (fun _ => 0) → hX (Q + 4) = aI 300 (fun _ => 0) → hX (Q + 5) = aI 41 (fun _ => 0) → hX (Q + 6) = aI 41 (fun _ => 0) → hX (Q + 7) = aI 41 (fun _ => 0) → hX (Q + 8) = aI 41 (fun _ => 0) → Z G m_X11_init d 17 1850 8 1704 86 [some (.ref Q), some (.int x), none] [] hX (fun r h' => r = none ∧ (∀ j, j < Q → h' j = h j) ∧ szH h' (Q + 18) ∧ mdP h' Q n (a0 n, fun _ => 0) (cpA (a0 n) (fun _ => 0) 600) 0 (fun _ => 0) (-1) (-1) (-1)) := by
  intro hX F hz g0 g1 g2 g3 g4 g5 g6 g7 g8
  unfold oMd8 at g0
  refine z_ald0 (n := 87) (by decide +kernel) ?_
  refine z_iconst (n := 88) (q := 5) (v := 5) (by decide +kernel) ?_
  refine z_newI (n := 90) (k := Q + 9) (N := 5) (by decide +kernel) (by repeat' first | exact hz | refine szH_push ?_ (by first | exact aI_dd | exact oB_dd | exact aZ_dd) | refine szH_set ?_ (by omega) (by first | exact aI_dd | exact oB_dd | exact aZ_dd)) (by omega) (by first | omega | (simp only [List.length]; omega)) (by first | omega | (simp only [List.length]; omega)) ?_
  refine z_putF (n := 93) (idx := 44) (ty := (.array .int)) (by decide +kernel) fl_X11_44 (by first | assumption | (simp (disch := omega) only [hu_s, hu_n]; first | assumption | rfl)) ⟨_, _, _, rfl, rfl, rfl, by decide +kernel⟩ rfl rfl (Nat.le_of_ble_eq_true rfl) ?_
  refine z_ald0 (n := 94) (by decide +kernel) ?_
  refine z_bipush (n := 96) (q := 41) (v := 41) (by decide +kernel) ?_
  refine z_newI (n := 98) (k := Q + 10) (N := 41) (by decide +kernel) (by repeat' first | exact hz | refine szH_push ?_ (by first | exact aI_dd | exact oB_dd | exact aZ_dd) | refine szH_set ?_ (by omega) (by first | exact aI_dd | exact oB_dd | exact aZ_dd)) (by omega) (by first | omega | (simp only [List.length]; omega)) (by first | omega | (simp only [List.length]; omega)) ?_
  refine z_putF (n := 101) (idx := 47) (ty := (.array .int)) (by decide +kernel) fl_X11_47 (by first | assumption | (simp (disch := omega) only [hu_s, hu_n]; first | assumption | rfl)) ⟨_, _, _, rfl, rfl, rfl, by decide +kernel⟩ rfl rfl (Nat.le_of_ble_eq_true rfl) ?_
  refine z_ald0 (n := 102) (by decide +kernel) ?_
  refine z_bipush (n := 104) (q := 8) (v := 8) (by decide +kernel) ?_
  refine z_newI (n := 106) (k := Q + 11) (N := 8) (by decide +kernel) (by repeat' first | exact hz | refine szH_push ?_ (by first | exact aI_dd | exact oB_dd | exact aZ_dd) | refine szH_set ?_ (by omega) (by first | exact aI_dd | exact oB_dd | exact aZ_dd)) (by omega) (by first | omega | (simp only [List.length]; omega)) (by first | omega | (simp only [List.length]; omega)) ?_
  refine z_putF (n := 109) (idx := 50) (ty := (.array .int)) (by decide +kernel) fl_X11_50 (by first | assumption | (simp (disch := omega) only [hu_s, hu_n]; first | assumption | rfl)) ⟨_, _, _, rfl, rfl, rfl, by decide +kernel⟩ rfl rfl (Nat.le_of_ble_eq_true rfl) ?_
  refine z_ald0 (n := 110) (by decide +kernel) ?_
  refine z_bipush (n := 112) (q := 8) (v := 8) (by decide +kernel) ?_
  refine z_newI (n := 114) (k := Q + 12) (N := 8) (by decide +kernel) (by repeat' first | exact hz | refine szH_push ?_ (by first | exact aI_dd | exact oB_dd | exact aZ_dd) | refine szH_set ?_ (by omega) (by first | exact aI_dd | exact oB_dd | exact aZ_dd)) (by omega) (by first | omega | (simp only [List.length]; omega)) (by first | omega | (simp only [List.length]; omega)) ?_
  refine z_putF (n := 117) (idx := 53) (ty := (.array .int)) (by decide +kernel) fl_X11_53 (by first | assumption | (simp (disch := omega) only [hu_s, hu_n]; first | assumption | rfl)) ⟨_, _, _, rfl, rfl, rfl, by decide +kernel⟩ rfl rfl (Nat.le_of_ble_eq_true rfl) ?_
  refine z_ald0 (n := 118) (by decide +kernel) ?_
  refine z_bipush (n := 120) (q := 12) (v := 12) (by decide +kernel) ?_
  refine z_newI (n := 122) (k := Q + 13) (N := 12) (by decide +kernel) (by repeat' first | exact hz | refine szH_push ?_ (by first | exact aI_dd | exact oB_dd | exact aZ_dd) | refine szH_set ?_ (by omega) (by first | exact aI_dd | exact oB_dd | exact aZ_dd)) (by omega) (by first | omega | (simp only [List.length]; omega)) (by first | omega | (simp only [List.length]; omega)) ?_
  refine z_putF (n := 125) (idx := 56) (ty := (.array .int)) (by decide +kernel) fl_X11_56 (by first | assumption | (simp (disch := omega) only [hu_s, hu_n]; first | assumption | rfl)) ⟨_, _, _, rfl, rfl, rfl, by decide +kernel⟩ rfl rfl (Nat.le_of_ble_eq_true rfl) ?_
  refine z_ald0 (n := 126) (by decide +kernel) ?_
  refine z_bipush (n := 128) (q := 12) (v := 12) (by decide +kernel) ?_
  refine z_newI (n := 130) (k := Q + 14) (N := 12) (by decide +kernel) (by repeat' first | exact hz | refine szH_push ?_ (by first | exact aI_dd | exact oB_dd | exact aZ_dd) | refine szH_set ?_ (by omega) (by first | exact aI_dd | exact oB_dd | exact aZ_dd)) (by omega) (by first | omega | (simp only [List.length]; omega)) (by first | omega | (simp only [List.length]; omega)) ?_
  refine z_putF (n := 133) (idx := 59) (ty := (.array .int)) (by decide +kernel) fl_X11_59 (by first | assumption | (simp (disch := omega) only [hu_s, hu_n]; first | assumption | rfl)) ⟨_, _, _, rfl, rfl, rfl, by decide +kernel⟩ rfl rfl (Nat.le_of_ble_eq_true rfl) ?_
  refine z_ald0 (n := 134) (by decide +kernel) ?_
  refine z_bipush (n := 136) (q := 12) (v := 12) (by decide +kernel) ?_
  refine z_newI (n := 138) (k := Q + 15) (N := 12) (by decide +kernel) (by repeat' first | exact hz | refine szH_push ?_ (by first | exact aI_dd | exact oB_dd | exact aZ_dd) | refine szH_set ?_ (by omega) (by first | exact aI_dd | exact oB_dd | exact aZ_dd)) (by omega) (by first | omega | (simp only [List.length]; omega)) (by first | omega | (simp only [List.length]; omega)) ?_
  refine z_putF (n := 141) (idx := 62) (ty := (.array .int)) (by decide +kernel) fl_X11_62 (by first | assumption | (simp (disch := omega) only [hu_s, hu_n]; first | assumption | rfl)) ⟨_, _, _, rfl, rfl, rfl, by decide +kernel⟩ rfl rfl (Nat.le_of_ble_eq_true rfl) ?_
  refine z_ald0 (n := 142) (by decide +kernel) ?_
  refine z_bipush (n := 144) (q := 12) (v := 12) (by decide +kernel) ?_
  refine z_newI (n := 146) (k := Q + 16) (N := 12) (by decide +kernel) (by repeat' first | exact hz | refine szH_push ?_ (by first | exact aI_dd | exact oB_dd | exact aZ_dd) | refine szH_set ?_ (by omega) (by first | exact aI_dd | exact oB_dd | exact aZ_dd)) (by omega) (by first | omega | (simp only [List.length]; omega)) (by first | omega | (simp only [List.length]; omega)) ?_
  refine z_putF (n := 149) (idx := 65) (ty := (.array .int)) (by decide +kernel) fl_X11_65 (by first | assumption | (simp (disch := omega) only [hu_s, hu_n]; first | assumption | rfl)) ⟨_, _, _, rfl, rfl, rfl, by decide +kernel⟩ rfl rfl (Nat.le_of_ble_eq_true rfl) ?_
  refine z_ald0 (n := 150) (by decide +kernel) ?_
  refine z_bipush (n := 152) (q := 36) (v := 36) (by decide +kernel) ?_
  refine z_newI (n := 154) (k := Q + 17) (N := 36) (by decide +kernel) (by repeat' first | exact hz | refine szH_push ?_ (by first | exact aI_dd | exact oB_dd | exact aZ_dd) | refine szH_set ?_ (by omega) (by first | exact aI_dd | exact oB_dd | exact aZ_dd)) (by omega) (by first | omega | (simp only [List.length]; omega)) (by first | omega | (simp only [List.length]; omega)) ?_
  refine z_putF (n := 157) (idx := 68) (ty := (.array .int)) (by decide +kernel) fl_X11_68 (by first | assumption | (simp (disch := omega) only [hu_s, hu_n]; first | assumption | rfl)) ⟨_, _, _, rfl, rfl, rfl, by decide +kernel⟩ rfl rfl (Nat.le_of_ble_eq_true rfl) ?_
  skip
  refine z_num (cs' := 17) (sl' := 1850) (by omega) (by omega) (mi_157 d hd hn _ (fun j hj => by simp (disch := omega) only [hu_n]; exact F j hj) (by repeat' first | exact hz | refine szH_push ?_ (by first | exact aI_dd | exact oB_dd | exact aZ_dd) | refine szH_set ?_ (by omega) (by first | exact aI_dd | exact oB_dd | exact aZ_dd)) (by simp (disch := omega) only [hu_s, hu_n]; first | done | assumption | rfl) (by simp (disch := omega) only [hu_s, hu_n]; first | done | assumption | rfl) (by simp (disch := omega) only [hu_s, hu_n]; first | done | assumption | rfl) (by simp (disch := omega) only [hu_s, hu_n]; first | done | assumption | rfl) (by simp (disch := omega) only [hu_s, hu_n]; first | done | assumption | rfl) ⟨⟨_, (by simp (disch := omega) only [hu_s, hu_n]; first | done | assumption | rfl)⟩, ⟨_, (by simp (disch := omega) only [hu_s, hu_n]; first | done | assumption | rfl)⟩, ⟨_, (by simp (disch := omega) only [hu_s, hu_n]; first | done | assumption | rfl)⟩, ⟨_, (by simp (disch := omega) only [hu_s, hu_n]; first | done | assumption | rfl)⟩, ⟨_, (by simp (disch := omega) only [hu_s, hu_n]; first | done | assumption | rfl)⟩, ⟨_, (by simp (disch := omega) only [hu_s, hu_n]; first | done | assumption | rfl)⟩, ⟨_, (by simp (disch := omega) only [hu_s, hu_n]; first | done | assumption | rfl)⟩, ⟨_, (by simp (disch := omega) only [hu_s, hu_n]; first | done | assumption | rfl)⟩, ⟨⟨_, (by simp (disch := omega) only [hu_s, hu_n]; first | done | assumption | rfl)⟩, ⟨_, (by simp (disch := omega) only [hu_s, hu_n]; first | done | assumption | rfl)⟩, ⟨_, (by simp (disch := omega) only [hu_s, hu_n]; first | done | assumption | rfl)⟩, ⟨_, (by simp (disch := omega) only [hu_s, hu_n]; first | done | assumption | rfl)⟩⟩, ⟨_, (by simp (disch := omega) only [hu_s, hu_n]; first | done | assumption | rfl)⟩⟩)
theorem m_init {G : mG} {h : mH} {Q n : Nat} {x : Int32} (d : Nat) (hd : 2 ≤ d) (hz : szH h (Q + 1)) (hQ : h Q = oMd0) (hn : lenN x = n + 1) : EV G m_X11_init d 17 1850 [.ref Q, .int x] h (fun r h' => r = none ∧ (∀ j, j < Q → h' j = h j) ∧ szH h' (Q + 18) ∧ mdP h' Q n (a0 n, fun _ => 0) (cpA (a0 n) (fun _ => 0) 600) 0 (fun _ => 0) (-1) (-1) (-1)) := by
  unfold oMd0 at hQ
  refine ev_2_1 rfl rfl (by decide +kernel) (by decide +kernel) ?_
  refine z_ald0 (n := 1) (by decide +kernel) ?_
  refine z_objI (n := 4) (idx := 1) (by decide +kernel) jl_X11_1 (Nat.le_of_ble_eq_true rfl) (by omega) ?_
  refine z_ald0 (n := 5) (by decide +kernel) ?_
  refine z_sipush (n := 8) (q := 600) (v := 600) (by decide +kernel) ?_
  refine z_newI (n := 10) (k := Q + 1) (N := 600) (by decide +kernel) (by repeat' first | exact hz | refine szH_push ?_ (by first | exact aI_dd | exact oB_dd | exact aZ_dd) | refine szH_set ?_ (by omega) (by first | exact aI_dd | exact oB_dd | exact aZ_dd)) (by omega) (by first | omega | (simp only [List.length]; omega)) (by first | omega | (simp only [List.length]; omega)) ?_
  refine z_putF (n := 13) (idx := 7) (ty := (.array .int)) (by decide +kernel) fl_X11_7 (by first | assumption | (simp (disch := omega) only [hu_s, hu_n]; first | assumption | rfl)) ⟨_, _, _, rfl, rfl, rfl, by decide +kernel⟩ rfl rfl (Nat.le_of_ble_eq_true rfl) ?_
  refine z_ald0 (n := 14) (by decide +kernel) ?_
  refine z_sipush (n := 17) (q := 600) (v := 600) (by decide +kernel) ?_
  refine z_newI (n := 19) (k := Q + 2) (N := 600) (by decide +kernel) (by repeat' first | exact hz | refine szH_push ?_ (by first | exact aI_dd | exact oB_dd | exact aZ_dd) | refine szH_set ?_ (by omega) (by first | exact aI_dd | exact oB_dd | exact aZ_dd)) (by omega) (by first | omega | (simp only [List.length]; omega)) (by first | omega | (simp only [List.length]; omega)) ?_
  refine z_putF (n := 22) (idx := 13) (ty := (.array .int)) (by decide +kernel) fl_X11_13 (by first | assumption | (simp (disch := omega) only [hu_s, hu_n]; first | assumption | rfl)) ⟨_, _, _, rfl, rfl, rfl, by decide +kernel⟩ rfl rfl (Nat.le_of_ble_eq_true rfl) ?_
  refine z_ald0 (n := 23) (by decide +kernel) ?_
  refine z_bipush (n := 25) (q := 40) (v := 40) (by decide +kernel) ?_
  refine z_newI (n := 27) (k := Q + 3) (N := 40) (by decide +kernel) (by repeat' first | exact hz | refine szH_push ?_ (by first | exact aI_dd | exact oB_dd | exact aZ_dd) | refine szH_set ?_ (by omega) (by first | exact aI_dd | exact oB_dd | exact aZ_dd)) (by omega) (by first | omega | (simp only [List.length]; omega)) (by first | omega | (simp only [List.length]; omega)) ?_
  refine z_putF (n := 30) (idx := 16) (ty := (.array .int)) (by decide +kernel) fl_X11_16 (by first | assumption | (simp (disch := omega) only [hu_s, hu_n]; first | assumption | rfl)) ⟨_, _, _, rfl, rfl, rfl, by decide +kernel⟩ rfl rfl (Nat.le_of_ble_eq_true rfl) ?_
  refine z_ald0 (n := 31) (by decide +kernel) ?_
  refine z_sipush (n := 34) (q := 300) (v := 300) (by decide +kernel) ?_
  refine z_newI (n := 36) (k := Q + 4) (N := 300) (by decide +kernel) (by repeat' first | exact hz | refine szH_push ?_ (by first | exact aI_dd | exact oB_dd | exact aZ_dd) | refine szH_set ?_ (by omega) (by first | exact aI_dd | exact oB_dd | exact aZ_dd)) (by omega) (by first | omega | (simp only [List.length]; omega)) (by first | omega | (simp only [List.length]; omega)) ?_
  refine z_putF (n := 39) (idx := 19) (ty := (.array .int)) (by decide +kernel) fl_X11_19 (by first | assumption | (simp (disch := omega) only [hu_s, hu_n]; first | assumption | rfl)) ⟨_, _, _, rfl, rfl, rfl, by decide +kernel⟩ rfl rfl (Nat.le_of_ble_eq_true rfl) ?_
  refine z_ald0 (n := 40) (by decide +kernel) ?_
  refine z_iconst (n := 41) (q := -1) (v := -1) (by decide +kernel) ?_
  refine z_putf (n := 44) (idx := 22) (ty := .int) (by decide +kernel) fl_X11_22 (by first | assumption | (simp (disch := omega) only [hu_s, hu_n]; first | assumption | rfl)) ⟨_, _, _, rfl, rfl, by decide +kernel⟩ rfl rfl (Nat.le_of_ble_eq_true rfl) ?_
  refine z_ald0 (n := 45) (by decide +kernel) ?_
  refine z_iconst (n := 46) (q := -1) (v := -1) (by decide +kernel) ?_
  refine z_putf (n := 49) (idx := 26) (ty := .int) (by decide +kernel) fl_X11_26 (by first | assumption | (simp (disch := omega) only [hu_s, hu_n]; first | assumption | rfl)) ⟨_, _, _, rfl, rfl, by decide +kernel⟩ rfl rfl (Nat.le_of_ble_eq_true rfl) ?_
  refine z_ald0 (n := 50) (by decide +kernel) ?_
  refine z_iconst (n := 51) (q := -1) (v := -1) (by decide +kernel) ?_
  refine z_putf (n := 54) (idx := 29) (ty := .int) (by decide +kernel) fl_X11_29 (by first | assumption | (simp (disch := omega) only [hu_s, hu_n]; first | assumption | rfl)) ⟨_, _, _, rfl, rfl, by decide +kernel⟩ rfl rfl (Nat.le_of_ble_eq_true rfl) ?_
  refine z_ald0 (n := 55) (by decide +kernel) ?_
  refine z_bipush (n := 57) (q := 41) (v := 41) (by decide +kernel) ?_
  refine z_newI (n := 59) (k := Q + 5) (N := 41) (by decide +kernel) (by repeat' first | exact hz | refine szH_push ?_ (by first | exact aI_dd | exact oB_dd | exact aZ_dd) | refine szH_set ?_ (by omega) (by first | exact aI_dd | exact oB_dd | exact aZ_dd)) (by omega) (by first | omega | (simp only [List.length]; omega)) (by first | omega | (simp only [List.length]; omega)) ?_
  refine z_putF (n := 62) (idx := 32) (ty := (.array .int)) (by decide +kernel) fl_X11_32 (by first | assumption | (simp (disch := omega) only [hu_s, hu_n]; first | assumption | rfl)) ⟨_, _, _, rfl, rfl, rfl, by decide +kernel⟩ rfl rfl (Nat.le_of_ble_eq_true rfl) ?_
  refine z_ald0 (n := 63) (by decide +kernel) ?_
  refine z_bipush (n := 65) (q := 41) (v := 41) (by decide +kernel) ?_
  refine z_newI (n := 67) (k := Q + 6) (N := 41) (by decide +kernel) (by repeat' first | exact hz | refine szH_push ?_ (by first | exact aI_dd | exact oB_dd | exact aZ_dd) | refine szH_set ?_ (by omega) (by first | exact aI_dd | exact oB_dd | exact aZ_dd)) (by omega) (by first | omega | (simp only [List.length]; omega)) (by first | omega | (simp only [List.length]; omega)) ?_
  refine z_putF (n := 70) (idx := 35) (ty := (.array .int)) (by decide +kernel) fl_X11_35 (by first | assumption | (simp (disch := omega) only [hu_s, hu_n]; first | assumption | rfl)) ⟨_, _, _, rfl, rfl, rfl, by decide +kernel⟩ rfl rfl (Nat.le_of_ble_eq_true rfl) ?_
  refine z_ald0 (n := 71) (by decide +kernel) ?_
  refine z_bipush (n := 73) (q := 41) (v := 41) (by decide +kernel) ?_
  refine z_newI (n := 75) (k := Q + 7) (N := 41) (by decide +kernel) (by repeat' first | exact hz | refine szH_push ?_ (by first | exact aI_dd | exact oB_dd | exact aZ_dd) | refine szH_set ?_ (by omega) (by first | exact aI_dd | exact oB_dd | exact aZ_dd)) (by omega) (by first | omega | (simp only [List.length]; omega)) (by first | omega | (simp only [List.length]; omega)) ?_
  refine z_putF (n := 78) (idx := 38) (ty := (.array .int)) (by decide +kernel) fl_X11_38 (by first | assumption | (simp (disch := omega) only [hu_s, hu_n]; first | assumption | rfl)) ⟨_, _, _, rfl, rfl, rfl, by decide +kernel⟩ rfl rfl (Nat.le_of_ble_eq_true rfl) ?_
  refine z_ald0 (n := 79) (by decide +kernel) ?_
  refine z_bipush (n := 81) (q := 41) (v := 41) (by decide +kernel) ?_
  refine z_newI (n := 83) (k := Q + 8) (N := 41) (by decide +kernel) (by repeat' first | exact hz | refine szH_push ?_ (by first | exact aI_dd | exact oB_dd | exact aZ_dd) | refine szH_set ?_ (by omega) (by first | exact aI_dd | exact oB_dd | exact aZ_dd)) (by omega) (by first | omega | (simp only [List.length]; omega)) (by first | omega | (simp only [List.length]; omega)) ?_
  refine z_putF (n := 86) (idx := 41) (ty := (.array .int)) (by decide +kernel) fl_X11_41 (by first | assumption | (simp (disch := omega) only [hu_s, hu_n]; first | assumption | rfl)) ⟨_, _, _, rfl, rfl, rfl, by decide +kernel⟩ rfl rfl (Nat.le_of_ble_eq_true rfl) ?_
  skip
  refine z_num (cs' := 8) (sl' := 1704) (by omega) (by omega) (mi_86 d hd hn _ (fun j hj => by simp (disch := omega) only [hu_n]) (by repeat' first | exact hz | refine szH_push ?_ (by first | exact aI_dd | exact oB_dd | exact aZ_dd) | refine szH_set ?_ (by omega) (by first | exact aI_dd | exact oB_dd | exact aZ_dd)) (by simp (disch := omega) only [hu_s, hu_n]; first | done | assumption | rfl) (by simp (disch := omega) only [hu_s, hu_n]; first | done | assumption | rfl) (by simp (disch := omega) only [hu_s, hu_n]; first | done | assumption | rfl) (by simp (disch := omega) only [hu_s, hu_n]; first | done | assumption | rfl) (by simp (disch := omega) only [hu_s, hu_n]; first | done | assumption | rfl) (by simp (disch := omega) only [hu_s, hu_n]; first | done | assumption | rfl) (by simp (disch := omega) only [hu_s, hu_n]; first | done | assumption | rfl) (by simp (disch := omega) only [hu_s, hu_n]; first | done | assumption | rfl) (by simp (disch := omega) only [hu_s, hu_n]; first | done | assumption | rfl))
