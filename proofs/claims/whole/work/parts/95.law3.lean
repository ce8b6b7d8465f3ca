/-! THE LAW: its loop, its whole walk -/
theorem lw_step {G : mG} {h : mH} {n L i : Nat} {xs : Nat → Int32} (hSC : ∀ U, gI G U → xOK G L xs U) (hST : ∀ U, gI G U → sOK G U) (hL : L ≤ 3073) (hi4 : i ≤ 4000) (hn : n < 40) (H : RelX 0 102 n h) (K : i + 6 ≤ L → ∀ h', RelX 0 102 n h' → Z G m_L_law 30 120 4990 120 4990 28 [some (.ref 1048600), some (.ref 0), some (.ref 102), some (.int (nI (i + 6)))] [] h' (fun r _ => r = some (.int 1))) : Z G m_L_law 30 120 4990 120 4990 28 [some (.ref 1048600), some (.ref 0), some (.ref 102), some (.int (nI i))] [] h (fun r _ => r = some (.int 1)) := by
  have K2 : i + 6 ≤ L → ∀ h', RelX 0 102 n h' → Z G m_L_law 30 120 4990 120 4990 1027 [some (.ref 1048600), some (.ref 0), some (.ref 102), some (.int (nI i))] [] h' (fun r _ => r = some (.int 1)) := by
    intro hi h' H'
    refine z_inc3 (n := 1030) (q := 6) (by decide +kernel) rfl (nI_add i 6) ?_
    refine z_goto (n := 1033) (off := -1002) (tgt := 28) (by decide +kernel) ?_
    exact K hi _ H'
  have hi : ¬ (nI L - 6 : Int32) < nI i → i + 6 ≤ L := by
    intro c
    have c1 := Int32.le_iff_toInt_le.mp (Int32.not_lt.mp c)
    have c2 : ((nI L - 6 : Int32)).toInt = (L : Int) - 6 := pk_sub_toInt (b := 6) (by omega) (by omega)
    rw [c2, nI_toInt (by omega)] at c1
    omega
  refine z_ild3 (n := 29) (by decide +kernel) ?_
  refine z_ald0 (n := 30) (by decide +kernel) ?_
  refine z_xlen (n := 31) hSC (by decide +kernel) ?_
  refine z_bipush (n := 33) (q := 6) (v := 6) (by decide +kernel) ?_
  refine z_isub (n := 34) (by decide +kernel) ?_
  refine z_icmp_gt (n := 37) (off := 999) (tgt := 1033) (by decide +kernel) (fun c34 => ?_) (fun c34 => ?_)
  · refine z_iconst (n := 1034) (q := 1) (v := 1) (by decide +kernel) ?_
    first | refine z_zr1 (by decide +kernel) rfl (Nat.le_refl _) ?_ | refine z_zr0 (by decide +kernel) rfl (Nat.le_refl _) ?_ | refine z_zrb (by decide +kernel) rfl (Nat.le_refl _) ?_
    rfl
  · refine z_ald0 (n := 38) (by decide +kernel) ?_
    have hi9 := hi c34
    refine z_ild3 (n := 39) (by decide +kernel) ?_
    refine z_xald (n := 40) (k := i) hSC (by omega) (by omega) (by decide +kernel) ?_
    refine z_bipush (n := 42) (q := 31) (v := 31) (by decide +kernel) ?_
    refine z_iand (n := 43) (by decide +kernel) ?_
    by_cases s0 : (xs i &&& 31) = 0
    · refine z_tswI (v := 0) (off := 113) (dflt := 984) (lo := 0) (hi := 24) (offs := #[113, 166, 215, 238, 251, 284, 307, 340, 373, 436, 459, 472, 495, 558, 591, 634, 677, 740, 793, 826, 849, 902, 935, 948, 961]) (len := 113) (tgt := 156) s0 (by decide +kernel) ?_
      exact lw_c0 hSC hST hL (hi c34) hn H (K2 (hi c34))
    by_cases s1 : (xs i &&& 31) = 1
    · refine z_tswI (v := 1) (off := 166) (dflt := 984) (lo := 0) (hi := 24) (offs := #[113, 166, 215, 238, 251, 284, 307, 340, 373, 436, 459, 472, 495, 558, 591, 634, 677, 740, 793, 826, 849, 902, 935, 948, 961]) (len := 113) (tgt := 209) s1 (by decide +kernel) ?_
      exact lw_c1 hSC hST hL (hi c34) hn H (K2 (hi c34))
    by_cases s2 : (xs i &&& 31) = 2
    · refine z_tswI (v := 2) (off := 215) (dflt := 984) (lo := 0) (hi := 24) (offs := #[113, 166, 215, 238, 251, 284, 307, 340, 373, 436, 459, 472, 495, 558, 591, 634, 677, 740, 793, 826, 849, 902, 935, 948, 961]) (len := 113) (tgt := 258) s2 (by decide +kernel) ?_
      exact lw_c2 hSC hST hL (hi c34) hn H (K2 (hi c34))
    by_cases s3 : (xs i &&& 31) = 3
    · refine z_tswI (v := 3) (off := 238) (dflt := 984) (lo := 0) (hi := 24) (offs := #[113, 166, 215, 238, 251, 284, 307, 340, 373, 436, 459, 472, 495, 558, 591, 634, 677, 740, 793, 826, 849, 902, 935, 948, 961]) (len := 113) (tgt := 281) s3 (by decide +kernel) ?_
      exact lw_c3 hSC hST hL (hi c34) hn H (K2 (hi c34))
    by_cases s4 : (xs i &&& 31) = 4
    · refine z_tswI (v := 4) (off := 251) (dflt := 984) (lo := 0) (hi := 24) (offs := #[113, 166, 215, 238, 251, 284, 307, 340, 373, 436, 459, 472, 495, 558, 591, 634, 677, 740, 793, 826, 849, 902, 935, 948, 961]) (len := 113) (tgt := 294) s4 (by decide +kernel) ?_
      exact lw_c4 hSC hST hL (hi c34) hn H (K2 (hi c34))
    by_cases s5 : (xs i &&& 31) = 5
    · refine z_tswI (v := 5) (off := 284) (dflt := 984) (lo := 0) (hi := 24) (offs := #[113, 166, 215, 238, 251, 284, 307, 340, 373, 436, 459, 472, 495, 558, 591, 634, 677, 740, 793, 826, 849, 902, 935, 948, 961]) (len := 113) (tgt := 327) s5 (by decide +kernel) ?_
      exact lw_c5 hSC hST hL (hi c34) hn H (K2 (hi c34))
    by_cases s6 : (xs i &&& 31) = 6
    · refine z_tswI (v := 6) (off := 307) (dflt := 984) (lo := 0) (hi := 24) (offs := #[113, 166, 215, 238, 251, 284, 307, 340, 373, 436, 459, 472, 495, 558, 591, 634, 677, 740, 793, 826, 849, 902, 935, 948, 961]) (len := 113) (tgt := 350) s6 (by decide +kernel) ?_
      exact lw_c6 hSC hST hL (hi c34) hn H (K2 (hi c34))
    by_cases s7 : (xs i &&& 31) = 7
    · refine z_tswI (v := 7) (off := 340) (dflt := 984) (lo := 0) (hi := 24) (offs := #[113, 166, 215, 238, 251, 284, 307, 340, 373, 436, 459, 472, 495, 558, 591, 634, 677, 740, 793, 826, 849, 902, 935, 948, 961]) (len := 113) (tgt := 383) s7 (by decide +kernel) ?_
      exact lw_c7 hSC hST hL (hi c34) hn H (K2 (hi c34))
    by_cases s8 : (xs i &&& 31) = 8
    · refine z_tswI (v := 8) (off := 373) (dflt := 984) (lo := 0) (hi := 24) (offs := #[113, 166, 215, 238, 251, 284, 307, 340, 373, 436, 459, 472, 495, 558, 591, 634, 677, 740, 793, 826, 849, 902, 935, 948, 961]) (len := 113) (tgt := 416) s8 (by decide +kernel) ?_
      exact lw_c8 hSC hST hL (hi c34) hn H (K2 (hi c34))
    by_cases s9 : (xs i &&& 31) = 9
    · refine z_tswI (v := 9) (off := 436) (dflt := 984) (lo := 0) (hi := 24) (offs := #[113, 166, 215, 238, 251, 284, 307, 340, 373, 436, 459, 472, 495, 558, 591, 634, 677, 740, 793, 826, 849, 902, 935, 948, 961]) (len := 113) (tgt := 479) s9 (by decide +kernel) ?_
      exact lw_c9 hSC hST hL (hi c34) hn H (K2 (hi c34))
    by_cases s10 : (xs i &&& 31) = 10
    · refine z_tswI (v := 10) (off := 459) (dflt := 984) (lo := 0) (hi := 24) (offs := #[113, 166, 215, 238, 251, 284, 307, 340, 373, 436, 459, 472, 495, 558, 591, 634, 677, 740, 793, 826, 849, 902, 935, 948, 961]) (len := 113) (tgt := 502) s10 (by decide +kernel) ?_
      exact lw_c10 hSC hST hL (hi c34) hn H (K2 (hi c34))
    by_cases s11 : (xs i &&& 31) = 11
    · refine z_tswI (v := 11) (off := 472) (dflt := 984) (lo := 0) (hi := 24) (offs := #[113, 166, 215, 238, 251, 284, 307, 340, 373, 436, 459, 472, 495, 558, 591, 634, 677, 740, 793, 826, 849, 902, 935, 948, 961]) (len := 113) (tgt := 515) s11 (by decide +kernel) ?_
      exact lw_c11 hSC hST hL (hi c34) hn H (K2 (hi c34))
    by_cases s12 : (xs i &&& 31) = 12
    · refine z_tswI (v := 12) (off := 495) (dflt := 984) (lo := 0) (hi := 24) (offs := #[113, 166, 215, 238, 251, 284, 307, 340, 373, 436, 459, 472, 495, 558, 591, 634, 677, 740, 793, 826, 849, 902, 935, 948, 961]) (len := 113) (tgt := 538) s12 (by decide +kernel) ?_
      exact lw_c12 hSC hST hL (hi c34) hn H (K2 (hi c34))
    by_cases s13 : (xs i &&& 31) = 13
    · refine z_tswI (v := 13) (off := 558) (dflt := 984) (lo := 0) (hi := 24) (offs := #[113, 166, 215, 238, 251, 284, 307, 340, 373, 436, 459, 472, 495, 558, 591, 634, 677, 740, 793, 826, 849, 902, 935, 948, 961]) (len := 113) (tgt := 601) s13 (by decide +kernel) ?_
      exact lw_c13 hSC hST hL (hi c34) hn H (K2 (hi c34))
    by_cases s14 : (xs i &&& 31) = 14
    · refine z_tswI (v := 14) (off := 591) (dflt := 984) (lo := 0) (hi := 24) (offs := #[113, 166, 215, 238, 251, 284, 307, 340, 373, 436, 459, 472, 495, 558, 591, 634, 677, 740, 793, 826, 849, 902, 935, 948, 961]) (len := 113) (tgt := 634) s14 (by decide +kernel) ?_
      exact lw_c14 hSC hST hL (hi c34) hn H (K2 (hi c34))
    by_cases s15 : (xs i &&& 31) = 15
    · refine z_tswI (v := 15) (off := 634) (dflt := 984) (lo := 0) (hi := 24) (offs := #[113, 166, 215, 238, 251, 284, 307, 340, 373, 436, 459, 472, 495, 558, 591, 634, 677, 740, 793, 826, 849, 902, 935, 948, 961]) (len := 113) (tgt := 677) s15 (by decide +kernel) ?_
      exact lw_c15 hSC hST hL (hi c34) hn H (K2 (hi c34))
    by_cases s16 : (xs i &&& 31) = 16
    · refine z_tswI (v := 16) (off := 677) (dflt := 984) (lo := 0) (hi := 24) (offs := #[113, 166, 215, 238, 251, 284, 307, 340, 373, 436, 459, 472, 495, 558, 591, 634, 677, 740, 793, 826, 849, 902, 935, 948, 961]) (len := 113) (tgt := 720) s16 (by decide +kernel) ?_
      exact lw_c16 hSC hST hL (hi c34) hn H (K2 (hi c34))
    by_cases s17 : (xs i &&& 31) = 17
    · refine z_tswI (v := 17) (off := 740) (dflt := 984) (lo := 0) (hi := 24) (offs := #[113, 166, 215, 238, 251, 284, 307, 340, 373, 436, 459, 472, 495, 558, 591, 634, 677, 740, 793, 826, 849, 902, 935, 948, 961]) (len := 113) (tgt := 783) s17 (by decide +kernel) ?_
      exact lw_c17 hSC hST hL (hi c34) hn H (K2 (hi c34))
    by_cases s18 : (xs i &&& 31) = 18
    · refine z_tswI (v := 18) (off := 793) (dflt := 984) (lo := 0) (hi := 24) (offs := #[113, 166, 215, 238, 251, 284, 307, 340, 373, 436, 459, 472, 495, 558, 591, 634, 677, 740, 793, 826, 849, 902, 935, 948, 961]) (len := 113) (tgt := 836) s18 (by decide +kernel) ?_
      exact lw_c18 hSC hST hL (hi c34) hn H (K2 (hi c34))
    by_cases s19 : (xs i &&& 31) = 19
    · refine z_tswI (v := 19) (off := 826) (dflt := 984) (lo := 0) (hi := 24) (offs := #[113, 166, 215, 238, 251, 284, 307, 340, 373, 436, 459, 472, 495, 558, 591, 634, 677, 740, 793, 826, 849, 902, 935, 948, 961]) (len := 113) (tgt := 869) s19 (by decide +kernel) ?_
      exact lw_c19 hSC hST hL (hi c34) hn H (K2 (hi c34))
    by_cases s20 : (xs i &&& 31) = 20
    · refine z_tswI (v := 20) (off := 849) (dflt := 984) (lo := 0) (hi := 24) (offs := #[113, 166, 215, 238, 251, 284, 307, 340, 373, 436, 459, 472, 495, 558, 591, 634, 677, 740, 793, 826, 849, 902, 935, 948, 961]) (len := 113) (tgt := 892) s20 (by decide +kernel) ?_
      exact lw_c20 hSC hST hL (hi c34) hn H (K2 (hi c34))
    by_cases s21 : (xs i &&& 31) = 21
    · refine z_tswI (v := 21) (off := 902) (dflt := 984) (lo := 0) (hi := 24) (offs := #[113, 166, 215, 238, 251, 284, 307, 340, 373, 436, 459, 472, 495, 558, 591, 634, 677, 740, 793, 826, 849, 902, 935, 948, 961]) (len := 113) (tgt := 945) s21 (by decide +kernel) ?_
      exact lw_c21 hSC hST hL (hi c34) hn H (K2 (hi c34))
    by_cases s22 : (xs i &&& 31) = 22
    · refine z_tswI (v := 22) (off := 935) (dflt := 984) (lo := 0) (hi := 24) (offs := #[113, 166, 215, 238, 251, 284, 307, 340, 373, 436, 459, 472, 495, 558, 591, 634, 677, 740, 793, 826, 849, 902, 935, 948, 961]) (len := 113) (tgt := 978) s22 (by decide +kernel) ?_
      exact lw_c22 hSC hST hL (hi c34) hn H (K2 (hi c34))
    by_cases s23 : (xs i &&& 31) = 23
    · refine z_tswI (v := 23) (off := 948) (dflt := 984) (lo := 0) (hi := 24) (offs := #[113, 166, 215, 238, 251, 284, 307, 340, 373, 436, 459, 472, 495, 558, 591, 634, 677, 740, 793, 826, 849, 902, 935, 948, 961]) (len := 113) (tgt := 991) s23 (by decide +kernel) ?_
      exact lw_c23 hSC hST hL (hi c34) hn H (K2 (hi c34))
    by_cases s24 : (xs i &&& 31) = 24
    · refine z_tswI (v := 24) (off := 961) (dflt := 984) (lo := 0) (hi := 24) (offs := #[113, 166, 215, 238, 251, 284, 307, 340, 373, 436, 459, 472, 495, 558, 591, 634, 677, 740, 793, 826, 849, 902, 935, 948, 961]) (len := 113) (tgt := 1004) s24 (by decide +kernel) ?_
      exact lw_c24 hSC hST hL (hi c34) hn H (K2 (hi c34))
    refine z_tswO (dflt := 984) (lo := 0) (hi := 24) (offs := #[113, 166, 215, 238, 251, 284, 307, 340, 373, 436, 459, 472, 495, 558, 591, 634, 677, 740, 793, 826, 849, 902, 935, 948, 961]) (len := 113) (tgt := 1027) (tsw_out24 s0 s1 s2 s3 s4 s5 s6 s7 s8 s9 s10 s11 s12 s13 s14 s15 s16 s17 s18 s19 s20 s21 s22 s23 s24) (by decide +kernel) ?_
    exact K2 (hi c34) _ H
theorem lw_loop {G : mG} {n L : Nat} {xs : Nat → Int32} (hSC : ∀ U, gI G U → xOK G L xs U) (hST : ∀ U, gI G U → sOK G U) (hL : L ≤ 3073) (hn : n < 40) : ∀ r i h, i ≤ 4000 → L ≤ i + r → RelX 0 102 n h → Z G m_L_law 30 120 4990 120 4990 28 [some (.ref 1048600), some (.ref 0), some (.ref 102), some (.int (nI i))] [] h (fun r _ => r = some (.int 1))
  | 0, i, h, h4, hr, H => lw_step hSC hST hL h4 hn H (fun c => absurd c (by omega))
  | r + 1, i, h, h4, hr, H => lw_step hSC hST hL h4 hn H (fun c h' H' => lw_loop hSC hST hL hn r (i + 6) h' (by omega) (by omega) H')
theorem z_cse {G : mG} {M : mD} {d mc ms cs sl cs' sl' pc : Nat} {lv : List (Option Value)} {st : List Value} {h : mH} {Q : Option Value → mH → Prop} (a : cs = cs') (b : sl = sl') (k : Z G M d mc ms cs' sl' pc lv st h Q) : Z G M d mc ms cs sl pc lv st h Q := by
  subst a
  subst b
  exact k
theorem lw_all {G : mG} {L : Nat} {xs : Nat → Int32} (hSC : ∀ U, gI G U → xOK G L xs U) (hST : ∀ U, gI G U → sOK G U) (hAO : ∀ U, gI G U → va_AO "CreasedPaper$Strip" U) (hAA : ∀ U, gI G U → (Cond.arrayOver (.array .int)).before #[] U = true) (hNW : ∀ w, w ∈ nws → ∀ U, gI G U → va_Nw w U) (hL : L ≤ 3073) : Z G m_L_law 30 120 4990 0 0 0 [some (.ref 1048600), none, none, none] [] (fun _ => dd) (fun r _ => r = some (.int 1)) := by
  have hz : szH (fun _ => dd) 0 := fun i => ⟨fun _ => Nat.zero_le _, fun _ => rfl⟩
  have ln := lenN_in (if 0 < L then xs 0 else 0)
  obtain ⟨n, hnn⟩ : ∃ n, lenN (if 0 < L then xs 0 else 0) = n + 1 := ⟨lenN (if 0 < L then xs 0 else 0) - 1, by omega⟩
  rw [hnn] at ln
  have hz1 : szH (hu (fun _ => dd) 0 (oB 10 [.null, .null, .null, .null, .null, .null, .null, .null, .null, .null, .null])) (0 + 1) := szH_push hz oB_dd
  refine z_new (n := 3) (idx := 7) (k := 0) (by decide +kernel) kc_L_7 (by repeat' first | exact hz | refine szH_push ?_ (by first | exact aI_dd | exact oB_dd | exact aZ_dd)) (by first | omega | (simp only [List.length]; omega)) (by first | omega | (simp only [List.length]; omega)) ?_
  refine z_dup (n := 4) (by decide +kernel) rfl ?_
  refine z_ald0 (n := 5) (by decide +kernel) ?_
  refine z_iconst (n := 6) (q := 0) (v := 0) (by decide +kernel) ?_
  refine z_s2 (n := 9) (idx := 9) (by decide +kernel) ml_L_9 (Nat.le_of_ble_eq_true rfl) (by omega) ⟨by first | omega | (simp only [List.length]; omega), by first | omega | (simp only [List.length]; omega)⟩ (l_cell 20 hSC hL) ?_
  refine z_j1 (n := 12) (idx := 15) (by decide +kernel) ml_L_15 ⟨rfl, rfl⟩ (Nat.le_of_ble_eq_true rfl) (by omega) ⟨by first | omega | (simp only [List.length]; omega), by first | omega | (simp only [List.length]; omega)⟩ (i_creased (n := n) 20 (by omega) hAO hAA hNW hz1 hu_s hnn) (fun h9 q9 => ?_)
  obtain ⟨f1, hz, c1⟩ := q9
  refine z_ast1 (n := 13) (by decide +kernel) rfl ?_
  refine z_new (n := 16) (idx := 18) (k := 102) (by decide +kernel) kc_L_18 (by repeat' first | exact hz | refine szH_push ?_ (by first | exact aI_dd | exact oB_dd | exact aZ_dd)) (by first | omega | (simp only [List.length]; omega)) (by first | omega | (simp only [List.length]; omega)) ?_
  have hz2 : szH (hu h9 102 oMd0) (102 + 1) := szH_push hz oB_dd
  refine z_dup (n := 17) (by decide +kernel) rfl ?_
  refine z_ald0 (n := 18) (by decide +kernel) ?_
  refine z_iconst (n := 19) (q := 0) (v := 0) (by decide +kernel) ?_
  refine z_s2 (n := 22) (idx := 9) (by decide +kernel) ml_L_9 (Nat.le_of_ble_eq_true rfl) (by omega) ⟨by first | omega | (simp only [List.length]; omega), by first | omega | (simp only [List.length]; omega)⟩ (l_cell 20 hSC hL) ?_
  refine z_j1 (n := 25) (idx := 20) (by decide +kernel) ml_L_20 ⟨rfl, rfl⟩ (Nat.le_of_ble_eq_true rfl) (by omega) ⟨by first | omega | (simp only [List.length]; omega), by first | omega | (simp only [List.length]; omega)⟩ (m_init (n := n) 20 (by omega) hz2 hu_s hnn) (fun h22 q22 => ?_)
  obtain ⟨f2, hz3, M⟩ := q22
  refine z_ast2 (n := 26) (by decide +kernel) rfl ?_
  refine z_iconst (n := 27) (q := 1) (v := 1) (by decide +kernel) ?_
  refine z_ist3 (n := 28) (by decide +kernel) rfl ?_
  exact z_cse (by omega) (by simp only [List.length]) (lw_loop hSC hST hL (by omega) L 1 _ (by omega) (by omega) (rel_init (by omega) (by omega) c1 (fun j a b => (f2 j (by omega)).trans (hu_n (by omega))) M))
