/-! CreasedPaperModel: against, rules, hold, open, cell, crease -/
theorem cnt_y {f : Nat → Int32} {x : Int32} {u : Nat} (h : f u = x) : cnt f x (u + 1) = cnt f x u + 1 := by simp [cnt, h]
theorem cnt_n {f : Nat → Int32} {x : Int32} {u : Nat} (h : ¬ f u = x) : cnt f x (u + 1) = cnt f x u := by simp [cnt, h]
def dsA (a : Nat → Int32) (x : Int32) (right : Bool) (u : Nat) : Int32 := if mvs (a (10 + u)) x right = true then 2 * x - 1 - a (10 + u) else a (10 + u)
def agF (n : Nat) (x : Int32) (right : Bool) (a : Nat → Int32) : Int32 :=
  if (anB (fun u => !decide (x ≤ a (10 + u))) (n + 1) && anB (fun u => !decide (a (10 + u) < x)) (n + 1)) = false then -1 else
  if anB (fun u => !decide (nI (cnt (dsA a x right) (dsA a x right u) (n + 1)) ≤ a 8)) (n + 1) = true then -2 else
  if anB (fun j => crs (fun u => a (10 + u)) j x && decide (a (130 + 6 * (j + 1) + 5) = 1)) n = true then -3 else
  if a 0 = 100000 then -4 else 0
theorem m_against {G : mG} {h : mH} {Q n : Nat} {m : Nat → Int32} {wd : Int64} {a : Nat → Int32} {x : Int32} {right : Bool} (d : Nat) (hd : 1 ≤ d) (hQ : h Q = oMod Q (nI (n + 1)) m wd) (hA : h (Q + 1) = aI 600 a) (hn : n + 1 ≤ 40) : EV G m_X11_against d 0 0 [.ref Q, .int x, .int (bI right)] h (RE (some (.int (agF n x right a))) h) := by
  have L3 : (anB (fun u => !decide (x ≤ a (10 + u))) (n + 1) && anB (fun u => !decide (a (10 + u) < x)) (n + 1)) = true → anB (fun u => !decide (nI (cnt (dsA a x right) (dsA a x right u) (n + 1)) ≤ a 8)) (n + 1) = false → Z G m_X11_against d 0 0 0 0 252 [some (.ref Q), some (.int x), some (.int (bI right)), none, none, some (.int (nI 1)), none, none, none] [] h (RE (some (.int (agF n x right a))) h) := by
    intro g1 g2
    have eg : agF n x right a = if anB (fun j => crs (fun u => a (10 + u)) j x && decide (a (130 + 6 * (j + 1) + 5) = 1)) n = true then -3 else if a 0 = 100000 then -4 else 0 := by
      unfold agF
      rw [if_neg (by rw [g1]; decide), if_neg (by rw [g2]; decide)]
    refine loopZ (k := n) (fun u => anB (fun j => crs (fun u => a (10 + u)) j x && decide (a (130 + 6 * (j + 1) + 5) = 1)) u = false → Z G m_X11_against d 0 0 0 0 252 [some (.ref Q), some (.int x), some (.int (bI right)), none, none, some (.int (nI (u + 1))), none, none, none] [] h (RE (some (.int (agF n x right a))) h)) ?_ ?_ 0 (Nat.zero_le n) rfl
    · intro h0
      refine z_ild5 (n := 254) (by decide +kernel) ?_
      refine z_ald0 (n := 255) (by decide +kernel) ?_
      refine z_getf (n := 258) (idx := 71) (by decide +kernel) fl_X11_71 (by assumption) (by rfl) ?_
      refine z_icmp_ge_t (n := 261) (off := 42) (tgt := 300) (by decide +kernel) (nI_le (Nat.le_refl _) (by omega)) ?_
      refine z_ald0 (n := 301) (by decide +kernel) ?_
      refine z_getf (n := 304) (idx := 7) (by decide +kernel) fl_X11_7 (by assumption) (by rfl) ?_
      refine z_iconst (n := 305) (q := 0) (v := 0) (by decide +kernel) ?_
      refine z_iald (n := 306) (by decide +kernel) (by assumption) (by first | assumption | exact ix_nI (by omega) (by omega) | exact ix_of (by simp only [n_0, n_1, n_2, n_3, n_4, n_5, n_6, n_7, n_8, n_10, n_50, n_90, n_130, n_370, n_570, nI_add, pk_mul]; rfl) (by omega) (by omega)) ?_
      refine z_ldc (n := 308) (q := 97) (by decide +kernel) lc_X11_97 ?_
      refine z_icmp_ne (n := 311) (off := 8) (tgt := 316) (by decide +kernel) (fun c308 => ?_) (fun c308 => ?_)
      · refine z_iconst (n := 317) (q := 0) (v := 0) (by decide +kernel) ?_
        refine z_iret (by decide +kernel) rfl (Nat.le_refl _) ?_
        exact ⟨by rw [eg, if_neg (by rw [h0]; decide)]; simp only [eq_false c308, if_true, if_false], rfl⟩
      · refine z_bipush (n := 313) (q := -4) (v := -4) (by decide +kernel) ?_
        refine z_goto (n := 316) (off := 4) (tgt := 317) (by decide +kernel) ?_
        refine z_iret (by decide +kernel) rfl (Nat.le_refl _) ?_
        exact ⟨by rw [eg, if_neg (by rw [h0]; decide)]; simp only [eq_true c308, if_true, if_false], rfl⟩
    · intro u ul ih h0
      refine z_ild5 (n := 254) (by decide +kernel) ?_
      refine z_ald0 (n := 255) (by decide +kernel) ?_
      refine z_getf (n := 258) (idx := 71) (by decide +kernel) fl_X11_71 (by assumption) (by rfl) ?_
      refine z_icmp_ge_f (n := 261) (off := 42) (tgt := 300) (by decide +kernel) (nI_ge (by omega) (by omega)) ?_
      refine z_ald0 (n := 262) (by decide +kernel) ?_
      refine z_ild5 (n := 264) (by decide +kernel) ?_
      refine z_ild1 (n := 265) (by decide +kernel) ?_
      refine z_v2 (n := 268) (idx := 93) (by decide +kernel) ml_X11_93 (by assumption) rfl (Nat.le_of_ble_eq_true rfl) (by omega) ⟨Nat.le_refl _, Nat.le_refl _⟩ (m_creases (n := n) (a := a) 0 (by omega) hQ hA hn) ?_
      refine z_ifb_eq (n := 271) (off := 26) (tgt := 294) (by decide +kernel) (fun c268 => ?_) (fun c268 => ?_)
      · refine z_inc5 (n := 297) (q := 1) (by decide +kernel) rfl (nI_1 _) ?_
        refine z_goto (n := 300) (off := -45) (tgt := 252) (by decide +kernel) ?_
        exact ih (by simp only [anB, h0, c268, decide_false, Bool.and_false, Bool.false_and, Bool.or_false])
      · refine z_ald0 (n := 272) (by decide +kernel) ?_
        refine z_getf (n := 275) (idx := 7) (by decide +kernel) fl_X11_7 (by assumption) (by rfl) ?_
        refine z_sipush (n := 278) (q := 130) (v := 130) (by decide +kernel) ?_
        refine z_bipush (n := 280) (q := 6) (v := 6) (by decide +kernel) ?_
        refine z_ild5 (n := 282) (by decide +kernel) ?_
        refine z_imul (n := 283) (by decide +kernel) ?_
        refine z_iadd (n := 284) (by decide +kernel) ?_
        refine z_iconst (n := 285) (q := 5) (v := 5) (by decide +kernel) ?_
        refine z_iadd (n := 286) (by decide +kernel) ?_
        refine z_iald (n := 287) (by decide +kernel) (by assumption) (by first | assumption | exact ix_nI (by omega) (by omega) | exact ix_of (by simp only [n_0, n_1, n_2, n_3, n_4, n_5, n_6, n_7, n_8, n_10, n_50, n_90, n_130, n_370, n_570, nI_add, pk_mul]; rfl) (by omega) (by omega)) ?_
        refine z_iconst (n := 288) (q := 1) (v := 1) (by decide +kernel) ?_
        refine z_icmp_ne (n := 291) (off := 6) (tgt := 294) (by decide +kernel) (fun c288 => ?_) (fun c288 => ?_)
        · refine z_inc5 (n := 297) (q := 1) (by decide +kernel) rfl (nI_1 _) ?_
          refine z_goto (n := 300) (off := -45) (tgt := 252) (by decide +kernel) ?_
          exact ih (by simp only [anB, h0, c268, eq_false c288, decide_false, Bool.and_false, Bool.false_and, Bool.or_false])
        · refine z_bipush (n := 293) (q := -3) (v := -3) (by decide +kernel) ?_
          refine z_iret (by decide +kernel) rfl (Nat.le_refl _) ?_
          exact ⟨by rw [eg, if_pos (anB_of (j := u) (by simp only [c268, eq_true c288, decide_true, Bool.and_self]) n ul)], rfl⟩
  have L2 : (anB (fun u => !decide (x ≤ a (10 + u))) (n + 1) && anB (fun u => !decide (a (10 + u) < x)) (n + 1)) = true → Z G m_X11_against d 0 0 0 0 87 [some (.ref Q), some (.int x), some (.int (bI right)), none, none, some (.int (nI 0)), none, none, none] [] h (RE (some (.int (agF n x right a))) h) := by
    intro g1
    refine loopZ (k := n + 1) (fun u => anB (fun u => !decide (nI (cnt (dsA a x right) (dsA a x right u) (n + 1)) ≤ a 8)) u = false → Z G m_X11_against d 0 0 0 0 87 [some (.ref Q), some (.int x), some (.int (bI right)), none, none, some (.int (nI u)), none, none, none] [] h (RE (some (.int (agF n x right a))) h)) ?_ ?_ 0 (Nat.zero_le _) rfl
    · intro h0
      refine z_ild5 (n := 89) (by decide +kernel) ?_
      refine z_ald0 (n := 90) (by decide +kernel) ?_
      refine z_getf (n := 93) (idx := 71) (by decide +kernel) fl_X11_71 (by assumption) (by rfl) ?_
      refine z_icmp_ge_t (n := 96) (off := 156) (tgt := 249) (by decide +kernel) (nI_le (Nat.le_refl _) (by omega)) ?_
      refine z_iconst (n := 250) (q := 1) (v := 1) (by decide +kernel) ?_
      refine z_ist5 (n := 252) (by decide +kernel) rfl ?_
      exact L3 g1 h0
    · intro u ul ih h0
      have inner : ∀ z, z = dsA a x right u → ∀ v, v ≤ n + 1 → Z G m_X11_against d 0 0 0 0 151 [some (.ref Q), some (.int x), some (.int (bI right)), none, none, some (.int (nI u)), some (.int (nI (cnt (dsA a x right) z v))), some (.int z), some (.int (nI v))] [] h (RE (some (.int (agF n x right a))) h) := by
        intro z hz
        refine loopZ (k := n + 1) (fun v => Z G m_X11_against d 0 0 0 0 151 [some (.ref Q), some (.int x), some (.int (bI right)), none, none, some (.int (nI u)), some (.int (nI (cnt (dsA a x right) z v))), some (.int z), some (.int (nI v))] [] h (RE (some (.int (agF n x right a))) h)) ?_ ?_
        · refine z_ild8 (n := 153) (by decide +kernel) ?_
          refine z_ald0 (n := 154) (by decide +kernel) ?_
          refine z_getf (n := 157) (idx := 71) (by decide +kernel) fl_X11_71 (by assumption) (by rfl) ?_
          refine z_icmp_ge_t (n := 160) (off := 71) (tgt := 228) (by decide +kernel) (nI_le (Nat.le_refl _) (by omega)) ?_
          refine z_ild6 (n := 230) (by decide +kernel) ?_
          refine z_ald0 (n := 231) (by decide +kernel) ?_
          refine z_getf (n := 234) (idx := 7) (by decide +kernel) fl_X11_7 (by assumption) (by rfl) ?_
          refine z_bipush (n := 236) (q := 8) (v := 8) (by decide +kernel) ?_
          refine z_iald (n := 237) (by decide +kernel) (by assumption) (by first | assumption | exact ix_nI (by omega) (by omega) | exact ix_of (by simp only [n_0, n_1, n_2, n_3, n_4, n_5, n_6, n_7, n_8, n_10, n_50, n_90, n_130, n_370, n_570, nI_add, pk_mul]; rfl) (by omega) (by omega)) ?_
          refine z_icmp_le (n := 240) (off := 6) (tgt := 243) (by decide +kernel) (fun c237 => ?_) (fun c237 => ?_)
          · refine z_inc5 (n := 246) (q := 1) (by decide +kernel) rfl (nI_1 _) ?_
            refine z_goto (n := 249) (off := -159) (tgt := 87) (by decide +kernel) ?_
            exact z_wk (lv' := [some (.ref Q), some (.int x), some (.int (bI right)), none, none, some (.int (nI (u + 1))), none, none, none]) (by simp [wk]) (ih (by simp only [anB, h0]; rw [← hz]; simp only [eq_true c237, decide_true, Bool.not_true, Bool.or_self]))
          · refine z_bipush (n := 242) (q := -2) (v := -2) (by decide +kernel) ?_
            refine z_iret (by decide +kernel) rfl (Nat.le_refl _) ?_
            exact ⟨by unfold agF; rw [if_neg (by rw [g1]; decide), if_pos (anB_of (j := u) (by rw [← hz]; simp only [eq_false c237, decide_false, Bool.not_false]) (n + 1) ul)], rfl⟩
        · intro v vl ih2
          have ihy : dsA a x right v = z → Z G m_X11_against d 0 0 0 0 151 [some (.ref Q), some (.int x), some (.int (bI right)), none, none, some (.int (nI u)), some (.int (nI (cnt (dsA a x right) z v) + 1)), some (.int z), some (.int (nI (v + 1)))] [] h (RE (some (.int (agF n x right a))) h) := by
            intro q
            rw [cnt_y q, ← nI_1] at ih2
            exact ih2
          have ihn : ¬ dsA a x right v = z → Z G m_X11_against d 0 0 0 0 151 [some (.ref Q), some (.int x), some (.int (bI right)), none, none, some (.int (nI u)), some (.int (nI (cnt (dsA a x right) z v) + 0)), some (.int z), some (.int (nI (v + 1)))] [] h (RE (some (.int (agF n x right a))) h) := by
            intro q
            rw [cnt_n q] at ih2
            rw [Int32.add_zero]
            exact ih2
          refine z_ild8 (n := 153) (by decide +kernel) ?_
          refine z_ald0 (n := 154) (by decide +kernel) ?_
          refine z_getf (n := 157) (idx := 71) (by decide +kernel) fl_X11_71 (by assumption) (by rfl) ?_
          refine z_icmp_ge_f (n := 160) (off := 71) (tgt := 228) (by decide +kernel) (nI_ge vl (by omega)) ?_
          refine z_ild6 (n := 162) (by decide +kernel) ?_
          refine z_ild7 (n := 164) (by decide +kernel) ?_
          refine z_ald0 (n := 165) (by decide +kernel) ?_
          refine z_getf (n := 168) (idx := 7) (by decide +kernel) fl_X11_7 (by assumption) (by rfl) ?_
          refine z_bipush (n := 170) (q := 10) (v := 10) (by decide +kernel) ?_
          refine z_ild8 (n := 172) (by decide +kernel) ?_
          refine z_iadd (n := 173) (by decide +kernel) ?_
          refine z_iald (n := 174) (by decide +kernel) (by assumption) (by first | assumption | exact ix_nI (by omega) (by omega) | exact ix_of (by simp only [n_0, n_1, n_2, n_3, n_4, n_5, n_6, n_7, n_8, n_10, n_50, n_90, n_130, n_370, n_570, nI_add, pk_mul]; rfl) (by omega) (by omega)) ?_
          refine z_ild1 (n := 175) (by decide +kernel) ?_
          refine z_ild2 (n := 176) (by decide +kernel) ?_
          refine z_s3 (n := 179) (idx := 89) (by decide +kernel) ml_X11_89 (Nat.le_of_ble_eq_true rfl) (by omega) ⟨Nat.le_refl _, Nat.le_refl _⟩ (m_moves 0) ?_
          refine z_ifb_eq (n := 182) (off := 22) (tgt := 201) (by decide +kernel) (fun c179 => ?_) (fun c179 => ?_)
          · refine z_ald0 (n := 202) (by decide +kernel) ?_
            refine z_getf (n := 205) (idx := 7) (by decide +kernel) fl_X11_7 (by assumption) (by rfl) ?_
            refine z_bipush (n := 207) (q := 10) (v := 10) (by decide +kernel) ?_
            refine z_ild8 (n := 209) (by decide +kernel) ?_
            refine z_iadd (n := 210) (by decide +kernel) ?_
            refine z_iald (n := 211) (by decide +kernel) (by assumption) (by first | assumption | exact ix_nI (by omega) (by omega) | exact ix_of (by simp only [n_0, n_1, n_2, n_3, n_4, n_5, n_6, n_7, n_8, n_10, n_50, n_90, n_130, n_370, n_570, nI_add, pk_mul]; rfl) (by omega) (by omega)) ?_
            refine z_icmp_ne (n := 214) (off := 7) (tgt := 218) (by decide +kernel) (fun c211 => ?_) (fun c211 => ?_)
            · refine z_iconst (n := 219) (q := 0) (v := 0) (by decide +kernel) ?_
              refine z_iadd (n := 220) (by decide +kernel) ?_
              refine z_ist6 (n := 222) (by decide +kernel) rfl ?_
              refine z_inc8 (n := 225) (q := 1) (by decide +kernel) rfl (nI_1 _) ?_
              refine z_goto (n := 228) (off := -74) (tgt := 151) (by decide +kernel) ?_
              first | exact ihn (by unfold dsA; rw [c179]; exact fun q9 => c211 q9.symm) | exact ihy (by unfold dsA; rw [c179]; exact c211.symm)
            · refine z_iconst (n := 215) (q := 1) (v := 1) (by decide +kernel) ?_
              refine z_goto (n := 218) (off := 4) (tgt := 219) (by decide +kernel) ?_
              refine z_iadd (n := 220) (by decide +kernel) ?_
              refine z_ist6 (n := 222) (by decide +kernel) rfl ?_
              refine z_inc8 (n := 225) (q := 1) (by decide +kernel) rfl (nI_1 _) ?_
              refine z_goto (n := 228) (off := -74) (tgt := 151) (by decide +kernel) ?_
              first | exact ihn (by unfold dsA; rw [c179]; exact fun q9 => c211 q9.symm) | exact ihy (by unfold dsA; rw [c179]; exact c211.symm)
          · refine z_iconst (n := 183) (q := 2) (v := 2) (by decide +kernel) ?_
            refine z_ild1 (n := 184) (by decide +kernel) ?_
            refine z_imul (n := 185) (by decide +kernel) ?_
            refine z_iconst (n := 186) (q := 1) (v := 1) (by decide +kernel) ?_
            refine z_isub (n := 187) (by decide +kernel) ?_
            refine z_ald0 (n := 188) (by decide +kernel) ?_
            refine z_getf (n := 191) (idx := 7) (by decide +kernel) fl_X11_7 (by assumption) (by rfl) ?_
            refine z_bipush (n := 193) (q := 10) (v := 10) (by decide +kernel) ?_
            refine z_ild8 (n := 195) (by decide +kernel) ?_
            refine z_iadd (n := 196) (by decide +kernel) ?_
            refine z_iald (n := 197) (by decide +kernel) (by assumption) (by first | assumption | exact ix_nI (by omega) (by omega) | exact ix_of (by simp only [n_0, n_1, n_2, n_3, n_4, n_5, n_6, n_7, n_8, n_10, n_50, n_90, n_130, n_370, n_570, nI_add, pk_mul]; rfl) (by omega) (by omega)) ?_
            refine z_isub (n := 198) (by decide +kernel) ?_
            refine z_goto (n := 201) (off := 13) (tgt := 211) (by decide +kernel) ?_
            refine z_icmp_ne (n := 214) (off := 7) (tgt := 218) (by decide +kernel) (fun c211 => ?_) (fun c211 => ?_)
            · refine z_iconst (n := 219) (q := 0) (v := 0) (by decide +kernel) ?_
              refine z_iadd (n := 220) (by decide +kernel) ?_
              refine z_ist6 (n := 222) (by decide +kernel) rfl ?_
              refine z_inc8 (n := 225) (q := 1) (by decide +kernel) rfl (nI_1 _) ?_
              refine z_goto (n := 228) (off := -74) (tgt := 151) (by decide +kernel) ?_
              first | exact ihn (by unfold dsA; rw [c179]; exact fun q9 => c211 q9.symm) | exact ihy (by unfold dsA; rw [c179]; exact c211.symm)
            · refine z_iconst (n := 215) (q := 1) (v := 1) (by decide +kernel) ?_
              refine z_goto (n := 218) (off := 4) (tgt := 219) (by decide +kernel) ?_
              refine z_iadd (n := 220) (by decide +kernel) ?_
              refine z_ist6 (n := 222) (by decide +kernel) rfl ?_
              refine z_inc8 (n := 225) (q := 1) (by decide +kernel) rfl (nI_1 _) ?_
              refine z_goto (n := 228) (off := -74) (tgt := 151) (by decide +kernel) ?_
              first | exact ihn (by unfold dsA; rw [c179]; exact fun q9 => c211 q9.symm) | exact ihy (by unfold dsA; rw [c179]; exact c211.symm)
      refine z_ild5 (n := 89) (by decide +kernel) ?_
      refine z_ald0 (n := 90) (by decide +kernel) ?_
      refine z_getf (n := 93) (idx := 71) (by decide +kernel) fl_X11_71 (by assumption) (by rfl) ?_
      refine z_icmp_ge_f (n := 96) (off := 156) (tgt := 249) (by decide +kernel) (nI_ge ul (by omega)) ?_
      refine z_iconst (n := 97) (q := 0) (v := 0) (by decide +kernel) ?_
      refine z_ist6 (n := 99) (by decide +kernel) rfl ?_
      refine z_ald0 (n := 100) (by decide +kernel) ?_
      refine z_getf (n := 103) (idx := 7) (by decide +kernel) fl_X11_7 (by assumption) (by rfl) ?_
      refine z_bipush (n := 105) (q := 10) (v := 10) (by decide +kernel) ?_
      refine z_ild5 (n := 107) (by decide +kernel) ?_
      refine z_iadd (n := 108) (by decide +kernel) ?_
      refine z_iald (n := 109) (by decide +kernel) (by assumption) (by first | assumption | exact ix_nI (by omega) (by omega) | exact ix_of (by simp only [n_0, n_1, n_2, n_3, n_4, n_5, n_6, n_7, n_8, n_10, n_50, n_90, n_130, n_370, n_570, nI_add, pk_mul]; rfl) (by omega) (by omega)) ?_
      refine z_ild1 (n := 110) (by decide +kernel) ?_
      refine z_ild2 (n := 111) (by decide +kernel) ?_
      refine z_s3 (n := 114) (idx := 89) (by decide +kernel) ml_X11_89 (Nat.le_of_ble_eq_true rfl) (by omega) ⟨Nat.le_refl _, Nat.le_refl _⟩ (m_moves 0) ?_
      refine z_ifb_eq (n := 117) (off := 22) (tgt := 136) (by decide +kernel) (fun c114 => ?_) (fun c114 => ?_)
      · refine z_ald0 (n := 137) (by decide +kernel) ?_
        refine z_getf (n := 140) (idx := 7) (by decide +kernel) fl_X11_7 (by assumption) (by rfl) ?_
        refine z_bipush (n := 142) (q := 10) (v := 10) (by decide +kernel) ?_
        refine z_ild5 (n := 144) (by decide +kernel) ?_
        refine z_iadd (n := 145) (by decide +kernel) ?_
        refine z_iald (n := 146) (by decide +kernel) (by assumption) (by first | assumption | exact ix_nI (by omega) (by omega) | exact ix_of (by simp only [n_0, n_1, n_2, n_3, n_4, n_5, n_6, n_7, n_8, n_10, n_50, n_90, n_130, n_370, n_570, nI_add, pk_mul]; rfl) (by omega) (by omega)) ?_
        refine z_ist7 (n := 148) (by decide +kernel) rfl ?_
        refine z_iconst (n := 149) (q := 0) (v := 0) (by decide +kernel) ?_
        refine z_ist8 (n := 151) (by decide +kernel) rfl ?_
        exact inner _ (by unfold dsA; rw [c114]; rfl) 0 (Nat.zero_le _)
      · refine z_iconst (n := 118) (q := 2) (v := 2) (by decide +kernel) ?_
        refine z_ild1 (n := 119) (by decide +kernel) ?_
        refine z_imul (n := 120) (by decide +kernel) ?_
        refine z_iconst (n := 121) (q := 1) (v := 1) (by decide +kernel) ?_
        refine z_isub (n := 122) (by decide +kernel) ?_
        refine z_ald0 (n := 123) (by decide +kernel) ?_
        refine z_getf (n := 126) (idx := 7) (by decide +kernel) fl_X11_7 (by assumption) (by rfl) ?_
        refine z_bipush (n := 128) (q := 10) (v := 10) (by decide +kernel) ?_
        refine z_ild5 (n := 130) (by decide +kernel) ?_
        refine z_iadd (n := 131) (by decide +kernel) ?_
        refine z_iald (n := 132) (by decide +kernel) (by assumption) (by first | assumption | exact ix_nI (by omega) (by omega) | exact ix_of (by simp only [n_0, n_1, n_2, n_3, n_4, n_5, n_6, n_7, n_8, n_10, n_50, n_90, n_130, n_370, n_570, nI_add, pk_mul]; rfl) (by omega) (by omega)) ?_
        refine z_isub (n := 133) (by decide +kernel) ?_
        refine z_goto (n := 136) (off := 13) (tgt := 146) (by decide +kernel) ?_
        refine z_ist7 (n := 148) (by decide +kernel) rfl ?_
        refine z_iconst (n := 149) (q := 0) (v := 0) (by decide +kernel) ?_
        refine z_ist8 (n := 151) (by decide +kernel) rfl ?_
        exact inner _ (by unfold dsA; rw [c114]; rfl) 0 (Nat.zero_le _)
  refine ev_3_6 rfl rfl rfl (by decide +kernel) (by decide +kernel) ?_
  refine z_iconst (n := 1) (q := 0) (v := 0) (by decide +kernel) ?_
  refine z_ist3 (n := 2) (by decide +kernel) rfl ?_
  refine z_iconst (n := 3) (q := 0) (v := 0) (by decide +kernel) ?_
  refine z_ist4 (n := 5) (by decide +kernel) rfl ?_
  refine z_iconst (n := 6) (q := 0) (v := 0) (by decide +kernel) ?_
  refine z_ist5 (n := 8) (by decide +kernel) rfl ?_
  refine loopZ (k := n + 1) (fun u => Z G m_X11_against d 0 0 0 0 8 [some (.ref Q), some (.int x), some (.int (bI right)), some (.int (bI (anB (fun u => !decide (x ≤ a (10 + u))) u))), some (.int (bI (anB (fun u => !decide (a (10 + u) < x)) u))), some (.int (nI u)), none, none, none] [] h (RE (some (.int (agF n x right a))) h)) ?_ ?_ 0 (Nat.zero_le _)
  · refine z_ild5 (n := 10) (by decide +kernel) ?_
    refine z_ald0 (n := 11) (by decide +kernel) ?_
    refine z_getf (n := 14) (idx := 71) (by decide +kernel) fl_X11_71 (by assumption) (by rfl) ?_
    refine z_icmp_ge_t (n := 17) (off := 59) (tgt := 73) (by decide +kernel) (nI_le (Nat.le_refl _) (by omega)) ?_
    refine z_ild3 (n := 74) (by decide +kernel) ?_
    refine z_ifb_eq (n := 77) (off := 8) (tgt := 82) (by decide +kernel) (fun c74 => ?_) (fun c74 => ?_)
    · refine z_iconst (n := 83) (q := -1) (v := -1) (by decide +kernel) ?_
      refine z_iret (by decide +kernel) rfl (Nat.le_refl _) ?_
      exact ⟨by unfold agF; rw [if_pos (by simp only [c74, Bool.and_false, Bool.false_and])], rfl⟩
    · refine z_ild4 (n := 79) (by decide +kernel) ?_
      refine z_ifb_ne (n := 82) (off := 5) (tgt := 84) (by decide +kernel) (fun c79 => ?_) (fun c79 => ?_)
      · refine z_iconst (n := 85) (q := 0) (v := 0) (by decide +kernel) ?_
        refine z_ist5 (n := 87) (by decide +kernel) rfl ?_
        exact z_wk (lv' := [some (.ref Q), some (.int x), some (.int (bI right)), none, none, some (.int (nI 0)), none, none, none]) (by simp [wk]; rfl) (L2 (by simp only [c74, c79, Bool.and_self]))
      · refine z_iconst (n := 83) (q := -1) (v := -1) (by decide +kernel) ?_
        refine z_iret (by decide +kernel) rfl (Nat.le_refl _) ?_
        exact ⟨by unfold agF; rw [if_pos (by simp only [c74, c79, Bool.and_false, Bool.false_and])], rfl⟩
  · intro u ul ih
    refine z_ild5 (n := 10) (by decide +kernel) ?_
    refine z_ald0 (n := 11) (by decide +kernel) ?_
    refine z_getf (n := 14) (idx := 71) (by decide +kernel) fl_X11_71 (by assumption) (by rfl) ?_
    refine z_icmp_ge_f (n := 17) (off := 59) (tgt := 73) (by decide +kernel) (nI_ge ul (by omega)) ?_
    refine z_ild3 (n := 18) (by decide +kernel) ?_
    refine z_ifb_ne (n := 21) (off := 17) (tgt := 35) (by decide +kernel) (fun c18 => ?_) (fun c18 => ?_)
    · refine z_iconst (n := 36) (q := 1) (v := 1) (by decide +kernel) ?_
      refine z_goto (n := 39) (off := 4) (tgt := 40) (by decide +kernel) ?_
      refine z_ist3 (n := 41) (by decide +kernel) rfl ?_
      refine z_ild4 (n := 43) (by decide +kernel) ?_
      refine z_ifb_ne (n := 46) (off := 17) (tgt := 60) (by decide +kernel) (fun c43 => ?_) (fun c43 => ?_)
      · refine z_iconst (n := 61) (q := 1) (v := 1) (by decide +kernel) ?_
        refine z_goto (n := 64) (off := 4) (tgt := 65) (by decide +kernel) ?_
        refine z_ist4 (n := 67) (by decide +kernel) rfl ?_
        refine z_inc5 (n := 70) (q := 1) (by decide +kernel) rfl (nI_1 _) ?_
        refine z_goto (n := 73) (off := -62) (tgt := 8) (by decide +kernel) ?_
        simpa only [anB, c18, c43, decide_true, decide_false, Bool.not_true, Bool.not_false, Bool.or_true, Bool.or_false, Bool.true_or, Bool.false_or, bI_t, bI_f] using ih
      · refine z_ald0 (n := 47) (by decide +kernel) ?_
        refine z_getf (n := 50) (idx := 7) (by decide +kernel) fl_X11_7 (by assumption) (by rfl) ?_
        refine z_bipush (n := 52) (q := 10) (v := 10) (by decide +kernel) ?_
        refine z_ild5 (n := 54) (by decide +kernel) ?_
        refine z_iadd (n := 55) (by decide +kernel) ?_
        refine z_iald (n := 56) (by decide +kernel) (by assumption) (by first | assumption | exact ix_nI (by omega) (by omega) | exact ix_of (by simp only [n_0, n_1, n_2, n_3, n_4, n_5, n_6, n_7, n_8, n_10, n_50, n_90, n_130, n_370, n_570, nI_add, pk_mul]; rfl) (by omega) (by omega)) ?_
        refine z_ild1 (n := 57) (by decide +kernel) ?_
        refine z_icmp_lt (n := 60) (off := 7) (tgt := 64) (by decide +kernel) (fun c57 => ?_) (fun c57 => ?_)
        · refine z_iconst (n := 65) (q := 0) (v := 0) (by decide +kernel) ?_
          refine z_ist4 (n := 67) (by decide +kernel) rfl ?_
          refine z_inc5 (n := 70) (q := 1) (by decide +kernel) rfl (nI_1 _) ?_
          refine z_goto (n := 73) (off := -62) (tgt := 8) (by decide +kernel) ?_
          simpa only [anB, c18, c43, eq_true c57, decide_true, decide_false, Bool.not_true, Bool.not_false, Bool.or_true, Bool.or_false, Bool.true_or, Bool.false_or, bI_t, bI_f] using ih
        · refine z_iconst (n := 61) (q := 1) (v := 1) (by decide +kernel) ?_
          refine z_goto (n := 64) (off := 4) (tgt := 65) (by decide +kernel) ?_
          refine z_ist4 (n := 67) (by decide +kernel) rfl ?_
          refine z_inc5 (n := 70) (q := 1) (by decide +kernel) rfl (nI_1 _) ?_
          refine z_goto (n := 73) (off := -62) (tgt := 8) (by decide +kernel) ?_
          simpa only [anB, c18, c43, eq_false c57, decide_true, decide_false, Bool.not_true, Bool.not_false, Bool.or_true, Bool.or_false, Bool.true_or, Bool.false_or, bI_t, bI_f] using ih
    · refine z_ald0 (n := 22) (by decide +kernel) ?_
      refine z_getf (n := 25) (idx := 7) (by decide +kernel) fl_X11_7 (by assumption) (by rfl) ?_
      refine z_bipush (n := 27) (q := 10) (v := 10) (by decide +kernel) ?_
      refine z_ild5 (n := 29) (by decide +kernel) ?_
      refine z_iadd (n := 30) (by decide +kernel) ?_
      refine z_iald (n := 31) (by decide +kernel) (by assumption) (by first | assumption | exact ix_nI (by omega) (by omega) | exact ix_of (by simp only [n_0, n_1, n_2, n_3, n_4, n_5, n_6, n_7, n_8, n_10, n_50, n_90, n_130, n_370, n_570, nI_add, pk_mul]; rfl) (by omega) (by omega)) ?_
      refine z_ild1 (n := 32) (by decide +kernel) ?_
      refine z_icmp_ge (n := 35) (off := 7) (tgt := 39) (by decide +kernel) (fun c32 => ?_) (fun c32 => ?_)
      · refine z_iconst (n := 40) (q := 0) (v := 0) (by decide +kernel) ?_
        refine z_ist3 (n := 41) (by decide +kernel) rfl ?_
        refine z_ild4 (n := 43) (by decide +kernel) ?_
        refine z_ifb_ne (n := 46) (off := 17) (tgt := 60) (by decide +kernel) (fun c43 => ?_) (fun c43 => ?_)
        · refine z_iconst (n := 61) (q := 1) (v := 1) (by decide +kernel) ?_
          refine z_goto (n := 64) (off := 4) (tgt := 65) (by decide +kernel) ?_
          refine z_ist4 (n := 67) (by decide +kernel) rfl ?_
          refine z_inc5 (n := 70) (q := 1) (by decide +kernel) rfl (nI_1 _) ?_
          refine z_goto (n := 73) (off := -62) (tgt := 8) (by decide +kernel) ?_
          simpa only [anB, c18, eq_true c32, c43, decide_true, decide_false, Bool.not_true, Bool.not_false, Bool.or_true, Bool.or_false, Bool.true_or, Bool.false_or, bI_t, bI_f] using ih
        · refine z_ald0 (n := 47) (by decide +kernel) ?_
          refine z_getf (n := 50) (idx := 7) (by decide +kernel) fl_X11_7 (by assumption) (by rfl) ?_
          refine z_bipush (n := 52) (q := 10) (v := 10) (by decide +kernel) ?_
          refine z_ild5 (n := 54) (by decide +kernel) ?_
          refine z_iadd (n := 55) (by decide +kernel) ?_
          refine z_iald (n := 56) (by decide +kernel) (by assumption) (by first | assumption | exact ix_nI (by omega) (by omega) | exact ix_of (by simp only [n_0, n_1, n_2, n_3, n_4, n_5, n_6, n_7, n_8, n_10, n_50, n_90, n_130, n_370, n_570, nI_add, pk_mul]; rfl) (by omega) (by omega)) ?_
          refine z_ild1 (n := 57) (by decide +kernel) ?_
          refine z_icmp_lt (n := 60) (off := 7) (tgt := 64) (by decide +kernel) (fun c57 => ?_) (fun c57 => ?_)
          · refine z_iconst (n := 65) (q := 0) (v := 0) (by decide +kernel) ?_
            refine z_ist4 (n := 67) (by decide +kernel) rfl ?_
            refine z_inc5 (n := 70) (q := 1) (by decide +kernel) rfl (nI_1 _) ?_
            refine z_goto (n := 73) (off := -62) (tgt := 8) (by decide +kernel) ?_
            simpa only [anB, c18, eq_true c32, c43, eq_true c57, decide_true, decide_false, Bool.not_true, Bool.not_false, Bool.or_true, Bool.or_false, Bool.true_or, Bool.false_or, bI_t, bI_f] using ih
          · refine z_iconst (n := 61) (q := 1) (v := 1) (by decide +kernel) ?_
            refine z_goto (n := 64) (off := 4) (tgt := 65) (by decide +kernel) ?_
            refine z_ist4 (n := 67) (by decide +kernel) rfl ?_
            refine z_inc5 (n := 70) (q := 1) (by decide +kernel) rfl (nI_1 _) ?_
            refine z_goto (n := 73) (off := -62) (tgt := 8) (by decide +kernel) ?_
            simpa only [anB, c18, eq_true c32, c43, eq_false c57, decide_true, decide_false, Bool.not_true, Bool.not_false, Bool.or_true, Bool.or_false, Bool.true_or, Bool.false_or, bI_t, bI_f] using ih
      · refine z_iconst (n := 36) (q := 1) (v := 1) (by decide +kernel) ?_
        refine z_goto (n := 39) (off := 4) (tgt := 40) (by decide +kernel) ?_
        refine z_ist3 (n := 41) (by decide +kernel) rfl ?_
        refine z_ild4 (n := 43) (by decide +kernel) ?_
        refine z_ifb_ne (n := 46) (off := 17) (tgt := 60) (by decide +kernel) (fun c43 => ?_) (fun c43 => ?_)
        · refine z_iconst (n := 61) (q := 1) (v := 1) (by decide +kernel) ?_
          refine z_goto (n := 64) (off := 4) (tgt := 65) (by decide +kernel) ?_
          refine z_ist4 (n := 67) (by decide +kernel) rfl ?_
          refine z_inc5 (n := 70) (q := 1) (by decide +kernel) rfl (nI_1 _) ?_
          refine z_goto (n := 73) (off := -62) (tgt := 8) (by decide +kernel) ?_
          simpa only [anB, c18, eq_false c32, c43, decide_true, decide_false, Bool.not_true, Bool.not_false, Bool.or_true, Bool.or_false, Bool.true_or, Bool.false_or, bI_t, bI_f] using ih
        · refine z_ald0 (n := 47) (by decide +kernel) ?_
          refine z_getf (n := 50) (idx := 7) (by decide +kernel) fl_X11_7 (by assumption) (by rfl) ?_
          refine z_bipush (n := 52) (q := 10) (v := 10) (by decide +kernel) ?_
          refine z_ild5 (n := 54) (by decide +kernel) ?_
          refine z_iadd (n := 55) (by decide +kernel) ?_
          refine z_iald (n := 56) (by decide +kernel) (by assumption) (by first | assumption | exact ix_nI (by omega) (by omega) | exact ix_of (by simp only [n_0, n_1, n_2, n_3, n_4, n_5, n_6, n_7, n_8, n_10, n_50, n_90, n_130, n_370, n_570, nI_add, pk_mul]; rfl) (by omega) (by omega)) ?_
          refine z_ild1 (n := 57) (by decide +kernel) ?_
          refine z_icmp_lt (n := 60) (off := 7) (tgt := 64) (by decide +kernel) (fun c57 => ?_) (fun c57 => ?_)
          · refine z_iconst (n := 65) (q := 0) (v := 0) (by decide +kernel) ?_
            refine z_ist4 (n := 67) (by decide +kernel) rfl ?_
            refine z_inc5 (n := 70) (q := 1) (by decide +kernel) rfl (nI_1 _) ?_
            refine z_goto (n := 73) (off := -62) (tgt := 8) (by decide +kernel) ?_
            simpa only [anB, c18, eq_false c32, c43, eq_true c57, decide_true, decide_false, Bool.not_true, Bool.not_false, Bool.or_true, Bool.or_false, Bool.true_or, Bool.false_or, bI_t, bI_f] using ih
          · refine z_iconst (n := 61) (q := 1) (v := 1) (by decide +kernel) ?_
            refine z_goto (n := 64) (off := 4) (tgt := 65) (by decide +kernel) ?_
            refine z_ist4 (n := 67) (by decide +kernel) rfl ?_
            refine z_inc5 (n := 70) (q := 1) (by decide +kernel) rfl (nI_1 _) ?_
            refine z_goto (n := 73) (off := -62) (tgt := 8) (by decide +kernel) ?_
            simpa only [anB, c18, eq_false c32, c43, eq_false c57, decide_true, decide_false, Bool.not_true, Bool.not_false, Bool.or_true, Bool.or_false, Bool.true_or, Bool.false_or, bI_t, bI_f] using ih
theorem m_staying {G : mG} {h : mH} {Q n : Nat} {m : Nat → Int32} {wd : Int64} {a : Nat → Int32} {x z : Int32} {right : Bool} (d : Nat) (hd : 1 ≤ d) (hQ : h Q = oMod Q (nI (n + 1)) m wd) (hA : h (Q + 1) = aI 600 a) (hn : n + 1 ≤ 40) : EV G m_X11_staying d 0 0 [.ref Q, .int z, .int x, .int (bI right)] h (RE (some (.int (if mvs z x right = true then 0 else nI (cnt (fun u => a (10 + u)) z (n + 1))))) h) := by
  refine ev_4_0 rfl rfl rfl rfl (by decide +kernel) (by decide +kernel) ?_
  refine z_ild1 (n := 1) (by decide +kernel) ?_
  refine z_ild2 (n := 2) (by decide +kernel) ?_
  refine z_ild3 (n := 3) (by decide +kernel) ?_
  refine z_s3 (n := 6) (idx := 89) (by decide +kernel) ml_X11_89 (Nat.le_of_ble_eq_true rfl) (by omega) ⟨Nat.le_refl _, Nat.le_refl _⟩ (m_moves 0) ?_
  refine z_ifb_eq (n := 9) (off := 7) (tgt := 13) (by decide +kernel) (fun c6 => ?_) (fun c6 => ?_)
  · refine z_ald0 (n := 14) (by decide +kernel) ?_
    refine z_ild1 (n := 15) (by decide +kernel) ?_
    refine z_v1 (n := 18) (idx := 102) (by decide +kernel) ml_X11_102 (by assumption) rfl (Nat.le_of_ble_eq_true rfl) (by omega) ⟨Nat.le_refl _, Nat.le_refl _⟩ (m_layers (n := n) 0 hQ hA hn) ?_
    refine z_iret (by decide +kernel) rfl (Nat.le_refl _) ?_
    exact ⟨by simp only [c6, if_true]; try rfl, rfl⟩
  · refine z_iconst (n := 10) (q := 0) (v := 0) (by decide +kernel) ?_
    refine z_goto (n := 13) (off := 8) (tgt := 18) (by decide +kernel) ?_
    refine z_iret (by decide +kernel) rfl (Nat.le_refl _) ?_
    exact ⟨by simp only [c6, if_true]; try rfl, rfl⟩
theorem m_rules {G : mG} {h : mH} {Q n : Nat} {m : Nat → Int32} {wd : Int64} {a : Nat → Int32} {x1 x2 x3 x4 : Int32} (d : Nat) (hd : 1 ≤ d) (hQ : h Q = oMod Q (nI (n + 1)) m wd) (hA : h (Q + 1) = aI 600 a) (hn : n + 1 ≤ 40) : EV G m_X11_rules d 0 0 [.ref Q, .int x1, .int x2, .int x3, .int x4] h (RE (some (.int (bI (rulB x1 x2 x3 x4)))) (if rulB x1 x2 x3 x4 = true then hu h (Q + 1) (aI 600 (upd (upd (upd (upd a 5 x1) 6 x2) 7 x3) 8 x4)) else h)) := by
  refine ev_5_0 rfl rfl rfl rfl rfl (by decide +kernel) (by decide +kernel) ?_
  refine z_ild1 (n := 1) (by decide +kernel) ?_
  refine z_iconst (n := 2) (q := 0) (v := 0) (by decide +kernel) ?_
  refine z_sipush (n := 5) (q := 1000) (v := 1000) (by decide +kernel) ?_
  refine z_s3 (n := 8) (idx := 81) (by decide +kernel) ml_X11_81 (Nat.le_of_ble_eq_true rfl) (by omega) ⟨Nat.le_refl _, Nat.le_refl _⟩ (m_isIn 0) ?_
  refine z_ifb_eq (n := 11) (off := 36) (tgt := 44) (by decide +kernel) (fun c8 => ?_) (fun c8 => ?_)
  · refine z_iconst (n := 45) (q := 0) (v := 0) (by decide +kernel) ?_
    first | refine z_zr1 (by decide +kernel) rfl (Nat.le_refl _) ?_ | refine z_zr0 (by decide +kernel) rfl (Nat.le_refl _) ?_ | refine z_zrb (by decide +kernel) rfl (Nat.le_refl _) ?_
    first | exact ⟨by unfold rulB; simp only [c8, decide_true, decide_false, Bool.and_true, Bool.and_false, Bool.true_and, Bool.false_and, Bool.or_true, Bool.or_false, Bool.true_or, Bool.false_or, Bool.not_true, Bool.not_false, if_true, if_false], by rw [if_neg (by unfold rulB; simp only [c8, Bool.and_false, Bool.false_and]; decide)]⟩ | exact ⟨by unfold rulB; simp only [c8, decide_true, decide_false, Bool.and_true, Bool.and_false, Bool.true_and, Bool.false_and, Bool.or_true, Bool.or_false, Bool.true_or, Bool.false_or, Bool.not_true, Bool.not_false, if_true, if_false], by rw [if_pos (by unfold rulB; simp only [c8, Bool.and_self])]; simp only [hu_hu]⟩
  · refine z_ild2 (n := 12) (by decide +kernel) ?_
    refine z_iconst (n := 13) (q := 0) (v := 0) (by decide +kernel) ?_
    refine z_sipush (n := 16) (q := 1000) (v := 1000) (by decide +kernel) ?_
    refine z_s3 (n := 19) (idx := 81) (by decide +kernel) ml_X11_81 (Nat.le_of_ble_eq_true rfl) (by omega) ⟨Nat.le_refl _, Nat.le_refl _⟩ (m_isIn 0) ?_
    refine z_ifb_eq (n := 22) (off := 25) (tgt := 44) (by decide +kernel) (fun c19 => ?_) (fun c19 => ?_)
    · refine z_iconst (n := 45) (q := 0) (v := 0) (by decide +kernel) ?_
      first | refine z_zr1 (by decide +kernel) rfl (Nat.le_refl _) ?_ | refine z_zr0 (by decide +kernel) rfl (Nat.le_refl _) ?_ | refine z_zrb (by decide +kernel) rfl (Nat.le_refl _) ?_
      first | exact ⟨by unfold rulB; simp only [c8, c19, decide_true, decide_false, Bool.and_true, Bool.and_false, Bool.true_and, Bool.false_and, Bool.or_true, Bool.or_false, Bool.true_or, Bool.false_or, Bool.not_true, Bool.not_false, if_true, if_false], by rw [if_neg (by unfold rulB; simp only [c8, c19, Bool.and_false, Bool.false_and]; decide)]⟩ | exact ⟨by unfold rulB; simp only [c8, c19, decide_true, decide_false, Bool.and_true, Bool.and_false, Bool.true_and, Bool.false_and, Bool.or_true, Bool.or_false, Bool.true_or, Bool.false_or, Bool.not_true, Bool.not_false, if_true, if_false], by rw [if_pos (by unfold rulB; simp only [c8, c19, Bool.and_self])]; simp only [hu_hu]⟩
    · refine z_ild3 (n := 23) (by decide +kernel) ?_
      refine z_iconst (n := 24) (q := 1) (v := 1) (by decide +kernel) ?_
      refine z_sipush (n := 27) (q := 1000) (v := 1000) (by decide +kernel) ?_
      refine z_s3 (n := 30) (idx := 81) (by decide +kernel) ml_X11_81 (Nat.le_of_ble_eq_true rfl) (by omega) ⟨Nat.le_refl _, Nat.le_refl _⟩ (m_isIn 0) ?_
      refine z_ifb_eq (n := 33) (off := 14) (tgt := 44) (by decide +kernel) (fun c30 => ?_) (fun c30 => ?_)
      · refine z_iconst (n := 45) (q := 0) (v := 0) (by decide +kernel) ?_
        first | refine z_zr1 (by decide +kernel) rfl (Nat.le_refl _) ?_ | refine z_zr0 (by decide +kernel) rfl (Nat.le_refl _) ?_ | refine z_zrb (by decide +kernel) rfl (Nat.le_refl _) ?_
        first | exact ⟨by unfold rulB; simp only [c8, c19, c30, decide_true, decide_false, Bool.and_true, Bool.and_false, Bool.true_and, Bool.false_and, Bool.or_true, Bool.or_false, Bool.true_or, Bool.false_or, Bool.not_true, Bool.not_false, if_true, if_false], by rw [if_neg (by unfold rulB; simp only [c8, c19, c30, Bool.and_false, Bool.false_and]; decide)]⟩ | exact ⟨by unfold rulB; simp only [c8, c19, c30, decide_true, decide_false, Bool.and_true, Bool.and_false, Bool.true_and, Bool.false_and, Bool.or_true, Bool.or_false, Bool.true_or, Bool.false_or, Bool.not_true, Bool.not_false, if_true, if_false], by rw [if_pos (by unfold rulB; simp only [c8, c19, c30, Bool.and_self])]; simp only [hu_hu]⟩
      · refine z_ild4 (n := 35) (by decide +kernel) ?_
        refine z_iconst (n := 36) (q := 1) (v := 1) (by decide +kernel) ?_
        refine z_bipush (n := 38) (q := 40) (v := 40) (by decide +kernel) ?_
        refine z_s3 (n := 41) (idx := 81) (by decide +kernel) ml_X11_81 (Nat.le_of_ble_eq_true rfl) (by omega) ⟨Nat.le_refl _, Nat.le_refl _⟩ (m_isIn 0) ?_
        refine z_ifb_ne (n := 44) (off := 5) (tgt := 46) (by decide +kernel) (fun c41 => ?_) (fun c41 => ?_)
        · refine z_ald0 (n := 47) (by decide +kernel) ?_
          refine z_getf (n := 50) (idx := 7) (by decide +kernel) fl_X11_7 (by first | assumption | (simp (disch := omega) only [hu_s, hu_n]; first | assumption | rfl)) (by rfl) ?_
          refine z_iconst (n := 51) (q := 5) (v := 5) (by decide +kernel) ?_
          refine z_ild1 (n := 52) (by decide +kernel) ?_
          refine z_iast (n := 53) (by decide +kernel) (by first | assumption | (simp (disch := omega) only [hu_s, hu_n]; first | assumption | rfl)) (by first | assumption | exact ix_nI (by omega) (by omega) | exact ix_of (by simp only [n_0, n_1, n_2, n_3, n_4, n_5, n_6, n_7, n_8, n_10, n_50, n_90, n_130, n_370, n_570, nI_add, pk_mul]; rfl) (by omega) (by omega)) ?_
          refine z_ald0 (n := 54) (by decide +kernel) ?_
          refine z_getf (n := 57) (idx := 7) (by decide +kernel) fl_X11_7 (by first | assumption | (simp (disch := omega) only [hu_s, hu_n]; first | assumption | rfl)) (by rfl) ?_
          refine z_bipush (n := 59) (q := 6) (v := 6) (by decide +kernel) ?_
          refine z_ild2 (n := 60) (by decide +kernel) ?_
          refine z_iast (n := 61) (by decide +kernel) (by first | assumption | (simp (disch := omega) only [hu_s, hu_n]; first | assumption | rfl)) (by first | assumption | exact ix_nI (by omega) (by omega) | exact ix_of (by simp only [n_0, n_1, n_2, n_3, n_4, n_5, n_6, n_7, n_8, n_10, n_50, n_90, n_130, n_370, n_570, nI_add, pk_mul]; rfl) (by omega) (by omega)) ?_
          refine z_ald0 (n := 62) (by decide +kernel) ?_
          refine z_getf (n := 65) (idx := 7) (by decide +kernel) fl_X11_7 (by first | assumption | (simp (disch := omega) only [hu_s, hu_n]; first | assumption | rfl)) (by rfl) ?_
          refine z_bipush (n := 67) (q := 7) (v := 7) (by decide +kernel) ?_
          refine z_ild3 (n := 68) (by decide +kernel) ?_
          refine z_iast (n := 69) (by decide +kernel) (by first | assumption | (simp (disch := omega) only [hu_s, hu_n]; first | assumption | rfl)) (by first | assumption | exact ix_nI (by omega) (by omega) | exact ix_of (by simp only [n_0, n_1, n_2, n_3, n_4, n_5, n_6, n_7, n_8, n_10, n_50, n_90, n_130, n_370, n_570, nI_add, pk_mul]; rfl) (by omega) (by omega)) ?_
          refine z_ald0 (n := 70) (by decide +kernel) ?_
          refine z_getf (n := 73) (idx := 7) (by decide +kernel) fl_X11_7 (by first | assumption | (simp (disch := omega) only [hu_s, hu_n]; first | assumption | rfl)) (by rfl) ?_
          refine z_bipush (n := 75) (q := 8) (v := 8) (by decide +kernel) ?_
          refine z_ild4 (n := 77) (by decide +kernel) ?_
          refine z_iast (n := 78) (by decide +kernel) (by first | assumption | (simp (disch := omega) only [hu_s, hu_n]; first | assumption | rfl)) (by first | assumption | exact ix_nI (by omega) (by omega) | exact ix_of (by simp only [n_0, n_1, n_2, n_3, n_4, n_5, n_6, n_7, n_8, n_10, n_50, n_90, n_130, n_370, n_570, nI_add, pk_mul]; rfl) (by omega) (by omega)) ?_
          refine z_iconst (n := 79) (q := 1) (v := 1) (by decide +kernel) ?_
          first | refine z_zr1 (by decide +kernel) rfl (Nat.le_refl _) ?_ | refine z_zr0 (by decide +kernel) rfl (Nat.le_refl _) ?_ | refine z_zrb (by decide +kernel) rfl (Nat.le_refl _) ?_
          first | exact ⟨by unfold rulB; simp only [c8, c19, c30, c41, decide_true, decide_false, Bool.and_true, Bool.and_false, Bool.true_and, Bool.false_and, Bool.or_true, Bool.or_false, Bool.true_or, Bool.false_or, Bool.not_true, Bool.not_false, if_true, if_false], by rw [if_neg (by unfold rulB; simp only [c8, c19, c30, c41, Bool.and_false, Bool.false_and]; decide)]⟩ | exact ⟨by unfold rulB; simp only [c8, c19, c30, c41, decide_true, decide_false, Bool.and_true, Bool.and_false, Bool.true_and, Bool.false_and, Bool.or_true, Bool.or_false, Bool.true_or, Bool.false_or, Bool.not_true, Bool.not_false, if_true, if_false], by rw [if_pos (by unfold rulB; simp only [c8, c19, c30, c41, Bool.and_self])]; simp only [hu_hu]⟩
        · refine z_iconst (n := 45) (q := 0) (v := 0) (by decide +kernel) ?_
          first | refine z_zr1 (by decide +kernel) rfl (Nat.le_refl _) ?_ | refine z_zr0 (by decide +kernel) rfl (Nat.le_refl _) ?_ | refine z_zrb (by decide +kernel) rfl (Nat.le_refl _) ?_
          first | exact ⟨by unfold rulB; simp only [c8, c19, c30, c41, decide_true, decide_false, Bool.and_true, Bool.and_false, Bool.true_and, Bool.false_and, Bool.or_true, Bool.or_false, Bool.true_or, Bool.false_or, Bool.not_true, Bool.not_false, if_true, if_false], by rw [if_neg (by unfold rulB; simp only [c8, c19, c30, c41, Bool.and_false, Bool.false_and]; decide)]⟩ | exact ⟨by unfold rulB; simp only [c8, c19, c30, c41, decide_true, decide_false, Bool.and_true, Bool.and_false, Bool.true_and, Bool.false_and, Bool.or_true, Bool.or_false, Bool.true_or, Bool.false_or, Bool.not_true, Bool.not_false, if_true, if_false], by rw [if_pos (by unfold rulB; simp only [c8, c19, c30, c41, Bool.and_self])]; simp only [hu_hu]⟩
theorem m_hold {G : mG} {h : mH} {Q n : Nat} {m : Nat → Int32} {wd : Int64} {a : Nat → Int32} {x : Int32} (d : Nat) (hd : 2 ≤ d) (hQ : h Q = oMod Q (nI (n + 1)) m wd) (hA : h (Q + 1) = aI 600 a) (hn : n + 1 ≤ 40) : EV G m_X11_hold d 0 0 [.ref Q, .int x] h (RE (some (.int (if (win x 1 1000 && decide (a 0 + x ≤ 100000)) = true then paA n x.toNatClampNeg a 0 else -1))) (if (win x 1 1000 && decide (a 0 + x ≤ 100000)) = true then hu h (Q + 1) (aI 600 (paA n x.toNatClampNeg a)) else h)) := by
  have fin : win x 1 1000 = true → a 0 + x ≤ 100000 → Z G m_X11_hold d 0 0 0 0 26 [some (.ref Q), some (.int x)] [] h (RE (some (.int (if (win x 1 1000 && decide (a 0 + x ≤ 100000)) = true then paA n x.toNatClampNeg a 0 else -1))) (if (win x 1 1000 && decide (a 0 + x ≤ 100000)) = true then hu h (Q + 1) (aI 600 (paA n x.toNatClampNeg a)) else h)) := by
    intro c1 c2
    have c3 : (win x 1 1000 && decide (a 0 + x ≤ 100000)) = true := by simp only [c1, eq_true c2, decide_true, Bool.and_self]
    rw [if_pos c3, if_pos c3]
    obtain ⟨u, hu9, rfl⟩ := win1_nat (m := 1000) (by omega) c1
    rw [nI_clamp (by omega)]
    refine z_ald0 (n := 27) (by decide +kernel) ?_
    refine z_ild1 (n := 28) (by decide +kernel) ?_
    refine z_v1v (n := 31) (idx := 110) (by decide +kernel) ml_X11_110 (by first | assumption | (simp (disch := omega) only [hu_s, hu_n]; first | assumption | rfl)) rfl (Nat.le_of_ble_eq_true rfl) (by omega) ⟨Nat.le_refl _, Nat.le_refl _⟩ (m_pass (n := n) 1 (by omega) (by omega) hQ hA hn) ?_
    refine z_ald0 (n := 32) (by decide +kernel) ?_
    refine z_getf (n := 35) (idx := 7) (by decide +kernel) fl_X11_7 (by first | assumption | (simp (disch := omega) only [hu_s, hu_n]; first | assumption | rfl)) (by rfl) ?_
    refine z_iconst (n := 36) (q := 0) (v := 0) (by decide +kernel) ?_
    refine z_iald (n := 37) (by decide +kernel) (by first | assumption | (simp (disch := omega) only [hu_s, hu_n]; first | assumption | rfl)) (by first | assumption | exact ix_nI (by omega) (by omega) | exact ix_of (by simp only [n_0, n_1, n_2, n_3, n_4, n_5, n_6, n_7, n_8, n_10, n_50, n_90, n_130, n_370, n_570, nI_add, pk_mul]; rfl) (by omega) (by omega)) ?_
    refine z_iret (by decide +kernel) rfl (Nat.le_refl _) ?_
    exact ⟨rfl, rfl⟩
  refine ev_2_0 rfl rfl (by decide +kernel) (by decide +kernel) ?_
  refine z_ild1 (n := 1) (by decide +kernel) ?_
  refine z_iconst (n := 2) (q := 1) (v := 1) (by decide +kernel) ?_
  refine z_sipush (n := 5) (q := 1000) (v := 1000) (by decide +kernel) ?_
  refine z_s3 (n := 8) (idx := 81) (by decide +kernel) ml_X11_81 (Nat.le_of_ble_eq_true rfl) (by omega) ⟨Nat.le_refl _, Nat.le_refl _⟩ (m_isIn 0) ?_
  refine z_ifb_eq (n := 11) (off := 16) (tgt := 24) (by decide +kernel) (fun c8 => ?_) (fun c8 => ?_)
  · refine z_iconst (n := 25) (q := -1) (v := -1) (by decide +kernel) ?_
    refine z_iret (by decide +kernel) rfl (Nat.le_refl _) ?_
    exact ⟨by rw [if_neg (by simp only [c8, decide_false, Bool.and_false, Bool.false_and]; decide)], by rw [if_neg (by simp only [c8, decide_false, Bool.and_false, Bool.false_and]; decide)]⟩
  · refine z_ald0 (n := 12) (by decide +kernel) ?_
    refine z_getf (n := 15) (idx := 7) (by decide +kernel) fl_X11_7 (by first | assumption | (simp (disch := omega) only [hu_s, hu_n]; first | assumption | rfl)) (by rfl) ?_
    refine z_iconst (n := 16) (q := 0) (v := 0) (by decide +kernel) ?_
    refine z_iald (n := 17) (by decide +kernel) (by first | assumption | (simp (disch := omega) only [hu_s, hu_n]; first | assumption | rfl)) (by first | assumption | exact ix_nI (by omega) (by omega) | exact ix_of (by simp only [n_0, n_1, n_2, n_3, n_4, n_5, n_6, n_7, n_8, n_10, n_50, n_90, n_130, n_370, n_570, nI_add, pk_mul]; rfl) (by omega) (by omega)) ?_
    refine z_ild1 (n := 18) (by decide +kernel) ?_
    refine z_iadd (n := 19) (by decide +kernel) ?_
    refine z_ldc (n := 21) (q := 97) (by decide +kernel) lc_X11_97 ?_
    refine z_icmp_le (n := 24) (off := 5) (tgt := 26) (by decide +kernel) (fun c21 => ?_) (fun c21 => ?_)
    · exact fin c8 c21
    · refine z_iconst (n := 25) (q := -1) (v := -1) (by decide +kernel) ?_
      refine z_iret (by decide +kernel) rfl (Nat.le_refl _) ?_
      exact ⟨by rw [if_neg (by simp only [c8, eq_false c21, decide_false, Bool.and_false, Bool.false_and]; decide)], by rw [if_neg (by simp only [c8, eq_false c21, decide_false, Bool.and_false, Bool.false_and]; decide)]⟩
theorem m_open {G : mG} {h : mH} {Q n : Nat} {m : Nat → Int32} {wd : Int64} {a : Nat → Int32} (d : Nat) (hd : 2 ≤ d) (hQ : h Q = oMod Q (nI (n + 1)) m wd) (hA : h (Q + 1) = aI 600 a) (hn : n + 1 ≤ 40) : EV G m_X11_open d 0 0 [.ref Q] h (RE (some (.int (if a 0 = 100000 then -1 else paA n 1 (flA a (n + 1)) 0))) (if a 0 = 100000 then h else hu h (Q + 1) (aI 600 (paA n 1 (flA a (n + 1)))))) := by
  refine ev_1_0 rfl (by decide +kernel) (by decide +kernel) ?_
  refine z_ald0 (n := 1) (by decide +kernel) ?_
  refine z_getf (n := 4) (idx := 7) (by decide +kernel) fl_X11_7 (by first | assumption | (simp (disch := omega) only [hu_s, hu_n]; first | assumption | rfl)) (by rfl) ?_
  refine z_iconst (n := 5) (q := 0) (v := 0) (by decide +kernel) ?_
  refine z_iald (n := 6) (by decide +kernel) (by first | assumption | (simp (disch := omega) only [hu_s, hu_n]; first | assumption | rfl)) (by first | assumption | exact ix_nI (by omega) (by omega) | exact ix_of (by simp only [n_0, n_1, n_2, n_3, n_4, n_5, n_6, n_7, n_8, n_10, n_50, n_90, n_130, n_370, n_570, nI_add, pk_mul]; rfl) (by omega) (by omega)) ?_
  refine z_ldc (n := 8) (q := 97) (by decide +kernel) lc_X11_97 ?_
  refine z_icmp_ne (n := 11) (off := 5) (tgt := 13) (by decide +kernel) (fun c8 => ?_) (fun c8 => ?_)
  · refine z_ald0 (n := 14) (by decide +kernel) ?_
    refine z_v0v (n := 17) (idx := 74) (by decide +kernel) ml_X11_74 (by first | assumption | (simp (disch := omega) only [hu_s, hu_n]; first | assumption | rfl)) rfl (Nat.le_of_ble_eq_true rfl) (by omega) ⟨Nat.le_refl _, Nat.le_refl _⟩ (m_flatten (n := n) 0 hQ hA hn) ?_
    refine z_ald0 (n := 18) (by decide +kernel) ?_
    refine z_iconst (n := 19) (q := 1) (v := 1) (by decide +kernel) ?_
    refine z_v1v (n := 22) (idx := 110) (by decide +kernel) ml_X11_110 (by first | assumption | (simp (disch := omega) only [hu_s, hu_n]; first | assumption | rfl)) rfl (Nat.le_of_ble_eq_true rfl) (by omega) ⟨Nat.le_refl _, Nat.le_refl _⟩ (m_pass (n := n) (t := 1) 1 (by omega) (by omega) (by simp (disch := omega) only [hTn, hCr, hFl, hu_s, hu_n]; first | done | assumption | rfl) (by simp (disch := omega) only [hTn, hCr, hFl, hu_s, hu_n]; first | done | assumption | rfl) hn) ?_
    refine z_ald0 (n := 23) (by decide +kernel) ?_
    refine z_getf (n := 26) (idx := 7) (by decide +kernel) fl_X11_7 (by first | assumption | (simp (disch := omega) only [hu_s, hu_n]; first | assumption | rfl)) (by rfl) ?_
    refine z_iconst (n := 27) (q := 0) (v := 0) (by decide +kernel) ?_
    refine z_iald (n := 28) (by decide +kernel) (by first | assumption | (simp (disch := omega) only [hu_s, hu_n]; first | assumption | rfl)) (by first | assumption | exact ix_nI (by omega) (by omega) | exact ix_of (by simp only [n_0, n_1, n_2, n_3, n_4, n_5, n_6, n_7, n_8, n_10, n_50, n_90, n_130, n_370, n_570, nI_add, pk_mul]; rfl) (by omega) (by omega)) ?_
    refine z_iret (by decide +kernel) rfl (Nat.le_refl _) ?_
    exact ⟨by simp only [eq_false c8, if_true, if_false], by simp only [eq_false c8, if_true, if_false, hu_hu]⟩
  · refine z_iconst (n := 12) (q := -1) (v := -1) (by decide +kernel) ?_
    refine z_iret (by decide +kernel) rfl (Nat.le_refl _) ?_
    exact ⟨by simp only [eq_true c8, if_true, if_false], by simp only [eq_true c8, if_true, if_false, hu_hu]⟩
theorem m_cell {G : mG} {h : mH} {Q n : Nat} {m : Nat → Int32} {wd : Int64} {a : Nat → Int32} {x w : Int32} (d : Nat) (hd : 1 ≤ d) (hQ : h Q = oMod Q (nI (n + 1)) m wd) (hA : h (Q + 1) = aI 600 a) (hn : n + 1 ≤ 40) : EV G m_X11_cell d 0 0 [.ref Q, .int x, .int w] h (RE (some (.int (if win x 0 (nI n) = true then (if w = 0 then a (10 + x.toNatClampNeg) else if w = 1 then a (50 + x.toNatClampNeg) else if w = 2 then a (90 + x.toNatClampNeg) else -1000) else -1000))) h) := by
  have fin : win x 0 (nI n) = true → Z G m_X11_cell d 0 0 0 0 18 [some (.ref Q), some (.int x), some (.int w)] [] h (RE (some (.int (if win x 0 (nI n) = true then (if w = 0 then a (10 + x.toNatClampNeg) else if w = 1 then a (50 + x.toNatClampNeg) else if w = 2 then a (90 + x.toNatClampNeg) else -1000) else -1000))) h) := by
    intro hw
    rw [if_pos hw]
    obtain ⟨u, hu9, rfl⟩ := win_nat (by omega) hw
    rw [nI_clamp (by omega)]
    refine z_ild2 (n := 19) (by decide +kernel) ?_
    refine z_if_ne (n := 22) (off := 15) (tgt := 34) (by decide +kernel) (fun c19 => ?_) (fun c19 => ?_)
    · refine z_ild2 (n := 35) (by decide +kernel) ?_
      refine z_iconst (n := 36) (q := 1) (v := 1) (by decide +kernel) ?_
      refine z_icmp_ne (n := 39) (off := 15) (tgt := 51) (by decide +kernel) (fun c36 => ?_) (fun c36 => ?_)
      · refine z_ild2 (n := 52) (by decide +kernel) ?_
        refine z_iconst (n := 53) (q := 2) (v := 2) (by decide +kernel) ?_
        refine z_icmp_ne (n := 56) (off := 15) (tgt := 68) (by decide +kernel) (fun c53 => ?_) (fun c53 => ?_)
        · refine z_sipush (n := 71) (q := -1000) (v := -1000) (by decide +kernel) ?_
          refine z_iret (by decide +kernel) rfl (Nat.le_refl _) ?_
          exact ⟨by simp only [eq_false c19, eq_false c36, eq_false c53, if_true, if_false], rfl⟩
        · refine z_ald0 (n := 57) (by decide +kernel) ?_
          refine z_getf (n := 60) (idx := 7) (by decide +kernel) fl_X11_7 (by assumption) (by rfl) ?_
          refine z_bipush (n := 62) (q := 90) (v := 90) (by decide +kernel) ?_
          refine z_ild1 (n := 63) (by decide +kernel) ?_
          refine z_iadd (n := 64) (by decide +kernel) ?_
          refine z_iald (n := 65) (by decide +kernel) (by assumption) (by first | assumption | exact ix_nI (by omega) (by omega) | exact ix_of (by simp only [n_0, n_1, n_2, n_3, n_4, n_5, n_6, n_7, n_8, n_10, n_50, n_90, n_130, n_370, n_570, nI_add, pk_mul]; rfl) (by omega) (by omega)) ?_
          refine z_goto (n := 68) (off := 6) (tgt := 71) (by decide +kernel) ?_
          refine z_iret (by decide +kernel) rfl (Nat.le_refl _) ?_
          exact ⟨by simp only [eq_false c19, eq_false c36, eq_true c53, if_true, if_false], rfl⟩
      · refine z_ald0 (n := 40) (by decide +kernel) ?_
        refine z_getf (n := 43) (idx := 7) (by decide +kernel) fl_X11_7 (by assumption) (by rfl) ?_
        refine z_bipush (n := 45) (q := 50) (v := 50) (by decide +kernel) ?_
        refine z_ild1 (n := 46) (by decide +kernel) ?_
        refine z_iadd (n := 47) (by decide +kernel) ?_
        refine z_iald (n := 48) (by decide +kernel) (by assumption) (by first | assumption | exact ix_nI (by omega) (by omega) | exact ix_of (by simp only [n_0, n_1, n_2, n_3, n_4, n_5, n_6, n_7, n_8, n_10, n_50, n_90, n_130, n_370, n_570, nI_add, pk_mul]; rfl) (by omega) (by omega)) ?_
        refine z_goto (n := 51) (off := 23) (tgt := 71) (by decide +kernel) ?_
        refine z_iret (by decide +kernel) rfl (Nat.le_refl _) ?_
        exact ⟨by simp only [eq_false c19, eq_true c36, if_true, if_false], rfl⟩
    · refine z_ald0 (n := 23) (by decide +kernel) ?_
      refine z_getf (n := 26) (idx := 7) (by decide +kernel) fl_X11_7 (by assumption) (by rfl) ?_
      refine z_bipush (n := 28) (q := 10) (v := 10) (by decide +kernel) ?_
      refine z_ild1 (n := 29) (by decide +kernel) ?_
      refine z_iadd (n := 30) (by decide +kernel) ?_
      refine z_iald (n := 31) (by decide +kernel) (by assumption) (by first | assumption | exact ix_nI (by omega) (by omega) | exact ix_of (by simp only [n_0, n_1, n_2, n_3, n_4, n_5, n_6, n_7, n_8, n_10, n_50, n_90, n_130, n_370, n_570, nI_add, pk_mul]; rfl) (by omega) (by omega)) ?_
      refine z_goto (n := 34) (off := 40) (tgt := 71) (by decide +kernel) ?_
      refine z_iret (by decide +kernel) rfl (Nat.le_refl _) ?_
      exact ⟨by simp only [eq_true c19, if_true, if_false], rfl⟩
  refine ev_3_0 rfl rfl rfl (by decide +kernel) (by decide +kernel) ?_
  refine z_ild1 (n := 1) (by decide +kernel) ?_
  refine z_iconst (n := 2) (q := 0) (v := 0) (by decide +kernel) ?_
  refine z_ald0 (n := 3) (by decide +kernel) ?_
  refine z_getf (n := 6) (idx := 71) (by decide +kernel) fl_X11_71 (by assumption) (by rfl) ?_
  refine z_iconst (n := 7) (q := 1) (v := 1) (by decide +kernel) ?_
  refine z_isub (n := 8) (by decide +kernel) ?_
  refine z_top (nI_pred n) ?_
  refine z_s3 (n := 11) (idx := 81) (by decide +kernel) ml_X11_81 (Nat.le_of_ble_eq_true rfl) (by omega) ⟨Nat.le_refl _, Nat.le_refl _⟩ (m_isIn 0) ?_
  refine z_ifb_ne (n := 14) (off := 7) (tgt := 18) (by decide +kernel) (fun c11 => ?_) (fun c11 => ?_)
  · exact fin c11
  · refine z_sipush (n := 17) (q := -1000) (v := -1000) (by decide +kernel) ?_
    refine z_iret (by decide +kernel) rfl (Nat.le_refl _) ?_
    exact ⟨by rw [if_neg (by rw [c11]; decide)], rfl⟩
