/-! THE LAW: its script, its calls -/
theorem ad_x {G : mG} : ad G 1048600 = gs G 1048600 := by unfold ad; rw [if_neg (by omega)]
def xOK (G : mG) (L : Nat) (xs : Nat → Int32) (U : State) : Prop := gs G 1048600 < gb G ∧ gb G ≤ U.heap.size ∧ va_X (gs G 1048600) L xs U U.heap
section ZX
variable {G : mG} {M : mD} {d mc ms cs sl pc n : Nat} {lv : List (Option Value)} {st : List Value} {h : mH} {Q : Option Value → mH → Prop}
theorem z_xlen {L : Nat} {xs : Nat → Int32} (hSC : ∀ U, gI G U → xOK G L xs U) (hd : dkb M pc .arraylength 1 n = true) (kk : Z G M d mc ms cs sl n lv (.int (nI L) :: st) h Q) : Z G M d mc ms cs sl pc lv (.ref 1048600 :: st) h Q := by
  obtain ⟨he, rfl⟩ := dk1 hd
  intro p e s m args below meth c K0 E H locs ls hk hk1 hP hS hl
  obtain ⟨o1, o2, o3⟩ := hSC s E.2.2.2.2.2.2.2.2.2.2.2.2
  show W p (gl G) e _ s m args below meth c H locs cs sl _ (F0 m pc ls (.ref (ad G 1048600) :: st.map (tv G)))
  rw [ad_x]
  exact va_slen E.1 E.2.1 o3 (by omega) (fun z => by have : gb G ≤ gs G 1048600 := z; omega) hS he (kk p e s m args below meth c K0 E H locs ls hk hk1 hP hS hl)
theorem z_xald {L k : Nat} {xs : Nat → Int32} (hSC : ∀ U, gI G U → xOK G L xs U) (hk9 : k < L) (hL9 : L < 2 ^ 31) (hd : dkb M pc .iaload 1 n = true) (kk : Z G M d mc ms cs sl n lv (.int (xs k) :: st) h Q) : Z G M d mc ms cs sl pc lv (.int (nI k) :: .ref 1048600 :: st) h Q := by
  obtain ⟨he, rfl⟩ := dk1 hd
  intro p e s m args below meth c K0 E H locs ls hk hk1 hP hS hl
  obtain ⟨o1, o2, o3⟩ := hSC s E.2.2.2.2.2.2.2.2.2.2.2.2
  show W p (gl G) e _ s m args below meth c H locs cs sl _ (F0 m pc ls (.int (nI k) :: .ref (ad G 1048600) :: st.map (tv G)))
  rw [ad_x]
  refine va_sld E.1 E.2.1 o3 (by omega) (fun z => by have : gb G ≤ gs G 1048600 := z; omega) hS (vp_in_nI hk9 hL9) he ?_
  rw [nI_clamp (by omega)]
  exact kk p e s m args below meth c K0 E H locs ls hk hk1 hP hS hl
end ZX
def m_L_law : mD := (x, code, 4, ret)
theorem l_cell {G : mG} {h : mH} {L : Nat} {xs : Nat → Int32} (d : Nat) (hSC : ∀ U, gI G U → xOK G L xs U) (hL : L ≤ 3073) : EV G m_L_cell d 0 0 [.ref 1048600, .int 0] h (RE (some (.int (if 0 < L then xs 0 else 0))) h) := by
  refine ev_2_0 rfl rfl (by decide +kernel) (by decide +kernel) ?_
  by_cases c : 0 < L
  · rw [if_pos c]
    refine z_ild1 (n := 1) (by decide +kernel) ?_
    refine z_ald0 (n := 2) (by decide +kernel) ?_
    refine z_xlen (n := 3) hSC (by decide +kernel) ?_
    refine z_icmp_ge_f (n := 6) (off := 9) (tgt := 12) (by decide +kernel) (nI_ge (a := 0) c (by omega)) ?_
    refine z_ald0 (n := 7) (by decide +kernel) ?_
    refine z_ild1 (n := 8) (by decide +kernel) ?_
    refine z_xald (n := 9) (k := 0) hSC (by omega) (by omega) (by decide +kernel) ?_
    refine z_goto (n := 12) (off := 4) (tgt := 13) (by decide +kernel) ?_
    refine z_iret (by decide +kernel) rfl (Nat.le_refl _) ?_
    exact ⟨rfl, rfl⟩
  · rw [if_neg c]
    refine z_ild1 (n := 1) (by decide +kernel) ?_
    refine z_ald0 (n := 2) (by decide +kernel) ?_
    refine z_xlen (n := 3) hSC (by decide +kernel) ?_
    refine z_icmp_ge_t (n := 6) (off := 9) (tgt := 12) (by decide +kernel) (nI_le (a := L) (b := 0) (by omega) (by omega)) ?_
    refine z_iconst (n := 13) (q := 0) (v := 0) (by decide +kernel) ?_
    refine z_iret (by decide +kernel) rfl (Nat.le_refl _) ?_
    exact ⟨rfl, rfl⟩

theorem lw_c0 {G : mG} {h : mH} {n L i : Nat} {xs : Nat → Int32} {QQ : Option Value → mH → Prop} (hSC : ∀ U, gI G U → xOK G L xs U) (hST : ∀ U, gI G U → sOK G U) (hL : L ≤ 3073) (hi : i + 6 ≤ L) (hn : n < 40) (H : RelX 0 102 n h) (K : ∀ h', RelX 0 102 n h' → Z G m_L_law 30 120 4990 120 4990 1027 [some (.ref 1048600), some (.ref 0), some (.ref 102), some (.int (nI i))] [] h' QQ) : Z G m_L_law 30 120 4990 120 4990 156 [some (.ref 1048600), some (.ref 0), some (.ref 102), some (.int (nI i))] [] h QQ := by
  obtain ⟨⟨fc, hc⟩, -⟩ := rl_ob H
  refine z_ald1 (n := 157) (by decide +kernel) ?_
  refine z_ald0 (n := 158) (by decide +kernel) ?_
  refine z_ild3 (n := 159) (by decide +kernel) ?_
  refine z_iconst (n := 160) (q := 1) (v := 1) (by decide +kernel) ?_
  refine z_iadd (n := 161) (by decide +kernel) ?_
  refine z_top (show nI i + 1 = nI (i + 1) from nI_add i 1) ?_
  refine z_xald (n := 162) (k := i + 1) hSC (by omega) (by omega) (by decide +kernel) ?_
  refine z_ald0 (n := 163) (by decide +kernel) ?_
  refine z_ild3 (n := 164) (by decide +kernel) ?_
  refine z_iconst (n := 165) (q := 2) (v := 2) (by decide +kernel) ?_
  refine z_iadd (n := 166) (by decide +kernel) ?_
  refine z_top (show nI i + 2 = nI (i + 2) from nI_add i 2) ?_
  refine z_xald (n := 167) (k := i + 2) hSC (by omega) (by omega) (by decide +kernel) ?_
  refine z_ald0 (n := 168) (by decide +kernel) ?_
  refine z_ild3 (n := 169) (by decide +kernel) ?_
  refine z_iconst (n := 170) (q := 3) (v := 3) (by decide +kernel) ?_
  refine z_iadd (n := 171) (by decide +kernel) ?_
  refine z_top (show nI i + 3 = nI (i + 3) from nI_add i 3) ?_
  refine z_xald (n := 172) (k := i + 3) hSC (by omega) (by omega) (by decide +kernel) ?_
  refine z_ald0 (n := 173) (by decide +kernel) ?_
  refine z_ild3 (n := 174) (by decide +kernel) ?_
  refine z_iconst (n := 175) (q := 4) (v := 4) (by decide +kernel) ?_
  refine z_iadd (n := 176) (by decide +kernel) ?_
  refine z_top (show nI i + 4 = nI (i + 4) from nI_add i 4) ?_
  refine z_xald (n := 177) (k := i + 4) hSC (by omega) (by omega) (by decide +kernel) ?_
  refine z_g4 (n := 180) (idx := 21) (by decide +kernel) ml_L_21 (by first | assumption | exact q177.1.choose_spec) rfl (Nat.le_of_ble_eq_true rfl) (by omega) ⟨Nat.le_refl _, Nat.le_refl _⟩ (x_rules 20 (by omega) hn (by omega) H) (fun x177 h177 q177 => ?_)
  refine z_ald2 (n := 181) (by decide +kernel) ?_
  refine z_ald0 (n := 182) (by decide +kernel) ?_
  refine z_ild3 (n := 183) (by decide +kernel) ?_
  refine z_iconst (n := 184) (q := 1) (v := 1) (by decide +kernel) ?_
  refine z_iadd (n := 185) (by decide +kernel) ?_
  refine z_top (show nI i + 1 = nI (i + 1) from nI_add i 1) ?_
  refine z_xald (n := 186) (k := i + 1) hSC (by omega) (by omega) (by decide +kernel) ?_
  refine z_ald0 (n := 187) (by decide +kernel) ?_
  refine z_ild3 (n := 188) (by decide +kernel) ?_
  refine z_iconst (n := 189) (q := 2) (v := 2) (by decide +kernel) ?_
  refine z_iadd (n := 190) (by decide +kernel) ?_
  refine z_top (show nI i + 2 = nI (i + 2) from nI_add i 2) ?_
  refine z_xald (n := 191) (k := i + 2) hSC (by omega) (by omega) (by decide +kernel) ?_
  refine z_ald0 (n := 192) (by decide +kernel) ?_
  refine z_ild3 (n := 193) (by decide +kernel) ?_
  refine z_iconst (n := 194) (q := 3) (v := 3) (by decide +kernel) ?_
  refine z_iadd (n := 195) (by decide +kernel) ?_
  refine z_top (show nI i + 3 = nI (i + 3) from nI_add i 3) ?_
  refine z_xald (n := 196) (k := i + 3) hSC (by omega) (by omega) (by decide +kernel) ?_
  refine z_ald0 (n := 197) (by decide +kernel) ?_
  refine z_ild3 (n := 198) (by decide +kernel) ?_
  refine z_iconst (n := 199) (q := 4) (v := 4) (by decide +kernel) ?_
  refine z_iadd (n := 200) (by decide +kernel) ?_
  refine z_top (show nI i + 4 = nI (i + 4) from nI_add i 4) ?_
  refine z_xald (n := 201) (k := i + 4) hSC (by omega) (by omega) (by decide +kernel) ?_
  refine z_w4 (n := 204) (idx := 25) (by decide +kernel) ml_L_25 (by first | assumption | exact q177.1.choose_spec) rfl (Nat.le_of_ble_eq_true rfl) (by omega) ⟨Nat.le_refl _, Nat.le_refl _⟩ (q177.2) (fun h201 q201 => ?_)
  refine z_icmp_eq_t (n := 207) (off := 823) (tgt := 1027) (by decide +kernel) (rfl) ?_
  exact K _ q201
theorem lw_c1 {G : mG} {h : mH} {n L i : Nat} {xs : Nat → Int32} {QQ : Option Value → mH → Prop} (hSC : ∀ U, gI G U → xOK G L xs U) (hST : ∀ U, gI G U → sOK G U) (hL : L ≤ 3073) (hi : i + 6 ≤ L) (hn : n < 40) (H : RelX 0 102 n h) (K : ∀ h', RelX 0 102 n h' → Z G m_L_law 30 120 4990 120 4990 1027 [some (.ref 1048600), some (.ref 0), some (.ref 102), some (.int (nI i))] [] h' QQ) : Z G m_L_law 30 120 4990 120 4990 209 [some (.ref 1048600), some (.ref 0), some (.ref 102), some (.int (nI i))] [] h QQ := by
  obtain ⟨⟨fc, hc⟩, -⟩ := rl_ob H
  by_cases c0 : xs (i + 2) = 0
  · refine z_ald1 (n := 210) (by decide +kernel) ?_
    refine z_ald0 (n := 211) (by decide +kernel) ?_
    refine z_ild3 (n := 212) (by decide +kernel) ?_
    refine z_iconst (n := 213) (q := 1) (v := 1) (by decide +kernel) ?_
    refine z_iadd (n := 214) (by decide +kernel) ?_
    refine z_top (show nI i + 1 = nI (i + 1) from nI_add i 1) ?_
    refine z_xald (n := 215) (k := i + 1) hSC (by omega) (by omega) (by decide +kernel) ?_
    refine z_ald0 (n := 216) (by decide +kernel) ?_
    refine z_ild3 (n := 217) (by decide +kernel) ?_
    refine z_iconst (n := 218) (q := 2) (v := 2) (by decide +kernel) ?_
    refine z_iadd (n := 219) (by decide +kernel) ?_
    refine z_top (show nI i + 2 = nI (i + 2) from nI_add i 2) ?_
    refine z_xald (n := 220) (k := i + 2) hSC (by omega) (by omega) (by decide +kernel) ?_
    refine z_if_eq_t (n := 223) (off := 7) (tgt := 227) (by decide +kernel) (c0) ?_
    refine z_iconst (n := 228) (q := 0) (v := 0) (by decide +kernel) ?_
    refine z_e2 (n := 231) (idx := 26) (by decide +kernel) ml_L_26 (by first | assumption | exact q228.1.choose_spec) rfl (Nat.le_of_ble_eq_true rfl) (by omega) ⟨Nat.le_refl _, Nat.le_refl _⟩ (x_fold (right := false) 20 (by omega) hn (by omega) H) (fun x228 h228 q228 => ?_)
    refine z_ald2 (n := 232) (by decide +kernel) ?_
    refine z_ald0 (n := 233) (by decide +kernel) ?_
    refine z_ild3 (n := 234) (by decide +kernel) ?_
    refine z_iconst (n := 235) (q := 1) (v := 1) (by decide +kernel) ?_
    refine z_iadd (n := 236) (by decide +kernel) ?_
    refine z_top (show nI i + 1 = nI (i + 1) from nI_add i 1) ?_
    refine z_xald (n := 237) (k := i + 1) hSC (by omega) (by omega) (by decide +kernel) ?_
    refine z_ald0 (n := 238) (by decide +kernel) ?_
    refine z_ild3 (n := 239) (by decide +kernel) ?_
    refine z_iconst (n := 240) (q := 2) (v := 2) (by decide +kernel) ?_
    refine z_iadd (n := 241) (by decide +kernel) ?_
    refine z_top (show nI i + 2 = nI (i + 2) from nI_add i 2) ?_
    refine z_xald (n := 242) (k := i + 2) hSC (by omega) (by omega) (by decide +kernel) ?_
    refine z_if_eq_t (n := 245) (off := 7) (tgt := 249) (by decide +kernel) (c0) ?_
    refine z_iconst (n := 250) (q := 0) (v := 0) (by decide +kernel) ?_
    refine z_w2 (n := 253) (idx := 30) (by decide +kernel) ml_L_30 (by first | assumption | exact q228.1.choose_spec) rfl (Nat.le_of_ble_eq_true rfl) (by omega) ⟨Nat.le_refl _, Nat.le_refl _⟩ (q228.2) (fun h250 q250 => ?_)
    refine z_icmp_eq_t (n := 256) (off := 774) (tgt := 1027) (by decide +kernel) (rfl) ?_
    exact K _ q250
  · refine z_ald1 (n := 210) (by decide +kernel) ?_
    refine z_ald0 (n := 211) (by decide +kernel) ?_
    refine z_ild3 (n := 212) (by decide +kernel) ?_
    refine z_iconst (n := 213) (q := 1) (v := 1) (by decide +kernel) ?_
    refine z_iadd (n := 214) (by decide +kernel) ?_
    refine z_top (show nI i + 1 = nI (i + 1) from nI_add i 1) ?_
    refine z_xald (n := 215) (k := i + 1) hSC (by omega) (by omega) (by decide +kernel) ?_
    refine z_ald0 (n := 216) (by decide +kernel) ?_
    refine z_ild3 (n := 217) (by decide +kernel) ?_
    refine z_iconst (n := 218) (q := 2) (v := 2) (by decide +kernel) ?_
    refine z_iadd (n := 219) (by decide +kernel) ?_
    refine z_top (show nI i + 2 = nI (i + 2) from nI_add i 2) ?_
    refine z_xald (n := 220) (k := i + 2) hSC (by omega) (by omega) (by decide +kernel) ?_
    refine z_if_eq_f (n := 223) (off := 7) (tgt := 227) (by decide +kernel) (c0) ?_
    refine z_iconst (n := 224) (q := 1) (v := 1) (by decide +kernel) ?_
    refine z_goto (n := 227) (off := 4) (tgt := 228) (by decide +kernel) ?_
    refine z_e2 (n := 231) (idx := 26) (by decide +kernel) ml_L_26 (by first | assumption | exact q228.1.choose_spec) rfl (Nat.le_of_ble_eq_true rfl) (by omega) ⟨Nat.le_refl _, Nat.le_refl _⟩ (x_fold (right := true) 20 (by omega) hn (by omega) H) (fun x228 h228 q228 => ?_)
    refine z_ald2 (n := 232) (by decide +kernel) ?_
    refine z_ald0 (n := 233) (by decide +kernel) ?_
    refine z_ild3 (n := 234) (by decide +kernel) ?_
    refine z_iconst (n := 235) (q := 1) (v := 1) (by decide +kernel) ?_
    refine z_iadd (n := 236) (by decide +kernel) ?_
    refine z_top (show nI i + 1 = nI (i + 1) from nI_add i 1) ?_
    refine z_xald (n := 237) (k := i + 1) hSC (by omega) (by omega) (by decide +kernel) ?_
    refine z_ald0 (n := 238) (by decide +kernel) ?_
    refine z_ild3 (n := 239) (by decide +kernel) ?_
    refine z_iconst (n := 240) (q := 2) (v := 2) (by decide +kernel) ?_
    refine z_iadd (n := 241) (by decide +kernel) ?_
    refine z_top (show nI i + 2 = nI (i + 2) from nI_add i 2) ?_
    refine z_xald (n := 242) (k := i + 2) hSC (by omega) (by omega) (by decide +kernel) ?_
    refine z_if_eq_f (n := 245) (off := 7) (tgt := 249) (by decide +kernel) (c0) ?_
    refine z_iconst (n := 246) (q := 1) (v := 1) (by decide +kernel) ?_
    refine z_goto (n := 249) (off := 4) (tgt := 250) (by decide +kernel) ?_
    refine z_w2 (n := 253) (idx := 30) (by decide +kernel) ml_L_30 (by first | assumption | exact q228.1.choose_spec) rfl (Nat.le_of_ble_eq_true rfl) (by omega) ⟨Nat.le_refl _, Nat.le_refl _⟩ (q228.2) (fun h250 q250 => ?_)
    refine z_icmp_eq_t (n := 256) (off := 774) (tgt := 1027) (by decide +kernel) (rfl) ?_
    exact K _ q250
theorem lw_c2 {G : mG} {h : mH} {n L i : Nat} {xs : Nat → Int32} {QQ : Option Value → mH → Prop} (hSC : ∀ U, gI G U → xOK G L xs U) (hST : ∀ U, gI G U → sOK G U) (hL : L ≤ 3073) (hi : i + 6 ≤ L) (hn : n < 40) (H : RelX 0 102 n h) (K : ∀ h', RelX 0 102 n h' → Z G m_L_law 30 120 4990 120 4990 1027 [some (.ref 1048600), some (.ref 0), some (.ref 102), some (.int (nI i))] [] h' QQ) : Z G m_L_law 30 120 4990 120 4990 258 [some (.ref 1048600), some (.ref 0), some (.ref 102), some (.int (nI i))] [] h QQ := by
  obtain ⟨⟨fc, hc⟩, -⟩ := rl_ob H
  refine z_ald1 (n := 259) (by decide +kernel) ?_
  refine z_ald0 (n := 260) (by decide +kernel) ?_
  refine z_ild3 (n := 261) (by decide +kernel) ?_
  refine z_iconst (n := 262) (q := 1) (v := 1) (by decide +kernel) ?_
  refine z_iadd (n := 263) (by decide +kernel) ?_
  refine z_top (show nI i + 1 = nI (i + 1) from nI_add i 1) ?_
  refine z_xald (n := 264) (k := i + 1) hSC (by omega) (by omega) (by decide +kernel) ?_
  refine z_e1 (n := 267) (idx := 31) (by decide +kernel) ml_L_31 (by first | assumption | exact q264.1.choose_spec) rfl (Nat.le_of_ble_eq_true rfl) (by omega) ⟨Nat.le_refl _, Nat.le_refl _⟩ (x_hold 20 (by omega) hn (by omega) H) (fun x264 h264 q264 => ?_)
  refine z_ald2 (n := 268) (by decide +kernel) ?_
  refine z_ald0 (n := 269) (by decide +kernel) ?_
  refine z_ild3 (n := 270) (by decide +kernel) ?_
  refine z_iconst (n := 271) (q := 1) (v := 1) (by decide +kernel) ?_
  refine z_iadd (n := 272) (by decide +kernel) ?_
  refine z_top (show nI i + 1 = nI (i + 1) from nI_add i 1) ?_
  refine z_xald (n := 273) (k := i + 1) hSC (by omega) (by omega) (by decide +kernel) ?_
  refine z_w1 (n := 276) (idx := 35) (by decide +kernel) ml_L_35 (by first | assumption | exact q264.1.choose_spec) rfl (Nat.le_of_ble_eq_true rfl) (by omega) ⟨Nat.le_refl _, Nat.le_refl _⟩ (q264.2) (fun h273 q273 => ?_)
  refine z_icmp_eq_t (n := 279) (off := 751) (tgt := 1027) (by decide +kernel) (rfl) ?_
  exact K _ q273
theorem lw_c3 {G : mG} {h : mH} {n L i : Nat} {xs : Nat → Int32} {QQ : Option Value → mH → Prop} (hSC : ∀ U, gI G U → xOK G L xs U) (hST : ∀ U, gI G U → sOK G U) (hL : L ≤ 3073) (hi : i + 6 ≤ L) (hn : n < 40) (H : RelX 0 102 n h) (K : ∀ h', RelX 0 102 n h' → Z G m_L_law 30 120 4990 120 4990 1027 [some (.ref 1048600), some (.ref 0), some (.ref 102), some (.int (nI i))] [] h' QQ) : Z G m_L_law 30 120 4990 120 4990 281 [some (.ref 1048600), some (.ref 0), some (.ref 102), some (.int (nI i))] [] h QQ := by
  obtain ⟨⟨fc, hc⟩, -⟩ := rl_ob H
  refine z_ald1 (n := 282) (by decide +kernel) ?_
  refine z_e0 (n := 285) (idx := 36) (by decide +kernel) ml_L_36 (by first | assumption | exact q282.1.choose_spec) rfl (Nat.le_of_ble_eq_true rfl) (by omega) ⟨Nat.le_refl _, Nat.le_refl _⟩ (x_open 20 (by omega) hn (by omega) H) (fun x282 h282 q282 => ?_)
  refine z_ald2 (n := 286) (by decide +kernel) ?_
  refine z_w0 (n := 289) (idx := 40) (by decide +kernel) ml_L_40 (by first | assumption | exact q282.1.choose_spec) rfl (Nat.le_of_ble_eq_true rfl) (by omega) ⟨Nat.le_refl _, Nat.le_refl _⟩ (q282.2) (fun h286 q286 => ?_)
  refine z_icmp_eq_t (n := 292) (off := 738) (tgt := 1027) (by decide +kernel) (rfl) ?_
  exact K _ q286
theorem lw_c4 {G : mG} {h : mH} {n L i : Nat} {xs : Nat → Int32} {QQ : Option Value → mH → Prop} (hSC : ∀ U, gI G U → xOK G L xs U) (hST : ∀ U, gI G U → sOK G U) (hL : L ≤ 3073) (hi : i + 6 ≤ L) (hn : n < 40) (H : RelX 0 102 n h) (K : ∀ h', RelX 0 102 n h' → Z G m_L_law 30 120 4990 120 4990 1027 [some (.ref 1048600), some (.ref 0), some (.ref 102), some (.int (nI i))] [] h' QQ) : Z G m_L_law 30 120 4990 120 4990 294 [some (.ref 1048600), some (.ref 0), some (.ref 102), some (.int (nI i))] [] h QQ := by
  obtain ⟨⟨fc, hc⟩, -⟩ := rl_ob H
  refine z_ald1 (n := 295) (by decide +kernel) ?_
  refine z_ald0 (n := 296) (by decide +kernel) ?_
  refine z_ild3 (n := 297) (by decide +kernel) ?_
  refine z_iconst (n := 298) (q := 1) (v := 1) (by decide +kernel) ?_
  refine z_iadd (n := 299) (by decide +kernel) ?_
  refine z_top (show nI i + 1 = nI (i + 1) from nI_add i 1) ?_
  refine z_xald (n := 300) (k := i + 1) hSC (by omega) (by omega) (by decide +kernel) ?_
  refine z_ald0 (n := 301) (by decide +kernel) ?_
  refine z_ild3 (n := 302) (by decide +kernel) ?_
  refine z_iconst (n := 303) (q := 2) (v := 2) (by decide +kernel) ?_
  refine z_iadd (n := 304) (by decide +kernel) ?_
  refine z_top (show nI i + 2 = nI (i + 2) from nI_add i 2) ?_
  refine z_xald (n := 305) (k := i + 2) hSC (by omega) (by omega) (by decide +kernel) ?_
  refine z_e2 (n := 308) (idx := 41) (by decide +kernel) ml_L_41 (by first | assumption | exact q305.1.choose_spec) rfl (Nat.le_of_ble_eq_true rfl) (by omega) ⟨Nat.le_refl _, Nat.le_refl _⟩ (x_cell 20 (by omega) hn (by omega) H) (fun x305 h305 q305 => ?_)
  refine z_ald2 (n := 309) (by decide +kernel) ?_
  refine z_ald0 (n := 310) (by decide +kernel) ?_
  refine z_ild3 (n := 311) (by decide +kernel) ?_
  refine z_iconst (n := 312) (q := 1) (v := 1) (by decide +kernel) ?_
  refine z_iadd (n := 313) (by decide +kernel) ?_
  refine z_top (show nI i + 1 = nI (i + 1) from nI_add i 1) ?_
  refine z_xald (n := 314) (k := i + 1) hSC (by omega) (by omega) (by decide +kernel) ?_
  refine z_ald0 (n := 315) (by decide +kernel) ?_
  refine z_ild3 (n := 316) (by decide +kernel) ?_
  refine z_iconst (n := 317) (q := 2) (v := 2) (by decide +kernel) ?_
  refine z_iadd (n := 318) (by decide +kernel) ?_
  refine z_top (show nI i + 2 = nI (i + 2) from nI_add i 2) ?_
  refine z_xald (n := 319) (k := i + 2) hSC (by omega) (by omega) (by decide +kernel) ?_
  refine z_w2 (n := 322) (idx := 44) (by decide +kernel) ml_L_44 (by first | assumption | exact q305.1.choose_spec) rfl (Nat.le_of_ble_eq_true rfl) (by omega) ⟨Nat.le_refl _, Nat.le_refl _⟩ (q305.2) (fun h319 q319 => ?_)
  refine z_icmp_eq_t (n := 325) (off := 705) (tgt := 1027) (by decide +kernel) (rfl) ?_
  exact K _ q319
theorem lw_c5 {G : mG} {h : mH} {n L i : Nat} {xs : Nat → Int32} {QQ : Option Value → mH → Prop} (hSC : ∀ U, gI G U → xOK G L xs U) (hST : ∀ U, gI G U → sOK G U) (hL : L ≤ 3073) (hi : i + 6 ≤ L) (hn : n < 40) (H : RelX 0 102 n h) (K : ∀ h', RelX 0 102 n h' → Z G m_L_law 30 120 4990 120 4990 1027 [some (.ref 1048600), some (.ref 0), some (.ref 102), some (.int (nI i))] [] h' QQ) : Z G m_L_law 30 120 4990 120 4990 327 [some (.ref 1048600), some (.ref 0), some (.ref 102), some (.int (nI i))] [] h QQ := by
  obtain ⟨⟨fc, hc⟩, -⟩ := rl_ob H
  refine z_ald1 (n := 328) (by decide +kernel) ?_
  refine z_ald0 (n := 329) (by decide +kernel) ?_
  refine z_ild3 (n := 330) (by decide +kernel) ?_
  refine z_iconst (n := 331) (q := 1) (v := 1) (by decide +kernel) ?_
  refine z_iadd (n := 332) (by decide +kernel) ?_
  refine z_top (show nI i + 1 = nI (i + 1) from nI_add i 1) ?_
  refine z_xald (n := 333) (k := i + 1) hSC (by omega) (by omega) (by decide +kernel) ?_
  refine z_e1 (n := 336) (idx := 45) (by decide +kernel) ml_L_45 (by first | assumption | exact q333.1.choose_spec) rfl (Nat.le_of_ble_eq_true rfl) (by omega) ⟨Nat.le_refl _, Nat.le_refl _⟩ (x_layers 20 (by omega) hn (by omega) H) (fun x333 h333 q333 => ?_)
  refine z_ald2 (n := 337) (by decide +kernel) ?_
  refine z_ald0 (n := 338) (by decide +kernel) ?_
  refine z_ild3 (n := 339) (by decide +kernel) ?_
  refine z_iconst (n := 340) (q := 1) (v := 1) (by decide +kernel) ?_
  refine z_iadd (n := 341) (by decide +kernel) ?_
  refine z_top (show nI i + 1 = nI (i + 1) from nI_add i 1) ?_
  refine z_xald (n := 342) (k := i + 1) hSC (by omega) (by omega) (by decide +kernel) ?_
  refine z_w1 (n := 345) (idx := 48) (by decide +kernel) ml_L_48 (by first | assumption | exact q333.1.choose_spec) rfl (Nat.le_of_ble_eq_true rfl) (by omega) ⟨Nat.le_refl _, Nat.le_refl _⟩ (q333.2) (fun h342 q342 => ?_)
  refine z_icmp_eq_t (n := 348) (off := 682) (tgt := 1027) (by decide +kernel) (rfl) ?_
  exact K _ q342
theorem lw_c6 {G : mG} {h : mH} {n L i : Nat} {xs : Nat → Int32} {QQ : Option Value → mH → Prop} (hSC : ∀ U, gI G U → xOK G L xs U) (hST : ∀ U, gI G U → sOK G U) (hL : L ≤ 3073) (hi : i + 6 ≤ L) (hn : n < 40) (H : RelX 0 102 n h) (K : ∀ h', RelX 0 102 n h' → Z G m_L_law 30 120 4990 120 4990 1027 [some (.ref 1048600), some (.ref 0), some (.ref 102), some (.int (nI i))] [] h' QQ) : Z G m_L_law 30 120 4990 120 4990 350 [some (.ref 1048600), some (.ref 0), some (.ref 102), some (.int (nI i))] [] h QQ := by
  obtain ⟨⟨fc, hc⟩, -⟩ := rl_ob H
  refine z_ald1 (n := 351) (by decide +kernel) ?_
  refine z_ald0 (n := 352) (by decide +kernel) ?_
  refine z_ild3 (n := 353) (by decide +kernel) ?_
  refine z_iconst (n := 354) (q := 1) (v := 1) (by decide +kernel) ?_
  refine z_iadd (n := 355) (by decide +kernel) ?_
  refine z_top (show nI i + 1 = nI (i + 1) from nI_add i 1) ?_
  refine z_xald (n := 356) (k := i + 1) hSC (by omega) (by omega) (by decide +kernel) ?_
  refine z_ald0 (n := 357) (by decide +kernel) ?_
  refine z_ild3 (n := 358) (by decide +kernel) ?_
  refine z_iconst (n := 359) (q := 2) (v := 2) (by decide +kernel) ?_
  refine z_iadd (n := 360) (by decide +kernel) ?_
  refine z_top (show nI i + 2 = nI (i + 2) from nI_add i 2) ?_
  refine z_xald (n := 361) (k := i + 2) hSC (by omega) (by omega) (by decide +kernel) ?_
  refine z_e2 (n := 364) (idx := 49) (by decide +kernel) ml_L_49 (by first | assumption | exact q361.1.choose_spec) rfl (Nat.le_of_ble_eq_true rfl) (by omega) ⟨Nat.le_refl _, Nat.le_refl _⟩ (x_at 20 (by omega) hn (by omega) H) (fun x361 h361 q361 => ?_)
  refine z_ald2 (n := 365) (by decide +kernel) ?_
  refine z_ald0 (n := 366) (by decide +kernel) ?_
  refine z_ild3 (n := 367) (by decide +kernel) ?_
  refine z_iconst (n := 368) (q := 1) (v := 1) (by decide +kernel) ?_
  refine z_iadd (n := 369) (by decide +kernel) ?_
  refine z_top (show nI i + 1 = nI (i + 1) from nI_add i 1) ?_
  refine z_xald (n := 370) (k := i + 1) hSC (by omega) (by omega) (by decide +kernel) ?_
  refine z_ald0 (n := 371) (by decide +kernel) ?_
  refine z_ild3 (n := 372) (by decide +kernel) ?_
  refine z_iconst (n := 373) (q := 2) (v := 2) (by decide +kernel) ?_
  refine z_iadd (n := 374) (by decide +kernel) ?_
  refine z_top (show nI i + 2 = nI (i + 2) from nI_add i 2) ?_
  refine z_xald (n := 375) (k := i + 2) hSC (by omega) (by omega) (by decide +kernel) ?_
  refine z_w2 (n := 378) (idx := 52) (by decide +kernel) ml_L_52 (by first | assumption | exact q361.1.choose_spec) rfl (Nat.le_of_ble_eq_true rfl) (by omega) ⟨Nat.le_refl _, Nat.le_refl _⟩ (q361.2) (fun h375 q375 => ?_)
  refine z_icmp_eq_t (n := 381) (off := 649) (tgt := 1027) (by decide +kernel) (rfl) ?_
  exact K _ q375
theorem lw_c7 {G : mG} {h : mH} {n L i : Nat} {xs : Nat → Int32} {QQ : Option Value → mH → Prop} (hSC : ∀ U, gI G U → xOK G L xs U) (hST : ∀ U, gI G U → sOK G U) (hL : L ≤ 3073) (hi : i + 6 ≤ L) (hn : n < 40) (H : RelX 0 102 n h) (K : ∀ h', RelX 0 102 n h' → Z G m_L_law 30 120 4990 120 4990 1027 [some (.ref 1048600), some (.ref 0), some (.ref 102), some (.int (nI i))] [] h' QQ) : Z G m_L_law 30 120 4990 120 4990 383 [some (.ref 1048600), some (.ref 0), some (.ref 102), some (.int (nI i))] [] h QQ := by
  obtain ⟨⟨fc, hc⟩, -⟩ := rl_ob H
  refine z_ald1 (n := 384) (by decide +kernel) ?_
  refine z_ald0 (n := 385) (by decide +kernel) ?_
  refine z_ild3 (n := 386) (by decide +kernel) ?_
  refine z_iconst (n := 387) (q := 1) (v := 1) (by decide +kernel) ?_
  refine z_iadd (n := 388) (by decide +kernel) ?_
  refine z_top (show nI i + 1 = nI (i + 1) from nI_add i 1) ?_
  refine z_xald (n := 389) (k := i + 1) hSC (by omega) (by omega) (by decide +kernel) ?_
  refine z_ald0 (n := 390) (by decide +kernel) ?_
  refine z_ild3 (n := 391) (by decide +kernel) ?_
  refine z_iconst (n := 392) (q := 2) (v := 2) (by decide +kernel) ?_
  refine z_iadd (n := 393) (by decide +kernel) ?_
  refine z_top (show nI i + 2 = nI (i + 2) from nI_add i 2) ?_
  refine z_xald (n := 394) (k := i + 2) hSC (by omega) (by omega) (by decide +kernel) ?_
  refine z_e2 (n := 397) (idx := 53) (by decide +kernel) ml_L_53 (by first | assumption | exact q394.1.choose_spec) rfl (Nat.le_of_ble_eq_true rfl) (by omega) ⟨Nat.le_refl _, Nat.le_refl _⟩ (x_crease 20 (by omega) hn (by omega) H) (fun x394 h394 q394 => ?_)
  refine z_ald2 (n := 398) (by decide +kernel) ?_
  refine z_ald0 (n := 399) (by decide +kernel) ?_
  refine z_ild3 (n := 400) (by decide +kernel) ?_
  refine z_iconst (n := 401) (q := 1) (v := 1) (by decide +kernel) ?_
  refine z_iadd (n := 402) (by decide +kernel) ?_
  refine z_top (show nI i + 1 = nI (i + 1) from nI_add i 1) ?_
  refine z_xald (n := 403) (k := i + 1) hSC (by omega) (by omega) (by decide +kernel) ?_
  refine z_ald0 (n := 404) (by decide +kernel) ?_
  refine z_ild3 (n := 405) (by decide +kernel) ?_
  refine z_iconst (n := 406) (q := 2) (v := 2) (by decide +kernel) ?_
  refine z_iadd (n := 407) (by decide +kernel) ?_
  refine z_top (show nI i + 2 = nI (i + 2) from nI_add i 2) ?_
  refine z_xald (n := 408) (k := i + 2) hSC (by omega) (by omega) (by decide +kernel) ?_
  refine z_w2 (n := 411) (idx := 56) (by decide +kernel) ml_L_56 (by first | assumption | exact q394.1.choose_spec) rfl (Nat.le_of_ble_eq_true rfl) (by omega) ⟨Nat.le_refl _, Nat.le_refl _⟩ (q394.2) (fun h408 q408 => ?_)
  refine z_icmp_eq_t (n := 414) (off := 616) (tgt := 1027) (by decide +kernel) (rfl) ?_
  exact K _ q408
theorem lw_c8 {G : mG} {h : mH} {n L i : Nat} {xs : Nat → Int32} {QQ : Option Value → mH → Prop} (hSC : ∀ U, gI G U → xOK G L xs U) (hST : ∀ U, gI G U → sOK G U) (hL : L ≤ 3073) (hi : i + 6 ≤ L) (hn : n < 40) (H : RelX 0 102 n h) (K : ∀ h', RelX 0 102 n h' → Z G m_L_law 30 120 4990 120 4990 1027 [some (.ref 1048600), some (.ref 0), some (.ref 102), some (.int (nI i))] [] h' QQ) : Z G m_L_law 30 120 4990 120 4990 416 [some (.ref 1048600), some (.ref 0), some (.ref 102), some (.int (nI i))] [] h QQ := by
  obtain ⟨⟨fc, hc⟩, -⟩ := rl_ob H
  refine z_ald1 (n := 417) (by decide +kernel) ?_
  refine z_ald0 (n := 418) (by decide +kernel) ?_
  refine z_ild3 (n := 419) (by decide +kernel) ?_
  refine z_iconst (n := 420) (q := 1) (v := 1) (by decide +kernel) ?_
  refine z_iadd (n := 421) (by decide +kernel) ?_
  refine z_top (show nI i + 1 = nI (i + 1) from nI_add i 1) ?_
  refine z_xald (n := 422) (k := i + 1) hSC (by omega) (by omega) (by decide +kernel) ?_
  refine z_ald0 (n := 423) (by decide +kernel) ?_
  refine z_ild3 (n := 424) (by decide +kernel) ?_
  refine z_iconst (n := 425) (q := 2) (v := 2) (by decide +kernel) ?_
  refine z_iadd (n := 426) (by decide +kernel) ?_
  refine z_top (show nI i + 2 = nI (i + 2) from nI_add i 2) ?_
  refine z_xald (n := 427) (k := i + 2) hSC (by omega) (by omega) (by decide +kernel) ?_
  refine z_ald0 (n := 428) (by decide +kernel) ?_
  refine z_ild3 (n := 429) (by decide +kernel) ?_
  refine z_iconst (n := 430) (q := 3) (v := 3) (by decide +kernel) ?_
  refine z_iadd (n := 431) (by decide +kernel) ?_
  refine z_top (show nI i + 3 = nI (i + 3) from nI_add i 3) ?_
  refine z_xald (n := 432) (k := i + 3) hSC (by omega) (by omega) (by decide +kernel) ?_
  refine z_ald0 (n := 433) (by decide +kernel) ?_
  refine z_ild3 (n := 434) (by decide +kernel) ?_
  refine z_iconst (n := 435) (q := 4) (v := 4) (by decide +kernel) ?_
  refine z_iadd (n := 436) (by decide +kernel) ?_
  refine z_top (show nI i + 4 = nI (i + 4) from nI_add i 4) ?_
  refine z_xald (n := 437) (k := i + 4) hSC (by omega) (by omega) (by decide +kernel) ?_
  refine z_ald0 (n := 438) (by decide +kernel) ?_
  refine z_ild3 (n := 439) (by decide +kernel) ?_
  refine z_iconst (n := 440) (q := 5) (v := 5) (by decide +kernel) ?_
  refine z_iadd (n := 441) (by decide +kernel) ?_
  refine z_top (show nI i + 5 = nI (i + 5) from nI_add i 5) ?_
  refine z_xald (n := 442) (k := i + 5) hSC (by omega) (by omega) (by decide +kernel) ?_
  refine z_e5 (n := 445) (idx := 57) (by decide +kernel) ml_L_57 (by first | assumption | exact q442.1.choose_spec) rfl (Nat.le_of_ble_eq_true rfl) (by omega) ⟨Nat.le_refl _, Nat.le_refl _⟩ (x_feed 20 (by omega) hn (by omega) H) (fun x442 h442 q442 => ?_)
  refine z_ald2 (n := 446) (by decide +kernel) ?_
  refine z_ald0 (n := 447) (by decide +kernel) ?_
  refine z_ild3 (n := 448) (by decide +kernel) ?_
  refine z_iconst (n := 449) (q := 1) (v := 1) (by decide +kernel) ?_
  refine z_iadd (n := 450) (by decide +kernel) ?_
  refine z_top (show nI i + 1 = nI (i + 1) from nI_add i 1) ?_
  refine z_xald (n := 451) (k := i + 1) hSC (by omega) (by omega) (by decide +kernel) ?_
  refine z_ald0 (n := 452) (by decide +kernel) ?_
  refine z_ild3 (n := 453) (by decide +kernel) ?_
  refine z_iconst (n := 454) (q := 2) (v := 2) (by decide +kernel) ?_
  refine z_iadd (n := 455) (by decide +kernel) ?_
  refine z_top (show nI i + 2 = nI (i + 2) from nI_add i 2) ?_
  refine z_xald (n := 456) (k := i + 2) hSC (by omega) (by omega) (by decide +kernel) ?_
  refine z_ald0 (n := 457) (by decide +kernel) ?_
  refine z_ild3 (n := 458) (by decide +kernel) ?_
  refine z_iconst (n := 459) (q := 3) (v := 3) (by decide +kernel) ?_
  refine z_iadd (n := 460) (by decide +kernel) ?_
  refine z_top (show nI i + 3 = nI (i + 3) from nI_add i 3) ?_
  refine z_xald (n := 461) (k := i + 3) hSC (by omega) (by omega) (by decide +kernel) ?_
  refine z_ald0 (n := 462) (by decide +kernel) ?_
  refine z_ild3 (n := 463) (by decide +kernel) ?_
  refine z_iconst (n := 464) (q := 4) (v := 4) (by decide +kernel) ?_
  refine z_iadd (n := 465) (by decide +kernel) ?_
  refine z_top (show nI i + 4 = nI (i + 4) from nI_add i 4) ?_
  refine z_xald (n := 466) (k := i + 4) hSC (by omega) (by omega) (by decide +kernel) ?_
  refine z_ald0 (n := 467) (by decide +kernel) ?_
  refine z_ild3 (n := 468) (by decide +kernel) ?_
  refine z_iconst (n := 469) (q := 5) (v := 5) (by decide +kernel) ?_
  refine z_iadd (n := 470) (by decide +kernel) ?_
  refine z_top (show nI i + 5 = nI (i + 5) from nI_add i 5) ?_
  refine z_xald (n := 471) (k := i + 5) hSC (by omega) (by omega) (by decide +kernel) ?_
  refine z_w5 (n := 474) (idx := 61) (by decide +kernel) ml_L_61 (by first | assumption | exact q442.1.choose_spec) rfl (Nat.le_of_ble_eq_true rfl) (by omega) ⟨Nat.le_refl _, Nat.le_refl _⟩ (q442.2) (fun h471 q471 => ?_)
  refine z_icmp_eq_t (n := 477) (off := 553) (tgt := 1027) (by decide +kernel) (rfl) ?_
  exact K _ q471
theorem lw_c9 {G : mG} {h : mH} {n L i : Nat} {xs : Nat → Int32} {QQ : Option Value → mH → Prop} (hSC : ∀ U, gI G U → xOK G L xs U) (hST : ∀ U, gI G U → sOK G U) (hL : L ≤ 3073) (hi : i + 6 ≤ L) (hn : n < 40) (H : RelX 0 102 n h) (K : ∀ h', RelX 0 102 n h' → Z G m_L_law 30 120 4990 120 4990 1027 [some (.ref 1048600), some (.ref 0), some (.ref 102), some (.int (nI i))] [] h' QQ) : Z G m_L_law 30 120 4990 120 4990 479 [some (.ref 1048600), some (.ref 0), some (.ref 102), some (.int (nI i))] [] h QQ := by
  obtain ⟨⟨fc, hc⟩, -⟩ := rl_ob H
  refine z_ald1 (n := 480) (by decide +kernel) ?_
  refine z_ald0 (n := 481) (by decide +kernel) ?_
  refine z_ild3 (n := 482) (by decide +kernel) ?_
  refine z_iconst (n := 483) (q := 1) (v := 1) (by decide +kernel) ?_
  refine z_iadd (n := 484) (by decide +kernel) ?_
  refine z_top (show nI i + 1 = nI (i + 1) from nI_add i 1) ?_
  refine z_xald (n := 485) (k := i + 1) hSC (by omega) (by omega) (by decide +kernel) ?_
  refine z_e1 (n := 488) (idx := 62) (by decide +kernel) ml_L_62 (by first | assumption | exact q485.1.choose_spec) rfl (Nat.le_of_ble_eq_true rfl) (by omega) ⟨Nat.le_refl _, Nat.le_refl _⟩ (x_end 20 (by omega) hn (by omega) H) (fun x485 h485 q485 => ?_)
  refine z_ald2 (n := 489) (by decide +kernel) ?_
  refine z_ald0 (n := 490) (by decide +kernel) ?_
  refine z_ild3 (n := 491) (by decide +kernel) ?_
  refine z_iconst (n := 492) (q := 1) (v := 1) (by decide +kernel) ?_
  refine z_iadd (n := 493) (by decide +kernel) ?_
  refine z_top (show nI i + 1 = nI (i + 1) from nI_add i 1) ?_
  refine z_xald (n := 494) (k := i + 1) hSC (by omega) (by omega) (by decide +kernel) ?_
  refine z_w1 (n := 497) (idx := 65) (by decide +kernel) ml_L_65 (by first | assumption | exact q485.1.choose_spec) rfl (Nat.le_of_ble_eq_true rfl) (by omega) ⟨Nat.le_refl _, Nat.le_refl _⟩ (q485.2) (fun h494 q494 => ?_)
  refine z_icmp_eq_t (n := 500) (off := 530) (tgt := 1027) (by decide +kernel) (rfl) ?_
  exact K _ q494
theorem lw_c10 {G : mG} {h : mH} {n L i : Nat} {xs : Nat → Int32} {QQ : Option Value → mH → Prop} (hSC : ∀ U, gI G U → xOK G L xs U) (hST : ∀ U, gI G U → sOK G U) (hL : L ≤ 3073) (hi : i + 6 ≤ L) (hn : n < 40) (H : RelX 0 102 n h) (K : ∀ h', RelX 0 102 n h' → Z G m_L_law 30 120 4990 120 4990 1027 [some (.ref 1048600), some (.ref 0), some (.ref 102), some (.int (nI i))] [] h' QQ) : Z G m_L_law 30 120 4990 120 4990 502 [some (.ref 1048600), some (.ref 0), some (.ref 102), some (.int (nI i))] [] h QQ := by
  obtain ⟨⟨fc, hc⟩, -⟩ := rl_ob H
  refine z_ald1 (n := 503) (by decide +kernel) ?_
  refine z_e0 (n := 506) (idx := 66) (by decide +kernel) ml_L_66 (by first | assumption | exact q503.1.choose_spec) rfl (Nat.le_of_ble_eq_true rfl) (by omega) ⟨Nat.le_refl _, Nat.le_refl _⟩ (x_hands hST 20 (by omega) hn (by omega) H) (fun x503 h503 q503 => ?_)
  refine z_ald2 (n := 507) (by decide +kernel) ?_
  refine z_w0 (n := 510) (idx := 69) (by decide +kernel) ml_L_69 (by first | assumption | exact q503.1.choose_spec) rfl (Nat.le_of_ble_eq_true rfl) (by omega) ⟨Nat.le_refl _, Nat.le_refl _⟩ (q503.2) (fun h507 q507 => ?_)
  refine z_icmp_eq_t (n := 513) (off := 517) (tgt := 1027) (by decide +kernel) (rfl) ?_
  exact K _ q507
theorem lw_c11 {G : mG} {h : mH} {n L i : Nat} {xs : Nat → Int32} {QQ : Option Value → mH → Prop} (hSC : ∀ U, gI G U → xOK G L xs U) (hST : ∀ U, gI G U → sOK G U) (hL : L ≤ 3073) (hi : i + 6 ≤ L) (hn : n < 40) (H : RelX 0 102 n h) (K : ∀ h', RelX 0 102 n h' → Z G m_L_law 30 120 4990 120 4990 1027 [some (.ref 1048600), some (.ref 0), some (.ref 102), some (.int (nI i))] [] h' QQ) : Z G m_L_law 30 120 4990 120 4990 515 [some (.ref 1048600), some (.ref 0), some (.ref 102), some (.int (nI i))] [] h QQ := by
  obtain ⟨⟨fc, hc⟩, -⟩ := rl_ob H
  refine z_ald1 (n := 516) (by decide +kernel) ?_
  refine z_ald0 (n := 517) (by decide +kernel) ?_
  refine z_ild3 (n := 518) (by decide +kernel) ?_
  refine z_iconst (n := 519) (q := 1) (v := 1) (by decide +kernel) ?_
  refine z_iadd (n := 520) (by decide +kernel) ?_
  refine z_top (show nI i + 1 = nI (i + 1) from nI_add i 1) ?_
  refine z_xald (n := 521) (k := i + 1) hSC (by omega) (by omega) (by decide +kernel) ?_
  refine z_e1 (n := 524) (idx := 70) (by decide +kernel) ml_L_70 (by first | assumption | exact q521.1.choose_spec) rfl (Nat.le_of_ble_eq_true rfl) (by omega) ⟨Nat.le_refl _, Nat.le_refl _⟩ (x_fault 20 (by omega) hn (by omega) H) (fun x521 h521 q521 => ?_)
  refine z_ald2 (n := 525) (by decide +kernel) ?_
  refine z_ald0 (n := 526) (by decide +kernel) ?_
  refine z_ild3 (n := 527) (by decide +kernel) ?_
  refine z_iconst (n := 528) (q := 1) (v := 1) (by decide +kernel) ?_
  refine z_iadd (n := 529) (by decide +kernel) ?_
  refine z_top (show nI i + 1 = nI (i + 1) from nI_add i 1) ?_
  refine z_xald (n := 530) (k := i + 1) hSC (by omega) (by omega) (by decide +kernel) ?_
  refine z_w1 (n := 533) (idx := 73) (by decide +kernel) ml_L_73 (by first | assumption | exact q521.1.choose_spec) rfl (Nat.le_of_ble_eq_true rfl) (by omega) ⟨Nat.le_refl _, Nat.le_refl _⟩ (q521.2) (fun h530 q530 => ?_)
  refine z_icmp_eq_t (n := 536) (off := 494) (tgt := 1027) (by decide +kernel) (rfl) ?_
  exact K _ q530
theorem lw_c12 {G : mG} {h : mH} {n L i : Nat} {xs : Nat → Int32} {QQ : Option Value → mH → Prop} (hSC : ∀ U, gI G U → xOK G L xs U) (hST : ∀ U, gI G U → sOK G U) (hL : L ≤ 3073) (hi : i + 6 ≤ L) (hn : n < 40) (H : RelX 0 102 n h) (K : ∀ h', RelX 0 102 n h' → Z G m_L_law 30 120 4990 120 4990 1027 [some (.ref 1048600), some (.ref 0), some (.ref 102), some (.int (nI i))] [] h' QQ) : Z G m_L_law 30 120 4990 120 4990 538 [some (.ref 1048600), some (.ref 0), some (.ref 102), some (.int (nI i))] [] h QQ := by
  obtain ⟨⟨fc, hc⟩, -⟩ := rl_ob H
  refine z_ald1 (n := 539) (by decide +kernel) ?_
  refine z_ald0 (n := 540) (by decide +kernel) ?_
  refine z_ild3 (n := 541) (by decide +kernel) ?_
  refine z_iconst (n := 542) (q := 1) (v := 1) (by decide +kernel) ?_
  refine z_iadd (n := 543) (by decide +kernel) ?_
  refine z_top (show nI i + 1 = nI (i + 1) from nI_add i 1) ?_
  refine z_xald (n := 544) (k := i + 1) hSC (by omega) (by omega) (by decide +kernel) ?_
  refine z_ald0 (n := 545) (by decide +kernel) ?_
  refine z_ild3 (n := 546) (by decide +kernel) ?_
  refine z_iconst (n := 547) (q := 2) (v := 2) (by decide +kernel) ?_
  refine z_iadd (n := 548) (by decide +kernel) ?_
  refine z_top (show nI i + 2 = nI (i + 2) from nI_add i 2) ?_
  refine z_xald (n := 549) (k := i + 2) hSC (by omega) (by omega) (by decide +kernel) ?_
  refine z_ald0 (n := 550) (by decide +kernel) ?_
  refine z_ild3 (n := 551) (by decide +kernel) ?_
  refine z_iconst (n := 552) (q := 3) (v := 3) (by decide +kernel) ?_
  refine z_iadd (n := 553) (by decide +kernel) ?_
  refine z_top (show nI i + 3 = nI (i + 3) from nI_add i 3) ?_
  refine z_xald (n := 554) (k := i + 3) hSC (by omega) (by omega) (by decide +kernel) ?_
  refine z_ald0 (n := 555) (by decide +kernel) ?_
  refine z_ild3 (n := 556) (by decide +kernel) ?_
  refine z_iconst (n := 557) (q := 4) (v := 4) (by decide +kernel) ?_
  refine z_iadd (n := 558) (by decide +kernel) ?_
  refine z_top (show nI i + 4 = nI (i + 4) from nI_add i 4) ?_
  refine z_xald (n := 559) (k := i + 4) hSC (by omega) (by omega) (by decide +kernel) ?_
  refine z_ald0 (n := 560) (by decide +kernel) ?_
  refine z_ild3 (n := 561) (by decide +kernel) ?_
  refine z_iconst (n := 562) (q := 5) (v := 5) (by decide +kernel) ?_
  refine z_iadd (n := 563) (by decide +kernel) ?_
  refine z_top (show nI i + 5 = nI (i + 5) from nI_add i 5) ?_
  refine z_xald (n := 564) (k := i + 5) hSC (by omega) (by omega) (by decide +kernel) ?_
  refine z_e5 (n := 567) (idx := 74) (by decide +kernel) ml_L_74 (by first | assumption | exact q564.1.choose_spec) rfl (Nat.le_of_ble_eq_true rfl) (by omega) ⟨Nat.le_refl _, Nat.le_refl _⟩ (x_sheet 20 (by omega) hn (by omega) H) (fun x564 h564 q564 => ?_)
  refine z_ald2 (n := 568) (by decide +kernel) ?_
  refine z_ald0 (n := 569) (by decide +kernel) ?_
  refine z_ild3 (n := 570) (by decide +kernel) ?_
  refine z_iconst (n := 571) (q := 1) (v := 1) (by decide +kernel) ?_
  refine z_iadd (n := 572) (by decide +kernel) ?_
  refine z_top (show nI i + 1 = nI (i + 1) from nI_add i 1) ?_
  refine z_xald (n := 573) (k := i + 1) hSC (by omega) (by omega) (by decide +kernel) ?_
  refine z_ald0 (n := 574) (by decide +kernel) ?_
  refine z_ild3 (n := 575) (by decide +kernel) ?_
  refine z_iconst (n := 576) (q := 2) (v := 2) (by decide +kernel) ?_
  refine z_iadd (n := 577) (by decide +kernel) ?_
  refine z_top (show nI i + 2 = nI (i + 2) from nI_add i 2) ?_
  refine z_xald (n := 578) (k := i + 2) hSC (by omega) (by omega) (by decide +kernel) ?_
  refine z_ald0 (n := 579) (by decide +kernel) ?_
  refine z_ild3 (n := 580) (by decide +kernel) ?_
  refine z_iconst (n := 581) (q := 3) (v := 3) (by decide +kernel) ?_
  refine z_iadd (n := 582) (by decide +kernel) ?_
  refine z_top (show nI i + 3 = nI (i + 3) from nI_add i 3) ?_
  refine z_xald (n := 583) (k := i + 3) hSC (by omega) (by omega) (by decide +kernel) ?_
  refine z_ald0 (n := 584) (by decide +kernel) ?_
  refine z_ild3 (n := 585) (by decide +kernel) ?_
  refine z_iconst (n := 586) (q := 4) (v := 4) (by decide +kernel) ?_
  refine z_iadd (n := 587) (by decide +kernel) ?_
  refine z_top (show nI i + 4 = nI (i + 4) from nI_add i 4) ?_
  refine z_xald (n := 588) (k := i + 4) hSC (by omega) (by omega) (by decide +kernel) ?_
  refine z_ald0 (n := 589) (by decide +kernel) ?_
  refine z_ild3 (n := 590) (by decide +kernel) ?_
  refine z_iconst (n := 591) (q := 5) (v := 5) (by decide +kernel) ?_
  refine z_iadd (n := 592) (by decide +kernel) ?_
  refine z_top (show nI i + 5 = nI (i + 5) from nI_add i 5) ?_
  refine z_xald (n := 593) (k := i + 5) hSC (by omega) (by omega) (by decide +kernel) ?_
  refine z_w5 (n := 596) (idx := 77) (by decide +kernel) ml_L_77 (by first | assumption | exact q564.1.choose_spec) rfl (Nat.le_of_ble_eq_true rfl) (by omega) ⟨Nat.le_refl _, Nat.le_refl _⟩ (q564.2) (fun h593 q593 => ?_)
  refine z_icmp_eq_t (n := 599) (off := 431) (tgt := 1027) (by decide +kernel) (rfl) ?_
  exact K _ q593
theorem lw_c13 {G : mG} {h : mH} {n L i : Nat} {xs : Nat → Int32} {QQ : Option Value → mH → Prop} (hSC : ∀ U, gI G U → xOK G L xs U) (hST : ∀ U, gI G U → sOK G U) (hL : L ≤ 3073) (hi : i + 6 ≤ L) (hn : n < 40) (H : RelX 0 102 n h) (K : ∀ h', RelX 0 102 n h' → Z G m_L_law 30 120 4990 120 4990 1027 [some (.ref 1048600), some (.ref 0), some (.ref 102), some (.int (nI i))] [] h' QQ) : Z G m_L_law 30 120 4990 120 4990 601 [some (.ref 1048600), some (.ref 0), some (.ref 102), some (.int (nI i))] [] h QQ := by
  obtain ⟨⟨fc, hc⟩, -⟩ := rl_ob H
  refine z_ald1 (n := 602) (by decide +kernel) ?_
  refine z_ald0 (n := 603) (by decide +kernel) ?_
  refine z_ild3 (n := 604) (by decide +kernel) ?_
  refine z_iconst (n := 605) (q := 1) (v := 1) (by decide +kernel) ?_
  refine z_iadd (n := 606) (by decide +kernel) ?_
  refine z_top (show nI i + 1 = nI (i + 1) from nI_add i 1) ?_
  refine z_xald (n := 607) (k := i + 1) hSC (by omega) (by omega) (by decide +kernel) ?_
  refine z_ald0 (n := 608) (by decide +kernel) ?_
  refine z_ild3 (n := 609) (by decide +kernel) ?_
  refine z_iconst (n := 610) (q := 2) (v := 2) (by decide +kernel) ?_
  refine z_iadd (n := 611) (by decide +kernel) ?_
  refine z_top (show nI i + 2 = nI (i + 2) from nI_add i 2) ?_
  refine z_xald (n := 612) (k := i + 2) hSC (by omega) (by omega) (by decide +kernel) ?_
  refine z_e2 (n := 615) (idx := 78) (by decide +kernel) ml_L_78 (by first | assumption | exact q612.1.choose_spec) rfl (Nat.le_of_ble_eq_true rfl) (by omega) ⟨Nat.le_refl _, Nat.le_refl _⟩ (x_torque 20 (by omega) hn (by omega) H) (fun x612 h612 q612 => ?_)
  refine z_ald2 (n := 616) (by decide +kernel) ?_
  refine z_ald0 (n := 617) (by decide +kernel) ?_
  refine z_ild3 (n := 618) (by decide +kernel) ?_
  refine z_iconst (n := 619) (q := 1) (v := 1) (by decide +kernel) ?_
  refine z_iadd (n := 620) (by decide +kernel) ?_
  refine z_top (show nI i + 1 = nI (i + 1) from nI_add i 1) ?_
  refine z_xald (n := 621) (k := i + 1) hSC (by omega) (by omega) (by decide +kernel) ?_
  refine z_ald0 (n := 622) (by decide +kernel) ?_
  refine z_ild3 (n := 623) (by decide +kernel) ?_
  refine z_iconst (n := 624) (q := 2) (v := 2) (by decide +kernel) ?_
  refine z_iadd (n := 625) (by decide +kernel) ?_
  refine z_top (show nI i + 2 = nI (i + 2) from nI_add i 2) ?_
  refine z_xald (n := 626) (k := i + 2) hSC (by omega) (by omega) (by decide +kernel) ?_
  refine z_w2 (n := 629) (idx := 81) (by decide +kernel) ml_L_81 (by first | assumption | exact q612.1.choose_spec) rfl (Nat.le_of_ble_eq_true rfl) (by omega) ⟨Nat.le_refl _, Nat.le_refl _⟩ (q612.2) (fun h626 q626 => ?_)
  refine z_icmp_eq_t (n := 632) (off := 398) (tgt := 1027) (by decide +kernel) (rfl) ?_
  exact K _ q626
theorem lw_c14 {G : mG} {h : mH} {n L i : Nat} {xs : Nat → Int32} {QQ : Option Value → mH → Prop} (hSC : ∀ U, gI G U → xOK G L xs U) (hST : ∀ U, gI G U → sOK G U) (hL : L ≤ 3073) (hi : i + 6 ≤ L) (hn : n < 40) (H : RelX 0 102 n h) (K : ∀ h', RelX 0 102 n h' → Z G m_L_law 30 120 4990 120 4990 1027 [some (.ref 1048600), some (.ref 0), some (.ref 102), some (.int (nI i))] [] h' QQ) : Z G m_L_law 30 120 4990 120 4990 634 [some (.ref 1048600), some (.ref 0), some (.ref 102), some (.int (nI i))] [] h QQ := by
  obtain ⟨⟨fc, hc⟩, -⟩ := rl_ob H
  refine z_ald1 (n := 635) (by decide +kernel) ?_
  refine z_ald0 (n := 636) (by decide +kernel) ?_
  refine z_ild3 (n := 637) (by decide +kernel) ?_
  refine z_iconst (n := 638) (q := 1) (v := 1) (by decide +kernel) ?_
  refine z_iadd (n := 639) (by decide +kernel) ?_
  refine z_top (show nI i + 1 = nI (i + 1) from nI_add i 1) ?_
  refine z_xald (n := 640) (k := i + 1) hSC (by omega) (by omega) (by decide +kernel) ?_
  refine z_ald0 (n := 641) (by decide +kernel) ?_
  refine z_ild3 (n := 642) (by decide +kernel) ?_
  refine z_iconst (n := 643) (q := 2) (v := 2) (by decide +kernel) ?_
  refine z_iadd (n := 644) (by decide +kernel) ?_
  refine z_top (show nI i + 2 = nI (i + 2) from nI_add i 2) ?_
  refine z_xald (n := 645) (k := i + 2) hSC (by omega) (by omega) (by decide +kernel) ?_
  refine z_ald0 (n := 646) (by decide +kernel) ?_
  refine z_ild3 (n := 647) (by decide +kernel) ?_
  refine z_iconst (n := 648) (q := 3) (v := 3) (by decide +kernel) ?_
  refine z_iadd (n := 649) (by decide +kernel) ?_
  refine z_top (show nI i + 3 = nI (i + 3) from nI_add i 3) ?_
  refine z_xald (n := 650) (k := i + 3) hSC (by omega) (by omega) (by decide +kernel) ?_
  refine z_e3 (n := 653) (idx := 82) (by decide +kernel) ml_L_82 (by first | assumption | exact q650.1.choose_spec) rfl (Nat.le_of_ble_eq_true rfl) (by omega) ⟨Nat.le_refl _, Nat.le_refl _⟩ (x_rests 20 (by omega) hn (by omega) H) (fun x650 h650 q650 => ?_)
  refine z_ald2 (n := 654) (by decide +kernel) ?_
  refine z_ald0 (n := 655) (by decide +kernel) ?_
  refine z_ild3 (n := 656) (by decide +kernel) ?_
  refine z_iconst (n := 657) (q := 1) (v := 1) (by decide +kernel) ?_
  refine z_iadd (n := 658) (by decide +kernel) ?_
  refine z_top (show nI i + 1 = nI (i + 1) from nI_add i 1) ?_
  refine z_xald (n := 659) (k := i + 1) hSC (by omega) (by omega) (by decide +kernel) ?_
  refine z_ald0 (n := 660) (by decide +kernel) ?_
  refine z_ild3 (n := 661) (by decide +kernel) ?_
  refine z_iconst (n := 662) (q := 2) (v := 2) (by decide +kernel) ?_
  refine z_iadd (n := 663) (by decide +kernel) ?_
  refine z_top (show nI i + 2 = nI (i + 2) from nI_add i 2) ?_
  refine z_xald (n := 664) (k := i + 2) hSC (by omega) (by omega) (by decide +kernel) ?_
  refine z_ald0 (n := 665) (by decide +kernel) ?_
  refine z_ild3 (n := 666) (by decide +kernel) ?_
  refine z_iconst (n := 667) (q := 3) (v := 3) (by decide +kernel) ?_
  refine z_iadd (n := 668) (by decide +kernel) ?_
  refine z_top (show nI i + 3 = nI (i + 3) from nI_add i 3) ?_
  refine z_xald (n := 669) (k := i + 3) hSC (by omega) (by omega) (by decide +kernel) ?_
  refine z_w3 (n := 672) (idx := 86) (by decide +kernel) ml_L_86 (by first | assumption | exact q650.1.choose_spec) rfl (Nat.le_of_ble_eq_true rfl) (by omega) ⟨Nat.le_refl _, Nat.le_refl _⟩ (q650.2) (fun h669 q669 => ?_)
  refine z_icmp_eq_t (n := 675) (off := 355) (tgt := 1027) (by decide +kernel) (rfl) ?_
  exact K _ q669
theorem lw_c15 {G : mG} {h : mH} {n L i : Nat} {xs : Nat → Int32} {QQ : Option Value → mH → Prop} (hSC : ∀ U, gI G U → xOK G L xs U) (hST : ∀ U, gI G U → sOK G U) (hL : L ≤ 3073) (hi : i + 6 ≤ L) (hn : n < 40) (H : RelX 0 102 n h) (K : ∀ h', RelX 0 102 n h' → Z G m_L_law 30 120 4990 120 4990 1027 [some (.ref 1048600), some (.ref 0), some (.ref 102), some (.int (nI i))] [] h' QQ) : Z G m_L_law 30 120 4990 120 4990 677 [some (.ref 1048600), some (.ref 0), some (.ref 102), some (.int (nI i))] [] h QQ := by
  obtain ⟨⟨fc, hc⟩, -⟩ := rl_ob H
  refine z_ald1 (n := 678) (by decide +kernel) ?_
  refine z_ald0 (n := 679) (by decide +kernel) ?_
  refine z_ild3 (n := 680) (by decide +kernel) ?_
  refine z_iconst (n := 681) (q := 1) (v := 1) (by decide +kernel) ?_
  refine z_iadd (n := 682) (by decide +kernel) ?_
  refine z_top (show nI i + 1 = nI (i + 1) from nI_add i 1) ?_
  refine z_xald (n := 683) (k := i + 1) hSC (by omega) (by omega) (by decide +kernel) ?_
  refine z_ald0 (n := 684) (by decide +kernel) ?_
  refine z_ild3 (n := 685) (by decide +kernel) ?_
  refine z_iconst (n := 686) (q := 2) (v := 2) (by decide +kernel) ?_
  refine z_iadd (n := 687) (by decide +kernel) ?_
  refine z_top (show nI i + 2 = nI (i + 2) from nI_add i 2) ?_
  refine z_xald (n := 688) (k := i + 2) hSC (by omega) (by omega) (by decide +kernel) ?_
  refine z_ald0 (n := 689) (by decide +kernel) ?_
  refine z_ild3 (n := 690) (by decide +kernel) ?_
  refine z_iconst (n := 691) (q := 3) (v := 3) (by decide +kernel) ?_
  refine z_iadd (n := 692) (by decide +kernel) ?_
  refine z_top (show nI i + 3 = nI (i + 3) from nI_add i 3) ?_
  refine z_xald (n := 693) (k := i + 3) hSC (by omega) (by omega) (by decide +kernel) ?_
  refine z_e3 (n := 696) (idx := 87) (by decide +kernel) ml_L_87 (by first | assumption | exact q693.1.choose_spec) rfl (Nat.le_of_ble_eq_true rfl) (by omega) ⟨Nat.le_refl _, Nat.le_refl _⟩ (x_stays 20 (by omega) hn (by omega) H) (fun x693 h693 q693 => ?_)
  refine z_ald2 (n := 697) (by decide +kernel) ?_
  refine z_ald0 (n := 698) (by decide +kernel) ?_
  refine z_ild3 (n := 699) (by decide +kernel) ?_
  refine z_iconst (n := 700) (q := 1) (v := 1) (by decide +kernel) ?_
  refine z_iadd (n := 701) (by decide +kernel) ?_
  refine z_top (show nI i + 1 = nI (i + 1) from nI_add i 1) ?_
  refine z_xald (n := 702) (k := i + 1) hSC (by omega) (by omega) (by decide +kernel) ?_
  refine z_ald0 (n := 703) (by decide +kernel) ?_
  refine z_ild3 (n := 704) (by decide +kernel) ?_
  refine z_iconst (n := 705) (q := 2) (v := 2) (by decide +kernel) ?_
  refine z_iadd (n := 706) (by decide +kernel) ?_
  refine z_top (show nI i + 2 = nI (i + 2) from nI_add i 2) ?_
  refine z_xald (n := 707) (k := i + 2) hSC (by omega) (by omega) (by decide +kernel) ?_
  refine z_ald0 (n := 708) (by decide +kernel) ?_
  refine z_ild3 (n := 709) (by decide +kernel) ?_
  refine z_iconst (n := 710) (q := 3) (v := 3) (by decide +kernel) ?_
  refine z_iadd (n := 711) (by decide +kernel) ?_
  refine z_top (show nI i + 3 = nI (i + 3) from nI_add i 3) ?_
  refine z_xald (n := 712) (k := i + 3) hSC (by omega) (by omega) (by decide +kernel) ?_
  refine z_w3 (n := 715) (idx := 90) (by decide +kernel) ml_L_90 (by first | assumption | exact q693.1.choose_spec) rfl (Nat.le_of_ble_eq_true rfl) (by omega) ⟨Nat.le_refl _, Nat.le_refl _⟩ (q693.2) (fun h712 q712 => ?_)
  refine z_icmp_eq_t (n := 718) (off := 312) (tgt := 1027) (by decide +kernel) (rfl) ?_
  exact K _ q712
theorem lw_c16 {G : mG} {h : mH} {n L i : Nat} {xs : Nat → Int32} {QQ : Option Value → mH → Prop} (hSC : ∀ U, gI G U → xOK G L xs U) (hST : ∀ U, gI G U → sOK G U) (hL : L ≤ 3073) (hi : i + 6 ≤ L) (hn : n < 40) (H : RelX 0 102 n h) (K : ∀ h', RelX 0 102 n h' → Z G m_L_law 30 120 4990 120 4990 1027 [some (.ref 1048600), some (.ref 0), some (.ref 102), some (.int (nI i))] [] h' QQ) : Z G m_L_law 30 120 4990 120 4990 720 [some (.ref 1048600), some (.ref 0), some (.ref 102), some (.int (nI i))] [] h QQ := by
  obtain ⟨⟨fc, hc⟩, -⟩ := rl_ob H
  refine z_ald1 (n := 721) (by decide +kernel) ?_
  refine z_ald0 (n := 722) (by decide +kernel) ?_
  refine z_ild3 (n := 723) (by decide +kernel) ?_
  refine z_iconst (n := 724) (q := 1) (v := 1) (by decide +kernel) ?_
  refine z_iadd (n := 725) (by decide +kernel) ?_
  refine z_top (show nI i + 1 = nI (i + 1) from nI_add i 1) ?_
  refine z_xald (n := 726) (k := i + 1) hSC (by omega) (by omega) (by decide +kernel) ?_
  refine z_ald0 (n := 727) (by decide +kernel) ?_
  refine z_ild3 (n := 728) (by decide +kernel) ?_
  refine z_iconst (n := 729) (q := 2) (v := 2) (by decide +kernel) ?_
  refine z_iadd (n := 730) (by decide +kernel) ?_
  refine z_top (show nI i + 2 = nI (i + 2) from nI_add i 2) ?_
  refine z_xald (n := 731) (k := i + 2) hSC (by omega) (by omega) (by decide +kernel) ?_
  refine z_ald0 (n := 732) (by decide +kernel) ?_
  refine z_ild3 (n := 733) (by decide +kernel) ?_
  refine z_iconst (n := 734) (q := 3) (v := 3) (by decide +kernel) ?_
  refine z_iadd (n := 735) (by decide +kernel) ?_
  refine z_top (show nI i + 3 = nI (i + 3) from nI_add i 3) ?_
  refine z_xald (n := 736) (k := i + 3) hSC (by omega) (by omega) (by decide +kernel) ?_
  refine z_ald0 (n := 737) (by decide +kernel) ?_
  refine z_ild3 (n := 738) (by decide +kernel) ?_
  refine z_iconst (n := 739) (q := 4) (v := 4) (by decide +kernel) ?_
  refine z_iadd (n := 740) (by decide +kernel) ?_
  refine z_top (show nI i + 4 = nI (i + 4) from nI_add i 4) ?_
  refine z_xald (n := 741) (k := i + 4) hSC (by omega) (by omega) (by decide +kernel) ?_
  refine z_ald0 (n := 742) (by decide +kernel) ?_
  refine z_ild3 (n := 743) (by decide +kernel) ?_
  refine z_iconst (n := 744) (q := 5) (v := 5) (by decide +kernel) ?_
  refine z_iadd (n := 745) (by decide +kernel) ?_
  refine z_top (show nI i + 5 = nI (i + 5) from nI_add i 5) ?_
  refine z_xald (n := 746) (k := i + 5) hSC (by omega) (by omega) (by decide +kernel) ?_
  refine z_e5 (n := 749) (idx := 91) (by decide +kernel) ml_L_91 (by first | assumption | exact q746.1.choose_spec) rfl (Nat.le_of_ble_eq_true rfl) (by omega) ⟨Nat.le_refl _, Nat.le_refl _⟩ (x_snap 20 (by omega) hn (by omega) H) (fun x746 h746 q746 => ?_)
  refine z_ald2 (n := 750) (by decide +kernel) ?_
  refine z_ald0 (n := 751) (by decide +kernel) ?_
  refine z_ild3 (n := 752) (by decide +kernel) ?_
  refine z_iconst (n := 753) (q := 1) (v := 1) (by decide +kernel) ?_
  refine z_iadd (n := 754) (by decide +kernel) ?_
  refine z_top (show nI i + 1 = nI (i + 1) from nI_add i 1) ?_
  refine z_xald (n := 755) (k := i + 1) hSC (by omega) (by omega) (by decide +kernel) ?_
  refine z_ald0 (n := 756) (by decide +kernel) ?_
  refine z_ild3 (n := 757) (by decide +kernel) ?_
  refine z_iconst (n := 758) (q := 2) (v := 2) (by decide +kernel) ?_
  refine z_iadd (n := 759) (by decide +kernel) ?_
  refine z_top (show nI i + 2 = nI (i + 2) from nI_add i 2) ?_
  refine z_xald (n := 760) (k := i + 2) hSC (by omega) (by omega) (by decide +kernel) ?_
  refine z_ald0 (n := 761) (by decide +kernel) ?_
  refine z_ild3 (n := 762) (by decide +kernel) ?_
  refine z_iconst (n := 763) (q := 3) (v := 3) (by decide +kernel) ?_
  refine z_iadd (n := 764) (by decide +kernel) ?_
  refine z_top (show nI i + 3 = nI (i + 3) from nI_add i 3) ?_
  refine z_xald (n := 765) (k := i + 3) hSC (by omega) (by omega) (by decide +kernel) ?_
  refine z_ald0 (n := 766) (by decide +kernel) ?_
  refine z_ild3 (n := 767) (by decide +kernel) ?_
  refine z_iconst (n := 768) (q := 4) (v := 4) (by decide +kernel) ?_
  refine z_iadd (n := 769) (by decide +kernel) ?_
  refine z_top (show nI i + 4 = nI (i + 4) from nI_add i 4) ?_
  refine z_xald (n := 770) (k := i + 4) hSC (by omega) (by omega) (by decide +kernel) ?_
  refine z_ald0 (n := 771) (by decide +kernel) ?_
  refine z_ild3 (n := 772) (by decide +kernel) ?_
  refine z_iconst (n := 773) (q := 5) (v := 5) (by decide +kernel) ?_
  refine z_iadd (n := 774) (by decide +kernel) ?_
  refine z_top (show nI i + 5 = nI (i + 5) from nI_add i 5) ?_
  refine z_xald (n := 775) (k := i + 5) hSC (by omega) (by omega) (by decide +kernel) ?_
  refine z_w5 (n := 778) (idx := 94) (by decide +kernel) ml_L_94 (by first | assumption | exact q746.1.choose_spec) rfl (Nat.le_of_ble_eq_true rfl) (by omega) ⟨Nat.le_refl _, Nat.le_refl _⟩ (q746.2) (fun h775 q775 => ?_)
  refine z_icmp_eq_t (n := 781) (off := 249) (tgt := 1027) (by decide +kernel) (rfl) ?_
  exact K _ q775
theorem lw_c17 {G : mG} {h : mH} {n L i : Nat} {xs : Nat → Int32} {QQ : Option Value → mH → Prop} (hSC : ∀ U, gI G U → xOK G L xs U) (hST : ∀ U, gI G U → sOK G U) (hL : L ≤ 3073) (hi : i + 6 ≤ L) (hn : n < 40) (H : RelX 0 102 n h) (K : ∀ h', RelX 0 102 n h' → Z G m_L_law 30 120 4990 120 4990 1027 [some (.ref 1048600), some (.ref 0), some (.ref 102), some (.int (nI i))] [] h' QQ) : Z G m_L_law 30 120 4990 120 4990 783 [some (.ref 1048600), some (.ref 0), some (.ref 102), some (.int (nI i))] [] h QQ := by
  obtain ⟨⟨fc, hc⟩, -⟩ := rl_ob H
  refine z_ald1 (n := 784) (by decide +kernel) ?_
  refine z_ald0 (n := 785) (by decide +kernel) ?_
  refine z_ild3 (n := 786) (by decide +kernel) ?_
  refine z_iconst (n := 787) (q := 1) (v := 1) (by decide +kernel) ?_
  refine z_iadd (n := 788) (by decide +kernel) ?_
  refine z_top (show nI i + 1 = nI (i + 1) from nI_add i 1) ?_
  refine z_xald (n := 789) (k := i + 1) hSC (by omega) (by omega) (by decide +kernel) ?_
  refine z_ald0 (n := 790) (by decide +kernel) ?_
  refine z_ild3 (n := 791) (by decide +kernel) ?_
  refine z_iconst (n := 792) (q := 2) (v := 2) (by decide +kernel) ?_
  refine z_iadd (n := 793) (by decide +kernel) ?_
  refine z_top (show nI i + 2 = nI (i + 2) from nI_add i 2) ?_
  refine z_xald (n := 794) (k := i + 2) hSC (by omega) (by omega) (by decide +kernel) ?_
  refine z_ald0 (n := 795) (by decide +kernel) ?_
  refine z_ild3 (n := 796) (by decide +kernel) ?_
  refine z_iconst (n := 797) (q := 3) (v := 3) (by decide +kernel) ?_
  refine z_iadd (n := 798) (by decide +kernel) ?_
  refine z_top (show nI i + 3 = nI (i + 3) from nI_add i 3) ?_
  refine z_xald (n := 799) (k := i + 3) hSC (by omega) (by omega) (by decide +kernel) ?_
  refine z_ald0 (n := 800) (by decide +kernel) ?_
  refine z_ild3 (n := 801) (by decide +kernel) ?_
  refine z_iconst (n := 802) (q := 4) (v := 4) (by decide +kernel) ?_
  refine z_iadd (n := 803) (by decide +kernel) ?_
  refine z_top (show nI i + 4 = nI (i + 4) from nI_add i 4) ?_
  refine z_xald (n := 804) (k := i + 4) hSC (by omega) (by omega) (by decide +kernel) ?_
  refine z_e4 (n := 807) (idx := 95) (by decide +kernel) ml_L_95 (by first | assumption | exact q804.1.choose_spec) rfl (Nat.le_of_ble_eq_true rfl) (by omega) ⟨Nat.le_refl _, Nat.le_refl _⟩ (x_ways 20 (by omega) hn (by omega) H) (fun x804 h804 q804 => ?_)
  refine z_ald2 (n := 808) (by decide +kernel) ?_
  refine z_ald0 (n := 809) (by decide +kernel) ?_
  refine z_ild3 (n := 810) (by decide +kernel) ?_
  refine z_iconst (n := 811) (q := 1) (v := 1) (by decide +kernel) ?_
  refine z_iadd (n := 812) (by decide +kernel) ?_
  refine z_top (show nI i + 1 = nI (i + 1) from nI_add i 1) ?_
  refine z_xald (n := 813) (k := i + 1) hSC (by omega) (by omega) (by decide +kernel) ?_
  refine z_ald0 (n := 814) (by decide +kernel) ?_
  refine z_ild3 (n := 815) (by decide +kernel) ?_
  refine z_iconst (n := 816) (q := 2) (v := 2) (by decide +kernel) ?_
  refine z_iadd (n := 817) (by decide +kernel) ?_
  refine z_top (show nI i + 2 = nI (i + 2) from nI_add i 2) ?_
  refine z_xald (n := 818) (k := i + 2) hSC (by omega) (by omega) (by decide +kernel) ?_
  refine z_ald0 (n := 819) (by decide +kernel) ?_
  refine z_ild3 (n := 820) (by decide +kernel) ?_
  refine z_iconst (n := 821) (q := 3) (v := 3) (by decide +kernel) ?_
  refine z_iadd (n := 822) (by decide +kernel) ?_
  refine z_top (show nI i + 3 = nI (i + 3) from nI_add i 3) ?_
  refine z_xald (n := 823) (k := i + 3) hSC (by omega) (by omega) (by decide +kernel) ?_
  refine z_ald0 (n := 824) (by decide +kernel) ?_
  refine z_ild3 (n := 825) (by decide +kernel) ?_
  refine z_iconst (n := 826) (q := 4) (v := 4) (by decide +kernel) ?_
  refine z_iadd (n := 827) (by decide +kernel) ?_
  refine z_top (show nI i + 4 = nI (i + 4) from nI_add i 4) ?_
  refine z_xald (n := 828) (k := i + 4) hSC (by omega) (by omega) (by decide +kernel) ?_
  refine z_w4 (n := 831) (idx := 99) (by decide +kernel) ml_L_99 (by first | assumption | exact q804.1.choose_spec) rfl (Nat.le_of_ble_eq_true rfl) (by omega) ⟨Nat.le_refl _, Nat.le_refl _⟩ (q804.2) (fun h828 q828 => ?_)
  refine z_icmp_eq_t (n := 834) (off := 196) (tgt := 1027) (by decide +kernel) (rfl) ?_
  exact K _ q828
theorem lw_c18 {G : mG} {h : mH} {n L i : Nat} {xs : Nat → Int32} {QQ : Option Value → mH → Prop} (hSC : ∀ U, gI G U → xOK G L xs U) (hST : ∀ U, gI G U → sOK G U) (hL : L ≤ 3073) (hi : i + 6 ≤ L) (hn : n < 40) (H : RelX 0 102 n h) (K : ∀ h', RelX 0 102 n h' → Z G m_L_law 30 120 4990 120 4990 1027 [some (.ref 1048600), some (.ref 0), some (.ref 102), some (.int (nI i))] [] h' QQ) : Z G m_L_law 30 120 4990 120 4990 836 [some (.ref 1048600), some (.ref 0), some (.ref 102), some (.int (nI i))] [] h QQ := by
  obtain ⟨⟨fc, hc⟩, -⟩ := rl_ob H
  refine z_ald1 (n := 837) (by decide +kernel) ?_
  refine z_ald0 (n := 838) (by decide +kernel) ?_
  refine z_ild3 (n := 839) (by decide +kernel) ?_
  refine z_iconst (n := 840) (q := 1) (v := 1) (by decide +kernel) ?_
  refine z_iadd (n := 841) (by decide +kernel) ?_
  refine z_top (show nI i + 1 = nI (i + 1) from nI_add i 1) ?_
  refine z_xald (n := 842) (k := i + 1) hSC (by omega) (by omega) (by decide +kernel) ?_
  refine z_ald0 (n := 843) (by decide +kernel) ?_
  refine z_ild3 (n := 844) (by decide +kernel) ?_
  refine z_iconst (n := 845) (q := 2) (v := 2) (by decide +kernel) ?_
  refine z_iadd (n := 846) (by decide +kernel) ?_
  refine z_top (show nI i + 2 = nI (i + 2) from nI_add i 2) ?_
  refine z_xald (n := 847) (k := i + 2) hSC (by omega) (by omega) (by decide +kernel) ?_
  refine z_e2 (n := 850) (idx := 100) (by decide +kernel) ml_L_100 (by first | assumption | exact q847.1.choose_spec) rfl (Nat.le_of_ble_eq_true rfl) (by omega) ⟨Nat.le_refl _, Nat.le_refl _⟩ (x_see 20 (by omega) hn (by omega) H) (fun x847 h847 q847 => ?_)
  refine z_ald2 (n := 851) (by decide +kernel) ?_
  refine z_ald0 (n := 852) (by decide +kernel) ?_
  refine z_ild3 (n := 853) (by decide +kernel) ?_
  refine z_iconst (n := 854) (q := 1) (v := 1) (by decide +kernel) ?_
  refine z_iadd (n := 855) (by decide +kernel) ?_
  refine z_top (show nI i + 1 = nI (i + 1) from nI_add i 1) ?_
  refine z_xald (n := 856) (k := i + 1) hSC (by omega) (by omega) (by decide +kernel) ?_
  refine z_ald0 (n := 857) (by decide +kernel) ?_
  refine z_ild3 (n := 858) (by decide +kernel) ?_
  refine z_iconst (n := 859) (q := 2) (v := 2) (by decide +kernel) ?_
  refine z_iadd (n := 860) (by decide +kernel) ?_
  refine z_top (show nI i + 2 = nI (i + 2) from nI_add i 2) ?_
  refine z_xald (n := 861) (k := i + 2) hSC (by omega) (by omega) (by decide +kernel) ?_
  refine z_w2 (n := 864) (idx := 103) (by decide +kernel) ml_L_103 (by first | assumption | exact q847.1.choose_spec) rfl (Nat.le_of_ble_eq_true rfl) (by omega) ⟨Nat.le_refl _, Nat.le_refl _⟩ (q847.2) (fun h861 q861 => ?_)
  refine z_icmp_eq_t (n := 867) (off := 163) (tgt := 1027) (by decide +kernel) (rfl) ?_
  exact K _ q861
theorem lw_c19 {G : mG} {h : mH} {n L i : Nat} {xs : Nat → Int32} {QQ : Option Value → mH → Prop} (hSC : ∀ U, gI G U → xOK G L xs U) (hST : ∀ U, gI G U → sOK G U) (hL : L ≤ 3073) (hi : i + 6 ≤ L) (hn : n < 40) (H : RelX 0 102 n h) (K : ∀ h', RelX 0 102 n h' → Z G m_L_law 30 120 4990 120 4990 1027 [some (.ref 1048600), some (.ref 0), some (.ref 102), some (.int (nI i))] [] h' QQ) : Z G m_L_law 30 120 4990 120 4990 869 [some (.ref 1048600), some (.ref 0), some (.ref 102), some (.int (nI i))] [] h QQ := by
  obtain ⟨⟨fc, hc⟩, -⟩ := rl_ob H
  refine z_ald1 (n := 870) (by decide +kernel) ?_
  refine z_ald0 (n := 871) (by decide +kernel) ?_
  refine z_ild3 (n := 872) (by decide +kernel) ?_
  refine z_iconst (n := 873) (q := 1) (v := 1) (by decide +kernel) ?_
  refine z_iadd (n := 874) (by decide +kernel) ?_
  refine z_top (show nI i + 1 = nI (i + 1) from nI_add i 1) ?_
  refine z_xald (n := 875) (k := i + 1) hSC (by omega) (by omega) (by decide +kernel) ?_
  refine z_g1 (n := 878) (idx := 104) (by decide +kernel) ml_L_104 (by first | assumption | exact q875.1.choose_spec) rfl (Nat.le_of_ble_eq_true rfl) (by omega) ⟨Nat.le_refl _, Nat.le_refl _⟩ (x_look 20 (by omega) hn (by omega) H) (fun x875 h875 q875 => ?_)
  refine z_ald2 (n := 879) (by decide +kernel) ?_
  refine z_ald0 (n := 880) (by decide +kernel) ?_
  refine z_ild3 (n := 881) (by decide +kernel) ?_
  refine z_iconst (n := 882) (q := 1) (v := 1) (by decide +kernel) ?_
  refine z_iadd (n := 883) (by decide +kernel) ?_
  refine z_top (show nI i + 1 = nI (i + 1) from nI_add i 1) ?_
  refine z_xald (n := 884) (k := i + 1) hSC (by omega) (by omega) (by decide +kernel) ?_
  refine z_w1 (n := 887) (idx := 108) (by decide +kernel) ml_L_108 (by first | assumption | exact q875.1.choose_spec) rfl (Nat.le_of_ble_eq_true rfl) (by omega) ⟨Nat.le_refl _, Nat.le_refl _⟩ (q875.2) (fun h884 q884 => ?_)
  refine z_icmp_eq_t (n := 890) (off := 140) (tgt := 1027) (by decide +kernel) (rfl) ?_
  exact K _ q884
theorem lw_c20 {G : mG} {h : mH} {n L i : Nat} {xs : Nat → Int32} {QQ : Option Value → mH → Prop} (hSC : ∀ U, gI G U → xOK G L xs U) (hST : ∀ U, gI G U → sOK G U) (hL : L ≤ 3073) (hi : i + 6 ≤ L) (hn : n < 40) (H : RelX 0 102 n h) (K : ∀ h', RelX 0 102 n h' → Z G m_L_law 30 120 4990 120 4990 1027 [some (.ref 1048600), some (.ref 0), some (.ref 102), some (.int (nI i))] [] h' QQ) : Z G m_L_law 30 120 4990 120 4990 892 [some (.ref 1048600), some (.ref 0), some (.ref 102), some (.int (nI i))] [] h QQ := by
  obtain ⟨⟨fc, hc⟩, -⟩ := rl_ob H
  refine z_ald1 (n := 893) (by decide +kernel) ?_
  refine z_ald0 (n := 894) (by decide +kernel) ?_
  refine z_ild3 (n := 895) (by decide +kernel) ?_
  refine z_iconst (n := 896) (q := 1) (v := 1) (by decide +kernel) ?_
  refine z_iadd (n := 897) (by decide +kernel) ?_
  refine z_top (show nI i + 1 = nI (i + 1) from nI_add i 1) ?_
  refine z_xald (n := 898) (k := i + 1) hSC (by omega) (by omega) (by decide +kernel) ?_
  refine z_ald0 (n := 899) (by decide +kernel) ?_
  refine z_ild3 (n := 900) (by decide +kernel) ?_
  refine z_iconst (n := 901) (q := 2) (v := 2) (by decide +kernel) ?_
  refine z_iadd (n := 902) (by decide +kernel) ?_
  refine z_top (show nI i + 2 = nI (i + 2) from nI_add i 2) ?_
  refine z_xald (n := 903) (k := i + 2) hSC (by omega) (by omega) (by decide +kernel) ?_
  refine z_ald0 (n := 904) (by decide +kernel) ?_
  refine z_ild3 (n := 905) (by decide +kernel) ?_
  refine z_iconst (n := 906) (q := 3) (v := 3) (by decide +kernel) ?_
  refine z_iadd (n := 907) (by decide +kernel) ?_
  refine z_top (show nI i + 3 = nI (i + 3) from nI_add i 3) ?_
  refine z_xald (n := 908) (k := i + 3) hSC (by omega) (by omega) (by decide +kernel) ?_
  refine z_ald0 (n := 909) (by decide +kernel) ?_
  refine z_ild3 (n := 910) (by decide +kernel) ?_
  refine z_iconst (n := 911) (q := 4) (v := 4) (by decide +kernel) ?_
  refine z_iadd (n := 912) (by decide +kernel) ?_
  refine z_top (show nI i + 4 = nI (i + 4) from nI_add i 4) ?_
  refine z_xald (n := 913) (k := i + 4) hSC (by omega) (by omega) (by decide +kernel) ?_
  refine z_e4 (n := 916) (idx := 109) (by decide +kernel) ml_L_109 (by first | assumption | exact q913.1.choose_spec) rfl (Nat.le_of_ble_eq_true rfl) (by omega) ⟨Nat.le_refl _, Nat.le_refl _⟩ (x_orders 20 (by omega) hn (by omega) H) (fun x913 h913 q913 => ?_)
  refine z_ald2 (n := 917) (by decide +kernel) ?_
  refine z_ald0 (n := 918) (by decide +kernel) ?_
  refine z_ild3 (n := 919) (by decide +kernel) ?_
  refine z_iconst (n := 920) (q := 1) (v := 1) (by decide +kernel) ?_
  refine z_iadd (n := 921) (by decide +kernel) ?_
  refine z_top (show nI i + 1 = nI (i + 1) from nI_add i 1) ?_
  refine z_xald (n := 922) (k := i + 1) hSC (by omega) (by omega) (by decide +kernel) ?_
  refine z_ald0 (n := 923) (by decide +kernel) ?_
  refine z_ild3 (n := 924) (by decide +kernel) ?_
  refine z_iconst (n := 925) (q := 2) (v := 2) (by decide +kernel) ?_
  refine z_iadd (n := 926) (by decide +kernel) ?_
  refine z_top (show nI i + 2 = nI (i + 2) from nI_add i 2) ?_
  refine z_xald (n := 927) (k := i + 2) hSC (by omega) (by omega) (by decide +kernel) ?_
  refine z_ald0 (n := 928) (by decide +kernel) ?_
  refine z_ild3 (n := 929) (by decide +kernel) ?_
  refine z_iconst (n := 930) (q := 3) (v := 3) (by decide +kernel) ?_
  refine z_iadd (n := 931) (by decide +kernel) ?_
  refine z_top (show nI i + 3 = nI (i + 3) from nI_add i 3) ?_
  refine z_xald (n := 932) (k := i + 3) hSC (by omega) (by omega) (by decide +kernel) ?_
  refine z_ald0 (n := 933) (by decide +kernel) ?_
  refine z_ild3 (n := 934) (by decide +kernel) ?_
  refine z_iconst (n := 935) (q := 4) (v := 4) (by decide +kernel) ?_
  refine z_iadd (n := 936) (by decide +kernel) ?_
  refine z_top (show nI i + 4 = nI (i + 4) from nI_add i 4) ?_
  refine z_xald (n := 937) (k := i + 4) hSC (by omega) (by omega) (by decide +kernel) ?_
  refine z_w4 (n := 940) (idx := 112) (by decide +kernel) ml_L_112 (by first | assumption | exact q913.1.choose_spec) rfl (Nat.le_of_ble_eq_true rfl) (by omega) ⟨Nat.le_refl _, Nat.le_refl _⟩ (q913.2) (fun h937 q937 => ?_)
  refine z_icmp_eq_t (n := 943) (off := 87) (tgt := 1027) (by decide +kernel) (rfl) ?_
  exact K _ q937
theorem lw_c21 {G : mG} {h : mH} {n L i : Nat} {xs : Nat → Int32} {QQ : Option Value → mH → Prop} (hSC : ∀ U, gI G U → xOK G L xs U) (hST : ∀ U, gI G U → sOK G U) (hL : L ≤ 3073) (hi : i + 6 ≤ L) (hn : n < 40) (H : RelX 0 102 n h) (K : ∀ h', RelX 0 102 n h' → Z G m_L_law 30 120 4990 120 4990 1027 [some (.ref 1048600), some (.ref 0), some (.ref 102), some (.int (nI i))] [] h' QQ) : Z G m_L_law 30 120 4990 120 4990 945 [some (.ref 1048600), some (.ref 0), some (.ref 102), some (.int (nI i))] [] h QQ := by
  obtain ⟨⟨fc, hc⟩, -⟩ := rl_ob H
  refine z_ald1 (n := 946) (by decide +kernel) ?_
  refine z_ald0 (n := 947) (by decide +kernel) ?_
  refine z_ild3 (n := 948) (by decide +kernel) ?_
  refine z_iconst (n := 949) (q := 1) (v := 1) (by decide +kernel) ?_
  refine z_iadd (n := 950) (by decide +kernel) ?_
  refine z_top (show nI i + 1 = nI (i + 1) from nI_add i 1) ?_
  refine z_xald (n := 951) (k := i + 1) hSC (by omega) (by omega) (by decide +kernel) ?_
  refine z_ald0 (n := 952) (by decide +kernel) ?_
  refine z_ild3 (n := 953) (by decide +kernel) ?_
  refine z_iconst (n := 954) (q := 2) (v := 2) (by decide +kernel) ?_
  refine z_iadd (n := 955) (by decide +kernel) ?_
  refine z_top (show nI i + 2 = nI (i + 2) from nI_add i 2) ?_
  refine z_xald (n := 956) (k := i + 2) hSC (by omega) (by omega) (by decide +kernel) ?_
  refine z_e2 (n := 959) (idx := 113) (by decide +kernel) ml_L_113 (by first | assumption | exact q956.1.choose_spec) rfl (Nat.le_of_ble_eq_true rfl) (by omega) ⟨Nat.le_refl _, Nat.le_refl _⟩ (x_next 20 (by omega) hn (by omega) H) (fun x956 h956 q956 => ?_)
  refine z_ald2 (n := 960) (by decide +kernel) ?_
  refine z_ald0 (n := 961) (by decide +kernel) ?_
  refine z_ild3 (n := 962) (by decide +kernel) ?_
  refine z_iconst (n := 963) (q := 1) (v := 1) (by decide +kernel) ?_
  refine z_iadd (n := 964) (by decide +kernel) ?_
  refine z_top (show nI i + 1 = nI (i + 1) from nI_add i 1) ?_
  refine z_xald (n := 965) (k := i + 1) hSC (by omega) (by omega) (by decide +kernel) ?_
  refine z_ald0 (n := 966) (by decide +kernel) ?_
  refine z_ild3 (n := 967) (by decide +kernel) ?_
  refine z_iconst (n := 968) (q := 2) (v := 2) (by decide +kernel) ?_
  refine z_iadd (n := 969) (by decide +kernel) ?_
  refine z_top (show nI i + 2 = nI (i + 2) from nI_add i 2) ?_
  refine z_xald (n := 970) (k := i + 2) hSC (by omega) (by omega) (by decide +kernel) ?_
  refine z_w2 (n := 973) (idx := 116) (by decide +kernel) ml_L_116 (by first | assumption | exact q956.1.choose_spec) rfl (Nat.le_of_ble_eq_true rfl) (by omega) ⟨Nat.le_refl _, Nat.le_refl _⟩ (q956.2) (fun h970 q970 => ?_)
  refine z_icmp_eq_t (n := 976) (off := 54) (tgt := 1027) (by decide +kernel) (rfl) ?_
  exact K _ q970
theorem lw_c22 {G : mG} {h : mH} {n L i : Nat} {xs : Nat → Int32} {QQ : Option Value → mH → Prop} (hSC : ∀ U, gI G U → xOK G L xs U) (hST : ∀ U, gI G U → sOK G U) (hL : L ≤ 3073) (hi : i + 6 ≤ L) (hn : n < 40) (H : RelX 0 102 n h) (K : ∀ h', RelX 0 102 n h' → Z G m_L_law 30 120 4990 120 4990 1027 [some (.ref 1048600), some (.ref 0), some (.ref 102), some (.int (nI i))] [] h' QQ) : Z G m_L_law 30 120 4990 120 4990 978 [some (.ref 1048600), some (.ref 0), some (.ref 102), some (.int (nI i))] [] h QQ := by
  obtain ⟨⟨fc, hc⟩, -⟩ := rl_ob H
  refine z_ald1 (n := 979) (by decide +kernel) ?_
  refine z_e0 (n := 982) (idx := 117) (by decide +kernel) ml_L_117 (by first | assumption | exact q979.1.choose_spec) rfl (Nat.le_of_ble_eq_true rfl) (by omega) ⟨Nat.le_refl _, Nat.le_refl _⟩ (x_image 20 (by omega) hn (by omega) H) (fun x979 h979 q979 => ?_)
  refine z_ald2 (n := 983) (by decide +kernel) ?_
  refine z_w0 (n := 986) (idx := 120) (by decide +kernel) ml_L_120 (by first | assumption | exact q979.1.choose_spec) rfl (Nat.le_of_ble_eq_true rfl) (by omega) ⟨Nat.le_refl _, Nat.le_refl _⟩ (q979.2) (fun h983 q983 => ?_)
  refine z_icmp_eq_t (n := 989) (off := 41) (tgt := 1027) (by decide +kernel) (rfl) ?_
  exact K _ q983
theorem lw_c23 {G : mG} {h : mH} {n L i : Nat} {xs : Nat → Int32} {QQ : Option Value → mH → Prop} (hSC : ∀ U, gI G U → xOK G L xs U) (hST : ∀ U, gI G U → sOK G U) (hL : L ≤ 3073) (hi : i + 6 ≤ L) (hn : n < 40) (H : RelX 0 102 n h) (K : ∀ h', RelX 0 102 n h' → Z G m_L_law 30 120 4990 120 4990 1027 [some (.ref 1048600), some (.ref 0), some (.ref 102), some (.int (nI i))] [] h' QQ) : Z G m_L_law 30 120 4990 120 4990 991 [some (.ref 1048600), some (.ref 0), some (.ref 102), some (.int (nI i))] [] h QQ := by
  obtain ⟨⟨fc, hc⟩, -⟩ := rl_ob H
  refine z_ald1 (n := 992) (by decide +kernel) ?_
  refine z_e0 (n := 995) (idx := 121) (by decide +kernel) ml_L_121 (by first | assumption | exact q992.1.choose_spec) rfl (Nat.le_of_ble_eq_true rfl) (by omega) ⟨Nat.le_refl _, Nat.le_refl _⟩ (x_back 20 (by omega) hn (by omega) H) (fun x992 h992 q992 => ?_)
  refine z_ald2 (n := 996) (by decide +kernel) ?_
  refine z_w0 (n := 999) (idx := 124) (by decide +kernel) ml_L_124 (by first | assumption | exact q992.1.choose_spec) rfl (Nat.le_of_ble_eq_true rfl) (by omega) ⟨Nat.le_refl _, Nat.le_refl _⟩ (q992.2) (fun h996 q996 => ?_)
  refine z_icmp_eq_t (n := 1002) (off := 28) (tgt := 1027) (by decide +kernel) (rfl) ?_
  exact K _ q996
theorem lw_c24 {G : mG} {h : mH} {n L i : Nat} {xs : Nat → Int32} {QQ : Option Value → mH → Prop} (hSC : ∀ U, gI G U → xOK G L xs U) (hST : ∀ U, gI G U → sOK G U) (hL : L ≤ 3073) (hi : i + 6 ≤ L) (hn : n < 40) (H : RelX 0 102 n h) (K : ∀ h', RelX 0 102 n h' → Z G m_L_law 30 120 4990 120 4990 1027 [some (.ref 1048600), some (.ref 0), some (.ref 102), some (.int (nI i))] [] h' QQ) : Z G m_L_law 30 120 4990 120 4990 1004 [some (.ref 1048600), some (.ref 0), some (.ref 102), some (.int (nI i))] [] h QQ := by
  obtain ⟨⟨fc, hc⟩, -⟩ := rl_ob H
  refine z_ald1 (n := 1005) (by decide +kernel) ?_
  refine z_ald0 (n := 1006) (by decide +kernel) ?_
  refine z_ild3 (n := 1007) (by decide +kernel) ?_
  refine z_iconst (n := 1008) (q := 1) (v := 1) (by decide +kernel) ?_
  refine z_iadd (n := 1009) (by decide +kernel) ?_
  refine z_top (show nI i + 1 = nI (i + 1) from nI_add i 1) ?_
  refine z_xald (n := 1010) (k := i + 1) hSC (by omega) (by omega) (by decide +kernel) ?_
  refine z_e1 (n := 1013) (idx := 125) (by decide +kernel) ml_L_125 (by first | assumption | exact q1010.1.choose_spec) rfl (Nat.le_of_ble_eq_true rfl) (by omega) ⟨Nat.le_refl _, Nat.le_refl _⟩ (x_about 20 (by omega) hn (by omega) H) (fun x1010 h1010 q1010 => ?_)
  refine z_ald2 (n := 1014) (by decide +kernel) ?_
  refine z_ald0 (n := 1015) (by decide +kernel) ?_
  refine z_ild3 (n := 1016) (by decide +kernel) ?_
  refine z_iconst (n := 1017) (q := 1) (v := 1) (by decide +kernel) ?_
  refine z_iadd (n := 1018) (by decide +kernel) ?_
  refine z_top (show nI i + 1 = nI (i + 1) from nI_add i 1) ?_
  refine z_xald (n := 1019) (k := i + 1) hSC (by omega) (by omega) (by decide +kernel) ?_
  refine z_w1 (n := 1022) (idx := 128) (by decide +kernel) ml_L_128 (by first | assumption | exact q1010.1.choose_spec) rfl (Nat.le_of_ble_eq_true rfl) (by omega) ⟨Nat.le_refl _, Nat.le_refl _⟩ (q1010.2) (fun h1019 q1019 => ?_)
  refine z_icmp_eq_t (n := 1025) (off := 5) (tgt := 1027) (by decide +kernel) (rfl) ?_
  exact K _ q1019
