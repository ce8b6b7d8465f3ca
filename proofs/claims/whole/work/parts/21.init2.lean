/-! constructors: the rest that is plain -/
def pS0 (n : Nat) : pS := (fun i => match i with
  | 0 => 100
  | 1 => 10
  | 2 => 100
  | 3 => 40
  | _ => 0, fun i => match i with
  | 0 => cpN nI (fun _ => 0) (n + 1)
  | 1 => cpN (fun _ => 0) (fun _ => 0) (n + 1)
  | 5 => cpN (fun _ => -1) (fun _ => 0) (n + 1)
  | 6 => cpN (fun _ => -1) (fun _ => 0) (n + 1)
  | _ => fun _ => 0, fun i => match i with
  | 0 => cpN (fun _ => true) (fun _ => false) (n + 1)
  | _ => fun _ => false)
theorem i_paper {G : mG} {h : mH} {B n : Nat} (d : Nat) (hd : 3 ≤ d) (hz : szH h (B + 1)) (hB : h B = oB 2 [.null, .null, .int 0, .int 0, .int 0, .int 0, .int 0, .int 0]) (hN : n + 1 ≤ 40) : EV G m_X2_init d 12 412 [.ref B, .int (nI (n + 1))] h (fun r h' => r = none ∧ (∀ j, j < B → h' j = h j) ∧ szH h' (B + 13) ∧ pap h' B n (pS0 n)) := by
  refine ev_2_0 rfl rfl (by decide +kernel) (by decide +kernel) ?_
  refine z_ald0 (n := 1) (by decide +kernel) ?_
  refine z_objI (n := 4) (idx := 3) (by decide +kernel) jl_X2_3 (Nat.le_of_ble_eq_true rfl) (by omega) ?_
  refine z_ald0 (n := 5) (by decide +kernel) ?_
  refine z_bipush (n := 7) (q := 100) (v := 100) (by decide +kernel) ?_
  refine z_putf (n := 10) (idx := 9) (ty := .int) (by decide +kernel) fl_X2_9 (by first | assumption | (simp (disch := omega) only [hu_s, hu_n]; first | assumption | rfl)) ⟨_, _, _, rfl, rfl, by decide +kernel⟩ rfl rfl (Nat.le_of_ble_eq_true rfl) ?_
  refine z_ald0 (n := 11) (by decide +kernel) ?_
  refine z_bipush (n := 13) (q := 10) (v := 10) (by decide +kernel) ?_
  refine z_putf (n := 16) (idx := 15) (ty := .int) (by decide +kernel) fl_X2_15 (by first | assumption | (simp (disch := omega) only [hu_s, hu_n]; first | assumption | rfl)) ⟨_, _, _, rfl, rfl, by decide +kernel⟩ rfl rfl (Nat.le_of_ble_eq_true rfl) ?_
  refine z_ald0 (n := 17) (by decide +kernel) ?_
  refine z_bipush (n := 19) (q := 100) (v := 100) (by decide +kernel) ?_
  refine z_putf (n := 22) (idx := 18) (ty := .int) (by decide +kernel) fl_X2_18 (by first | assumption | (simp (disch := omega) only [hu_s, hu_n]; first | assumption | rfl)) ⟨_, _, _, rfl, rfl, by decide +kernel⟩ rfl rfl (Nat.le_of_ble_eq_true rfl) ?_
  refine z_ald0 (n := 23) (by decide +kernel) ?_
  refine z_bipush (n := 25) (q := 40) (v := 40) (by decide +kernel) ?_
  refine z_putf (n := 28) (idx := 21) (ty := .int) (by decide +kernel) fl_X2_21 (by first | assumption | (simp (disch := omega) only [hu_s, hu_n]; first | assumption | rfl)) ⟨_, _, _, rfl, rfl, by decide +kernel⟩ rfl rfl (Nat.le_of_ble_eq_true rfl) ?_
  refine z_ald0 (n := 29) (by decide +kernel) ?_
  refine z_new (n := 32) (idx := 24) (k := B + 1) (by decide +kernel) kc_X2_24 (by intro i9; (try simp only [hFl, hu]); (repeat' split); all_goals first | exact hz i9 | (rw [hz i9]; omega) | (constructor <;> intro q9 <;> first | omega | cases q9)) (by first | omega | (simp only [List.length]; omega)) (by first | omega | (simp only [List.length]; omega)) ?_
  refine z_dup (n := 33) (by decide +kernel) rfl ?_
  refine z_ild1 (n := 34) (by decide +kernel) ?_
  refine z_j1 (n := 37) (idx := 26) (by decide +kernel) ml_X2_26 ⟨rfl, rfl⟩ (Nat.le_of_ble_eq_true rfl) (by omega) ⟨by first | omega | (simp only [List.length]; omega), by first | omega | (simp only [List.length]; omega)⟩ (i_strip (S := B + 1) (N := n + 1) 2 (by omega) (szH_push (by intro i9; simp only [hu]; (repeat' split); all_goals first | exact hz i9 | (rw [hz i9]; omega) | (constructor <;> intro q9 <;> first | omega | cases q9)) oB_dd) (by simp (disch := omega) only [hTn, hCr, hFl, hu_s, hu_n]; first | done | assumption | rfl) hN) (fun h34 q34 => ?_)
  obtain ⟨f34, z34, s0, s1, s2, s3, s4⟩ := q34; have b34 : h34 B = oB 2 [.null, .null, .int 100, .int 10, .int 100, .int 40, .int 0, .int 0] := (f34 B (by omega)).trans (by simp (disch := omega) only [hu_s, hu_n]; rfl); have g34 : ∀ j, j < B → h34 j = h j := fun j hj => (f34 j (by omega)).trans (by simp (disch := omega) only [hu_n]); clear hz; have hz := z34
  refine z_putF (n := 40) (idx := 29) (ty := (.object "CreasedPaper$Strip")) (by decide +kernel) fl_X2_29 (by first | assumption | (simp (disch := omega) only [hu_s, hu_n]; first | assumption | rfl)) ⟨_, _, _, rfl, rfl, rfl, by decide +kernel⟩ rfl rfl (Nat.le_of_ble_eq_true rfl) ?_
  refine z_ald0 (n := 41) (by decide +kernel) ?_
  refine z_new (n := 44) (idx := 33) (k := B + 6) (by decide +kernel) kc_X2_33 (by intro i9; (try simp only [hFl, hu]); (repeat' split); all_goals first | exact hz i9 | (rw [hz i9]; omega) | (constructor <;> intro q9 <;> first | omega | cases q9)) (by first | omega | (simp only [List.length]; omega)) (by first | omega | (simp only [List.length]; omega)) ?_
  refine z_dup (n := 45) (by decide +kernel) rfl ?_
  refine z_ild1 (n := 46) (by decide +kernel) ?_
  refine z_j1 (n := 49) (idx := 35) (by decide +kernel) ml_X2_35 ⟨rfl, rfl⟩ (Nat.le_of_ble_eq_true rfl) (by omega) ⟨by first | omega | (simp only [List.length]; omega), by first | omega | (simp only [List.length]; omega)⟩ (i_creases (S := B + 6) (N := n + 1) 2 (by omega) (szH_push (by intro i9; simp only [hu]; (repeat' split); all_goals first | exact hz i9 | (rw [hz i9]; omega) | (constructor <;> intro q9 <;> first | omega | cases q9)) oB_dd) (by simp (disch := omega) only [hTn, hCr, hFl, hu_s, hu_n]; first | done | assumption | rfl) hN) (fun h46 q46 => ?_)
  obtain ⟨f46, z46, c0, c1, c2, c3, c4, c5, c6⟩ := q46; have b46 : h46 B = oB 2 [.ref (B + 1), .null, .int 100, .int 10, .int 100, .int 40, .int 0, .int 0] := (f46 B (by omega)).trans (by simp (disch := omega) only [hu_s, hu_n]; rfl)
  refine z_putF (n := 52) (idx := 36) (ty := (.object "CreasedPaper$Creases")) (by decide +kernel) fl_X2_36 (by first | assumption | (simp (disch := omega) only [hu_s, hu_n]; first | assumption | rfl)) ⟨_, _, _, rfl, rfl, rfl, by decide +kernel⟩ rfl rfl (Nat.le_of_ble_eq_true rfl) ?_
  refine z_vret (by decide +kernel) rfl (by first | omega | (simp only [List.length]; omega)) ?_
  exact ⟨rfl, by intro j9 hj9; rw [hu_n (by omega), f46 j9 (by omega)]; simp (disch := omega) only [hu_n]; exact g34 j9 hj9, szH_set z46 (by omega) oB_dd, ⟨0, fun _ => 0, by rw [hu_s]; rfl, by rw [hu_n (by omega), f46 _ (by omega)]; simp (disch := omega) only [hu_n]; exact s0, by rw [hu_n (by omega), f46 _ (by omega)]; simp (disch := omega) only [hu_n]; exact s1, by rw [hu_n (by omega), f46 _ (by omega)]; simp (disch := omega) only [hu_n]; exact s2, by rw [hu_n (by omega), f46 _ (by omega)]; simp (disch := omega) only [hu_n]; exact s3, by rw [hu_n (by omega), f46 _ (by omega)]; simp (disch := omega) only [hu_n]; exact s4, by rw [hu_n (by omega)]; exact c0, by rw [hu_n (by omega)]; exact c1, by rw [hu_n (by omega)]; exact c2, by rw [hu_n (by omega)]; exact c3, by rw [hu_n (by omega)]; exact c4, by rw [hu_n (by omega)]; exact c5, by rw [hu_n (by omega)]; exact c6⟩⟩
theorem i_sheets {G : mG} {h : mH} {S : Nat} (d : Nat) (hd : 1 ≤ d) (hz : szH h (S + 1)) (hS : h S = oB 6 [.int 0, .null, .null, .null, .null, .null]) : EV G m_X6_init d 5 30 [.ref S] h (fun r h' => r = none ∧ (∀ j, j < S → h' j = h j) ∧ szH h' (S + 6) ∧ she h' S (0, fun _ _ => 0)) := by
  refine ev_1_0 rfl (by decide +kernel) (by decide +kernel) ?_
  refine z_ald0 (n := 1) (by decide +kernel) ?_
  refine z_objI (n := 4) (idx := 3) (by decide +kernel) jl_X6_3 (Nat.le_of_ble_eq_true rfl) (by omega) ?_
  refine z_ald0 (n := 5) (by decide +kernel) ?_
  refine z_bipush (n := 7) (q := 6) (v := 6) (by decide +kernel) ?_
  refine z_newI (n := 9) (k := S + 1) (N := 6) (by decide +kernel) (by intro i9; (try simp only [hFl, hu]); (repeat' split); all_goals first | exact hz i9 | (rw [hz i9]; omega) | (constructor <;> intro q9 <;> first | omega | cases q9)) (by omega) (by first | omega | (simp only [List.length]; omega)) (by first | omega | (simp only [List.length]; omega)) ?_
  refine z_putF (n := 12) (idx := 11) (ty := (.array .int)) (by decide +kernel) fl_X6_11 (by first | assumption | (simp (disch := omega) only [hu_s, hu_n]; first | assumption | rfl)) ⟨_, _, _, rfl, rfl, rfl, by decide +kernel⟩ rfl rfl (Nat.le_of_ble_eq_true rfl) ?_
  refine z_ald0 (n := 13) (by decide +kernel) ?_
  refine z_bipush (n := 15) (q := 6) (v := 6) (by decide +kernel) ?_
  refine z_newI (n := 17) (k := S + 2) (N := 6) (by decide +kernel) (by intro i9; (try simp only [hFl, hu]); (repeat' split); all_goals first | exact hz i9 | (rw [hz i9]; omega) | (constructor <;> intro q9 <;> first | omega | cases q9)) (by omega) (by first | omega | (simp only [List.length]; omega)) (by first | omega | (simp only [List.length]; omega)) ?_
  refine z_putF (n := 20) (idx := 15) (ty := (.array .int)) (by decide +kernel) fl_X6_15 (by first | assumption | (simp (disch := omega) only [hu_s, hu_n]; first | assumption | rfl)) ⟨_, _, _, rfl, rfl, rfl, by decide +kernel⟩ rfl rfl (Nat.le_of_ble_eq_true rfl) ?_
  refine z_ald0 (n := 21) (by decide +kernel) ?_
  refine z_bipush (n := 23) (q := 6) (v := 6) (by decide +kernel) ?_
  refine z_newI (n := 25) (k := S + 3) (N := 6) (by decide +kernel) (by intro i9; (try simp only [hFl, hu]); (repeat' split); all_goals first | exact hz i9 | (rw [hz i9]; omega) | (constructor <;> intro q9 <;> first | omega | cases q9)) (by omega) (by first | omega | (simp only [List.length]; omega)) (by first | omega | (simp only [List.length]; omega)) ?_
  refine z_putF (n := 28) (idx := 18) (ty := (.array .int)) (by decide +kernel) fl_X6_18 (by first | assumption | (simp (disch := omega) only [hu_s, hu_n]; first | assumption | rfl)) ⟨_, _, _, rfl, rfl, rfl, by decide +kernel⟩ rfl rfl (Nat.le_of_ble_eq_true rfl) ?_
  refine z_ald0 (n := 29) (by decide +kernel) ?_
  refine z_bipush (n := 31) (q := 6) (v := 6) (by decide +kernel) ?_
  refine z_newI (n := 33) (k := S + 4) (N := 6) (by decide +kernel) (by intro i9; (try simp only [hFl, hu]); (repeat' split); all_goals first | exact hz i9 | (rw [hz i9]; omega) | (constructor <;> intro q9 <;> first | omega | cases q9)) (by omega) (by first | omega | (simp only [List.length]; omega)) (by first | omega | (simp only [List.length]; omega)) ?_
  refine z_putF (n := 36) (idx := 21) (ty := (.array .int)) (by decide +kernel) fl_X6_21 (by first | assumption | (simp (disch := omega) only [hu_s, hu_n]; first | assumption | rfl)) ⟨_, _, _, rfl, rfl, rfl, by decide +kernel⟩ rfl rfl (Nat.le_of_ble_eq_true rfl) ?_
  refine z_ald0 (n := 37) (by decide +kernel) ?_
  refine z_bipush (n := 39) (q := 6) (v := 6) (by decide +kernel) ?_
  refine z_newI (n := 41) (k := S + 5) (N := 6) (by decide +kernel) (by intro i9; (try simp only [hFl, hu]); (repeat' split); all_goals first | exact hz i9 | (rw [hz i9]; omega) | (constructor <;> intro q9 <;> first | omega | cases q9)) (by omega) (by first | omega | (simp only [List.length]; omega)) (by first | omega | (simp only [List.length]; omega)) ?_
  refine z_putF (n := 44) (idx := 24) (ty := (.array .int)) (by decide +kernel) fl_X6_24 (by first | assumption | (simp (disch := omega) only [hu_s, hu_n]; first | assumption | rfl)) ⟨_, _, _, rfl, rfl, rfl, by decide +kernel⟩ rfl rfl (Nat.le_of_ble_eq_true rfl) ?_
  refine z_vret (by decide +kernel) rfl (by first | omega | (simp only [List.length]; omega)) ?_
  exact ⟨rfl, by intro j9 hj9; simp (disch := omega) only [hu_n], (szH_of (n := 5) hz (by intro j9 hj9; simp (disch := omega) only [hFl, hu_n]) (by intro j9 hj9; simp (disch := omega) only [hFl, hu_n]) (by intro j9 hj9; rcases (show j9 = 0 ∨ j9 = 1 ∨ j9 = 2 ∨ j9 = 3 ∨ j9 = 4 ∨ j9 = 5 by omega) with rfl | rfl | rfl | rfl | rfl | rfl <;> (simp (disch := omega) only [Nat.add_zero, hFl, hu_s, hu_n]; first | exact oB_dd | exact aI_dd | exact aZ_dd | exact aR_dd))), (by simp (disch := omega) only [hTn, hCr, hFl, hu_s, hu_n]; first | done | assumption | rfl), (by simp (disch := omega) only [hTn, hCr, hFl, hu_s, hu_n]; first | done | assumption | rfl), (by simp (disch := omega) only [hTn, hCr, hFl, hu_s, hu_n]; first | done | assumption | rfl), (by simp (disch := omega) only [hTn, hCr, hFl, hu_s, hu_n]; first | done | assumption | rfl), (by simp (disch := omega) only [hTn, hCr, hFl, hu_s, hu_n]; first | done | assumption | rfl), (by simp (disch := omega) only [hTn, hCr, hFl, hu_s, hu_n]; first | done | assumption | rfl)⟩
theorem i_seen {G : mG} {h : mH} {S : Nat} (d : Nat) (hd : 1 ≤ d) (hz : szH h (S + 1)) (hS : h S = oB 4 [.int 0, .int 0, .null, .null]) : EV G m_X4_init d 2 200 [.ref S] h (fun r h' => r = none ∧ (∀ j, j < S → h' j = h j) ∧ szH h' (S + 3) ∧ see h' S ((0, 0), (fun _ => 0), fun _ => 0)) := by
  refine ev_1_0 rfl (by decide +kernel) (by decide +kernel) ?_
  refine z_ald0 (n := 1) (by decide +kernel) ?_
  refine z_objI (n := 4) (idx := 3) (by decide +kernel) jl_X4_3 (Nat.le_of_ble_eq_true rfl) (by omega) ?_
  refine z_ald0 (n := 5) (by decide +kernel) ?_
  refine z_bipush (n := 7) (q := 100) (v := 100) (by decide +kernel) ?_
  refine z_newI (n := 9) (k := S + 1) (N := 100) (by decide +kernel) (by intro i9; (try simp only [hFl, hu]); (repeat' split); all_goals first | exact hz i9 | (rw [hz i9]; omega) | (constructor <;> intro q9 <;> first | omega | cases q9)) (by omega) (by first | omega | (simp only [List.length]; omega)) (by first | omega | (simp only [List.length]; omega)) ?_
  refine z_putF (n := 12) (idx := 11) (ty := (.array .int)) (by decide +kernel) fl_X4_11 (by first | assumption | (simp (disch := omega) only [hu_s, hu_n]; first | assumption | rfl)) ⟨_, _, _, rfl, rfl, rfl, by decide +kernel⟩ rfl rfl (Nat.le_of_ble_eq_true rfl) ?_
  refine z_ald0 (n := 13) (by decide +kernel) ?_
  refine z_bipush (n := 15) (q := 100) (v := 100) (by decide +kernel) ?_
  refine z_newI (n := 17) (k := S + 2) (N := 100) (by decide +kernel) (by intro i9; (try simp only [hFl, hu]); (repeat' split); all_goals first | exact hz i9 | (rw [hz i9]; omega) | (constructor <;> intro q9 <;> first | omega | cases q9)) (by omega) (by first | omega | (simp only [List.length]; omega)) (by first | omega | (simp only [List.length]; omega)) ?_
  refine z_putF (n := 20) (idx := 15) (ty := (.array .int)) (by decide +kernel) fl_X4_15 (by first | assumption | (simp (disch := omega) only [hu_s, hu_n]; first | assumption | rfl)) ⟨_, _, _, rfl, rfl, rfl, by decide +kernel⟩ rfl rfl (Nat.le_of_ble_eq_true rfl) ?_
  refine z_vret (by decide +kernel) rfl (by first | omega | (simp only [List.length]; omega)) ?_
  exact ⟨rfl, by intro j9 hj9; simp (disch := omega) only [hu_n], (szH_of (n := 2) hz (by intro j9 hj9; simp (disch := omega) only [hFl, hu_n]) (by intro j9 hj9; simp (disch := omega) only [hFl, hu_n]) (by intro j9 hj9; rcases (show j9 = 0 ∨ j9 = 1 ∨ j9 = 2 by omega) with rfl | rfl | rfl <;> (simp (disch := omega) only [Nat.add_zero, hFl, hu_s, hu_n]; first | exact oB_dd | exact aI_dd | exact aZ_dd | exact aR_dd))), (by simp (disch := omega) only [hTn, hCr, hFl, hu_s, hu_n]; first | done | assumption | rfl), (by simp (disch := omega) only [hTn, hCr, hFl, hu_s, hu_n]; first | done | assumption | rfl), (by simp (disch := omega) only [hTn, hCr, hFl, hu_s, hu_n]; first | done | assumption | rfl)⟩
/-- the tape: bytes, length; kind, start, behind, value -/
def oTap (P : Nat) (ln kd sa bh vl : Int32) : mE := oB 8 [.ref (P + 1), .int ln, .int kd, .int sa, .int bh, .int vl]
theorem i_tape {G : mG} {h : mH} {S : Nat} (d : Nat) (hd : 1 ≤ d) (hz : szH h (S + 1)) (hS : h S = oB 8 [.null, .int 0, .int 0, .int 0, .int 0, .int 0]) : EV G m_X8_init d 1 300 [.ref S] h (fun r h' => r = none ∧ (∀ j, j < S → h' j = h j) ∧ szH h' (S + 2) ∧ h' S = oTap S 0 0 0 0 0 ∧ h' (S + 1) = aI 300 (fun _ => 0)) := by
  refine ev_1_0 rfl (by decide +kernel) (by decide +kernel) ?_
  refine z_ald0 (n := 1) (by decide +kernel) ?_
  refine z_objI (n := 4) (idx := 1) (by decide +kernel) jl_X8_1 (Nat.le_of_ble_eq_true rfl) (by omega) ?_
  refine z_ald0 (n := 5) (by decide +kernel) ?_
  refine z_sipush (n := 8) (q := 300) (v := 300) (by decide +kernel) ?_
  refine z_newI (n := 10) (k := S + 1) (N := 300) (by decide +kernel) (by intro i9; (try simp only [hFl, hu]); (repeat' split); all_goals first | exact hz i9 | (rw [hz i9]; omega) | (constructor <;> intro q9 <;> first | omega | cases q9)) (by omega) (by first | omega | (simp only [List.length]; omega)) (by first | omega | (simp only [List.length]; omega)) ?_
  refine z_putF (n := 13) (idx := 9) (ty := (.array .int)) (by decide +kernel) fl_X8_9 (by first | assumption | (simp (disch := omega) only [hu_s, hu_n]; first | assumption | rfl)) ⟨_, _, _, rfl, rfl, rfl, by decide +kernel⟩ rfl rfl (Nat.le_of_ble_eq_true rfl) ?_
  refine z_vret (by decide +kernel) rfl (by first | omega | (simp only [List.length]; omega)) ?_
  exact ⟨rfl, by intro j9 hj9; simp (disch := omega) only [hu_n], (szH_of (n := 1) hz (by intro j9 hj9; simp (disch := omega) only [hFl, hu_n]) (by intro j9 hj9; simp (disch := omega) only [hFl, hu_n]) (by intro j9 hj9; rcases (show j9 = 0 ∨ j9 = 1 by omega) with rfl | rfl <;> (simp (disch := omega) only [Nat.add_zero, hFl, hu_s, hu_n]; first | exact oB_dd | exact aI_dd | exact aZ_dd | exact aR_dd))), (by simp (disch := omega) only [hTn, hCr, hFl, hu_s, hu_n]; first | done | assumption | rfl), (by simp (disch := omega) only [hTn, hCr, hFl, hu_s, hu_n]; first | done | assumption | rfl)⟩
/-- the text: wasRead, faultKind, faultPlace, stoppedAt, rows verb .. openAgains (X + 1 .. X + 6), dos, depth, actsDone -/
def oTex (X : Nat) (wr : Bool) (fk fp sp ds dp ad : Int32) : mE := oB 9 [.int (bI wr), .int fk, .int fp, .int sp, .ref (X + 1), .ref (X + 2), .ref (X + 3), .ref (X + 4), .ref (X + 5), .ref (X + 6), .int ds, .int dp, .int ad]
theorem i_text {G : mG} {h : mH} {S : Nat} (d : Nat) (hd : 1 ≤ d) (hz : szH h (S + 1)) (hS : h S = oB 9 [.int 0, .int 0, .int 0, .int 0, .null, .null, .null, .null, .null, .null, .int 0, .int 0, .int 0]) : EV G m_X9_init d 6 204 [.ref S] h (fun r h' => r = none ∧ (∀ j, j < S → h' j = h j) ∧ szH h' (S + 7) ∧ h' S = oTex S false 0 (-1) (-1) 0 0 0 ∧ h' (S + 1) = aI 40 (fun _ => 0) ∧ h' (S + 2) = aI 40 (fun _ => 0) ∧ h' (S + 3) = aZ 40 (fun _ => false) ∧ h' (S + 4) = aI 40 (fun _ => 0) ∧ h' (S + 5) = aI 40 (fun _ => 0) ∧ h' (S + 6) = aI 4 (fun _ => 0)) := by
  refine ev_1_0 rfl (by decide +kernel) (by decide +kernel) ?_
  refine z_ald0 (n := 1) (by decide +kernel) ?_
  refine z_objI (n := 4) (idx := 3) (by decide +kernel) jl_X9_3 (Nat.le_of_ble_eq_true rfl) (by omega) ?_
  refine z_ald0 (n := 5) (by decide +kernel) ?_
  refine z_iconst (n := 6) (q := -1) (v := -1) (by decide +kernel) ?_
  refine z_putf (n := 9) (idx := 9) (ty := .int) (by decide +kernel) fl_X9_9 (by first | assumption | (simp (disch := omega) only [hu_s, hu_n]; first | assumption | rfl)) ⟨_, _, _, rfl, rfl, by decide +kernel⟩ rfl rfl (Nat.le_of_ble_eq_true rfl) ?_
  refine z_ald0 (n := 10) (by decide +kernel) ?_
  refine z_iconst (n := 11) (q := -1) (v := -1) (by decide +kernel) ?_
  refine z_putf (n := 14) (idx := 15) (ty := .int) (by decide +kernel) fl_X9_15 (by first | assumption | (simp (disch := omega) only [hu_s, hu_n]; first | assumption | rfl)) ⟨_, _, _, rfl, rfl, by decide +kernel⟩ rfl rfl (Nat.le_of_ble_eq_true rfl) ?_
  refine z_ald0 (n := 15) (by decide +kernel) ?_
  refine z_bipush (n := 17) (q := 40) (v := 40) (by decide +kernel) ?_
  refine z_newI (n := 19) (k := S + 1) (N := 40) (by decide +kernel) (by intro i9; (try simp only [hFl, hu]); (repeat' split); all_goals first | exact hz i9 | (rw [hz i9]; omega) | (constructor <;> intro q9 <;> first | omega | cases q9)) (by omega) (by first | omega | (simp only [List.length]; omega)) (by first | omega | (simp only [List.length]; omega)) ?_
  refine z_putF (n := 22) (idx := 18) (ty := (.array .int)) (by decide +kernel) fl_X9_18 (by first | assumption | (simp (disch := omega) only [hu_s, hu_n]; first | assumption | rfl)) ⟨_, _, _, rfl, rfl, rfl, by decide +kernel⟩ rfl rfl (Nat.le_of_ble_eq_true rfl) ?_
  refine z_ald0 (n := 23) (by decide +kernel) ?_
  refine z_bipush (n := 25) (q := 40) (v := 40) (by decide +kernel) ?_
  refine z_newI (n := 27) (k := S + 2) (N := 40) (by decide +kernel) (by intro i9; (try simp only [hFl, hu]); (repeat' split); all_goals first | exact hz i9 | (rw [hz i9]; omega) | (constructor <;> intro q9 <;> first | omega | cases q9)) (by omega) (by first | omega | (simp only [List.length]; omega)) (by first | omega | (simp only [List.length]; omega)) ?_
  refine z_putF (n := 30) (idx := 22) (ty := (.array .int)) (by decide +kernel) fl_X9_22 (by first | assumption | (simp (disch := omega) only [hu_s, hu_n]; first | assumption | rfl)) ⟨_, _, _, rfl, rfl, rfl, by decide +kernel⟩ rfl rfl (Nat.le_of_ble_eq_true rfl) ?_
  refine z_ald0 (n := 31) (by decide +kernel) ?_
  refine z_bipush (n := 33) (q := 40) (v := 40) (by decide +kernel) ?_
  refine z_newZ (n := 35) (k := S + 3) (N := 40) (by decide +kernel) (by intro i9; (try simp only [hFl, hu]); (repeat' split); all_goals first | exact hz i9 | (rw [hz i9]; omega) | (constructor <;> intro q9 <;> first | omega | cases q9)) (by omega) (by first | omega | (simp only [List.length]; omega)) (by first | omega | (simp only [List.length]; omega)) ?_
  refine z_putF (n := 38) (idx := 25) (ty := (.array .boolean)) (by decide +kernel) fl_X9_25 (by first | assumption | (simp (disch := omega) only [hu_s, hu_n]; first | assumption | rfl)) ⟨_, _, _, rfl, rfl, rfl, by decide +kernel⟩ rfl rfl (Nat.le_of_ble_eq_true rfl) ?_
  refine z_ald0 (n := 39) (by decide +kernel) ?_
  refine z_bipush (n := 41) (q := 40) (v := 40) (by decide +kernel) ?_
  refine z_newI (n := 43) (k := S + 4) (N := 40) (by decide +kernel) (by intro i9; (try simp only [hFl, hu]); (repeat' split); all_goals first | exact hz i9 | (rw [hz i9]; omega) | (constructor <;> intro q9 <;> first | omega | cases q9)) (by omega) (by first | omega | (simp only [List.length]; omega)) (by first | omega | (simp only [List.length]; omega)) ?_
  refine z_putF (n := 46) (idx := 29) (ty := (.array .int)) (by decide +kernel) fl_X9_29 (by first | assumption | (simp (disch := omega) only [hu_s, hu_n]; first | assumption | rfl)) ⟨_, _, _, rfl, rfl, rfl, by decide +kernel⟩ rfl rfl (Nat.le_of_ble_eq_true rfl) ?_
  refine z_ald0 (n := 47) (by decide +kernel) ?_
  refine z_bipush (n := 49) (q := 40) (v := 40) (by decide +kernel) ?_
  refine z_newI (n := 51) (k := S + 5) (N := 40) (by decide +kernel) (by intro i9; (try simp only [hFl, hu]); (repeat' split); all_goals first | exact hz i9 | (rw [hz i9]; omega) | (constructor <;> intro q9 <;> first | omega | cases q9)) (by omega) (by first | omega | (simp only [List.length]; omega)) (by first | omega | (simp only [List.length]; omega)) ?_
  refine z_putF (n := 54) (idx := 32) (ty := (.array .int)) (by decide +kernel) fl_X9_32 (by first | assumption | (simp (disch := omega) only [hu_s, hu_n]; first | assumption | rfl)) ⟨_, _, _, rfl, rfl, rfl, by decide +kernel⟩ rfl rfl (Nat.le_of_ble_eq_true rfl) ?_
  refine z_ald0 (n := 55) (by decide +kernel) ?_
  refine z_iconst (n := 56) (q := 4) (v := 4) (by decide +kernel) ?_
  refine z_newI (n := 58) (k := S + 6) (N := 4) (by decide +kernel) (by intro i9; (try simp only [hFl, hu]); (repeat' split); all_goals first | exact hz i9 | (rw [hz i9]; omega) | (constructor <;> intro q9 <;> first | omega | cases q9)) (by omega) (by first | omega | (simp only [List.length]; omega)) (by first | omega | (simp only [List.length]; omega)) ?_
  refine z_putF (n := 61) (idx := 35) (ty := (.array .int)) (by decide +kernel) fl_X9_35 (by first | assumption | (simp (disch := omega) only [hu_s, hu_n]; first | assumption | rfl)) ⟨_, _, _, rfl, rfl, rfl, by decide +kernel⟩ rfl rfl (Nat.le_of_ble_eq_true rfl) ?_
  refine z_vret (by decide +kernel) rfl (by first | omega | (simp only [List.length]; omega)) ?_
  exact ⟨rfl, by intro j9 hj9; simp (disch := omega) only [hu_n], (szH_of (n := 6) hz (by intro j9 hj9; simp (disch := omega) only [hFl, hu_n]) (by intro j9 hj9; simp (disch := omega) only [hFl, hu_n]) (by intro j9 hj9; rcases (show j9 = 0 ∨ j9 = 1 ∨ j9 = 2 ∨ j9 = 3 ∨ j9 = 4 ∨ j9 = 5 ∨ j9 = 6 by omega) with rfl | rfl | rfl | rfl | rfl | rfl | rfl <;> (simp (disch := omega) only [Nat.add_zero, hFl, hu_s, hu_n]; first | exact oB_dd | exact aI_dd | exact aZ_dd | exact aR_dd))), (by simp (disch := omega) only [hTn, hCr, hFl, hu_s, hu_n]; first | done | assumption | rfl), (by simp (disch := omega) only [hTn, hCr, hFl, hu_s, hu_n]; first | done | assumption | rfl), (by simp (disch := omega) only [hTn, hCr, hFl, hu_s, hu_n]; first | done | assumption | rfl), (by simp (disch := omega) only [hTn, hCr, hFl, hu_s, hu_n]; first | done | assumption | rfl), (by simp (disch := omega) only [hTn, hCr, hFl, hu_s, hu_n]; first | done | assumption | rfl), (by simp (disch := omega) only [hTn, hCr, hFl, hu_s, hu_n]; first | done | assumption | rfl), (by simp (disch := omega) only [hTn, hCr, hFl, hu_s, hu_n]; first | done | assumption | rfl)⟩
theorem i_shapes {G : mG} {h : mH} {S : Nat} (d : Nat) (hd : 1 ≤ d) (hz : szH h (S + 1)) (hS : h S = oB 5 [.int 0, .int 0, .int 0, .null]) : EV G m_X5_init d 1 361 [.ref S] h (fun r h' => r = none ∧ (∀ j, j < S → h' j = h j) ∧ szH h' (S + 2) ∧ h' S = oSha S 0 0 0 ∧ h' (S + 1) = aI 361 (fun _ => 0)) := by
  refine ev_1_0 rfl (by decide +kernel) (by decide +kernel) ?_
  refine z_ald0 (n := 1) (by decide +kernel) ?_
  refine z_objI (n := 4) (idx := 3) (by decide +kernel) jl_X5_3 (Nat.le_of_ble_eq_true rfl) (by omega) ?_
  refine z_ald0 (n := 5) (by decide +kernel) ?_
  refine z_sipush (n := 8) (q := 361) (v := 361) (by decide +kernel) ?_
  refine z_newI (n := 10) (k := S + 1) (N := 361) (by decide +kernel) (by intro i9; (try simp only [hFl, hu]); (repeat' split); all_goals first | exact hz i9 | (rw [hz i9]; omega) | (constructor <;> intro q9 <;> first | omega | cases q9)) (by omega) (by first | omega | (simp only [List.length]; omega)) (by first | omega | (simp only [List.length]; omega)) ?_
  refine z_putF (n := 13) (idx := 11) (ty := (.array .int)) (by decide +kernel) fl_X5_11 (by first | assumption | (simp (disch := omega) only [hu_s, hu_n]; first | assumption | rfl)) ⟨_, _, _, rfl, rfl, rfl, by decide +kernel⟩ rfl rfl (Nat.le_of_ble_eq_true rfl) ?_
  refine z_vret (by decide +kernel) rfl (by first | omega | (simp only [List.length]; omega)) ?_
  exact ⟨rfl, by intro j9 hj9; simp (disch := omega) only [hu_n], (szH_of (n := 1) hz (by intro j9 hj9; simp (disch := omega) only [hFl, hu_n]) (by intro j9 hj9; simp (disch := omega) only [hFl, hu_n]) (by intro j9 hj9; rcases (show j9 = 0 ∨ j9 = 1 by omega) with rfl | rfl <;> (simp (disch := omega) only [Nat.add_zero, hFl, hu_s, hu_n]; first | exact oB_dd | exact aI_dd | exact aZ_dd | exact aR_dd))), (by simp (disch := omega) only [hTn, hCr, hFl, hu_s, hu_n]; first | done | assumption | rfl), (by simp (disch := omega) only [hTn, hCr, hFl, hu_s, hu_n]; first | done | assumption | rfl)⟩
def oPan (P : Nat) (ct wt fd : Int32) : mE := oB 1 [.ref (P + 1), .ref (P + 2), .ref (P + 3), .int ct, .int wt, .int fd]
theorem i_panels {G : mG} {h : mH} {S : Nat} (d : Nat) (hd : 1 ≤ d) (hz : szH h (S + 1)) (hS : h S = oB 1 [.null, .null, .null, .int 0, .int 0, .int 0]) : EV G m_X1_init d 3 24 [.ref S] h (fun r h' => r = none ∧ (∀ j, j < S → h' j = h j) ∧ szH h' (S + 4) ∧ h' S = oPan S 0 0 0 ∧ h' (S + 1) = aI 8 (fun _ => 0) ∧ h' (S + 2) = aI 8 (fun _ => 0) ∧ h' (S + 3) = aI 8 (fun _ => 0)) := by
  refine ev_1_0 rfl (by decide +kernel) (by decide +kernel) ?_
  refine z_ald0 (n := 1) (by decide +kernel) ?_
  refine z_objI (n := 4) (idx := 3) (by decide +kernel) jl_X1_3 (Nat.le_of_ble_eq_true rfl) (by omega) ?_
  refine z_ald0 (n := 5) (by decide +kernel) ?_
  refine z_bipush (n := 7) (q := 8) (v := 8) (by decide +kernel) ?_
  refine z_newI (n := 9) (k := S + 1) (N := 8) (by decide +kernel) (by intro i9; (try simp only [hFl, hu]); (repeat' split); all_goals first | exact hz i9 | (rw [hz i9]; omega) | (constructor <;> intro q9 <;> first | omega | cases q9)) (by omega) (by first | omega | (simp only [List.length]; omega)) (by first | omega | (simp only [List.length]; omega)) ?_
  refine z_putF (n := 12) (idx := 11) (ty := (.array .int)) (by decide +kernel) fl_X1_11 (by first | assumption | (simp (disch := omega) only [hu_s, hu_n]; first | assumption | rfl)) ⟨_, _, _, rfl, rfl, rfl, by decide +kernel⟩ rfl rfl (Nat.le_of_ble_eq_true rfl) ?_
  refine z_ald0 (n := 13) (by decide +kernel) ?_
  refine z_bipush (n := 15) (q := 8) (v := 8) (by decide +kernel) ?_
  refine z_newI (n := 17) (k := S + 2) (N := 8) (by decide +kernel) (by intro i9; (try simp only [hFl, hu]); (repeat' split); all_goals first | exact hz i9 | (rw [hz i9]; omega) | (constructor <;> intro q9 <;> first | omega | cases q9)) (by omega) (by first | omega | (simp only [List.length]; omega)) (by first | omega | (simp only [List.length]; omega)) ?_
  refine z_putF (n := 20) (idx := 15) (ty := (.array .int)) (by decide +kernel) fl_X1_15 (by first | assumption | (simp (disch := omega) only [hu_s, hu_n]; first | assumption | rfl)) ⟨_, _, _, rfl, rfl, rfl, by decide +kernel⟩ rfl rfl (Nat.le_of_ble_eq_true rfl) ?_
  refine z_ald0 (n := 21) (by decide +kernel) ?_
  refine z_bipush (n := 23) (q := 8) (v := 8) (by decide +kernel) ?_
  refine z_newI (n := 25) (k := S + 3) (N := 8) (by decide +kernel) (by intro i9; (try simp only [hFl, hu]); (repeat' split); all_goals first | exact hz i9 | (rw [hz i9]; omega) | (constructor <;> intro q9 <;> first | omega | cases q9)) (by omega) (by first | omega | (simp only [List.length]; omega)) (by first | omega | (simp only [List.length]; omega)) ?_
  refine z_putF (n := 28) (idx := 18) (ty := (.array .int)) (by decide +kernel) fl_X1_18 (by first | assumption | (simp (disch := omega) only [hu_s, hu_n]; first | assumption | rfl)) ⟨_, _, _, rfl, rfl, rfl, by decide +kernel⟩ rfl rfl (Nat.le_of_ble_eq_true rfl) ?_
  refine z_vret (by decide +kernel) rfl (by first | omega | (simp only [List.length]; omega)) ?_
  exact ⟨rfl, by intro j9 hj9; simp (disch := omega) only [hu_n], (szH_of (n := 3) hz (by intro j9 hj9; simp (disch := omega) only [hFl, hu_n]) (by intro j9 hj9; simp (disch := omega) only [hFl, hu_n]) (by intro j9 hj9; rcases (show j9 = 0 ∨ j9 = 1 ∨ j9 = 2 ∨ j9 = 3 by omega) with rfl | rfl | rfl | rfl <;> (simp (disch := omega) only [Nat.add_zero, hFl, hu_s, hu_n]; first | exact oB_dd | exact aI_dd | exact aZ_dd | exact aR_dd))), (by simp (disch := omega) only [hTn, hCr, hFl, hu_s, hu_n]; first | done | assumption | rfl), (by simp (disch := omega) only [hTn, hCr, hFl, hu_s, hu_n]; first | done | assumption | rfl), (by simp (disch := omega) only [hTn, hCr, hFl, hu_s, hu_n]; first | done | assumption | rfl), (by simp (disch := omega) only [hTn, hCr, hFl, hu_s, hu_n]; first | done | assumption | rfl)⟩
