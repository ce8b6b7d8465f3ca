/-! String constants: the words, the rules, length and charAt -/
def m_J0_length : mD := (⟨"java/lang/String", "length", "()I"⟩, prog_15_method_54_code, 1, (some .int))
theorem cc_J0_length : cC m_J0_length 0 := ⟨tb_at (w := .code ⟨"java/lang/String", "length", "()I"⟩ prog_15_method_54_code 1 (some .int)) 648 (by decide +kernel) (by decide +kernel), tb_at (w := .initialized "java/lang/String") 70 (by decide +kernel) (by decide +kernel), by decide +kernel, by decide⟩
def m_J0_coder : mD := (⟨"java/lang/String", "coder", "()B"⟩, prog_15_method_152_code, 1, (some .byte))
theorem cc_J0_coder : cC m_J0_coder 0 := ⟨tb_at (w := .code ⟨"java/lang/String", "coder", "()B"⟩ prog_15_method_152_code 1 (some .byte)) 652 (by decide +kernel) (by decide +kernel), tb_at (w := .initialized "java/lang/String") 70 (by decide +kernel) (by decide +kernel), by decide +kernel, by decide⟩
def m_J0_charAt : mD := (⟨"java/lang/String", "charAt", "(I)C"⟩, prog_15_method_56_code, 2, (some .char))
theorem cc_J0_charAt : cC m_J0_charAt 1 := ⟨tb_at (w := .code ⟨"java/lang/String", "charAt", "(I)C"⟩ prog_15_method_56_code 2 (some .char)) 658 (by decide +kernel) (by decide +kernel), tb_at (w := .initialized "java/lang/String") 70 (by decide +kernel) (by decide +kernel), by decide +kernel, by decide⟩
def m_J0_isLatin1 : mD := (⟨"java/lang/String", "isLatin1", "()Z"⟩, prog_15_method_154_code, 1, (some .boolean))
theorem cc_J0_isLatin1 : cC m_J0_isLatin1 0 := ⟨tb_at (w := .code ⟨"java/lang/String", "isLatin1", "()Z"⟩ prog_15_method_154_code 1 (some .boolean)) 662 (by decide +kernel) (by decide +kernel), tb_at (w := .initialized "java/lang/String") 70 (by decide +kernel) (by decide +kernel), by decide +kernel, by decide⟩
def m_J1_charAt : mD := (⟨"java/lang/StringLatin1", "charAt", "([BI)C"⟩, prog_16_method_2_code, 2, (some .char))
theorem cc_J1_charAt : cC m_J1_charAt 2 := ⟨tb_at (w := .code ⟨"java/lang/StringLatin1", "charAt", "([BI)C"⟩ prog_16_method_2_code 2 (some .char)) 665 (by decide +kernel) (by decide +kernel), tb_at (w := .initialized "java/lang/StringLatin1") 71 (by decide +kernel) (by decide +kernel), by decide +kernel, by decide⟩
def m_J0_checkIndex : mD := (⟨"java/lang/String", "checkIndex", "(II)V"⟩, prog_15_method_155_code, 2, none)
theorem cc_J0_checkIndex : cC m_J0_checkIndex 2 := ⟨tb_at (w := .code ⟨"java/lang/String", "checkIndex", "(II)V"⟩ prog_15_method_155_code 2 none) 668 (by decide +kernel) (by decide +kernel), tb_at (w := .initialized "java/lang/String") 70 (by decide +kernel) (by decide +kernel), by decide +kernel, by decide⟩
def m_J3_checkIndex : mD := (⟨"jdk/internal/util/Preconditions", "checkIndex", "(IILjava/util/function/BiFunction;)I"⟩, prog_19_method_11_code, 3, (some .int))
theorem cc_J3_checkIndex : cC m_J3_checkIndex 3 := ⟨tb_at (w := .code ⟨"jdk/internal/util/Preconditions", "checkIndex", "(IILjava/util/function/BiFunction;)I"⟩ prog_19_method_11_code 3 (some .int)) 673 (by decide +kernel) (by decide +kernel), tb_at (w := .initialized "jdk/internal/util/Preconditions") 72 (by decide +kernel) (by decide +kernel), by decide +kernel, by decide⟩
theorem ml_X8_45 : cV "CreasedPaper$Tape" 45 m_J0_length 0 := ⟨cc_J0_length, tb_at (w := .methodLink "CreasedPaper$Tape" 45 ⟨"java/lang/String", "length", "()I"⟩) 645 (by decide +kernel) (by decide +kernel), tb_at (w := .instanceMethod ⟨"java/lang/String", "length", "()I"⟩) 646 (by decide +kernel) (by decide +kernel), tb_at (w := .selects "java/lang/String" ⟨"java/lang/String", "length", "()I"⟩ ⟨"java/lang/String", "length", "()I"⟩) 647 (by decide +kernel) (by decide +kernel)⟩
theorem ml_X8_50 : cV "CreasedPaper$Tape" 50 m_J0_charAt 1 := ⟨cc_J0_charAt, tb_at (w := .methodLink "CreasedPaper$Tape" 50 ⟨"java/lang/String", "charAt", "(I)C"⟩) 655 (by decide +kernel) (by decide +kernel), tb_at (w := .instanceMethod ⟨"java/lang/String", "charAt", "(I)C"⟩) 656 (by decide +kernel) (by decide +kernel), tb_at (w := .selects "java/lang/String" ⟨"java/lang/String", "charAt", "(I)C"⟩ ⟨"java/lang/String", "charAt", "(I)C"⟩) 657 (by decide +kernel) (by decide +kernel)⟩
theorem ml_J0_335 : cV "java/lang/String" 335 m_J0_coder 0 := ⟨cc_J0_coder, tb_at (w := .methodLink "java/lang/String" 335 ⟨"java/lang/String", "coder", "()B"⟩) 649 (by decide +kernel) (by decide +kernel), tb_at (w := .instanceMethod ⟨"java/lang/String", "coder", "()B"⟩) 650 (by decide +kernel) (by decide +kernel), tb_at (w := .selects "java/lang/String" ⟨"java/lang/String", "coder", "()B"⟩ ⟨"java/lang/String", "coder", "()B"⟩) 651 (by decide +kernel) (by decide +kernel)⟩
theorem ml_J0_492 : cV "java/lang/String" 492 m_J0_isLatin1 0 := ⟨cc_J0_isLatin1, tb_at (w := .methodLink "java/lang/String" 492 ⟨"java/lang/String", "isLatin1", "()Z"⟩) 659 (by decide +kernel) (by decide +kernel), tb_at (w := .instanceMethod ⟨"java/lang/String", "isLatin1", "()Z"⟩) 660 (by decide +kernel) (by decide +kernel), tb_at (w := .selects "java/lang/String" ⟨"java/lang/String", "isLatin1", "()Z"⟩ ⟨"java/lang/String", "isLatin1", "()Z"⟩) 661 (by decide +kernel) (by decide +kernel)⟩
theorem ml_J0_495 : cS "java/lang/String" 495 m_J1_charAt 2 := ⟨cc_J1_charAt, tb_at (w := .methodLink "java/lang/String" 495 ⟨"java/lang/StringLatin1", "charAt", "([BI)C"⟩) 663 (by decide +kernel) (by decide +kernel), tb_at (w := .static ⟨"java/lang/StringLatin1", "charAt", "([BI)C"⟩) 664 (by decide +kernel) (by decide +kernel)⟩
theorem ml_J1_9 : cS "java/lang/StringLatin1" 9 m_J0_checkIndex 2 := ⟨cc_J0_checkIndex, tb_at (w := .methodLink "java/lang/StringLatin1" 9 ⟨"java/lang/String", "checkIndex", "(II)V"⟩) 666 (by decide +kernel) (by decide +kernel), tb_at (w := .static ⟨"java/lang/String", "checkIndex", "(II)V"⟩) 667 (by decide +kernel) (by decide +kernel)⟩
theorem ml_J0_1059 : cS "java/lang/String" 1059 m_J3_checkIndex 3 := ⟨cc_J3_checkIndex, tb_at (w := .methodLink "java/lang/String" 1059 ⟨"jdk/internal/util/Preconditions", "checkIndex", "(IILjava/util/function/BiFunction;)I"⟩) 671 (by decide +kernel) (by decide +kernel), tb_at (w := .static ⟨"jdk/internal/util/Preconditions", "checkIndex", "(IILjava/util/function/BiFunction;)I"⟩) 672 (by decide +kernel) (by decide +kernel)⟩
theorem fk_9 : Cond.fieldLink "java/lang/String" 9 "java/lang/String" "value" "[B" ∈ TB := tb_at (w := .fieldLink "java/lang/String" 9 "java/lang/String" "value" "[B") 1332 (by decide +kernel) (by decide +kernel)
theorem fk_15 : Cond.fieldLink "java/lang/String" 15 "java/lang/String" "coder" "B" ∈ TB := tb_at (w := .fieldLink "java/lang/String" 15 "java/lang/String" "coder" "B") 1333 (by decide +kernel) (by decide +kernel)
theorem fk_38 : Cond.fieldLink "java/lang/String" 38 "java/lang/String" "COMPACT_STRINGS" "Z" ∈ TB := tb_at (w := .fieldLink "java/lang/String" 38 "java/lang/String" "COMPACT_STRINGS" "Z") 653 (by decide +kernel) (by decide +kernel)
theorem fk_1053 : Cond.fieldLink "java/lang/String" 1053 "jdk/internal/util/Preconditions" "SIOOBE_FORMATTER" "Ljava/util/function/BiFunction;" ∈ TB := tb_at (w := .fieldLink "java/lang/String" 1053 "jdk/internal/util/Preconditions" "SIOOBE_FORMATTER" "Ljava/util/function/BiFunction;") 669 (by decide +kernel) (by decide +kernel)
def sByt : List (List Int32) := [[102, 111, 108, 100], [104, 111, 108, 100], [111, 112, 101, 110], [97, 103, 97, 105, 110], [114, 105, 103, 104, 116], [108, 101, 102, 116]]
def sLen : List Nat := [4, 4, 4, 5, 5, 4]
def sEnt : List Nat := [97, 103, 105, 107, 112, 114]
def sTxt : List String := ["fold", "hold", "open", "again", "right", "left"]
/-- what the check of a char's place is given to complain with -/
def fmt (G : mG) : Value := if gs G 1048593 = 0 then .null else .ref 1048592
/-- the six texts lie where the ids from 1048576 on say, their bytes where those from 1048584 on say -/
def sOK (G : mG) (U : State) : Prop := vk_S 6 sLen sByt (fun i => gs G (1048576 + i)) (fun i => gs G (1048584 + i)) (inA G) U U.heap ∧ va_Z "java/lang/String" "COMPACT_STRINGS" "Z" (.int 1) (inA G) U U.heap ∧ va_Z "jdk/internal/util/Preconditions" "SIOOBE_FORMATTER" "Ljava/util/function/BiFunction;" (tv G (fmt G)) (inA G) U U.heap ∧ ∀ i, i < 6 → vk_R "CreasedPaper$Text" (sEnt.getD i 0) (sTxt.getD i "") (gs G (1048576 + i)) U
theorem ad_c {G : mG} {i : Nat} : ad G (1048576 + i) = gs G (1048576 + i) := by unfold ad; rw [if_neg (by omega)]
theorem ad_d {G : mG} {i : Nat} : ad G (1048584 + i) = gs G (1048584 + i) := by unfold ad; rw [if_neg (by omega)]
section ZSTR
variable {G : mG} {M : mD} {d mc ms cs sl pc n : Nat} {lv : List (Option Value)} {st : List Value} {h : mH} {Q : Option Value → mH → Prop}
theorem z_sval {i : Nat} (hi : i < 6) (hST : ∀ U, gI G U → sOK G U) (hc : M.1.cls = "java/lang/String") (hd : dkb M pc (.getfield 9) 3 n = true) (kk : Z G M d mc ms cs sl n lv (.ref (1048584 + i) :: st) h Q) : Z G M d mc ms cs sl pc lv (.ref (1048576 + i) :: st) h Q := by
  obtain ⟨he, rfl⟩ := dk1 hd
  intro p e s m args below meth c K0 E H locs ls hk hk1 hP hS hl
  have hx := E.2.2.2.2.2.1
  have ok := hST s E.2.2.2.2.2.2.2.2.2.2.2.2
  show W p (gl G) e _ s m args below meth c H locs cs sl _ (F0 m pc ls (.ref (ad G (1048576 + i)) :: st.map (tv G)))
  rw [ad_c]
  refine vk_getf (o := "java/lang/String") (n := "value") (d := "[B") (own := M.1.cls) (ref := "java/lang/String") (index := 9) (v := .ref (gs G (1048584 + i))) E.1 E.2.1 (ok.1.1 i hi).2.2.1 hS E.2.2.2.2.1 (by rw [hc]; exact hx _ (List.mem_cons_of_mem _ fk_9)) (fun _ h9 => h9) he ?_
  rw [← ad_d]
  exact kk p e s m args below meth c K0 E H locs ls hk hk1 hP hS hl
theorem z_scod {i : Nat} (hi : i < 6) (hST : ∀ U, gI G U → sOK G U) (hc : M.1.cls = "java/lang/String") (hd : dkb M pc (.getfield 15) 3 n = true) (kk : Z G M d mc ms cs sl n lv (.int 0 :: st) h Q) : Z G M d mc ms cs sl pc lv (.ref (1048576 + i) :: st) h Q := by
  obtain ⟨he, rfl⟩ := dk1 hd
  intro p e s m args below meth c K0 E H locs ls hk hk1 hP hS hl
  have hx := E.2.2.2.2.2.1
  have ok := hST s E.2.2.2.2.2.2.2.2.2.2.2.2
  show W p (gl G) e _ s m args below meth c H locs cs sl _ (F0 m pc ls (.ref (ad G (1048576 + i)) :: st.map (tv G)))
  rw [ad_c]
  exact vk_getf (o := "java/lang/String") (n := "coder") (d := "B") (own := M.1.cls) (ref := "java/lang/String") (index := 15) (v := .int 0) E.1 E.2.1 (ok.1.1 i hi).2.1 hS E.2.2.2.2.1 (by rw [hc]; exact hx _ (List.mem_cons_of_mem _ fk_15)) (fun _ h9 => h9) he (kk p e s m args below meth c K0 E H locs ls hk hk1 hP hS hl)
theorem z_gcom (hST : ∀ U, gI G U → sOK G U) (hc : M.1.cls = "java/lang/String") (hd : dkb M pc (.getstatic 38) 3 n = true) (kk : Z G M d mc ms cs sl n lv (.int 1 :: st) h Q) : Z G M d mc ms cs sl pc lv st h Q := by
  obtain ⟨he, rfl⟩ := dk1 hd
  intro p e s m args below meth c K0 E H locs ls hk hk1 hP hS hl
  have hx := E.2.2.2.2.2.1
  have ok := hST s E.2.2.2.2.2.2.2.2.2.2.2.2
  exact va_gets (C := "java/lang/String") (n := "COMPACT_STRINGS") (d := "Z") (own := M.1.cls) (ref := "java/lang/String") (index := 38) (v := .int 1) E.1 E.2.1 ok.2.1 hS E.2.2.2.2.1 (by rw [hc]; exact hx _ (List.mem_cons_of_mem _ fk_38)) (fun _ h9 => h9) he (kk p e s m args below meth c K0 E H locs ls hk hk1 hP hS hl)
theorem z_gfmt (hST : ∀ U, gI G U → sOK G U) (hc : M.1.cls = "java/lang/String") (hd : dkb M pc (.getstatic 1053) 3 n = true) (kk : Z G M d mc ms cs sl n lv (fmt G :: st) h Q) : Z G M d mc ms cs sl pc lv st h Q := by
  obtain ⟨he, rfl⟩ := dk1 hd
  intro p e s m args below meth c K0 E H locs ls hk hk1 hP hS hl
  have hx := E.2.2.2.2.2.1
  have ok := hST s E.2.2.2.2.2.2.2.2.2.2.2.2
  exact va_gets (C := "jdk/internal/util/Preconditions") (n := "SIOOBE_FORMATTER") (d := "Ljava/util/function/BiFunction;") (own := M.1.cls) (ref := "jdk/internal/util/Preconditions") (index := 1053) (v := tv G (fmt G)) E.1 E.2.1 ok.2.2.1 hS E.2.2.2.2.1 (by rw [hc]; exact hx _ (List.mem_cons_of_mem _ fk_1053)) (fun _ h9 => h9) he (kk p e s m args below meth c K0 E H locs ls hk hk1 hP hS hl)
theorem z_slen {i : Nat} (hi : i < 6) (hST : ∀ U, gI G U → sOK G U) (hd : dkb M pc .arraylength 1 n = true) (kk : Z G M d mc ms cs sl n lv (.int (nI (sLen.getD i 0)) :: st) h Q) : Z G M d mc ms cs sl pc lv (.ref (1048584 + i) :: st) h Q := by
  obtain ⟨he, rfl⟩ := dk1 hd
  intro p e s m args below meth c K0 E H locs ls hk hk1 hP hS hl
  have ok := hST s E.2.2.2.2.2.2.2.2.2.2.2.2
  show W p (gl G) e _ s m args below meth c H locs cs sl _ (F0 m pc ls (.ref (ad G (1048584 + i)) :: st.map (tv G)))
  rw [ad_d]
  exact va_tlen E.1 E.2.1 (ok.1.1 i hi).2.2.2 hS (v := nI (sLen.getD i 0)) rfl he (kk p e s m args below meth c K0 E H locs ls hk hk1 hP hS hl)
theorem z_sbld {i k : Nat} (hi : i < 6) (hST : ∀ U, gI G U → sOK G U) (hx9 : k < sLen.getD i 0) (hb9 : k < 2 ^ 31) (hl9 : sLen.getD i 0 < 2 ^ 31) (hd : dkb M pc .baload 1 n = true) (kk : Z G M d mc ms cs sl n lv (.int ((sByt.getD i []).getD k 0) :: st) h Q) : Z G M d mc ms cs sl pc lv (.int (nI k) :: .ref (1048584 + i) :: st) h Q := by
  obtain ⟨he, rfl⟩ := dk1 hd
  intro p e s m args below meth c K0 E H locs ls hk hk1 hP hS hl
  have ok := hST s E.2.2.2.2.2.2.2.2.2.2.2.2
  show W p (gl G) e _ s m args below meth c H locs cs sl _ (F0 m pc ls (.int (nI k) :: .ref (ad G (1048584 + i)) :: st.map (tv G)))
  rw [ad_d]
  exact va_tb E.1 E.2.1 (ok.1.1 i hi).2.2.2 hS (vp_in_nI hx9 hl9) (v := .int ((sByt.getD i []).getD k 0)) (by rw [nI_clamp hb9]) he (kk p e s m args below meth c K0 E H locs ls hk hk1 hP hS hl)
theorem z_ldcT {i idx : Nat} (hi : i < 6) (hST : ∀ U, gI G U → sOK G U) (hc : M.1.cls = "CreasedPaper$Text") (hix : sEnt.getD i 0 = idx) (hd : dkb M pc (.ldc idx) 2 n = true) (kk : Z G M d mc ms cs sl n lv (.ref (1048576 + i) :: st) h Q) : Z G M d mc ms cs sl pc lv st h Q := by
  obtain ⟨he, rfl⟩ := dk1 hd
  intro p e s m args below meth c K0 E H locs ls hk hk1 hP hS hl
  have ok := hST s E.2.2.2.2.2.2.2.2.2.2.2.2
  subst hix
  refine va_ldcS E.1 E.2.1 E.2.2.2.2.1 (tx := sTxt.getD i "") (q := gs G (1048576 + i)) (by rw [hc]; exact ok.2.2.2 i hi) he ?_
  rw [← ad_c]
  exact kk p e s m args below meth c K0 E H locs ls hk hk1 hP hS hl
theorem z_nret {x : Int32} {ty : FieldType} (hd : (decide (decode M.2.1 pc = .ok (.ireturn, 1)) && decide (M.2.2.2 = some ty)) = true) (hn : narrow ty (.int x) = .int x) (hc : cs = mc) (hs : sl ≤ ms) (hq : Q (some (.int x)) h) : Z G M d mc ms cs sl pc lv [.int x] h Q := by
  simp only [Bool.and_eq_true, decide_eq_true_eq] at hd
  subst hc
  intro p e s m args below meth c K0 E H locs ls hk hk1 hP hS hl
  refine W.widen (Nat.le_refl _) hs ?_
  exact W.zret E.1 E.2.1 (E.2.2.2.1.trans hd.2) hn (fun t ht hW => ⟨⟨some (.int x), h, rfl, hq, hk, by rw [ht]; exact hP⟩, hS.F ht⟩) hS.2.2 hd.1 E.2.2.2.2.2.2.1
theorem z_callT {M' : mD} {idx np i d' : Nat} {As rest : List Value} {Q' : Option Value → mH → Prop} (hi : i < 6) (hST : ∀ U, gI G U → sOK G U) (hd : dkb M pc (.invokevirtual idx) 3 n = true) (hv : cV M.1.cls idx M' np) (hci : M'.1.cls = "java/lang/String") (hnp : As.length = np) (hst : st = As.reverse ++ .ref (1048576 + i) :: rest) (hcat : (rest.map fun v => v.category).sum ≤ 8)
    (hrm : d' + 1 ≤ d) (hcs : cs + 0 ≤ mc) (hsl : sl + 0 ≤ ms) (ev : EV G M' d' 0 0 (.ref (1048576 + i) :: As) h Q') (kk : ∀ (r : Option Value) (h' : mH), Q' r h' → Z G M d mc ms (cs + 0) (sl + 0) n lv (r.toList ++ rest) h' Q) : Z G M d mc ms cs sl pc lv st h Q := by
  obtain ⟨he, rfl⟩ := dk1 hd
  obtain ⟨hC, hlk, hin, hse⟩ := hv
  subst hst
  intro p e s m args below meth c K0 E H locs ls hk hk1 hP hS hl
  have hx := E.2.2.2.2.2.1
  have ok := hST s E.2.2.2.2.2.2.2.2.2.2.2.2
  have mem : ∀ w ∈ TB, w.before args s = true := fun w hw => hx w (List.mem_cons_of_mem _ hw)
  intro T hT X
  have hpre := en_pre (mc' := 0) E hcs hk hP hS hT X hk1
  have hcw : CallW (rmm d mc ms) s args M.1.cls M'.1.cls idx M'.1 M'.2.1 M'.2.2.1 M'.2.2.2 (wS M') (rmm d' 0 0) 0 0 np :=
    ⟨callB_of np hx (wS_good hC) rfl rfl rfl (mem _ hC.2.1) (mem _ hlk) hC.2.2.1 ⟨hrm, by show 8 + (M'.2.2.1 + 11) + 40 * d' ≤ 40 * d; have := hC.2.2.2; omega⟩, mem _ hin, mem _ hse⟩
  have hrun := va_runV (e := e) (meth := meth) (below := below) (locs := locs) (cells := cs) (slots := sl) (H := H) (g := F0 m pc ls ((As.reverse ++ .ref (1048576 + i) :: rest).map (tv G))) (b := ad G (1048576 + i)) (As := As.map (tv G)) (rest := rest.map (tv G)) (nL := M.2.2.1) ⟨E.1, E.2.1, E.2.2.1, E.2.2.2.2.1, hx⟩ (ev (K0 + cs)) hcw
    ⟨mB_blind G _ h (K0 + cs) 0, by rw [hci, ad_c]; exact vk_recv (adK := fun i => gs G (1048576 + i)) (i := i) ok.1 hi hS, fun U hU hW => ⟨rfl, hpre U hU hW⟩⟩ rfl (by rw [List.length_map]; exact hnp) hl.1 (by simp [List.map_reverse, tv]) (by
      refine lv_room ?_
      rw [List.map_map]
      have : ((fun v => v.category) ∘ tv G) = (fun v : Value => v.category) := by funext v; exact tv_cat G v
      rw [this]; exact hcat) he ⟨hcs, hsl⟩
  exact z_back E hcs hS hl hrun kk T hT X
theorem z_t0 {M' : mD} {idx i d' : Nat} {rest : List Value} {v : Value} {h1 : mH} (hi : i < 6) (hST : ∀ U, gI G U → sOK G U) (hd : dkb M pc (.invokevirtual idx) 3 n = true) (hv : cV M.1.cls idx M' 0) (hci : M'.1.cls = "java/lang/String") (hcat : (rest.map fun v => v.category).sum ≤ 8) (hrm : d' + 1 ≤ d) (hb : cs ≤ mc ∧ sl ≤ ms) (ev : EV G M' d' 0 0 [.ref (1048576 + i)] h (RE (some v) h1)) (kk : Z G M d mc ms cs sl n lv (v :: rest) h1 Q) : Z G M d mc ms cs sl pc lv (.ref (1048576 + i) :: rest) h Q :=
  z_callT (As := []) (rest := rest) hi hST hd hv hci rfl rfl hcat hrm hb.1 hb.2 ev (fun r h' hq => by obtain ⟨rfl, rfl⟩ := hq; exact kk)
theorem z_t1 {M' : mD} {idx i d' : Nat} {rest : List Value} {v1 v : Value} {h1 : mH} (hi : i < 6) (hST : ∀ U, gI G U → sOK G U) (hd : dkb M pc (.invokevirtual idx) 3 n = true) (hv : cV M.1.cls idx M' 1) (hci : M'.1.cls = "java/lang/String") (hcat : (rest.map fun v => v.category).sum ≤ 8) (hrm : d' + 1 ≤ d) (hb : cs ≤ mc ∧ sl ≤ ms) (ev : EV G M' d' 0 0 [.ref (1048576 + i), v1] h (RE (some v) h1)) (kk : Z G M d mc ms cs sl n lv (v :: rest) h1 Q) : Z G M d mc ms cs sl pc lv (v1 :: .ref (1048576 + i) :: rest) h Q :=
  z_callT (As := [v1]) (rest := rest) hi hST hd hv hci rfl rfl hcat hrm hb.1 hb.2 ev (fun r h' hq => by obtain ⟨rfl, rfl⟩ := hq; exact kk)
end ZSTR
theorem j_coder {G : mG} {h : mH} {i : Nat} (d : Nat) (hi : i < 6) (hST : ∀ U, gI G U → sOK G U) : EV G m_J0_coder d 0 0 [.ref (1048576 + i)] h (RE (some (.int 0)) h) := by
  refine ev_1_0 rfl (by decide +kernel) (by decide +kernel) ?_
  refine z_gcom (n := 3) hST rfl (by decide +kernel) ?_
  refine z_if_eq_f (n := 6) (off := 10) (tgt := 13) (by decide +kernel) (by decide) ?_
  refine z_ald0 (n := 7) (by decide +kernel) ?_
  refine z_scod (n := 10) hi hST rfl (by decide +kernel) ?_
  refine z_goto (n := 13) (off := 4) (tgt := 14) (by decide +kernel) ?_
  exact z_nret (ty := .byte) (by decide +kernel) (by decide) rfl (Nat.le_refl _) ⟨rfl, rfl⟩
theorem j_isLatin1 {G : mG} {h : mH} {i : Nat} (d : Nat) (hi : i < 6) (hST : ∀ U, gI G U → sOK G U) : EV G m_J0_isLatin1 d 0 0 [.ref (1048576 + i)] h (RE (some (.int 1)) h) := by
  refine ev_1_0 rfl (by decide +kernel) (by decide +kernel) ?_
  refine z_gcom (n := 3) hST rfl (by decide +kernel) ?_
  refine z_if_eq_f (n := 6) (off := 14) (tgt := 17) (by decide +kernel) (by decide) ?_
  refine z_ald0 (n := 7) (by decide +kernel) ?_
  refine z_scod (n := 10) hi hST rfl (by decide +kernel) ?_
  refine z_if_ne_f (n := 13) (off := 7) (tgt := 17) (by decide +kernel) rfl ?_
  refine z_iconst (n := 14) (q := 1) (v := 1) (by decide +kernel) ?_
  refine z_goto (n := 17) (off := 4) (tgt := 18) (by decide +kernel) ?_
  exact z_nret (ty := .boolean) (by decide +kernel) (by decide) rfl (Nat.le_refl _) ⟨rfl, rfl⟩
theorem sLen_sh : ∀ i : Fin 6, (nI (sLen.getD i.1 0)) >>> ((0 : Int32) &&& 31) = nI (sLen.getD i.1 0) := by decide +kernel
theorem sLen_lt : ∀ i : Fin 6, sLen.getD i.1 0 < 2 ^ 31 := by decide +kernel
theorem j_length {G : mG} {h : mH} {i : Nat} (d : Nat) (hd : 1 ≤ d) (hi : i < 6) (hST : ∀ U, gI G U → sOK G U) : EV G m_J0_length d 0 0 [.ref (1048576 + i)] h (RE (some (.int (nI (sLen.getD i 0)))) h) := by
  refine ev_1_0 rfl (by decide +kernel) (by decide +kernel) ?_
  refine z_ald0 (n := 1) (by decide +kernel) ?_
  refine z_sval (n := 4) hi hST rfl (by decide +kernel) ?_
  refine z_slen (n := 5) hi hST (by decide +kernel) ?_
  refine z_ald0 (n := 6) (by decide +kernel) ?_
  refine z_t0 (n := 9) (idx := 335) hi hST (by decide +kernel) ml_J0_335 rfl (Nat.le_of_ble_eq_true rfl) (by omega) ⟨Nat.le_refl _, Nat.le_refl _⟩ (j_coder 0 hi hST) ?_
  refine z_ishr (n := 10) (by decide +kernel) ?_
  refine z_iret (by decide +kernel) rfl (Nat.le_refl _) ?_
  exact ⟨by rw [sLen_sh ⟨i, hi⟩], rfl⟩
theorem fmt_cat {G : mG} : (fmt G).category = 1 := by unfold fmt; split <;> rfl
theorem j_checkIndex3 {G : mG} {h : mH} {k L : Nat} (d : Nat) (hk : k < L) (hL : L < 2 ^ 31) : EV G m_J3_checkIndex d 0 0 [.int (nI k), .int (nI L), fmt G] h (RE (some (.int (nI k))) h) := by
  refine ev_3_0 rfl rfl fmt_cat (by decide +kernel) (by decide +kernel) ?_
  refine z_ild0 (n := 1) (by decide +kernel) ?_
  refine z_if_lt_f (n := 4) (off := 8) (tgt := 9) (by decide +kernel) (nI_pos (by omega)) ?_
  refine z_ild0 (n := 5) (by decide +kernel) ?_
  refine z_ild1 (n := 6) (by decide +kernel) ?_
  refine z_icmp_lt_t (n := 9) (off := 10) (tgt := 16) (by decide +kernel) (nI_lt hk hL) ?_
  refine z_ild0 (n := 17) (by decide +kernel) ?_
  exact z_iret (by decide +kernel) rfl (Nat.le_refl _) ⟨rfl, rfl⟩
theorem j_checkIndex {G : mG} {h : mH} {k L : Nat} (d : Nat) (hd : 1 ≤ d) (hST : ∀ U, gI G U → sOK G U) (hk : k < L) (hL : L < 2 ^ 31) : EV G m_J0_checkIndex d 0 0 [.int (nI k), .int (nI L)] h (RE none h) := by
  refine ev_2_0 rfl rfl (by decide +kernel) (by decide +kernel) ?_
  refine z_ild0 (n := 1) (by decide +kernel) ?_
  refine z_ild1 (n := 2) (by decide +kernel) ?_
  refine z_gfmt (n := 5) hST rfl (by decide +kernel) ?_
  refine z_s3 (n := 8) (idx := 1059) (by decide +kernel) ml_J0_1059 (Nat.le_of_ble_eq_true rfl) (by omega) ⟨Nat.le_refl _, Nat.le_refl _⟩ (j_checkIndex3 0 hk hL) ?_
  refine z_pop (n := 9) (by decide +kernel) rfl ?_
  exact z_vret (by decide +kernel) rfl (Nat.le_refl _) ⟨rfl, rfl⟩
theorem sByt_ch : ∀ i : Fin 6, ∀ k : Fin 5, (((sByt.getD i.1 []).getD k.1 0 &&& 255).toUInt32 % 65536).toInt32 = (sByt.getD i.1 []).getD k.1 0 := by decide +kernel
theorem sByt_na : ∀ i : Fin 6, ∀ k : Fin 5, narrow .char (.int ((sByt.getD i.1 []).getD k.1 0)) = .int ((sByt.getD i.1 []).getD k.1 0) := by decide +kernel
theorem sLen_5 : ∀ i : Fin 6, sLen.getD i.1 0 ≤ 5 := by decide +kernel
theorem j_charAt1 {G : mG} {h : mH} {i k : Nat} (d : Nat) (hd : 2 ≤ d) (hi : i < 6) (hk : k < sLen.getD i 0) (hST : ∀ U, gI G U → sOK G U) : EV G m_J1_charAt d 0 0 [.ref (1048584 + i), .int (nI k)] h (RE (some (.int ((sByt.getD i []).getD k 0))) h) := by
  have h5 := sLen_5 ⟨i, hi⟩
  have hl := sLen_lt ⟨i, hi⟩
  dsimp only at h5 hl
  refine ev_2_0 rfl rfl (by decide +kernel) (by decide +kernel) ?_
  refine z_ild1 (n := 1) (by decide +kernel) ?_
  refine z_ald0 (n := 2) (by decide +kernel) ?_
  refine z_slen (n := 3) hi hST (by decide +kernel) ?_
  refine z_s2v (n := 6) (idx := 9) (by decide +kernel) ml_J1_9 (Nat.le_of_ble_eq_true rfl) (by omega) ⟨Nat.le_refl _, Nat.le_refl _⟩ (j_checkIndex 1 (by omega) hST hk hl) ?_
  refine z_ald0 (n := 7) (by decide +kernel) ?_
  refine z_ild1 (n := 8) (by decide +kernel) ?_
  refine z_sbld (n := 9) hi hST hk (by omega) hl (by decide +kernel) ?_
  refine z_sipush (n := 12) (q := 255) (v := 255) (by decide +kernel) ?_
  refine z_iand (n := 13) (by decide +kernel) ?_
  refine z_i2c (n := 14) (by decide +kernel) ?_
  refine z_top (sByt_ch ⟨i, hi⟩ ⟨k, by omega⟩) ?_
  exact z_nret (ty := .char) (by decide +kernel) (sByt_na ⟨i, hi⟩ ⟨k, by omega⟩) rfl (Nat.le_refl _) ⟨rfl, rfl⟩
theorem j_charAt {G : mG} {h : mH} {i k : Nat} (d : Nat) (hd : 3 ≤ d) (hi : i < 6) (hk : k < sLen.getD i 0) (hST : ∀ U, gI G U → sOK G U) : EV G m_J0_charAt d 0 0 [.ref (1048576 + i), .int (nI k)] h (RE (some (.int ((sByt.getD i []).getD k 0))) h) := by
  have h5 := sLen_5 ⟨i, hi⟩
  dsimp only at h5
  refine ev_2_0 rfl rfl (by decide +kernel) (by decide +kernel) ?_
  refine z_ald0 (n := 1) (by decide +kernel) ?_
  refine z_t0 (n := 4) (idx := 492) hi hST (by decide +kernel) ml_J0_492 rfl (Nat.le_of_ble_eq_true rfl) (by omega) ⟨Nat.le_refl _, Nat.le_refl _⟩ (j_isLatin1 0 hi hST) ?_
  refine z_if_eq_f (n := 7) (off := 12) (tgt := 16) (by decide +kernel) (by decide) ?_
  refine z_ald0 (n := 8) (by decide +kernel) ?_
  refine z_sval (n := 11) hi hST rfl (by decide +kernel) ?_
  refine z_ild1 (n := 12) (by decide +kernel) ?_
  refine z_s2 (n := 15) (idx := 495) (by decide +kernel) ml_J0_495 (Nat.le_of_ble_eq_true rfl) (by omega) ⟨Nat.le_refl _, Nat.le_refl _⟩ (j_charAt1 2 (by omega) hi hk hST) ?_
  exact z_nret (ty := .char) (by decide +kernel) (sByt_na ⟨i, hi⟩ ⟨k, by omega⟩) rfl (Nat.le_refl _) ⟨rfl, rfl⟩
