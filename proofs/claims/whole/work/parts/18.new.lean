/-! RULES of the mini machine: new cells -/
/-- the heap has k cells -/
def szH (h : mH) (k : Nat) : Prop := ∀ i, h i = dd ↔ k ≤ i
theorem szH_eq {h : mH} {k k' : Nat} (a : szH h k) (b : ∀ i, h i = dd ↔ k' ≤ i) : k = k' := by
  have h1 : k ≤ k' := (a k').mp ((b k').mpr (Nat.le_refl _))
  have h2 : k' ≤ k := (b k).mp ((a k).mpr (Nat.le_refl _))
  omega
theorem szH_push {h : mH} {k : Nat} {c : mE} (a : szH h k) (hc : c ≠ dd) : szH (hu h k c) (k + 1) := by
  intro i
  by_cases e : i = k
  · subst e
    rw [hu_s]
    exact ⟨fun q => absurd q hc, fun q => by omega⟩
  · rw [hu_n e, a i]
    omega
theorem szH_set {h : mH} {k a : Nat} {c : mE} (b : szH h k) (ha : a < k) (hc : c ≠ dd) : szH (hu h a c) k := by
  intro i
  by_cases e : i = a
  · subst e
    rw [hu_s]
    exact ⟨fun q => absurd q hc, fun q => by omega⟩
  · rw [hu_n e, b i]
def kC (own : String) (idx ci : Nat) (fs : List Value) : Prop := ∃ (C : String) (T : u_T) (N : Nat) (ty : Nat → FieldType), CL[ci]? = some (C, T, N) ∧ (∀ w ∈ u_ws C T N, w ∈ TB) ∧ (∀ k, k < N → parseFieldDescriptor (T k).2.2.1 = some (ty k)) ∧ Cond.classLink own idx C ∈ TB ∧ Cond.instantiable C N ∈ TB ∧ Cond.initialized C ∈ TB ∧ (∀ j, j < N → defaultValue (ty j) = vp_V fs j) ∧ fs.length = N ∧ (fs.all fun v => match v with | .ref _ => false | _ => true) = true
theorem tv_id (G : mG) : ∀ fs : List Value, (fs.all fun v => match v with | .ref _ => false | _ => true) = true → fs.map (tv G) = fs
  | [], _ => rfl
  | v :: fs, h => by
    simp only [List.all_cons, Bool.and_eq_true] at h
    rw [List.map_cons, tv_id G fs h.2]
    cases v <;> first | rfl | (simp at h)
section ZN
variable {G : mG} {M : mD} {d mc ms cs sl pc n : Nat} {lv : List (Option Value)} {st : List Value} {h : mH} {Q : Option Value → mH → Prop}
/-- the address of a new cell -/
theorem new_q {p : Program} {l : Launch} {e : Env} {R : Room} {s : State} {m : MethodId} {args : Array Value} {below : List Frame} {meth : Method} {c : Code} {K0 q sl' : Nat} {x : va_E} {H1 : Heap} {T : State} {locs : List Loc} (hsz : s.heap.size = gb G + K0) (hK : K0 + cs < 1048576) (hP1 : va_P (gD G) CL (wl G (K0 + cs) h ++ [(q, x)]) H1) (hD1 : va_D (inA G) (wl G (K0 + cs) h ++ [(q, x)])) (hT : T.heap = H1) (X : Stand p l e R s m args below meth c T locs (cs + 1) sl') : q = ad G (K0 + cs) := by
  have hl : (wl G (K0 + cs) h).length = K0 + cs := by simp [wl]
  have hg : (wl G (K0 + cs) h ++ [(q, x)])[K0 + cs]? = some (q, x) := by
    rw [List.getElem?_append_right (by omega), hl]
    simp
  have h1 := (hP1 _ _ hg).lt
  have h2 : T.heap.size ≤ s.heap.size + (cs + 1) := X.heapSize
  rw [hT] at h2
  have h3 : gb G ≤ q := hD1.2 _ _ hg
  rw [ad_lo hK]
  have h4 : q < H1.size := h1
  rcases Nat.lt_or_ge q (gb G + (K0 + cs)) with h5 | h5
  · obtain ⟨i, hi⟩ : ∃ i, q = gb G + i := ⟨q - gb G, by omega⟩
    have hi2 : i < K0 + cs := by omega
    have := hD1.1 i (K0 + cs) _ _ (by rw [List.getElem?_append_left (by omega)]; exact wl_get hi2) hg (by show ad G i = q; rw [ad_lo (by omega), hi])
    omega
  · omega
theorem z_new {idx ci k : Nat} {fs : List Value} (hd : dkb M pc (.new idx) 3 n = true) (hk : kC M.1.cls idx ci fs) (hz : szH h k) (hc : cs + 1 ≤ mc) (hs : sl + fs.length ≤ ms) (kk : Z G M d mc ms (cs + 1) (sl + fs.length) n lv (.ref k :: st) (hu h k (oB ci fs)) Q) : Z G M d mc ms cs sl pc lv st h Q := by
  obtain ⟨he, rfl⟩ := dk1 hd
  obtain ⟨C, T, N, ty, hcl, hin, hty, hlk, hins, hini, hdf, rfl, hnr⟩ := hk
  intro p e s m args below meth c K0 E H locs ls hk hk1 hP hS hl
  have ek := szH_eq hz hk
  subst ek
  have mem : ∀ w ∈ TB, w.before args s = true := fun w hw => E.2.2.2.2.2.1 w (List.mem_cons_of_mem _ hw)
  have hmc := E.2.2.2.2.2.2.2.2.2.1
  have hsz := E.2.2.2.2.2.2.2.2.1
  refine va_new (D := gD G) (ci := ci) (fs := fs) (C := C) (T := T) (N := fs.length) E.1 E.2.1 E.2.2.2.2.2.1 (fun w hw => List.mem_cons_of_mem _ (hin w hw)) ty hty E.2.2.2.2.1 (mem _ hlk) (mem _ hins) (mem _ hini) E.2.2.2.2.2.2.2.2.2.2.1 hP (wl_D hk1) hS (fun q hq => by show gb G ≤ q; omega) hcl hdf hc hs he (fun q H1 hP1 hD1 hS1 => ?_)
  intro T1 hT1 X
  have eq := new_q hsz (by omega) hP1 hD1 hT1 X
  subst eq
  have e2 : te G (oB ci fs) = .inr (ci, fs) := by
    show Sum.inr (ci, fs.map (tv G)) = _
    rw [tv_id G fs hnr]
  rw [← e2, ← wl_push] at hP1
  refine kk p e s m args below meth c K0 E H1 locs ls ?_ (by omega) hP1 hS1 hl T1 hT1 X
  have := szH_push (c := oB ci fs) hz oB_dd
  intro i
  rw [this i]
  omega
theorem jw_arr : Cond.arrayClass .int ∈ TB ∧ Cond.arrayClass .boolean ∈ TB := ⟨tb_at _ (by decide +kernel : lw_tbl[133]? = _) (by decide +kernel), tb_at _ (by decide +kernel : lw_tbl[134]? = _) (by decide +kernel)⟩
theorem z_newI {k N : Nat} (hd : dkb M pc (.newarray .int) 2 n = true) (hz : szH h k) (hN : N ≤ 1000) (hc : cs + 1 ≤ mc) (hs : sl + N ≤ ms) (kk : Z G M d mc ms (cs + 1) (sl + N) n lv (.ref k :: st) (hu h k (aI N (fun _ => 0))) Q) : Z G M d mc ms cs sl pc lv (.int (nI N) :: st) h Q := by
  obtain ⟨he, rfl⟩ := dk1 hd
  intro p e s m args below meth c K0 E H locs ls hk hk1 hP hS hl
  have ek := szH_eq hz hk
  subst ek
  have mem : ∀ w ∈ TB, w.before args s = true := fun w hw => E.2.2.2.2.2.1 w (List.mem_cons_of_mem _ hw)
  have hmc := E.2.2.2.2.2.2.2.2.2.1
  have hsz := E.2.2.2.2.2.2.2.2.1
  have hK := E.2.2.2.2.2.2.2.2.2.2.1
  refine va_newa (atype := .int) (ty := .int) (N' := N) (a0 := (N, .inl (fun _ => 0))) E.1 E.2.1 (mem _ jw_arr.1) rfl hK hP (wl_D hk1) hS (fun q hq => by show gb G ≤ q; omega) (fun cA => rfl) (nI_pos (by omega)) (nI_clamp (by omega)) (by show N * 4 ≤ _; omega) hc hs he (fun q cA H1 hK1 hP1 hD1 hS1 => ?_)
  intro T1 hT1 X
  have eA : cA = gA G 0 := by
    have h1 : s.vm.findClass _ = some cA := (hK1.2 4 _ rfl).2
    have h2 : s.vm.findClass _ = some (gA G 0) := (hK.2 0 _ rfl).2
    exact Option.some.inj (h1.symm.trans h2)
  have eq := new_q hsz (by omega) hP1 hD1 hT1 X
  subst eq
  subst eA
  have e2 : te G (aI N (fun _ => 0)) = .inl (gA G 0, N, .inl (fun _ => 0)) := rfl
  rw [← e2, ← wl_push] at hP1
  refine kk p e s m args below meth c K0 E H1 locs ls ?_ (by omega) hP1 hS1 hl T1 hT1 X
  have := szH_push (c := aI N (fun _ => 0)) hz aI_dd
  intro i
  rw [this i]
  omega
theorem z_newZ {k N : Nat} (hd : dkb M pc (.newarray .boolean) 2 n = true) (hz : szH h k) (hN : N ≤ 1000) (hc : cs + 1 ≤ mc) (hs : sl + N ≤ ms) (kk : Z G M d mc ms (cs + 1) (sl + N) n lv (.ref k :: st) (hu h k (aZ N (fun _ => false))) Q) : Z G M d mc ms cs sl pc lv (.int (nI N) :: st) h Q := by
  obtain ⟨he, rfl⟩ := dk1 hd
  intro p e s m args below meth c K0 E H locs ls hk hk1 hP hS hl
  have ek := szH_eq hz hk
  subst ek
  have mem : ∀ w ∈ TB, w.before args s = true := fun w hw => E.2.2.2.2.2.1 w (List.mem_cons_of_mem _ hw)
  have hmc := E.2.2.2.2.2.2.2.2.2.1
  have hsz := E.2.2.2.2.2.2.2.2.1
  have hK := E.2.2.2.2.2.2.2.2.2.2.1
  refine va_newa (atype := .boolean) (ty := .boolean) (N' := N) (a0 := (N, .inl (fun _ => 0))) E.1 E.2.1 (mem _ jw_arr.2) rfl hK hP (wl_D hk1) hS (fun q hq => by show gb G ≤ q; omega) (fun cA => rfl) (nI_pos (by omega)) (nI_clamp (by omega)) (by show N * 1 ≤ _; omega) hc hs he (fun q cA H1 hK1 hP1 hD1 hS1 => ?_)
  intro T1 hT1 X
  have eA : cA = gA G 1 := by
    have h1 : s.vm.findClass _ = some cA := (hK1.2 4 _ rfl).2
    have h2 : s.vm.findClass _ = some (gA G 1) := (hK.2 1 _ rfl).2
    exact Option.some.inj (h1.symm.trans h2)
  have eq := new_q hsz (by omega) hP1 hD1 hT1 X
  subst eq
  subst eA
  have e2 : te G (aZ N (fun _ => false)) = .inl (gA G 1, N, .inl (fun _ => 0)) := rfl
  rw [← e2, ← wl_push] at hP1
  refine kk p e s m args below meth c K0 E H1 locs ls ?_ (by omega) hP1 hS1 hl T1 hT1 X
  have := szH_push (c := aZ N (fun _ => false)) hz aZ_dd
  intro i
  rw [this i]
  omega
theorem z_newS {idx k N : Nat} (hd : dkb M pc (.anewarray idx) 3 n = true) (hw : Cond.classLink M.1.cls idx "CreasedPaper$Strip" ∈ TB) (hAO : ∀ U, gI G U → va_AO "CreasedPaper$Strip" U) (hz : szH h k) (hN : N ≤ 1000) (hc : cs + 1 ≤ mc) (hs : sl + N ≤ ms) (kk : Z G M d mc ms (cs + 1) (sl + N) n lv (.ref k :: st) (hu h k (aR 2 N (fun _ => none))) Q) : Z G M d mc ms cs sl pc lv (.int (nI N) :: st) h Q := by
  obtain ⟨he, rfl⟩ := dk1 hd
  intro p e s m args below meth c K0 E H locs ls hk hk1 hP hS hl
  have ek := szH_eq hz hk
  subst ek
  have mem : ∀ w ∈ TB, w.before args s = true := fun w hw => E.2.2.2.2.2.1 w (List.mem_cons_of_mem _ hw)
  have hmc := E.2.2.2.2.2.2.2.2.2.1
  have hsz := E.2.2.2.2.2.2.2.2.1
  have hK := E.2.2.2.2.2.2.2.2.2.2.1
  refine va_newq (N' := N) E.1 E.2.1 E.2.2.2.2.1 (mem _ hw) (hAO s E.2.2.2.2.2.2.2.2.2.2.2.2) hK hP (wl_D hk1) hS (fun q hq => by show gb G ≤ q; omega) (nI_pos (by omega)) (nI_clamp (by omega)) (by omega) hc hs he (fun q cA H1 hK1 hP1 hD1 hS1 => ?_)
  intro T1 hT1 X
  have eA : cA = gA G 2 := by
    obtain ⟨_, _, _, _, _, h1⟩ := (hK1.2 4 _ rfl).2
    obtain ⟨_, _, _, _, _, h2⟩ := (hK.2 2 _ rfl).2
    exact Option.some.inj (h1.symm.trans h2)
  have eq := new_q hsz (by omega) hP1 hD1 hT1 X
  subst eq
  subst eA
  have e2 : te G (aR 2 N (fun _ => none)) = .inl (gA G 2, N, .inr (.inr (.inr (.inr (fun _ => none))))) := rfl
  rw [← e2, ← wl_push] at hP1
  refine kk p e s m args below meth c K0 E H1 locs ls ?_ (by omega) hP1 hS1 hl T1 hT1 X
  have := szH_push (c := aR 2 N (fun _ => none)) hz aR_dd
  intro i
  rw [this i]
  omega
theorem z_aast {a N j y : Nat} {f : Nat → Option Nat} {i : Int32} {fs : List Value} (hd : dkb M pc .aastore 1 n = true) (ho : h a = aR 2 N f) (hy : h y = oB 7 fs) (hi : ix i j N) (kk : Z G M d mc ms cs sl n lv st (hu h a (aR 2 N (va_up f j (some y)))) Q) : Z G M d mc ms cs sl pc lv (.ref y :: .int i :: .ref a :: st) h Q := by
  obtain ⟨he, rfl⟩ := dk1 hd
  obtain ⟨rfl, hin⟩ := hi
  intro p e s m args below meth c K0 E H locs ls hk hk1 hP hS hl
  have ha := lv_lt_of hk ho aR_dd
  have hb := lv_lt_of hk hy oB_dd
  refine va_astq (r := ("CreasedPaper$Strip", kT7, 6)) (ci := 7) (f := fun j => (f j).map (ad G)) E.1 E.2.1 E.2.2.2.2.2.2.2.2.2.2.1 hP (wl_D hk1) hS a 2 y (by rw [wl_get ha, ho]; rfl) rfl (vs := fs.map (tv G)) (by rw [wl_get hb, hy]; rfl) rfl hin he (fun H1 locs1 hP1 hD1 hS1 => ?_)
  have e2 : va_up (fun j => (f j).map (ad G)) i.toNatClampNeg (some (ad G y)) = fun j => (va_up f i.toNatClampNeg (some y) j).map (ad G) := by
    funext q
    by_cases hq : q = i.toNatClampNeg
    · subst hq; simp [va_up]
    · simp [va_up, hq]
  have e1 : (wl G (K0 + cs) h).set a (ad G a, .inl (gA G 2, N, .inr (.inr (.inr (.inr (va_up (fun j => (f j).map (ad G)) i.toNatClampNeg (some (ad G y)))))))) = wl G (K0 + cs) (hu h a (aR 2 N (va_up f i.toNatClampNeg (some y)))) := by
    rw [← wl_set, e2]
    rfl
  rw [e1] at hP1
  exact kk p e s m args below meth c K0 E H1 locs1 ls (hu_dd hk ho aR_dd aR_dd) hk1 hP1 hS1 hl
theorem jw_obj : Cond.instanceMethod Lib.objectInit ∈ TB ∧ Cond.code Lib.objectInit ⟨#[0xb1]⟩ 1 none ∈ TB := ⟨tb_at _ (by decide +kernel : lw_tbl[81]? = _) (by decide +kernel), tb_at _ (by decide +kernel : lw_tbl[82]? = _) (by decide +kernel)⟩
theorem z_objI {idx a : Nat} (hd : dkb M pc (.invokespecial idx) 3 n = true) (hw : Cond.methodLink M.1.cls idx Lib.objectInit ∈ TB) (hcat : (st.map fun v => v.category).sum ≤ 8) (hr : 1 ≤ d) (kk : Z G M d mc ms cs sl n lv st h Q) : Z G M d mc ms cs sl pc lv (.ref a :: st) h Q := by
  obtain ⟨he, rfl⟩ := dk1 hd
  intro p e s m args below meth c K0 E H locs ls hk hk1 hP hS hl
  have mem : ∀ w ∈ TB, w.before args s = true := fun w hw => E.2.2.2.2.2.1 w (List.mem_cons_of_mem _ hw)
  refine W.objInit E.1 E.2.1 E.2.2.2.2.1 (mem _ hw) (mem _ jw_obj.1) (mem _ jw_obj.2) rfl (by rw [E.2.2.1]; exact hl.1) rfl he hr (by show 2 * 0 + _ + 12 ≤ 40 * d; rw [tv_sum]; omega) ?_
  exact kk p e s m args below meth c K0 E H locs ls hk hk1 hP hS hl
theorem z_callN {M' : mD} {idx np a d' mc' ms' : Nat} {host : String} {As rest : List Value} {Q' : Option Value → mH → Prop} (hd : dkb M pc (.invokespecial idx) 3 n = true) (hv : cN M.1.cls idx M' np host) (hnw : ∀ U, gI G U → va_Nw (.methodLinkNest M.1.cls idx M'.1 host) U) (hM : M'.2.2.2 = none ∧ M'.1.name = "<init>") (hnp : As.length = np) (hst : st = As.reverse ++ .ref a :: rest) (hcat : (rest.map fun v => v.category).sum ≤ 8)
    (hrm : d' + 1 ≤ d) (hcs : cs + mc' ≤ mc) (hsl : sl + ms' ≤ ms) (ev : EV G M' d' mc' ms' (.ref a :: As) h Q') (kk : ∀ (r : Option Value) (h' : mH), Q' r h' → Z G M d mc ms (cs + mc') (sl + ms') n lv (r.toList ++ rest) h' Q) : Z G M d mc ms cs sl pc lv st h Q := by
  obtain ⟨he, rfl⟩ := dk1 hd
  obtain ⟨hC, -, hin⟩ := hv
  subst hst
  intro p e s m args below meth c K0 E H locs ls hk hk1 hP hS hl
  have hx := E.2.2.2.2.2.1
  have mem : ∀ w ∈ TB, w.before args s = true := fun w hw => hx w (List.mem_cons_of_mem _ hw)
  intro T hT X
  have hpre := en_pre (mc' := mc') E hcs hk hP hS hT X hk1
  have hcb : va_CN (rmm d mc ms) s args M.1.cls idx M'.1 host M'.2.1 M'.2.2.1 none (wS M') (rmm d' mc' ms') mc' ms' np := by
    have := va_cnB (R := rmm d mc ms) (rm := rmm d' mc' ms') (mc := mc') (ms := ms') (own := M.1.cls) (host := host) (index := idx) np hx (wS_good hC) rfl rfl rfl (hnw s E.2.2.2.2.2.2.2.2.2.2.2.2) (mem _ hC.2.1) hC.2.2.1 ⟨hrm, by show 8 + (M'.2.2.1 + 11) + 40 * d' ≤ 40 * d; have := hC.2.2.2; omega⟩
    rw [hM.1] at this
    exact this
  have hrun := va_runIN (e := e) (meth := meth) (below := below) (locs := locs) (cells := cs) (slots := sl) (H := H) (g := F0 m pc ls ((As.reverse ++ .ref a :: rest).map (tv G))) (b := ad G a) (As := As.map (tv G)) (rest := rest.map (tv G)) (nL := M.2.2.1) ⟨E.1, E.2.1, E.2.2.1, E.2.2.2.2.1, hx⟩ (ev (K0 + cs)) ⟨hcb, hM.2, mem _ hin⟩
    ⟨mB_blind G _ h (K0 + cs) mc', fun U hU hW => ⟨rfl, hpre U hU hW⟩⟩ rfl (by rw [List.length_map]; exact hnp) hl.1 (by simp [List.map_reverse, tv]) (by
      refine lv_room ?_
      rw [tv_sum]; exact hcat) he ⟨hcs, hsl⟩
  exact z_back E hcs hS hl hrun kk T hT X
end ZN
