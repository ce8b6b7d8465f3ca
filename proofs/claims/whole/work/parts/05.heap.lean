/-! RULES of the mini machine: fields, arrays, calls -/
/-- an index that is within -/
def ix (i : Int32) (j n : Nat) : Prop := i.toNatClampNeg = j ∧ vp_in i n
theorem ix_nI {j n : Nat} (hj : j < n) (hn : n < 2 ^ 31) : ix (nI j) j n := ⟨nI_clamp (by omega), vp_in_nI hj hn⟩
theorem ix_lt {i : Int32} {j n : Nat} (hx : ix i j n) : j < n := by
  have := hx.2
  rw [← hx.1]
  exact Nat.not_le.mp fun q => this (Or.inr q)
section ZH
variable {G : mG} {M : mD} {d mc ms cs sl pc n : Nat} {lv : List (Option Value)} {st : List Value} {h : mH} {Q : Option Value → mH → Prop}
theorem lv_lt_of {K a : Nat} {c : mE} (hk : ∀ i, h i = dd ↔ K ≤ i) (ho : h a = c) (hc : c ≠ dd) : a < K := by
  rcases Nat.lt_or_ge a K with q | q
  · exact q
  · exact absurd (ho.symm.trans ((hk a).mpr q)) hc
theorem hu_dd {K a : Nat} {c c' : mE} (hk : ∀ i, h i = dd ↔ K ≤ i) (ho : h a = c) (hc : c ≠ dd) (hc' : c' ≠ dd) : ∀ i, hu h a c' i = dd ↔ K ≤ i := by
  intro i
  by_cases e : i = a
  · subst e
    rw [hu_s]
    have := lv_lt_of hk ho hc
    exact ⟨fun q => absurd q hc', fun q => by omega⟩
  · rw [hu_n e]
    exact hk i
theorem z_getf {idx ci k a : Nat} {fs : List Value} {v : Value} (hd : dkb M pc (.getfield idx) 3 n = true) (hf : fL M.1.cls idx ci k) (ho : h a = oB ci fs) (hv : fs[k]? = some v) (kk : Z G M d mc ms cs sl n lv (v :: st) h Q) : Z G M d mc ms cs sl pc lv (.ref a :: st) h Q := by
  obtain ⟨he, rfl⟩ := dk1 hd
  obtain ⟨C, T, N, ty, hc, hin, hty, hnm, hk0, hlk⟩ := hf
  intro p e s m args below meth c K0 E H locs ls hk hk1 hP hS hl
  have hx := E.2.2.2.2.2.1
  have ha := lv_lt_of hk ho oB_dd
  refine va_get (D := gD G) (ci := ci) (v := tv G v) (C := C) (T := T) (N := N) (fs := fs.map (tv G)) E.1 E.2.1 hx (fun w hw => List.mem_cons_of_mem _ (hin w hw)) E.2.2.2.2.1 E.2.2.2.2.2.2.2.2.2.2.1 hP a (by rw [wl_get ha, ho]; rfl) hc k hk0 (hx _ (List.mem_cons_of_mem _ hlk)) (fun _ h9 => h9) (by rw [List.getElem?_map, hv]; rfl) he ?_
  exact kk p e s m args below meth c K0 E H locs ls hk hk1 hP hS hl
theorem z_putf {idx ci k a : Nat} {fs : List Value} {v : Value} {ty : FieldType} (hd : dkb M pc (.putfield idx) 3 n = true) (hf : fL M.1.cls idx ci k) (ho : h a = oB ci fs) (ht : ∃ (C : String) (T : u_T) (N : Nat), CL[ci]? = some (C, T, N) ∧ (T k).2.2.2 = false ∧ parseFieldDescriptor (T k).2.2.1 = some ty) (hn : narrow ty (tv G v) = tv G v) (hfit : fits ty (tv G v) = true) (hlen : k < fs.length)
    (kk : Z G M d mc ms cs sl n lv st (hu h a (oB ci (fs.set k v))) Q) : Z G M d mc ms cs sl pc lv (v :: .ref a :: st) h Q := by
  obtain ⟨he, rfl⟩ := dk1 hd
  obtain ⟨C, T, N, ty0, hc, hin, hty, hnm, hk0, hlk⟩ := hf
  obtain ⟨C', T', N', hc', hfin, hpd⟩ := ht
  cases hc.symm.trans hc'
  intro p e s m args below meth c K0 E H locs ls hk hk1 hP hS hl
  have hx := E.2.2.2.2.2.1
  have ha := lv_lt_of hk ho oB_dd
  refine va_put (D := gD G) (ci := ci) (v := tv G v) (ty := ty) (C := C) (T := T) (N := N) (fs := fs.map (tv G)) E.1 E.2.1 hx (fun w hw => List.mem_cons_of_mem _ (hin w hw)) ty0 hty hnm E.2.2.2.2.1 E.2.2.2.2.2.2.2.2.2.2.1 hP (wl_D hk1) hS a (by rw [wl_get ha, ho]; rfl) hc k hk0 (hx _ (List.mem_cons_of_mem _ hlk)) (fun _ h9 => h9) hfin hpd hn hfit (by rw [List.length_map]; exact hlen) he (fun H1 locs1 hP1 hD1 hS1 => ?_)
  have e1 : (wl G (K0 + cs) h).set a (ad G a, .inr (ci, (fs.map (tv G)).set k (tv G v))) = wl G (K0 + cs) (hu h a (oB ci (fs.set k v))) := by
    rw [← wl_set]
    simp [te, oB, List.map_set]
  rw [e1] at hP1
  exact kk p e s m args below meth c K0 E H1 locs1 ls (hu_dd hk ho oB_dd oB_dd) hk1 hP1 hS1 hl
theorem z_putF {idx ci k a : Nat} {fs : List Value} {v : Value} {ty : FieldType} (hd : (dkb M pc (.putfield idx) 3 n && decide (M.1.name = "<init>")) = true) (hf : fL M.1.cls idx ci k) (ho : h a = oB ci fs) (ht : ∃ (C : String) (T : u_T) (N : Nat), CL[ci]? = some (C, T, N) ∧ (T k).2.2.2 = true ∧ (T k).1 = M.1.cls ∧ parseFieldDescriptor (T k).2.2.1 = some ty) (hn : narrow ty (tv G v) = tv G v) (hfit : fits ty (tv G v) = true) (hlen : k < fs.length)
    (kk : Z G M d mc ms cs sl n lv st (hu h a (oB ci (fs.set k v))) Q) : Z G M d mc ms cs sl pc lv (v :: .ref a :: st) h Q := by
  simp only [Bool.and_eq_true, decide_eq_true_eq] at hd
  obtain ⟨hd, hin2⟩ := hd
  obtain ⟨he, rfl⟩ := dk1 hd
  obtain ⟨C, T, N, ty0, hc, hin, hty, hnm, hk0, hlk⟩ := hf
  obtain ⟨C', T', N', hc', hfin, hdecl, hpd⟩ := ht
  cases hc.symm.trans hc'
  intro p e s m args below meth c K0 E H locs ls hk hk1 hP hS hl
  have hx := E.2.2.2.2.2.1
  have ha := lv_lt_of hk ho oB_dd
  refine va_putF (D := gD G) (ci := ci) (v := tv G v) (ty := ty) (C := C) (T := T) (N := N) (fs := fs.map (tv G)) E.1 E.2.1 hx (fun w hw => List.mem_cons_of_mem _ (hin w hw)) ty0 hty hnm E.2.2.2.2.1 E.2.2.2.2.2.2.2.2.2.2.1 hP (wl_D hk1) hS a (by rw [wl_get ha, ho]; rfl) hc k hk0 (hx _ (List.mem_cons_of_mem _ hlk)) (fun _ h9 => h9) hfin (E.2.2.2.2.2.2.2.1.trans hin2) hdecl hpd hn hfit (by rw [List.length_map]; exact hlen) he (fun H1 locs1 hP1 hD1 hS1 => ?_)
  have e1 : (wl G (K0 + cs) h).set a (ad G a, .inr (ci, (fs.map (tv G)).set k (tv G v))) = wl G (K0 + cs) (hu h a (oB ci (fs.set k v))) := by
    rw [← wl_set]
    simp [te, oB, List.map_set]
  rw [e1] at hP1
  exact kk p e s m args below meth c K0 E H1 locs1 ls (hu_dd hk ho oB_dd oB_dd) hk1 hP1 hS1 hl
theorem z_iald {a N j : Nat} {f : Nat → Int32} {i : Int32} (hd : dkb M pc .iaload 1 n = true) (ho : h a = aI N f) (hi : ix i j N) (kk : Z G M d mc ms cs sl n lv (.int (f j) :: st) h Q) : Z G M d mc ms cs sl pc lv (.int i :: .ref a :: st) h Q := by
  obtain ⟨he, rfl⟩ := dk1 hd
  obtain ⟨rfl, hin⟩ := hi
  intro p e s m args below meth c K0 E H locs ls hk hk1 hP hS hl
  have ha := lv_lt_of hk ho aI_dd
  exact va_iald E.1 E.2.1 E.2.2.2.2.2.2.2.2.2.2.1 hP a 0 (by rw [wl_get ha, ho]; rfl) rfl hin he (kk p e s m args below meth c K0 E H locs ls hk hk1 hP hS hl)
theorem z_zald {a N j : Nat} {f : Nat → Bool} {i : Int32} (hd : dkb M pc .baload 1 n = true) (ho : h a = aZ N f) (hi : ix i j N) (kk : Z G M d mc ms cs sl n lv (.int (bI (f j)) :: st) h Q) : Z G M d mc ms cs sl pc lv (.int i :: .ref a :: st) h Q := by
  obtain ⟨he, rfl⟩ := dk1 hd
  obtain ⟨rfl, hin⟩ := hi
  intro p e s m args below meth c K0 E H locs ls hk hk1 hP hS hl
  have ha := lv_lt_of hk ho aZ_dd
  exact va_zald (f := fun j => bI (f j)) E.1 E.2.1 E.2.2.2.2.2.2.2.2.2.2.1 hP a 1 (by rw [wl_get ha, ho]; rfl) rfl hin he (kk p e s m args below meth c K0 E H locs ls hk hk1 hP hS hl)
theorem z_aald {a N j y : Nat} {f : Nat → Option Nat} {i : Int32} (hd : dkb M pc .aaload 1 n = true) (ho : h a = aR 2 N f) (hi : ix i j N) (hy : f j = some y) (kk : Z G M d mc ms cs sl n lv (.ref y :: st) h Q) : Z G M d mc ms cs sl pc lv (.int i :: .ref a :: st) h Q := by
  obtain ⟨he, rfl⟩ := dk1 hd
  obtain ⟨rfl, hin⟩ := hi
  intro p e s m args below meth c K0 E H locs ls hk hk1 hP hS hl
  have ha := lv_lt_of hk ho aR_dd
  refine va_aldq (f := fun j => (f j).map (ad G)) E.1 E.2.1 E.2.2.2.2.2.2.2.2.2.2.1 hP a 2 (by rw [wl_get ha, ho]; rfl) rfl hin he ?_
  rw [hy]
  exact kk p e s m args below meth c K0 E H locs ls hk hk1 hP hS hl
theorem z_aald2 {a N j y : Nat} {f : Nat → Option Nat} {i : Int32} (hd : dkb M pc .aaload 1 n = true) (ho : h a = aR 3 N f) (hi : ix i j N) (hy : f j = some y) (kk : Z G M d mc ms cs sl n lv (.ref y :: st) h Q) : Z G M d mc ms cs sl pc lv (.int i :: .ref a :: st) h Q := by
  obtain ⟨he, rfl⟩ := dk1 hd
  obtain ⟨rfl, hin⟩ := hi
  intro p e s m args below meth c K0 E H locs ls hk hk1 hP hS hl
  have ha := lv_lt_of hk ho aR_dd
  have hlt : i.toNatClampNeg < N := Nat.not_le.mp fun q => hin (Or.inr q)
  have hcell : H[ad G a]? = some (vp_cell (gA G 3) (N, .inr (.inr (.inr (.inr (fun j => (f j).map (ad G))))))) := by
    have := hP a _ (wl_get ha)
    rw [ho] at this
    exact this
  refine W.aald (v := va_rf ((f i.toNatClampNeg).map (ad G))) (ty := .array .int) E.1 E.2.1 hcell ((E.2.2.2.2.2.2.2.2.2.2.1.2 3 _ rfl).1 N (fun j => va_rf ((f j).map (ad G)))) rfl (fun q => by cases q) (by show ¬ (i < 0 ∨ (arrV _ _ _).slots.size ≤ _); rw [arrV_size]; exact hin) (by show (arrV _ _ _).slots[_]? = _; rw [arrV_read _ _ hlt]) rfl rfl he ?_
  rw [hy]
  exact kk p e s m args below meth c K0 E H locs ls hk hk1 hP hS hl
theorem z_iast {a N j : Nat} {f : Nat → Int32} {i x : Int32} (hd : dkb M pc .iastore 1 n = true) (ho : h a = aI N f) (hi : ix i j N) (kk : Z G M d mc ms cs sl n lv st (hu h a (aI N (upd f j x))) Q) : Z G M d mc ms cs sl pc lv (.int x :: .int i :: .ref a :: st) h Q := by
  obtain ⟨he, rfl⟩ := dk1 hd
  obtain ⟨rfl, hin⟩ := hi
  intro p e s m args below meth c K0 E H locs ls hk hk1 hP hS hl
  have ha := lv_lt_of hk ho aI_dd
  refine va_iast E.1 E.2.1 E.2.2.2.2.2.2.2.2.2.2.1 hP (wl_D hk1) hS a 0 (by rw [wl_get ha, ho]; rfl) rfl hin he (fun H1 locs1 hP1 hD1 hS1 => ?_)
  have e1 : (wl G (K0 + cs) h).set a (ad G a, .inl (gA G 0, N, .inl (upd f i.toNatClampNeg x))) = wl G (K0 + cs) (hu h a (aI N (upd f i.toNatClampNeg x))) := by
    rw [← wl_set]
    rfl
  rw [e1] at hP1
  exact kk p e s m args below meth c K0 E H1 locs1 ls (hu_dd hk ho aI_dd aI_dd) hk1 hP1 hS1 hl
/-- a row of booleans with one changed -/
def updB (f : Nat → Bool) (k : Nat) (x : Bool) : Nat → Bool := fun j => if j = k then x else f j
theorem updB_s {f : Nat → Bool} {k : Nat} {x : Bool} : updB f k x k = x := by simp [updB]
theorem updB_n {f : Nat → Bool} {k j : Nat} {x : Bool} (hj : j ≠ k) : updB f k x j = f j := by simp [updB, hj]
theorem z_zast {a N j : Nat} {f : Nat → Bool} {i x : Int32} {b : Bool} (hd : dkb M pc .bastore 1 n = true) (ho : h a = aZ N f) (hi : ix i j N) (hx : x = bI b) (kk : Z G M d mc ms cs sl n lv st (hu h a (aZ N (updB f j b))) Q) : Z G M d mc ms cs sl pc lv (.int x :: .int i :: .ref a :: st) h Q := by
  obtain ⟨he, rfl⟩ := dk1 hd
  obtain ⟨rfl, hin⟩ := hi
  subst hx
  intro p e s m args below meth c K0 E H locs ls hk hk1 hP hS hl
  have ha := lv_lt_of hk ho aZ_dd
  refine va_zast (f := fun j => bI (f j)) E.1 E.2.1 E.2.2.2.2.2.2.2.2.2.2.1 hP (wl_D hk1) hS a 1 (by rw [wl_get ha, ho]; rfl) rfl hin he (fun H1 locs1 hP1 hD1 hS1 => ?_)
  have e2 : upd (fun j => bI (f j)) i.toNatClampNeg (vp_nar .boolean (bI b)) = fun j => bI (updB f i.toNatClampNeg b j) := by
    funext q
    rw [bI_vp]
    by_cases hq : q = i.toNatClampNeg
    · subst hq; simp [upd, updB]
    · simp [upd, updB, hq]
  have e1 : (wl G (K0 + cs) h).set a (ad G a, .inl (gA G 1, N, .inl (upd (fun j => bI (f j)) i.toNatClampNeg (vp_nar .boolean (bI b))))) = wl G (K0 + cs) (hu h a (aZ N (updB f i.toNatClampNeg b))) := by
    rw [← wl_set, e2]
    rfl
  rw [e1] at hP1
  exact kk p e s m args below meth c K0 E H1 locs1 ls (hu_dd hk ho aZ_dd aZ_dd) hk1 hP1 hS1 hl
theorem z_alenI {a N : Nat} {f : Nat → Int32} (hd : dkb M pc .arraylength 1 n = true) (ho : h a = aI N f) (kk : Z G M d mc ms cs sl n lv (.int (nI N) :: st) h Q) : Z G M d mc ms cs sl pc lv (.ref a :: st) h Q := by
  obtain ⟨he, rfl⟩ := dk1 hd
  intro p e s m args below meth c K0 E H locs ls hk hk1 hP hS hl
  have ha := lv_lt_of hk ho aI_dd
  exact va_alen E.1 E.2.1 E.2.2.2.2.2.2.2.2.2.2.1 hP a 0 (x := (N, .inl f)) (by rw [wl_get ha, ho]; rfl) rfl rfl he (kk p e s m args below meth c K0 E H locs ls hk hk1 hP hS hl)
theorem z_alenZ {a N : Nat} {f : Nat → Bool} (hd : dkb M pc .arraylength 1 n = true) (ho : h a = aZ N f) (kk : Z G M d mc ms cs sl n lv (.int (nI N) :: st) h Q) : Z G M d mc ms cs sl pc lv (.ref a :: st) h Q := by
  obtain ⟨he, rfl⟩ := dk1 hd
  intro p e s m args below meth c K0 E H locs ls hk hk1 hP hS hl
  have ha := lv_lt_of hk ho aZ_dd
  exact va_alen E.1 E.2.1 E.2.2.2.2.2.2.2.2.2.2.1 hP a 1 (x := (N, .inl (fun j => bI (f j)))) (by rw [wl_get ha, ho]; rfl) rfl rfl he (kk p e s m args below meth c K0 E H locs ls hk hk1 hP hS hl)
/-! calls -/
theorem mB_blind (G : mG) (av : List Value) (h : mH) (K mc : Nat) : FrameBlind (va_Pc av (mB G h K mc)) := by
  intro a U g mk q
  obtain ⟨q0, q1, q2, q3, qP, qK, qC, qI⟩ := q
  exact ⟨q0, q1, q2, q3, qP, va_K.moved (u := U) (U := U.calling g mk a) (Vm.Alike.refl U.vm) qK, qC, qC U _ qI (State.WarmedH.refl U) (fun _ _ => rfl)⟩
/-- behind a call -/
theorem z_back {p : Program} {e : Env} {s : State} {m : MethodId} {args : Array Value} {below : List Frame} {meth : Method} {c : Code} {K0 mc' ms' : Nat} {H : Heap} {locs : List Loc} {ls : Array Slot} {st0 rest : List Value} {Q' : Option Value → mH → Prop} {a : Array Value}
    (E : en G M p s m args meth c K0 mc) (hcs : cs + mc' ≤ mc) (hS : va_S (inA G) s.heap H locs) (hl : lo G ls M.2.2.1 lv)
    (hr : va_Run p (gl G) e (rmm d mc ms) s m args below meth c H locs cs sl mc' ms' (F0 m pc ls st0) (rest.map (tv G)) (mQ G Q' (K0 + cs) mc' a) (inA G))
    (kk : ∀ (r : Option Value) (h' : mH), Q' r h' → Z G M d mc ms (cs + mc') (sl + ms') (pc + 3) lv (r.toList ++ rest) h' Q) :
    W p (gl G) e (rmm d mc ms) s m args below meth c H locs cs sl (MQ below (mQ G Q K0 mc) args s mc ms (inA G)) (F0 m pc ls st0) := by
  intro T hT X
  obtain ⟨v, st₀, t, T', L, h0, X', hL, e1, e2, ⟨⟨r, h', ho, hq, hd', hP'⟩, hz, hkp⟩, stp⟩ := hr T hT X
  cases ho
  rw [h0] at hz hkp
  have hk1 : K0 + (cs + mc') ≤ 1048576 := by have := E.2.2.2.2.2.2.2.2.2.1; omega
  have hS' : va_S (inA G) s.heap T'.heap (locs ++ L) := by
    refine ⟨Nat.le_trans hS.1 (by rw [e1]; exact hz), fun q h1 h2 => ?_, fun q hq9 => ?_⟩
    · rw [e1, hkp q (Nat.lt_of_lt_of_le h1 hS.1) h2]
      exact hS.2.1 q h1 h2
    · rcases List.mem_append.mp hq9 with h9 | h9
      · exact hS.2.2 q h9
      · exact hL q h9
  rw [Nat.add_assoc] at hP'
  obtain ⟨t2, a1, b1⟩ := kk r h' hq p e s m args below meth c K0 E T'.heap (locs ++ L) ls (fun i => by rw [← Nat.add_assoc]; exact hd' i) hk1 (by rw [e1]; exact hP') hS' hl T' rfl X'
  refine ⟨t2, stp t2 ?_, b1⟩
  have e9 : (r.toList ++ rest).map (tv G) = (r.map (tv G)).toList ++ rest.map (tv G) := by cases r <;> simp
  rw [e9] at a1
  exact a1
theorem en_pre {p : Program} {s : State} {m : MethodId} {args : Array Value} {meth : Method} {c : Code} {K0 mc' : Nat} {H : Heap} {locs : List Loc} {l : Launch} {e : Env} {R : Room} {below : List Frame} {T : State} (E : en G M p s m args meth c K0 mc) (hcs : cs + mc' ≤ mc) (hk : ∀ i, h i = dd ↔ K0 + cs ≤ i) (hP : va_P (gD G) CL (wl G (K0 + cs) h) H) (hS : va_S (inA G) s.heap H locs) (hT : T.heap = H) (X : Stand p l e R s m args below meth c T locs cs sl) (hk1 : K0 + cs ≤ 1048576) :
    ∀ U : State, U.heap = H → s.WarmedH U.vm → mB G h (K0 + cs) mc' U := by
  intro U hU hW
  have hsz : H.size = gb G + (K0 + cs) := by
    have h1 : H.size ≤ s.heap.size + cs := by rw [← hT]; exact X.heapSize
    have h2 : s.heap.size = gb G + K0 := E.2.2.2.2.2.2.2.2.1
    have h3 : gb G + (K0 + cs) ≤ H.size := by
      by_cases h9 : K0 + cs = 0
      · have := hS.1
        omega
      · have hlt : K0 + cs - 1 < K0 + cs := by omega
        have := (hP (K0 + cs - 1) _ (wl_get hlt)).lt
        rw [ad_lo (by omega)] at this
        omega
    omega
  refine ⟨by rw [hU]; exact hsz, by have := E.2.2.2.2.2.2.2.2.2.1; omega, hk, by rw [hU]; exact hP, va_K.moved hW.alike E.2.2.2.2.2.2.2.2.2.2.1, E.2.2.2.2.2.2.2.2.2.2.2.1, E.2.2.2.2.2.2.2.2.2.2.2.1 s U E.2.2.2.2.2.2.2.2.2.2.2.2 hW (fun q hq => ?_)⟩
  rw [hU]
  by_cases h9 : q < s.heap.size
  · exact hS.2.1 q h9 (by show ¬ gb G ≤ q; omega)
  · have := E.2.2.2.2.2.2.2.2.1
    omega
theorem z_callV {M' : mD} {idx np a ci d' mc' ms' : Nat} {fs As rest : List Value} {Q' : Option Value → mH → Prop} (hd : dkb M pc (.invokevirtual idx) 3 n = true) (hv : cV M.1.cls idx M' np) (ho : h a = oB ci fs) (hci : (CL[ci]?).map (fun q => q.1) = some M'.1.cls) (hnp : As.length = np) (hst : st = As.reverse ++ .ref a :: rest) (hcat : (rest.map fun v => v.category).sum ≤ 8)
    (hrm : d' + 1 ≤ d) (hcs : cs + mc' ≤ mc) (hsl : sl + ms' ≤ ms) (ev : EV G M' d' mc' ms' (.ref a :: As) h Q') (kk : ∀ (r : Option Value) (h' : mH), Q' r h' → Z G M d mc ms (cs + mc') (sl + ms') n lv (r.toList ++ rest) h' Q) : Z G M d mc ms cs sl pc lv st h Q := by
  obtain ⟨he, rfl⟩ := dk1 hd
  obtain ⟨hC, hlk, hin, hse⟩ := hv
  subst hst
  intro p e s m args below meth c K0 E H locs ls hk hk1 hP hS hl
  have hx := E.2.2.2.2.2.1
  have ha := lv_lt_of hk ho oB_dd
  have mem : ∀ w ∈ TB, w.before args s = true := fun w hw => hx w (List.mem_cons_of_mem _ hw)
  obtain ⟨qc, hqc, hq1⟩ : ∃ qc, CL[ci]? = some qc ∧ qc.1 = M'.1.cls := by
    cases hh : CL[ci]? with
    | none => rw [hh] at hci; cases hci
    | some qc => rw [hh] at hci; exact ⟨qc, rfl, Option.some.inj hci⟩
  intro T hT X
  have hpre := en_pre (mc' := mc') E hcs hk hP hS hT X hk1
  have hcw : CallW (rmm d mc ms) s args M.1.cls M'.1.cls idx M'.1 M'.2.1 M'.2.2.1 M'.2.2.2 (wS M') (rmm d' mc' ms') mc' ms' np :=
    ⟨callB_of np hx (wS_good hC) rfl rfl rfl (mem _ hC.2.1) (mem _ hlk) hC.2.2.1 ⟨hrm, by show 8 + (M'.2.2.1 + 11) + 40 * d' ≤ 40 * d; have := hC.2.2.2; omega⟩, mem _ hin, mem _ hse⟩
  have hrun := va_runV (e := e) (meth := meth) (below := below) (locs := locs) (cells := cs) (slots := sl) (H := H) (g := F0 m pc ls ((As.reverse ++ .ref a :: rest).map (tv G))) (b := ad G a) (As := As.map (tv G)) (rest := rest.map (tv G)) (nL := M.2.2.1) ⟨E.1, E.2.1, E.2.2.1, E.2.2.2.2.1, hx⟩ (ev (K0 + cs)) hcw
    ⟨mB_blind G _ h (K0 + cs) mc', by rw [← hq1]; exact va_recv E.2.2.2.2.2.2.2.2.2.2.1 hP hqc (q0 := a) (fs := fs.map (tv G)) (by rw [wl_get ha, ho]; rfl), fun U hU hW => ⟨rfl, hpre U hU hW⟩⟩ rfl (by rw [List.length_map]; exact hnp) hl.1 (by simp [List.map_reverse, tv]) (by
      refine lv_room ?_
      rw [List.map_map]
      have : ((fun v => v.category) ∘ tv G) = (fun v : Value => v.category) := by funext v; exact tv_cat G v
      rw [this]; exact hcat) he ⟨hcs, hsl⟩
  exact z_back E hcs hS hl hrun kk T hT X
theorem z_callS {M' : mD} {idx np d' mc' ms' : Nat} {As rest : List Value} {Q' : Option Value → mH → Prop} (hd : dkb M pc (.invokestatic idx) 3 n = true) (hv : cS M.1.cls idx M' np) (hnp : As.length = np) (hst : st = As.reverse ++ rest) (hcat : (rest.map fun v => v.category).sum ≤ 8)
    (hrm : d' + 1 ≤ d) (hcs : cs + mc' ≤ mc) (hsl : sl + ms' ≤ ms) (ev : EV G M' d' mc' ms' As h Q') (kk : ∀ (r : Option Value) (h' : mH), Q' r h' → Z G M d mc ms (cs + mc') (sl + ms') n lv (r.toList ++ rest) h' Q) : Z G M d mc ms cs sl pc lv st h Q := by
  obtain ⟨he, rfl⟩ := dk1 hd
  obtain ⟨hC, hlk, hin⟩ := hv
  subst hst
  intro p e s m args below meth c K0 E H locs ls hk hk1 hP hS hl
  have hx := E.2.2.2.2.2.1
  have mem : ∀ w ∈ TB, w.before args s = true := fun w hw => hx w (List.mem_cons_of_mem _ hw)
  intro T hT X
  have hpre := en_pre (mc' := mc') E hcs hk hP hS hT X hk1
  have hcb : CallB (rmm d mc ms) s args M.1.cls idx M'.1 M'.2.1 M'.2.2.1 M'.2.2.2 (wS M') (rmm d' mc' ms') mc' ms' np :=
    callB_of np hx (wS_good hC) rfl rfl rfl (mem _ hC.2.1) (mem _ hlk) hC.2.2.1 ⟨hrm, by show 8 + (M'.2.2.1 + 11) + 40 * d' ≤ 40 * d; have := hC.2.2.2; omega⟩
  have hrun := va_runS (e := e) (meth := meth) (below := below) (locs := locs) (cells := cs) (slots := sl) (H := H) (g := F0 m pc ls ((As.reverse ++ rest).map (tv G))) (As := As.map (tv G)) (rest := rest.map (tv G)) (nL := M.2.2.1) ⟨E.1, E.2.1, E.2.2.1, E.2.2.2.2.1, hx⟩ (ev (K0 + cs)) ⟨hcb, mem _ hin⟩
    ⟨mB_blind G _ h (K0 + cs) mc', fun U hU hW => ⟨rfl, hpre U hU hW⟩⟩ rfl (by rw [List.length_map]; exact hnp) hl.1 (by simp [List.map_reverse]) (by
      refine lv_room ?_
      rw [List.map_map]
      have : ((fun v => v.category) ∘ tv G) = (fun v : Value => v.category) := by funext v; exact tv_cat G v
      rw [this]; exact hcat) he ⟨hcs, hsl⟩
  exact z_back E hcs hS hl hrun kk T hT X
theorem z_callI {M' : mD} {idx np a d' mc' ms' : Nat} {As rest : List Value} {Q' : Option Value → mH → Prop} (hd : dkb M pc (.invokespecial idx) 3 n = true) (hv : cI M.1.cls idx M' np) (hM : M'.2.2.2 = none ∧ M'.1.name = "<init>") (hnp : As.length = np) (hst : st = As.reverse ++ .ref a :: rest) (hcat : (rest.map fun v => v.category).sum ≤ 8)
    (hrm : d' + 1 ≤ d) (hcs : cs + mc' ≤ mc) (hsl : sl + ms' ≤ ms) (ev : EV G M' d' mc' ms' (.ref a :: As) h Q') (kk : ∀ (r : Option Value) (h' : mH), Q' r h' → Z G M d mc ms (cs + mc') (sl + ms') n lv (r.toList ++ rest) h' Q) : Z G M d mc ms cs sl pc lv st h Q := by
  obtain ⟨he, rfl⟩ := dk1 hd
  obtain ⟨hC, hlk, hin⟩ := hv
  subst hst
  intro p e s m args below meth c K0 E H locs ls hk hk1 hP hS hl
  have hx := E.2.2.2.2.2.1
  have mem : ∀ w ∈ TB, w.before args s = true := fun w hw => hx w (List.mem_cons_of_mem _ hw)
  intro T hT X
  have hpre := en_pre (mc' := mc') E hcs hk hP hS hT X hk1
  have hcb : CallB (rmm d mc ms) s args M.1.cls idx M'.1 M'.2.1 M'.2.2.1 none (wS M') (rmm d' mc' ms') mc' ms' np := by
    have := callB_of (R := rmm d mc ms) (rm := rmm d' mc' ms') (mc := mc') (ms := ms') (own := M.1.cls) (index := idx) np hx (wS_good hC) rfl rfl rfl (mem _ hC.2.1) (mem _ hlk) hC.2.2.1 ⟨hrm, by show 8 + (M'.2.2.1 + 11) + 40 * d' ≤ 40 * d; have := hC.2.2.2; omega⟩
    rw [hM.1] at this
    exact this
  have hrun := va_runI (e := e) (meth := meth) (below := below) (locs := locs) (cells := cs) (slots := sl) (H := H) (g := F0 m pc ls ((As.reverse ++ .ref a :: rest).map (tv G))) (b := ad G a) (As := As.map (tv G)) (rest := rest.map (tv G)) (nL := M.2.2.1) ⟨E.1, E.2.1, E.2.2.1, E.2.2.2.2.1, hx⟩ (ev (K0 + cs)) ⟨hcb, hM.2, mem _ hin⟩
    ⟨mB_blind G _ h (K0 + cs) mc', fun U hU hW => ⟨rfl, hpre U hU hW⟩⟩ rfl (by rw [List.length_map]; exact hnp) hl.1 (by simp [List.map_reverse, tv]) (by
      refine lv_room ?_
      rw [List.map_map]
      have : ((fun v => v.category) ∘ tv G) = (fun v : Value => v.category) := by funext v; exact tv_cat G v
      rw [this]; exact hcat) he ⟨hcs, hsl⟩
  exact z_back E hcs hS hl hrun kk T hT X
end ZH
