/-! new int[N][K] -/
def hmu (h : mH) (k N K : Nat) : mH := fun j => if j = k then aR 3 N (fun i => if i < N then some (k + 1 + i) else none) else if k < j ∧ j < k + 1 + N then aI K (fun _ => 0) else h j
theorem szH_mu {h : mH} {k N K : Nat} (a : szH h k) : szH (hmu h k N K) (k + 1 + N) := by
  intro i
  unfold hmu
  split
  · exact ⟨fun q => absurd q aR_dd, fun q => by omega⟩
  · split
    · exact ⟨fun q => absurd q aI_dd, fun q => by omega⟩
    · rw [a i]; omega
/-- the row of rows, i of them made, the first at address b -/
def mnO (c : ClassId) (N b i : Nat) : Cell := arrV c N (fun j => va_rf (if j < i then some (b + j) else none))
theorem mnO_store (c : ClassId) (N b i : Nat) : (mnO c N b i).setSlot i (.ref (b + i)) = mnO c N b (i + 1) := by
  unfold mnO
  rw [arrV_store]
  refine congrArg (arrV c N) (funext fun j => ?_)
  by_cases e : j = i
  · subst e
    simp [updV, va_rf]
  · by_cases h : j < i
    · simp [updV, e, h, Nat.lt_succ_of_lt h]
    · simp [updV, e, h, show ¬ j < i + 1 by omega]
/-- heap H, and behind it the row of rows and i rows of K zeros -/
def mnR (H : Heap) (cA cC : ClassId) (N K i : Nat) (H' : Heap) : Prop := H'.size = H.size + (1 + i) ∧ (∀ a, a < H.size → H'[a]? = H[a]?) ∧ H'[H.size]? = some (mnO cA N (H.size + 1) i) ∧ ∀ j, j < i → H'[H.size + 1 + j]? = some (arrV cC K (fun _ => .int 0))
theorem mnR_zero {U : State} {H : Heap} {cA cC : ClassId} {N K : Nat} (hU : U.heap = H) : mnR H cA cC N K 0 (U.pushCell (mnO cA N (H.size + 1) 0)).heap := by
  subst hU
  exact ⟨by simp, fun a ha => State.heap_pushCell_of_lt _ _ ha, by simp, fun j hj => absurd hj (Nat.not_lt_zero _)⟩
theorem mnR_next {U : State} {H : Heap} {cA cC : ClassId} {N K i : Nat} (h : mnR H cA cC N K i U.heap) : mnR H cA cC N K (i + 1) ((U.pushCell (arrV cC K (fun _ => .int 0))).setCell H.size (mnO cA N (H.size + 1) (i + 1))).heap := by
  obtain ⟨h1, h2, h3, h4⟩ := h
  have old : ∀ a, a < U.heap.size → (U.pushCell (arrV cC K (fun _ => .int 0))).heap[a]? = U.heap[a]? := fun a ha => State.heap_pushCell_of_lt _ _ ha
  refine ⟨?_, fun a ha => ?_, State.heap_setCell_self (by rw [old _ (by omega)]; exact h3), fun j hj => ?_⟩
  · simp [State.setCell, h1]; omega
  · rw [State.heap_setCell_other (Nat.ne_of_gt ha), old _ (by omega)]
    exact h2 a ha
  · rw [State.heap_setCell_other (show H.size ≠ H.size + 1 + j by omega)]
    by_cases e : j = i
    · subst e
      rw [show H.size + 1 + j = U.heap.size by omega]
      exact State.heap_pushCell_size _ _
    · rw [old _ (by omega)]
      exact h4 j (by omega)
/-- heap H and vm of T, behind them the row of rows and i rows of K zeros: the state -/
def mnU (T : State) (cA cC : ClassId) (N K : Nat) : Nat → State
  | 0 => T.pushCell (mnO cA N (T.heap.size + 1) 0)
  | i + 1 => ((mnU T cA cC N K i).pushCell (arrV cC K (fun _ => .int 0))).setCell T.heap.size (mnO cA N (T.heap.size + 1) (i + 1))
theorem mnU_R (T : State) (cA cC : ClassId) (N K : Nat) : ∀ i, mnR T.heap cA cC N K i (mnU T cA cC N K i).heap
  | 0 => mnR_zero rfl
  | i + 1 => mnR_next (mnU_R T cA cC N K i)
theorem mnU_vm (T : State) (cA cC : ClassId) (N K : Nat) : ∀ i, (mnU T cA cC N K i).vm = T.vm
  | 0 => rfl
  | i + 1 => mnU_vm T cA cC N K i
section MNA
variable {p : Program} {l : Launch} {e : Env} {R : Room} {s : State} {m : MethodId} {args : Array Value} {below : List Frame} {meth : Method} {c : Code} {T : State} {locs : List Loc} {cells slots : Nat} {B : CtlPost} {d : Bool} {acts : List Action}
/-- one row of K zeros -/
theorem mn_row (X : Stand p l e R s m args below meth c T locs cells slots) {cC cc : ClassId} {kC : Class} {k : Int32} {K : Nat} (hkC : T.vm.classes[cC]? = some kC) (hdC : kC.kind = .array cc .int) (hk : ¬ k < 0) (eK : k.toNatClampNeg = K) (hK : K ≤ 1000) (hc : cells + 1 ≤ R.cells) (hs : slots + K ≤ R.slots) (g : JFrame) {Q : Addr → Pre} (hq : ∀ acts', Q T.heap.size d acts' ((T.pushCell (arrV cC K (fun _ => .int 0))).setTop g)) : wp (Jvm.Op.multianewarray.make cC [k]) Q B e d acts (T.setTop g) := by
  obtain ⟨r1, r2⟩ := X.roomAbove hc hs
  rw [Jvm.Op.multianewarray.make]
  simp only [wp_bind', W.ite, hk, if_false, wp_pure', W.theClass, State.vm_setTop, hkC, hdC, Option.some.injEq, exists_eq_left', eK]
  refine W.newArray_of (type := .int) hkC hdC (by rw [Launch.admits_arrayLengthLimit X.admits]; omega) (by rw [Launch.admits_maxHeapBytes X.admits]; show ¬ K * 4 > _; omega) r1 r2 rfl (fun acts' => ?_)
  have := hq acts'
  rw [← arrV_new] at this
  exact this
theorem mn_stand (X : Stand p l e R s m args below meth c T locs cells slots) (cA cC : ClassId) (N K : Nat) : ∀ i, Stand p l e R s m args below meth c (mnU T cA cC N K i) locs (cells + (1 + i)) (slots + (N + i * K))
  | 0 => by
    have h := X.pushed (mnO cA N (T.heap.size + 1) 0)
    have e1 : (mnO cA N (T.heap.size + 1) 0).slots.size = N := arrV_size _ _ _
    rw [e1] at h
    rw [show slots + (N + 0 * K) = slots + N by omega]
    exact h
  | i + 1 => by
    obtain ⟨h1, -, h3, -⟩ := mnU_R T cA cC N K i
    have h := (mn_stand X cA cC N K i).pushed (arrV cC K (fun _ => .int 0))
    have e1 : (arrV cC K (fun _ => .int 0)).slots.size = K := arrV_size _ _ _
    rw [e1] at h
    have hg : ((mnU T cA cC N K i).pushCell (arrV cC K (fun _ => .int 0))).heap[T.heap.size]? = some (mnO cA N (T.heap.size + 1) i) := by
      rw [State.heap_pushCell_of_lt _ _ (show T.heap.size < (mnU T cA cC N K i).heap.size by omega)]
      exact h3
    have h' := (h.stored hg i (.ref (T.heap.size + 1 + i))).dropFresh (fun x hx => by
      rw [List.mem_singleton.mp hx]
      exact X.heapGrown)
    rw [mnO_store] at h'
    rw [show slots + (N + (i + 1) * K) = slots + (N + i * K) + K by rw [Nat.succ_mul]; omega]
    exact h'
/-- 'make' with two counts -/
theorem mn_make (X : Stand p l e R s m args below meth c T locs cells slots) {cA cC cc : ClassId} {kA kC : Class} {n k : Int32} {N K : Nat} (hkA : T.vm.classes[cA]? = some kA) (hdA : kA.kind = .array cC (.array .int)) (hkC : T.vm.classes[cC]? = some kC) (hdC : kC.kind = .array cc .int) (hn : ¬ n < 0) (hk : ¬ k < 0) (eN : n.toNatClampNeg = N) (eK : k.toNatClampNeg = K) (hN : N ≤ 1000) (hK : K ≤ 1000) (hc : cells + (1 + N) ≤ R.cells) (hs : slots + (N + N * K) ≤ R.slots) (g : JFrame) {Q : Addr → Pre} (hq : ∀ d' acts', Q T.heap.size d' acts' ((mnU T cA cC N K N).setTop g)) : wp (Jvm.Op.multianewarray.make cA [n, k]) Q B e d acts (T.setTop g) := by
  obtain ⟨r1, r2⟩ := X.roomAbove (a := 1) (b := N) (by omega) (by omega)
  have hf : ([k].find? (· < 0)) = none := by simp [hk]
  rw [Jvm.Op.multianewarray.make]
  simp only [wp_bind', W.ite, hn, if_false, wp_pure', W.theClass, State.vm_setTop, hkA, hdA, Option.some.injEq, exists_eq_left', eN]
  refine W.newArray_of (type := .array .int) hkA hdA (by rw [Launch.admits_arrayLengthLimit X.admits]; omega) (by rw [Launch.admits_maxHeapBytes X.admits]; show ¬ N * 4 > _; omega) r1 r2 rfl (fun acts' => ?_)
  simp only [hf]
  rw [ite_self, wp_bind', Std.Legacy.Range.forIn_eq_forIn_range']
  rw [show ([:N] : Std.Legacy.Range).size = N by simp [Std.Legacy.Range.size]]
  refine wp_forIn_inv (fun r S => r.length ≤ N ∧ r = List.range' (N - r.length) r.length ∧ S = (mnU T cA cC N K (N - r.length)).setTop g) _ _ ?_ ?_ ?_
  · refine ⟨by simp, by simp, ?_⟩
    rw [List.length_range', Nat.sub_self]
    show (T.pushCell { cls := cA, slots := Array.replicate N .null, vm := .none }).setTop g = (T.pushCell (mnO cA N (T.heap.size + 1) 0)).setTop g
    rw [arrV_new]
    refine congrArg (fun f => (T.pushCell (arrV cA N f)).setTop g) (funext fun j => ?_)
    simp [va_rf]
  · rintro x r S d' acts' Q' ⟨hl, hr, rfl⟩ hnext
    rw [List.length_cons] at hl hr ⊢
    obtain ⟨i, hi⟩ : ∃ i, N = i + (r.length + 1) := ⟨N - (r.length + 1), by omega⟩
    have e1 : N - (r.length + 1) = i := by omega
    have e2 : N - r.length = i + 1 := by omega
    rw [e1] at hr ⊢
    rw [List.range'_succ] at hr
    obtain ⟨rfl, hr⟩ := List.cons.inj hr
    obtain ⟨h1, -, h3, -⟩ := mnU_R T cA cC N K x
    have hmul : (x + 1) * K ≤ N * K := Nat.mul_le_mul_right K (by omega)
    rw [Nat.succ_mul] at hmul
    simp only [wp_bind']
    refine mn_row (mn_stand X cA cC N K x) (by rw [mnU_vm]; exact hkC) hdC hk eK hK (by omega) (by omega) g (fun acts'' => ?_)
    simp only [wp_bind', W.writeLoc, wp_pure']
    refine ⟨mnO cA N (T.heap.size + 1) x, ?_, by simp [mnO, arrV], ?_, ?_, hnext _ _ _ ⟨by omega, by rw [e2]; exact hr, ?_⟩⟩
    · show ((mnU T cA cC N K x).pushCell (arrV cC K (fun _ => .int 0))).heap[T.heap.size]? = _
      rw [State.heap_pushCell_of_lt _ _ (show T.heap.size < (mnU T cA cC N K x).heap.size by omega)]
      exact h3
    · have : (mnO cA N (T.heap.size + 1) x).slots.size = N := arrV_size _ _ _
      omega
    · show State.fitsSlot _ cA .none x _ = true
      simp [State.fitsSlot, State.slotType?, mnU_vm, hkA, hdA, fits]
    · rw [e2]
      show (((mnU T cA cC N K x).pushCell (arrV cC K (fun _ => .int 0))).setCell T.heap.size ((mnO cA N (T.heap.size + 1) x).setSlot x (.ref (mnU T cA cC N K x).heap.size))).setTop g = _
      rw [h1, show T.heap.size + (1 + x) = T.heap.size + 1 + x by omega, mnO_store]
      rfl
  · rintro S d' acts' ⟨-, -, rfl⟩
    simp only [wp_pure']
    exact hq _ _
theorem mn_step (X : Stand p l e R s m args below meth c T locs cells slots) (hexec : p.tables.exec = Jvm.exec) {own : String} {index : Nat} (hown : s.vm.findClass own = some m.cls) (hlk : (Cond.classLink own index "[[I").before args s = true) (hover : (Cond.arrayOver (.array .int)).before args s = true) (harr : (Cond.arrayClass .int).before args s = true) {g : JFrame} (hg : g.method = m) (hdg : decode c.code g.pc = .ok (.multianewarray index 2, 4)) {n k : Int32} {N K : Nat} {rest : List Value} (hst : g.stack = .int k :: .int n :: rest) (hn : ¬ n < 0) (hk : ¬ k < 0) (eN : n.toNatClampNeg = N) (eK : k.toNatClampNeg = K) (hN : N ≤ 1000) (hK : K ≤ 1000) (hc : cells + (1 + N) ≤ R.cells) (hs : slots + (N + N * K) ≤ R.slots) :
    ∃ (cA cC : ClassId) (F : State), s.vm.findClass "[[I" = some cA ∧ s.vm.findClass "[I" = some cC ∧ mnR T.heap cA cC N K N F.heap ∧ Stand p l e R s m args below meth c F locs (cells + (1 + N)) (slots + (N + N * K)) ∧ ∀ t, Steps p.tables e below (F.setTop { g with pc := g.pc + 4, stack := .ref T.heap.size :: rest }) t → Steps p.tables e below (T.setTop g) t := by
  subst hg
  obtain ⟨cC, cA, kA, o1, -, o3, o4, o5⟩ := arrayOverA_spec hover
  obtain ⟨cC', kC, cc, a1, a2, a3⟩ := Cond.arrayClass_spec harr
  cases Option.some.inj (a1.symm.trans o1)
  obtain ⟨c0, f0, lk⟩ := Cond.classLink_spec hown hlk e.platform (by rw [X.admits.platform])
  cases Option.some.inj (o5.symm.trans f0)
  obtain ⟨gv, wv, -⟩ := State.classEntry (e := e) X.warmed lk
  generalize T.vm.noted g.method.cls index (.cls cA) = v at gv wv
  obtain ⟨kA', b1, b2⟩ := wv.alike.2.2 _ _ o3
  obtain ⟨kC', b3, b4⟩ := wv.alike.2.2 _ _ a2
  have Y := X.noted wv
  have YF := mn_stand Y cA cC N K N
  refine ⟨cA, cC, mnU (T.setVm v) cA cC N K N, o5, o1, mnU_R (T.setVm v) cA cC N K N, YF, fun t ht => ?_⟩
  jvm_step X.here [hexec, hdg]
  simp only [Jvm.Op.multianewarray.sem, wp_bind', W.resolveClassAt_links (State.method?_setTop g X.here.top) gv]
  rw [W.popN, if_neg (by decide)]
  refine ⟨g, State.topJava?_setTop' (s := T.setVm v) g X.here.top, [.int n, .int k], rest, rfl, hst, ?_⟩
  simp only [List.mapM_cons, List.mapM_nil, wp_bind', wp_pure']
  have e1 : ((T.setTop g).setVm v).setTop { g with stack := rest } = (T.setVm v).setTop { g with stack := rest } := State.setTop_setTop (T.setVm v) g _
  rw [e1]
  refine mn_make Y (kA := kA') (kC := kC') (cc := cc) b1 (by rw [b2]; exact o4) b3 (by rw [b4]; exact a3) hn hk eN eK hN hK hc hs { g with stack := rest } (fun d' acts' => ?_)
  simp only [wp_bind', W.mark, W.pushRef, State.topJava?_setTop' _ YF.here.top, Option.some.injEq, exists_eq_left', State.setTop_setTop, State.heap_setTop]
  intro acts
  simp [jvm, YF.here.top]
  exact ht
end MNA
theorem z_mna {G : mG} {M : mD} {d mc ms cs sl pc n : Nat} {lv : List (Option Value)} {st : List Value} {h : mH} {Q : Option Value → mH → Prop} {idx k N K : Nat} (hd : dkb M pc (.multianewarray idx 2) 4 n = true) (hw : Cond.classLink M.1.cls idx "[[I" ∈ TB) (hAA : ∀ U, gI G U → (Cond.arrayOver (.array .int)).before #[] U = true) (hz : szH h k) (hN : N ≤ 1000) (hK : K ≤ 1000) (hc : cs + (1 + N) ≤ mc) (hs : sl + (N + N * K) ≤ ms) (kk : Z G M d mc ms (cs + (1 + N)) (sl + (N + N * K)) n lv (.ref k :: st) (hmu h k N K) Q) : Z G M d mc ms cs sl pc lv (.int (nI K) :: .int (nI N) :: st) h Q := by
  obtain ⟨he, rfl⟩ := dk1 hd
  intro p e s m args below meth c K0 E H locs ls hk hk1 hP hS hl
  have ek := szH_eq hz hk
  subst ek
  have mem : ∀ w ∈ TB, w.before args s = true := fun w hw => E.2.2.2.2.2.1 w (List.mem_cons_of_mem _ hw)
  have hmc := E.2.2.2.2.2.2.2.2.2.1
  have hKK := E.2.2.2.2.2.2.2.2.2.2.1
  intro T hT X
  have hsz : H.size = gb G + (K0 + cs) := by
    have := (en_pre (mc' := 0) E (by omega) hk hP hS hT X hk1 T hT X.warmed).1
    rw [hT] at this
    exact this
  obtain ⟨cA, cC, F, fA, fC, hF, X', step⟩ := mn_step X E.1 E.2.2.2.2.1 (mem _ hw) (hAA s E.2.2.2.2.2.2.2.2.2.2.2.2) (mem _ jw_arr.1) (g := F0 m pc ls (.int (nI K) :: .int (nI N) :: st.map (tv G))) rfl (by rw [E.2.1]; exact he) rfl (nI_pos (by omega)) (nI_pos (by omega)) (nI_clamp (by omega)) (nI_clamp (by omega)) hN hK hc hs
  have eA : cA = gA G 3 := by
    have h2 : s.vm.findClass _ = some (gA G 3) := (hKK.2 3 _ rfl).2
    exact Option.some.inj (fA.symm.trans h2)
  have eC : cC = gA G 0 := by
    have h2 : s.vm.findClass _ = some (gA G 0) := (hKK.2 0 _ rfl).2
    exact Option.some.inj (fC.symm.trans h2)
  subst eA
  subst eC
  obtain ⟨f1, fo, f2, fi⟩ := hF
  rw [hT] at f1 fo f2 fi
  unfold mnO at f2
  have hP1 : va_P (gD G) CL (wl G (K0 + cs + 1 + N) (hmu h (K0 + cs) N K)) F.heap := by
    intro i q hq
    have hi : i < K0 + cs + 1 + N := by
      have := (List.getElem?_eq_some_iff.mp hq).1
      simpa [wl] using this
    rw [wl_get hi] at hq
    cases hq
    by_cases h1 : i < K0 + cs
    · have e1 : hmu h (K0 + cs) N K i = h i := by
        unfold hmu
        rw [if_neg (by omega), if_neg (by omega)]
      rw [e1]
      refine (hP i _ (wl_get h1)).kept ?_
      have := (hP i _ (wl_get h1)).lt
      exact fo _ this
    · by_cases h2 : i = K0 + cs
      · subst h2
        have e1 : hmu h (K0 + cs) N K (K0 + cs) = aR 3 N (fun i => if i < N then some (K0 + cs + 1 + i) else none) := by
          unfold hmu
          rw [if_pos rfl]
        rw [e1]
        show F.heap[ad G (K0 + cs)]? = some (vp_cell (gA G 3) (N, .inr (.inr (.inr (.inr (fun j => (if j < N then some (K0 + cs + 1 + j) else none : Option Nat).map (ad G)))))))
        rw [ad_lo (by omega), ← hsz, f2, vp_cell_q]
        congr 2
        funext j
        by_cases hj : j < N
        · simp only [if_pos hj, Option.map_some]
          rw [ad_lo (by omega), hsz]
          congr 2
          omega
        · simp only [if_neg hj, Option.map_none]
      · have e1 : hmu h (K0 + cs) N K i = aI K (fun _ => 0) := by
          unfold hmu
          rw [if_neg h2, if_pos (by omega)]
        rw [e1]
        show F.heap[ad G i]? = some (vp_cell (gA G 0) (K, .inl (fun _ => 0)))
        have := fi (i - (K0 + cs + 1)) (by omega)
        rw [ad_lo (by omega), show gb G + i = H.size + 1 + (i - (K0 + cs + 1)) by omega, this, vp_cell_i]
  have hS1 : va_S (inA G) s.heap F.heap locs := by
    refine ⟨Nat.le_trans hS.1 (by omega), fun q h1 h2 => ?_, hS.2.2⟩
    rw [fo q (Nat.lt_of_lt_of_le h1 hS.1)]
    exact hS.2.1 q h1 h2
  have hsm := szH_mu (N := N) (K := K) hz
  obtain ⟨t, a1, b1⟩ := kk p e s m args below meth c K0 E F.heap locs ls (fun i => by rw [hsm i]; omega) (by omega) (by rw [show K0 + (cs + (1 + N)) = K0 + cs + 1 + N by omega]; exact hP1) hS1 hl F rfl X'
  refine ⟨t, step t ?_, b1⟩
  have e9 : (F0 m pc ls (.int (nI K) :: .int (nI N) :: st.map (tv G))).pc + 4 = pc + 4 := rfl
  have eh : T.heap.size = ad G (K0 + cs) := by rw [hT, hsz, ad_lo (by omega)]
  rw [eh]
  exact a1
