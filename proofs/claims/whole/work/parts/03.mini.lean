/-! THE MINI MACHINE: cells by small numbers (ids); an id i stands for the address base + i; one judgement Z for a frame of a method, one EV for a method's contract -/
abbrev mE : Type := (Nat × (Nat → Int32)) ⊕ (Nat × (Nat → Bool)) ⊕ (Nat × Nat × (Nat → Option Nat)) ⊕ (Nat × List Value) ⊕ Unit
abbrev mH : Type := Nat → mE
def aI (n : Nat) (f : Nat → Int32) : mE := .inl (n, f)
def aZ (n : Nat) (f : Nat → Bool) : mE := .inr (.inl (n, f))
def aR (t n : Nat) (f : Nat → Option Nat) : mE := .inr (.inr (.inl (t, n, f)))
def oB (ci : Nat) (fs : List Value) : mE := .inr (.inr (.inr (.inl (ci, fs))))
def dd : mE := .inr (.inr (.inr (.inr ())))
def bI (b : Bool) : Int32 := if b then 1 else 0
def hu (h : mH) (i : Nat) (c : mE) : mH := fun j => if j = i then c else h j
theorem hu_s {h : mH} {i : Nat} {c : mE} : hu h i c i = c := by simp [hu]
theorem hu_n {h : mH} {i j : Nat} {c : mE} (hn : j ≠ i) : hu h i c j = h j := by simp [hu, hn]
theorem hu_hu {h : mH} {i : Nat} {c c' : mE} : hu (hu h i c) i c' = hu h i c' := by
  funext j
  by_cases hj : j = i <;> simp [hu, hj]
theorem hu_self {h : mH} {i : Nat} {c : mE} (e : h i = c) : hu h i c = h := by
  funext j
  by_cases hj : j = i
  · subst hj; simp [hu, e]
  · simp [hu, hj]
theorem hu_comm {h : mH} {i j : Nat} {c c' : mE} (hn : i ≠ j) : hu (hu h i c) j c' = hu (hu h j c') i c := by
  funext q
  by_cases h1 : q = i
  · subst h1
    simp [hu, hn]
  · by_cases h2 : q = j
    · subst h2
      simp [hu, h1]
    · simp [hu, h1, h2]
theorem aI_dd {n : Nat} {f : Nat → Int32} : aI n f ≠ dd := by intro h; cases h
theorem aZ_dd {n : Nat} {f : Nat → Bool} : aZ n f ≠ dd := by intro h; cases h
theorem aR_dd {t n : Nat} {f : Nat → Option Nat} : aR t n f ≠ dd := by intro h; cases h
theorem oB_dd {ci : Nat} {fs : List Value} : oB ci fs ≠ dd := by intro h; cases h
theorem bI_t : bI true = 1 := rfl
theorem bI_f : bI false = 0 := rfl
theorem bI_nar (b : Bool) : narrow .boolean (.int (bI b)) = .int (bI b) := by cases b <;> decide
theorem bI_fit (b : Bool) : fits .boolean (.int (bI b)) = true := by cases b <;> decide
theorem bI_vp (b : Bool) : vp_nar .boolean (bI b) = bI b := by cases b <;> decide
/-- launch, classes and slots, array classes, base, addresses of constants, what else holds of the state -/
abbrev mG : Type := Launch × va_G × (Nat → ClassId) × Nat × (Nat → Nat) × (State → Prop)
def gl (G : mG) : Launch := G.1
def gD (G : mG) : va_G := G.2.1
def gA (G : mG) : Nat → ClassId := G.2.2.1
def gb (G : mG) : Nat := G.2.2.2.1
def gs (G : mG) : Nat → Nat := G.2.2.2.2.1
def gI (G : mG) : State → Prop := G.2.2.2.2.2
def gC (G : mG) : Prop := ∀ s U : State, gI G s → s.WarmedH U.vm → (∀ q, q < gb G → U.heap[q]? = s.heap[q]?) → gI G U
def ad (G : mG) (i : Nat) : Nat := if i < 1048576 then gb G + i else gs G i
def tv (G : mG) (v : Value) : Value := match v with
  | .ref a => .ref (ad G a)
  | .int x => .int x
  | .long x => .long x
  | .null => .null
  | w => w
def te (G : mG) (e : mE) : va_E := match e with
  | .inl (n, f) => .inl (gA G 0, n, .inl f)
  | .inr (.inl (n, f)) => .inl (gA G 1, n, .inl (fun j => bI (f j)))
  | .inr (.inr (.inl (t, n, f))) => .inl (gA G t, n, .inr (.inr (.inr (.inr (fun j => (f j).map (ad G))))))
  | .inr (.inr (.inr (.inl (ci, fs)))) => .inr (ci, fs.map (tv G))
  | .inr (.inr (.inr (.inr _))) => .inr (0, [])
def wl (G : mG) (K : Nat) (h : mH) : va_W := (List.range K).map (fun i => (ad G i, te G (h i)))
def tyL (G : mG) : List (ClassId × FieldType) := [(gA G 0, .int), (gA G 1, .boolean), (gA G 2, .object "CreasedPaper$Strip"), (gA G 3, .array .int)]
def inA (G : mG) : Nat → Prop := fun q => gb G ≤ q
theorem wl_get {G : mG} {K i : Nat} {h : mH} (hi : i < K) : (wl G K h)[i]? = some (ad G i, te G (h i)) := by
  simp [wl, hi]
theorem wl_set {G : mG} {K i : Nat} {h : mH} {c : mE} : (wl G K h).set i (ad G i, te G c) = wl G K (hu h i c) := by
  apply List.ext_getElem?
  intro j
  by_cases hj : j < K
  · rw [wl_get hj]
    by_cases e : i = j
    · subst e
      rw [List.getElem?_set_self (by simp [wl, hj]), hu_s]
    · rw [List.getElem?_set_ne e, wl_get hj, hu_n (Ne.symm e)]
  · rw [List.getElem?_eq_none (by simp [wl]; omega), List.getElem?_eq_none (by simp [wl]; omega)]
theorem wl_push {G : mG} {K : Nat} {h : mH} {c : mE} : wl G (K + 1) (hu h K c) = wl G K h ++ [(ad G K, te G c)] := by
  unfold wl
  rw [List.range_succ, List.map_append]
  congr 1
  · apply List.map_congr_left
    intro i hi
    rw [hu_n (Nat.ne_of_lt (List.mem_range.mp hi))]
  · simp [hu_s]
theorem ad_lo {G : mG} {i : Nat} (h : i < 1048576) : ad G i = gb G + i := by simp [ad, h]
theorem wl_D {G : mG} {K : Nat} {h : mH} (hK : K ≤ 1048576) : va_D (inA G) (wl G K h) := by
  have key : ∀ (k : Nat) (q : Nat × va_E), (wl G K h)[k]? = some q → k < K ∧ q.1 = gb G + k := by
    intro k q hq
    have hk : k < K := by
      have := (List.getElem?_eq_some_iff.mp hq).1
      simpa [wl] using this
    rw [wl_get hk] at hq
    cases hq
    exact ⟨hk, ad_lo (by omega)⟩
  refine ⟨fun i j p q hi hj hpq => ?_, fun k q hk => ?_⟩
  · obtain ⟨-, a⟩ := key i p hi
    obtain ⟨-, b⟩ := key j q hj
    omega
  · obtain ⟨-, a⟩ := key k q hk
    show gb G ≤ q.1
    omega
def wS (M : mD) : List Cond := .code M.1 M.2.1 M.2.2.1 M.2.2.2 :: TB
theorem wS_good {M M' : mD} {np : Nat} (h : cC M' np) : GoodIn (wS M) (wS M') := by
  intro w hw
  rcases List.mem_cons.mp hw with rfl | hw
  · exact ⟨List.mem_cons_of_mem _ h.1, tb_good _ h.1⟩
  · exact ⟨List.mem_cons_of_mem _ hw, tb_good _ hw⟩
def rmm (d mc ms : Nat) : Room := { frames := d, cells := mc, slots := ms, locals := 40 * d }
/-- a world of K cells: the heap ends with it -/
def mB (G : mG) (h : mH) (K mc : Nat) (U : State) : Prop :=
  U.heap.size = gb G + K ∧ K + mc ≤ 1048576 ∧ (∀ i, h i = dd ↔ K ≤ i) ∧ va_P (gD G) CL (wl G K h) U.heap ∧ va_K (gD G) CL (tyL G) U ∧ gC G ∧ gI G U
def mQ (G : mG) (Q : Option Value → mH → Prop) (K mc : Nat) : Array Value → State → Outcome → State → Prop := fun _ st o t =>
  (∃ (r : Option Value) (h' : mH), o = .returned (r.map (tv G)) ∧ Q r h' ∧ (∀ i, h' i = dd ↔ K + mc ≤ i) ∧ va_P (gD G) CL (wl G (K + mc) h') t.heap) ∧ va_F (inA G) st t
def EV (G : mG) (M : mD) (d mc ms : Nat) (args : List Value) (h : mH) (Q : Option Value → mH → Prop) : Prop :=
  ∀ K : Nat, Met (gl G) M.1 (wS M) (rmm d mc ms) (va_Pc (args.map (tv G)) (mB G h K mc)) (mQ G Q K mc) mc ms (inA G)
def en (G : mG) (M : mD) (p : Program) (s : State) (m : MethodId) (args : Array Value) (meth : Method) (c : Code) (K0 mc : Nat) : Prop :=
  p.tables.exec = Jvm.exec ∧ c.code = M.2.1 ∧ c.maxLocals = M.2.2.1 ∧ meth.sig.returnType = M.2.2.2 ∧ s.vm.findClass M.1.cls = some m.cls ∧ (∀ w ∈ wS M, w.before args s = true) ∧ meth.locks = false ∧ meth.name = M.1.name ∧ s.heap.size = gb G + K0 ∧ K0 + mc ≤ 1048576 ∧ va_K (gD G) CL (tyL G) s ∧ gC G ∧ gI G s
/-- the locals that are known -/
def lo (G : mG) (ls : Array Slot) (n : Nat) (lv : List (Option Value)) : Prop := ls.size = n ∧ lv_wf ls ∧ ∀ (i : Nat) (v : Value), lv[i]? = some (some v) → ls[i]? = some (.val (tv G v))
def Z (G : mG) (M : mD) (d mc ms cells slots pc : Nat) (lv : List (Option Value)) (st : List Value) (h : mH) (Q : Option Value → mH → Prop) : Prop :=
  ∀ (p : Program) (e : Env) (s : State) (m : MethodId) (args : Array Value) (below : List Frame) (meth : Method) (c : Code) (K0 : Nat), en G M p s m args meth c K0 mc →
    ∀ (H : Heap) (locs : List Loc) (ls : Array Slot), (∀ i, h i = dd ↔ K0 + cells ≤ i) → K0 + cells ≤ 1048576 → va_P (gD G) CL (wl G (K0 + cells) h) H → va_S (inA G) s.heap H locs → lo G ls M.2.2.1 lv →
      W p (gl G) e (rmm d mc ms) s m args below meth c H locs cells slots (MQ below (mQ G Q K0 mc) args s mc ms (inA G)) (F0 m pc ls (st.map (tv G)))
/-- the locals at the entry -/
def el : List Value → List (Option Value)
  | [] => []
  | v :: vs => if v.category = 2 then some v :: none :: el vs else some v :: el vs
theorem tv_cat (G : mG) (v : Value) : (tv G v).category = v.category := by cases v <;> rfl
theorem el_args (G : mG) : ∀ (vs : List Value) (b i : Nat) (v : Value), (el vs)[i]? = some (some v) → (b + i, tv G v) ∈ lv_args b (vs.map (tv G))
  | [], b, i, v, h => by simp [el] at h
  | w :: vs, b, i, v, h => by
    simp only [List.map_cons, lv_args, tv_cat]
    unfold el at h
    by_cases hc : w.category = 2
    · rw [if_pos hc] at h
      rw [if_pos hc]
      match i, h with
      | 0, h => simp at h; subst h; exact List.mem_cons_self
      | 1, h => simp at h
      | i + 2, h =>
        have := el_args G vs (b + 2) i v (by simpa using h)
        rw [show b + (i + 2) = b + 2 + i by omega]
        exact List.mem_cons_of_mem _ this
    · rw [if_neg hc] at h
      rw [if_neg hc]
      match i, h with
      | 0, h => simp at h; subst h; exact List.mem_cons_self
      | i + 1, h =>
        have := el_args G vs (b + 1) i v (by simpa using h)
        rw [show b + (i + 1) = b + 1 + i by omega]
        exact List.mem_cons_of_mem _ this
theorem el_len (G : mG) : ∀ vs : List Value, (lg_sl (vs.map (tv G))).length = (el vs).length
  | [] => rfl
  | v :: vs => by
    have ih := el_len G vs
    have e : lg_sl ((v :: vs).map (tv G)) = lg_sl [tv G v] ++ lg_sl (vs.map (tv G)) := by simp [lg_sl]
    rw [e, List.length_append, ih]
    cases v <;> simp [lg_sl, el, tv, Value.category] <;> omega
theorem lo_pad {G : mG} {ls : Array Slot} {n k : Nat} {lv : List (Option Value)} (h : lo G ls n lv) : lo G ls n (lv ++ List.replicate k none) := by
  refine ⟨h.1, h.2.1, fun i v hi => h.2.2 i v ?_⟩
  by_cases hl : i < lv.length
  · rwa [List.getElem?_append_left hl] at hi
  · rw [List.getElem?_append_right (by omega)] at hi
    obtain ⟨h1, h2⟩ := List.getElem?_eq_some_iff.mp hi
    simp at h2
theorem ev_intro {G : mG} {M : mD} {d mc ms : Nat} {args : List Value} {h : mH} {Q : Option Value → mH → Prop} (k : Nat) {lv : List (Option Value)} (hlv : el args ++ List.replicate k none = lv) (hy1 : plainName M.1.cls = true) (hy2 : Nat.ble (el args).length M.2.2.1 = true)
    (z : Z G M d mc ms 0 0 0 lv [] h Q) : EV G M d mc ms args h Q := by
  intro K
  have hy : plainName M.1.cls = true ∧ (el args).length ≤ M.2.2.1 := ⟨hy1, Nat.le_of_ble_eq_true hy2⟩
  refine Met.ofW (cc := M.2.1) (maxL := M.2.2.1) (ret := M.2.2.2) hy.1 rfl ?_
  intro p e s m args0 below meth c s₁ B hml hv
  obtain ⟨rfl, hsz, hmc, hk, hP, hK, hC, hI⟩ := hv
  have hl := lv_entry (args.map (tv G)) (n := M.2.2.1) (by rw [el_len]; exact hy.2)
  rw [lg_entry_eq]
  refine z p e s m _ below meth c K ⟨B.exec, B.bytes, hml, B.returns, findClass_of_methodNamed B.named, atoms_spec (ws := wS M) B.pre, B.notSynchronized, (name_of_methodNamed B.named B.method).1, hsz, hmc, hK, hC, hI⟩ s.heap [] _ hk (by omega) hP va_S.rf ?_
  rw [← hlv]
  refine lo_pad ⟨hl.1, hl.2.1, fun i v hi => ?_⟩
  have := el_args G args 0 i v hi
  rw [Nat.zero_add] at this
  exact hl.2.2 _ this
