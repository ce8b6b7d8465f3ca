/-! new int[N][K] -/
def hmu (h : mH) (k N K : Nat) : mH := fun j => if j = k then aR 3 N (fun i => if i < N then some (k + 1 + i) else none) else if k < j ∧ j < k + 1 + N then aI K (fun _ => 0) else h j
theorem szH_mu {h : mH} {k N K : Nat} (a : szH h k) : szH (hmu h k N K) (k + 1 + N) := by
  intro i
  unfold hmu
  split
  · exact ⟨fun q => absurd q aR_dd, fun q => by omega⟩
  · split
    · exact ⟨fun q => absurd q aI_dd, fun q => by omega⟩
    · rw [a i]; omega
theorem outer_arr (c : ClassId) (N h0 : Nat) : ∀ i : Nat, Jvm.Free.Multi.outerC c N h0 i = arrV c N (fun j => va_rf (if j < i then some (h0 + 1 + j) else none))
  | 0 => by
    show ({ cls := c, slots := Array.replicate N .null, vm := .none } : Cell) = _
    rw [arrV_new]
    exact congrArg (arrV c N) (funext fun j => by simp [va_rf])
  | i + 1 => by
    show (Jvm.Free.Multi.outerC c N h0 i).setSlot i (.ref (h0 + 1 + i)) = _
    rw [outer_arr c N h0 i, arrV_store]
    refine congrArg (arrV c N) (funext fun j => ?_)
    by_cases e : j = i
    · subst e
      simp [updV, va_rf]
    · by_cases h : j < i
      · simp [updV, e, h, Nat.lt_succ_of_lt h]
      · simp [updV, e, h, show ¬ j < i + 1 by omega]
theorem z_mna {G : mG} {M : mD} {d mc ms cs sl pc n : Nat} {lv : List (Option Value)} {st : List Value} {h : mH} {Q : Option Value → mH → Prop} {idx k N K : Nat} (hd : dkb M pc (.multianewarray idx 2) 4 n = true) (hw : Cond.classLink M.1.cls idx "[[I" ∈ TB) (hAA : ∀ U, gI G U → (Cond.arrayOver (.array .int)).before #[] U = true) (hz : szH h k) (hN : N ≤ 1000) (hK : K ≤ 1000) (hc : cs + (1 + N) ≤ mc) (hs : sl + (N + N * K) ≤ ms) (kk : Z G M d mc ms (cs + (1 + N)) (sl + (N + N * K)) n lv (.ref k :: st) (hmu h k N K) Q) : Z G M d mc ms cs sl pc lv (.int (nI K) :: .int (nI N) :: st) h Q := by
  obtain ⟨he, rfl⟩ := dk1 hd
  intro p e s m args below meth c K0 E H locs ls hk hk1 hP hS hl
  have ek := szH_eq hz hk
  subst ek
  have mem : ∀ w ∈ TB, w.before args s = true := fun w hw => E.2.2.2.2.2.1 w (List.mem_cons_of_mem _ hw)
  have hmc := E.2.2.2.2.2.2.2.2.2.1
  have hKK := E.2.2.2.2.2.2.2.2.2.2.1
  intro T hT X
  have hsz : H.size = gb G + (K0 + cs) := by
    have := (en_pre (mc' := 0) E (by omega) hk hP hS hT X hk1 T hT X.warmed).1
    rw [hT] at this
    exact this
  have cN : (nI N).toNatClampNeg = N := nI_clamp (by omega)
  have cK : (nI K).toNatClampNeg = K := nI_clamp (by omega)
  obtain ⟨vm₁, cA, comp, -, fA, fC, hO, -, X', step⟩ := X.multianewarray2F E.1 (ty := .int) E.2.2.2.2.1 (mem _ hw) (hAA s E.2.2.2.2.2.2.2.2.2.2.2.2) (mem _ jw_arr.1) (g := F0 m pc ls (.int (nI K) :: .int (nI N) :: st.map (tv G))) rfl (by rw [E.2.1]; exact he) rfl (nI_pos (by omega)) (nI_pos (by omega)) (by rw [cN]; omega) (by rw [cK]; show K * 4 ≤ _; omega) (by rw [cK]; omega) rfl rfl (by rw [cN]; exact hc) (by rw [cN, cK]; exact hs)
  rw [cN, cK] at X' step
  have eA : cA = gA G 3 := by
    have h2 : s.vm.findClass _ = some (gA G 3) := (hKK.2 3 _ rfl).2
    exact Option.some.inj (fA.symm.trans h2)
  have eC : comp = gA G 0 := by
    have h2 : s.vm.findClass _ = some (gA G 0) := (hKK.2 0 _ rfl).2
    exact Option.some.inj (fC.symm.trans h2)
  subst eA
  subst eC
  obtain ⟨f1, f2, -, -⟩ := Jvm.Free.Multi.fill_facts (T.setVm vm₁) (gA G 3) (gA G 0) N K (defaultValue .int) N
  have fo := fun (a : Addr) (ha : a < (T.setVm vm₁).heap.size) => Jvm.Free.Multi.fill_old (T.setVm vm₁) (gA G 3) (gA G 0) N K (defaultValue .int) (a := a) ha N
  have fi := Jvm.Free.Multi.fill_inner (T.setVm vm₁) (gA G 3) (gA G 0) N K (defaultValue .int) N
  have hTh : (T.setVm vm₁).heap = H := hT
  generalize Jvm.Free.Multi.fill (T.setVm vm₁) (gA G 3) (gA G 0) N K (defaultValue .int) N = F at X' step f1 f2 fo fi
  rw [hTh] at f1 f2 fo fi
  rw [outer_arr] at f2
  have hP1 : va_P (gD G) CL (wl G (K0 + cs + 1 + N) (hmu h (K0 + cs) N K)) F.heap := by
    intro i q hq
    have hi : i < K0 + cs + 1 + N := by
      have := (List.getElem?_eq_some_iff.mp hq).1
      simpa [wl] using this
    rw [wl_get hi] at hq
    cases hq
    by_cases h1 : i < K0 + cs
    · have e1 : hmu h (K0 + cs) N K i = h i := by
        unfold hmu
        rw [if_neg (by omega), if_neg (by omega)]
      rw [e1]
      refine (hP i _ (wl_get h1)).kept ?_
      have := (hP i _ (wl_get h1)).lt
      exact fo _ this
    · by_cases h2 : i = K0 + cs
      · subst h2
        have e1 : hmu h (K0 + cs) N K (K0 + cs) = aR 3 N (fun i => if i < N then some (K0 + cs + 1 + i) else none) := by
          unfold hmu
          rw [if_pos rfl]
        rw [e1]
        show F.heap[ad G (K0 + cs)]? = some (vp_cell (gA G 3) (N, .inr (.inr (.inr (.inr (fun j => (if j < N then some (K0 + cs + 1 + j) else none : Option Nat).map (ad G)))))))
        rw [ad_lo (by omega), ← hsz, f2, vp_cell_q]
        congr 2
        funext j
        by_cases hj : j < N
        · simp only [if_pos hj, Option.map_some]
          rw [ad_lo (by omega), hsz]
          congr 2
          omega
        · simp only [if_neg hj, Option.map_none]
      · have e1 : hmu h (K0 + cs) N K i = aI K (fun _ => 0) := by
          unfold hmu
          rw [if_neg h2, if_pos (by omega)]
        rw [e1]
        show F.heap[ad G i]? = some (vp_cell (gA G 0) (K, .inl (fun _ => 0)))
        have := fi (i - (K0 + cs + 1)) (by omega)
        rw [ad_lo (by omega), show gb G + i = H.size + 1 + (i - (K0 + cs + 1)) by omega, this, vp_cell_i]
        show some ({ cls := gA G 0, slots := Array.replicate K (.int 0), vm := .none } : Cell) = _
        rw [arrV_new]
  have hS1 : va_S (inA G) s.heap F.heap locs := by
    refine ⟨Nat.le_trans hS.1 (by omega), fun q h1 h2 => ?_, hS.2.2⟩
    rw [fo q (Nat.lt_of_lt_of_le h1 hS.1)]
    exact hS.2.1 q h1 h2
  have X'' : Stand p (gl G) e (rmm d mc ms) s m args below meth c F locs (cs + (1 + N)) (sl + (N + N * K)) := by
    rw [← Nat.add_assoc, ← Nat.add_assoc]
    exact X'
  have hsm := szH_mu (N := N) (K := K) hz
  obtain ⟨t, a1, b1⟩ := kk p e s m args below meth c K0 E F.heap locs ls (fun i => by rw [hsm i]; omega) (by omega) (by rw [show K0 + (cs + (1 + N)) = K0 + cs + 1 + N by omega]; exact hP1) hS1 hl F rfl X''
  refine ⟨t, step t ?_, b1⟩
  have e9 : (F0 m pc ls (.int (nI K) :: .int (nI N) :: st.map (tv G))).pc + 4 = pc + 4 := rfl
  have eh : T.heap.size = ad G (K0 + cs) := by rw [hT, hsz, ad_lo (by omega)]
  rw [eh]
  exact a1
