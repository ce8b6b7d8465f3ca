/-! THE WORLD of the law: what holds at its start of the words that aren't 'good' (script, texts, arrays of arrays, nest mates), and that it stays -/
theorem aoA_moved {A : Array Value} {u U : State} (hvm : u.vm.Alike U.vm) (h : (Cond.arrayOver (.array .int)).before A u = true) : (Cond.arrayOver (.array .int)).before #[] U = true := by
  obtain ⟨comp, c, k, h1, h2, h3, h4, h5⟩ := arrayOverA_spec h
  obtain ⟨k', hk', he⟩ := hvm.2.2 _ _ h3
  have hi : (U.vm.classes.findIdx? fun (x : Class) => match x.kind with | .array component _ => component == comp | _ => false) = some c := by
    rw [hvm.findIdx?_eq _ (fun _ => rfl)]
    exact h2
  have hkind : k'.kind = .array comp (.array .int) := by rw [he]; exact h4
  have f1 : U.vm.findClass (FieldType.array .int).toString = some comp := by rw [hvm.findClass]; exact h1
  have f2 : U.vm.findClass ("[" ++ (FieldType.array .int).toString) = some c := by rw [hvm.findClass]; exact h5
  show (Cond.arrayOver (.array .int)).holds #[] U none U [] = true
  simp only [Cond.holds, Cond.value, f1, Option.bind_some, beq_iff_eq]
  rw [Option.bind_eq_some_iff]
  refine ⟨c, hi, ?_⟩
  simp [hk', hkind, f2]
/-- what is kept by every step -/
def wI (G0 : mG) (L : Nat) (xs : Nat → Int32) (U : State) : Prop := xOK G0 L xs U ∧ sOK G0 U ∧ va_AO "CreasedPaper$Strip" U ∧ (Cond.arrayOver (.array .int)).before #[] U = true ∧ ∀ w ∈ nws, va_Nw w U
theorem nws_warm {s U : State} (hW : s.WarmedH U.vm) : ∀ w ∈ nws, va_Nw w s → va_Nw w U := by
  intro w hw h
  simp only [nws, List.mem_cons, List.not_mem_nil, or_false] at hw
  rcases hw with rfl | rfl | rfl | rfl | rfl | rfl <;> exact va_Nw.warmM hW h
theorem wI_C {G0 : mG} {L : Nat} {xs : Nat → Int32} {s U : State} (h : wI G0 L xs s) (hW : s.WarmedH U.vm) (hq : ∀ q, q < gb G0 → U.heap[q]? = s.heap[q]?) : wI G0 L xs U := by
  obtain ⟨⟨x1, x2, x3⟩, ⟨s1, s2, s3, s4⟩, a1, a2, n1⟩ := h
  have hk : ∀ a : Nat, a < s.heap.size → ¬ inA G0 a → U.heap[a]? = s.heap[a]? := fun a _ h9 => hq a (by
    have : ¬ gb G0 ≤ a := h9
    omega)
  refine ⟨⟨x1, ?_, va_X.moved hW.alike (x3.kept (hq _ x1))⟩, ⟨vk_S.moved hW.alike (s1.kept hk), va_Z.moved hW.alike (s2.kept hk), va_Z.moved hW.alike (s3.kept hk), fun i hi => (s4 i hi).warm hW⟩, a1.moved hW.alike, aoA_moved hW.alike a2, fun w hw => nws_warm hW w hw (n1 w hw)⟩
  by_cases c : gb G0 = 0
  · omega
  · have e := hq (gb G0 - 1) (by omega)
    rw [Array.getElem?_eq_getElem (show gb G0 - 1 < s.heap.size by omega)] at e
    have := (Array.getElem?_eq_some_iff.mp e).1
    omega
theorem kn_of {A : Array Value} {s : State} (mem : ∀ w ∈ TB, w.before A s = true) {own : String} {idx ci : Nat} {fs : List Value} (h : kC own idx ci fs) : ∃ p : ClassId × (Nat → Nat), ∀ q, CL[ci]? = some q → u_Kn s q.1 q.2.1 q.2.2 p.1 p.2 := by
  obtain ⟨C, T, N, ty, hcl, hin, -, -, hins, -, -, -, -⟩ := h
  obtain ⟨cC, iS, hk⟩ := u_known mem hin (mem _ hins)
  exact ⟨(cC, iS), fun q hq => by rw [hcl] at hq; cases hq; exact hk⟩
theorem kn_all {A : Array Value} {s : State} (mem : ∀ w ∈ TB, w.before A s = true) : ∃ D : va_G, ∀ (c : Nat) (q : vw_C), CL[c]? = some q → u_Kn s q.1 q.2.1 q.2.2 (D.1 c) (D.2 c) := by
  have h : ∀ c : Nat, ∃ p : ClassId × (Nat → Nat), ∀ q, CL[c]? = some q → u_Kn s q.1 q.2.1 q.2.2 p.1 p.2 := by
    intro c
    match c with
    | 0 => exact kn_of mem kc_X2_33
    | 1 => exact kn_of mem kc_X10_71
    | 2 => exact kn_of mem kc_X10_18
    | 3 => exact kn_of mem kc_X10_78
    | 4 => exact kn_of mem kc_X10_40
    | 5 => exact kn_of mem kc_X10_64
    | 6 => exact kn_of mem kc_X10_30
    | 7 => exact kn_of mem kc_X2_24
    | 8 => exact kn_of mem kc_X10_50
    | 9 => exact kn_of mem kc_X10_57
    | 10 => exact kn_of mem kc_L_7
    | 11 => exact kn_of mem kc_L_18
    | c + 12 => exact ⟨(0, fun _ => 0), fun q hq => by simp [CL] at hq⟩
  obtain ⟨f, hf⟩ := Classical.axiomOfChoice h
  exact ⟨(fun c => (f c).1, fun c => (f c).2), hf⟩
theorem ar_all {A : Array Value} {s : State} (h0 : (Cond.arrayClass .int).before A s = true) (h1 : (Cond.arrayClass .boolean).before A s = true) (h2 : (Cond.arrayOver (.object "CreasedPaper$Strip")).before A s = true) (h3 : (Cond.arrayOver (.array .int)).before A s = true) : ∃ f : Nat → ClassId, (ArrOfT s (f 0) .int ∧ va_RA s (f 0) .int) ∧ (ArrOfT s (f 1) .boolean ∧ va_RA s (f 1) .boolean) ∧ (ArrOfT s (f 2) (.object "CreasedPaper$Strip") ∧ va_RA s (f 2) (.object "CreasedPaper$Strip")) ∧ (ArrOfT s (f 3) (.array .int) ∧ va_RA s (f 3) (.array .int)) := by
  obtain ⟨a0, k0, c0, e1, e2, e3⟩ := Cond.arrayClass_spec h0
  obtain ⟨a1, k1, c1, f1, f2, f3⟩ := Cond.arrayClass_spec h1
  obtain ⟨c2, a2, k2, g1, -, g3, g4, g5⟩ := Cond.arrayOver_spec h2
  obtain ⟨c3, a3, k3, -, -, i3, i4, i5⟩ := arrayOverA_spec h3
  refine ⟨fun i => match i with | 0 => a0 | 1 => a1 | 2 => a2 | _ => a3, ⟨fun n z => ⟨fun k h => (by cases h), k0, e2, c0, e3⟩, e1⟩, ⟨fun n z => ⟨fun k h => (by cases h), k1, f2, c1, f3⟩, f1⟩, ⟨fun n z => ⟨fun k h => (by cases h), k2, g3, c2, g4⟩, k2, c2, g3, g4, g1, g5⟩, ⟨fun n z => ⟨fun k h => (by cases h), k3, i3, c3, i4⟩, i5⟩⟩
/-- the texts, by the Statement's words of its start -/
def tmS (i : Nat) : Term := .string "CreasedPaper$Text" (sEnt.getD i 0)
def nwC : Cond := Jvm.Cond.and given_1 narrow_1
theorem tx_ex : ∀ i, i < 6 → Cond.exactly (tmS i) "java/lang/String" ∈ flatC nwC := by decide +kernel
theorem tx_co : ∀ i, i < 6 → Cond.eq (.field (tmS i) "java/lang/String" "coder" "B") (.int 0) ∈ flatC nwC := by decide +kernel
theorem tx_ar : ∀ i, i < 6 → Cond.arrayOf (.field (tmS i) "java/lang/String" "value" "[B") .byte ∈ flatC nwC := by decide +kernel
theorem tx_le : ∀ i, i < 6 → Cond.eq (.length (.field (tmS i) "java/lang/String" "value" "[B")) (.int (Int32.ofNat (sLen.getD i 0))) ∈ flatC nwC := by decide +kernel
theorem tx_el : ∀ i, i < 6 → ∀ j, j < sLen.getD i 0 → Cond.eq (.elem (.field (tmS i) "java/lang/String" "value" "[B") (.int (Int32.ofNat j))) (.int ((sByt.getD i []).getD j 0)) ∈ flatC nwC := by decide +kernel
theorem tx_ne : ∀ i, i < 6 → ∀ j, j < 6 → i ≠ j → (Cond.not (Cond.eq (tmS i) (tmS j)) ∈ flatC nwC ∨ Cond.not (Cond.eq (tmS j) (tmS i)) ∈ flatC nwC) := by decide +kernel
theorem tx_len : ∀ i, i < 6 → sLen.getD i 0 < 2 ^ 31 := by decide +kernel
theorem tx_rf : ∀ i, i < 6 → Cond.stringRef "CreasedPaper$Text" (sEnt.getD i 0) (sTxt.getD i "") ∈ lw_tbl := by decide +kernel
theorem tx_cs : Cond.eq (.static "java/lang/String" "COMPACT_STRINGS" "Z") (.int 1) ∈ flatC nwC := by decide +kernel
theorem tx_fm : Cond.isRef (.static "jdk/internal/util/Preconditions" "SIOOBE_FORMATTER" "Ljava/util/function/BiFunction;") ∈ flatC nwC := by decide +kernel
theorem tw_cs : Cond.laysStatic "java/lang/String" "COMPACT_STRINGS" "Z" ∈ lw_tbl := by decide +kernel
theorem tw_fm : Cond.laysStatic "jdk/internal/util/Preconditions" "SIOOBE_FORMATTER" "Ljava/util/function/BiFunction;" ∈ lw_tbl := by decide +kernel
theorem tw_i1 : Cond.initialized "java/lang/String" ∈ lw_tbl := by decide +kernel
theorem tw_i2 : Cond.initialized "jdk/internal/util/Preconditions" ∈ lw_tbl := by decide +kernel
theorem tw_ao : Cond.arrayOver (.object "CreasedPaper$Strip") ∈ lw_tbl := by decide +kernel
theorem tw_aa : Cond.arrayOver (.array .int) ∈ lw_tbl := by decide +kernel
theorem tw_nw : ∀ w ∈ nws, w ∈ lw_tbl ∧ w.onTables = true := by decide +kernel
theorem vk_S_eq {len : List Nat} {byt : List (List Int32)} {k v k' v' : Nat → Nat} {A : Nat → Prop} {U : State} {H : Heap} (h : vk_S 6 len byt k v A U H) (ek : ∀ i, i < 6 → k' i = k i) (ev : ∀ i, i < 6 → v' i = v i) : vk_S 6 len byt k' v' A U H := by
  refine ⟨fun i hi => ?_, fun i j hi hj e => h.2 i j hi hj (by rw [← ek i hi, ← ek j hj]; exact e)⟩
  rw [ek i hi, ev i hi]
  exact h.1 i hi
/-- where the constants lie -/
def gsW (b : Nat) (k v : Nat → Nat) (t z i : Nat) : Nat := if i = 1048600 then b else if i = 1048592 then t else if i = 1048593 then z else if i < 1048584 then k (i - 1048576) else v (i - 1048584)
theorem world {s : State} {b L : Nat} {xs : Nat → Int32} (l : Launch) (hts : ∀ w ∈ lw_tbl, w.before #[Value.ref b] s = true) (hX : va_X b L xs s s.heap) (hbl : b < s.heap.size) (hgv : nwC.before #[Value.ref b] s = true) :
    ∃ G : mG, gl G = l ∧ gb G = s.heap.size ∧ gs G 1048600 = b ∧ va_K (gD G) CL (tyL G) s ∧ gC G ∧ gI G s ∧ (∀ U, gI G U → xOK G L xs U ∧ sOK G U ∧ va_AO "CreasedPaper$Strip" U ∧ (Cond.arrayOver (.array .int)).before #[] U = true ∧ ∀ w ∈ nws, va_Nw w U) := by
  have hs := flat_of_before _ hgv
  have mem : ∀ w ∈ TB, w.before #[Value.ref b] s = true := fun w hw => hts w (tb_in w hw)
  obtain ⟨D, hD⟩ := kn_all mem
  obtain ⟨f, f0, f1, f2, f3⟩ := ar_all (mem _ jw_arr.1) (mem _ jw_arr.2) (hts _ tw_ao) (hts _ tw_aa)
  have hA : ∀ a : Nat, a < s.heap.size → ¬ (fun q : Nat => s.heap.size ≤ q) a := fun a h => Nat.not_le.mpr h
  obtain ⟨k, v, hS, hk⟩ := vk_Sof (args := #[Value.ref b]) (s := s) (N := 6) (tm := tmS) (len := sLen) (byt := sByt) (A := fun q : Nat => s.heap.size ≤ q) tx_len (fun i hi => hs _ (tx_ex i hi)) (fun i hi => hs _ (tx_co i hi)) (fun i hi => hs _ (tx_ar i hi)) (fun i hi => hs _ (tx_le i hi)) (fun i hi j hj => hs _ (tx_el i hi j hj)) (fun i j hi hj hij => (tx_ne i hi j hj hij).imp (hs _) (hs _)) hA
  have hC := va_Zof (A := fun q : Nat => s.heap.size ≤ q) (hts _ tw_cs) (hts _ tw_i1) (va_eqt (hs _ tx_cs)) hA
  obtain ⟨t, z, hF⟩ : ∃ t z : Nat, va_Z "jdk/internal/util/Preconditions" "SIOOBE_FORMATTER" "Ljava/util/function/BiFunction;" (if z = 0 then .null else .ref t) (fun q : Nat => s.heap.size ≤ q) s s.heap := by
    rcases va_Zqof (A := fun q : Nat => s.heap.size ≤ q) (hts _ tw_fm) (hts _ tw_i2) (hs _ tx_fm) hA with h | ⟨t, h⟩
    · exact ⟨0, 0, by rw [if_pos rfl]; exact h⟩
    · exact ⟨t, 1, by rw [if_neg (by decide)]; exact h⟩
  let G0 : mG := (l, D, f, s.heap.size, gsW b k v t z, fun _ => True)
  have gk : ∀ i, i < 6 → gsW b k v t z (1048576 + i) = k i := fun i hi => by
    unfold gsW
    rw [if_neg (by omega), if_neg (by omega), if_neg (by omega), if_pos (by omega), Nat.add_sub_cancel_left]
  have gv : ∀ i, i < 6 → gsW b k v t z (1048584 + i) = v i := fun i hi => by
    unfold gsW
    rw [if_neg (by omega), if_neg (by omega), if_neg (by omega), if_neg (by omega), Nat.add_sub_cancel_left]
  have gb9 : gsW b k v t z 1048600 = b := if_pos rfl
  have gt : gsW b k v t z 1048592 = t := by unfold gsW; rw [if_neg (by omega), if_pos rfl]
  have gz : gsW b k v t z 1048593 = z := by unfold gsW; rw [if_neg (by omega), if_neg (by omega), if_pos rfl]
  have I0 : wI G0 L xs s := by
    refine ⟨⟨?_, Nat.le_refl _, ?_⟩, ⟨vk_S_eq hS gk gv, hC, ?_, fun i hi => ?_⟩, va_AO.of (hts _ tw_ao), hts _ tw_aa, fun w hw => va_Nw.of (tw_nw w hw).2 (hts _ (tw_nw w hw).1)⟩
    · show gsW b k v t z 1048600 < s.heap.size
      rw [gb9]; exact hbl
    · show va_X (gsW b k v t z 1048600) L xs s s.heap
      rw [gb9]; exact hX
    · have e : tv G0 (fmt G0) = (if z = 0 then Value.null else .ref t) := by
        show tv G0 (if gsW b k v t z 1048593 = 0 then Value.null else .ref 1048592) = _
        rw [gz]
        by_cases c : z = 0
        · rw [if_pos c, if_pos c]; rfl
        · rw [if_neg c, if_neg c]
          show Value.ref (ad G0 1048592) = _
          have : ad G0 1048592 = gsW b k v t z 1048592 := by unfold ad; rw [if_neg (by omega)]; rfl
          rw [this, gt]
      rw [e]
      exact hF
    · show vk_R _ _ _ (gsW b k v t z (1048576 + i)) s
      rw [gk i hi]
      exact vk_R.of (hts _ (tx_rf i hi)) (hk i hi)
  refine ⟨(l, D, f, s.heap.size, gsW b k v t z, wI G0 L xs), rfl, rfl, gb9, ⟨hD, fun i q hq => ?_⟩, fun u U hu9 hW hq => wI_C hu9 hW hq, I0, fun U h => h⟩
  match i, hq with
  | 0, hq => cases hq; exact f0
  | 1, hq => cases hq; exact f1
  | 2, hq => cases hq; exact f2
  | 3, hq => cases hq; exact f3
  | i + 4, hq => simp [tyL] at hq
