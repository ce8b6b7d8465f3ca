/-! RULES of the mini machine: switches, the JDK's own, new cells -/
theorem jw_max : Cond.static Lib.Math.max.name ∈ TB ∧ Cond.initialized "java/lang/Math" ∈ TB ∧ Cond.code Lib.Math.max.name Lib.Math.max.code 2 (some .int) ∈ TB := ⟨tb_at _ (by decide +kernel : lw_tbl[87]? = _) (by decide +kernel), tb_at _ (by decide +kernel : lw_tbl[58]? = _) (by decide +kernel), tb_at _ (by decide +kernel : lw_tbl[88]? = _) (by decide +kernel)⟩
theorem jw_min : Cond.static Lib.Math.min.name ∈ TB ∧ Cond.initialized "java/lang/Math" ∈ TB ∧ Cond.code Lib.Math.min.name Lib.Math.min.code 2 (some .int) ∈ TB := ⟨tb_at _ (by decide +kernel : lw_tbl[84]? = _) (by decide +kernel), tb_at _ (by decide +kernel : lw_tbl[58]? = _) (by decide +kernel), tb_at _ (by decide +kernel : lw_tbl[85]? = _) (by decide +kernel)⟩
theorem jw_abs : Cond.static Lib.Math.abs.name ∈ TB ∧ Cond.initialized "java/lang/Math" ∈ TB ∧ Cond.code Lib.Math.abs.name Lib.Math.abs.code 1 (some .int) ∈ TB := ⟨tb_at _ (by decide +kernel : lw_tbl[811]? = _) (by decide +kernel), tb_at _ (by decide +kernel : lw_tbl[58]? = _) (by decide +kernel), tb_at _ (by decide +kernel : lw_tbl[812]? = _) (by decide +kernel)⟩
theorem jw_cpy : Cond.native arraycopyName ∈ TB ∧ Cond.static arraycopyName ∈ TB ∧ Cond.initialized "java/lang/System" ∈ TB := ⟨tb_at _ (by decide +kernel : lw_tbl[916]? = _) (by decide +kernel), tb_at _ (by decide +kernel : lw_tbl[915]? = _) (by decide +kernel), tb_at _ (by decide +kernel : lw_tbl[74]? = _) (by decide +kernel)⟩
section ZM
variable {G : mG} {M : mD} {d mc ms cs sl pc n : Nat} {lv : List (Option Value)} {st : List Value} {h : mH} {Q : Option Value → mH → Prop}
theorem tv_sum (G : mG) (l : List Value) : ((l.map (tv G)).map fun v => v.category).sum = (l.map fun v => v.category).sum := by
  rw [List.map_map]
  have : ((fun v => v.category) ∘ tv G) = (fun v : Value => v.category) := by funext v; exact tv_cat G v
  rw [this]
theorem z_mmax {idx : Nat} {x y : Int32} (hd : dkb M pc (.invokestatic idx) 3 n = true) (hw : Cond.methodLink M.1.cls idx Lib.Math.max.name ∈ TB) (hcat : (st.map fun v => v.category).sum ≤ 8) (hr : 1 ≤ d) (hc : cs ≤ mc) (hs : sl ≤ ms) (k : Z G M d mc ms cs sl n lv (.int (if x < y then y else x) :: st) h Q) : Z G M d mc ms cs sl pc lv (.int y :: .int x :: st) h Q := by
  obtain ⟨he, rfl⟩ := dk1 hd
  intro p e s m args below meth c K0 E H locs ls hk hk1 hP hS hl
  have mem : ∀ w ∈ TB, w.before args s = true := fun w hw => E.2.2.2.2.2.1 w (List.mem_cons_of_mem _ hw)
  exact va_mmax E.1 E.2.1 (E.2.2.1.trans hl.1.symm) E.2.2.2.2.1 (mem _ hw) (mem _ jw_max.1) (mem _ jw_max.2.1) (mem _ jw_max.2.2) hr (by rw [tv_sum]; show _ ≤ 40 * d; omega) hc hs he (k p e s m args below meth c K0 E H locs ls hk hk1 hP hS hl)
theorem z_mmin {idx : Nat} {x y : Int32} (hd : dkb M pc (.invokestatic idx) 3 n = true) (hw : Cond.methodLink M.1.cls idx Lib.Math.min.name ∈ TB) (hcat : (st.map fun v => v.category).sum ≤ 8) (hr : 1 ≤ d) (hc : cs ≤ mc) (hs : sl ≤ ms) (k : Z G M d mc ms cs sl n lv (.int (if y < x then y else x) :: st) h Q) : Z G M d mc ms cs sl pc lv (.int y :: .int x :: st) h Q := by
  obtain ⟨he, rfl⟩ := dk1 hd
  intro p e s m args below meth c K0 E H locs ls hk hk1 hP hS hl
  have mem : ∀ w ∈ TB, w.before args s = true := fun w hw => E.2.2.2.2.2.1 w (List.mem_cons_of_mem _ hw)
  exact va_mmin E.1 E.2.1 (E.2.2.1.trans hl.1.symm) E.2.2.2.2.1 (mem _ hw) (mem _ jw_min.1) (mem _ jw_min.2.1) (mem _ jw_min.2.2) hr (by rw [tv_sum]; show _ ≤ 40 * d; omega) hc hs he (k p e s m args below meth c K0 E H locs ls hk hk1 hP hS hl)
theorem z_mabs {idx : Nat} {x : Int32} (hd : dkb M pc (.invokestatic idx) 3 n = true) (hw : Cond.methodLink M.1.cls idx Lib.Math.abs.name ∈ TB) (hcat : (st.map fun v => v.category).sum ≤ 8) (hr : 1 ≤ d) (hc : cs ≤ mc) (hs : sl ≤ ms) (k : Z G M d mc ms cs sl n lv (.int (if 0 ≤ x then x else 0 - x) :: st) h Q) : Z G M d mc ms cs sl pc lv (.int x :: st) h Q := by
  obtain ⟨he, rfl⟩ := dk1 hd
  intro p e s m args below meth c K0 E H locs ls hk hk1 hP hS hl
  have mem : ∀ w ∈ TB, w.before args s = true := fun w hw => E.2.2.2.2.2.1 w (List.mem_cons_of_mem _ hw)
  exact va_mabs E.1 E.2.1 (E.2.2.1.trans hl.1.symm) E.2.2.2.2.1 (mem _ hw) (mem _ jw_abs.1) (mem _ jw_abs.2.1) (mem _ jw_abs.2.2) hr (by rw [tv_sum]; show _ ≤ 40 * d; omega) hc hs he (k p e s m args below meth c K0 E H locs ls hk hk1 hP hS hl)
/-- the first k places of f, then g -/
def cpN {α : Type} (f g : Nat → α) (k : Nat) : Nat → α := fun j => if j < k then f j else g j
theorem va_cpy0 {α : Type} (f g : Nat → α) (k : Nat) : va_cpy f g 0 0 k = cpN f g k := by
  funext j
  simp [va_cpy, cpN]
theorem z_cpyI {idx a b N0 N1 k : Nat} {f g : Nat → Int32} (hd : dkb M pc (.invokestatic idx) 3 n = true) (hw : Cond.methodLink M.1.cls idx arraycopyName ∈ TB) (hcat : (st.map fun v => v.category).sum ≤ 8) (hr : 1 ≤ d) (ha : h a = aI N0 f) (hb : h b = aI N1 g) (hk0 : k ≤ N0) (hk1 : k ≤ N1) (hk2 : k < 2 ^ 31) (kk : Z G M d mc ms cs sl n lv st (hu h b (aI N1 (cpN f g k))) Q) : Z G M d mc ms cs sl pc lv (.int (nI k) :: .int 0 :: .ref b :: .int 0 :: .ref a :: st) h Q := by
  obtain ⟨he, rfl⟩ := dk1 hd
  intro p e s m args below meth c K0 E H locs ls hk hk9 hP hS hl
  have mem : ∀ w ∈ TB, w.before args s = true := fun w hw => E.2.2.2.2.2.1 w (List.mem_cons_of_mem _ hw)
  have la := lv_lt_of hk ha aI_dd
  have lb := lv_lt_of hk hb aI_dd
  refine va_copyi (ty := .int) (f := f) (g := g) E.1 E.2.1 (E.2.2.1.trans hl.1.symm) E.2.2.2.2.1 (mem _ hw) (mem _ jw_cpy.1) (mem _ jw_cpy.2.1) (mem _ jw_cpy.2.2) E.2.2.2.2.2.2.2.2.2.2.1 hP (wl_D hk9) hS a b 0 0 (by rw [wl_get la, ha]; rfl) (by rw [wl_get lb, hb]; rfl) rfl rfl rfl (by decide) (by decide) (nI_pos hk2) (by rw [nI_clamp hk2]; show 0 + k ≤ N0; omega) (by rw [nI_clamp hk2]; show 0 + k ≤ N1; omega) (fun _ _ => rfl) hr (by rw [tv_sum]; show _ + ((5 + 2) + 11) ≤ 40 * d; omega) he (fun H1 locs1 hP1 hD1 hS1 => ?_)
  have e0 : va_cpy f g (0 : Int32).toNatClampNeg (0 : Int32).toNatClampNeg (nI k).toNatClampNeg = cpN f g k := by
    rw [nI_clamp hk2]
    exact va_cpy0 f g k
  rw [e0] at hP1
  have e1 : (wl G (K0 + cs) h).set b (ad G b, .inl (gA G 0, N1, .inl (cpN f g k))) = wl G (K0 + cs) (hu h b (aI N1 (cpN f g k))) := by
    rw [← wl_set]
    rfl
  rw [e1] at hP1
  exact kk p e s m args below meth c K0 E H1 locs1 ls (hu_dd hk hb aI_dd aI_dd) hk9 hP1 hS1 hl
theorem z_cpyZ {idx a b N0 N1 k : Nat} {f g : Nat → Bool} (hd : dkb M pc (.invokestatic idx) 3 n = true) (hw : Cond.methodLink M.1.cls idx arraycopyName ∈ TB) (hcat : (st.map fun v => v.category).sum ≤ 8) (hr : 1 ≤ d) (ha : h a = aZ N0 f) (hb : h b = aZ N1 g) (hk0 : k ≤ N0) (hk1 : k ≤ N1) (hk2 : k < 2 ^ 31) (kk : Z G M d mc ms cs sl n lv st (hu h b (aZ N1 (cpN f g k))) Q) : Z G M d mc ms cs sl pc lv (.int (nI k) :: .int 0 :: .ref b :: .int 0 :: .ref a :: st) h Q := by
  obtain ⟨he, rfl⟩ := dk1 hd
  intro p e s m args below meth c K0 E H locs ls hk hk9 hP hS hl
  have mem : ∀ w ∈ TB, w.before args s = true := fun w hw => E.2.2.2.2.2.1 w (List.mem_cons_of_mem _ hw)
  have la := lv_lt_of hk ha aZ_dd
  have lb := lv_lt_of hk hb aZ_dd
  refine va_copyi (ty := .boolean) (f := fun j => bI (f j)) (g := fun j => bI (g j)) E.1 E.2.1 (E.2.2.1.trans hl.1.symm) E.2.2.2.2.1 (mem _ hw) (mem _ jw_cpy.1) (mem _ jw_cpy.2.1) (mem _ jw_cpy.2.2) E.2.2.2.2.2.2.2.2.2.2.1 hP (wl_D hk9) hS a b 1 1 (by rw [wl_get la, ha]; rfl) (by rw [wl_get lb, hb]; rfl) rfl rfl rfl (by decide) (by decide) (nI_pos hk2) (by rw [nI_clamp hk2]; show 0 + k ≤ N0; omega) (by rw [nI_clamp hk2]; show 0 + k ≤ N1; omega) (fun i _ => bI_fit (f _)) hr (by rw [tv_sum]; show _ + ((5 + 2) + 11) ≤ 40 * d; omega) he (fun H1 locs1 hP1 hD1 hS1 => ?_)
  have e0 : va_cpy (fun j => bI (f j)) (fun j => bI (g j)) (0 : Int32).toNatClampNeg (0 : Int32).toNatClampNeg (nI k).toNatClampNeg = fun j => bI (cpN f g k j) := by
    rw [nI_clamp hk2]
    refine (va_cpy0 _ _ k).trans ?_
    funext j
    by_cases hj : j < k <;> simp [cpN, hj]
  rw [e0] at hP1
  have e1 : (wl G (K0 + cs) h).set b (ad G b, .inl (gA G 1, N1, .inl (fun j => bI (cpN f g k j)))) = wl G (K0 + cs) (hu h b (aZ N1 (cpN f g k))) := by
    rw [← wl_set]
    rfl
  rw [e1] at hP1
  exact kk p e s m args below meth c K0 E H1 locs1 ls (hu_dd hk hb aZ_dd aZ_dd) hk9 hP1 hS1 hl
/-! switches -/
theorem z_tswI {dflt lo hi off : Int} {offs : Array Int} {len tgt : Nat} {x v : Int32} (hx : x = v) (hd : (decide (decode M.2.1 pc = .ok (.tableswitch dflt lo hi offs, len)) && (decide (¬ v.toInt < lo) && (decide (¬ hi < v.toInt) && (decide (offs[(v.toInt - lo).toNat]? = some off) && decide ((pc : Int) + off = (tgt : Int)))))) = true) (k : Z G M d mc ms cs sl tgt lv st h Q) : Z G M d mc ms cs sl pc lv (.int x :: st) h Q := by
  simp only [Bool.and_eq_true, decide_eq_true_eq] at hd
  subst hx
  intro p e s m args below meth c K0 E H locs ls hk hk1 hP hS hl
  exact lv_tableIn E.1 E.2.1 hd.1 hd.2.1 hd.2.2.1 hd.2.2.2.1 hd.2.2.2.2 (k p e s m args below meth c K0 E H locs ls hk hk1 hP hS hl)
theorem z_tswO {dflt lo hi : Int} {offs : Array Int} {len tgt : Nat} {x : Int32} (hx : x.toInt < lo ∨ hi < x.toInt) (hd : (decide (decode M.2.1 pc = .ok (.tableswitch dflt lo hi offs, len)) && decide ((pc : Int) + dflt = (tgt : Int))) = true) (k : Z G M d mc ms cs sl tgt lv st h Q) : Z G M d mc ms cs sl pc lv (.int x :: st) h Q := by
  simp only [Bool.and_eq_true, decide_eq_true_eq] at hd
  intro p e s m args below meth c K0 E H locs ls hk hk1 hP hS hl
  exact lv_tableOut E.1 E.2.1 hd.1 hx hd.2 (k p e s m args below meth c K0 E H locs ls hk hk1 hP hS hl)
theorem z_lsw {dflt : Int} {ps : Array (Int × Int)} {len tgt : Nat} {x : Int32} {off : Int} (ho : Op.lookupswitch.offset ps.toList dflt x.toInt = off) (hd : (decide (decode M.2.1 pc = .ok (.lookupswitch dflt ps, len)) && ((ps.toList.zip (ps.toList.drop 1)).all (fun (a, next) => a.1 < next.1) && decide ((pc : Int) + off = (tgt : Int)))) = true) (k : Z G M d mc ms cs sl tgt lv st h Q) : Z G M d mc ms cs sl pc lv (.int x :: st) h Q := by
  simp only [Bool.and_eq_true, decide_eq_true_eq] at hd
  intro p e s m args below meth c K0 E H locs ls hk hk1 hP hS hl
  exact lv_lookup E.1 E.2.1 hd.1 hd.2.1 ho hd.2.2 (k p e s m args below meth c K0 E H locs ls hk hk1 hP hS hl)
end ZM
