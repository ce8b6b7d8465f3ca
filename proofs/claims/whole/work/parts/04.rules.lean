/-! RULES of the mini machine: one row an instruction, over the kit's rows -/
def dkb (M : mD) (pc : Nat) (ins : Instr) (len n : Nat) : Bool := decide (decode M.2.1 pc = .ok (ins, len)) && (pc + len == n)
def djb (M : mD) (pc : Nat) (ins : Instr) (len n : Nat) (off : Int) (tgt : Nat) : Bool := dkb M pc ins len n && decide ((pc : Int) + off = (tgt : Int))
theorem dk1 {M : mD} {pc len n : Nat} {ins : Instr} (h : dkb M pc ins len n = true) : decode M.2.1 pc = .ok (ins, len) ∧ pc + len = n := by
  simpa [dkb] using h
theorem dj1 {M : mD} {pc len n tgt : Nat} {off : Int} {ins : Instr} (h : djb M pc ins len n off tgt = true) : decode M.2.1 pc = .ok (ins, len) ∧ pc + len = n ∧ (pc : Int) + off = (tgt : Int) := by
  simpa [djb, dkb, and_assoc] using h
section ZR
variable {G : mG} {M : mD} {d mc ms cs sl pc n : Nat} {lv : List (Option Value)} {st : List Value} {h : mH} {Q : Option Value → mH → Prop}
theorem z_iadd {x y : Int32} (hd : dkb M pc (.iadd) 1 n = true)  (k : Z G M d mc ms cs sl n lv (.int (x + y) :: st) h Q) : Z G M d mc ms cs sl pc lv (.int y :: .int x :: st) h Q := by
  obtain ⟨he, rfl⟩ := dk1 hd
  intro p e s m args below meth c K0 E H locs ls hk hk1 hP hS hl
  exact lv_iadd E.1 E.2.1 he  (k p e s m args below meth c K0 E H locs ls hk hk1 hP hS hl)
theorem z_isub {x y : Int32} (hd : dkb M pc (.isub) 1 n = true)  (k : Z G M d mc ms cs sl n lv (.int (x - y) :: st) h Q) : Z G M d mc ms cs sl pc lv (.int y :: .int x :: st) h Q := by
  obtain ⟨he, rfl⟩ := dk1 hd
  intro p e s m args below meth c K0 E H locs ls hk hk1 hP hS hl
  exact lv_isub E.1 E.2.1 he  (k p e s m args below meth c K0 E H locs ls hk hk1 hP hS hl)
theorem z_imul {x y : Int32} (hd : dkb M pc (.imul) 1 n = true)  (k : Z G M d mc ms cs sl n lv (.int (x * y) :: st) h Q) : Z G M d mc ms cs sl pc lv (.int y :: .int x :: st) h Q := by
  obtain ⟨he, rfl⟩ := dk1 hd
  intro p e s m args below meth c K0 E H locs ls hk hk1 hP hS hl
  exact lv_imul E.1 E.2.1 he  (k p e s m args below meth c K0 E H locs ls hk hk1 hP hS hl)
theorem z_iand {x y : Int32} (hd : dkb M pc (.iand) 1 n = true)  (k : Z G M d mc ms cs sl n lv (.int (x &&& y) :: st) h Q) : Z G M d mc ms cs sl pc lv (.int y :: .int x :: st) h Q := by
  obtain ⟨he, rfl⟩ := dk1 hd
  intro p e s m args below meth c K0 E H locs ls hk hk1 hP hS hl
  exact lv_iand E.1 E.2.1 he  (k p e s m args below meth c K0 E H locs ls hk hk1 hP hS hl)
theorem z_ior {x y : Int32} (hd : dkb M pc (.ior) 1 n = true)  (k : Z G M d mc ms cs sl n lv (.int (x ||| y) :: st) h Q) : Z G M d mc ms cs sl pc lv (.int y :: .int x :: st) h Q := by
  obtain ⟨he, rfl⟩ := dk1 hd
  intro p e s m args below meth c K0 E H locs ls hk hk1 hP hS hl
  exact lv_ior E.1 E.2.1 he  (k p e s m args below meth c K0 E H locs ls hk hk1 hP hS hl)
theorem z_idiv {x y : Int32} (hd : dkb M pc (.idiv) 1 n = true) (hne : ¬ y = 0) (k : Z G M d mc ms cs sl n lv (.int (x / y) :: st) h Q) : Z G M d mc ms cs sl pc lv (.int y :: .int x :: st) h Q := by
  obtain ⟨he, rfl⟩ := dk1 hd
  intro p e s m args below meth c K0 E H locs ls hk hk1 hP hS hl
  exact lv_idiv E.1 E.2.1 he hne (k p e s m args below meth c K0 E H locs ls hk hk1 hP hS hl)
theorem z_irem {x y : Int32} (hd : dkb M pc (.irem) 1 n = true) (hne : ¬ y = 0) (k : Z G M d mc ms cs sl n lv (.int (x - x / y * y) :: st) h Q) : Z G M d mc ms cs sl pc lv (.int y :: .int x :: st) h Q := by
  obtain ⟨he, rfl⟩ := dk1 hd
  intro p e s m args below meth c K0 E H locs ls hk hk1 hP hS hl
  exact lv_irem E.1 E.2.1 he hne (k p e s m args below meth c K0 E H locs ls hk hk1 hP hS hl)
theorem z_ineg {x : Int32} (hd : dkb M pc (.ineg) 1 n = true)  (k : Z G M d mc ms cs sl n lv (.int (-x) :: st) h Q) : Z G M d mc ms cs sl pc lv (.int x :: st) h Q := by
  obtain ⟨he, rfl⟩ := dk1 hd
  intro p e s m args below meth c K0 E H locs ls hk hk1 hP hS hl
  exact lv_ineg E.1 E.2.1 he  (k p e s m args below meth c K0 E H locs ls hk hk1 hP hS hl)
theorem z_ishl {x y : Int32} (hd : dkb M pc (.ishl) 1 n = true)  (k : Z G M d mc ms cs sl n lv (.int (x <<< (y &&& 31)) :: st) h Q) : Z G M d mc ms cs sl pc lv (.int y :: .int x :: st) h Q := by
  obtain ⟨he, rfl⟩ := dk1 hd
  intro p e s m args below meth c K0 E H locs ls hk hk1 hP hS hl
  exact lv_ishl E.1 E.2.1 he  (k p e s m args below meth c K0 E H locs ls hk hk1 hP hS hl)
theorem z_ishr {x y : Int32} (hd : dkb M pc (.ishr) 1 n = true)  (k : Z G M d mc ms cs sl n lv (.int (x >>> (y &&& 31)) :: st) h Q) : Z G M d mc ms cs sl pc lv (.int y :: .int x :: st) h Q := by
  obtain ⟨he, rfl⟩ := dk1 hd
  intro p e s m args below meth c K0 E H locs ls hk hk1 hP hS hl
  exact lv_ishr E.1 E.2.1 he  (k p e s m args below meth c K0 E H locs ls hk hk1 hP hS hl)
theorem z_iushr {x y : Int32} (hd : dkb M pc (.iushr) 1 n = true)  (k : Z G M d mc ms cs sl n lv (.int ((x.toUInt32 >>> (y.toUInt32 &&& Int32.toUInt32 31)).toInt32) :: st) h Q) : Z G M d mc ms cs sl pc lv (.int y :: .int x :: st) h Q := by
  obtain ⟨he, rfl⟩ := dk1 hd
  intro p e s m args below meth c K0 E H locs ls hk hk1 hP hS hl
  exact lv_iushr E.1 E.2.1 he rfl (k p e s m args below meth c K0 E H locs ls hk hk1 hP hS hl)
theorem z_i2l {x : Int32} (hd : dkb M pc (.i2l) 1 n = true)  (k : Z G M d mc ms cs sl n lv (.long x.toInt64 :: st) h Q) : Z G M d mc ms cs sl pc lv (.int x :: st) h Q := by
  obtain ⟨he, rfl⟩ := dk1 hd
  intro p e s m args below meth c K0 E H locs ls hk hk1 hP hS hl
  exact lv_i2l E.1 E.2.1 he rfl (k p e s m args below meth c K0 E H locs ls hk hk1 hP hS hl)
theorem z_l2i {x : Int64} (hd : dkb M pc (.l2i) 1 n = true)  (k : Z G M d mc ms cs sl n lv (.int x.toInt32 :: st) h Q) : Z G M d mc ms cs sl pc lv (.long x :: st) h Q := by
  obtain ⟨he, rfl⟩ := dk1 hd
  intro p e s m args below meth c K0 E H locs ls hk hk1 hP hS hl
  exact lv_l2i E.1 E.2.1 he rfl (k p e s m args below meth c K0 E H locs ls hk hk1 hP hS hl)
theorem z_i2c {x : Int32} (hd : dkb M pc (.i2c) 1 n = true)  (k : Z G M d mc ms cs sl n lv (.int (x.toUInt32 % 65536).toInt32 :: st) h Q) : Z G M d mc ms cs sl pc lv (.int x :: st) h Q := by
  obtain ⟨he, rfl⟩ := dk1 hd
  intro p e s m args below meth c K0 E H locs ls hk hk1 hP hS hl
  exact lv_i2c E.1 E.2.1 he rfl (k p e s m args below meth c K0 E H locs ls hk hk1 hP hS hl)
theorem z_ladd {x y : Int64} (hd : dkb M pc (.ladd) 1 n = true)  (k : Z G M d mc ms cs sl n lv (.long (x + y) :: st) h Q) : Z G M d mc ms cs sl pc lv (.long y :: .long x :: st) h Q := by
  obtain ⟨he, rfl⟩ := dk1 hd
  intro p e s m args below meth c K0 E H locs ls hk hk1 hP hS hl
  exact lv_ladd E.1 E.2.1 he  (k p e s m args below meth c K0 E H locs ls hk hk1 hP hS hl)
theorem z_lmul {x y : Int64} (hd : dkb M pc (.lmul) 1 n = true)  (k : Z G M d mc ms cs sl n lv (.long (x * y) :: st) h Q) : Z G M d mc ms cs sl pc lv (.long y :: .long x :: st) h Q := by
  obtain ⟨he, rfl⟩ := dk1 hd
  intro p e s m args below meth c K0 E H locs ls hk hk1 hP hS hl
  exact lv_lmul E.1 E.2.1 he  (k p e s m args below meth c K0 E H locs ls hk hk1 hP hS hl)
theorem z_lor {x y : Int64} (hd : dkb M pc (.lor) 1 n = true)  (k : Z G M d mc ms cs sl n lv (.long (x ||| y) :: st) h Q) : Z G M d mc ms cs sl pc lv (.long y :: .long x :: st) h Q := by
  obtain ⟨he, rfl⟩ := dk1 hd
  intro p e s m args below meth c K0 E H locs ls hk hk1 hP hS hl
  exact lv_lor E.1 E.2.1 he  (k p e s m args below meth c K0 E H locs ls hk hk1 hP hS hl)
theorem z_ldiv {x y : Int64} (hd : dkb M pc (.ldiv) 1 n = true) (hne : ¬ y = 0) (k : Z G M d mc ms cs sl n lv (.long (x / y) :: st) h Q) : Z G M d mc ms cs sl pc lv (.long y :: .long x :: st) h Q := by
  obtain ⟨he, rfl⟩ := dk1 hd
  intro p e s m args below meth c K0 E H locs ls hk hk1 hP hS hl
  exact lv_ldiv E.1 E.2.1 he hne (k p e s m args below meth c K0 E H locs ls hk hk1 hP hS hl)
theorem z_lshl {x : Int64} {y : Int32} (hd : dkb M pc (.lshl) 1 n = true)  (k : Z G M d mc ms cs sl n lv (.long (x <<< (y.toInt64 &&& 63)) :: st) h Q) : Z G M d mc ms cs sl pc lv (.int y :: .long x :: st) h Q := by
  obtain ⟨he, rfl⟩ := dk1 hd
  intro p e s m args below meth c K0 E H locs ls hk hk1 hP hS hl
  exact lv_lshl E.1 E.2.1 he rfl (k p e s m args below meth c K0 E H locs ls hk hk1 hP hS hl)
theorem z_lcmp {x y : Int64} (hd : dkb M pc (.lcmp) 1 n = true) (k : Z G M d mc ms cs sl n lv (.int (lg_cmp x y) :: st) h Q) : Z G M d mc ms cs sl pc lv (.long y :: .long x :: st) h Q := by
  obtain ⟨he, rfl⟩ := dk1 hd
  intro p e s m args below meth c K0 E H locs ls hk hk1 hP hS hl
  exact W.lcmp E.1 E.2.1 he (k p e s m args below meth c K0 E H locs ls hk hk1 hP hS hl)
theorem z_iconst {q : Int} {v : Int32} (hd : (dkb M pc (.iconst q) 1 n && decide (Int32.ofInt q = v)) = true) (k : Z G M d mc ms cs sl n lv (.int v :: st) h Q) : Z G M d mc ms cs sl pc lv st h Q := by
  simp only [Bool.and_eq_true, decide_eq_true_eq] at hd
  obtain ⟨hd, hv⟩ := hd
  obtain ⟨he, rfl⟩ := dk1 hd
  intro p e s m args below meth c K0 E H locs ls hk hk1 hP hS hl
  exact lv_iconst E.1 E.2.1 he hv (k p e s m args below meth c K0 E H locs ls hk hk1 hP hS hl)
theorem z_bipush {q : Int} {v : Int32} (hd : (dkb M pc (.bipush q) 2 n && decide ((Int8.ofInt q).toInt32 = v)) = true) (k : Z G M d mc ms cs sl n lv (.int v :: st) h Q) : Z G M d mc ms cs sl pc lv st h Q := by
  simp only [Bool.and_eq_true, decide_eq_true_eq] at hd
  obtain ⟨hd, hv⟩ := hd
  obtain ⟨he, rfl⟩ := dk1 hd
  intro p e s m args below meth c K0 E H locs ls hk hk1 hP hS hl
  exact lv_bipush E.1 E.2.1 he hv (k p e s m args below meth c K0 E H locs ls hk hk1 hP hS hl)
theorem z_sipush {q : Int} {v : Int32} (hd : (dkb M pc (.sipush q) 3 n && decide ((Int16.ofInt q).toInt32 = v)) = true) (k : Z G M d mc ms cs sl n lv (.int v :: st) h Q) : Z G M d mc ms cs sl pc lv st h Q := by
  simp only [Bool.and_eq_true, decide_eq_true_eq] at hd
  obtain ⟨hd, hv⟩ := hd
  obtain ⟨he, rfl⟩ := dk1 hd
  intro p e s m args below meth c K0 E H locs ls hk hk1 hP hS hl
  exact lv_sipush E.1 E.2.1 he hv (k p e s m args below meth c K0 E H locs ls hk hk1 hP hS hl)
theorem z_lconst {q : Fin 2} {v : Int64} (hd : (dkb M pc (.lconst q) 1 n && decide (Int64.ofNat (q : Nat) = v)) = true) (k : Z G M d mc ms cs sl n lv (.long v :: st) h Q) : Z G M d mc ms cs sl pc lv st h Q := by
  simp only [Bool.and_eq_true, decide_eq_true_eq] at hd
  obtain ⟨hd, hv⟩ := hd
  obtain ⟨he, rfl⟩ := dk1 hd
  intro p e s m args below meth c K0 E H locs ls hk hk1 hP hS hl
  exact lv_lconst E.1 E.2.1 he hv (k p e s m args below meth c K0 E H locs ls hk hk1 hP hS hl)
theorem z_ldc {q : Nat} {v : Int32} (hd : dkb M pc (.ldc q) 2 n = true) (hw : Cond.constant M.1.cls q v ∈ TB) (k : Z G M d mc ms cs sl n lv (.int v :: st) h Q) : Z G M d mc ms cs sl pc lv st h Q := by
  obtain ⟨he, rfl⟩ := dk1 hd
  intro p e s m args below meth c K0 E H locs ls hk hk1 hP hS hl
  exact lv_ldc E.1 E.2.1 E.2.2.2.2.1 (E.2.2.2.2.2.1 _ (List.mem_cons_of_mem _ hw)) he (k p e s m args below meth c K0 E H locs ls hk hk1 hP hS hl)
theorem z_ldcw {q : Nat} {v : Int32} (hd : dkb M pc (.ldc_w q) 3 n = true) (hw : Cond.constant M.1.cls q v ∈ TB) (k : Z G M d mc ms cs sl n lv (.int v :: st) h Q) : Z G M d mc ms cs sl pc lv st h Q := by
  obtain ⟨he, rfl⟩ := dk1 hd
  intro p e s m args below meth c K0 E H locs ls hk hk1 hP hS hl
  exact lv_ldcw E.1 E.2.1 E.2.2.2.2.1 (E.2.2.2.2.2.1 _ (List.mem_cons_of_mem _ hw)) he (k p e s m args below meth c K0 E H locs ls hk hk1 hP hS hl)
theorem z_ldc2 {q : Nat} {v : Int64} (hd : dkb M pc (.ldc2_w q) 3 n = true) (hw : Cond.constantLong M.1.cls q v ∈ TB) (k : Z G M d mc ms cs sl n lv (.long v :: st) h Q) : Z G M d mc ms cs sl pc lv st h Q := by
  obtain ⟨he, rfl⟩ := dk1 hd
  intro p e s m args below meth c K0 E H locs ls hk hk1 hP hS hl
  exact lv_ldc2 E.1 E.2.1 E.2.2.2.2.1 (E.2.2.2.2.2.1 _ (List.mem_cons_of_mem _ hw)) he (k p e s m args below meth c K0 E H locs ls hk hk1 hP hS hl)
theorem z_dup {v : Value} (hd : dkb M pc .dup 1 n = true) (hv : v.category = 1) (k : Z G M d mc ms cs sl n lv (v :: v :: st) h Q) : Z G M d mc ms cs sl pc lv (v :: st) h Q := by
  obtain ⟨he, rfl⟩ := dk1 hd
  intro p e s m args below meth c K0 E H locs ls hk hk1 hP hS hl
  exact lv_dup E.1 E.2.1 he ((tv_cat G v).trans hv) (k p e s m args below meth c K0 E H locs ls hk hk1 hP hS hl)
theorem z_pop {v : Value} (hd : dkb M pc .pop 1 n = true) (hv : v.category = 1) (k : Z G M d mc ms cs sl n lv st h Q) : Z G M d mc ms cs sl pc lv (v :: st) h Q := by
  obtain ⟨he, rfl⟩ := dk1 hd
  intro p e s m args below meth c K0 E H locs ls hk hk1 hP hS hl
  exact lv_pop E.1 E.2.1 he ((tv_cat G v).trans hv) (k p e s m args below meth c K0 E H locs ls hk hk1 hP hS hl)
theorem z_dup2 {v w : Value} (hd : dkb M pc .dup2 1 n = true) (hv : v.category = 1) (hw : w.category = 1) (k : Z G M d mc ms cs sl n lv (v :: w :: v :: w :: st) h Q) : Z G M d mc ms cs sl pc lv (v :: w :: st) h Q := by
  obtain ⟨he, rfl⟩ := dk1 hd
  intro p e s m args below meth c K0 E H locs ls hk hk1 hP hS hl
  exact lv_dup2_11 E.1 E.2.1 he ((tv_cat G v).trans hv) ((tv_cat G w).trans hw) (k p e s m args below meth c K0 E H locs ls hk hk1 hP hS hl)
theorem z_if_eq {x : Int32} {off : Int} {tgt : Nat} (hd : djb M pc (.ifCond .eq off) 3 n off tgt = true) (kt : x = 0 → Z G M d mc ms cs sl tgt lv st h Q) (kf : ¬ x = 0 → Z G M d mc ms cs sl n lv st h Q) : Z G M d mc ms cs sl pc lv (.int x :: st) h Q := by
  obtain ⟨he, rfl, ht⟩ := dj1 hd
  intro p e s m args below meth c K0 E H locs ls hk hk1 hP hS hl
  exact lv_if_eq E.1 E.2.1 he ht (fun q => kt q p e s m args below meth c K0 E H locs ls hk hk1 hP hS hl) (fun q => kf q p e s m args below meth c K0 E H locs ls hk hk1 hP hS hl)
theorem z_if_ne {x : Int32} {off : Int} {tgt : Nat} (hd : djb M pc (.ifCond .ne off) 3 n off tgt = true) (kt : ¬ x = 0 → Z G M d mc ms cs sl tgt lv st h Q) (kf : x = 0 → Z G M d mc ms cs sl n lv st h Q) : Z G M d mc ms cs sl pc lv (.int x :: st) h Q := by
  obtain ⟨he, rfl, ht⟩ := dj1 hd
  intro p e s m args below meth c K0 E H locs ls hk hk1 hP hS hl
  exact lv_if_ne E.1 E.2.1 he ht (fun q => kt q p e s m args below meth c K0 E H locs ls hk hk1 hP hS hl) (fun q => kf q p e s m args below meth c K0 E H locs ls hk hk1 hP hS hl)
theorem z_if_lt {x : Int32} {off : Int} {tgt : Nat} (hd : djb M pc (.ifCond .lt off) 3 n off tgt = true) (kt : x < 0 → Z G M d mc ms cs sl tgt lv st h Q) (kf : ¬ x < 0 → Z G M d mc ms cs sl n lv st h Q) : Z G M d mc ms cs sl pc lv (.int x :: st) h Q := by
  obtain ⟨he, rfl, ht⟩ := dj1 hd
  intro p e s m args below meth c K0 E H locs ls hk hk1 hP hS hl
  exact lv_if_lt E.1 E.2.1 he ht (fun q => kt q p e s m args below meth c K0 E H locs ls hk hk1 hP hS hl) (fun q => kf q p e s m args below meth c K0 E H locs ls hk hk1 hP hS hl)
theorem z_if_ge {x : Int32} {off : Int} {tgt : Nat} (hd : djb M pc (.ifCond .ge off) 3 n off tgt = true) (kt : 0 ≤ x → Z G M d mc ms cs sl tgt lv st h Q) (kf : ¬ 0 ≤ x → Z G M d mc ms cs sl n lv st h Q) : Z G M d mc ms cs sl pc lv (.int x :: st) h Q := by
  obtain ⟨he, rfl, ht⟩ := dj1 hd
  intro p e s m args below meth c K0 E H locs ls hk hk1 hP hS hl
  exact lv_if_ge E.1 E.2.1 he ht (fun q => kt q p e s m args below meth c K0 E H locs ls hk hk1 hP hS hl) (fun q => kf q p e s m args below meth c K0 E H locs ls hk hk1 hP hS hl)
theorem z_if_gt {x : Int32} {off : Int} {tgt : Nat} (hd : djb M pc (.ifCond .gt off) 3 n off tgt = true) (kt : 0 < x → Z G M d mc ms cs sl tgt lv st h Q) (kf : ¬ 0 < x → Z G M d mc ms cs sl n lv st h Q) : Z G M d mc ms cs sl pc lv (.int x :: st) h Q := by
  obtain ⟨he, rfl, ht⟩ := dj1 hd
  intro p e s m args below meth c K0 E H locs ls hk hk1 hP hS hl
  exact lv_if_gt E.1 E.2.1 he ht (fun q => kt q p e s m args below meth c K0 E H locs ls hk hk1 hP hS hl) (fun q => kf q p e s m args below meth c K0 E H locs ls hk hk1 hP hS hl)
theorem z_if_le {x : Int32} {off : Int} {tgt : Nat} (hd : djb M pc (.ifCond .le off) 3 n off tgt = true) (kt : x ≤ 0 → Z G M d mc ms cs sl tgt lv st h Q) (kf : ¬ x ≤ 0 → Z G M d mc ms cs sl n lv st h Q) : Z G M d mc ms cs sl pc lv (.int x :: st) h Q := by
  obtain ⟨he, rfl, ht⟩ := dj1 hd
  intro p e s m args below meth c K0 E H locs ls hk hk1 hP hS hl
  exact lv_if_le E.1 E.2.1 he ht (fun q => kt q p e s m args below meth c K0 E H locs ls hk hk1 hP hS hl) (fun q => kf q p e s m args below meth c K0 E H locs ls hk hk1 hP hS hl)
theorem z_icmp_eq {x y : Int32} {off : Int} {tgt : Nat} (hd : djb M pc (.if_icmp .eq off) 3 n off tgt = true) (kt : x = y → Z G M d mc ms cs sl tgt lv st h Q) (kf : ¬ x = y → Z G M d mc ms cs sl n lv st h Q) : Z G M d mc ms cs sl pc lv (.int y :: .int x :: st) h Q := by
  obtain ⟨he, rfl, ht⟩ := dj1 hd
  intro p e s m args below meth c K0 E H locs ls hk hk1 hP hS hl
  exact lv_icmp_eq E.1 E.2.1 he ht (fun q => kt q p e s m args below meth c K0 E H locs ls hk hk1 hP hS hl) (fun q => kf q p e s m args below meth c K0 E H locs ls hk hk1 hP hS hl)
theorem z_icmp_ne {x y : Int32} {off : Int} {tgt : Nat} (hd : djb M pc (.if_icmp .ne off) 3 n off tgt = true) (kt : ¬ x = y → Z G M d mc ms cs sl tgt lv st h Q) (kf : x = y → Z G M d mc ms cs sl n lv st h Q) : Z G M d mc ms cs sl pc lv (.int y :: .int x :: st) h Q := by
  obtain ⟨he, rfl, ht⟩ := dj1 hd
  intro p e s m args below meth c K0 E H locs ls hk hk1 hP hS hl
  exact lv_icmp_ne E.1 E.2.1 he ht (fun q => kt q p e s m args below meth c K0 E H locs ls hk hk1 hP hS hl) (fun q => kf q p e s m args below meth c K0 E H locs ls hk hk1 hP hS hl)
theorem z_icmp_lt {x y : Int32} {off : Int} {tgt : Nat} (hd : djb M pc (.if_icmp .lt off) 3 n off tgt = true) (kt : x < y → Z G M d mc ms cs sl tgt lv st h Q) (kf : ¬ x < y → Z G M d mc ms cs sl n lv st h Q) : Z G M d mc ms cs sl pc lv (.int y :: .int x :: st) h Q := by
  obtain ⟨he, rfl, ht⟩ := dj1 hd
  intro p e s m args below meth c K0 E H locs ls hk hk1 hP hS hl
  exact lv_icmp_lt E.1 E.2.1 he ht (fun q => kt q p e s m args below meth c K0 E H locs ls hk hk1 hP hS hl) (fun q => kf q p e s m args below meth c K0 E H locs ls hk hk1 hP hS hl)
theorem z_icmp_ge {x y : Int32} {off : Int} {tgt : Nat} (hd : djb M pc (.if_icmp .ge off) 3 n off tgt = true) (kt : y ≤ x → Z G M d mc ms cs sl tgt lv st h Q) (kf : ¬ y ≤ x → Z G M d mc ms cs sl n lv st h Q) : Z G M d mc ms cs sl pc lv (.int y :: .int x :: st) h Q := by
  obtain ⟨he, rfl, ht⟩ := dj1 hd
  intro p e s m args below meth c K0 E H locs ls hk hk1 hP hS hl
  exact lv_icmp_ge E.1 E.2.1 he ht (fun q => kt q p e s m args below meth c K0 E H locs ls hk hk1 hP hS hl) (fun q => kf q p e s m args below meth c K0 E H locs ls hk hk1 hP hS hl)
theorem z_icmp_gt {x y : Int32} {off : Int} {tgt : Nat} (hd : djb M pc (.if_icmp .gt off) 3 n off tgt = true) (kt : y < x → Z G M d mc ms cs sl tgt lv st h Q) (kf : ¬ y < x → Z G M d mc ms cs sl n lv st h Q) : Z G M d mc ms cs sl pc lv (.int y :: .int x :: st) h Q := by
  obtain ⟨he, rfl, ht⟩ := dj1 hd
  intro p e s m args below meth c K0 E H locs ls hk hk1 hP hS hl
  exact lv_icmp_gt E.1 E.2.1 he ht (fun q => kt q p e s m args below meth c K0 E H locs ls hk hk1 hP hS hl) (fun q => kf q p e s m args below meth c K0 E H locs ls hk hk1 hP hS hl)
theorem z_icmp_le {x y : Int32} {off : Int} {tgt : Nat} (hd : djb M pc (.if_icmp .le off) 3 n off tgt = true) (kt : x ≤ y → Z G M d mc ms cs sl tgt lv st h Q) (kf : ¬ x ≤ y → Z G M d mc ms cs sl n lv st h Q) : Z G M d mc ms cs sl pc lv (.int y :: .int x :: st) h Q := by
  obtain ⟨he, rfl, ht⟩ := dj1 hd
  intro p e s m args below meth c K0 E H locs ls hk hk1 hP hS hl
  exact lv_icmp_le E.1 E.2.1 he ht (fun q => kt q p e s m args below meth c K0 E H locs ls hk hk1 hP hS hl) (fun q => kf q p e s m args below meth c K0 E H locs ls hk hk1 hP hS hl)
theorem z_goto {off : Int} {tgt : Nat} (hd : djb M pc (.goto off) 3 n off tgt = true) (k : Z G M d mc ms cs sl tgt lv st h Q) : Z G M d mc ms cs sl pc lv st h Q := by
  obtain ⟨he, rfl, ht⟩ := dj1 hd
  intro p e s m args below meth c K0 E H locs ls hk hk1 hP hS hl
  exact lv_goto E.1 E.2.1 he ht (k p e s m args below meth c K0 E H locs ls hk hk1 hP hS hl)
theorem z_ild_n {q : Fin 4} {i : Nat} {x : Int32} (hd : dkb M pc (.iload_n q) 1 n = true) (hi : (q : Nat) = i) (hv : lv[i]? = some (some (.int x))) (k : Z G M d mc ms cs sl n lv (.int x :: st) h Q) : Z G M d mc ms cs sl pc lv st h Q := by
  obtain ⟨he, rfl⟩ := dk1 hd
  intro p e s m args below meth c K0 E H locs ls hk hk1 hP hS hl
  exact lv_iload_n E.1 E.2.1 he hi (hl.2.2 _ _ hv) (k p e s m args below meth c K0 E H locs ls hk hk1 hP hS hl)
theorem z_ild {i : Nat} {x : Int32} (hd : dkb M pc (.iload i) 2 n = true) (hv : lv[i]? = some (some (.int x))) (k : Z G M d mc ms cs sl n lv (.int x :: st) h Q) : Z G M d mc ms cs sl pc lv st h Q := by
  obtain ⟨he, rfl⟩ := dk1 hd
  intro p e s m args below meth c K0 E H locs ls hk hk1 hP hS hl
  exact lv_iload E.1 E.2.1 he (hl.2.2 _ _ hv) (k p e s m args below meth c K0 E H locs ls hk hk1 hP hS hl)
theorem z_lld_n {q : Fin 4} {i : Nat} {x : Int64} (hd : dkb M pc (.lload_n q) 1 n = true) (hi : (q : Nat) = i) (hv : lv[i]? = some (some (.long x))) (k : Z G M d mc ms cs sl n lv (.long x :: st) h Q) : Z G M d mc ms cs sl pc lv st h Q := by
  obtain ⟨he, rfl⟩ := dk1 hd
  intro p e s m args below meth c K0 E H locs ls hk hk1 hP hS hl
  exact lv_lload_n E.1 E.2.1 he hi (hl.2.2 _ _ hv) (k p e s m args below meth c K0 E H locs ls hk hk1 hP hS hl)
theorem z_lld {i : Nat} {x : Int64} (hd : dkb M pc (.lload i) 2 n = true) (hv : lv[i]? = some (some (.long x))) (k : Z G M d mc ms cs sl n lv (.long x :: st) h Q) : Z G M d mc ms cs sl pc lv st h Q := by
  obtain ⟨he, rfl⟩ := dk1 hd
  intro p e s m args below meth c K0 E H locs ls hk hk1 hP hS hl
  exact lv_lload E.1 E.2.1 he (hl.2.2 _ _ hv) (k p e s m args below meth c K0 E H locs ls hk hk1 hP hS hl)
theorem z_ald_n {q : Fin 4} {i x : Nat} (hd : dkb M pc (.aload_n q) 1 n = true) (hi : (q : Nat) = i) (hv : lv[i]? = some (some (.ref x))) (k : Z G M d mc ms cs sl n lv (.ref x :: st) h Q) : Z G M d mc ms cs sl pc lv st h Q := by
  obtain ⟨he, rfl⟩ := dk1 hd
  intro p e s m args below meth c K0 E H locs ls hk hk1 hP hS hl
  exact lv_aload_n E.1 E.2.1 he hi (hl.2.2 _ _ hv) (k p e s m args below meth c K0 E H locs ls hk hk1 hP hS hl)
theorem z_ald {i x : Nat} (hd : dkb M pc (.aload i) 2 n = true) (hv : lv[i]? = some (some (.ref x))) (k : Z G M d mc ms cs sl n lv (.ref x :: st) h Q) : Z G M d mc ms cs sl pc lv st h Q := by
  obtain ⟨he, rfl⟩ := dk1 hd
  intro p e s m args below meth c K0 E H locs ls hk hk1 hP hS hl
  exact lv_aload E.1 E.2.1 he (hl.2.2 _ _ hv) (k p e s m args below meth c K0 E H locs ls hk hk1 hP hS hl)
/-- the known locals as the kit's list -/
def loA (G : mG) (lv : List (Option Value)) : List (Nat × Value) := (List.range lv.length).filterMap (fun i => match lv[i]? with
  | some (some v) => some (i, tv G v)
  | _ => none)
theorem loA_in {G : mG} {lv : List (Option Value)} {i : Nat} {v : Value} (hv : lv[i]? = some (some v)) : (i, tv G v) ∈ loA G lv := by
  refine List.mem_filterMap.mpr ⟨i, List.mem_range.mpr (List.getElem?_eq_some_iff.mp hv).1, ?_⟩
  rw [hv]
theorem loA_has {G : mG} {ls : Array Slot} {k : Nat} {lv : List (Option Value)} (hl : lo G ls k lv) : lv_has ls k (loA G lv) := by
  refine ⟨hl.1, hl.2.1, fun q hq => ?_⟩
  obtain ⟨i, -, hi⟩ := List.mem_filterMap.mp hq
  split at hi
  · rename_i v hv
    cases hi
    exact hl.2.2 i v hv
  · cases hi
/-- no long begins at the place before i -/
def nlg (lv : List (Option Value)) (i : Nat) : Prop := ∀ (j : Nat) (v : Value), lv[j]? = some (some v) → j + 1 = i → v.category = 1
theorem lo_st1 {G : mG} {ls' : Array Slot} {k i : Nat} {lv : List (Option Value)} {v : Value} (hg : nlg lv i) (h : lv_has ls' k ((i, tv G v) :: (loA G lv).filter (fun q => !(q.1 == i) && !(q.1 + 1 == i && q.2.category == 2)))) : lo G ls' k (lv.set i (some v)) := by
  refine ⟨h.1, h.2.1, fun j w hw => ?_⟩
  by_cases hj : i = j
  · subst hj
    have hlt : i < lv.length := by
      have := (List.getElem?_eq_some_iff.mp hw).1
      simpa using this
    rw [List.getElem?_set_self hlt] at hw
    cases hw
    exact h.2.2 _ List.mem_cons_self
  · rw [List.getElem?_set_ne hj] at hw
    refine h.2.2 (j, tv G w) (List.mem_cons_of_mem _ (List.mem_filter.mpr ⟨loA_in hw, ?_⟩))
    have h1 : (j == i) = false := by simpa using Ne.symm hj
    by_cases h2 : j + 1 = i
    · have := hg j w hw h2
      simp [h1, tv_cat, this]
    · simp [h1, h2]
theorem lo_st2 {G : mG} {ls' : Array Slot} {k i : Nat} {lv : List (Option Value)} {v : Value} (hg : nlg lv i) (h : lv_has ls' k ((i, tv G v) :: (loA G lv).filter (fun q => !(q.1 == i) && (!(q.1 == i + 1) && !(q.1 + 1 == i && q.2.category == 2))))) : lo G ls' k ((lv.set (i + 1) none).set i (some v)) := by
  refine ⟨h.1, h.2.1, fun j w hw => ?_⟩
  by_cases hj : i = j
  · subst hj
    have hlt : i < (lv.set (i + 1) none).length := by
      have := (List.getElem?_eq_some_iff.mp hw).1
      simpa using this
    rw [List.getElem?_set_self hlt] at hw
    cases hw
    exact h.2.2 _ List.mem_cons_self
  · rw [List.getElem?_set_ne hj] at hw
    by_cases hj2 : i + 1 = j
    · subst hj2
      by_cases hlt : i + 1 < lv.length
      · rw [List.getElem?_set_self hlt] at hw
        cases hw
      · rw [List.getElem?_eq_none (by simp; omega)] at hw
        cases hw
    · rw [List.getElem?_set_ne hj2] at hw
      refine h.2.2 (j, tv G w) (List.mem_cons_of_mem _ (List.mem_filter.mpr ⟨loA_in hw, ?_⟩))
      have h1 : (j == i) = false := by simpa using Ne.symm hj
      have h3 : (j == i + 1) = false := by simpa using Ne.symm hj2
      by_cases h2 : j + 1 = i
      · have := hg j w hw h2
        simp [h1, h3, tv_cat, this]
      · simp [h1, h3, h2]
theorem z_ist_n {q : Fin 4} {i : Nat} {x : Int32} {lv' : List (Option Value)} (hd : dkb M pc (.istore_n q) 1 n = true) (hi : (q : Nat) = i) (hn : i < M.2.2.1) (hg : nlg lv i) (hs : lv.set i (some (.int x)) = lv') (k : Z G M d mc ms cs sl n lv' st h Q) : Z G M d mc ms cs sl pc lv (.int x :: st) h Q := by
  obtain ⟨he, rfl⟩ := dk1 hd
  subst hs
  intro p e s m args below meth c K0 E H locs ls hk hk1 hP hS hl
  exact lv_istore_n E.1 E.2.1 he hi (loA_has hl) hn rfl (fun ls' hl' => k p e s m args below meth c K0 E H locs ls' hk hk1 hP hS (lo_st1 hg hl'))
theorem z_ist {i : Nat} {x : Int32} {lv' : List (Option Value)} (hd : dkb M pc (.istore i) 2 n = true) (hn : i < M.2.2.1) (hg : nlg lv i) (hs : lv.set i (some (.int x)) = lv') (k : Z G M d mc ms cs sl n lv' st h Q) : Z G M d mc ms cs sl pc lv (.int x :: st) h Q := by
  obtain ⟨he, rfl⟩ := dk1 hd
  subst hs
  intro p e s m args below meth c K0 E H locs ls hk hk1 hP hS hl
  exact lv_istore E.1 E.2.1 he (loA_has hl) hn rfl (fun ls' hl' => k p e s m args below meth c K0 E H locs ls' hk hk1 hP hS (lo_st1 hg hl'))
theorem z_ast_n {q : Fin 4} {i : Nat} {x : Nat} {lv' : List (Option Value)} (hd : dkb M pc (.astore_n q) 1 n = true) (hi : (q : Nat) = i) (hn : i < M.2.2.1) (hg : nlg lv i) (hs : lv.set i (some (.ref x)) = lv') (k : Z G M d mc ms cs sl n lv' st h Q) : Z G M d mc ms cs sl pc lv (.ref x :: st) h Q := by
  obtain ⟨he, rfl⟩ := dk1 hd
  subst hs
  intro p e s m args below meth c K0 E H locs ls hk hk1 hP hS hl
  exact lv_astore_n E.1 E.2.1 he hi (loA_has hl) hn rfl (fun ls' hl' => k p e s m args below meth c K0 E H locs ls' hk hk1 hP hS (lo_st1 (v := .ref x) hg hl'))
theorem z_ast {i : Nat} {x : Nat} {lv' : List (Option Value)} (hd : dkb M pc (.astore i) 2 n = true) (hn : i < M.2.2.1) (hg : nlg lv i) (hs : lv.set i (some (.ref x)) = lv') (k : Z G M d mc ms cs sl n lv' st h Q) : Z G M d mc ms cs sl pc lv (.ref x :: st) h Q := by
  obtain ⟨he, rfl⟩ := dk1 hd
  subst hs
  intro p e s m args below meth c K0 E H locs ls hk hk1 hP hS hl
  exact lv_astore E.1 E.2.1 he (loA_has hl) hn rfl (fun ls' hl' => k p e s m args below meth c K0 E H locs ls' hk hk1 hP hS (lo_st1 (v := .ref x) hg hl'))
theorem z_lst_n {q : Fin 4} {i : Nat} {x : Int64} {lv' : List (Option Value)} (hd : dkb M pc (.lstore_n q) 1 n = true) (hi : (q : Nat) = i) (hn : i + 1 < M.2.2.1) (hg : nlg lv i) (hs : (lv.set (i + 1) none).set i (some (.long x)) = lv') (k : Z G M d mc ms cs sl n lv' st h Q) : Z G M d mc ms cs sl pc lv (.long x :: st) h Q := by
  obtain ⟨he, rfl⟩ := dk1 hd
  subst hs
  intro p e s m args below meth c K0 E H locs ls hk hk1 hP hS hl
  exact lv_lstore_n E.1 E.2.1 he hi (loA_has hl) hn rfl (fun ls' hl' => k p e s m args below meth c K0 E H locs ls' hk hk1 hP hS (lo_st2 hg hl'))
theorem z_lst {i : Nat} {x : Int64} {lv' : List (Option Value)} (hd : dkb M pc (.lstore i) 2 n = true) (hn : i + 1 < M.2.2.1) (hg : nlg lv i) (hs : (lv.set (i + 1) none).set i (some (.long x)) = lv') (k : Z G M d mc ms cs sl n lv' st h Q) : Z G M d mc ms cs sl pc lv (.long x :: st) h Q := by
  obtain ⟨he, rfl⟩ := dk1 hd
  subst hs
  intro p e s m args below meth c K0 E H locs ls hk hk1 hP hS hl
  exact lv_lstore E.1 E.2.1 he (loA_has hl) hn rfl (fun ls' hl' => k p e s m args below meth c K0 E H locs ls' hk hk1 hP hS (lo_st2 hg hl'))
theorem z_inc {i : Nat} {q : Int} {x v : Int32} {lv' : List (Option Value)} (hd : (dkb M pc (.iinc i q) 3 n && decide (i < M.2.2.1)) = true) (hg : nlg lv i) (hx : lv[i]? = some (some (.int x))) (hv : x + Int32.ofInt q = v) (hs : lv.set i (some (.int v)) = lv') (k : Z G M d mc ms cs sl n lv' st h Q) : Z G M d mc ms cs sl pc lv st h Q := by
  simp only [Bool.and_eq_true, decide_eq_true_eq] at hd
  obtain ⟨hd, hn⟩ := hd
  obtain ⟨he, rfl⟩ := dk1 hd
  subst hs
  intro p e s m args below meth c K0 E H locs ls hk hk1 hP hS hl
  obtain ⟨j, hj⟩ := List.getElem?_of_mem (loA_in (G := G) hx)
  exact lv_iinc E.1 E.2.1 he (loA_has hl) hj hv hn rfl (fun ls' hl' => k p e s m args below meth c K0 E H locs ls' hk hk1 hP hS (lo_st1 hg hl'))
/-- fewer known locals -/
def wk : List (Option Value) → List (Option Value) → Prop
  | _, [] => True
  | l, none :: m => wk l.tail m
  | [], some _ :: _ => False
  | a :: l, some v :: m => a = some v ∧ wk l m
theorem wk_at : ∀ (l m : List (Option Value)) (i : Nat) (v : Value), wk l m → m[i]? = some (some v) → l[i]? = some (some v)
  | l, [], i, v, _, h => by simp at h
  | l, none :: m, 0, v, _, h => by simp at h
  | l, none :: m, i + 1, v, hw, h => by
    have := wk_at l.tail m i v (by simpa [wk] using hw) (by simpa using h)
    simpa using this
  | [], some _ :: _, i, v, hw, h => by simp [wk] at hw
  | a :: l, some w :: m, 0, v, hw, h => by
    simp at h
    subst h
    simp [wk] at hw
    simp [hw.1]
  | a :: l, some w :: m, i + 1, v, hw, h => by
    simp [wk] at hw
    have := wk_at l m i v hw.2 (by simpa using h)
    simpa using this
theorem z_wk {lv' : List (Option Value)} (hw : wk lv lv') (k : Z G M d mc ms cs sl pc lv' st h Q) : Z G M d mc ms cs sl pc lv st h Q := by
  intro p e s m args below meth c K0 E H locs ls hk hk1 hP hS hl
  exact k p e s m args below meth c K0 E H locs ls hk hk1 hP hS ⟨hl.1, hl.2.1, fun i v hi => hl.2.2 i v (wk_at _ _ _ _ hw hi)⟩
theorem z_iret {x : Int32} (hd : (decide (decode M.2.1 pc = .ok (.ireturn, 1)) && decide (M.2.2.2 = some .int)) = true) (hc : cs = mc) (hs : sl ≤ ms) (hq : Q (some (.int x)) h) : Z G M d mc ms cs sl pc lv [.int x] h Q := by
  simp only [Bool.and_eq_true, decide_eq_true_eq] at hd
  subst hc
  intro p e s m args below meth c K0 E H locs ls hk hk1 hP hS hl
  refine W.widen (Nat.le_refl _) hs ?_
  exact W.iret E.1 E.2.1 (E.2.2.2.1.trans hd.2) (fun t ht hW => ⟨⟨some (.int x), h, rfl, hq, hk, by rw [ht]; exact hP⟩, hS.F ht⟩) hS.2.2 hd.1 E.2.2.2.2.2.2.1
theorem z_zret {x : Int32} {b : Bool} (hd : (decide (decode M.2.1 pc = .ok (.ireturn, 1)) && decide (M.2.2.2 = some .boolean)) = true) (hx : x = bI b) (hc : cs = mc) (hs : sl ≤ ms) (hq : Q (some (.int x)) h) : Z G M d mc ms cs sl pc lv [.int x] h Q := by
  simp only [Bool.and_eq_true, decide_eq_true_eq] at hd
  subst hc
  subst hx
  intro p e s m args below meth c K0 E H locs ls hk hk1 hP hS hl
  refine W.widen (Nat.le_refl _) hs ?_
  exact W.zret E.1 E.2.1 (E.2.2.2.1.trans hd.2) (bI_nar b) (fun t ht hW => ⟨⟨some (.int (bI b)), h, rfl, hq, hk, by rw [ht]; exact hP⟩, hS.F ht⟩) hS.2.2 hd.1 E.2.2.2.2.2.2.1
theorem z_vret (hd : (decide (decode M.2.1 pc = .ok (.return_, 1)) && decide (M.2.2.2 = none)) = true) (hc : cs = mc) (hs : sl ≤ ms) (hq : Q none h) : Z G M d mc ms cs sl pc lv [] h Q := by
  simp only [Bool.and_eq_true, decide_eq_true_eq] at hd
  subst hc
  intro p e s m args below meth c K0 E H locs ls hk hk1 hP hS hl
  refine W.widen (Nat.le_refl _) hs ?_
  exact W.vret E.1 E.2.1 (E.2.2.2.1.trans hd.2) (fun t ht hW => ⟨⟨none, h, rfl, hq, hk, by rw [ht]; exact hP⟩, hS.F ht⟩) hS.2.2 hd.1 E.2.2.2.2.2.2.1
theorem z_lret {x : Int64} (hd : (decide (decode M.2.1 pc = .ok (.lreturn, 1)) && decide (M.2.2.2 = some .long)) = true) (hc : cs = mc) (hs : sl ≤ ms) (hq : Q (some (.long x)) h) : Z G M d mc ms cs sl pc lv [.long x] h Q := by
  simp only [Bool.and_eq_true, decide_eq_true_eq] at hd
  subst hc
  intro p e s m args below meth c K0 E H locs ls hk hk1 hP hS hl
  refine W.widen (Nat.le_refl _) hs ?_
  exact W.lret E.1 E.2.1 (E.2.2.2.1.trans hd.2) (fun t ht hW => ⟨⟨some (.long x), h, rfl, hq, hk, by rw [ht]; exact hP⟩, hS.F ht⟩) hS.2.2 hd.1 E.2.2.2.2.2.2.1
end ZR
