/-! RULES: calls whose contract tells of answer and heap by a predicate; what a text says -/
section ZE
variable {G : mG} {M : mD} {d mc ms cs sl pc n : Nat} {lv : List (Option Value)} {st : List Value} {h : mH} {Q : Option Value → mH → Prop}
theorem z_e0 {M' : mD} {idx a ci d' : Nat} {fs rest : List Value} {P : Int32 → mH → Prop} (hd : dkb M pc (.invokevirtual idx) 3 n = true) (hv : cV M.1.cls idx M' 0) (ho : h a = oB ci fs) (hci : (CL[ci]?).map (fun q => q.1) = some M'.1.cls) (hcat : (rest.map fun v => v.category).sum ≤ 8) (hrm : d' + 1 ≤ d) (hb : cs ≤ mc ∧ sl ≤ ms) (ev : EV G M' d' 0 0 [.ref a] h (fun r h' => ∃ x, r = some (.int x) ∧ P x h')) (kk : ∀ x h1, P x h1 → Z G M d mc ms cs sl n lv (.int x :: rest) h1 Q) : Z G M d mc ms cs sl pc lv (.ref a :: rest) h Q :=
  z_callV (As := []) (rest := rest) hd hv ho hci rfl rfl hcat hrm hb.1 hb.2 ev (fun r h' hq => by obtain ⟨x, rfl, hp⟩ := hq; exact kk x h' hp)
theorem z_g0 {M' : mD} {idx a ci d' : Nat} {fs rest : List Value} {P : Bool → mH → Prop} (hd : dkb M pc (.invokevirtual idx) 3 n = true) (hv : cV M.1.cls idx M' 0) (ho : h a = oB ci fs) (hci : (CL[ci]?).map (fun q => q.1) = some M'.1.cls) (hcat : (rest.map fun v => v.category).sum ≤ 8) (hrm : d' + 1 ≤ d) (hb : cs ≤ mc ∧ sl ≤ ms) (ev : EV G M' d' 0 0 [.ref a] h (fun r h' => ∃ x, r = some (.int (bI x)) ∧ P x h')) (kk : ∀ x h1, P x h1 → Z G M d mc ms cs sl n lv (.int (bI x) :: rest) h1 Q) : Z G M d mc ms cs sl pc lv (.ref a :: rest) h Q :=
  z_callV (As := []) (rest := rest) hd hv ho hci rfl rfl hcat hrm hb.1 hb.2 ev (fun r h' hq => by obtain ⟨x, rfl, hp⟩ := hq; exact kk x h' hp)
theorem z_e1 {M' : mD} {idx a ci d' : Nat} {fs rest : List Value} {v1 : Value} {P : Int32 → mH → Prop} (hd : dkb M pc (.invokevirtual idx) 3 n = true) (hv : cV M.1.cls idx M' 1) (ho : h a = oB ci fs) (hci : (CL[ci]?).map (fun q => q.1) = some M'.1.cls) (hcat : (rest.map fun v => v.category).sum ≤ 8) (hrm : d' + 1 ≤ d) (hb : cs ≤ mc ∧ sl ≤ ms) (ev : EV G M' d' 0 0 [.ref a, v1] h (fun r h' => ∃ x, r = some (.int x) ∧ P x h')) (kk : ∀ x h1, P x h1 → Z G M d mc ms cs sl n lv (.int x :: rest) h1 Q) : Z G M d mc ms cs sl pc lv (v1 :: .ref a :: rest) h Q :=
  z_callV (As := [v1]) (rest := rest) hd hv ho hci rfl rfl hcat hrm hb.1 hb.2 ev (fun r h' hq => by obtain ⟨x, rfl, hp⟩ := hq; exact kk x h' hp)
theorem z_g1 {M' : mD} {idx a ci d' : Nat} {fs rest : List Value} {v1 : Value} {P : Bool → mH → Prop} (hd : dkb M pc (.invokevirtual idx) 3 n = true) (hv : cV M.1.cls idx M' 1) (ho : h a = oB ci fs) (hci : (CL[ci]?).map (fun q => q.1) = some M'.1.cls) (hcat : (rest.map fun v => v.category).sum ≤ 8) (hrm : d' + 1 ≤ d) (hb : cs ≤ mc ∧ sl ≤ ms) (ev : EV G M' d' 0 0 [.ref a, v1] h (fun r h' => ∃ x, r = some (.int (bI x)) ∧ P x h')) (kk : ∀ x h1, P x h1 → Z G M d mc ms cs sl n lv (.int (bI x) :: rest) h1 Q) : Z G M d mc ms cs sl pc lv (v1 :: .ref a :: rest) h Q :=
  z_callV (As := [v1]) (rest := rest) hd hv ho hci rfl rfl hcat hrm hb.1 hb.2 ev (fun r h' hq => by obtain ⟨x, rfl, hp⟩ := hq; exact kk x h' hp)
theorem z_e2 {M' : mD} {idx a ci d' : Nat} {fs rest : List Value} {v1 v2 : Value} {P : Int32 → mH → Prop} (hd : dkb M pc (.invokevirtual idx) 3 n = true) (hv : cV M.1.cls idx M' 2) (ho : h a = oB ci fs) (hci : (CL[ci]?).map (fun q => q.1) = some M'.1.cls) (hcat : (rest.map fun v => v.category).sum ≤ 8) (hrm : d' + 1 ≤ d) (hb : cs ≤ mc ∧ sl ≤ ms) (ev : EV G M' d' 0 0 [.ref a, v1, v2] h (fun r h' => ∃ x, r = some (.int x) ∧ P x h')) (kk : ∀ x h1, P x h1 → Z G M d mc ms cs sl n lv (.int x :: rest) h1 Q) : Z G M d mc ms cs sl pc lv (v2 :: v1 :: .ref a :: rest) h Q :=
  z_callV (As := [v1, v2]) (rest := rest) hd hv ho hci rfl rfl hcat hrm hb.1 hb.2 ev (fun r h' hq => by obtain ⟨x, rfl, hp⟩ := hq; exact kk x h' hp)
theorem z_g2 {M' : mD} {idx a ci d' : Nat} {fs rest : List Value} {v1 v2 : Value} {P : Bool → mH → Prop} (hd : dkb M pc (.invokevirtual idx) 3 n = true) (hv : cV M.1.cls idx M' 2) (ho : h a = oB ci fs) (hci : (CL[ci]?).map (fun q => q.1) = some M'.1.cls) (hcat : (rest.map fun v => v.category).sum ≤ 8) (hrm : d' + 1 ≤ d) (hb : cs ≤ mc ∧ sl ≤ ms) (ev : EV G M' d' 0 0 [.ref a, v1, v2] h (fun r h' => ∃ x, r = some (.int (bI x)) ∧ P x h')) (kk : ∀ x h1, P x h1 → Z G M d mc ms cs sl n lv (.int (bI x) :: rest) h1 Q) : Z G M d mc ms cs sl pc lv (v2 :: v1 :: .ref a :: rest) h Q :=
  z_callV (As := [v1, v2]) (rest := rest) hd hv ho hci rfl rfl hcat hrm hb.1 hb.2 ev (fun r h' hq => by obtain ⟨x, rfl, hp⟩ := hq; exact kk x h' hp)
theorem z_e3 {M' : mD} {idx a ci d' : Nat} {fs rest : List Value} {v1 v2 v3 : Value} {P : Int32 → mH → Prop} (hd : dkb M pc (.invokevirtual idx) 3 n = true) (hv : cV M.1.cls idx M' 3) (ho : h a = oB ci fs) (hci : (CL[ci]?).map (fun q => q.1) = some M'.1.cls) (hcat : (rest.map fun v => v.category).sum ≤ 8) (hrm : d' + 1 ≤ d) (hb : cs ≤ mc ∧ sl ≤ ms) (ev : EV G M' d' 0 0 [.ref a, v1, v2, v3] h (fun r h' => ∃ x, r = some (.int x) ∧ P x h')) (kk : ∀ x h1, P x h1 → Z G M d mc ms cs sl n lv (.int x :: rest) h1 Q) : Z G M d mc ms cs sl pc lv (v3 :: v2 :: v1 :: .ref a :: rest) h Q :=
  z_callV (As := [v1, v2, v3]) (rest := rest) hd hv ho hci rfl rfl hcat hrm hb.1 hb.2 ev (fun r h' hq => by obtain ⟨x, rfl, hp⟩ := hq; exact kk x h' hp)
theorem z_g3 {M' : mD} {idx a ci d' : Nat} {fs rest : List Value} {v1 v2 v3 : Value} {P : Bool → mH → Prop} (hd : dkb M pc (.invokevirtual idx) 3 n = true) (hv : cV M.1.cls idx M' 3) (ho : h a = oB ci fs) (hci : (CL[ci]?).map (fun q => q.1) = some M'.1.cls) (hcat : (rest.map fun v => v.category).sum ≤ 8) (hrm : d' + 1 ≤ d) (hb : cs ≤ mc ∧ sl ≤ ms) (ev : EV G M' d' 0 0 [.ref a, v1, v2, v3] h (fun r h' => ∃ x, r = some (.int (bI x)) ∧ P x h')) (kk : ∀ x h1, P x h1 → Z G M d mc ms cs sl n lv (.int (bI x) :: rest) h1 Q) : Z G M d mc ms cs sl pc lv (v3 :: v2 :: v1 :: .ref a :: rest) h Q :=
  z_callV (As := [v1, v2, v3]) (rest := rest) hd hv ho hci rfl rfl hcat hrm hb.1 hb.2 ev (fun r h' hq => by obtain ⟨x, rfl, hp⟩ := hq; exact kk x h' hp)
theorem z_e4 {M' : mD} {idx a ci d' : Nat} {fs rest : List Value} {v1 v2 v3 v4 : Value} {P : Int32 → mH → Prop} (hd : dkb M pc (.invokevirtual idx) 3 n = true) (hv : cV M.1.cls idx M' 4) (ho : h a = oB ci fs) (hci : (CL[ci]?).map (fun q => q.1) = some M'.1.cls) (hcat : (rest.map fun v => v.category).sum ≤ 8) (hrm : d' + 1 ≤ d) (hb : cs ≤ mc ∧ sl ≤ ms) (ev : EV G M' d' 0 0 [.ref a, v1, v2, v3, v4] h (fun r h' => ∃ x, r = some (.int x) ∧ P x h')) (kk : ∀ x h1, P x h1 → Z G M d mc ms cs sl n lv (.int x :: rest) h1 Q) : Z G M d mc ms cs sl pc lv (v4 :: v3 :: v2 :: v1 :: .ref a :: rest) h Q :=
  z_callV (As := [v1, v2, v3, v4]) (rest := rest) hd hv ho hci rfl rfl hcat hrm hb.1 hb.2 ev (fun r h' hq => by obtain ⟨x, rfl, hp⟩ := hq; exact kk x h' hp)
theorem z_g4 {M' : mD} {idx a ci d' : Nat} {fs rest : List Value} {v1 v2 v3 v4 : Value} {P : Bool → mH → Prop} (hd : dkb M pc (.invokevirtual idx) 3 n = true) (hv : cV M.1.cls idx M' 4) (ho : h a = oB ci fs) (hci : (CL[ci]?).map (fun q => q.1) = some M'.1.cls) (hcat : (rest.map fun v => v.category).sum ≤ 8) (hrm : d' + 1 ≤ d) (hb : cs ≤ mc ∧ sl ≤ ms) (ev : EV G M' d' 0 0 [.ref a, v1, v2, v3, v4] h (fun r h' => ∃ x, r = some (.int (bI x)) ∧ P x h')) (kk : ∀ x h1, P x h1 → Z G M d mc ms cs sl n lv (.int (bI x) :: rest) h1 Q) : Z G M d mc ms cs sl pc lv (v4 :: v3 :: v2 :: v1 :: .ref a :: rest) h Q :=
  z_callV (As := [v1, v2, v3, v4]) (rest := rest) hd hv ho hci rfl rfl hcat hrm hb.1 hb.2 ev (fun r h' hq => by obtain ⟨x, rfl, hp⟩ := hq; exact kk x h' hp)
theorem z_e5 {M' : mD} {idx a ci d' : Nat} {fs rest : List Value} {v1 v2 v3 v4 v5 : Value} {P : Int32 → mH → Prop} (hd : dkb M pc (.invokevirtual idx) 3 n = true) (hv : cV M.1.cls idx M' 5) (ho : h a = oB ci fs) (hci : (CL[ci]?).map (fun q => q.1) = some M'.1.cls) (hcat : (rest.map fun v => v.category).sum ≤ 8) (hrm : d' + 1 ≤ d) (hb : cs ≤ mc ∧ sl ≤ ms) (ev : EV G M' d' 0 0 [.ref a, v1, v2, v3, v4, v5] h (fun r h' => ∃ x, r = some (.int x) ∧ P x h')) (kk : ∀ x h1, P x h1 → Z G M d mc ms cs sl n lv (.int x :: rest) h1 Q) : Z G M d mc ms cs sl pc lv (v5 :: v4 :: v3 :: v2 :: v1 :: .ref a :: rest) h Q :=
  z_callV (As := [v1, v2, v3, v4, v5]) (rest := rest) hd hv ho hci rfl rfl hcat hrm hb.1 hb.2 ev (fun r h' hq => by obtain ⟨x, rfl, hp⟩ := hq; exact kk x h' hp)
theorem z_g5 {M' : mD} {idx a ci d' : Nat} {fs rest : List Value} {v1 v2 v3 v4 v5 : Value} {P : Bool → mH → Prop} (hd : dkb M pc (.invokevirtual idx) 3 n = true) (hv : cV M.1.cls idx M' 5) (ho : h a = oB ci fs) (hci : (CL[ci]?).map (fun q => q.1) = some M'.1.cls) (hcat : (rest.map fun v => v.category).sum ≤ 8) (hrm : d' + 1 ≤ d) (hb : cs ≤ mc ∧ sl ≤ ms) (ev : EV G M' d' 0 0 [.ref a, v1, v2, v3, v4, v5] h (fun r h' => ∃ x, r = some (.int (bI x)) ∧ P x h')) (kk : ∀ x h1, P x h1 → Z G M d mc ms cs sl n lv (.int (bI x) :: rest) h1 Q) : Z G M d mc ms cs sl pc lv (v5 :: v4 :: v3 :: v2 :: v1 :: .ref a :: rest) h Q :=
  z_callV (As := [v1, v2, v3, v4, v5]) (rest := rest) hd hv ho hci rfl rfl hcat hrm hb.1 hb.2 ev (fun r h' hq => by obtain ⟨x, rfl, hp⟩ := hq; exact kk x h' hp)
end ZE
/-- is the token at k this word? -/
def wIs (t : Nat → Int32) (L k : Nat) (w : List Int32) : Bool := decide (tC t L k = 2) && (decide (tE t L k - tS t L k = w.length) && decide (∀ i, i < w.length → t (tS t L k + i) = w.getD i 0))
def sgn (t : Nat → Int32) (L k : Nat) (c : Int32) : Bool := decide (tC t L k = 4) && decide (t (tS t L k) = c)
def wFo : List Int32 := [102, 111, 108, 100]
def wHo : List Int32 := [104, 111, 108, 100]
def wOp : List Int32 := [111, 112, 101, 110]
def wAg : List Int32 := [97, 103, 97, 105, 110]
def wRi : List Int32 := [114, 105, 103, 104, 116]
def wLe : List Int32 := [108, 101, 102, 116]
def nuC (t : Nat → Int32) (L k : Nat) (lo hi : Int32) : Int32 := if tC t L k = 3 then (if win (tV t L k) lo hi = true then 0 else 2) else 1
/-- a fault and its place, or verb, number, side and the place behind -/
abbrev DRes := Sum (Int32 × Nat) (Int32 × Int32 × Bool × Nat)
def bd (f : Int32) (p : Nat) : DRes := .inl (f, p)
def okd (v num : Int32) (right : Bool) (k : Nat) : DRes := .inr (v, num, right, k)
def dFo (t : Nat → Int32) (L k : Nat) : DRes :=
  if nuC t L (tE t L k) 0 80 = 0 then
    (if (wIs t L (tE t L (tE t L k)) wRi || wIs t L (tE t L (tE t L k)) wLe) = true then
      (if sgn t L (tE t L (tE t L (tE t L k))) 59 = true then okd 0 (tV t L (tE t L k)) (wIs t L (tE t L (tE t L k)) wRi) (tE t L (tE t L (tE t L (tE t L k))))
      else bd 1 (tS t L (tE t L (tE t L (tE t L k)))))
    else bd 1 (tS t L (tE t L (tE t L k))))
  else bd (nuC t L (tE t L k) 0 80) (tS t L (tE t L k))
def dHo (t : Nat → Int32) (L k : Nat) : DRes :=
  if nuC t L (tE t L k) 1 1000 = 0 then
    (if sgn t L (tE t L (tE t L k)) 59 = true then okd 1 (tV t L (tE t L k)) false (tE t L (tE t L (tE t L k)))
    else bd 1 (tS t L (tE t L (tE t L k))))
  else bd (nuC t L (tE t L k) 1 1000) (tS t L (tE t L k))
def dOp (t : Nat → Int32) (L k : Nat) : DRes :=
  if sgn t L (tE t L k) 59 = true then okd 2 0 false (tE t L (tE t L k)) else bd 1 (tS t L (tE t L k))
def dAg (t : Nat → Int32) (L k e : Nat) : DRes :=
  if nuC t L (tE t L k) 1 50 = 0 then
    (if sgn t L (tE t L (tE t L k)) 40 = true then
      (if e = 4 then bd 3 (tS t L (tE t L (tE t L k))) else okd 3 (tV t L (tE t L k)) false (tE t L (tE t L (tE t L k))))
    else bd 1 (tS t L (tE t L (tE t L k))))
  else bd (nuC t L (tE t L k) 1 50) (tS t L (tE t L k))
/-- the verb at k: 0 fold, 1 hold, 2 open, 3 again, -1 none -/
def vbO (t : Nat → Int32) (L k : Nat) : Int32 := if wIs t L k wFo = true then 0 else if wIs t L k wHo = true then 1 else if wIs t L k wOp = true then 2 else if wIs t L k wAg = true then 3 else -1
def dR (t : Nat → Int32) (L k d e : Nat) : DRes :=
  if vbO t L k = -1 then bd 1 (tS t L k) else
  if d = 40 then bd 4 (tS t L k) else
  if vbO t L k = 0 then dFo t L k else if vbO t L k = 1 then dHo t L k else if vbO t L k = 2 then dOp t L k else dAg t L k e
/-! the model's words -/
theorem tT_2 {t : Nat → Int32} {L k : Nat} : tT t L k = 2 ↔ tC t L k = 2 := by
  unfold tT tC
  split
  · simp
  · split
    · simp
    · split
      · simp
      · split
        · rename_i c
          constructor
          · intro q; rw [q] at c; exact absurd c (by decide)
          · intro q; exact absurd q (by decide)
        · simp
theorem tT_1 {t : Nat → Int32} {L k : Nat} : tT t L k = 1 ↔ tC t L k = 3 := by
  unfold tT tC
  split
  · simp
  · split
    · simp
    · split
      · simp
      · split
        · rename_i c
          constructor
          · intro q; rw [q] at c; exact absurd c (by decide)
          · intro q; exact absurd q (by decide)
        · simp
theorem tT_0 {t : Nat → Int32} {L k : Nat} : tT t L k = 0 ↔ tC t L k = 0 := by
  unfold tT tC
  split
  · simp
  · split
    · simp
    · split
      · simp
      · split
        · rename_i c
          constructor
          · intro q; rw [q] at c; exact absurd c (by decide)
          · intro q; exact absurd q (by decide)
        · simp
theorem tT_s {t : Nat → Int32} {L k : Nat} {c : Int32} (hc : isSg c = true) : tT t L k = c ↔ sgn t L k c = true := by
  have e0 : ¬ (0 : Int32) = c := fun z => by rw [← z] at hc; exact absurd hc (by decide)
  have e1 : ¬ (1 : Int32) = c := fun z => by rw [← z] at hc; exact absurd hc (by decide)
  have e2 : ¬ (2 : Int32) = c := fun z => by rw [← z] at hc; exact absurd hc (by decide)
  have e3 : ¬ (3 : Int32) = c := fun z => by rw [← z] at hc; exact absurd hc (by decide)
  unfold sgn tT tC
  split
  · simp [e0]
  · split
    · simp [e2]
    · split
      · simp [e1]
      · split
        · simp
        · simp [e3]
