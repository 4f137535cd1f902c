/-! lists and numbers in a form that the kernel counts fast -/
noncomputable def xg {α : Type} (l : List α) (n : Nat) : Option α := List.rec (motive := fun _ => Nat → Option α) (fun _ => none) (fun h _ ih n => Nat.rec (motive := fun _ => Option α) (some h) (fun m _ => ih m) n) l n
theorem xg_eq {α : Type} (l : List α) (n : Nat) : xg l n = l[n]? := by
  induction l generalizing n with
  | nil => rfl
  | cons h t ih =>
    cases n with
    | zero => rfl
    | succ n =>
      rw [List.getElem?_cons_succ, ← ih]
      rfl
noncomputable def xse {α : Type} (l : List α) (n : Nat) (v : α) : List α := List.rec (motive := fun _ => Nat → List α) (fun _ => []) (fun h t ih n => Nat.rec (motive := fun _ => List α) (v :: t) (fun m _ => h :: ih m) n) l n
theorem xse_eq {α : Type} (l : List α) (n : Nat) (v : α) : xse l n v = l.set n v := by
  induction l generalizing n with
  | nil => rfl
  | cons h t ih =>
    cases n with
    | zero => rfl
    | succ n =>
      rw [List.set_cons_succ, ← ih]
      rfl
theorem xnb (a b : Nat) : (a == b) = Nat.beq a b := by
  cases h : Nat.beq a b with
  | true => rw [Nat.eq_of_beq_eq_true h]; exact beq_self_eq_true b
  | false => exact beq_eq_false_iff_ne.mpr (Nat.ne_of_beq_eq_false h)
noncomputable def xfd {α : Type} (l : List (Nat × α)) (k : Nat) : Option (Nat × α) := List.rec (motive := fun _ => Option (Nat × α)) none (fun h _ ih => bif Nat.beq h.1 k then some h else ih) l
theorem xfd_eq {α : Type} (l : List (Nat × α)) (k : Nat) : xfd l k = l.find? (fun q => q.1 == k) := by
  induction l with
  | nil => rfl
  | cons h t ih =>
    rw [List.find?_cons]
    show (bif Nat.beq h.1 k then some h else xfd t k) = _
    rw [ih]
    rw [xnb]
    cases Nat.beq h.1 k <;> rfl
noncomputable def xln {α : Type} (l : List α) : Nat := List.rec (motive := fun _ => Nat) 0 (fun _ _ ih => Nat.succ ih) l
theorem xln_eq {α : Type} (l : List α) : xln l = l.length := by
  induction l with
  | nil => rfl
  | cons h t ih =>
    rw [List.length_cons, ← ih]
    rfl
def xlt (a b : Int32) : Bool := Nat.blt ((a.toBitVec.toNat + 2147483648) % 4294967296) ((b.toBitVec.toNat + 2147483648) % 4294967296)
theorem xlt_iff (a b : Int32) : (xlt a b = true) = (a < b) := by
  apply propext
  unfold xlt
  rw [Nat.blt_eq, Int32.lt_iff_toInt_lt]
  have ha : a.toInt = a.toBitVec.toInt := rfl
  have hb : b.toInt = b.toBitVec.toInt := rfl
  rw [ha, hb, BitVec.toInt_eq_toNat_cond, BitVec.toInt_eq_toNat_cond]
  have h1 := a.toBitVec.isLt
  have h2 := b.toBitVec.isLt
  split <;> split <;> omega
def xeq (a b : Int32) : Bool := Nat.beq a.toBitVec.toNat b.toBitVec.toNat
theorem xeq_iff (a b : Int32) : (xeq a b = true) = (a = b) := by
  apply propext
  unfold xeq
  constructor
  · intro h
    exact Int32.toBitVec_inj.mp (BitVec.eq_of_toNat_eq (Nat.eq_of_beq_eq_true h))
  · intro h
    rw [h]
    exact Nat.beq_refl _
theorem xlt_eq (a b : Int32) : xlt a b = decide (a < b) := by
  cases h : xlt a b with
  | true => exact (decide_eq_true ((xlt_iff a b).mp h)).symm
  | false => exact (decide_eq_false (fun z => by rw [(xlt_iff a b).mpr z] at h; cases h)).symm
theorem xeq_eq (a b : Int32) : xeq a b = decide (a = b) := by
  cases h : xeq a b with
  | true => exact (decide_eq_true ((xeq_iff a b).mp h)).symm
  | false => exact (decide_eq_false (fun z => by rw [(xeq_iff a b).mpr z] at h; cases h)).symm
noncomputable def xe_lkF (tb : xI) (pc : Nat) : Option (Instr × Nat) := match xg tb (pc / 16) with
  | none => none
  | some b => match xfd b pc with
    | none => none
    | some q => some q.2
theorem xe_lkF_eq (tb : xI) (pc : Nat) : xe_lkF tb pc = xe_lk tb pc := by
  unfold xe_lkF xe_lk
  rw [xg_eq]
  cases tb[pc / 16]? with
  | none => rfl
  | some b =>
    dsimp only
    rw [xfd_eq]
    cases List.find? (fun q => q.fst == pc) b <;> rfl
def xe_ltF (iv : List (Int32 × Int32)) (x y : Value) : Option Bool := match x, y with
  | .int a, .int b => some (xlt a b)
  | x, y => xe_lt iv x y
theorem xe_ltF_eq (iv : List (Int32 × Int32)) (x y : Value) : xe_ltF iv x y = xe_lt iv x y := by
  unfold xe_ltF
  split
  · rw [xlt_eq]
    rfl
  · rfl
def xe_eqF (iv : List (Int32 × Int32)) (x y : Value) : Option Bool := match x, y with
  | .int a, .int b => some (xeq a b)
  | x, y => xe_eq iv x y
theorem xe_eqF_eq (iv : List (Int32 × Int32)) (x y : Value) : xe_eqF iv x y = xe_eq iv x y := by
  unfold xe_eqF
  split
  · rw [xeq_eq]
    rfl
  · rfl
def xe_cmpF (iv : List (Int32 × Int32)) (k : ClassFile.Cond) (x y : Value) : Option Bool := match k with
  | .eq => xe_eqF iv x y
  | .ne => match xe_eqF iv x y with
    | some b => some (!b)
    | none => none
  | .lt => xe_ltF iv x y
  | .ge => match xe_ltF iv x y with
    | some b => some (!b)
    | none => none
  | .gt => xe_ltF iv y x
  | .le => match xe_ltF iv y x with
    | some b => some (!b)
    | none => none
theorem xe_cmpF_eq (iv : List (Int32 × Int32)) (k : ClassFile.Cond) (x y : Value) : xe_cmpF iv k x y = xe_cmp iv k x y := by
  unfold xe_cmpF xe_cmp
  cases k <;> simp only [xe_ltF_eq, xe_eqF_eq] <;> rfl
noncomputable def xmF (k : Nat) : Option xME := match xg xMX (k / 16) with
  | some r => xg r (k % 16)
  | none => none
theorem xmF_eq (k : Nat) : xmF k = xm k := by
  unfold xmF xm
  rw [xg_eq]
  cases xMX[k / 16]? with
  | none => rfl
  | some r =>
    dsimp only
    rw [xg_eq]
noncomputable def xfF (oc i : Nat) : Option xFE := match xg xFL oc with
  | some r => xfd r i
  | none => none
theorem xfF_eq (oc i : Nat) : xfF oc i = xf oc i := by
  unfold xfF xf
  rw [xg_eq]
  cases xFL[oc]? with
  | none => rfl
  | some r =>
    dsimp only
    rw [xfd_eq]
noncomputable def xcF (oc i : Nat) : Option xCE := match xg xCL oc with
  | some r => xfd r i
  | none => none
theorem xcF_eq (oc i : Nat) : xcF oc i = xc oc i := by
  unfold xcF xc
  rw [xg_eq]
  cases xCL[oc]? with
  | none => rfl
  | some r =>
    dsimp only
    rw [xfd_eq]
/-- words of locals that arguments take -/
noncomputable def xe_cats (as : List Value) : Nat := List.rec (motive := fun _ => Nat) 0 (fun h _ ih => Nat.add h.category ih) as
theorem xe_cats_eq (as : List Value) : xe_cats as = (lg_sl as).length := by
  induction as with
  | nil => rfl
  | cons v t ih =>
    show v.category + xe_cats t = _
    rw [ih]
    unfold lg_sl
    rw [List.flatMap_cons, List.length_append]
    rcases lv_cat v with h | h <;> simp [h]
