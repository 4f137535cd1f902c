/-! A PURE MACHINE for the printed instructions: cells by their numbers, ints that may be unknown within bounds. -/
abbrev xC : Type := Nat × List Value
abbrev xM : Type := List xC
abbrev xL : Type := List (Nat × Value)
abbrev xO : Type := Option Value × xM × Nat × Nat
abbrev xI : Type := List (List (Nat × Instr × Nat))
/-- the length of an instruction (a switch's stands in its row) -/
def xe_len (i : Instr) (l : Nat) : Nat := match i with
  | .tableswitch _ _ _ _ => l
  | .bipush _ | .iload _ | .aload _ | .lload _ | .istore _ | .astore _ | .lstore _ | .ldc _ | .newarray _ => 2
  | .sipush _ | .ldc_w _ | .ldc2_w _ | .getfield _ | .putfield _ | .getstatic _ | .goto _ | .if_icmp _ _ | .ifCond _ _ | .iinc _ _ | .invokespecial _ | .invokestatic _ | .invokevirtual _ | .new _ | .anewarray _ => 3
  | _ => 1
def xe_lk (tb : xI) (pc : Nat) : Option (Instr × Nat) := match tb[pc / 16]? with
  | none => none
  | some b => match b.find? (fun q => q.1 == pc) with
    | none => none
    | some q => some q.2
def xe_ok (cc : ByteArray) (tb : xI) : Bool := tb.all fun b => b.all fun q => decide (decode cc q.1 = .ok (q.2.1, xe_len q.2.1 q.2.2))
theorem xe_ok_lk {cc : ByteArray} {tb : xI} (h : xe_ok cc tb = true) {pc : Nat} {i : Instr} {l : Nat} (hl : xe_lk tb pc = some (i, l)) : decode cc pc = .ok (i, xe_len i l) := by
  unfold xe_lk at hl
  split at hl
  · cases hl
  · rename_i b hb
    split at hl
    · cases hl
    · rename_i q hq
      have hq2 : q.2 = (i, l) := Option.some.inj hl
      have h1 := List.all_eq_true.mp h b (List.mem_of_getElem? hb)
      have h2 := List.all_eq_true.mp h1 q (List.mem_of_find?_eq_some hq)
      have h3 : q.1 = pc := by simpa using List.find?_some hq
      rw [← h3]
      have h4 := of_decide_eq_true h2
      rw [hq2] at h4
      exact h4
/-- values as the machine has them: a cell's number from B on, an unknown int, an unknown int made long, the script -/
def xe_cv (b : Nat → Nat) (B : Nat) (xs : Nat → Int32) : Value → Value
  | .int v => .int v
  | .long v => .long v
  | .null => .null
  | .ref k => .ref (B + k)
  | .float j => .int (xs j.toNat)
  | .double j => .long (xs j.toNat).toInt64
  | .retAddr n => .ref (b n)
theorem xe_cat (b : Nat → Nat) (B : Nat) (xs : Nat → Int32) (v : Value) : (xe_cv b B xs v).category = v.category := by cases v <;> rfl
def xe_in (iv : List (Int32 × Int32)) (xs : Nat → Int32) : Prop := ∀ (j : Nat) (q : Int32 × Int32), iv[j]? = some q → q.1 ≤ xs j ∧ xs j ≤ q.2
/-- a < b, by the bounds where one is unknown -/
def xe_lt (iv : List (Int32 × Int32)) (x y : Value) : Option Bool := match x, y with
  | .int a, .int b => some (decide (a < b))
  | .float j, .int b => match iv[j.toNat]? with
    | some q => if q.2 < b then some true else if b ≤ q.1 then some false else none
    | none => none
  | .int a, .float j => match iv[j.toNat]? with
    | some q => if a < q.1 then some true else if q.2 ≤ a then some false else none
    | none => none
  | _, _ => none
def xe_eq (iv : List (Int32 × Int32)) (x y : Value) : Option Bool := match x, y with
  | .int a, .int b => some (decide (a = b))
  | .float j, .int b => match iv[j.toNat]? with
    | some q => if q.2 < b then some false else if b < q.1 then some false else none
    | none => none
  | .int a, .float j => match iv[j.toNat]? with
    | some q => if a < q.1 then some false else if q.2 < a then some false else none
    | none => none
  | _, _ => none
def xe_cmp (iv : List (Int32 × Int32)) (k : ClassFile.Cond) (x y : Value) : Option Bool := match k with
  | .eq => xe_eq iv x y
  | .ne => match xe_eq iv x y with
    | some b => some (!b)
    | none => none
  | .lt => xe_lt iv x y
  | .ge => match xe_lt iv x y with
    | some b => some (!b)
    | none => none
  | .gt => xe_lt iv y x
  | .le => match xe_lt iv y x with
    | some b => some (!b)
    | none => none
def xe_holds (k : ClassFile.Cond) (x y : Int32) : Bool := match k with
  | .eq => decide (x = y)
  | .ne => decide (¬ x = y)
  | .lt => decide (x < y)
  | .ge => decide (y ≤ x)
  | .gt => decide (y < x)
  | .le => decide (x ≤ y)
section
variable {iv : List (Int32 × Int32)} {xs : Nat → Int32} {b : Nat → Nat} {B : Nat}
theorem xe_lt_ok (hi : xe_in iv xs) {x y : Value} {r : Bool} (h : xe_lt iv x y = some r) : ∃ a c, xe_cv b B xs x = .int a ∧ xe_cv b B xs y = .int c ∧ decide (a < c) = r := by
  unfold xe_lt at h
  split at h
  · cases h
    exact ⟨_, _, rfl, rfl, rfl⟩
  · split at h
    · rename_i j c q hq
      have h1 := hi _ q hq
      refine ⟨_, _, rfl, rfl, ?_⟩
      rw [Int32.le_iff_toInt_le, Int32.le_iff_toInt_le] at h1
      split at h
      · rename_i h2
        cases h
        rw [Int32.lt_iff_toInt_lt] at h2
        exact decide_eq_true (Int32.lt_iff_toInt_lt.mpr (by omega))
      · split at h
        · rename_i h2 h3
          cases h
          rw [Int32.le_iff_toInt_le] at h3
          exact decide_eq_false (fun h4 => by rw [Int32.lt_iff_toInt_lt] at h4; omega)
        · cases h
    · cases h
  · split at h
    · rename_i c j q hq
      have h1 := hi _ q hq
      refine ⟨_, _, rfl, rfl, ?_⟩
      rw [Int32.le_iff_toInt_le, Int32.le_iff_toInt_le] at h1
      split at h
      · rename_i h2
        cases h
        rw [Int32.lt_iff_toInt_lt] at h2
        exact decide_eq_true (Int32.lt_iff_toInt_lt.mpr (by omega))
      · split at h
        · rename_i h2 h3
          cases h
          rw [Int32.le_iff_toInt_le] at h3
          exact decide_eq_false (fun h4 => by rw [Int32.lt_iff_toInt_lt] at h4; omega)
        · cases h
    · cases h
  · cases h
theorem xe_eq_ok (hi : xe_in iv xs) {x y : Value} {r : Bool} (h : xe_eq iv x y = some r) : ∃ a c, xe_cv b B xs x = .int a ∧ xe_cv b B xs y = .int c ∧ decide (a = c) = r := by
  unfold xe_eq at h
  split at h
  · cases h
    exact ⟨_, _, rfl, rfl, rfl⟩
  · split at h
    · rename_i j c q hq
      have h1 := hi _ q hq
      refine ⟨_, _, rfl, rfl, ?_⟩
      rw [Int32.le_iff_toInt_le, Int32.le_iff_toInt_le] at h1
      split at h
      · rename_i h2
        cases h
        rw [Int32.lt_iff_toInt_lt] at h2
        exact decide_eq_false (fun h4 => by rw [← Int32.toInt_inj] at h4; omega)
      · split at h
        · rename_i h2 h3
          cases h
          rw [Int32.lt_iff_toInt_lt] at h3
          exact decide_eq_false (fun h4 => by rw [← Int32.toInt_inj] at h4; omega)
        · cases h
    · cases h
  · split at h
    · rename_i c j q hq
      have h1 := hi _ q hq
      refine ⟨_, _, rfl, rfl, ?_⟩
      rw [Int32.le_iff_toInt_le, Int32.le_iff_toInt_le] at h1
      split at h
      · rename_i h2
        cases h
        rw [Int32.lt_iff_toInt_lt] at h2
        exact decide_eq_false (fun h4 => by rw [← Int32.toInt_inj] at h4; omega)
      · split at h
        · rename_i h2 h3
          cases h
          rw [Int32.lt_iff_toInt_lt] at h3
          exact decide_eq_false (fun h4 => by rw [← Int32.toInt_inj] at h4; omega)
        · cases h
    · cases h
  · cases h
theorem xe_cmp_ok (hi : xe_in iv xs) {k : ClassFile.Cond} {x y : Value} {r : Bool} (h : xe_cmp iv k x y = some r) : ∃ a c, xe_cv b B xs x = .int a ∧ xe_cv b B xs y = .int c ∧ xe_holds k a c = r := by
  unfold xe_cmp at h
  cases k with
  | eq => exact xe_eq_ok hi h
  | ne =>
    dsimp only at h
    split at h
    · rename_i r' hr
      cases h
      obtain ⟨a, c, h1, h2, h3⟩ := xe_eq_ok (b := b) (B := B) hi hr
      exact ⟨a, c, h1, h2, by rw [← h3]; unfold xe_holds; by_cases q : a = c <;> simp [q]⟩
    · cases h
  | lt => exact xe_lt_ok hi h
  | ge =>
    dsimp only at h
    split at h
    · rename_i r' hr
      cases h
      obtain ⟨a, c, h1, h2, h3⟩ := xe_lt_ok (b := b) (B := B) hi hr
      exact ⟨a, c, h1, h2, by rw [← h3]; unfold xe_holds; by_cases q : a < c <;> simp [q, Int32.not_lt.mp, Int32.not_le.mpr]⟩
    · cases h
  | gt =>
    obtain ⟨a, c, h1, h2, h3⟩ := xe_lt_ok (b := b) (B := B) hi h
    exact ⟨c, a, h2, h1, h3⟩
  | le =>
    dsimp only at h
    split at h
    · rename_i r' hr
      cases h
      obtain ⟨a, c, h1, h2, h3⟩ := xe_lt_ok (b := b) (B := B) hi hr
      exact ⟨c, a, h2, h1, by rw [← h3]; unfold xe_holds; by_cases q : a < c <;> simp [q, Int32.not_lt.mp, Int32.not_le.mpr]⟩
    · cases h
end
