/-! what is told: both calls -/
def xTd (g : Nat → Nat → Int32) (l : Nat → Nat → Int64) : Prop := g 73 20 = g 0 11 ∧ l 73 21 = l 0 12 ∧ l 73 22 = l 0 13
def xTo (M : xM) (c r : Int32 × Int64 × Int64) : Prop := ∃ (b : Nat × Nat) (g : Nat → Nat → Int32) (l : Nat → Nat → Int64), M = xH b g l ∧ (g 0 11, l 0 12, l 0 13) = c ∧ (g 73 20, l 73 21, l 73 22) = r
theorem up_ni {α : Type} {g : Nat → Nat → α} {a i i' : Nat} {v : α} (h : i' ≠ i) : up g a i v a i' = g a i' := up_ne (Or.inr h)
def xrd (M : xM) (a i : Nat) : Option Value := match M[a]? with
  | none => none
  | some c => c.2[i]?
theorem xrd_H {b : Nat × Nat} {g : Nat → Nat → Int32} {l : Nat → Nat → Int64} {a i ci : Nat} {fs : List Value} {v : Value} (h : (xsh b)[a]? = some (ci, fs)) (hv : fs[i]? = some v) : xrd (xH b g l) a i = some (xfi g l a i v) := by
  unfold xrd
  rw [xH_get h]
  show (fs.mapIdx (xfi g l a))[i]? = _
  rw [List.getElem?_mapIdx, hv]
  rfl
theorem xTo.get {b : Nat × Nat} {g : Nat → Nat → Int32} {l : Nat → Nat → Int64} {c r : Int32 × Int64 × Int64} (h : xTo (xH b g l) c r) : (g 0 11, l 0 12, l 0 13) = c ∧ (g 73 20, l 73 21, l 73 22) = r := by
  obtain ⟨b', g', l', e, h1, h2⟩ := h
  have r1 : xrd (xH b g l) 0 11 = some (.int (g 0 11)) := xrd_H (v := .int 0) rfl rfl
  have r2 : xrd (xH b g l) 0 12 = some (.long (l 0 12)) := xrd_H (v := .long 0) rfl rfl
  have r3 : xrd (xH b g l) 0 13 = some (.long (l 0 13)) := xrd_H (v := .long 0) rfl rfl
  have r4 : xrd (xH b g l) 73 20 = some (.int (g 73 20)) := xrd_H (v := .int 0) rfl rfl
  have r5 : xrd (xH b g l) 73 21 = some (.long (l 73 21)) := xrd_H (v := .long 0) rfl rfl
  have r6 : xrd (xH b g l) 73 22 = some (.long (l 73 22)) := xrd_H (v := .long 0) rfl rfl
  have s1 : xrd (xH b' g' l') 0 11 = some (.int (g' 0 11)) := xrd_H (v := .int 0) rfl rfl
  have s2 : xrd (xH b' g' l') 0 12 = some (.long (l' 0 12)) := xrd_H (v := .long 0) rfl rfl
  have s3 : xrd (xH b' g' l') 0 13 = some (.long (l' 0 13)) := xrd_H (v := .long 0) rfl rfl
  have s4 : xrd (xH b' g' l') 73 20 = some (.int (g' 73 20)) := xrd_H (v := .int 0) rfl rfl
  have s5 : xrd (xH b' g' l') 73 21 = some (.long (l' 73 21)) := xrd_H (v := .long 0) rfl rfl
  have s6 : xrd (xH b' g' l') 73 22 = some (.long (l' 73 22)) := xrd_H (v := .long 0) rfl rfl
  rw [e] at r1 r2 r3 r4 r5 r6
  have t1 : g' 0 11 = g 0 11 := by have z := Option.some.inj (s1.symm.trans r1); injection z
  have t2 : l' 0 12 = l 0 12 := by have z := Option.some.inj (s2.symm.trans r2); injection z
  have t3 : l' 0 13 = l 0 13 := by have z := Option.some.inj (s3.symm.trans r3); injection z
  have t4 : g' 73 20 = g 73 20 := by have z := Option.some.inj (s4.symm.trans r4); injection z
  have t5 : l' 73 21 = l 73 21 := by have z := Option.some.inj (s5.symm.trans r5); injection z
  have t6 : l' 73 22 = l 73 22 := by have z := Option.some.inj (s6.symm.trans r6); injection z
  rw [t1, t2, t3] at h1
  rw [t4, t5, t6] at h2
  exact ⟨h1, h2⟩
def xJ3 {α : Type} (kv : α → Value) (eq : Prop) (mc mr : Nat) (as : List Value) (b : Nat × Nat) (g : Nat → Nat → Int32) (l : Nat → Nat → Int64) : Prop := xT 10 mc (.ref 0 :: as) (xH b g l) (fun r M => ∃ (v : α) (b1 : Nat × Nat) (g1 : Nat → Nat → Int32) (l1 : Nat → Nat → Int64), r = some (kv v) ∧ M = xH b1 g1 l1 ∧ xT 10 mr (.ref 73 :: as) (xH b1 g1 l1) (fun r' M' => ∃ (v' : α) (b2 : Nat × Nat) (g2 : Nat → Nat → Int32) (l2 : Nat → Nat → Int64), r' = some (kv v') ∧ M' = xH b2 g2 l2 ∧ xJ b2 g2 ∧ (eq → v' = v) ∧ (xTd g l → xTd g2 l2)))
