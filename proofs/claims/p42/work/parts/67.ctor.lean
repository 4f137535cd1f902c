/-! the two constructors: how it begins -/
def g0 : Nat → Nat → Int32 := fun a i => if 23 ≤ a ∧ a < 43 ∧ a % 2 = 1 ∧ i = 1 then -1 else if (a = 67 ∨ a = 69 ∨ a = 71 ∨ a = 15) ∧ i = 1 then -1 else if a = 19 ∧ i = 2 then 1 else if 43 ≤ a ∧ a < 67 then (if i = 0 then nI ((a - 43) / 4) else nI ((a - 43) % 4)) else if a = 74 ∨ a = 76 ∨ a = 86 then -1 else 0
def l0 : Nat → Nat → Int64 := fun a i => if (a = 0 ∧ i = 13) ∨ (a = 73 ∧ i = 22) then 1 else 0
def xMz : xM := (xsh (7, 11)).mapIdx (fun a c => (c.1, c.2.mapIdx (xfi g0 l0 a)))
def xMh : xM := xMz.take 73
def xveq (a b : Value) : Bool := match a, b with
  | .int x, .int y => decide (x = y)
  | .long x, .long y => decide (x = y)
  | .ref x, .ref y => decide (x = y)
  | _, _ => false
theorem xveq_ok {a b : Value} (h : xveq a b = true) : a = b := by
  unfold xveq at h
  split at h
  · rw [of_decide_eq_true h]
  · rw [of_decide_eq_true h]
  · rw [of_decide_eq_true h]
  · cases h
def xleq (a b : List Value) : Bool := match a, b with
  | [], [] => true
  | x :: s, y :: t => xveq x y && xleq s t
  | _, _ => false
theorem xleq_ok : ∀ {a b : List Value}, xleq a b = true → a = b
  | [], [], _ => rfl
  | x :: s, y :: t, h => by
    have h' : (xveq x y && xleq s t) = true := h
    rw [Bool.and_eq_true] at h'
    rw [xveq_ok h'.1, xleq_ok h'.2]
  | [], _ :: _, h => by cases h
  | _ :: _, [], h => by cases h
def xmeq (a b : xM) : Bool := match a, b with
  | [], [] => true
  | x :: s, y :: t => (decide (x.1 = y.1) && xleq x.2 y.2) && xmeq s t
  | _, _ => false
theorem xmeq_ok : ∀ {a b : xM}, xmeq a b = true → a = b
  | [], [], _ => rfl
  | x :: s, y :: t, h => by
    have h' : ((decide (x.1 = y.1) && xleq x.2 y.2) && xmeq s t) = true := h
    rw [Bool.and_eq_true, Bool.and_eq_true] at h'
    have e : x = y := Prod.ext (of_decide_eq_true h'.1.1) (xleq_ok h'.1.2)
    rw [e, xmeq_ok h'.2]
  | [], _ :: _, h => by cases h
  | _ :: _, [], h => by cases h
def xeqO (o : Option xO) (M : xM) (c s : Nat) : Bool := match o with
  | some q => ((match q.1 with
    | none => true
    | some _ => false) && xmeq q.2.1 M) && (decide (q.2.2.1 = c) && decide (q.2.2.2 = s))
  | none => false
theorem xeqO_ok {o : Option xO} {M : xM} {c s : Nat} (h : xeqO o M c s = true) : o = some (none, M, c, s) := by
  cases o with
  | none => cases h
  | some q =>
    obtain ⟨r, M', c', s'⟩ := q
    cases r with
    | some v =>
      have h' : ((false && xmeq M' M) && (decide (c' = c) && decide (s' = s))) = true := h
      rw [Bool.false_and, Bool.false_and] at h'
      cases h'
    | none =>
      have h' : ((true && xmeq M' M) && (decide (c' = c) && decide (s' = s))) = true := h
      rw [Bool.true_and, Bool.and_eq_true, Bool.and_eq_true] at h'
      rw [xmeq_ok h'.1, of_decide_eq_true h'.2.1, of_decide_eq_true h'.2.2]
theorem xz_1 : xeqO (xe_ex 4000 10 77 [.ref 0] [(10, [.null, .null, .null, .null, .null, .null, .null, .null, .null, .null, .null, .int 0, .long 0, .long 0, .int 0, .null])]) xMh 72 1396 = true := by decide +kernel
theorem xz_2 : xeqO (xe_ex 4000 10 150 [.ref 73] (xMh ++ [(11, [.null, .null, .null, .null, .null, .int 0, .null, .int 0, .null, .null, .int 0, .null, .int 0, .null, .int 0, .null, .null, .null, .null, .null, .int 0, .long 0, .long 0, .int 0, .null, .null, .null, .null, .int 0, .int 0, .int 0, .long 0])])) xMz 19 926 = true := by decide +kernel
theorem xMh_len : xMh.length = 73 := by decide +kernel
