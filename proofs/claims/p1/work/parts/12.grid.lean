/-! one call on a fresh object, by bounds of its numbers -/
def xcov (lo : Int32) (t : List (Int32 × Int32)) : List (Int32 × Int32) := match t with
  | [] => [(lo, 2147483647)]
  | q :: t => (lo, q.1) :: xcov q.2 t
def xst (t : List (Int32 × Int32)) : Bool := t.all fun q => decide (q.2.toInt = q.1.toInt + 1)
theorem xcov_ok {t : List (Int32 × Int32)} (ht : xst t = true) : ∀ {lo x : Int32}, lo ≤ x → ∃ q ∈ xcov lo t, q.1 ≤ x ∧ x ≤ q.2 := by
  induction t with
  | nil =>
    intro lo x h
    refine ⟨_, List.mem_singleton.mpr rfl, h, ?_⟩
    have h1 := x.toInt_lt
    rw [Int32.le_iff_toInt_le]
    have h2 : (2147483647 : Int32).toInt = 2147483647 := by decide
    show x.toInt ≤ (2147483647 : Int32).toInt
    rw [h2]
    omega
  | cons q t ih =>
    intro lo x h
    unfold xst at ht
    rw [List.all_cons, Bool.and_eq_true] at ht
    have h0 : q.2.toInt = q.1.toInt + 1 := of_decide_eq_true ht.1
    by_cases hx : x ≤ q.1
    · exact ⟨_, List.mem_cons_self, h, hx⟩
    · have h1 : q.2 ≤ x := by
        rw [Int32.le_iff_toInt_le] at hx ⊢
        omega
      obtain ⟨r, hr, hr2⟩ := ih ht.2 h1
      exact ⟨r, List.mem_cons_of_mem _ hr, hr2⟩
def xcl (j : Nat) (q : Int32 × Int32) : Value := if q.1 = q.2 then .int q.1 else .float (UInt32.ofNat j)
def xiv (q1 q2 q3 q4 q5 : Int32 × Int32) : List (Int32 × Int32) := [(-2147483648, 2147483647), q1, q2, q3, q4, q5]
def xvs (q1 q2 q3 q4 q5 : Int32 × Int32) : List Value := [.float 0, xcl 1 q1, xcl 2 q2, xcl 3 q3, xcl 4 q4, xcl 5 q5]
abbrev xmi : Int32 := -2147483648
noncomputable def xok (a : Int32) (t1 t2 t3 t4 t5 : List (Int32 × Int32)) : Bool := (xst t1 && (xst t2 && (xst t3 && (xst t4 && xst t5)))) && ((xcov xmi t1).all fun q1 => (xcov xmi t2).all fun q2 => (xcov xmi t3).all fun q3 => (xcov xmi t4).all fun q4 => (xcov xmi t5).all fun q5 => xe_law (xiv q1 q2 q3 q4 q5) (some a) (xvs q1 q2 q3 q4 q5))
theorem xok_ok {a : Int32} {t1 t2 t3 t4 t5 : List (Int32 × Int32)} (h : xok a t1 t2 t3 t4 t5 = true) (xs : Nat → Int32) : ∃ q1 q2 q3 q4 q5, xe_law (xiv q1 q2 q3 q4 q5) (some a) (xvs q1 q2 q3 q4 q5) = true ∧ (q1.1 ≤ xs 1 ∧ xs 1 ≤ q1.2) ∧ (q2.1 ≤ xs 2 ∧ xs 2 ≤ q2.2) ∧ (q3.1 ≤ xs 3 ∧ xs 3 ≤ q3.2) ∧ (q4.1 ≤ xs 4 ∧ xs 4 ≤ q4.2) ∧ (q5.1 ≤ xs 5 ∧ xs 5 ≤ q5.2) := by
  unfold xok at h
  simp only [Bool.and_eq_true] at h
  obtain ⟨⟨e1, e2, e3, e4, e5⟩, h⟩ := h
  have hm : ∀ x : Int32, xmi ≤ x := fun x => by
    have h1 := x.le_toInt
    rw [Int32.le_iff_toInt_le]
    have h2 : xmi.toInt = -2147483648 := by decide
    rw [h2]
    omega
  obtain ⟨q1, m1, b1⟩ := xcov_ok e1 (hm (xs 1))
  obtain ⟨q2, m2, b2⟩ := xcov_ok e2 (hm (xs 2))
  obtain ⟨q3, m3, b3⟩ := xcov_ok e3 (hm (xs 3))
  obtain ⟨q4, m4, b4⟩ := xcov_ok e4 (hm (xs 4))
  obtain ⟨q5, m5, b5⟩ := xcov_ok e5 (hm (xs 5))
  have g1 := List.all_eq_true.mp h q1 m1
  have g2 := List.all_eq_true.mp g1 q2 m2
  have g3 := List.all_eq_true.mp g2 q3 m3
  have g4 := List.all_eq_true.mp g3 q4 m4
  have g5 := List.all_eq_true.mp g4 q5 m5
  exact ⟨q1, q2, q3, q4, q5, g5, b1, b2, b3, b4, b5⟩
/-- by the first two numbers' bounds -/
noncomputable def xokR (a : Int32) (q1 q2 : Int32 × Int32) (t3 t4 t5 : List (Int32 × Int32)) : Bool := (xcov xmi t3).all fun q3 => (xcov xmi t4).all fun q4 => (xcov xmi t5).all fun q5 => xe_law (xiv q1 q2 q3 q4 q5) (some a) (xvs q1 q2 q3 q4 q5)
noncomputable def xokS (a : Int32) (q1 : Int32 × Int32) (g : List (Int32 × Int32)) (t3 t4 t5 : List (Int32 × Int32)) : Bool := g.all fun q2 => xokR a q1 q2 t3 t4 t5
theorem xokS_nil {a : Int32} {q1 : Int32 × Int32} {t3 t4 t5 : List (Int32 × Int32)} : xokS a q1 [] t3 t4 t5 = true := rfl
theorem xokS_app {a : Int32} {q1 : Int32 × Int32} {g h : List (Int32 × Int32)} {t3 t4 t5 : List (Int32 × Int32)} (hg : xokS a q1 g t3 t4 t5 = true) (hh : xokS a q1 h t3 t4 t5 = true) : xokS a q1 (g ++ h) t3 t4 t5 = true := by
  unfold xokS at *
  rw [List.all_append, hg, hh]
  rfl
theorem xok_mk {a : Int32} {t1 t2 t3 t4 t5 : List (Int32 × Int32)} (hs : (xst t1 && (xst t2 && (xst t3 && (xst t4 && xst t5)))) = true) (h : ∀ q1 ∈ xcov xmi t1, xokS a q1 (xcov xmi t2) t3 t4 t5 = true) : xok a t1 t2 t3 t4 t5 = true := by
  unfold xok
  rw [hs, Bool.true_and]
  exact List.all_eq_true.mpr h
