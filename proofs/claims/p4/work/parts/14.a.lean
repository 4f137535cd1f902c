section
/-! THE CELLS behind both constructors: their shape never changes but for room and draft (b); ints in g, longs in l, by address and place -/
def xsh_1 : List Value := [.ref 23, .ref 25, .ref 27, .ref 29, .ref 31, .ref 33]
def xsh_2 : List Value := [.ref 35, .ref 37, .ref 39, .ref 41]
def xsh_3 : List Value := [.ref 43, .ref 44, .ref 45, .ref 46, .ref 47, .ref 48, .ref 49, .ref 50, .ref 51, .ref 52, .ref 53, .ref 54, .ref 55, .ref 56, .ref 57, .ref 58, .ref 59, .ref 60, .ref 61, .ref 62, .ref 63, .ref 64, .ref 65, .ref 66]
def xsh_6 : List Value := [.ref 67, .ref 69, .ref 71]
def xsh (b : Nat × Nat) : xM := [(10, [.ref 1, .ref 2, .ref 3, .ref 4, .ref 6, .ref b.1, .ref b.2, .ref 15, .ref 17, .ref 18, .ref 19, .int 0, .long 0, .long 0, .int 0, .ref 22]),
  (13, xsh_1),
  (13, xsh_2),
  (15, xsh_3),
  (2, [.ref 5, .int 0]),
  (12, List.replicate 160 (.int 0)),
  (14, xsh_6),
  (7, [.ref 8, .ref 9, .int 0, .ref 10, .int 0]),
  (12, List.replicate 6 (.int 0)),
  (12, List.replicate 6 (.int 0)),
  (12, List.replicate 16 (.int 0)),
  (7, [.ref 12, .ref 13, .int 0, .ref 14, .int 0]),
  (12, List.replicate 6 (.int 0)),
  (12, List.replicate 6 (.int 0)),
  (12, List.replicate 16 (.int 0)),
  (0, [.ref 16, .int 0]),
  (12, List.replicate 12 (.int 0)),
  (12, List.replicate 6 (.int 0)),
  (12, List.replicate 6 (.int 0)),
  (1, [.ref 20, .ref 21, .int 0, .int 0, .int 0]),
  (12, List.replicate 30 (.int 0)),
  (12, List.replicate 30 (.int 0)),
  (12, List.replicate 6 (.int 0)),
  (0, [.ref 24, .int 0]),
  (12, List.replicate 40 (.int 0)),
  (0, [.ref 26, .int 0]),
  (12, List.replicate 40 (.int 0)),
  (0, [.ref 28, .int 0]),
  (12, List.replicate 40 (.int 0)),
  (0, [.ref 30, .int 0]),
  (12, List.replicate 40 (.int 0)),
  (0, [.ref 32, .int 0]),
  (12, List.replicate 40 (.int 0)),
  (0, [.ref 34, .int 0]),
  (12, List.replicate 40 (.int 0)),
  (0, [.ref 36, .int 0]),
  (12, List.replicate 60 (.int 0)),
  (0, [.ref 38, .int 0]),
  (12, List.replicate 60 (.int 0)),
  (0, [.ref 40, .int 0]),
  (12, List.replicate 60 (.int 0)),
  (0, [.ref 42, .int 0]),
  (12, List.replicate 60 (.int 0)),
  (6, [.int 0, .int 0]),
  (6, [.int 0, .int 0]),
  (6, [.int 0, .int 0]),
  (6, [.int 0, .int 0]),
  (4, [.int 0, .int 0]),
  (4, [.int 0, .int 0]),
  (4, [.int 0, .int 0]),
  (4, [.int 0, .int 0]),
  (8, [.int 0, .int 0]),
  (8, [.int 0, .int 0]),
  (8, [.int 0, .int 0]),
  (8, [.int 0, .int 0]),
  (9, [.int 0, .int 0]),
  (9, [.int 0, .int 0]),
  (9, [.int 0, .int 0]),
  (9, [.int 0, .int 0]),
  (5, [.int 0, .int 0]),
  (5, [.int 0, .int 0]),
  (5, [.int 0, .int 0]),
  (5, [.int 0, .int 0]),
  (3, [.int 0, .int 0]),
  (3, [.int 0, .int 0]),
  (3, [.int 0, .int 0]),
  (3, [.int 0, .int 0]),
  (2, [.ref 68, .int 0]),
  (12, List.replicate 160 (.int 0)),
  (2, [.ref 70, .int 0]),
  (12, List.replicate 160 (.int 0)),
  (2, [.ref 72, .int 0]),
  (12, List.replicate 160 (.int 0)),
  (11, [.ref 74, .ref 75, .ref 76, .ref 77, .ref 78, .int 0, .ref 79, .int 0, .ref 80, .ref 81, .int 0, .ref 82, .int 0, .ref 83, .int 0, .ref 84, .ref 85, .ref 86, .ref 87, .ref 88, .int 0, .long 0, .long 0, .int 0, .ref 89, .ref 90, .ref 91, .ref 92, .int 0, .int 0, .int 0, .long 0]),
  (12, List.replicate 6 (.int 0)),
  (12, List.replicate 240 (.int 0)),
  (12, List.replicate 4 (.int 0)),
  (12, List.replicate 240 (.int 0)),
  (12, List.replicate 6 (.int 0)),
  (12, List.replicate 12 (.int 0)),
  (12, List.replicate 16 (.int 0)),
  (12, List.replicate 6 (.int 0)),
  (12, List.replicate 12 (.int 0)),
  (12, List.replicate 16 (.int 0)),
  (12, List.replicate 40 (.int 0)),
  (12, List.replicate 40 (.int 0)),
  (12, List.replicate 3 (.int 0)),
  (12, List.replicate 120 (.int 0)),
  (12, List.replicate 120 (.int 0)),
  (12, List.replicate 6 (.int 0)),
  (12, List.replicate 13 (.int 0)),
  (12, List.replicate 13 (.int 0)),
  (12, List.replicate 13 (.int 0))]
def xfi (g : Nat → Nat → Int32) (l : Nat → Nat → Int64) (a i : Nat) (v : Value) : Value := match v with
  | .int _ => .int (g a i)
  | .long _ => .long (l a i)
  | v => v
/-- behind a choice, so that nothing unfolds it -/
noncomputable def xHo : {f : Nat × Nat → (Nat → Nat → Int32) → (Nat → Nat → Int64) → xM // f = fun b g l => (xsh b).mapIdx (fun a c => (c.1, c.2.mapIdx (xfi g l a)))} := Classical.choice ⟨⟨_, rfl⟩⟩
noncomputable def xH (b : Nat × Nat) (g : Nat → Nat → Int32) (l : Nat → Nat → Int64) : xM := xHo.val b g l
theorem xH_eq (b : Nat × Nat) (g : Nat → Nat → Int32) (l : Nat → Nat → Int64) : xH b g l = (xsh b).mapIdx (fun a c => (c.1, c.2.mapIdx (xfi g l a))) := by
  unfold xH
  rw [xHo.property]
def up {α : Type} (g : Nat → Nat → α) (a i : Nat) (v : α) : Nat → Nat → α := fun a' i' => if a' = a ∧ i' = i then v else g a' i'
theorem up_same {α : Type} (g : Nat → Nat → α) (a i : Nat) (v : α) : up g a i v a i = v := if_pos ⟨rfl, rfl⟩
theorem up_ne {α : Type} {g : Nat → Nat → α} {a i a' i' : Nat} {v : α} (h : a' ≠ a ∨ i' ≠ i) : up g a i v a' i' = g a' i' := if_neg (fun z => by rcases h with h | h; exact h z.1; exact h z.2)
theorem up_na {α : Type} {g : Nat → Nat → α} {a i a' : Nat} {v : α} (h : a' ≠ a) : up g a i v a' = g a' := funext (fun _ => up_ne (Or.inl h))
section
variable {b : Nat × Nat} {g : Nat → Nat → Int32} {l : Nat → Nat → Int64} {a i ci n : Nat} {fs : List Value} {z : Int32} {zl : Int64}
theorem xH_get (h : (xsh b)[a]? = some (ci, fs)) : (xH b g l)[a]? = some (ci, fs.mapIdx (xfi g l a)) := by
  rw [xH_eq, List.getElem?_mapIdx, h]
  rfl
theorem xH_setI {v : Int32} (h : (xsh b)[a]? = some (ci, fs)) (hz : fs[i]? = some (.int z)) : (xH b g l).set a (ci, (fs.mapIdx (xfi g l a)).set i (.int v)) = xH b (up g a i v) l := by
  apply List.ext_getElem?
  intro a'
  by_cases e : a = a'
  · subst e
    have hlt : a < (xH b g l).length := (List.getElem?_eq_some_iff.mp (xH_get (g := g) (l := l) h)).1
    rw [List.getElem?_set_self hlt, xH_get (g := up g a i v) (l := l) h]
    congr 2
    apply List.ext_getElem?
    intro j
    rw [List.getElem?_set, List.getElem?_mapIdx, List.getElem?_mapIdx, List.length_mapIdx]
    by_cases e2 : i = j
    · subst e2
      have hi : i < fs.length := (List.getElem?_eq_some_iff.mp hz).1
      rw [if_pos rfl, if_pos hi, hz]
      show some (Value.int v) = some (xfi (up g a i v) l a i (.int z))
      unfold xfi
      rw [up_same]
    · rw [if_neg e2]
      cases hw : fs[j]? with
      | none => rfl
      | some w =>
        show some (xfi g l a j w) = some (xfi (up g a i v) l a j w)
        unfold xfi
        rw [up_ne (Or.inr (Ne.symm e2))]
  · rw [List.getElem?_set_ne e]
    rw [xH_eq, xH_eq, List.getElem?_mapIdx, List.getElem?_mapIdx]
    cases hc : (xsh b)[a']? with
    | none => rfl
    | some c =>
      have e1 : xfi (up g a i v) l a' = xfi g l a' := by
        funext j w
        unfold xfi
        rw [up_na (Ne.symm e)]
      simp [e1]
theorem xH_setL {v : Int64} (h : (xsh b)[a]? = some (ci, fs)) (hz : fs[i]? = some (.long zl)) : (xH b g l).set a (ci, (fs.mapIdx (xfi g l a)).set i (.long v)) = xH b g (up l a i v) := by
  apply List.ext_getElem?
  intro a'
  by_cases e : a = a'
  · subst e
    have hlt : a < (xH b g l).length := (List.getElem?_eq_some_iff.mp (xH_get (g := g) (l := l) h)).1
    rw [List.getElem?_set_self hlt, xH_get (g := g) (l := up l a i v) h]
    congr 2
    apply List.ext_getElem?
    intro j
    rw [List.getElem?_set, List.getElem?_mapIdx, List.getElem?_mapIdx, List.length_mapIdx]
    by_cases e2 : i = j
    · subst e2
      have hi : i < fs.length := (List.getElem?_eq_some_iff.mp hz).1
      rw [if_pos rfl, if_pos hi, hz]
      show some (Value.long v) = some (xfi g (up l a i v) a i (.long zl))
      unfold xfi
      rw [up_same]
    · rw [if_neg e2]
      cases hw : fs[j]? with
      | none => rfl
      | some w =>
        show some (xfi g l a j w) = some (xfi g (up l a i v) a j w)
        unfold xfi
        rw [up_ne (Or.inr (Ne.symm e2))]
  · rw [List.getElem?_set_ne e]
    rw [xH_eq, xH_eq, List.getElem?_mapIdx, List.getElem?_mapIdx]
    cases hc : (xsh b)[a']? with
    | none => rfl
    | some c =>
      have e1 : xfi g (up l a i v) a' = xfi g l a' := by
        funext j w
        unfold xfi
        rw [up_na (Ne.symm e)]
      simp [e1]
end
section
variable {q : xQ} {k pc l0 a t : Nat} {lv : xL} {rest : List Value} {P : Option Value → xM → Prop} {vs : List Value} {M : xM} {x : Int32}
theorem xS.iaG (hl : xe_lkF q.1 pc = some (.iaload, l0)) (hM : M[a]? = some (12, vs)) (hn : t < 2 ^ 31) (hv : vs[t]? = some (.int x)) (h : xS q k (pc + 1) lv (.int x :: rest) M P) : xS q k pc lv (.int (nI t) :: .ref a :: rest) M P := by
  refine xS.s2 hl rfl (g := ((pc + 1, lv, .int x :: rest), M)) ?_ h
  show xb_iaload none pc lv (.int (nI t) :: .ref a :: rest) M = _
  unfold xb_iaload
  have h2 : ¬ xlt (nI t) 0 = true := by rw [xlt_iff]; exact nI_pos hn
  simp only [xg_eq, hM, h2, nI_clamp hn, hv, true_and, not_false_eq_true, if_true]
  rfl
theorem xS.iasG (hl : xe_lkF q.1 pc = some (.iastore, l0)) (hM : M[a]? = some (12, vs)) (hn : t < 2 ^ 31) (hv : t < vs.length) (h : xS q k (pc + 1) lv rest (M.set a (12, vs.set t (.int x))) P) : xS q k pc lv (.int x :: .int (nI t) :: .ref a :: rest) M P := by
  refine xS.s2 hl rfl (g := ((pc + 1, lv, rest), M.set a (12, vs.set t (.int x)))) ?_ h
  show xb_iastore pc lv (.int x :: .int (nI t) :: .ref a :: rest) M = _
  unfold xb_iastore
  have h2 : ¬ xlt (nI t) 0 = true := by rw [xlt_iff]; exact nI_pos hn
  simp only [xg_eq, xse_eq, xln_eq, hM, h2, nI_clamp hn, hv, true_and, and_true, not_false_eq_true]
  rfl
end
def xar (a n : Nat) : Prop := (∀ b, (xsh b)[a]? = some (12, List.replicate n (.int 0))) ∧ n ≤ 1000
def xob (a ci : Nat) (fs : List Value) : Prop := ∀ b, (xsh b)[a]? = some (ci, fs)
section
variable {q : xQ} {k pc l0 idx a ci n t : Nat} {lv : xL} {st rest : List Value} {P : Option Value → xM → Prop} {fs : List Value} {e : xFE} {b : Nat × Nat} {g : Nat → Nat → Int32} {l : Nat → Nat → Int64} {z x : Int32} {zl y : Int64} {c : Nat}
theorem xS.gI (hl : xe_lkF q.1 pc = some (.getfield idx, l0)) (hM : (xsh b)[a]? = some (ci, fs)) (he : xfF q.2.1 idx = some e) (hc : ci < 12 ∧ e.2.2.2.2.contains ci = true) (hv : fs[e.2.1]? = some (.int z)) (h : xS q k (pc + 3) lv (.int (g a e.2.1) :: rest) (xH b g l) P) : xS q k pc lv (.ref a :: rest) (xH b g l) P :=
  xS.get hl (xH_get hM) he hc (by rw [List.getElem?_mapIdx, hv]; rfl) h
theorem xS.gL (hl : xe_lkF q.1 pc = some (.getfield idx, l0)) (hM : (xsh b)[a]? = some (ci, fs)) (he : xfF q.2.1 idx = some e) (hc : ci < 12 ∧ e.2.2.2.2.contains ci = true) (hv : fs[e.2.1]? = some (.long zl)) (h : xS q k (pc + 3) lv (.long (l a e.2.1) :: rest) (xH b g l) P) : xS q k pc lv (.ref a :: rest) (xH b g l) P :=
  xS.get hl (xH_get hM) he hc (by rw [List.getElem?_mapIdx, hv]; rfl) h
theorem xS.gR (hl : xe_lkF q.1 pc = some (.getfield idx, l0)) (hM : (xsh b)[a]? = some (ci, fs)) (he : xfF q.2.1 idx = some e) (hc : ci < 12 ∧ e.2.2.2.2.contains ci = true) (hv : fs[e.2.1]? = some (.ref c)) (h : xS q k (pc + 3) lv (.ref c :: rest) (xH b g l) P) : xS q k pc lv (.ref a :: rest) (xH b g l) P :=
  xS.get hl (xH_get hM) he hc (by rw [List.getElem?_mapIdx, hv]; rfl) h
theorem xS.pI (hl : xe_lkF q.1 pc = some (.putfield idx, l0)) (hM : (xsh b)[a]? = some (ci, fs)) (he : xfF q.2.1 idx = some e) (hc : (ci < 12 ∧ e.2.2.2.2.contains ci = true) ∧ ((0 : Nat) = e.2.2.1 ∧ (e.2.2.2.1 = true → q.2.2.2.2 = true) ∧ e.2.2.1 < 3)) (hv : fs[e.2.1]? = some (.int z)) (h : xS q k (pc + 3) lv rest (xH b (up g a e.2.1 x) l) P) : xS q k pc lv (.int x :: .ref a :: rest) (xH b g l) P := by
  refine xS.put hl (xH_get hM) he ⟨hc.1, hc.2, ?_⟩ ?_
  · rw [List.length_mapIdx]
    exact (List.getElem?_eq_some_iff.mp hv).1
  · rw [xH_setI hM hv]
    exact h
theorem xS.pL (hl : xe_lkF q.1 pc = some (.putfield idx, l0)) (hM : (xsh b)[a]? = some (ci, fs)) (he : xfF q.2.1 idx = some e) (hc : (ci < 12 ∧ e.2.2.2.2.contains ci = true) ∧ ((1 : Nat) = e.2.2.1 ∧ (e.2.2.2.1 = true → q.2.2.2.2 = true) ∧ e.2.2.1 < 3)) (hv : fs[e.2.1]? = some (.long zl)) (h : xS q k (pc + 3) lv rest (xH b g (up l a e.2.1 y)) P) : xS q k pc lv (.long y :: .ref a :: rest) (xH b g l) P := by
  refine xS.put hl (xH_get hM) he ⟨hc.1, hc.2, ?_⟩ ?_
  · rw [List.length_mapIdx]
    exact (List.getElem?_eq_some_iff.mp hv).1
  · rw [xH_setL hM hv]
    exact h
theorem xS.ia (hl : xe_lkF q.1 pc = some (.iaload, l0)) (ha : xar a n) (ht : t < n) (h : xS q k (pc + 1) lv (.int (g a t) :: rest) (xH b g l) P) : xS q k pc lv (.int (nI t) :: .ref a :: rest) (xH b g l) P :=
  xS.iaG hl (xH_get (ha.1 b)) (by have := ha.2; omega) (by rw [List.getElem?_mapIdx, List.getElem?_replicate, if_pos ht]; rfl) h
theorem xS.ias (hl : xe_lkF q.1 pc = some (.iastore, l0)) (ha : xar a n) (ht : t < n) (h : xS q k (pc + 1) lv rest (xH b (up g a t x) l) P) : xS q k pc lv (.int x :: .int (nI t) :: .ref a :: rest) (xH b g l) P :=
  xS.iasG hl (xH_get (ha.1 b)) (by have := ha.2; omega) (by rw [List.length_mapIdx, List.length_replicate]; exact ht) (by rw [xH_setI (ha.1 b) (by rw [List.getElem?_replicate, if_pos ht])]; exact h)
theorem xS.al (hl : xe_lkF q.1 pc = some (.arraylength, l0)) (ha : xar a n) (h : xS q k (pc + 1) lv (.int (nI n) :: rest) (xH b g l) P) : xS q k pc lv (.ref a :: rest) (xH b g l) P := by
  refine xS.alen hl (xH_get (ha.1 b)) (by decide) ?_
  rw [List.length_mapIdx, List.length_replicate]
  exact h
theorem xS.alo (hl : xe_lkF q.1 pc = some (.arraylength, l0)) (hM : (xsh b)[a]? = some (ci, fs)) (hci : 12 ≤ ci ∧ ci < 16) (hn : fs.length = n) (h : xS q k (pc + 1) lv (.int (nI n) :: rest) (xH b g l) P) : xS q k pc lv (.ref a :: rest) (xH b g l) P := by
  refine xS.alen hl (xH_get hM) hci ?_
  rw [List.length_mapIdx, hn]
  exact h
theorem xS.aR (hl : xe_lkF q.1 pc = some (.aaload, l0)) (hM : (xsh b)[a]? = some (ci, fs)) (hci : 12 < ci ∧ ci < 16) (hn : t < 2 ^ 31) (hv : fs[t]? = some (.ref c)) (h : xS q k (pc + 1) lv (.ref c :: rest) (xH b g l) P) : xS q k pc lv (.int (nI t) :: .ref a :: rest) (xH b g l) P :=
  xS.aald hl (xH_get hM) hci (nI_pos hn) (v := .ref c) (by rw [nI_clamp hn, List.getElem?_mapIdx, hv]; rfl) rfl h
/-- a virtual call of an object whose kind is known -/
theorem xS.cv {m : Nat} {rs : List (Nat × Nat)} {idx' : Nat} {e : Nat × Nat} {Q : xME} {P1 : Option Value → xM → Prop} (hl : xe_lkF q.1 pc = some (.invokevirtual idx, l0)) (hx : xcF q.2.1 idx = some (idx', 3, m, rs)) (hd : st.drop m = .ref a :: rest) (hM : (xsh b)[a]? = some (ci, fs)) (hr : xfd rs ci = some e) (hm : xmF e.2 = some Q) (hn : ci < 12 ∧ Q.2.2.2.2 = m ∧ xe_sum rest = true) (hT : xT k e.2 (.ref a :: (st.take m).reverse) (xH b g l) P1) (h : ∀ v M1, P1 v M1 → xS q k (pc + 3) lv (v.toList ++ rest) M1 P) : xS q k pc lv st (xH b g l) P :=
  xS.callV hl hx hd (xH_get hM) hr hm hn hT h
theorem xS.csup {mn : Nat} {rs : List (Nat × Nat)} {idx' : Nat} {Q : xME} {P1 : Option Value → xM → Prop} (hl : xe_lkF q.1 pc = some (.invokespecial idx, l0)) (hx : xcF q.2.1 idx = some (idx', 9, mn, rs)) (hm : xmF mn = some Q) (hd : st.drop Q.2.2.2.2 = .ref a :: rest) (hM : (xsh b)[a]? = some (ci, fs)) (hn : ci < 12 ∧ xe_sum rest = true) (hT : xT k mn (.ref a :: (st.take Q.2.2.2.2).reverse) (xH b g l) P1) (h : ∀ v M1, P1 v M1 → xS q k (pc + 3) lv (v.toList ++ rest) M1 P) : xS q k pc lv st (xH b g l) P :=
  xS.callSup hl hx hm hd (xH_get hM) hn hT h
/-- the end of a boolean method -/
theorem xS.retB {p : Prop} {dp : Decidable p} {M : xM} (hl : xe_lkF q.1 pc = some (.ireturn, l0)) (hrt : q.2.2.2.1 = 2) (hP : P (some (.int (@ite _ p dp 1 0))) M) : xS q k pc lv [.int (@ite _ p dp 1 0)] M P := by
  by_cases hp : p
  · rw [if_pos hp] at hP ⊢
    exact xS.ret hl rfl rfl (fun _ _ => by show xe_end q.2.2.2.1 .ireturn [.int 1] M = _; rw [hrt]; rfl) hP
  · rw [if_neg hp] at hP ⊢
    exact xS.ret hl rfl rfl (fun _ _ => by show xe_end q.2.2.2.1 .ireturn [.int 0] M = _; rw [hrt]; rfl) hP
/-- a loop with a state s that keeps I -/
theorem xS.loop {σ : Type} (N : Nat) (lvf : Nat → σ → xL) (Mf : Nat → σ → xM) (I : Nat → σ → Prop) (s0 : σ) {M : xM} (e1 : lv = lvf 0 s0) (e2 : M = Mf 0 s0) (h0 : I 0 s0) (h : ∀ j s, j ≤ N → I j s → (∀ s', j < N → I (j + 1) s' → xS q k pc (lvf (j + 1) s') [] (Mf (j + 1) s') P) → xS q k pc (lvf j s) [] (Mf j s) P) : xS q k pc lv [] M P := by
  have key : ∀ t j s, j + t = N → I j s → xS q k pc (lvf j s) [] (Mf j s) P := by
    intro t
    induction t with
    | zero => intro j s hj hi; exact h j s (by omega) hi (fun s' h1 _ => absurd h1 (by omega))
    | succ t ih => intro j s hj hi; exact h j s (by omega) hi (fun s' _ h2 => ih (j + 1) s' (by omega) h2)
  rw [e1, e2]
  exact key N 0 s0 (by omega) h0
end
section
variable {a b : Int32}
theorem xt_eq (h : xe_holds .eq a b = true) : a = b := of_decide_eq_true h
theorem xt_ne (h : xe_holds .ne a b = true) : ¬ a = b := of_decide_eq_true h
theorem xt_lt (h : xe_holds .lt a b = true) : a < b := of_decide_eq_true h
theorem xt_ge (h : xe_holds .ge a b = true) : b ≤ a := of_decide_eq_true h
theorem xt_gt (h : xe_holds .gt a b = true) : b < a := of_decide_eq_true h
theorem xt_le (h : xe_holds .le a b = true) : a ≤ b := of_decide_eq_true h
theorem xf_eq (h : xe_holds .eq a b = false) : ¬ a = b := of_decide_eq_false h
theorem xf_ne (h : xe_holds .ne a b = false) : a = b := Classical.not_not.mp (of_decide_eq_false h)
theorem xf_lt (h : xe_holds .lt a b = false) : b ≤ a := Int32.not_lt.mp (of_decide_eq_false h)
theorem xf_ge (h : xe_holds .ge a b = false) : a < b := Int32.not_le.mp (of_decide_eq_false h)
theorem xf_gt (h : xe_holds .gt a b = false) : a ≤ b := Int32.not_lt.mp (of_decide_eq_false h)
theorem xf_le (h : xe_holds .le a b = false) : b < a := Int32.not_le.mp (of_decide_eq_false h)
end
def xce (a n : Nat) : Prop := xob a 0 [.ref (a + 1), .int 0] ∧ xar (a + 1) n
def xde (a : Nat) : Prop := xob a 2 [.ref (a + 1), .int 0] ∧ xar (a + 1) 160
def xro (a : Nat) : Prop := xob a 7 [.ref (a + 1), .ref (a + 2), .int 0, .ref (a + 3), .int 0] ∧ xar (a + 1) 6 ∧ xar (a + 2) 6 ∧ xar (a + 3) 16
theorem xce_row : ∀ {r : Nat}, r < 6 → xce (23 + 2 * r) 40
  | 0, _ | 1, _ | 2, _ | 3, _ | 4, _ | 5, _ => ⟨fun _ => rfl, fun _ => rfl, by decide⟩
  | _ + 6, h => absurd h (by omega)
theorem xce_text : ∀ {r : Nat}, r < 4 → xce (35 + 2 * r) 60
  | 0, _ | 1, _ | 2, _ | 3, _ => ⟨fun _ => rfl, fun _ => rfl, by decide⟩
  | _ + 4, h => absurd h (by omega)
theorem xce_trial : xce 15 12 := ⟨fun _ => rfl, fun _ => rfl, by decide⟩
theorem xde_deeds : xde 4 := ⟨fun _ => rfl, fun _ => rfl, by decide⟩
theorem xde_kept : ∀ {r : Nat}, r < 3 → xde (67 + 2 * r)
  | 0, _ | 1, _ | 2, _ => ⟨fun _ => rfl, fun _ => rfl, by decide⟩
  | _ + 3, h => absurd h (by omega)
theorem xro_7 : xro 7 := ⟨fun _ => rfl, ⟨fun _ => rfl, by decide⟩, ⟨fun _ => rfl, by decide⟩, fun _ => rfl, by decide⟩
theorem xro_11 : xro 11 := ⟨fun _ => rfl, ⟨fun _ => rfl, by decide⟩, ⟨fun _ => rfl, by decide⟩, fun _ => rfl, by decide⟩
theorem xsh1_get : ∀ {r : Nat}, r < 6 → xsh_1[r]? = some (.ref (23 + 2 * r))
  | 0, _ | 1, _ | 2, _ | 3, _ | 4, _ | 5, _ => rfl
  | _ + 6, h => absurd h (by omega)
theorem xsh2_get : ∀ {r : Nat}, r < 4 → xsh_2[r]? = some (.ref (35 + 2 * r))
  | 0, _ | 1, _ | 2, _ | 3, _ => rfl
  | _ + 4, h => absurd h (by omega)
theorem xsh6_get : ∀ {r : Nat}, r < 3 → xsh_6[r]? = some (.ref (67 + 2 * r))
  | 0, _ | 1, _ | 2, _ => rfl
  | _ + 3, h => absurd h (by omega)
theorem xsh3_get {r : Nat} (h : r < 24) : xsh_3[r]? = some (.ref (43 + r)) := by
  have : ∀ r : Fin 24, xsh_3[r.val]? = some (.ref (43 + r.val)) := by decide
  exact this ⟨r, h⟩

theorem xar_5 : xar 5 160 := ⟨fun _ => rfl, by decide⟩
theorem xar_8 : xar 8 6 := ⟨fun _ => rfl, by decide⟩
theorem xar_9 : xar 9 6 := ⟨fun _ => rfl, by decide⟩
theorem xar_10 : xar 10 16 := ⟨fun _ => rfl, by decide⟩
theorem xar_12 : xar 12 6 := ⟨fun _ => rfl, by decide⟩
theorem xar_13 : xar 13 6 := ⟨fun _ => rfl, by decide⟩
theorem xar_14 : xar 14 16 := ⟨fun _ => rfl, by decide⟩
theorem xar_16 : xar 16 12 := ⟨fun _ => rfl, by decide⟩
theorem xar_17 : xar 17 6 := ⟨fun _ => rfl, by decide⟩
theorem xar_18 : xar 18 6 := ⟨fun _ => rfl, by decide⟩
theorem xar_20 : xar 20 30 := ⟨fun _ => rfl, by decide⟩
theorem xar_21 : xar 21 30 := ⟨fun _ => rfl, by decide⟩
theorem xar_22 : xar 22 6 := ⟨fun _ => rfl, by decide⟩
theorem xar_24 : xar 24 40 := ⟨fun _ => rfl, by decide⟩
theorem xar_26 : xar 26 40 := ⟨fun _ => rfl, by decide⟩
theorem xar_28 : xar 28 40 := ⟨fun _ => rfl, by decide⟩
theorem xar_30 : xar 30 40 := ⟨fun _ => rfl, by decide⟩
theorem xar_32 : xar 32 40 := ⟨fun _ => rfl, by decide⟩
theorem xar_34 : xar 34 40 := ⟨fun _ => rfl, by decide⟩
theorem xar_36 : xar 36 60 := ⟨fun _ => rfl, by decide⟩
theorem xar_38 : xar 38 60 := ⟨fun _ => rfl, by decide⟩
theorem xar_40 : xar 40 60 := ⟨fun _ => rfl, by decide⟩
theorem xar_42 : xar 42 60 := ⟨fun _ => rfl, by decide⟩
theorem xar_68 : xar 68 160 := ⟨fun _ => rfl, by decide⟩
theorem xar_70 : xar 70 160 := ⟨fun _ => rfl, by decide⟩
theorem xar_72 : xar 72 160 := ⟨fun _ => rfl, by decide⟩
theorem xar_74 : xar 74 6 := ⟨fun _ => rfl, by decide⟩
theorem xar_75 : xar 75 240 := ⟨fun _ => rfl, by decide⟩
theorem xar_76 : xar 76 4 := ⟨fun _ => rfl, by decide⟩
theorem xar_77 : xar 77 240 := ⟨fun _ => rfl, by decide⟩
theorem xar_78 : xar 78 6 := ⟨fun _ => rfl, by decide⟩
theorem xar_79 : xar 79 12 := ⟨fun _ => rfl, by decide⟩
theorem xar_80 : xar 80 16 := ⟨fun _ => rfl, by decide⟩
theorem xar_81 : xar 81 6 := ⟨fun _ => rfl, by decide⟩
theorem xar_82 : xar 82 12 := ⟨fun _ => rfl, by decide⟩
theorem xar_83 : xar 83 16 := ⟨fun _ => rfl, by decide⟩
theorem xar_84 : xar 84 40 := ⟨fun _ => rfl, by decide⟩
theorem xar_85 : xar 85 40 := ⟨fun _ => rfl, by decide⟩
theorem xar_86 : xar 86 3 := ⟨fun _ => rfl, by decide⟩
theorem xar_87 : xar 87 120 := ⟨fun _ => rfl, by decide⟩
theorem xar_88 : xar 88 120 := ⟨fun _ => rfl, by decide⟩
theorem xar_89 : xar 89 6 := ⟨fun _ => rfl, by decide⟩
theorem xar_90 : xar 90 13 := ⟨fun _ => rfl, by decide⟩
theorem xar_91 : xar 91 13 := ⟨fun _ => rfl, by decide⟩
theorem xar_92 : xar 92 13 := ⟨fun _ => rfl, by decide⟩
end
section
/-! LimpMirror$Cells over the fixed cells -/
section
variable {k a c n n2 m t p s d i1 j1 : Nat} {b : Nat × Nat} {g : Nat → Nat → Int32} {l : Nat → Nat → Int64} {i j x y z v w : Int32} {u w1 w2 : Int64}

set_option maxRecDepth 10000 in
theorem c_X0_isMissing (hC : xce a n) : xT (k + 1) 1 [.ref a] (xH b g l) (fun r M' => M' = xH b g l ∧ r = some (.int (if g a 1 = -1 then 1 else 0))) := by
  refine xT.of rfl (Nat.le_of_ble_eq_true rfl) ?_
  dsimp only [lv_args]
  refine xS.s1 rfl rfl ?_
  try dsimp only [Nat.reduceAdd]
  refine xS.gI rfl (hC.1 _) rfl ⟨by decide, rfl⟩ rfl ?_
  try dsimp only [Nat.reduceAdd]
  refine xS.s1 rfl rfl ?_
  try dsimp only [Nat.reduceAdd, xi_m1]
  refine xS.br (c := .ne) (off := 7) (l := 3) rfl rfl (fun h5 => ?_) (fun h5 => ?_)
  · have g5 := xt_ne h5
    refine xS.s1 rfl rfl ?_
    try dsimp only [Nat.reduceAdd, xi_0]
    refine xS.ret rfl rfl rfl (fun _ _ => rfl) ?_
    exact ⟨rfl, by split <;> first | rfl | (exfalso; simp_all)⟩
  · have g5 := xf_ne h5
    refine xS.s1 rfl rfl ?_
    try dsimp only [Nat.reduceAdd, xi_1]
    refine xS.s1 rfl rfl ?_
    try dsimp only [Nat.reduceAdd]
    refine xS.ret rfl rfl rfl (fun _ _ => rfl) ?_
    exact ⟨rfl, by split <;> first | rfl | (exfalso; simp_all)⟩

set_option maxRecDepth 10000 in
theorem c_X0_size (hC : xce a n) : xT (k + 1) 2 [.ref a] (xH b g l) (fun r M' => M' = xH b g l ∧ r = some (.int (g a 1))) := by
  refine xT.of rfl (Nat.le_of_ble_eq_true rfl) ?_
  dsimp only [lv_args]
  refine xS.s1 rfl rfl ?_
  try dsimp only [Nat.reduceAdd]
  refine xS.gI rfl (hC.1 _) rfl ⟨by decide, rfl⟩ rfl ?_
  try dsimp only [Nat.reduceAdd]
  refine xS.ret rfl rfl rfl (fun _ _ => rfl) ?_
  exact ⟨rfl, rfl⟩

set_option maxRecDepth 10000 in
theorem c_X0_has (hC : xce a n) : xT (k + 1) 3 [.ref a, .int i] (xH b g l) (fun r M' => M' = xH b g l ∧ r = some (.int (if 0 ≤ i ∧ i < g a 1 ∧ i < nI n then 1 else 0))) := by
  refine xT.of rfl (Nat.le_of_ble_eq_true rfl) ?_
  dsimp only [lv_args]
  refine xS.s1 rfl rfl ?_
  try dsimp only [Nat.reduceAdd]
  refine xS.br0 (c := .lt) (off := 24) (l := 3) rfl rfl (fun h1 => ?_) (fun h1 => ?_)
  · have g1 := xt_lt h1
    refine xS.s1 rfl rfl ?_
    try dsimp only [Nat.reduceAdd, xi_0]
    refine xS.ret rfl rfl rfl (fun _ _ => rfl) ?_
    exact ⟨rfl, by split <;> first | rfl | (exfalso; simp only [Int32.le_iff_toInt_le, Int32.lt_iff_toInt_lt, Int32.reduceToInt] at *; omega)⟩
  · have g1 := xf_lt h1
    refine xS.s1 rfl rfl ?_
    try dsimp only [Nat.reduceAdd]
    refine xS.s1 rfl rfl ?_
    try dsimp only [Nat.reduceAdd]
    refine xS.gI rfl (hC.1 _) rfl ⟨by decide, rfl⟩ rfl ?_
    try dsimp only [Nat.reduceAdd]
    refine xS.br (c := .ge) (off := 16) (l := 3) rfl rfl (fun h9 => ?_) (fun h9 => ?_)
    · have g9 := xt_ge h9
      refine xS.s1 rfl rfl ?_
      try dsimp only [Nat.reduceAdd, xi_0]
      refine xS.ret rfl rfl rfl (fun _ _ => rfl) ?_
      exact ⟨rfl, by split <;> first | rfl | (exfalso; simp only [Int32.le_iff_toInt_le, Int32.lt_iff_toInt_lt, Int32.reduceToInt] at *; omega)⟩
    · have g9 := xf_ge h9
      refine xS.s1 rfl rfl ?_
      try dsimp only [Nat.reduceAdd]
      refine xS.s1 rfl rfl ?_
      try dsimp only [Nat.reduceAdd]
      refine xS.gR rfl (hC.1 _) rfl ⟨by decide, rfl⟩ rfl ?_
      try dsimp only [Nat.reduceAdd]
      refine xS.al rfl hC.2 ?_
      try dsimp only [Nat.reduceAdd]
      refine xS.br (c := .ge) (off := 7) (l := 3) rfl rfl (fun h18 => ?_) (fun h18 => ?_)
      · have g18 := xt_ge h18
        refine xS.s1 rfl rfl ?_
        try dsimp only [Nat.reduceAdd, xi_0]
        refine xS.ret rfl rfl rfl (fun _ _ => rfl) ?_
        exact ⟨rfl, by split <;> first | rfl | (exfalso; simp only [Int32.le_iff_toInt_le, Int32.lt_iff_toInt_lt, Int32.reduceToInt] at *; omega)⟩
      · have g18 := xf_ge h18
        refine xS.s1 rfl rfl ?_
        try dsimp only [Nat.reduceAdd, xi_1]
        refine xS.s1 rfl rfl ?_
        try dsimp only [Nat.reduceAdd]
        refine xS.ret rfl rfl rfl (fun _ _ => rfl) ?_
        exact ⟨rfl, by split <;> first | rfl | (exfalso; simp only [Int32.le_iff_toInt_le, Int32.lt_iff_toInt_lt, Int32.reduceToInt] at *; omega)⟩

set_option maxRecDepth 10000 in
theorem c_X0_hasPlaces (hC : xce a n) : xT (k + 1) 4 [.ref a, .int i, .int x] (xH b g l) (fun r M' => M' = xH b g l ∧ r = some (.int (if 0 ≤ i ∧ i ≤ g a 1 ∧ x ≤ g a 1 - i then 1 else 0))) := by
  refine xT.of rfl (Nat.le_of_ble_eq_true rfl) ?_
  dsimp only [lv_args]
  refine xS.s1 rfl rfl ?_
  try dsimp only [Nat.reduceAdd]
  refine xS.br0 (c := .lt) (off := 25) (l := 3) rfl rfl (fun h1 => ?_) (fun h1 => ?_)
  · have g1 := xt_lt h1
    refine xS.s1 rfl rfl ?_
    try dsimp only [Nat.reduceAdd, xi_0]
    refine xS.ret rfl rfl rfl (fun _ _ => rfl) ?_
    exact ⟨rfl, by split <;> first | rfl | (exfalso; simp only [Int32.le_iff_toInt_le, Int32.lt_iff_toInt_lt, Int32.reduceToInt] at *; omega)⟩
  · have g1 := xf_lt h1
    refine xS.s1 rfl rfl ?_
    try dsimp only [Nat.reduceAdd]
    refine xS.s1 rfl rfl ?_
    try dsimp only [Nat.reduceAdd]
    refine xS.gI rfl (hC.1 _) rfl ⟨by decide, rfl⟩ rfl ?_
    try dsimp only [Nat.reduceAdd]
    refine xS.br (c := .gt) (off := 17) (l := 3) rfl rfl (fun h9 => ?_) (fun h9 => ?_)
    · have g9 := xt_gt h9
      refine xS.s1 rfl rfl ?_
      try dsimp only [Nat.reduceAdd, xi_0]
      refine xS.ret rfl rfl rfl (fun _ _ => rfl) ?_
      exact ⟨rfl, by split <;> first | rfl | (exfalso; simp only [Int32.le_iff_toInt_le, Int32.lt_iff_toInt_lt, Int32.reduceToInt] at *; omega)⟩
    · have g9 := xf_gt h9
      refine xS.s1 rfl rfl ?_
      try dsimp only [Nat.reduceAdd]
      refine xS.s1 rfl rfl ?_
      try dsimp only [Nat.reduceAdd]
      refine xS.gI rfl (hC.1 _) rfl ⟨by decide, rfl⟩ rfl ?_
      try dsimp only [Nat.reduceAdd]
      refine xS.s1 rfl rfl ?_
      try dsimp only [Nat.reduceAdd]
      refine xS.s1 rfl rfl ?_
      try dsimp only [Nat.reduceAdd]
      refine xS.br (c := .gt) (off := 7) (l := 3) rfl rfl (fun h19 => ?_) (fun h19 => ?_)
      · have g19 := xt_gt h19
        refine xS.s1 rfl rfl ?_
        try dsimp only [Nat.reduceAdd, xi_0]
        refine xS.ret rfl rfl rfl (fun _ _ => rfl) ?_
        exact ⟨rfl, by split <;> first | rfl | (exfalso; simp only [Int32.le_iff_toInt_le, Int32.lt_iff_toInt_lt, Int32.reduceToInt] at *; omega)⟩
      · have g19 := xf_gt h19
        refine xS.s1 rfl rfl ?_
        try dsimp only [Nat.reduceAdd, xi_1]
        refine xS.s1 rfl rfl ?_
        try dsimp only [Nat.reduceAdd]
        refine xS.ret rfl rfl rfl (fun _ _ => rfl) ?_
        exact ⟨rfl, by split <;> first | rfl | (exfalso; simp only [Int32.le_iff_toInt_le, Int32.lt_iff_toInt_lt, Int32.reduceToInt] at *; omega)⟩

set_option maxRecDepth 10000 in
theorem c_X0_drop (hC : xce a n) : xT (k + 1) 8 [.ref a] (xH b g l) (fun r M' => M' = xH b (up g a 1 (-1)) l ∧ r = none) := by
  refine xT.of rfl (Nat.le_of_ble_eq_true rfl) ?_
  dsimp only [lv_args]
  refine xS.s1 rfl rfl ?_
  try dsimp only [Nat.reduceAdd]
  refine xS.s1 rfl rfl ?_
  try dsimp only [Nat.reduceAdd, xi_m1]
  refine xS.pI rfl (hC.1 _) rfl ⟨⟨by decide, rfl⟩, rfl, by decide, by decide⟩ rfl ?_
  try dsimp only [Nat.reduceAdd]
  refine xS.ret rfl rfl rfl (fun _ _ => rfl) ?_
  exact ⟨rfl, rfl⟩

theorem xn31 {a n : Nat} (h : xar a n) : n < 2 ^ 31 := by have := h.2; omega
theorem c_X0_has_in (hC : xce a n) (hs : g a 1 = nI m) (hm : m ≤ n) (ht : t < m) : xT (k + 1) 3 [.ref a, .int (nI t)] (xH b g l) (fun r M' => M' = xH b g l ∧ r = some (.int 1)) := by
  have hn := xn31 hC.2
  refine (c_X0_has hC).weak (fun r M' h => ⟨h.1, ?_⟩)
  rw [h.2, if_pos ⟨nI_pos' (by omega), by rw [hs]; exact nI_lt ht (by omega), nI_lt (by omega) (by omega)⟩]

set_option maxRecDepth 10000 in
theorem c_X0_get (hC : xce a n) (hs : g a 1 = nI m) (hm : m ≤ n) (ht : t < m) : xT (k + 2) 5 [.ref a, .int (nI t)] (xH b g l) (fun r M' => M' = xH b g l ∧ r = some (.int (g (a + 1) t))) := by
  refine xT.of rfl (Nat.le_of_ble_eq_true rfl) ?_
  dsimp only [lv_args]
  refine xS.s1 rfl rfl ?_
  try dsimp only [Nat.reduceAdd]
  refine xS.s1 rfl rfl ?_
  try dsimp only [Nat.reduceAdd]
  -- 2 yX0_has
  refine xS.cv rfl rfl rfl (hC.1 _) rfl rfl ⟨by decide, rfl, rfl⟩ (c_X0_has_in hC hs hm ht) (fun v M1 hv => ?_)
  rw [hv.1, hv.2]
  clear hv M1 v
  try dsimp only [Nat.reduceAdd, Option.toList, List.cons_append, List.nil_append, List.drop]
  refine xS.br0 (c := .eq) (off := 12) (l := 3) rfl rfl (fun h5 => ?_) (fun h5 => ?_)
  · have g5 := xt_eq h5
    exact absurd g5 (by decide)
  · have g5 := xf_eq h5
    refine xS.s1 rfl rfl ?_
    try dsimp only [Nat.reduceAdd]
    refine xS.gR rfl (hC.1 _) rfl ⟨by decide, rfl⟩ rfl ?_
    try dsimp only [Nat.reduceAdd]
    refine xS.s1 rfl rfl ?_
    try dsimp only [Nat.reduceAdd]
    refine xS.ia rfl hC.2 (by omega) ?_
    try dsimp only [Nat.reduceAdd]
    refine xS.s1 rfl rfl ?_
    try dsimp only [Nat.reduceAdd]
    refine xS.ret rfl rfl rfl (fun _ _ => rfl) ?_
    exact ⟨rfl, rfl⟩

set_option maxRecDepth 10000 in
theorem c_X0_set (hC : xce a n) (hs : g a 1 = nI m) (hm : m ≤ n) (ht : t < m) : xT (k + 2) 6 [.ref a, .int (nI t), .int x] (xH b g l) (fun r M' => M' = xH b (up g (a + 1) t x) l ∧ r = none) := by
  refine xT.of rfl (Nat.le_of_ble_eq_true rfl) ?_
  dsimp only [lv_args]
  refine xS.s1 rfl rfl ?_
  try dsimp only [Nat.reduceAdd]
  refine xS.s1 rfl rfl ?_
  try dsimp only [Nat.reduceAdd]
  -- 2 yX0_has
  refine xS.cv rfl rfl rfl (hC.1 _) rfl rfl ⟨by decide, rfl, rfl⟩ (c_X0_has_in hC hs hm ht) (fun v M1 hv => ?_)
  rw [hv.1, hv.2]
  clear hv M1 v
  try dsimp only [Nat.reduceAdd, Option.toList, List.cons_append, List.nil_append, List.drop]
  refine xS.br0 (c := .eq) (off := 10) (l := 3) rfl rfl (fun h5 => ?_) (fun h5 => ?_)
  · have g5 := xt_eq h5
    exact absurd g5 (by decide)
  · have g5 := xf_eq h5
    refine xS.s1 rfl rfl ?_
    try dsimp only [Nat.reduceAdd]
    refine xS.gR rfl (hC.1 _) rfl ⟨by decide, rfl⟩ rfl ?_
    try dsimp only [Nat.reduceAdd]
    refine xS.s1 rfl rfl ?_
    try dsimp only [Nat.reduceAdd]
    refine xS.s1 rfl rfl ?_
    try dsimp only [Nat.reduceAdd]
    refine xS.ias rfl hC.2 (by omega) ?_
    try dsimp only [Nat.reduceAdd]
    refine xS.ret rfl rfl rfl (fun _ _ => rfl) ?_
    exact ⟨rfl, rfl⟩

set_option maxRecDepth 10000 in
theorem c_X0_stepAt (hC : xce a n) (hs : g a 1 = nI m) (hm : m ≤ n) (ht : t < m) : xT (k + 3) 11 [.ref a, .int (nI t)] (xH b g l) (fun r M' => M' = xH b g l ∧ r = some (.int (g (a + 1) t))) := by
  refine xT.of rfl (Nat.le_of_ble_eq_true rfl) ?_
  dsimp only [lv_args]
  refine xS.s1 rfl rfl ?_
  try dsimp only [Nat.reduceAdd]
  refine xS.s1 rfl rfl ?_
  try dsimp only [Nat.reduceAdd]
  -- 2 yX0_get
  refine xS.cv rfl rfl rfl (hC.1 _) rfl rfl ⟨by decide, rfl, rfl⟩ (c_X0_get hC hs hm ht) (fun v M1 hv => ?_)
  rw [hv.1, hv.2]
  clear hv M1 v
  try dsimp only [Nat.reduceAdd, Option.toList, List.cons_append, List.nil_append, List.drop]
  refine xS.ret rfl rfl rfl (fun _ _ => rfl) ?_
  exact ⟨rfl, rfl⟩

def gfill (g : Nat → Nat → Int32) (a m : Nat) (v : Int32) : Nat → Nat → Int32 := fun a' i' => if a' = a ∧ i' < m then v else g a' i'
theorem gfill_0 (g : Nat → Nat → Int32) (a : Nat) (v : Int32) : gfill g a 0 v = g := by
  funext a' i'
  exact if_neg (fun h => absurd h.2 (by omega))
theorem gfill_s (g : Nat → Nat → Int32) (a j : Nat) (v : Int32) : up (gfill g a j v) a j v = gfill g a (j + 1) v := by
  funext a' i'
  unfold up gfill
  by_cases h : a' = a
  · by_cases h1 : i' = j
    · simp [h, h1]
    · by_cases h2 : i' < j
      · simp [h, h1, h2, Nat.lt_succ_of_lt h2]
      · have : ¬ i' < j + 1 := by omega
        simp [h1, h2, this]
  · simp [h]
theorem gfill_na {g : Nat → Nat → Int32} {a m a' : Nat} {v : Int32} (h : a' ≠ a) : gfill g a m v a' = g a' := funext (fun _ => if_neg (fun z => h z.1))
theorem gfill_in {g : Nat → Nat → Int32} {a m i : Nat} {v : Int32} (h : i < m) : gfill g a m v a i = v := if_pos ⟨rfl, h⟩
def gcopy (g : Nat → Nat → Int32) (sa si da di m : Nat) : Nat → Nat → Int32 := fun a' i' => if a' = da ∧ di ≤ i' ∧ i' < di + m then g sa (si + (i' - di)) else g a' i'
theorem gcopy_na {g : Nat → Nat → Int32} {sa si da di m a' : Nat} (h : a' ≠ da) : gcopy g sa si da di m a' = g a' := funext (fun _ => if_neg (fun z => h z.1))
theorem gcopy_in {g : Nat → Nat → Int32} {sa si da di m i : Nat} (h : i < m) : gcopy g sa si da di m da (di + i) = g sa (si + i) := by
  unfold gcopy
  rw [if_pos ⟨rfl, by omega, by omega⟩]
  congr 1
  omega
theorem gcopy_0 {g : Nat → Nat → Int32} {sa si da di : Nat} : gcopy g sa si da di 0 = g := by
  funext a' i'
  exact if_neg (fun h => absurd h.2 (by omega))
theorem xnlt {a b : Nat} (h : nI a < nI b) (ha : a < 2 ^ 31) (hb : b < 2 ^ 31) : a < b := (nI_ltI ha hb).mp h
theorem xnle {a b : Nat} (h : nI b ≤ nI a) (ha : a < 2 ^ 31) (hb : b < 2 ^ 31) : b ≤ a := (nI_leI hb ha).mp h

theorem xmax0 {m : Nat} (h : m < 2 ^ 31) : (if 0 < nI m then nI m else 0) = nI m := by
  cases m with
  | zero => exact ite_self _
  | succ m => exact if_pos (nI_lt (a := 0) (b := m + 1) (by omega) h)

set_option maxRecDepth 10000 in
theorem c_X0_open (hC : xce a n) (hm : m ≤ n) : xT (k + 1) 7 [.ref a, .int (nI m), .int v] (xH b g l) (fun r M' => M' = xH b (gfill (up g a 1 (nI m)) (a + 1) m v) l ∧ r = none) := by
  refine xT.of rfl (Nat.le_of_ble_eq_true rfl) ?_
  dsimp only [lv_args]
  refine xS.s1 rfl rfl ?_
  try dsimp only [Nat.reduceAdd]
  refine xS.s1 rfl rfl ?_
  try dsimp only [Nat.reduceAdd, xi_0]
  refine xS.s1 rfl rfl ?_
  try dsimp only [Nat.reduceAdd]
  refine xS.s1 rfl rfl ?_
  try dsimp only [Nat.reduceAdd]
  refine xS.gR rfl (hC.1 _) rfl ⟨by decide, rfl⟩ rfl ?_
  try dsimp only [Nat.reduceAdd]
  refine xS.al rfl hC.2 ?_
  try dsimp only [Nat.reduceAdd]
  refine xS.s3 (pc' := 11) (M1 := xH b g l) (st' := [.int (if nI n < nI m then nI n else nI m), .int 0, .ref a]) rfl rfl rfl (fun _ _ => rfl) ?_
  rw [if_neg (nI_nlt hm (xn31 hC.2))]
  refine xS.s3 (pc' := 14) (M1 := xH b g l) (st' := [.int (if 0 < nI m then nI m else 0), .ref a]) rfl rfl rfl (fun _ _ => rfl) ?_
  rw [show (if 0 < nI m then nI m else 0) = nI m from xmax0 (by have := xn31 hC.2; omega)]
  refine xS.pI rfl (hC.1 _) rfl ⟨⟨by decide, rfl⟩, rfl, by decide, by decide⟩ rfl ?_
  try dsimp only [Nat.reduceAdd]
  refine xS.s1 rfl rfl ?_
  try dsimp only [Nat.reduceAdd, xi_0]
  refine xS.s1 rfl rfl ?_
  try dsimp only [Nat.reduceAdd]
  refine xS.pick [0, 1, 3] rfl ?_
  refine xS.loop (σ := Unit) (m) (fun j S => [(3, .int (nI j)), (0, .ref a), (2, .int v)]) (fun j _ => xH b (gfill (up g a 1 (nI m)) (a + 1) j v) l) (fun _ _ => True) (()) (rfl) (by rw [gfill_0]) (trivial) ?_
  intro j S hj hI ih
  try dsimp only
  have hn := xn31 hC.2
  have hsz : gfill (up g a 1 (nI m)) (a + 1) j v a 1 = nI m := by rw [gfill_na (by omega), up_same]
  refine xS.s1 rfl rfl ?_
  try dsimp only [Nat.reduceAdd]
  refine xS.s1 rfl rfl ?_
  try dsimp only [Nat.reduceAdd]
  refine xS.gI rfl (hC.1 _) rfl ⟨by decide, rfl⟩ rfl ?_
  try dsimp only [Nat.reduceAdd]
  refine xS.br (c := .ge) (off := 16) (l := 3) rfl rfl (fun h24 => ?_) (fun h24 => ?_)
  · have g24 := xt_ge h24
    rw [hsz] at g24
    refine xS.ret rfl rfl rfl (fun _ _ => rfl) ?_
    have e := xnle g24 (by omega) (by omega)
    rw [show j = m by omega]
    exact ⟨rfl, rfl⟩
  · have g24 := xf_ge h24
    rw [hsz] at g24
    have hlt := xnlt g24 (by omega) (by omega)
    refine xS.s1 rfl rfl ?_
    try dsimp only [Nat.reduceAdd]
    refine xS.gR rfl (hC.1 _) rfl ⟨by decide, rfl⟩ rfl ?_
    try dsimp only [Nat.reduceAdd]
    refine xS.s1 rfl rfl ?_
    try dsimp only [Nat.reduceAdd]
    refine xS.s1 rfl rfl ?_
    try dsimp only [Nat.reduceAdd]
    refine xS.ias rfl hC.2 (by omega) ?_
    try dsimp only [Nat.reduceAdd]
    refine xS.s1 rfl rfl ?_
    try dsimp only [Nat.reduceAdd, xi_1]
    rw [nI_1]
    refine xS.s1 rfl rfl ?_
    try dsimp only [Nat.reduceAdd]
    refine xS.pick [0, 1, 2] rfl ?_
    rw [gfill_s]
    exact ih () (by omega) trivial

end
end
section
/-! copies; LimpMirror$Cells take, takeAll; LimpMirror$Deeds -/
section
variable {q : xQ} {k pc l0 sa da sj dj m idx : Nat} {lv : xL} {rest : List Value} {P : Option Value → xM → Prop} {vs ws : List Value} {M : xM}
theorem xS.acpG {idx' x1 : Nat} {x2 : List (Nat × Nat)} (hl : xe_lkF q.1 pc = some (.invokestatic idx, l0)) (hx : xcF q.2.1 idx = some (idx', 8, x1, x2)) (hs : M[sa]? = some (12, vs)) (hd : M[da]? = some (12, ws)) (h1 : sj + m ≤ vs.length) (h2 : dj + m ≤ ws.length) (hb : sj + m < 2 ^ 31) (hb2 : dj + m < 2 ^ 31) (hr : xe_sum rest = true) (h : xS q k (pc + 3) lv rest (M.set da (12, xcpy vs ws sj dj m)) P) : xS q k pc lv (.int (nI m) :: .int (nI dj) :: .ref da :: .int (nI sj) :: .ref sa :: rest) M P := by
  refine xS.s3 (pc' := pc + 3) (st' := rest) (M1 := M.set da (12, xcpy vs ws sj dj m)) hl rfl rfl (fun c ih => ?_) h
  show xe_callS c q.2.1 idx pc lv _ M ih = _
  unfold xe_callS
  simp only [hx]
  unfold xe_copy
  have e1 : ∀ z, z < 2 ^ 31 → ¬ xlt (nI z) 0 = true := fun z hz => by rw [xlt_iff]; exact nI_pos hz
  simp only [xg_eq, xse_eq, xln_eq, hs, hd]
  rw [nI_clamp (n := m) (by omega), nI_clamp (n := sj) (by omega), nI_clamp (n := dj) (by omega)]
  rw [if_pos ⟨⟨trivial, trivial⟩, ⟨e1 _ (by omega), e1 _ (by omega), e1 _ (by omega)⟩, ⟨h1, h2⟩, hr⟩]
end
section
variable {b : Nat × Nat} {g : Nat → Nat → Int32} {l : Nat → Nat → Int64} {sa da sj dj m n1 n2 : Nat}
theorem xH_cp (hs : xar sa n1) (hd : xar da n2) (h1 : sj + m ≤ n1) (h2 : dj + m ≤ n2) : (xH b g l).set da (12, xcpy ((List.replicate n1 (Value.int 0)).mapIdx (xfi g l sa)) ((List.replicate n2 (Value.int 0)).mapIdx (xfi g l da)) sj dj m) = xH b (gcopy g sa sj da dj m) l := by
  apply List.ext_getElem?
  intro a'
  by_cases e : da = a'
  · subst e
    have hlt : da < (xH b g l).length := (List.getElem?_eq_some_iff.mp (xH_get (g := g) (l := l) (hd.1 b))).1
    rw [List.getElem?_set_self hlt, xH_get (g := gcopy g sa sj da dj m) (l := l) (hd.1 b)]
    congr 2
    apply List.ext_getElem?
    intro j
    rw [xcpy_get (by rw [List.length_mapIdx, List.length_replicate]; exact h1) (by rw [List.length_mapIdx, List.length_replicate]; exact h2)]
    simp only [List.getElem?_mapIdx, List.getElem?_replicate]
    by_cases c : dj ≤ j ∧ j < dj + m
    · rw [if_pos c, if_pos (by omega), if_pos (by omega)]
      show some (Value.int (g sa (sj + (j - dj)))) = some (Value.int (gcopy g sa sj da dj m da j))
      unfold gcopy
      rw [if_pos ⟨rfl, c⟩]
    · rw [if_neg c]
      by_cases c2 : j < n2
      · rw [if_pos c2]
        show some (Value.int (g da j)) = some (Value.int (gcopy g sa sj da dj m da j))
        unfold gcopy
        rw [if_neg (fun z => c z.2)]
      · rw [if_neg c2]
        rfl
  · rw [List.getElem?_set_ne e]
    rw [xH_eq, xH_eq, List.getElem?_mapIdx, List.getElem?_mapIdx]
    cases hc : (xsh b)[a']? with
    | none => rfl
    | some c =>
      have e1 : xfi (gcopy g sa sj da dj m) l a' = xfi g l a' := by
        funext j w
        unfold xfi
        rw [gcopy_na (Ne.symm e)]
      simp [e1]
end
section
variable {q : xQ} {k pc l0 sa da sj dj m idx n1 n2 : Nat} {lv : xL} {rest : List Value} {P : Option Value → xM → Prop} {b : Nat × Nat} {g : Nat → Nat → Int32} {l : Nat → Nat → Int64}
theorem xS.acp {idx' x1 : Nat} {x2 : List (Nat × Nat)} (hl : xe_lkF q.1 pc = some (.invokestatic idx, l0)) (hx : xcF q.2.1 idx = some (idx', 8, x1, x2)) (hs : xar sa n1) (hd : xar da n2) (h1 : sj + m ≤ n1) (h2 : dj + m ≤ n2) (hr : xe_sum rest = true) (h : xS q k (pc + 3) lv rest (xH b (gcopy g sa sj da dj m) l) P) : xS q k pc lv (.int (nI m) :: .int (nI dj) :: .ref da :: .int (nI sj) :: .ref sa :: rest) (xH b g l) P :=
  xS.acpG hl hx (xH_get (hs.1 b)) (xH_get (hd.1 b)) (by rw [List.length_mapIdx, List.length_replicate]; exact h1) (by rw [List.length_mapIdx, List.length_replicate]; exact h2) (by have := hs.2; omega) (by have := hd.2; omega) hr (by rw [xH_cp hs hd h1 h2]; exact h)
end
theorem up_id {α : Type} {g : Nat → Nat → α} {a i : Nat} {v : α} (h : g a i = v) : up g a i v = g := by
  funext a' i'
  unfold up
  by_cases e : a' = a ∧ i' = i
  · rw [if_pos e, e.1, e.2, h]
  · rw [if_neg e]

theorem xn0 {m : Nat} (h : nI m ≤ 0) (hm : m < 2 ^ 31) : m = 0 := by
  have := (nI_leI (a := m) (b := 0) hm (by omega)).mp h
  omega

section
variable {k a c n n2 m t p s d i1 j1 : Nat} {b : Nat × Nat} {g : Nat → Nat → Int32} {l : Nat → Nat → Int64} {i j x y z v w : Int32} {u w1 w2 : Int64}

theorem c_X0_hasPlaces_in (hC : xce a n) (hs : g a 1 = nI m) (hm : m ≤ n) (ht : i1 + t ≤ m) : xT (k + 1) 4 [.ref a, .int (nI i1), .int (nI t)] (xH b g l) (fun r M' => M' = xH b g l ∧ r = some (.int 1)) := by
  have hn := xn31 hC.2
  refine (c_X0_hasPlaces hC).weak (fun r M' h => ⟨h.1, ?_⟩)
  rw [h.2, if_pos ⟨nI_pos' (by omega), by rw [hs]; exact nI_le (by omega) (by omega), by rw [hs, pk_sub (by omega)]; exact nI_le (by omega) (by omega)⟩]

set_option maxRecDepth 10000 in
theorem c_X0_take (hC : xce a n) (hF : xce c n2) (hs : g c 1 = nI s) (hs2 : g a 1 = nI d) (hm : s ≤ n2) (hm2 : d ≤ n) (q1 : i1 + m ≤ s) (q2 : j1 + m ≤ d) : xT (k + 2) 9 [.ref a, .ref c, .int (nI i1), .int (nI j1), .int (nI m)] (xH b g l) (fun r M' => M' = xH b (gcopy g (c + 1) i1 (a + 1) j1 m) l ∧ r = none) := by
  refine xT.of rfl (Nat.le_of_ble_eq_true rfl) ?_
  dsimp only [lv_args]
  refine xS.s1 rfl rfl ?_
  try dsimp only [Nat.reduceAdd]
  refine xS.br0 (c := .le) (off := 38) (l := 3) rfl rfl (fun h2 => ?_) (fun h2 => ?_)
  · have g2 := xt_le h2
    refine xS.ret rfl rfl rfl (fun _ _ => rfl) ?_
    exact ⟨by rw [show m = 0 from xn0 g2 (by have := xn31 hC.2; omega), gcopy_0], rfl⟩
  · have g2 := xf_le h2
    refine xS.s1 rfl rfl ?_
    try dsimp only [Nat.reduceAdd]
    refine xS.s1 rfl rfl ?_
    try dsimp only [Nat.reduceAdd]
    refine xS.s1 rfl rfl ?_
    try dsimp only [Nat.reduceAdd]
    -- 9 yX0_hasPlaces
    refine xS.cv rfl rfl rfl (hF.1 _) rfl rfl ⟨by decide, rfl, rfl⟩ (c_X0_hasPlaces_in hF hs hm q1) (fun v M1 hv => ?_)
    rw [hv.1, hv.2]
    clear hv M1 v
    try dsimp only [Nat.reduceAdd, Option.toList, List.cons_append, List.nil_append, List.drop]
    refine xS.br0 (c := .eq) (off := 28) (l := 3) rfl rfl (fun h12 => ?_) (fun h12 => ?_)
    · have g12 := xt_eq h12
      exact absurd g12 (by decide)
    · have g12 := xf_eq h12
      refine xS.s1 rfl rfl ?_
      try dsimp only [Nat.reduceAdd]
      refine xS.s1 rfl rfl ?_
      try dsimp only [Nat.reduceAdd]
      refine xS.s1 rfl rfl ?_
      try dsimp only [Nat.reduceAdd]
      -- 19 yX0_hasPlaces
      refine xS.cv rfl rfl rfl (hC.1 _) rfl rfl ⟨by decide, rfl, rfl⟩ (c_X0_hasPlaces_in hC hs2 hm2 q2) (fun v M1 hv => ?_)
      rw [hv.1, hv.2]
      clear hv M1 v
      try dsimp only [Nat.reduceAdd, Option.toList, List.cons_append, List.nil_append, List.drop]
      refine xS.br0 (c := .eq) (off := 18) (l := 3) rfl rfl (fun h22 => ?_) (fun h22 => ?_)
      · have g22 := xt_eq h22
        exact absurd g22 (by decide)
      · have g22 := xf_eq h22
        refine xS.s1 rfl rfl ?_
        try dsimp only [Nat.reduceAdd]
        refine xS.gR rfl (hF.1 _) rfl ⟨by decide, rfl⟩ rfl ?_
        try dsimp only [Nat.reduceAdd]
        refine xS.s1 rfl rfl ?_
        try dsimp only [Nat.reduceAdd]
        refine xS.s1 rfl rfl ?_
        try dsimp only [Nat.reduceAdd]
        refine xS.gR rfl (hC.1 _) rfl ⟨by decide, rfl⟩ rfl ?_
        try dsimp only [Nat.reduceAdd]
        refine xS.s1 rfl rfl ?_
        try dsimp only [Nat.reduceAdd]
        refine xS.s1 rfl rfl ?_
        try dsimp only [Nat.reduceAdd]
        refine xS.acp rfl rfl hF.2 hC.2 (by omega) (by omega) rfl ?_
        try dsimp only [Nat.reduceAdd]
        refine xS.ret rfl rfl rfl (fun _ _ => rfl) ?_
        exact ⟨rfl, rfl⟩

theorem gcopy_fill {g : Nat → Nat → Int32} {sa da m : Nat} {v : Int32} (h : sa ≠ da) : gcopy (gfill g da m v) sa 0 da 0 m = gcopy g sa 0 da 0 m := by
  funext a' i'
  unfold gcopy
  rw [gfill_na h]
  by_cases c : a' = da ∧ 0 ≤ i' ∧ i' < 0 + m
  · rw [if_pos c, if_pos c]
  · rw [if_neg c, if_neg c]
    exact if_neg (fun z => c ⟨z.1, by omega, by omega⟩)

set_option maxRecDepth 10000 in
theorem c_X0_takeAll (hC : xce a n) (hF : xce c n2) (hs : g c 1 = nI m) (hm : m ≤ n) (hm2 : m ≤ n2) (hac : c ≠ a) (hac1 : c + 1 ≠ a) (hac2 : c ≠ a + 1) : xT (k + 3) 10 [.ref a, .ref c] (xH b g l) (fun r M' => M' = xH b (gcopy (up g a 1 (nI m)) (c + 1) 0 (a + 1) 0 m) l ∧ r = none) := by
  refine xT.of rfl (Nat.le_of_ble_eq_true rfl) ?_
  dsimp only [lv_args]
  refine xS.s1 rfl rfl ?_
  try dsimp only [Nat.reduceAdd]
  refine xS.s1 rfl rfl ?_
  try dsimp only [Nat.reduceAdd]
  refine xS.gI rfl (hF.1 _) rfl ⟨by decide, rfl⟩ rfl ?_
  try dsimp only [Nat.reduceAdd]
  rw [hs]
  refine xS.s1 rfl rfl ?_
  try dsimp only [Nat.reduceAdd, xi_0]
  -- 6 yX0_open
  refine xS.cv rfl rfl rfl (hC.1 _) rfl rfl ⟨by decide, rfl, rfl⟩ (c_X0_open hC hm) (fun v M1 hv => ?_)
  rw [hv.1, hv.2]
  clear hv M1 v
  try dsimp only [Nat.reduceAdd, Option.toList, List.cons_append, List.nil_append, List.drop]
  refine xS.s1 rfl rfl ?_
  try dsimp only [Nat.reduceAdd]
  refine xS.s1 rfl rfl ?_
  try dsimp only [Nat.reduceAdd]
  refine xS.s1 rfl rfl ?_
  try dsimp only [Nat.reduceAdd, xi_0]
  refine xS.s1 rfl rfl ?_
  try dsimp only [Nat.reduceAdd, xi_0]
  refine xS.s1 rfl rfl ?_
  try dsimp only [Nat.reduceAdd]
  refine xS.gI rfl (hC.1 _) rfl ⟨by decide, rfl⟩ rfl ?_
  try dsimp only [Nat.reduceAdd]
  rw [show gfill (up g a 1 (nI m)) (a + 1) m 0 a 1 = nI m from by rw [gfill_na (by omega), up_same]]
  -- 17 yX0_take
  refine xS.cv rfl rfl rfl (hC.1 _) rfl rfl ⟨by decide, rfl, rfl⟩ (c_X0_take (i1 := 0) (j1 := 0) hC hF (show _ = nI m by rw [gfill_na hac2, up_ne (Or.inl hac), hs]) (show _ = nI m by rw [gfill_na (by omega), up_same]) hm2 hm (by omega) (by omega)) (fun v M1 hv => ?_)
  rw [hv.1, hv.2]
  clear hv M1 v
  try dsimp only [Nat.reduceAdd, Option.toList, List.cons_append, List.nil_append, List.drop]
  refine xS.ret rfl rfl rfl (fun _ _ => rfl) ?_
  exact ⟨by rw [gcopy_fill (by omega)], rfl⟩

set_option maxRecDepth 10000 in
theorem c_X2_size (hC : xde a) : xT (k + 1) 23 [.ref a] (xH b g l) (fun r M' => M' = xH b g l ∧ r = some (.int (g a 1))) := by
  refine xT.of rfl (Nat.le_of_ble_eq_true rfl) ?_
  dsimp only [lv_args]
  refine xS.s1 rfl rfl ?_
  try dsimp only [Nat.reduceAdd]
  refine xS.gI rfl (hC.1 _) rfl ⟨by decide, rfl⟩ rfl ?_
  try dsimp only [Nat.reduceAdd]
  refine xS.ret rfl rfl rfl (fun _ _ => rfl) ?_
  exact ⟨rfl, rfl⟩

set_option maxRecDepth 10000 in
theorem c_X2_isMissing (hC : xde a) : xT (k + 1) 24 [.ref a] (xH b g l) (fun r M' => M' = xH b g l ∧ r = some (.int (if g a 1 = -1 then 1 else 0))) := by
  refine xT.of rfl (Nat.le_of_ble_eq_true rfl) ?_
  dsimp only [lv_args]
  refine xS.s1 rfl rfl ?_
  try dsimp only [Nat.reduceAdd]
  refine xS.gI rfl (hC.1 _) rfl ⟨by decide, rfl⟩ rfl ?_
  try dsimp only [Nat.reduceAdd]
  refine xS.s1 rfl rfl ?_
  try dsimp only [Nat.reduceAdd, xi_m1]
  refine xS.br (c := .ne) (off := 7) (l := 3) rfl rfl (fun h5 => ?_) (fun h5 => ?_)
  · have g5 := xt_ne h5
    refine xS.s1 rfl rfl ?_
    try dsimp only [Nat.reduceAdd, xi_0]
    refine xS.ret rfl rfl rfl (fun _ _ => rfl) ?_
    exact ⟨rfl, by split <;> first | rfl | (exfalso; simp_all)⟩
  · have g5 := xf_ne h5
    refine xS.s1 rfl rfl ?_
    try dsimp only [Nat.reduceAdd, xi_1]
    refine xS.s1 rfl rfl ?_
    try dsimp only [Nat.reduceAdd]
    refine xS.ret rfl rfl rfl (fun _ _ => rfl) ?_
    exact ⟨rfl, by split <;> first | rfl | (exfalso; simp_all)⟩

set_option maxRecDepth 10000 in
theorem c_X2_drop (hC : xde a) : xT (k + 1) 25 [.ref a] (xH b g l) (fun r M' => M' = xH b (up g a 1 (-1)) l ∧ r = none) := by
  refine xT.of rfl (Nat.le_of_ble_eq_true rfl) ?_
  dsimp only [lv_args]
  refine xS.s1 rfl rfl ?_
  try dsimp only [Nat.reduceAdd]
  refine xS.s1 rfl rfl ?_
  try dsimp only [Nat.reduceAdd, xi_m1]
  refine xS.pI rfl (hC.1 _) rfl ⟨⟨by decide, rfl⟩, rfl, by decide, by decide⟩ rfl ?_
  try dsimp only [Nat.reduceAdd]
  refine xS.ret rfl rfl rfl (fun _ _ => rfl) ?_
  exact ⟨rfl, rfl⟩

set_option maxRecDepth 10000 in
theorem c_X2_fact (hC : xde a) (hs : g a 1 = nI m) (hm : m ≤ 40) (hd : d < m) (hw : t < 4) : xT (k + 1) 26 [.ref a, .int (nI d), .int (nI t)] (xH b g l) (fun r M' => M' = xH b g l ∧ r = some (.int (g (a + 1) (4 * d + t)))) := by
  refine xT.of rfl (Nat.le_of_ble_eq_true rfl) ?_
  dsimp only [lv_args]
  refine xS.s1 rfl rfl ?_
  try dsimp only [Nat.reduceAdd]
  refine xS.br0 (c := .lt) (off := 24) (l := 3) rfl rfl (fun h1 => ?_) (fun h1 => ?_)
  · have g1 := xt_lt h1
    exfalso; simp (disch := omega) only [hs, Int32.lt_iff_toInt_lt, Int32.le_iff_toInt_le, nI_toInt, Int32.reduceToInt] at g1 <;> omega
  · have g1 := xf_lt h1
    refine xS.s1 rfl rfl ?_
    try dsimp only [Nat.reduceAdd]
    refine xS.s1 rfl rfl ?_
    try dsimp only [Nat.reduceAdd]
    refine xS.gI rfl (hC.1 _) rfl ⟨by decide, rfl⟩ rfl ?_
    try dsimp only [Nat.reduceAdd]
    refine xS.br (c := .ge) (off := 16) (l := 3) rfl rfl (fun h9 => ?_) (fun h9 => ?_)
    · have g9 := xt_ge h9
      exfalso; simp (disch := omega) only [hs, Int32.lt_iff_toInt_lt, Int32.le_iff_toInt_le, nI_toInt, Int32.reduceToInt] at g9 <;> omega
    · have g9 := xf_ge h9
      refine xS.s1 rfl rfl ?_
      try dsimp only [Nat.reduceAdd]
      refine xS.br0 (c := .lt) (off := 12) (l := 3) rfl rfl (fun h13 => ?_) (fun h13 => ?_)
      · have g13 := xt_lt h13
        exfalso; simp (disch := omega) only [hs, Int32.lt_iff_toInt_lt, Int32.le_iff_toInt_le, nI_toInt, Int32.reduceToInt] at g13 <;> omega
      · have g13 := xf_lt h13
        refine xS.s1 rfl rfl ?_
        try dsimp only [Nat.reduceAdd]
        refine xS.s1 rfl rfl ?_
        try dsimp only [Nat.reduceAdd, xi_4]
        refine xS.br (c := .ge) (off := 7) (l := 3) rfl rfl (fun h18 => ?_) (fun h18 => ?_)
        · have g18 := xt_ge h18
          exfalso; simp (disch := omega) only [hs, Int32.lt_iff_toInt_lt, Int32.le_iff_toInt_le, nI_toInt, Int32.reduceToInt] at g18 <;> omega
        · have g18 := xf_ge h18
          refine xS.s1 rfl rfl ?_
          try dsimp only [Nat.reduceAdd, xi_1]
          refine xS.s1 rfl rfl ?_
          try dsimp only [Nat.reduceAdd]
          refine xS.s1 rfl rfl ?_
          try dsimp only [Nat.reduceAdd]
          refine xS.s1 rfl rfl ?_
          try dsimp only [Nat.reduceAdd]
          refine xS.br0 (c := .eq) (off := 16) (l := 3) rfl rfl (fun h28 => ?_) (fun h28 => ?_)
          · have g28 := xt_eq h28
            exact absurd g28 (by decide)
          · have g28 := xf_eq h28
            refine xS.s1 rfl rfl ?_
            try dsimp only [Nat.reduceAdd]
            refine xS.gR rfl (hC.1 _) rfl ⟨by decide, rfl⟩ rfl ?_
            try dsimp only [Nat.reduceAdd]
            refine xS.s1 rfl rfl ?_
            try dsimp only [Nat.reduceAdd, xi_4]
            refine xS.s1 rfl rfl ?_
            try dsimp only [Nat.reduceAdd]
            refine xS.s1 rfl rfl ?_
            try dsimp only [Nat.reduceAdd]
            refine xS.s1 rfl rfl ?_
            try dsimp only [Nat.reduceAdd]
            refine xS.s1 rfl rfl ?_
            try dsimp only [Nat.reduceAdd]
            rw [show (((4 * nI d) + nI t) : Int32) = nI ((4 * d) + t) from by simp only [← nI_add, ← pk_mul]; rfl]
            refine xS.ia rfl hC.2 (by omega) ?_
            try dsimp only [Nat.reduceAdd]
            refine xS.s1 rfl rfl ?_
            try dsimp only [Nat.reduceAdd]
            refine xS.ret rfl rfl rfl (fun _ _ => rfl) ?_
            exact ⟨rfl, rfl⟩

set_option maxRecDepth 10000 in
theorem c_X2_write (hC : xde a) (hd : d < 40) (hw : t < 4) : xT (k + 1) 27 [.ref a, .int (nI d), .int (nI t), .int x] (xH b g l) (fun r M' => M' = xH b (up g (a + 1) (4 * d + t) x) l ∧ r = none) := by
  refine xT.of rfl (Nat.le_of_ble_eq_true rfl) ?_
  dsimp only [lv_args]
  refine xS.s1 rfl rfl ?_
  try dsimp only [Nat.reduceAdd]
  refine xS.br0 (c := .lt) (off := 20) (l := 3) rfl rfl (fun h1 => ?_) (fun h1 => ?_)
  · have g1 := xt_lt h1
    exfalso; simp (disch := omega) only [Int32.lt_iff_toInt_lt, Int32.le_iff_toInt_le, nI_toInt, Int32.reduceToInt] at g1 <;> omega
  · have g1 := xf_lt h1
    refine xS.s1 rfl rfl ?_
    try dsimp only [Nat.reduceAdd]
    refine xS.s1 rfl rfl ?_
    try dsimp only [Nat.reduceAdd, xj_40]
    refine xS.br (c := .ge) (off := 14) (l := 3) rfl rfl (fun h7 => ?_) (fun h7 => ?_)
    · have g7 := xt_ge h7
      exfalso; simp (disch := omega) only [Int32.lt_iff_toInt_lt, Int32.le_iff_toInt_le, nI_toInt, Int32.reduceToInt] at g7 <;> omega
    · have g7 := xf_ge h7
      refine xS.s1 rfl rfl ?_
      try dsimp only [Nat.reduceAdd]
      refine xS.gR rfl (hC.1 _) rfl ⟨by decide, rfl⟩ rfl ?_
      try dsimp only [Nat.reduceAdd]
      refine xS.s1 rfl rfl ?_
      try dsimp only [Nat.reduceAdd, xi_4]
      refine xS.s1 rfl rfl ?_
      try dsimp only [Nat.reduceAdd]
      refine xS.s1 rfl rfl ?_
      try dsimp only [Nat.reduceAdd]
      refine xS.s1 rfl rfl ?_
      try dsimp only [Nat.reduceAdd]
      refine xS.s1 rfl rfl ?_
      try dsimp only [Nat.reduceAdd]
      refine xS.s1 rfl rfl ?_
      try dsimp only [Nat.reduceAdd]
      rw [show (((4 * nI d) + nI t) : Int32) = nI ((4 * d) + t) from by simp only [← nI_add, ← pk_mul]; rfl]
      refine xS.ias rfl hC.2 (by omega) ?_
      try dsimp only [Nat.reduceAdd]
      refine xS.ret rfl rfl rfl (fun _ _ => rfl) ?_
      exact ⟨rfl, rfl⟩

set_option maxRecDepth 10000 in
theorem c_X2_see (hC : xde a) (hd : d < 40) : xT (k + 2) 29 [.ref a, .int (nI d), .int x, .int y] (xH b g l) (fun r M' => M' = xH b (up (up g (a + 1) (4 * d + 2) x) (a + 1) (4 * d + 3) y) l ∧ r = none) := by
  refine xT.of rfl (Nat.le_of_ble_eq_true rfl) ?_
  dsimp only [lv_args]
  refine xS.s1 rfl rfl ?_
  try dsimp only [Nat.reduceAdd]
  refine xS.s1 rfl rfl ?_
  try dsimp only [Nat.reduceAdd]
  refine xS.s1 rfl rfl ?_
  try dsimp only [Nat.reduceAdd, xi_2]
  refine xS.s1 rfl rfl ?_
  try dsimp only [Nat.reduceAdd]
  -- 4 yX2_write
  refine xS.cv rfl rfl rfl (hC.1 _) rfl rfl ⟨by decide, rfl, rfl⟩ (c_X2_write (t := 2) hC hd (by decide)) (fun v M1 hv => ?_)
  rw [hv.1, hv.2]
  clear hv M1 v
  try dsimp only [Nat.reduceAdd, Option.toList, List.cons_append, List.nil_append, List.drop]
  refine xS.s1 rfl rfl ?_
  try dsimp only [Nat.reduceAdd]
  refine xS.s1 rfl rfl ?_
  try dsimp only [Nat.reduceAdd]
  refine xS.s1 rfl rfl ?_
  try dsimp only [Nat.reduceAdd, xi_3]
  refine xS.s1 rfl rfl ?_
  try dsimp only [Nat.reduceAdd]
  -- 11 yX2_write
  refine xS.cv rfl rfl rfl (hC.1 _) rfl rfl ⟨by decide, rfl, rfl⟩ (c_X2_write (t := 3) hC hd (by decide)) (fun v M1 hv => ?_)
  rw [hv.1, hv.2]
  clear hv M1 v
  try dsimp only [Nat.reduceAdd, Option.toList, List.cons_append, List.nil_append, List.drop]
  refine xS.ret rfl rfl rfl (fun _ _ => rfl) ?_
  exact ⟨rfl, rfl⟩

theorem c_X2_sz {g : Nat → Nat → Int32} {a j : Nat} {v x : Int32} (h : g a 1 = x) : up g (a + 1) j v a 1 = x := by rw [up_ne (Or.inl (by omega)), h]

set_option maxRecDepth 10000 in
theorem c_X2_add (hC : xde a) (hs : g a 1 = nI m) (hm : m < 40) : xT (k + 3) 28 [.ref a, .int x, .int y] (xH b g l) (fun r M' => M' = xH b (up (up (up (up (up g (a + 1) (4 * m) x) (a + 1) (4 * m + 1) y) (a + 1) (4 * m + 2) 0) (a + 1) (4 * m + 3) (-9)) a 1 (nI (m + 1))) l ∧ r = none) := by
  refine xT.of rfl (Nat.le_of_ble_eq_true rfl) ?_
  dsimp only [lv_args]
  refine xS.s1 rfl rfl ?_
  try dsimp only [Nat.reduceAdd]
  refine xS.gI rfl (hC.1 _) rfl ⟨by decide, rfl⟩ rfl ?_
  try dsimp only [Nat.reduceAdd]
  refine xS.br0 (c := .lt) (off := 53) (l := 3) rfl rfl (fun h4 => ?_) (fun h4 => ?_)
  · have g4 := xt_lt h4
    exfalso; simp (disch := omega) only [hs, Int32.lt_iff_toInt_lt, Int32.le_iff_toInt_le, nI_toInt, Int32.reduceToInt] at g4 <;> omega
  · have g4 := xf_lt h4
    refine xS.s1 rfl rfl ?_
    try dsimp only [Nat.reduceAdd]
    refine xS.gI rfl (hC.1 _) rfl ⟨by decide, rfl⟩ rfl ?_
    try dsimp only [Nat.reduceAdd]
    refine xS.s1 rfl rfl ?_
    try dsimp only [Nat.reduceAdd, xj_40]
    refine xS.br (c := .ge) (off := 44) (l := 3) rfl rfl (fun h13 => ?_) (fun h13 => ?_)
    · have g13 := xt_ge h13
      exfalso; simp (disch := omega) only [hs, Int32.lt_iff_toInt_lt, Int32.le_iff_toInt_le, nI_toInt, Int32.reduceToInt] at g13 <;> omega
    · have g13 := xf_ge h13
      refine xS.s1 rfl rfl ?_
      try dsimp only [Nat.reduceAdd]
      refine xS.s1 rfl rfl ?_
      try dsimp only [Nat.reduceAdd]
      refine xS.gI rfl (hC.1 _) rfl ⟨by decide, rfl⟩ rfl ?_
      try dsimp only [Nat.reduceAdd]
      rw [hs]
      refine xS.s1 rfl rfl ?_
      try dsimp only [Nat.reduceAdd, xi_0]
      refine xS.s1 rfl rfl ?_
      try dsimp only [Nat.reduceAdd]
      -- 23 yX2_write
      refine xS.cv rfl rfl rfl (hC.1 _) rfl rfl ⟨by decide, rfl, rfl⟩ (c_X2_write (t := 0) hC hm (by decide)) (fun v M1 hv => ?_)
      rw [hv.1, hv.2]
      clear hv M1 v
      try dsimp only [Nat.reduceAdd, Option.toList, List.cons_append, List.nil_append, List.drop]
      refine xS.s1 rfl rfl ?_
      try dsimp only [Nat.reduceAdd]
      refine xS.s1 rfl rfl ?_
      try dsimp only [Nat.reduceAdd]
      refine xS.gI rfl (hC.1 _) rfl ⟨by decide, rfl⟩ rfl ?_
      try dsimp only [Nat.reduceAdd]
      rw [c_X2_sz hs]
      refine xS.s1 rfl rfl ?_
      try dsimp only [Nat.reduceAdd, xi_1]
      refine xS.s1 rfl rfl ?_
      try dsimp only [Nat.reduceAdd]
      -- 33 yX2_write
      refine xS.cv rfl rfl rfl (hC.1 _) rfl rfl ⟨by decide, rfl, rfl⟩ (c_X2_write (t := 1) hC hm (by decide)) (fun v M1 hv => ?_)
      rw [hv.1, hv.2]
      clear hv M1 v
      try dsimp only [Nat.reduceAdd, Option.toList, List.cons_append, List.nil_append, List.drop]
      refine xS.s1 rfl rfl ?_
      try dsimp only [Nat.reduceAdd]
      refine xS.s1 rfl rfl ?_
      try dsimp only [Nat.reduceAdd]
      refine xS.gI rfl (hC.1 _) rfl ⟨by decide, rfl⟩ rfl ?_
      try dsimp only [Nat.reduceAdd]
      rw [c_X2_sz (c_X2_sz hs)]
      refine xS.s1 rfl rfl ?_
      try dsimp only [Nat.reduceAdd, xi_0]
      refine xS.s1 rfl rfl ?_
      try dsimp only [Nat.reduceAdd, xj_m9]
      -- 44 yX2_see
      refine xS.cv rfl rfl rfl (hC.1 _) rfl rfl ⟨by decide, rfl, rfl⟩ (c_X2_see hC hm) (fun v M1 hv => ?_)
      rw [hv.1, hv.2]
      clear hv M1 v
      try dsimp only [Nat.reduceAdd, Option.toList, List.cons_append, List.nil_append, List.drop]
      refine xS.s1 rfl rfl ?_
      try dsimp only [Nat.reduceAdd]
      refine xS.s1 rfl rfl ?_
      try dsimp only [Nat.reduceAdd]
      refine xS.gI rfl (hC.1 _) rfl ⟨by decide, rfl⟩ rfl ?_
      try dsimp only [Nat.reduceAdd]
      rw [c_X2_sz (c_X2_sz (c_X2_sz (c_X2_sz hs)))]
      refine xS.s1 rfl rfl ?_
      try dsimp only [Nat.reduceAdd, xi_1]
      refine xS.s1 rfl rfl ?_
      try dsimp only [Nat.reduceAdd]
      rw [nI_1]
      refine xS.pI rfl (hC.1 _) rfl ⟨⟨by decide, rfl⟩, rfl, by decide, by decide⟩ rfl ?_
      try dsimp only [Nat.reduceAdd]
      refine xS.ret rfl rfl rfl (fun _ _ => rfl) ?_
      exact ⟨rfl, rfl⟩

set_option maxRecDepth 10000 in
theorem c_X2_cutTo (hC : xde a) (hs : g a 1 = nI m) (hm : m ≤ 40) (ht : t ≤ m) : xT (k + 1) 30 [.ref a, .int (nI t)] (xH b g l) (fun r M' => M' = xH b (up g a 1 (nI t)) l ∧ r = none) := by
  refine xT.of rfl (Nat.le_of_ble_eq_true rfl) ?_
  dsimp only [lv_args]
  refine xS.s1 rfl rfl ?_
  try dsimp only [Nat.reduceAdd]
  refine xS.br0 (c := .lt) (off := 16) (l := 3) rfl rfl (fun h1 => ?_) (fun h1 => ?_)
  · have g1 := xt_lt h1
    exfalso; simp (disch := omega) only [hs, Int32.lt_iff_toInt_lt, Int32.le_iff_toInt_le, nI_toInt, Int32.reduceToInt] at g1 <;> omega
  · have g1 := xf_lt h1
    refine xS.s1 rfl rfl ?_
    try dsimp only [Nat.reduceAdd]
    refine xS.s1 rfl rfl ?_
    try dsimp only [Nat.reduceAdd]
    refine xS.gI rfl (hC.1 _) rfl ⟨by decide, rfl⟩ rfl ?_
    try dsimp only [Nat.reduceAdd]
    refine xS.br (c := .ge) (off := 8) (l := 3) rfl rfl (fun h9 => ?_) (fun h9 => ?_)
    · have g9 := xt_ge h9
      refine xS.ret rfl rfl rfl (fun _ _ => rfl) ?_
      rw [hs] at g9
      have e := xnle g9 (by omega) (by omega)
      exact ⟨by rw [up_id (by rw [hs, show t = m by omega])], rfl⟩
    · have g9 := xf_ge h9
      refine xS.s1 rfl rfl ?_
      try dsimp only [Nat.reduceAdd]
      refine xS.s1 rfl rfl ?_
      try dsimp only [Nat.reduceAdd]
      refine xS.pI rfl (hC.1 _) rfl ⟨⟨by decide, rfl⟩, rfl, by decide, by decide⟩ rfl ?_
      try dsimp only [Nat.reduceAdd]
      refine xS.ret rfl rfl rfl (fun _ _ => rfl) ?_
      exact ⟨rfl, rfl⟩

set_option maxRecDepth 10000 in
theorem c_X2_takeAll (hC : xde a) (hF : xde c) (hs : g c 1 = nI m) (hm : m ≤ 40) : xT (k + 1) 31 [.ref a, .ref c] (xH b g l) (fun r M' => M' = xH b (gcopy (up g a 1 (nI m)) (c + 1) 0 (a + 1) 0 (4 * m)) l ∧ r = none) := by
  refine xT.of rfl (Nat.le_of_ble_eq_true rfl) ?_
  dsimp only [lv_args]
  refine xS.s1 rfl rfl ?_
  try dsimp only [Nat.reduceAdd]
  refine xS.s1 rfl rfl ?_
  try dsimp only [Nat.reduceAdd]
  refine xS.gI rfl (hF.1 _) rfl ⟨by decide, rfl⟩ rfl ?_
  try dsimp only [Nat.reduceAdd]
  rw [hs]
  refine xS.pI rfl (hC.1 _) rfl ⟨⟨by decide, rfl⟩, rfl, by decide, by decide⟩ rfl ?_
  try dsimp only [Nat.reduceAdd]
  refine xS.s1 rfl rfl ?_
  try dsimp only [Nat.reduceAdd]
  refine xS.gI rfl (hC.1 _) rfl ⟨by decide, rfl⟩ rfl ?_
  try dsimp only [Nat.reduceAdd]
  rw [up_same]
  refine xS.br0 (c := .le) (off := 31) (l := 3) rfl rfl (fun h12 => ?_) (fun h12 => ?_)
  · have g12 := xt_le h12
    refine xS.ret rfl rfl rfl (fun _ _ => rfl) ?_
    have e := xn0 g12 (by omega)
    subst e
    exact ⟨by rw [gcopy_0], rfl⟩
  · have g12 := xf_le h12
    refine xS.s1 rfl rfl ?_
    try dsimp only [Nat.reduceAdd]
    refine xS.gI rfl (hC.1 _) rfl ⟨by decide, rfl⟩ rfl ?_
    try dsimp only [Nat.reduceAdd]
    rw [up_same]
    refine xS.s1 rfl rfl ?_
    try dsimp only [Nat.reduceAdd, xj_40]
    refine xS.br (c := .gt) (off := 22) (l := 3) rfl rfl (fun h21 => ?_) (fun h21 => ?_)
    · have g21 := xt_gt h21
      exfalso; simp (disch := omega) only [Int32.lt_iff_toInt_lt, Int32.le_iff_toInt_le, nI_toInt, Int32.reduceToInt] at g21 <;> omega
    · have g21 := xf_gt h21
      refine xS.s1 rfl rfl ?_
      try dsimp only [Nat.reduceAdd]
      refine xS.gR rfl (hF.1 _) rfl ⟨by decide, rfl⟩ rfl ?_
      try dsimp only [Nat.reduceAdd]
      refine xS.s1 rfl rfl ?_
      try dsimp only [Nat.reduceAdd, xi_0]
      refine xS.s1 rfl rfl ?_
      try dsimp only [Nat.reduceAdd]
      refine xS.gR rfl (hC.1 _) rfl ⟨by decide, rfl⟩ rfl ?_
      try dsimp only [Nat.reduceAdd]
      refine xS.s1 rfl rfl ?_
      try dsimp only [Nat.reduceAdd, xi_0]
      refine xS.s1 rfl rfl ?_
      try dsimp only [Nat.reduceAdd, xi_4]
      refine xS.s1 rfl rfl ?_
      try dsimp only [Nat.reduceAdd]
      refine xS.gI rfl (hC.1 _) rfl ⟨by decide, rfl⟩ rfl ?_
      try dsimp only [Nat.reduceAdd]
      rw [up_same]
      refine xS.s1 rfl rfl ?_
      try dsimp only [Nat.reduceAdd]
      rw [show (4 : Int32) * nI m = nI (4 * m) from pk_mul 4 m]
      refine xS.acp (sj := 0) (dj := 0) rfl rfl hF.2 hC.2 (by omega) (by omega) rfl ?_
      try dsimp only [Nat.reduceAdd]
      refine xS.ret rfl rfl rfl (fun _ _ => rfl) ?_
      exact ⟨rfl, rfl⟩

set_option maxRecDepth 10000 in
theorem c_X2_stepAt (hC : xde a) (hs : g a 1 = nI m) (hm : m ≤ 40) (ht : t < m) : xT (k + 2) 36 [.ref a, .int (nI t)] (xH b g l) (fun r M' => M' = xH b g l ∧ r = some (.int (g (a + 1) (4 * t)))) := by
  refine xT.of rfl (Nat.le_of_ble_eq_true rfl) ?_
  dsimp only [lv_args]
  refine xS.s1 rfl rfl ?_
  try dsimp only [Nat.reduceAdd]
  refine xS.s1 rfl rfl ?_
  try dsimp only [Nat.reduceAdd]
  refine xS.s1 rfl rfl ?_
  try dsimp only [Nat.reduceAdd, xi_0]
  -- 3 yX2_fact
  refine xS.cv rfl rfl rfl (hC.1 _) rfl rfl ⟨by decide, rfl, rfl⟩ (c_X2_fact (t := 0) hC hs hm ht (by decide)) (fun v M1 hv => ?_)
  rw [hv.1, hv.2]
  clear hv M1 v
  try dsimp only [Nat.reduceAdd, Option.toList, List.cons_append, List.nil_append, List.drop]
  refine xS.ret rfl rfl rfl (fun _ _ => rfl) ?_
  exact ⟨rfl, rfl⟩

end
end
section
/-! counts, firsts; panes; what a room tells -/
def xcnt (p : Nat → Bool) (n : Nat) : Nat := Nat.rec (motive := fun _ => Nat) 0 (fun j c => bif p j then c + 1 else c) n
theorem xcnt_0 (p : Nat → Bool) : xcnt p 0 = 0 := rfl
theorem xcnt_s (p : Nat → Bool) (n : Nat) : xcnt p (n + 1) = bif p n then xcnt p n + 1 else xcnt p n := rfl
theorem xcnt_le (p : Nat → Bool) : ∀ n, xcnt p n ≤ n
  | 0 => Nat.le_refl 0
  | n + 1 => by
    have := xcnt_le p n
    rw [xcnt_s]
    cases p n <;> simp only [cond_true, cond_false] <;> omega
def xfst (p : Nat → Bool) (n : Nat) : Option Nat := Nat.rec (motive := fun _ => Option Nat) none (fun j o => match o with
  | some d => some d
  | none => bif p j then some j else none) n
theorem xfst_0 (p : Nat → Bool) : xfst p 0 = none := rfl
theorem xfst_s (p : Nat → Bool) (n : Nat) : xfst p (n + 1) = (match xfst p n with
  | some d => some d
  | none => bif p n then some n else none) := rfl
theorem xfst_n {p : Nat → Bool} {n : Nat} (h : xfst p n = none) (hp : p n = false) : xfst p (n + 1) = none := by
  rw [xfst_s, h, hp]
  rfl
theorem xfst_up {p : Nat → Bool} {j d : Nat} (h : xfst p j = some d) : ∀ t, xfst p (j + t) = some d
  | 0 => h
  | t + 1 => by
    show xfst p (j + t + 1) = _
    rw [xfst_s, xfst_up h t]
theorem xfst_at {p : Nat → Bool} {j m : Nat} (h : xfst p j = none) (hp : p j = true) (hm : j < m) : xfst p m = some j := by
  have h1 : xfst p (j + 1) = some j := by
    rw [xfst_s, h, hp]
    rfl
  have h2 := xfst_up h1 (m - (j + 1))
  rwa [show j + 1 + (m - (j + 1)) = m by omega] at h2
def xfI (o : Option Nat) : Int32 := match o with
  | none => -9
  | some d => nI d

section
variable {k a c n n2 m t p s d i1 j1 : Nat} {b : Nat × Nat} {g : Nat → Nat → Int32} {l : Nat → Nat → Int64} {i j x y z v w : Int32} {u w1 w2 : Int64}

set_option maxRecDepth 10000 in
theorem c_X2_howManyBefore (hC : xde a) (hs : g a 1 = nI m) (hm : m ≤ 40) : xT (k + 2) 32 [.ref a, .int x] (xH b g l) (fun r M' => M' = xH b g l ∧ r = some (.int (nI (xcnt (fun d => decide (g (a + 1) (4 * d + 1) = x)) m)))) := by
  refine xT.of rfl (Nat.le_of_ble_eq_true rfl) ?_
  dsimp only [lv_args]
  refine xS.s1 rfl rfl ?_
  try dsimp only [Nat.reduceAdd, xi_0]
  refine xS.s1 rfl rfl ?_
  try dsimp only [Nat.reduceAdd]
  refine xS.s1 rfl rfl ?_
  try dsimp only [Nat.reduceAdd, xi_0]
  refine xS.s1 rfl rfl ?_
  try dsimp only [Nat.reduceAdd]
  refine xS.pick [0, 1, 2, 3] rfl ?_
  refine xS.loop (σ := Unit) (m) (fun j S => [(3, .int (nI j)), (2, .int (nI (xcnt (fun d => decide (g (a + 1) (4 * d + 1) = x)) j))), (0, .ref a), (1, .int x)]) (fun _ _ => xH b g l) (fun _ _ => True) (()) (rfl) (rfl) (trivial) ?_
  intro j S hj hI ih
  try dsimp only
  refine xS.s1 rfl rfl ?_
  try dsimp only [Nat.reduceAdd]
  refine xS.s1 rfl rfl ?_
  try dsimp only [Nat.reduceAdd]
  refine xS.gI rfl (hC.1 _) rfl ⟨by decide, rfl⟩ rfl ?_
  try dsimp only [Nat.reduceAdd]
  refine xS.br (c := .ge) (off := 22) (l := 3) rfl rfl (fun h9 => ?_) (fun h9 => ?_)
  · have g9 := xt_ge h9
    refine xS.s1 rfl rfl ?_
    try dsimp only [Nat.reduceAdd]
    refine xS.ret rfl rfl rfl (fun _ _ => rfl) ?_
    rw [hs] at g9
    have e := xnle g9 (by omega) (by omega)
    rw [show m = j by omega]
    exact ⟨rfl, rfl⟩
  · have g9 := xf_ge h9
    rw [hs] at g9
    have hlt := xnlt g9 (by omega) (by omega)
    refine xS.s1 rfl rfl ?_
    try dsimp only [Nat.reduceAdd]
    refine xS.s1 rfl rfl ?_
    try dsimp only [Nat.reduceAdd]
    refine xS.s1 rfl rfl ?_
    try dsimp only [Nat.reduceAdd, xi_1]
    -- 15 yX2_fact
    refine xS.cv rfl rfl rfl (hC.1 _) rfl rfl ⟨by decide, rfl, rfl⟩ (c_X2_fact (t := 1) hC hs hm hlt (by decide)) (fun v M1 hv => ?_)
    rw [hv.1, hv.2]
    clear hv M1 v
    try dsimp only [Nat.reduceAdd, Option.toList, List.cons_append, List.nil_append, List.drop]
    refine xS.s1 rfl rfl ?_
    try dsimp only [Nat.reduceAdd]
    refine xS.br (c := .ne) (off := 6) (l := 3) rfl rfl (fun h19 => ?_) (fun h19 => ?_)
    · have g19 := xt_ne h19
      refine xS.s1 rfl rfl ?_
      try dsimp only [Nat.reduceAdd, xi_1]
      rw [nI_1]
      refine xS.s1 rfl rfl ?_
      try dsimp only [Nat.reduceAdd]
      refine xS.pick [0, 1, 2, 3] rfl ?_
      have ih2 := ih () (by omega) trivial
      first | (rw [show xcnt (fun d => decide (g (a + 1) (4 * d + 1) = x)) (j + 1) = xcnt (fun d => decide (g (a + 1) (4 * d + 1) = x)) j from by simp [xcnt_s, g9, g19]] at ih2; exact ih2) | (rw [show xcnt (fun d => decide (g (a + 1) (4 * d + 1) = x)) (j + 1) = xcnt (fun d => decide (g (a + 1) (4 * d + 1) = x)) j + 1 from by simp [xcnt_s, g9, g19]] at ih2; exact ih2)
    · have g19 := xf_ne h19
      refine xS.s1 rfl rfl ?_
      try dsimp only [Nat.reduceAdd, xi_1]
      rw [nI_1]
      refine xS.s1 rfl rfl ?_
      try dsimp only [Nat.reduceAdd, xi_1]
      rw [nI_1]
      refine xS.s1 rfl rfl ?_
      try dsimp only [Nat.reduceAdd]
      refine xS.pick [0, 1, 2, 3] rfl ?_
      have ih2 := ih () (by omega) trivial
      first | (rw [show xcnt (fun d => decide (g (a + 1) (4 * d + 1) = x)) (j + 1) = xcnt (fun d => decide (g (a + 1) (4 * d + 1) = x)) j from by simp [xcnt_s, g9, g19]] at ih2; exact ih2) | (rw [show xcnt (fun d => decide (g (a + 1) (4 * d + 1) = x)) (j + 1) = xcnt (fun d => decide (g (a + 1) (4 * d + 1) = x)) j + 1 from by simp [xcnt_s, g9, g19]] at ih2; exact ih2)

set_option maxRecDepth 10000 in
theorem c_X2_howManyBrokeBefore (hC : xde a) (hs : g a 1 = nI m) (hm : m ≤ 40) : xT (k + 2) 33 [.ref a, .int x] (xH b g l) (fun r M' => M' = xH b g l ∧ r = some (.int (nI (xcnt (fun d => decide (g (a + 1) (4 * d + 1) = x) && !decide (g (a + 1) (4 * d + 3) = -9)) m)))) := by
  refine xT.of rfl (Nat.le_of_ble_eq_true rfl) ?_
  dsimp only [lv_args]
  refine xS.s1 rfl rfl ?_
  try dsimp only [Nat.reduceAdd, xi_0]
  refine xS.s1 rfl rfl ?_
  try dsimp only [Nat.reduceAdd]
  refine xS.s1 rfl rfl ?_
  try dsimp only [Nat.reduceAdd, xi_0]
  refine xS.s1 rfl rfl ?_
  try dsimp only [Nat.reduceAdd]
  refine xS.pick [0, 1, 2, 3] rfl ?_
  refine xS.loop (σ := Unit) (m) (fun j S => [(3, .int (nI j)), (2, .int (nI (xcnt (fun d => decide (g (a + 1) (4 * d + 1) = x) && !decide (g (a + 1) (4 * d + 3) = -9)) j))), (0, .ref a), (1, .int x)]) (fun _ _ => xH b g l) (fun _ _ => True) (()) (rfl) (rfl) (trivial) ?_
  intro j S hj hI ih
  try dsimp only
  refine xS.s1 rfl rfl ?_
  try dsimp only [Nat.reduceAdd]
  refine xS.s1 rfl rfl ?_
  try dsimp only [Nat.reduceAdd]
  refine xS.gI rfl (hC.1 _) rfl ⟨by decide, rfl⟩ rfl ?_
  try dsimp only [Nat.reduceAdd]
  refine xS.br (c := .ge) (off := 33) (l := 3) rfl rfl (fun h9 => ?_) (fun h9 => ?_)
  · have g9 := xt_ge h9
    refine xS.s1 rfl rfl ?_
    try dsimp only [Nat.reduceAdd]
    refine xS.ret rfl rfl rfl (fun _ _ => rfl) ?_
    rw [hs] at g9
    have e := xnle g9 (by omega) (by omega)
    rw [show m = j by omega]
    exact ⟨rfl, rfl⟩
  · have g9 := xf_ge h9
    rw [hs] at g9
    have hlt := xnlt g9 (by omega) (by omega)
    refine xS.s1 rfl rfl ?_
    try dsimp only [Nat.reduceAdd]
    refine xS.s1 rfl rfl ?_
    try dsimp only [Nat.reduceAdd]
    refine xS.s1 rfl rfl ?_
    try dsimp only [Nat.reduceAdd, xi_1]
    -- 15 yX2_fact
    refine xS.cv rfl rfl rfl (hC.1 _) rfl rfl ⟨by decide, rfl, rfl⟩ (c_X2_fact (t := 1) hC hs hm hlt (by decide)) (fun v M1 hv => ?_)
    rw [hv.1, hv.2]
    clear hv M1 v
    try dsimp only [Nat.reduceAdd, Option.toList, List.cons_append, List.nil_append, List.drop]
    refine xS.s1 rfl rfl ?_
    try dsimp only [Nat.reduceAdd]
    refine xS.br (c := .ne) (off := 17) (l := 3) rfl rfl (fun h19 => ?_) (fun h19 => ?_)
    · have g19 := xt_ne h19
      refine xS.s1 rfl rfl ?_
      try dsimp only [Nat.reduceAdd, xi_1]
      rw [nI_1]
      refine xS.s1 rfl rfl ?_
      try dsimp only [Nat.reduceAdd]
      refine xS.pick [0, 1, 2, 3] rfl ?_
      have ih2 := ih () (by omega) trivial
      first | (rw [show xcnt (fun d => decide (g (a + 1) (4 * d + 1) = x) && !decide (g (a + 1) (4 * d + 3) = -9)) (j + 1) = xcnt (fun d => decide (g (a + 1) (4 * d + 1) = x) && !decide (g (a + 1) (4 * d + 3) = -9)) j from by simp [xcnt_s, g9, g19]] at ih2; exact ih2) | (rw [show xcnt (fun d => decide (g (a + 1) (4 * d + 1) = x) && !decide (g (a + 1) (4 * d + 3) = -9)) (j + 1) = xcnt (fun d => decide (g (a + 1) (4 * d + 1) = x) && !decide (g (a + 1) (4 * d + 3) = -9)) j + 1 from by simp [xcnt_s, g9, g19]] at ih2; exact ih2)
    · have g19 := xf_ne h19
      refine xS.s1 rfl rfl ?_
      try dsimp only [Nat.reduceAdd]
      refine xS.s1 rfl rfl ?_
      try dsimp only [Nat.reduceAdd]
      refine xS.s1 rfl rfl ?_
      try dsimp only [Nat.reduceAdd, xi_3]
      -- 25 yX2_fact
      refine xS.cv rfl rfl rfl (hC.1 _) rfl rfl ⟨by decide, rfl, rfl⟩ (c_X2_fact (t := 3) hC hs hm hlt (by decide)) (fun v M1 hv => ?_)
      rw [hv.1, hv.2]
      clear hv M1 v
      try dsimp only [Nat.reduceAdd, Option.toList, List.cons_append, List.nil_append, List.drop]
      refine xS.s1 rfl rfl ?_
      try dsimp only [Nat.reduceAdd, xj_m9]
      refine xS.br (c := .eq) (off := 6) (l := 3) rfl rfl (fun h30 => ?_) (fun h30 => ?_)
      · have g30 := xt_eq h30
        refine xS.s1 rfl rfl ?_
        try dsimp only [Nat.reduceAdd, xi_1]
        rw [nI_1]
        refine xS.s1 rfl rfl ?_
        try dsimp only [Nat.reduceAdd]
        refine xS.pick [0, 1, 2, 3] rfl ?_
        have ih2 := ih () (by omega) trivial
        first | (rw [show xcnt (fun d => decide (g (a + 1) (4 * d + 1) = x) && !decide (g (a + 1) (4 * d + 3) = -9)) (j + 1) = xcnt (fun d => decide (g (a + 1) (4 * d + 1) = x) && !decide (g (a + 1) (4 * d + 3) = -9)) j from by simp [xcnt_s, g9, g19, g30]] at ih2; exact ih2) | (rw [show xcnt (fun d => decide (g (a + 1) (4 * d + 1) = x) && !decide (g (a + 1) (4 * d + 3) = -9)) (j + 1) = xcnt (fun d => decide (g (a + 1) (4 * d + 1) = x) && !decide (g (a + 1) (4 * d + 3) = -9)) j + 1 from by simp [xcnt_s, g9, g19, g30]] at ih2; exact ih2)
      · have g30 := xf_eq h30
        refine xS.s1 rfl rfl ?_
        try dsimp only [Nat.reduceAdd, xi_1]
        rw [nI_1]
        refine xS.s1 rfl rfl ?_
        try dsimp only [Nat.reduceAdd, xi_1]
        rw [nI_1]
        refine xS.s1 rfl rfl ?_
        try dsimp only [Nat.reduceAdd]
        refine xS.pick [0, 1, 2, 3] rfl ?_
        have ih2 := ih () (by omega) trivial
        first | (rw [show xcnt (fun d => decide (g (a + 1) (4 * d + 1) = x) && !decide (g (a + 1) (4 * d + 3) = -9)) (j + 1) = xcnt (fun d => decide (g (a + 1) (4 * d + 1) = x) && !decide (g (a + 1) (4 * d + 3) = -9)) j from by simp [xcnt_s, g9, g19, g30]] at ih2; exact ih2) | (rw [show xcnt (fun d => decide (g (a + 1) (4 * d + 1) = x) && !decide (g (a + 1) (4 * d + 3) = -9)) (j + 1) = xcnt (fun d => decide (g (a + 1) (4 * d + 1) = x) && !decide (g (a + 1) (4 * d + 3) = -9)) j + 1 from by simp [xcnt_s, g9, g19, g30]] at ih2; exact ih2)

set_option maxRecDepth 10000 in
theorem c_X2_howManyBroke (hC : xde a) (hs : g a 1 = nI m) (hm : m ≤ 40) (hf : s ≤ m) : xT (k + 2) 34 [.ref a, .int (nI s)] (xH b g l) (fun r M' => M' = xH b g l ∧ r = some (.int (nI (xcnt (fun d => !decide (g (a + 1) (4 * (s + d) + 3) = -9)) (m - s))))) := by
  refine xT.of rfl (Nat.le_of_ble_eq_true rfl) ?_
  dsimp only [lv_args]
  refine xS.s1 rfl rfl ?_
  try dsimp only [Nat.reduceAdd, xi_0]
  refine xS.s1 rfl rfl ?_
  try dsimp only [Nat.reduceAdd]
  refine xS.s1 rfl rfl ?_
  try dsimp only [Nat.reduceAdd]
  refine xS.s1 rfl rfl ?_
  try dsimp only [Nat.reduceAdd]
  refine xS.pick [0, 1, 2] rfl ?_
  refine xS.loop (σ := Unit) (m - s) (fun j S => [(3, .int (nI (s + j))), (2, .int (nI (xcnt (fun d => !decide (g (a + 1) (4 * (s + d) + 3) = -9)) j))), (0, .ref a)]) (fun _ _ => xH b g l) (fun _ _ => True) (()) (rfl) (rfl) (trivial) ?_
  intro j S hj hI ih
  try dsimp only
  refine xS.s1 rfl rfl ?_
  try dsimp only [Nat.reduceAdd]
  refine xS.s1 rfl rfl ?_
  try dsimp only [Nat.reduceAdd]
  refine xS.gI rfl (hC.1 _) rfl ⟨by decide, rfl⟩ rfl ?_
  try dsimp only [Nat.reduceAdd]
  refine xS.br (c := .ge) (off := 23) (l := 3) rfl rfl (fun h9 => ?_) (fun h9 => ?_)
  · have g9 := xt_ge h9
    refine xS.s1 rfl rfl ?_
    try dsimp only [Nat.reduceAdd]
    refine xS.ret rfl rfl rfl (fun _ _ => rfl) ?_
    rw [hs] at g9
    have e := xnle g9 (by omega) (by omega)
    rw [show m - s = j by omega]
    exact ⟨rfl, rfl⟩
  · have g9 := xf_ge h9
    rw [hs] at g9
    have hlt := xnlt g9 (by omega) (by omega)
    refine xS.s1 rfl rfl ?_
    try dsimp only [Nat.reduceAdd]
    refine xS.s1 rfl rfl ?_
    try dsimp only [Nat.reduceAdd]
    refine xS.s1 rfl rfl ?_
    try dsimp only [Nat.reduceAdd, xi_3]
    -- 15 yX2_fact
    refine xS.cv rfl rfl rfl (hC.1 _) rfl rfl ⟨by decide, rfl, rfl⟩ (c_X2_fact (t := 3) hC hs hm hlt (by decide)) (fun v M1 hv => ?_)
    rw [hv.1, hv.2]
    clear hv M1 v
    try dsimp only [Nat.reduceAdd, Option.toList, List.cons_append, List.nil_append, List.drop]
    refine xS.s1 rfl rfl ?_
    try dsimp only [Nat.reduceAdd, xj_m9]
    refine xS.br (c := .eq) (off := 6) (l := 3) rfl rfl (fun h20 => ?_) (fun h20 => ?_)
    · have g20 := xt_eq h20
      refine xS.s1 rfl rfl ?_
      try dsimp only [Nat.reduceAdd, xi_1]
      rw [nI_1]
      refine xS.s1 rfl rfl ?_
      try dsimp only [Nat.reduceAdd]
      refine xS.pick [0, 1, 2] rfl ?_
      have ih2 := ih () (by omega) trivial
      first | (rw [show xcnt (fun d => !decide (g (a + 1) (4 * (s + d) + 3) = -9)) (j + 1) = xcnt (fun d => !decide (g (a + 1) (4 * (s + d) + 3) = -9)) j from by simp [xcnt_s, g9, g20]] at ih2; exact ih2) | (rw [show xcnt (fun d => !decide (g (a + 1) (4 * (s + d) + 3) = -9)) (j + 1) = xcnt (fun d => !decide (g (a + 1) (4 * (s + d) + 3) = -9)) j + 1 from by simp [xcnt_s, g9, g20]] at ih2; exact ih2)
    · have g20 := xf_eq h20
      refine xS.s1 rfl rfl ?_
      try dsimp only [Nat.reduceAdd, xi_1]
      rw [nI_1]
      refine xS.s1 rfl rfl ?_
      try dsimp only [Nat.reduceAdd, xi_1]
      rw [nI_1]
      refine xS.s1 rfl rfl ?_
      try dsimp only [Nat.reduceAdd]
      refine xS.pick [0, 1, 2] rfl ?_
      have ih2 := ih () (by omega) trivial
      first | (rw [show xcnt (fun d => !decide (g (a + 1) (4 * (s + d) + 3) = -9)) (j + 1) = xcnt (fun d => !decide (g (a + 1) (4 * (s + d) + 3) = -9)) j from by simp [xcnt_s, g9, g20]] at ih2; exact ih2) | (rw [show xcnt (fun d => !decide (g (a + 1) (4 * (s + d) + 3) = -9)) (j + 1) = xcnt (fun d => !decide (g (a + 1) (4 * (s + d) + 3) = -9)) j + 1 from by simp [xcnt_s, g9, g20]] at ih2; exact ih2)

set_option maxRecDepth 10000 in
theorem c_X2_firstThatBroke (hC : xde a) (hs : g a 1 = nI m) (hm : m ≤ 40) : xT (k + 2) 35 [.ref a] (xH b g l) (fun r M' => M' = xH b g l ∧ r = some (.int (xfI (xfst (fun d => !decide (g (a + 1) (4 * d + 3) = -9)) m)))) := by
  refine xT.of rfl (Nat.le_of_ble_eq_true rfl) ?_
  dsimp only [lv_args]
  refine xS.s1 rfl rfl ?_
  try dsimp only [Nat.reduceAdd, xi_0]
  refine xS.s1 rfl rfl ?_
  try dsimp only [Nat.reduceAdd]
  refine xS.pick [0, 1] rfl ?_
  refine xS.loop (σ := Unit) (m) (fun j S => [(1, .int (nI j)), (0, .ref a)]) (fun _ _ => xH b g l) (fun j _ => xfst (fun d => !decide (g (a + 1) (4 * d + 3) = -9)) j = none) (()) (rfl) (rfl) (rfl) ?_
  intro j S hj hI ih
  try dsimp only
  refine xS.s1 rfl rfl ?_
  try dsimp only [Nat.reduceAdd]
  refine xS.s1 rfl rfl ?_
  try dsimp only [Nat.reduceAdd]
  refine xS.gI rfl (hC.1 _) rfl ⟨by decide, rfl⟩ rfl ?_
  try dsimp only [Nat.reduceAdd]
  refine xS.br (c := .ge) (off := 22) (l := 3) rfl rfl (fun h7 => ?_) (fun h7 => ?_)
  · have g7 := xt_ge h7
    refine xS.s1 rfl rfl ?_
    try dsimp only [Nat.reduceAdd, xj_m9]
    refine xS.ret rfl rfl rfl (fun _ _ => rfl) ?_
    rw [hs] at g7
    have e := xnle g7 (by omega) (by omega)
    rw [show m = j by omega, hI]
    exact ⟨rfl, rfl⟩
  · have g7 := xf_ge h7
    rw [hs] at g7
    have hlt := xnlt g7 (by omega) (by omega)
    refine xS.s1 rfl rfl ?_
    try dsimp only [Nat.reduceAdd]
    refine xS.s1 rfl rfl ?_
    try dsimp only [Nat.reduceAdd]
    refine xS.s1 rfl rfl ?_
    try dsimp only [Nat.reduceAdd, xi_3]
    -- 13 yX2_fact
    refine xS.cv rfl rfl rfl (hC.1 _) rfl rfl ⟨by decide, rfl, rfl⟩ (c_X2_fact (t := 3) hC hs hm hlt (by decide)) (fun v M1 hv => ?_)
    rw [hv.1, hv.2]
    clear hv M1 v
    try dsimp only [Nat.reduceAdd, Option.toList, List.cons_append, List.nil_append, List.drop]
    refine xS.s1 rfl rfl ?_
    try dsimp only [Nat.reduceAdd, xj_m9]
    refine xS.br (c := .eq) (off := 5) (l := 3) rfl rfl (fun h18 => ?_) (fun h18 => ?_)
    · have g18 := xt_eq h18
      refine xS.s1 rfl rfl ?_
      try dsimp only [Nat.reduceAdd, xi_1]
      rw [nI_1]
      refine xS.s1 rfl rfl ?_
      try dsimp only [Nat.reduceAdd]
      refine xS.pick [0, 1] rfl ?_
      exact ih () (by omega) (xfst_n hI (by simp [g18]))
    · have g18 := xf_eq h18
      refine xS.s1 rfl rfl ?_
      try dsimp only [Nat.reduceAdd]
      refine xS.ret rfl rfl rfl (fun _ _ => rfl) ?_
      rw [xfst_at hI (by simp [g18]) hlt]
      exact ⟨rfl, rfl⟩

def xsrc (κ δ i : Nat) : Option Nat := if κ = 1 then (if i < δ then none else some (i - δ)) else if κ = 4 then (if i % 3 = 2 then none else if i < δ then none else some (i - δ)) else if κ = 2 then (if i % 2 = 1 then none else some i) else some i
def xoI (o : Option Nat) : Int32 := match o with
  | none => -1
  | some d => nI d
def xth (κ i : Nat) : Bool := decide (κ = 3) || (decide (κ = 5) && decide (i % 2 = 1))
def xmir (x : Int32) : Int32 := if x = 1 ∨ x = 2 then 3 - x else x
def xseen (h : Nat → Int32) (κ i s : Nat) : Int32 := xmir (bif xth κ i then h s else nI s)
def xshw (h : Nat → Int32) (κ δ : Nat) (f : Nat → Nat) (i : Nat) : Int32 := match xsrc κ δ i with
  | none => 0
  | some s => xseen h κ i (f s)
def xpn (g : Nat → Nat → Int32) : Prop := ∀ L, L < 24 → g (43 + L) 0 = nI (L / 4) ∧ g (43 + L) 1 = nI (L % 4)
theorem xpsh : ∀ {L : Nat}, L < 24 → (L / 4 = 0 ∧ xob (43 + L) 6 [.int 0, .int 0]) ∨ (L / 4 = 1 ∧ xob (43 + L) 4 [.int 0, .int 0]) ∨ (L / 4 = 2 ∧ xob (43 + L) 8 [.int 0, .int 0]) ∨ (L / 4 = 3 ∧ xob (43 + L) 9 [.int 0, .int 0]) ∨ (L / 4 = 4 ∧ xob (43 + L) 5 [.int 0, .int 0]) ∨ (L / 4 = 5 ∧ xob (43 + L) 3 [.int 0, .int 0])
  | 0, _ | 1, _ | 2, _ | 3, _ => Or.inl ⟨rfl, fun _ => rfl⟩
  | 4, _ | 5, _ | 6, _ | 7, _ => Or.inr (Or.inl ⟨rfl, fun _ => rfl⟩)
  | 8, _ | 9, _ | 10, _ | 11, _ => Or.inr (Or.inr (Or.inl ⟨rfl, fun _ => rfl⟩))
  | 12, _ | 13, _ | 14, _ | 15, _ => Or.inr (Or.inr (Or.inr (Or.inl ⟨rfl, fun _ => rfl⟩)))
  | 16, _ | 17, _ | 18, _ | 19, _ => Or.inr (Or.inr (Or.inr (Or.inr (Or.inl ⟨rfl, fun _ => rfl⟩))))
  | 20, _ | 21, _ | 22, _ | 23, _ => Or.inr (Or.inr (Or.inr (Or.inr (Or.inr ⟨rfl, fun _ => rfl⟩))))
  | _ + 24, h => absurd h (by omega)
theorem xand1 {t : Nat} (h : t < 2 ^ 32) : nI t &&& 1 = nI (t % 2) := pk_andN h 1 rfl

set_option maxRecDepth 10000 in
theorem c_X7_kind_3 (hC : xob a 3 [.int 0, .int 0]) : xT (k + 1) 48 [.ref a] (xH b g l) (fun r M' => M' = xH b g l ∧ r = some (.int (g a 0))) := by
  refine xT.of rfl (Nat.le_of_ble_eq_true rfl) ?_
  dsimp only [lv_args]
  refine xS.s1 rfl rfl ?_
  try dsimp only [Nat.reduceAdd]
  refine xS.gI rfl (hC _) rfl ⟨by decide, rfl⟩ rfl ?_
  try dsimp only [Nat.reduceAdd]
  refine xS.ret rfl rfl rfl (fun _ _ => rfl) ?_
  exact ⟨rfl, rfl⟩

set_option maxRecDepth 10000 in
theorem c_X7_delay_3 (hC : xob a 3 [.int 0, .int 0]) : xT (k + 1) 49 [.ref a] (xH b g l) (fun r M' => M' = xH b g l ∧ r = some (.int (g a 1))) := by
  refine xT.of rfl (Nat.le_of_ble_eq_true rfl) ?_
  dsimp only [lv_args]
  refine xS.s1 rfl rfl ?_
  try dsimp only [Nat.reduceAdd]
  refine xS.gI rfl (hC _) rfl ⟨by decide, rfl⟩ rfl ?_
  try dsimp only [Nat.reduceAdd]
  refine xS.ret rfl rfl rfl (fun _ _ => rfl) ?_
  exact ⟨rfl, rfl⟩

set_option maxRecDepth 10000 in
theorem c_X7_isOf_3 (hC : xob a 3 [.int 0, .int 0]) : xT (k + 1) 50 [.ref a, .int x] (xH b g l) (fun r M' => M' = xH b g l ∧ r = some (.int (if x = g a 0 ∨ x = 0 then 1 else 0))) := by
  refine xT.of rfl (Nat.le_of_ble_eq_true rfl) ?_
  dsimp only [lv_args]
  refine xS.s1 rfl rfl ?_
  try dsimp only [Nat.reduceAdd]
  refine xS.s1 rfl rfl ?_
  try dsimp only [Nat.reduceAdd]
  refine xS.gI rfl (hC _) rfl ⟨by decide, rfl⟩ rfl ?_
  try dsimp only [Nat.reduceAdd]
  refine xS.br (c := .eq) (off := 7) (l := 3) rfl rfl (fun h5 => ?_) (fun h5 => ?_)
  · have g5 := xt_eq h5
    refine xS.s1 rfl rfl ?_
    try dsimp only [Nat.reduceAdd, xi_1]
    refine xS.s1 rfl rfl ?_
    try dsimp only [Nat.reduceAdd]
    refine xS.ret rfl rfl rfl (fun _ _ => rfl) ?_
    exact ⟨rfl, by split <;> first | rfl | (exfalso; simp_all)⟩
  · have g5 := xf_eq h5
    refine xS.s1 rfl rfl ?_
    try dsimp only [Nat.reduceAdd]
    refine xS.br0 (c := .ne) (off := 7) (l := 3) rfl rfl (fun h9 => ?_) (fun h9 => ?_)
    · have g9 := xt_ne h9
      refine xS.s1 rfl rfl ?_
      try dsimp only [Nat.reduceAdd, xi_0]
      refine xS.ret rfl rfl rfl (fun _ _ => rfl) ?_
      exact ⟨rfl, by split <;> first | rfl | (exfalso; simp_all)⟩
    · have g9 := xf_ne h9
      refine xS.s1 rfl rfl ?_
      try dsimp only [Nat.reduceAdd, xi_1]
      refine xS.s1 rfl rfl ?_
      try dsimp only [Nat.reduceAdd]
      refine xS.ret rfl rfl rfl (fun _ _ => rfl) ?_
      exact ⟨rfl, by split <;> first | rfl | (exfalso; simp_all)⟩

set_option maxRecDepth 10000 in
theorem c_X7_kind_4 (hC : xob a 4 [.int 0, .int 0]) : xT (k + 1) 48 [.ref a] (xH b g l) (fun r M' => M' = xH b g l ∧ r = some (.int (g a 0))) := by
  refine xT.of rfl (Nat.le_of_ble_eq_true rfl) ?_
  dsimp only [lv_args]
  refine xS.s1 rfl rfl ?_
  try dsimp only [Nat.reduceAdd]
  refine xS.gI rfl (hC _) rfl ⟨by decide, rfl⟩ rfl ?_
  try dsimp only [Nat.reduceAdd]
  refine xS.ret rfl rfl rfl (fun _ _ => rfl) ?_
  exact ⟨rfl, rfl⟩

set_option maxRecDepth 10000 in
theorem c_X7_delay_4 (hC : xob a 4 [.int 0, .int 0]) : xT (k + 1) 49 [.ref a] (xH b g l) (fun r M' => M' = xH b g l ∧ r = some (.int (g a 1))) := by
  refine xT.of rfl (Nat.le_of_ble_eq_true rfl) ?_
  dsimp only [lv_args]
  refine xS.s1 rfl rfl ?_
  try dsimp only [Nat.reduceAdd]
  refine xS.gI rfl (hC _) rfl ⟨by decide, rfl⟩ rfl ?_
  try dsimp only [Nat.reduceAdd]
  refine xS.ret rfl rfl rfl (fun _ _ => rfl) ?_
  exact ⟨rfl, rfl⟩

set_option maxRecDepth 10000 in
theorem c_X7_isOf_4 (hC : xob a 4 [.int 0, .int 0]) : xT (k + 1) 50 [.ref a, .int x] (xH b g l) (fun r M' => M' = xH b g l ∧ r = some (.int (if x = g a 0 ∨ x = 0 then 1 else 0))) := by
  refine xT.of rfl (Nat.le_of_ble_eq_true rfl) ?_
  dsimp only [lv_args]
  refine xS.s1 rfl rfl ?_
  try dsimp only [Nat.reduceAdd]
  refine xS.s1 rfl rfl ?_
  try dsimp only [Nat.reduceAdd]
  refine xS.gI rfl (hC _) rfl ⟨by decide, rfl⟩ rfl ?_
  try dsimp only [Nat.reduceAdd]
  refine xS.br (c := .eq) (off := 7) (l := 3) rfl rfl (fun h5 => ?_) (fun h5 => ?_)
  · have g5 := xt_eq h5
    refine xS.s1 rfl rfl ?_
    try dsimp only [Nat.reduceAdd, xi_1]
    refine xS.s1 rfl rfl ?_
    try dsimp only [Nat.reduceAdd]
    refine xS.ret rfl rfl rfl (fun _ _ => rfl) ?_
    exact ⟨rfl, by split <;> first | rfl | (exfalso; simp_all)⟩
  · have g5 := xf_eq h5
    refine xS.s1 rfl rfl ?_
    try dsimp only [Nat.reduceAdd]
    refine xS.br0 (c := .ne) (off := 7) (l := 3) rfl rfl (fun h9 => ?_) (fun h9 => ?_)
    · have g9 := xt_ne h9
      refine xS.s1 rfl rfl ?_
      try dsimp only [Nat.reduceAdd, xi_0]
      refine xS.ret rfl rfl rfl (fun _ _ => rfl) ?_
      exact ⟨rfl, by split <;> first | rfl | (exfalso; simp_all)⟩
    · have g9 := xf_ne h9
      refine xS.s1 rfl rfl ?_
      try dsimp only [Nat.reduceAdd, xi_1]
      refine xS.s1 rfl rfl ?_
      try dsimp only [Nat.reduceAdd]
      refine xS.ret rfl rfl rfl (fun _ _ => rfl) ?_
      exact ⟨rfl, by split <;> first | rfl | (exfalso; simp_all)⟩

set_option maxRecDepth 10000 in
theorem c_X7_kind_5 (hC : xob a 5 [.int 0, .int 0]) : xT (k + 1) 48 [.ref a] (xH b g l) (fun r M' => M' = xH b g l ∧ r = some (.int (g a 0))) := by
  refine xT.of rfl (Nat.le_of_ble_eq_true rfl) ?_
  dsimp only [lv_args]
  refine xS.s1 rfl rfl ?_
  try dsimp only [Nat.reduceAdd]
  refine xS.gI rfl (hC _) rfl ⟨by decide, rfl⟩ rfl ?_
  try dsimp only [Nat.reduceAdd]
  refine xS.ret rfl rfl rfl (fun _ _ => rfl) ?_
  exact ⟨rfl, rfl⟩

set_option maxRecDepth 10000 in
theorem c_X7_delay_5 (hC : xob a 5 [.int 0, .int 0]) : xT (k + 1) 49 [.ref a] (xH b g l) (fun r M' => M' = xH b g l ∧ r = some (.int (g a 1))) := by
  refine xT.of rfl (Nat.le_of_ble_eq_true rfl) ?_
  dsimp only [lv_args]
  refine xS.s1 rfl rfl ?_
  try dsimp only [Nat.reduceAdd]
  refine xS.gI rfl (hC _) rfl ⟨by decide, rfl⟩ rfl ?_
  try dsimp only [Nat.reduceAdd]
  refine xS.ret rfl rfl rfl (fun _ _ => rfl) ?_
  exact ⟨rfl, rfl⟩

set_option maxRecDepth 10000 in
theorem c_X7_isOf_5 (hC : xob a 5 [.int 0, .int 0]) : xT (k + 1) 50 [.ref a, .int x] (xH b g l) (fun r M' => M' = xH b g l ∧ r = some (.int (if x = g a 0 ∨ x = 0 then 1 else 0))) := by
  refine xT.of rfl (Nat.le_of_ble_eq_true rfl) ?_
  dsimp only [lv_args]
  refine xS.s1 rfl rfl ?_
  try dsimp only [Nat.reduceAdd]
  refine xS.s1 rfl rfl ?_
  try dsimp only [Nat.reduceAdd]
  refine xS.gI rfl (hC _) rfl ⟨by decide, rfl⟩ rfl ?_
  try dsimp only [Nat.reduceAdd]
  refine xS.br (c := .eq) (off := 7) (l := 3) rfl rfl (fun h5 => ?_) (fun h5 => ?_)
  · have g5 := xt_eq h5
    refine xS.s1 rfl rfl ?_
    try dsimp only [Nat.reduceAdd, xi_1]
    refine xS.s1 rfl rfl ?_
    try dsimp only [Nat.reduceAdd]
    refine xS.ret rfl rfl rfl (fun _ _ => rfl) ?_
    exact ⟨rfl, by split <;> first | rfl | (exfalso; simp_all)⟩
  · have g5 := xf_eq h5
    refine xS.s1 rfl rfl ?_
    try dsimp only [Nat.reduceAdd]
    refine xS.br0 (c := .ne) (off := 7) (l := 3) rfl rfl (fun h9 => ?_) (fun h9 => ?_)
    · have g9 := xt_ne h9
      refine xS.s1 rfl rfl ?_
      try dsimp only [Nat.reduceAdd, xi_0]
      refine xS.ret rfl rfl rfl (fun _ _ => rfl) ?_
      exact ⟨rfl, by split <;> first | rfl | (exfalso; simp_all)⟩
    · have g9 := xf_ne h9
      refine xS.s1 rfl rfl ?_
      try dsimp only [Nat.reduceAdd, xi_1]
      refine xS.s1 rfl rfl ?_
      try dsimp only [Nat.reduceAdd]
      refine xS.ret rfl rfl rfl (fun _ _ => rfl) ?_
      exact ⟨rfl, by split <;> first | rfl | (exfalso; simp_all)⟩

set_option maxRecDepth 10000 in
theorem c_X7_kind_6 (hC : xob a 6 [.int 0, .int 0]) : xT (k + 1) 48 [.ref a] (xH b g l) (fun r M' => M' = xH b g l ∧ r = some (.int (g a 0))) := by
  refine xT.of rfl (Nat.le_of_ble_eq_true rfl) ?_
  dsimp only [lv_args]
  refine xS.s1 rfl rfl ?_
  try dsimp only [Nat.reduceAdd]
  refine xS.gI rfl (hC _) rfl ⟨by decide, rfl⟩ rfl ?_
  try dsimp only [Nat.reduceAdd]
  refine xS.ret rfl rfl rfl (fun _ _ => rfl) ?_
  exact ⟨rfl, rfl⟩

set_option maxRecDepth 10000 in
theorem c_X7_delay_6 (hC : xob a 6 [.int 0, .int 0]) : xT (k + 1) 49 [.ref a] (xH b g l) (fun r M' => M' = xH b g l ∧ r = some (.int (g a 1))) := by
  refine xT.of rfl (Nat.le_of_ble_eq_true rfl) ?_
  dsimp only [lv_args]
  refine xS.s1 rfl rfl ?_
  try dsimp only [Nat.reduceAdd]
  refine xS.gI rfl (hC _) rfl ⟨by decide, rfl⟩ rfl ?_
  try dsimp only [Nat.reduceAdd]
  refine xS.ret rfl rfl rfl (fun _ _ => rfl) ?_
  exact ⟨rfl, rfl⟩

set_option maxRecDepth 10000 in
theorem c_X7_isOf_6 (hC : xob a 6 [.int 0, .int 0]) : xT (k + 1) 50 [.ref a, .int x] (xH b g l) (fun r M' => M' = xH b g l ∧ r = some (.int (if x = g a 0 ∨ x = 0 then 1 else 0))) := by
  refine xT.of rfl (Nat.le_of_ble_eq_true rfl) ?_
  dsimp only [lv_args]
  refine xS.s1 rfl rfl ?_
  try dsimp only [Nat.reduceAdd]
  refine xS.s1 rfl rfl ?_
  try dsimp only [Nat.reduceAdd]
  refine xS.gI rfl (hC _) rfl ⟨by decide, rfl⟩ rfl ?_
  try dsimp only [Nat.reduceAdd]
  refine xS.br (c := .eq) (off := 7) (l := 3) rfl rfl (fun h5 => ?_) (fun h5 => ?_)
  · have g5 := xt_eq h5
    refine xS.s1 rfl rfl ?_
    try dsimp only [Nat.reduceAdd, xi_1]
    refine xS.s1 rfl rfl ?_
    try dsimp only [Nat.reduceAdd]
    refine xS.ret rfl rfl rfl (fun _ _ => rfl) ?_
    exact ⟨rfl, by split <;> first | rfl | (exfalso; simp_all)⟩
  · have g5 := xf_eq h5
    refine xS.s1 rfl rfl ?_
    try dsimp only [Nat.reduceAdd]
    refine xS.br0 (c := .ne) (off := 7) (l := 3) rfl rfl (fun h9 => ?_) (fun h9 => ?_)
    · have g9 := xt_ne h9
      refine xS.s1 rfl rfl ?_
      try dsimp only [Nat.reduceAdd, xi_0]
      refine xS.ret rfl rfl rfl (fun _ _ => rfl) ?_
      exact ⟨rfl, by split <;> first | rfl | (exfalso; simp_all)⟩
    · have g9 := xf_ne h9
      refine xS.s1 rfl rfl ?_
      try dsimp only [Nat.reduceAdd, xi_1]
      refine xS.s1 rfl rfl ?_
      try dsimp only [Nat.reduceAdd]
      refine xS.ret rfl rfl rfl (fun _ _ => rfl) ?_
      exact ⟨rfl, by split <;> first | rfl | (exfalso; simp_all)⟩

set_option maxRecDepth 10000 in
theorem c_X7_kind_8 (hC : xob a 8 [.int 0, .int 0]) : xT (k + 1) 48 [.ref a] (xH b g l) (fun r M' => M' = xH b g l ∧ r = some (.int (g a 0))) := by
  refine xT.of rfl (Nat.le_of_ble_eq_true rfl) ?_
  dsimp only [lv_args]
  refine xS.s1 rfl rfl ?_
  try dsimp only [Nat.reduceAdd]
  refine xS.gI rfl (hC _) rfl ⟨by decide, rfl⟩ rfl ?_
  try dsimp only [Nat.reduceAdd]
  refine xS.ret rfl rfl rfl (fun _ _ => rfl) ?_
  exact ⟨rfl, rfl⟩

set_option maxRecDepth 10000 in
theorem c_X7_delay_8 (hC : xob a 8 [.int 0, .int 0]) : xT (k + 1) 49 [.ref a] (xH b g l) (fun r M' => M' = xH b g l ∧ r = some (.int (g a 1))) := by
  refine xT.of rfl (Nat.le_of_ble_eq_true rfl) ?_
  dsimp only [lv_args]
  refine xS.s1 rfl rfl ?_
  try dsimp only [Nat.reduceAdd]
  refine xS.gI rfl (hC _) rfl ⟨by decide, rfl⟩ rfl ?_
  try dsimp only [Nat.reduceAdd]
  refine xS.ret rfl rfl rfl (fun _ _ => rfl) ?_
  exact ⟨rfl, rfl⟩

set_option maxRecDepth 10000 in
theorem c_X7_isOf_8 (hC : xob a 8 [.int 0, .int 0]) : xT (k + 1) 50 [.ref a, .int x] (xH b g l) (fun r M' => M' = xH b g l ∧ r = some (.int (if x = g a 0 ∨ x = 0 then 1 else 0))) := by
  refine xT.of rfl (Nat.le_of_ble_eq_true rfl) ?_
  dsimp only [lv_args]
  refine xS.s1 rfl rfl ?_
  try dsimp only [Nat.reduceAdd]
  refine xS.s1 rfl rfl ?_
  try dsimp only [Nat.reduceAdd]
  refine xS.gI rfl (hC _) rfl ⟨by decide, rfl⟩ rfl ?_
  try dsimp only [Nat.reduceAdd]
  refine xS.br (c := .eq) (off := 7) (l := 3) rfl rfl (fun h5 => ?_) (fun h5 => ?_)
  · have g5 := xt_eq h5
    refine xS.s1 rfl rfl ?_
    try dsimp only [Nat.reduceAdd, xi_1]
    refine xS.s1 rfl rfl ?_
    try dsimp only [Nat.reduceAdd]
    refine xS.ret rfl rfl rfl (fun _ _ => rfl) ?_
    exact ⟨rfl, by split <;> first | rfl | (exfalso; simp_all)⟩
  · have g5 := xf_eq h5
    refine xS.s1 rfl rfl ?_
    try dsimp only [Nat.reduceAdd]
    refine xS.br0 (c := .ne) (off := 7) (l := 3) rfl rfl (fun h9 => ?_) (fun h9 => ?_)
    · have g9 := xt_ne h9
      refine xS.s1 rfl rfl ?_
      try dsimp only [Nat.reduceAdd, xi_0]
      refine xS.ret rfl rfl rfl (fun _ _ => rfl) ?_
      exact ⟨rfl, by split <;> first | rfl | (exfalso; simp_all)⟩
    · have g9 := xf_ne h9
      refine xS.s1 rfl rfl ?_
      try dsimp only [Nat.reduceAdd, xi_1]
      refine xS.s1 rfl rfl ?_
      try dsimp only [Nat.reduceAdd]
      refine xS.ret rfl rfl rfl (fun _ _ => rfl) ?_
      exact ⟨rfl, by split <;> first | rfl | (exfalso; simp_all)⟩

set_option maxRecDepth 10000 in
theorem c_X7_kind_9 (hC : xob a 9 [.int 0, .int 0]) : xT (k + 1) 48 [.ref a] (xH b g l) (fun r M' => M' = xH b g l ∧ r = some (.int (g a 0))) := by
  refine xT.of rfl (Nat.le_of_ble_eq_true rfl) ?_
  dsimp only [lv_args]
  refine xS.s1 rfl rfl ?_
  try dsimp only [Nat.reduceAdd]
  refine xS.gI rfl (hC _) rfl ⟨by decide, rfl⟩ rfl ?_
  try dsimp only [Nat.reduceAdd]
  refine xS.ret rfl rfl rfl (fun _ _ => rfl) ?_
  exact ⟨rfl, rfl⟩

set_option maxRecDepth 10000 in
theorem c_X7_delay_9 (hC : xob a 9 [.int 0, .int 0]) : xT (k + 1) 49 [.ref a] (xH b g l) (fun r M' => M' = xH b g l ∧ r = some (.int (g a 1))) := by
  refine xT.of rfl (Nat.le_of_ble_eq_true rfl) ?_
  dsimp only [lv_args]
  refine xS.s1 rfl rfl ?_
  try dsimp only [Nat.reduceAdd]
  refine xS.gI rfl (hC _) rfl ⟨by decide, rfl⟩ rfl ?_
  try dsimp only [Nat.reduceAdd]
  refine xS.ret rfl rfl rfl (fun _ _ => rfl) ?_
  exact ⟨rfl, rfl⟩

set_option maxRecDepth 10000 in
theorem c_X7_isOf_9 (hC : xob a 9 [.int 0, .int 0]) : xT (k + 1) 50 [.ref a, .int x] (xH b g l) (fun r M' => M' = xH b g l ∧ r = some (.int (if x = g a 0 ∨ x = 0 then 1 else 0))) := by
  refine xT.of rfl (Nat.le_of_ble_eq_true rfl) ?_
  dsimp only [lv_args]
  refine xS.s1 rfl rfl ?_
  try dsimp only [Nat.reduceAdd]
  refine xS.s1 rfl rfl ?_
  try dsimp only [Nat.reduceAdd]
  refine xS.gI rfl (hC _) rfl ⟨by decide, rfl⟩ rfl ?_
  try dsimp only [Nat.reduceAdd]
  refine xS.br (c := .eq) (off := 7) (l := 3) rfl rfl (fun h5 => ?_) (fun h5 => ?_)
  · have g5 := xt_eq h5
    refine xS.s1 rfl rfl ?_
    try dsimp only [Nat.reduceAdd, xi_1]
    refine xS.s1 rfl rfl ?_
    try dsimp only [Nat.reduceAdd]
    refine xS.ret rfl rfl rfl (fun _ _ => rfl) ?_
    exact ⟨rfl, by split <;> first | rfl | (exfalso; simp_all)⟩
  · have g5 := xf_eq h5
    refine xS.s1 rfl rfl ?_
    try dsimp only [Nat.reduceAdd]
    refine xS.br0 (c := .ne) (off := 7) (l := 3) rfl rfl (fun h9 => ?_) (fun h9 => ?_)
    · have g9 := xt_ne h9
      refine xS.s1 rfl rfl ?_
      try dsimp only [Nat.reduceAdd, xi_0]
      refine xS.ret rfl rfl rfl (fun _ _ => rfl) ?_
      exact ⟨rfl, by split <;> first | rfl | (exfalso; simp_all)⟩
    · have g9 := xf_ne h9
      refine xS.s1 rfl rfl ?_
      try dsimp only [Nat.reduceAdd, xi_1]
      refine xS.s1 rfl rfl ?_
      try dsimp only [Nat.reduceAdd]
      refine xS.ret rfl rfl rfl (fun _ _ => rfl) ?_
      exact ⟨rfl, by split <;> first | rfl | (exfalso; simp_all)⟩

set_option maxRecDepth 10000 in
theorem c_X7_source  : xT (k + 1) 51 [.ref a, .int x] (xH b g l) (fun r M' => M' = xH b g l ∧ r = some (.int (x))) := by
  refine xT.of rfl (Nat.le_of_ble_eq_true rfl) ?_
  dsimp only [lv_args]
  refine xS.s1 rfl rfl ?_
  try dsimp only [Nat.reduceAdd]
  refine xS.ret rfl rfl rfl (fun _ _ => rfl) ?_
  exact ⟨rfl, rfl⟩

set_option maxRecDepth 10000 in
theorem c_X4_source  : xT (k + 1) 39 [.ref a, .int x] (xH b g l) (fun r M' => M' = xH b g l ∧ r = some (.int (x))) := by
  refine xT.of rfl (Nat.le_of_ble_eq_true rfl) ?_
  dsimp only [lv_args]
  refine xS.s1 rfl rfl ?_
  try dsimp only [Nat.reduceAdd]
  refine xS.ret rfl rfl rfl (fun _ _ => rfl) ?_
  exact ⟨rfl, rfl⟩

set_option maxRecDepth 10000 in
theorem c_X7_thinks  : xT (k + 1) 52 [.ref a, .int x] (xH b g l) (fun r M' => M' = xH b g l ∧ r = some (.int (0))) := by
  refine xT.of rfl (Nat.le_of_ble_eq_true rfl) ?_
  dsimp only [lv_args]
  refine xS.s1 rfl rfl ?_
  try dsimp only [Nat.reduceAdd, xi_0]
  refine xS.ret rfl rfl rfl (fun _ _ => rfl) ?_
  exact ⟨rfl, rfl⟩

set_option maxRecDepth 10000 in
theorem c_X10_thinks  : xT (k + 1) 76 [.ref a, .int x] (xH b g l) (fun r M' => M' = xH b g l ∧ r = some (.int (1))) := by
  refine xT.of rfl (Nat.le_of_ble_eq_true rfl) ?_
  dsimp only [lv_args]
  refine xS.s1 rfl rfl ?_
  try dsimp only [Nat.reduceAdd, xi_1]
  refine xS.ret rfl rfl rfl (fun _ _ => rfl) ?_
  exact ⟨rfl, rfl⟩

theorem xodd {t : Nat} (h : t < 2 ^ 31) : nI t &&& 1 = 1 ↔ t % 2 = 1 := by
  rw [xand1 (by omega)]
  exact nI_eq (a := t % 2) (b := 1) (by omega) (by omega)

set_option maxRecDepth 10000 in
theorem c_X7_isOdd (ht : t < 2 ^ 31) : xT (k + 1) 53 [.int (nI t)] (xH b g l) (fun r M' => M' = xH b g l ∧ r = some (.int (if t % 2 = 1 then 1 else 0))) := by
  refine xT.of rfl (Nat.le_of_ble_eq_true rfl) ?_
  dsimp only [lv_args]
  refine xS.s1 rfl rfl ?_
  try dsimp only [Nat.reduceAdd]
  refine xS.s1 rfl rfl ?_
  try dsimp only [Nat.reduceAdd, xi_1]
  refine xS.s1 rfl rfl ?_
  try dsimp only [Nat.reduceAdd]
  refine xS.s1 rfl rfl ?_
  try dsimp only [Nat.reduceAdd, xi_1]
  refine xS.br (c := .ne) (off := 7) (l := 3) rfl rfl (fun h4 => ?_) (fun h4 => ?_)
  · have g4 := xt_ne h4
    refine xS.s1 rfl rfl ?_
    try dsimp only [Nat.reduceAdd, xi_0]
    refine xS.ret rfl rfl rfl (fun _ _ => rfl) ?_
    rw [xodd ht] at g4
    exact ⟨rfl, by simp [g4]⟩
  · have g4 := xf_ne h4
    refine xS.s1 rfl rfl ?_
    try dsimp only [Nat.reduceAdd, xi_1]
    refine xS.s1 rfl rfl ?_
    try dsimp only [Nat.reduceAdd]
    refine xS.ret rfl rfl rfl (fun _ _ => rfl) ?_
    rw [xodd ht] at g4
    exact ⟨rfl, by simp [g4]⟩

set_option maxRecDepth 10000 in
theorem c_X4_thinks (ht : t < 2 ^ 31) : xT (k + 2) 40 [.ref a, .int (nI t)] (xH b g l) (fun r M' => M' = xH b g l ∧ r = some (.int (if t % 2 = 1 then 1 else 0))) := by
  refine xT.of rfl (Nat.le_of_ble_eq_true rfl) ?_
  dsimp only [lv_args]
  refine xS.s1 rfl rfl ?_
  try dsimp only [Nat.reduceAdd]
  -- 1 yX7_isOdd
  refine xS.callO rfl rfl rfl ⟨Nat.le_of_ble_eq_true rfl, rfl⟩ (c_X7_isOdd ht) (fun v M1 hv => ?_)
  rw [hv.1, hv.2]
  clear hv M1 v
  try dsimp only [Nat.reduceAdd, Option.toList, List.cons_append, List.nil_append, List.drop]
  refine xS.retB rfl rfl ?_
  exact ⟨rfl, rfl⟩

set_option maxRecDepth 10000 in
theorem c_X9_source (ht : t < 2 ^ 31) : xT (k + 2) 73 [.ref a, .int (nI t)] (xH b g l) (fun r M' => M' = xH b g l ∧ r = some (.int (if t % 2 = 1 then -1 else nI t))) := by
  refine xT.of rfl (Nat.le_of_ble_eq_true rfl) ?_
  dsimp only [lv_args]
  refine xS.s1 rfl rfl ?_
  try dsimp only [Nat.reduceAdd]
  -- 1 yX7_isOdd
  refine xS.callO rfl rfl rfl ⟨Nat.le_of_ble_eq_true rfl, rfl⟩ (c_X7_isOdd ht) (fun v M1 hv => ?_)
  rw [hv.1, hv.2]
  clear hv M1 v
  try dsimp only [Nat.reduceAdd, Option.toList, List.cons_append, List.nil_append, List.drop]
  refine xS.br0 (c := .eq) (off := 7) (l := 3) rfl rfl (fun h4 => ?_) (fun h4 => ?_)
  · have g4 := xt_eq h4
    refine xS.s1 rfl rfl ?_
    try dsimp only [Nat.reduceAdd]
    refine xS.ret rfl rfl rfl (fun _ _ => rfl) ?_
    first | (rw [if_neg (xif0 g4)]; exact ⟨rfl, rfl⟩) | (rw [if_pos (xif1 g4)]; exact ⟨rfl, rfl⟩)
  · have g4 := xf_eq h4
    refine xS.s1 rfl rfl ?_
    try dsimp only [Nat.reduceAdd, xi_m1]
    refine xS.s1 rfl rfl ?_
    try dsimp only [Nat.reduceAdd]
    refine xS.ret rfl rfl rfl (fun _ _ => rfl) ?_
    first | (rw [if_neg (xif0 g4)]; exact ⟨rfl, rfl⟩) | (rw [if_pos (xif1 g4)]; exact ⟨rfl, rfl⟩)

theorem xrem3 {t : Nat} (h : t < 2 ^ 31) : nI t - nI t / 3 * 3 = nI (t % 3) := pk_rem (d := 3) h (by omega) (by omega)
theorem xlimp {t : Nat} : (2 : Int32) - nI (t % 3) = 0 ↔ t % 3 = 2 := by
  have h : t % 3 < 3 := Nat.mod_lt _ (by omega)
  generalize t % 3 = u at h
  match u, h with
  | 0, _ => decide
  | 1, _ => decide
  | 2, _ => decide

set_option maxRecDepth 10000 in
theorem c_X6_placesToLimp (ht : t < 2 ^ 31) : xT (k + 1) 46 [.int (nI t)] (xH b g l) (fun r M' => M' = xH b g l ∧ r = some (.int (2 - nI (t % 3)))) := by
  refine xT.of rfl (Nat.le_of_ble_eq_true rfl) ?_
  dsimp only [lv_args]
  refine xS.s1 rfl rfl ?_
  try dsimp only [Nat.reduceAdd, xi_2]
  refine xS.s1 rfl rfl ?_
  try dsimp only [Nat.reduceAdd]
  refine xS.s1 rfl rfl ?_
  try dsimp only [Nat.reduceAdd, xi_3]
  refine xS.s1 rfl rfl ?_
  try dsimp only [Nat.reduceAdd]
  refine xS.s1 rfl rfl ?_
  try dsimp only [Nat.reduceAdd]
  refine xS.ret rfl rfl rfl (fun _ _ => rfl) ?_
  rw [xrem3 ht]
  exact ⟨rfl, rfl⟩

set_option maxRecDepth 10000 in
theorem c_X5_source_4 (hC : xob a 4 [.int 0, .int 0]) (hd : g a 1 = nI d) (hd4 : d < 4) (ht : t < 2 ^ 30) : xT (k + 2) 42 [.ref a, .int (nI t)] (xH b g l) (fun r M' => M' = xH b g l ∧ r = some (.int (xoI (if t < d then none else some (t - d))))) := by
  refine xT.of rfl (Nat.le_of_ble_eq_true rfl) ?_
  dsimp only [lv_args]
  refine xS.s1 rfl rfl ?_
  try dsimp only [Nat.reduceAdd]
  refine xS.s1 rfl rfl ?_
  try dsimp only [Nat.reduceAdd]
  -- 2 yX7_delay
  refine xS.cv rfl rfl rfl (hC _) rfl rfl ⟨by decide, rfl, rfl⟩ (c_X7_delay_4 hC) (fun v M1 hv => ?_)
  rw [hv.1, hv.2]
  clear hv M1 v
  try dsimp only [Nat.reduceAdd, Option.toList, List.cons_append, List.nil_append, List.drop]
  refine xS.br (c := .ge) (off := 7) (l := 3) rfl rfl (fun h5 => ?_) (fun h5 => ?_)
  · have g5 := xt_ge h5
    refine xS.s1 rfl rfl ?_
    try dsimp only [Nat.reduceAdd]
    refine xS.s1 rfl rfl ?_
    try dsimp only [Nat.reduceAdd]
    -- 14 yX7_delay
    refine xS.cv rfl rfl rfl (hC _) rfl rfl ⟨by decide, rfl, rfl⟩ (c_X7_delay_4 hC) (fun v M1 hv => ?_)
    rw [hv.1, hv.2]
    clear hv M1 v
    try dsimp only [Nat.reduceAdd, Option.toList, List.cons_append, List.nil_append, List.drop]
    refine xS.s1 rfl rfl ?_
    try dsimp only [Nat.reduceAdd]
    refine xS.ret rfl rfl rfl (fun _ _ => rfl) ?_
    rw [hd] at g5
    have e := xnle g5 (by omega) (by omega)
    rw [if_neg (by omega), hd, pk_sub e]
    exact ⟨rfl, rfl⟩
  · have g5 := xf_ge h5
    refine xS.s1 rfl rfl ?_
    try dsimp only [Nat.reduceAdd, xi_m1]
    refine xS.s1 rfl rfl ?_
    try dsimp only [Nat.reduceAdd]
    refine xS.ret rfl rfl rfl (fun _ _ => rfl) ?_
    rw [hd] at g5
    have e := xnlt g5 (by omega) (by omega)
    rw [if_pos e]
    exact ⟨rfl, rfl⟩

set_option maxRecDepth 10000 in
theorem c_X5_source_5 (hC : xob a 5 [.int 0, .int 0]) (hd : g a 1 = nI d) (hd4 : d < 4) (ht : t < 2 ^ 30) : xT (k + 2) 42 [.ref a, .int (nI t)] (xH b g l) (fun r M' => M' = xH b g l ∧ r = some (.int (xoI (if t < d then none else some (t - d))))) := by
  refine xT.of rfl (Nat.le_of_ble_eq_true rfl) ?_
  dsimp only [lv_args]
  refine xS.s1 rfl rfl ?_
  try dsimp only [Nat.reduceAdd]
  refine xS.s1 rfl rfl ?_
  try dsimp only [Nat.reduceAdd]
  -- 2 yX7_delay
  refine xS.cv rfl rfl rfl (hC _) rfl rfl ⟨by decide, rfl, rfl⟩ (c_X7_delay_5 hC) (fun v M1 hv => ?_)
  rw [hv.1, hv.2]
  clear hv M1 v
  try dsimp only [Nat.reduceAdd, Option.toList, List.cons_append, List.nil_append, List.drop]
  refine xS.br (c := .ge) (off := 7) (l := 3) rfl rfl (fun h5 => ?_) (fun h5 => ?_)
  · have g5 := xt_ge h5
    refine xS.s1 rfl rfl ?_
    try dsimp only [Nat.reduceAdd]
    refine xS.s1 rfl rfl ?_
    try dsimp only [Nat.reduceAdd]
    -- 14 yX7_delay
    refine xS.cv rfl rfl rfl (hC _) rfl rfl ⟨by decide, rfl, rfl⟩ (c_X7_delay_5 hC) (fun v M1 hv => ?_)
    rw [hv.1, hv.2]
    clear hv M1 v
    try dsimp only [Nat.reduceAdd, Option.toList, List.cons_append, List.nil_append, List.drop]
    refine xS.s1 rfl rfl ?_
    try dsimp only [Nat.reduceAdd]
    refine xS.ret rfl rfl rfl (fun _ _ => rfl) ?_
    rw [hd] at g5
    have e := xnle g5 (by omega) (by omega)
    rw [if_neg (by omega), hd, pk_sub e]
    exact ⟨rfl, rfl⟩
  · have g5 := xf_ge h5
    refine xS.s1 rfl rfl ?_
    try dsimp only [Nat.reduceAdd, xi_m1]
    refine xS.s1 rfl rfl ?_
    try dsimp only [Nat.reduceAdd]
    refine xS.ret rfl rfl rfl (fun _ _ => rfl) ?_
    rw [hd] at g5
    have e := xnlt g5 (by omega) (by omega)
    rw [if_pos e]
    exact ⟨rfl, rfl⟩

set_option maxRecDepth 10000 in
theorem c_X6_source (hC : xob a 5 [.int 0, .int 0]) (hd : g a 1 = nI d) (hd4 : d < 4) (ht : t < 2 ^ 30) : xT (k + 3) 45 [.ref a, .int (nI t)] (xH b g l) (fun r M' => M' = xH b g l ∧ r = some (.int (xoI (if t % 3 = 2 then none else if t < d then none else some (t - d))))) := by
  refine xT.of rfl (Nat.le_of_ble_eq_true rfl) ?_
  dsimp only [lv_args]
  refine xS.s1 rfl rfl ?_
  try dsimp only [Nat.reduceAdd]
  -- 1 yX6_placesToLimp
  refine xS.callS rfl rfl rfl ⟨Nat.le_of_ble_eq_true rfl, rfl⟩ (c_X6_placesToLimp (by omega)) (fun v M1 hv => ?_)
  rw [hv.1, hv.2]
  clear hv M1 v
  try dsimp only [Nat.reduceAdd, Option.toList, List.cons_append, List.nil_append, List.drop]
  refine xS.br0 (c := .ne) (off := 7) (l := 3) rfl rfl (fun h4 => ?_) (fun h4 => ?_)
  · have g4 := xt_ne h4
    refine xS.s1 rfl rfl ?_
    try dsimp only [Nat.reduceAdd]
    refine xS.s1 rfl rfl ?_
    try dsimp only [Nat.reduceAdd]
    -- 13 yX5_source
    refine xS.csup rfl rfl rfl rfl (hC _) ⟨by decide, rfl⟩ (c_X5_source_5 hC hd hd4 ht) (fun v M1 hv => ?_)
    rw [hv.1, hv.2]
    clear hv M1 v
    try dsimp only [Nat.reduceAdd, Option.toList, List.cons_append, List.nil_append, List.drop]
    refine xS.ret rfl rfl rfl (fun _ _ => rfl) ?_
    rw [xlimp] at g4
    simp [g4]
  · have g4 := xf_ne h4
    refine xS.s1 rfl rfl ?_
    try dsimp only [Nat.reduceAdd, xi_m1]
    refine xS.s1 rfl rfl ?_
    try dsimp only [Nat.reduceAdd]
    refine xS.ret rfl rfl rfl (fun _ _ => rfl) ?_
    rw [xlimp] at g4
    simp [g4, xoI]

set_option maxRecDepth 10000 in
theorem c_X5_isOf_4 (hC : xob a 4 [.int 0, .int 0]) : xT (k + 2) 43 [.ref a, .int x] (xH b g l) (fun r M' => M' = xH b g l ∧ r = some (.int (if x = 1 ∨ x = g a 0 ∨ x = 0 then 1 else 0))) := by
  refine xT.of rfl (Nat.le_of_ble_eq_true rfl) ?_
  dsimp only [lv_args]
  refine xS.s1 rfl rfl ?_
  try dsimp only [Nat.reduceAdd]
  refine xS.s1 rfl rfl ?_
  try dsimp only [Nat.reduceAdd, xi_1]
  refine xS.br (c := .eq) (off := 11) (l := 3) rfl rfl (fun h2 => ?_) (fun h2 => ?_)
  · have g2 := xt_eq h2
    refine xS.s1 rfl rfl ?_
    try dsimp only [Nat.reduceAdd, xi_1]
    refine xS.s1 rfl rfl ?_
    try dsimp only [Nat.reduceAdd]
    refine xS.ret rfl rfl rfl (fun _ _ => rfl) ?_
    refine ⟨rfl, ?_⟩
    simp [g2]
  · have g2 := xf_eq h2
    refine xS.s1 rfl rfl ?_
    try dsimp only [Nat.reduceAdd]
    refine xS.s1 rfl rfl ?_
    try dsimp only [Nat.reduceAdd]
    -- 7 yX7_isOf
    refine xS.csup rfl rfl rfl rfl (hC _) ⟨by decide, rfl⟩ (c_X7_isOf_4 hC) (fun v M1 hv => ?_)
    rw [hv.1, hv.2]
    clear hv M1 v
    try dsimp only [Nat.reduceAdd, Option.toList, List.cons_append, List.nil_append, List.drop]
    refine xS.br0 (c := .eq) (off := 7) (l := 3) rfl rfl (fun h10 => ?_) (fun h10 => ?_)
    · have g10 := xt_eq h10
      refine xS.s1 rfl rfl ?_
      try dsimp only [Nat.reduceAdd, xi_0]
      refine xS.ret rfl rfl rfl (fun _ _ => rfl) ?_
      refine ⟨rfl, ?_⟩
      first | (have e := xif0 g10; simp [g2, e]; done) | (have e := xif1 g10; simp [e]; done)
    · have g10 := xf_eq h10
      refine xS.s1 rfl rfl ?_
      try dsimp only [Nat.reduceAdd, xi_1]
      refine xS.s1 rfl rfl ?_
      try dsimp only [Nat.reduceAdd]
      refine xS.ret rfl rfl rfl (fun _ _ => rfl) ?_
      refine ⟨rfl, ?_⟩
      first | (have e := xif0 g10; simp [g2, e]; done) | (have e := xif1 g10; simp [e]; done)

set_option maxRecDepth 10000 in
theorem c_X5_isOf_5 (hC : xob a 5 [.int 0, .int 0]) : xT (k + 2) 43 [.ref a, .int x] (xH b g l) (fun r M' => M' = xH b g l ∧ r = some (.int (if x = 1 ∨ x = g a 0 ∨ x = 0 then 1 else 0))) := by
  refine xT.of rfl (Nat.le_of_ble_eq_true rfl) ?_
  dsimp only [lv_args]
  refine xS.s1 rfl rfl ?_
  try dsimp only [Nat.reduceAdd]
  refine xS.s1 rfl rfl ?_
  try dsimp only [Nat.reduceAdd, xi_1]
  refine xS.br (c := .eq) (off := 11) (l := 3) rfl rfl (fun h2 => ?_) (fun h2 => ?_)
  · have g2 := xt_eq h2
    refine xS.s1 rfl rfl ?_
    try dsimp only [Nat.reduceAdd, xi_1]
    refine xS.s1 rfl rfl ?_
    try dsimp only [Nat.reduceAdd]
    refine xS.ret rfl rfl rfl (fun _ _ => rfl) ?_
    refine ⟨rfl, ?_⟩
    simp [g2]
  · have g2 := xf_eq h2
    refine xS.s1 rfl rfl ?_
    try dsimp only [Nat.reduceAdd]
    refine xS.s1 rfl rfl ?_
    try dsimp only [Nat.reduceAdd]
    -- 7 yX7_isOf
    refine xS.csup rfl rfl rfl rfl (hC _) ⟨by decide, rfl⟩ (c_X7_isOf_5 hC) (fun v M1 hv => ?_)
    rw [hv.1, hv.2]
    clear hv M1 v
    try dsimp only [Nat.reduceAdd, Option.toList, List.cons_append, List.nil_append, List.drop]
    refine xS.br0 (c := .eq) (off := 7) (l := 3) rfl rfl (fun h10 => ?_) (fun h10 => ?_)
    · have g10 := xt_eq h10
      refine xS.s1 rfl rfl ?_
      try dsimp only [Nat.reduceAdd, xi_0]
      refine xS.ret rfl rfl rfl (fun _ _ => rfl) ?_
      refine ⟨rfl, ?_⟩
      first | (have e := xif0 g10; simp [g2, e]; done) | (have e := xif1 g10; simp [e]; done)
    · have g10 := xf_eq h10
      refine xS.s1 rfl rfl ?_
      try dsimp only [Nat.reduceAdd, xi_1]
      refine xS.s1 rfl rfl ?_
      try dsimp only [Nat.reduceAdd]
      refine xS.ret rfl rfl rfl (fun _ _ => rfl) ?_
      refine ⟨rfl, ?_⟩
      first | (have e := xif0 g10; simp [g2, e]; done) | (have e := xif1 g10; simp [e]; done)

set_option maxRecDepth 10000 in
theorem c_X9_isOf_8 (hC : xob a 8 [.int 0, .int 0]) : xT (k + 2) 74 [.ref a, .int x] (xH b g l) (fun r M' => M' = xH b g l ∧ r = some (.int (if x = 2 ∨ x = g a 0 ∨ x = 0 then 1 else 0))) := by
  refine xT.of rfl (Nat.le_of_ble_eq_true rfl) ?_
  dsimp only [lv_args]
  refine xS.s1 rfl rfl ?_
  try dsimp only [Nat.reduceAdd]
  refine xS.s1 rfl rfl ?_
  try dsimp only [Nat.reduceAdd, xi_2]
  refine xS.br (c := .eq) (off := 11) (l := 3) rfl rfl (fun h2 => ?_) (fun h2 => ?_)
  · have g2 := xt_eq h2
    refine xS.s1 rfl rfl ?_
    try dsimp only [Nat.reduceAdd, xi_1]
    refine xS.s1 rfl rfl ?_
    try dsimp only [Nat.reduceAdd]
    refine xS.ret rfl rfl rfl (fun _ _ => rfl) ?_
    refine ⟨rfl, ?_⟩
    simp [g2]
  · have g2 := xf_eq h2
    refine xS.s1 rfl rfl ?_
    try dsimp only [Nat.reduceAdd]
    refine xS.s1 rfl rfl ?_
    try dsimp only [Nat.reduceAdd]
    -- 7 yX7_isOf
    refine xS.csup rfl rfl rfl rfl (hC _) ⟨by decide, rfl⟩ (c_X7_isOf_8 hC) (fun v M1 hv => ?_)
    rw [hv.1, hv.2]
    clear hv M1 v
    try dsimp only [Nat.reduceAdd, Option.toList, List.cons_append, List.nil_append, List.drop]
    refine xS.br0 (c := .eq) (off := 7) (l := 3) rfl rfl (fun h10 => ?_) (fun h10 => ?_)
    · have g10 := xt_eq h10
      refine xS.s1 rfl rfl ?_
      try dsimp only [Nat.reduceAdd, xi_0]
      refine xS.ret rfl rfl rfl (fun _ _ => rfl) ?_
      refine ⟨rfl, ?_⟩
      first | (have e := xif0 g10; simp [g2, e]; done) | (have e := xif1 g10; simp [e]; done)
    · have g10 := xf_eq h10
      refine xS.s1 rfl rfl ?_
      try dsimp only [Nat.reduceAdd, xi_1]
      refine xS.s1 rfl rfl ?_
      try dsimp only [Nat.reduceAdd]
      refine xS.ret rfl rfl rfl (fun _ _ => rfl) ?_
      refine ⟨rfl, ?_⟩
      first | (have e := xif0 g10; simp [g2, e]; done) | (have e := xif1 g10; simp [e]; done)

set_option maxRecDepth 10000 in
theorem c_X9_isOf_3 (hC : xob a 3 [.int 0, .int 0]) : xT (k + 2) 74 [.ref a, .int x] (xH b g l) (fun r M' => M' = xH b g l ∧ r = some (.int (if x = 2 ∨ x = g a 0 ∨ x = 0 then 1 else 0))) := by
  refine xT.of rfl (Nat.le_of_ble_eq_true rfl) ?_
  dsimp only [lv_args]
  refine xS.s1 rfl rfl ?_
  try dsimp only [Nat.reduceAdd]
  refine xS.s1 rfl rfl ?_
  try dsimp only [Nat.reduceAdd, xi_2]
  refine xS.br (c := .eq) (off := 11) (l := 3) rfl rfl (fun h2 => ?_) (fun h2 => ?_)
  · have g2 := xt_eq h2
    refine xS.s1 rfl rfl ?_
    try dsimp only [Nat.reduceAdd, xi_1]
    refine xS.s1 rfl rfl ?_
    try dsimp only [Nat.reduceAdd]
    refine xS.ret rfl rfl rfl (fun _ _ => rfl) ?_
    refine ⟨rfl, ?_⟩
    simp [g2]
  · have g2 := xf_eq h2
    refine xS.s1 rfl rfl ?_
    try dsimp only [Nat.reduceAdd]
    refine xS.s1 rfl rfl ?_
    try dsimp only [Nat.reduceAdd]
    -- 7 yX7_isOf
    refine xS.csup rfl rfl rfl rfl (hC _) ⟨by decide, rfl⟩ (c_X7_isOf_3 hC) (fun v M1 hv => ?_)
    rw [hv.1, hv.2]
    clear hv M1 v
    try dsimp only [Nat.reduceAdd, Option.toList, List.cons_append, List.nil_append, List.drop]
    refine xS.br0 (c := .eq) (off := 7) (l := 3) rfl rfl (fun h10 => ?_) (fun h10 => ?_)
    · have g10 := xt_eq h10
      refine xS.s1 rfl rfl ?_
      try dsimp only [Nat.reduceAdd, xi_0]
      refine xS.ret rfl rfl rfl (fun _ _ => rfl) ?_
      refine ⟨rfl, ?_⟩
      first | (have e := xif0 g10; simp [g2, e]; done) | (have e := xif1 g10; simp [e]; done)
    · have g10 := xf_eq h10
      refine xS.s1 rfl rfl ?_
      try dsimp only [Nat.reduceAdd, xi_1]
      refine xS.s1 rfl rfl ?_
      try dsimp only [Nat.reduceAdd]
      refine xS.ret rfl rfl rfl (fun _ _ => rfl) ?_
      refine ⟨rfl, ?_⟩
      first | (have e := xif0 g10; simp [g2, e]; done) | (have e := xif1 g10; simp [e]; done)

end
end
section
/-! calls of panes; what a room tells -/
def xiso (κ : Nat) (x : Int32) : Bool := decide (x = nI κ) || (decide (x = 0) || ((decide (κ = 4) && decide (x = 1)) || (decide (κ = 5) && decide (x = 2))))
theorem xfst_lt {p : Nat → Bool} : ∀ {n d : Nat}, xfst p n = some d → d < n ∧ p d = true
  | 0, _, h => by cases h
  | n + 1, d, h => by
    rw [xfst_s] at h
    cases e : xfst p n with
    | some d' =>
      rw [e] at h
      cases h
      have := xfst_lt e
      exact ⟨by omega, this.2⟩
    | none =>
      rw [e] at h
      cases hp : p n with
      | true => rw [hp] at h; cases h; exact ⟨by omega, hp⟩
      | false => rw [hp] at h; cases h
theorem xfI_none {o : Option Nat} (h : ∀ d, o = some d → d < 2 ^ 31) : xfI o = -9 ↔ o = none := by
  cases o with
  | none => exact ⟨fun _ => rfl, fun _ => rfl⟩
  | some d =>
    refine ⟨fun e => ?_, fun e => by cases e⟩
    have h1 := nI_toInt (h d rfl)
    have h2 : (nI d).toInt = (-9 : Int32).toInt := by rw [← show xfI (some d) = nI d from rfl, e]
    rw [h1] at h2
    exact absurd h2 (by have : (-9 : Int32).toInt = -9 := rfl; omega)
def xtm (tx : Nat → Int32) (x y : Int32) : Nat → Bool := fun n => decide (tx (2 * n) = x) && decide (tx (2 * n + 1) = y)
def xfb (tx : Nat → Int32) (T : Nat) (x y : Int32) : Option Nat := xfst (xtm tx x y) T
def xbits (p : Nat → Bool) (n : Nat) : Int32 := Nat.rec (motive := fun _ => Int32) 0 (fun j c => bif p j then c ||| (1 <<< (nI j &&& 31)) else c) n
theorem xbits_s (p : Nat → Bool) (n : Nat) : xbits p (n + 1) = bif p n then xbits p n ||| (1 <<< (nI n &&& 31)) else xbits p n := rfl
def xstp (x : Int32) : Prop := ∃ v, v < 6 ∧ x = nI v
def xN (x : Int32) : Nat := x.toNatClampNeg
theorem xN_nI {v : Nat} (h : v < 2 ^ 31) : xN (nI v) = v := nI_clamp h
theorem xstp_N {x : Int32} (h : xstp x) : xN x < 6 ∧ x = nI (xN x) := by
  obtain ⟨v, h1, rfl⟩ := h
  rw [xN_nI (by omega)]
  exact ⟨h1, rfl⟩
section
variable {q : xQ} {k pc l0 idx idx' L i : Nat} {lv : xL} {rest : List Value} {P : Option Value → xM → Prop} {b : Nat × Nat} {g : Nat → Nat → Int32} {l : Nat → Nat → Int64} {x : Int32}
theorem xS.cSrc (hl : xe_lkF q.1 pc = some (.invokevirtual idx, l0)) (hx : xcF q.2.1 idx = some (idx', 3, 1, [(3, 39), (4, 42), (5, 45), (6, 51), (8, 73), (9, 51)])) (hp : xpn g) (hL : L < 24) (hi : i < 2 ^ 30) (hr : xe_sum rest = true) (h : xS q (k + 3) (pc + 3) lv (.int (xoI (xsrc (L / 4) (L % 4) i)) :: rest) (xH b g l) P) : xS q (k + 3) pc lv (.int (nI i) :: .ref (43 + L) :: rest) (xH b g l) P := by
  have hd := (hp L hL).2
  have hd4 : L % 4 < 4 := Nat.mod_lt _ (by omega)
  rcases xpsh hL with ⟨e, hC⟩ | ⟨e, hC⟩ | ⟨e, hC⟩ | ⟨e, hC⟩ | ⟨e, hC⟩ | ⟨e, hC⟩ <;> rw [e] at h
  · refine xS.cv hl hx rfl (hC b) rfl rfl ⟨by decide, rfl, hr⟩ c_X7_source (fun v M1 hv => ?_)
    rw [hv.1, hv.2]
    exact h
  · refine xS.cv hl hx rfl (hC b) rfl rfl ⟨by decide, rfl, hr⟩ (c_X5_source_4 hC hd hd4 hi) (fun v M1 hv => ?_)
    rw [hv.1, hv.2]
    exact h
  · refine xS.cv hl hx rfl (hC b) rfl rfl ⟨by decide, rfl, hr⟩ (c_X9_source (by omega)) (fun v M1 hv => ?_)
    rw [hv.1, hv.2]
    have e2 : xoI (xsrc 2 (L % 4) i) = if i % 2 = 1 then -1 else nI i := by
      unfold xsrc
      by_cases c : i % 2 = 1 <;> simp [c, xoI]
    rw [e2] at h
    exact h
  · refine xS.cv hl hx rfl (hC b) rfl rfl ⟨by decide, rfl, hr⟩ c_X7_source (fun v M1 hv => ?_)
    rw [hv.1, hv.2]
    exact h
  · refine xS.cv hl hx rfl (hC b) rfl rfl ⟨by decide, rfl, hr⟩ (c_X6_source hC hd hd4 hi) (fun v M1 hv => ?_)
    rw [hv.1, hv.2]
    exact h
  · refine xS.cv hl hx rfl (hC b) rfl rfl ⟨by decide, rfl, hr⟩ c_X4_source (fun v M1 hv => ?_)
    rw [hv.1, hv.2]
    exact h
theorem xS.cThk (hl : xe_lkF q.1 pc = some (.invokevirtual idx, l0)) (hx : xcF q.2.1 idx = some (idx', 3, 1, [(3, 40), (4, 52), (5, 52), (6, 52), (8, 52), (9, 76)])) (hL : L < 24) (hi : i < 2 ^ 30) (hr : xe_sum rest = true) (h : xS q (k + 2) (pc + 3) lv (.int (if xth (L / 4) i = true then 1 else 0) :: rest) (xH b g l) P) : xS q (k + 2) pc lv (.int (nI i) :: .ref (43 + L) :: rest) (xH b g l) P := by
  rcases xpsh hL with ⟨e, hC⟩ | ⟨e, hC⟩ | ⟨e, hC⟩ | ⟨e, hC⟩ | ⟨e, hC⟩ | ⟨e, hC⟩ <;> rw [e] at h
  · refine xS.cv hl hx rfl (hC b) rfl rfl ⟨by decide, rfl, hr⟩ c_X7_thinks (fun v M1 hv => ?_)
    rw [hv.1, hv.2]
    exact h
  · refine xS.cv hl hx rfl (hC b) rfl rfl ⟨by decide, rfl, hr⟩ c_X7_thinks (fun v M1 hv => ?_)
    rw [hv.1, hv.2]
    exact h
  · refine xS.cv hl hx rfl (hC b) rfl rfl ⟨by decide, rfl, hr⟩ c_X7_thinks (fun v M1 hv => ?_)
    rw [hv.1, hv.2]
    exact h
  · refine xS.cv hl hx rfl (hC b) rfl rfl ⟨by decide, rfl, hr⟩ c_X10_thinks (fun v M1 hv => ?_)
    rw [hv.1, hv.2]
    exact h
  · refine xS.cv hl hx rfl (hC b) rfl rfl ⟨by decide, rfl, hr⟩ c_X7_thinks (fun v M1 hv => ?_)
    rw [hv.1, hv.2]
    exact h
  · refine xS.cv hl hx rfl (hC b) rfl rfl ⟨by decide, rfl, hr⟩ (c_X4_thinks (by omega)) (fun v M1 hv => ?_)
    rw [hv.1, hv.2]
    have e2 : (if xth 5 i = true then (1 : Int32) else 0) = if i % 2 = 1 then 1 else 0 := by
      unfold xth
      by_cases c : i % 2 = 1 <;> simp [c]
    rw [e2] at h
    exact h
theorem xS.cIso (hl : xe_lkF q.1 pc = some (.invokevirtual idx, l0)) (hx : xcF q.2.1 idx = some (idx', 3, 1, [(3, 74), (4, 43), (5, 43), (6, 50), (8, 74), (9, 50)])) (hp : xpn g) (hL : L < 24) (hr : xe_sum rest = true) (h : xS q (k + 2) (pc + 3) lv (.int (if xiso (L / 4) x = true then 1 else 0) :: rest) (xH b g l) P) : xS q (k + 2) pc lv (.int x :: .ref (43 + L) :: rest) (xH b g l) P := by
  have hd := (hp L hL).1
  rcases xpsh hL with ⟨e, hC⟩ | ⟨e, hC⟩ | ⟨e, hC⟩ | ⟨e, hC⟩ | ⟨e, hC⟩ | ⟨e, hC⟩ <;> rw [e] at h hd
  · refine xS.cv hl hx rfl (hC b) rfl rfl ⟨by decide, rfl, hr⟩ (c_X7_isOf_6 hC) (fun v M1 hv => ?_)
    rw [hv.1, hv.2, hd]
    simp [xiso] at h
    exact h
  · refine xS.cv hl hx rfl (hC b) rfl rfl ⟨by decide, rfl, hr⟩ (c_X5_isOf_4 hC) (fun v M1 hv => ?_)
    rw [hv.1, hv.2, hd]
    have e2 : (if xiso 1 x = true then (1 : Int32) else 0) = if x = 1 ∨ x = nI 1 ∨ x = 0 then 1 else 0 := by
      congr 1
      simp [xiso]
      intro z
      exact Or.inl z
    rw [e2] at h
    exact h
  · refine xS.cv hl hx rfl (hC b) rfl rfl ⟨by decide, rfl, hr⟩ (c_X9_isOf_8 hC) (fun v M1 hv => ?_)
    rw [hv.1, hv.2, hd]
    have e2 : (if xiso 2 x = true then (1 : Int32) else 0) = if x = 2 ∨ x = nI 2 ∨ x = 0 then 1 else 0 := by
      congr 1
      simp [xiso]
      intro z
      exact Or.inl z
    rw [e2] at h
    exact h
  · refine xS.cv hl hx rfl (hC b) rfl rfl ⟨by decide, rfl, hr⟩ (c_X7_isOf_9 hC) (fun v M1 hv => ?_)
    rw [hv.1, hv.2, hd]
    have e2 : (if xiso 3 x = true then (1 : Int32) else 0) = if x = nI 3 ∨ x = 0 then 1 else 0 := by
      congr 1
      simp [xiso]
    rw [e2] at h
    exact h
  · refine xS.cv hl hx rfl (hC b) rfl rfl ⟨by decide, rfl, hr⟩ (c_X5_isOf_5 hC) (fun v M1 hv => ?_)
    rw [hv.1, hv.2, hd]
    have e2 : (if xiso 4 x = true then (1 : Int32) else 0) = if x = 1 ∨ x = nI 4 ∨ x = 0 then 1 else 0 := by
      congr 1
      simp [xiso]
      constructor
      · rintro (z | z | z)
        · exact Or.inr (Or.inl z)
        · exact Or.inr (Or.inr z)
        · exact Or.inl z
      · rintro (z | z | z)
        · exact Or.inr (Or.inr z)
        · exact Or.inl z
        · exact Or.inr (Or.inl z)
    rw [e2] at h
    exact h
  · refine xS.cv hl hx rfl (hC b) rfl rfl ⟨by decide, rfl, hr⟩ (c_X9_isOf_3 hC) (fun v M1 hv => ?_)
    rw [hv.1, hv.2, hd]
    have e2 : (if xiso 5 x = true then (1 : Int32) else 0) = if x = 2 ∨ x = nI 5 ∨ x = 0 then 1 else 0 := by
      congr 1
      simp [xiso]
      constructor
      · rintro (z | z | z)
        · exact Or.inr (Or.inl z)
        · exact Or.inr (Or.inr z)
        · exact Or.inl z
      · rintro (z | z | z)
        · exact Or.inr (Or.inr z)
        · exact Or.inl z
        · exact Or.inr (Or.inl z)
    rw [e2] at h
    exact h
end

theorem xS.cKind {q : xQ} {k pc l0 idx idx' L : Nat} {lv : xL} {rest : List Value} {P : Option Value → xM → Prop} {b : Nat × Nat} {g : Nat → Nat → Int32} {l : Nat → Nat → Int64} (hl : xe_lkF q.1 pc = some (.invokevirtual idx, l0)) (hx : xcF q.2.1 idx = some (idx', 3, 0, [(3, 48), (4, 48), (5, 48), (6, 48), (8, 48), (9, 48)])) (hp : xpn g) (hL : L < 24) (hr : xe_sum rest = true) (h : xS q (k + 1) (pc + 3) lv (.int (nI (L / 4)) :: rest) (xH b g l) P) : xS q (k + 1) pc lv (.ref (43 + L) :: rest) (xH b g l) P := by
  have hd := (hp L hL).1
  rcases xpsh hL with ⟨e, hC⟩ | ⟨e, hC⟩ | ⟨e, hC⟩ | ⟨e, hC⟩ | ⟨e, hC⟩ | ⟨e, hC⟩
  · refine xS.cv hl hx rfl (hC b) rfl rfl ⟨by decide, rfl, hr⟩ (c_X7_kind_6 hC) (fun v M1 hv => ?_)
    rw [hv.1, hv.2, hd]
    exact h
  · refine xS.cv hl hx rfl (hC b) rfl rfl ⟨by decide, rfl, hr⟩ (c_X7_kind_4 hC) (fun v M1 hv => ?_)
    rw [hv.1, hv.2, hd]
    exact h
  · refine xS.cv hl hx rfl (hC b) rfl rfl ⟨by decide, rfl, hr⟩ (c_X7_kind_8 hC) (fun v M1 hv => ?_)
    rw [hv.1, hv.2, hd]
    exact h
  · refine xS.cv hl hx rfl (hC b) rfl rfl ⟨by decide, rfl, hr⟩ (c_X7_kind_9 hC) (fun v M1 hv => ?_)
    rw [hv.1, hv.2, hd]
    exact h
  · refine xS.cv hl hx rfl (hC b) rfl rfl ⟨by decide, rfl, hr⟩ (c_X7_kind_5 hC) (fun v M1 hv => ?_)
    rw [hv.1, hv.2, hd]
    exact h
  · refine xS.cv hl hx rfl (hC b) rfl rfl ⟨by decide, rfl, hr⟩ (c_X7_kind_3 hC) (fun v M1 hv => ?_)
    rw [hv.1, hv.2, hd]
    exact h

theorem xS.cDelay {q : xQ} {k pc l0 idx idx' L : Nat} {lv : xL} {rest : List Value} {P : Option Value → xM → Prop} {b : Nat × Nat} {g : Nat → Nat → Int32} {l : Nat → Nat → Int64} (hl : xe_lkF q.1 pc = some (.invokevirtual idx, l0)) (hx : xcF q.2.1 idx = some (idx', 3, 0, [(3, 49), (4, 49), (5, 49), (6, 49), (8, 49), (9, 49)])) (hp : xpn g) (hL : L < 24) (hr : xe_sum rest = true) (h : xS q (k + 1) (pc + 3) lv (.int (nI (L % 4)) :: rest) (xH b g l) P) : xS q (k + 1) pc lv (.ref (43 + L) :: rest) (xH b g l) P := by
  have hd := (hp L hL).2
  rcases xpsh hL with ⟨e, hC⟩ | ⟨e, hC⟩ | ⟨e, hC⟩ | ⟨e, hC⟩ | ⟨e, hC⟩ | ⟨e, hC⟩
  · refine xS.cv hl hx rfl (hC b) rfl rfl ⟨by decide, rfl, hr⟩ (c_X7_delay_6 hC) (fun v M1 hv => ?_)
    rw [hv.1, hv.2, hd]
    exact h
  · refine xS.cv hl hx rfl (hC b) rfl rfl ⟨by decide, rfl, hr⟩ (c_X7_delay_4 hC) (fun v M1 hv => ?_)
    rw [hv.1, hv.2, hd]
    exact h
  · refine xS.cv hl hx rfl (hC b) rfl rfl ⟨by decide, rfl, hr⟩ (c_X7_delay_8 hC) (fun v M1 hv => ?_)
    rw [hv.1, hv.2, hd]
    exact h
  · refine xS.cv hl hx rfl (hC b) rfl rfl ⟨by decide, rfl, hr⟩ (c_X7_delay_9 hC) (fun v M1 hv => ?_)
    rw [hv.1, hv.2, hd]
    exact h
  · refine xS.cv hl hx rfl (hC b) rfl rfl ⟨by decide, rfl, hr⟩ (c_X7_delay_5 hC) (fun v M1 hv => ?_)
    rw [hv.1, hv.2, hd]
    exact h
  · refine xS.cv hl hx rfl (hC b) rfl rfl ⟨by decide, rfl, hr⟩ (c_X7_delay_3 hC) (fun v M1 hv => ?_)
    rw [hv.1, hv.2, hd]
    exact h

section
variable {k a c n n2 m t p s d i1 j1 : Nat} {b : Nat × Nat} {g : Nat → Nat → Int32} {l : Nat → Nat → Int64} {i j x y z v w : Int32} {u w1 w2 : Int64}
variable {L : Nat}
set_option maxRecDepth 10000 in
theorem c_X11_isStep  : xT (k + 1) 126 [.int x] (xH b g l) (fun r M' => M' = xH b g l ∧ r = some (.int (if 0 ≤ x ∧ x < 6 then 1 else 0))) := by
  refine xT.of rfl (Nat.le_of_ble_eq_true rfl) ?_
  dsimp only [lv_args]
  refine xS.s1 rfl rfl ?_
  try dsimp only [Nat.reduceAdd]
  refine xS.br0 (c := .lt) (off := 13) (l := 3) rfl rfl (fun h1 => ?_) (fun h1 => ?_)
  · have g1 := xt_lt h1
    refine xS.s1 rfl rfl ?_
    try dsimp only [Nat.reduceAdd, xi_0]
    refine xS.ret rfl rfl rfl (fun _ _ => rfl) ?_
    exact ⟨rfl, by split <;> first | rfl | (exfalso; simp only [Int32.le_iff_toInt_le, Int32.lt_iff_toInt_lt, Int32.reduceToInt] at *; omega)⟩
  · have g1 := xf_lt h1
    refine xS.s1 rfl rfl ?_
    try dsimp only [Nat.reduceAdd]
    refine xS.s1 rfl rfl ?_
    try dsimp only [Nat.reduceAdd, xj_6]
    refine xS.br (c := .ge) (off := 7) (l := 3) rfl rfl (fun h7 => ?_) (fun h7 => ?_)
    · have g7 := xt_ge h7
      refine xS.s1 rfl rfl ?_
      try dsimp only [Nat.reduceAdd, xi_0]
      refine xS.ret rfl rfl rfl (fun _ _ => rfl) ?_
      exact ⟨rfl, by split <;> first | rfl | (exfalso; simp only [Int32.le_iff_toInt_le, Int32.lt_iff_toInt_lt, Int32.reduceToInt] at *; omega)⟩
    · have g7 := xf_ge h7
      refine xS.s1 rfl rfl ?_
      try dsimp only [Nat.reduceAdd, xi_1]
      refine xS.s1 rfl rfl ?_
      try dsimp only [Nat.reduceAdd]
      refine xS.ret rfl rfl rfl (fun _ _ => rfl) ?_
      exact ⟨rfl, by split <;> first | rfl | (exfalso; simp only [Int32.le_iff_toInt_le, Int32.lt_iff_toInt_lt, Int32.reduceToInt] at *; omega)⟩

theorem c_X11_isStep_in (ht : t < 6) : xT (k + 1) 126 [.int (nI t)] (xH b g l) (fun r M' => M' = xH b g l ∧ r = some (.int 1)) := by
  refine (c_X11_isStep).weak (fun r M' h => ⟨h.1, ?_⟩)
  rw [h.2, if_pos ⟨nI_pos' (by omega), nI_lt (b := 6) ht (by omega)⟩]

set_option maxRecDepth 10000 in
theorem c_X8_glasses (hC : xro a) : xT (k + 1) 55 [.ref a] (xH b g l) (fun r M' => M' = xH b g l ∧ r = some (.int (g a 2))) := by
  refine xT.of rfl (Nat.le_of_ble_eq_true rfl) ?_
  dsimp only [lv_args]
  refine xS.s1 rfl rfl ?_
  try dsimp only [Nat.reduceAdd]
  refine xS.gI rfl (hC.1 _) rfl ⟨by decide, rfl⟩ rfl ?_
  try dsimp only [Nat.reduceAdd]
  refine xS.ret rfl rfl rfl (fun _ _ => rfl) ?_
  exact ⟨rfl, rfl⟩

set_option maxRecDepth 10000 in
theorem c_X8_terms (hC : xro a) : xT (k + 1) 56 [.ref a] (xH b g l) (fun r M' => M' = xH b g l ∧ r = some (.int (g a 4))) := by
  refine xT.of rfl (Nat.le_of_ble_eq_true rfl) ?_
  dsimp only [lv_args]
  refine xS.s1 rfl rfl ?_
  try dsimp only [Nat.reduceAdd]
  refine xS.gI rfl (hC.1 _) rfl ⟨by decide, rfl⟩ rfl ?_
  try dsimp only [Nat.reduceAdd]
  refine xS.ret rfl rfl rfl (fun _ _ => rfl) ?_
  exact ⟨rfl, rfl⟩

set_option maxRecDepth 10000 in
theorem c_X8_lawOf (hC : xro a) (hs : g a 2 = nI m) (hm : m ≤ 6) (ht : t < m) : xT (k + 1) 57 [.ref a, .int (nI t)] (xH b g l) (fun r M' => M' = xH b g l ∧ r = some (.int (g (a + 2) t))) := by
  refine xT.of rfl (Nat.le_of_ble_eq_true rfl) ?_
  dsimp only [lv_args]
  refine xS.s1 rfl rfl ?_
  try dsimp only [Nat.reduceAdd]
  refine xS.br0 (c := .lt) (off := 20) (l := 3) rfl rfl (fun h1 => ?_) (fun h1 => ?_)
  · have g1 := xt_lt h1
    exfalso; simp (disch := omega) only [hs, Int32.lt_iff_toInt_lt, Int32.le_iff_toInt_le, nI_toInt, Int32.reduceToInt] at g1 <;> omega
  · have g1 := xf_lt h1
    refine xS.s1 rfl rfl ?_
    try dsimp only [Nat.reduceAdd]
    refine xS.s1 rfl rfl ?_
    try dsimp only [Nat.reduceAdd]
    refine xS.gI rfl (hC.1 _) rfl ⟨by decide, rfl⟩ rfl ?_
    try dsimp only [Nat.reduceAdd]
    refine xS.br (c := .ge) (off := 12) (l := 3) rfl rfl (fun h9 => ?_) (fun h9 => ?_)
    · have g9 := xt_ge h9
      exfalso; simp (disch := omega) only [hs, Int32.lt_iff_toInt_lt, Int32.le_iff_toInt_le, nI_toInt, Int32.reduceToInt] at g9 <;> omega
    · have g9 := xf_ge h9
      refine xS.s1 rfl rfl ?_
      try dsimp only [Nat.reduceAdd]
      refine xS.gR rfl (hC.1 _) rfl ⟨by decide, rfl⟩ rfl ?_
      try dsimp only [Nat.reduceAdd]
      refine xS.s1 rfl rfl ?_
      try dsimp only [Nat.reduceAdd]
      refine xS.ia rfl hC.2.2.1 (by omega) ?_
      try dsimp only [Nat.reduceAdd]
      refine xS.s1 rfl rfl ?_
      try dsimp only [Nat.reduceAdd]
      refine xS.ret rfl rfl rfl (fun _ _ => rfl) ?_
      exact ⟨rfl, rfl⟩

set_option maxRecDepth 10000 in
theorem c_X8_termStep (hC : xro a) (hs : g a 4 = nI m) (hm : m ≤ 8) (hd : d < m) (ht : t < 2) : xT (k + 1) 58 [.ref a, .int (nI d), .int (nI t)] (xH b g l) (fun r M' => M' = xH b g l ∧ r = some (.int (g (a + 3) (2 * d + t)))) := by
  refine xT.of rfl (Nat.le_of_ble_eq_true rfl) ?_
  dsimp only [lv_args]
  refine xS.s1 rfl rfl ?_
  try dsimp only [Nat.reduceAdd]
  refine xS.br0 (c := .lt) (off := 26) (l := 3) rfl rfl (fun h1 => ?_) (fun h1 => ?_)
  · have g1 := xt_lt h1
    exfalso; simp (disch := omega) only [hs, Int32.lt_iff_toInt_lt, Int32.le_iff_toInt_le, nI_toInt, Int32.reduceToInt] at g1 <;> omega
  · have g1 := xf_lt h1
    refine xS.s1 rfl rfl ?_
    try dsimp only [Nat.reduceAdd]
    refine xS.s1 rfl rfl ?_
    try dsimp only [Nat.reduceAdd]
    refine xS.gI rfl (hC.1 _) rfl ⟨by decide, rfl⟩ rfl ?_
    try dsimp only [Nat.reduceAdd]
    refine xS.br (c := .ge) (off := 18) (l := 3) rfl rfl (fun h9 => ?_) (fun h9 => ?_)
    · have g9 := xt_ge h9
      exfalso; simp (disch := omega) only [hs, Int32.lt_iff_toInt_lt, Int32.le_iff_toInt_le, nI_toInt, Int32.reduceToInt] at g9 <;> omega
    · have g9 := xf_ge h9
      refine xS.s1 rfl rfl ?_
      try dsimp only [Nat.reduceAdd]
      refine xS.gR rfl (hC.1 _) rfl ⟨by decide, rfl⟩ rfl ?_
      try dsimp only [Nat.reduceAdd]
      refine xS.s1 rfl rfl ?_
      try dsimp only [Nat.reduceAdd, xi_2]
      refine xS.s1 rfl rfl ?_
      try dsimp only [Nat.reduceAdd]
      refine xS.s1 rfl rfl ?_
      try dsimp only [Nat.reduceAdd]
      refine xS.s1 rfl rfl ?_
      try dsimp only [Nat.reduceAdd]
      refine xS.s1 rfl rfl ?_
      try dsimp only [Nat.reduceAdd, xi_1]
      refine xS.s1 rfl rfl ?_
      try dsimp only [Nat.reduceAdd]
      rw [xand1 (by omega), show t % 2 = t by omega]
      refine xS.s1 rfl rfl ?_
      try dsimp only [Nat.reduceAdd]
      rw [show (((2 * nI d) + nI t) : Int32) = nI ((2 * d) + t) from by simp only [← nI_add, ← pk_mul]; rfl]
      refine xS.ia rfl hC.2.2.2 (by omega) ?_
      try dsimp only [Nat.reduceAdd]
      refine xS.s1 rfl rfl ?_
      try dsimp only [Nat.reduceAdd]
      refine xS.ret rfl rfl rfl (fun _ _ => rfl) ?_
      exact ⟨rfl, rfl⟩

set_option maxRecDepth 10000 in
theorem c_X8_thought (hC : xro a) (ht : t < 6) : xT (k + 2) 59 [.ref a, .int (nI t)] (xH b g l) (fun r M' => M' = xH b g l ∧ r = some (.int (g (a + 1) t))) := by
  refine xT.of rfl (Nat.le_of_ble_eq_true rfl) ?_
  dsimp only [lv_args]
  refine xS.s1 rfl rfl ?_
  try dsimp only [Nat.reduceAdd]
  -- 1 yX11_isStep
  refine xS.callN rfl rfl rfl ⟨Nat.le_of_ble_eq_true rfl, rfl⟩ (c_X11_isStep_in ht) (fun v M1 hv => ?_)
  rw [hv.1, hv.2]
  clear hv M1 v
  try dsimp only [Nat.reduceAdd, Option.toList, List.cons_append, List.nil_append, List.drop]
  refine xS.br0 (c := .eq) (off := 12) (l := 3) rfl rfl (fun h4 => ?_) (fun h4 => ?_)
  · have g4 := xt_eq h4
    exact absurd g4 (by decide)
  · have g4 := xf_eq h4
    refine xS.s1 rfl rfl ?_
    try dsimp only [Nat.reduceAdd]
    refine xS.gR rfl (hC.1 _) rfl ⟨by decide, rfl⟩ rfl ?_
    try dsimp only [Nat.reduceAdd]
    refine xS.s1 rfl rfl ?_
    try dsimp only [Nat.reduceAdd]
    refine xS.ia rfl hC.2.1 (by omega) ?_
    try dsimp only [Nat.reduceAdd]
    refine xS.s1 rfl rfl ?_
    try dsimp only [Nat.reduceAdd]
    refine xS.ret rfl rfl rfl (fun _ _ => rfl) ?_
    exact ⟨rfl, rfl⟩

set_option maxRecDepth 10000 in
theorem c_X8_seen (hC : xro a) (hL : L < 24) (hi : t < 2 ^ 30) (hs : s < 6) : xT (k + 3) 60 [.ref a, .ref (43 + L), .int (nI t), .int (nI s)] (xH b g l) (fun r M' => M' = xH b g l ∧ r = some (.int (xseen (g (a + 1)) (L / 4) t s))) := by
  refine xT.of rfl (Nat.le_of_ble_eq_true rfl) ?_
  dsimp only [lv_args]
  refine xS.s1 rfl rfl ?_
  try dsimp only [Nat.reduceAdd]
  refine xS.s1 rfl rfl ?_
  try dsimp only [Nat.reduceAdd]
  refine xS.cThk rfl rfl hL hi rfl ?_
  try dsimp only [Nat.reduceAdd]
  refine xS.br0 (c := .eq) (off := 11) (l := 3) rfl rfl (fun h5 => ?_) (fun h5 => ?_)
  · have g5 := xt_eq h5
    refine xS.s1 rfl rfl ?_
    try dsimp only [Nat.reduceAdd]
    refine xS.s1 rfl rfl ?_
    try dsimp only [Nat.reduceAdd]
    refine xS.s1 rfl rfl ?_
    try dsimp only [Nat.reduceAdd]
    refine xS.s1 rfl rfl ?_
    try dsimp only [Nat.reduceAdd, xi_1]
    refine xS.br (c := .eq) (off := 9) (l := 3) rfl rfl (fun h22 => ?_) (fun h22 => ?_)
    · have g22 := xt_eq h22
      refine xS.s1 rfl rfl ?_
      try dsimp only [Nat.reduceAdd, xi_3]
      refine xS.s1 rfl rfl ?_
      try dsimp only [Nat.reduceAdd]
      refine xS.s1 rfl rfl ?_
      try dsimp only [Nat.reduceAdd]
      refine xS.s1 rfl rfl ?_
      try dsimp only [Nat.reduceAdd]
      refine xS.ret rfl rfl rfl (fun _ _ => rfl) ?_
      refine ⟨rfl, ?_⟩
      unfold xseen xmir
      first | (simp [xif0 g5, g22]; done) | (simp [xif1 g5, g22]; done)
    · have g22 := xf_eq h22
      refine xS.s1 rfl rfl ?_
      try dsimp only [Nat.reduceAdd]
      refine xS.s1 rfl rfl ?_
      try dsimp only [Nat.reduceAdd, xi_2]
      refine xS.br (c := .ne) (off := 10) (l := 3) rfl rfl (fun h28 => ?_) (fun h28 => ?_)
      · have g28 := xt_ne h28
        refine xS.s1 rfl rfl ?_
        try dsimp only [Nat.reduceAdd]
        refine xS.ret rfl rfl rfl (fun _ _ => rfl) ?_
        refine ⟨rfl, ?_⟩
        unfold xseen xmir
        first | (simp [xif0 g5, g22, g28]; done) | (simp [xif1 g5, g22, g28]; done)
      · have g28 := xf_ne h28
        refine xS.s1 rfl rfl ?_
        try dsimp only [Nat.reduceAdd, xi_3]
        refine xS.s1 rfl rfl ?_
        try dsimp only [Nat.reduceAdd]
        refine xS.s1 rfl rfl ?_
        try dsimp only [Nat.reduceAdd]
        refine xS.s1 rfl rfl ?_
        try dsimp only [Nat.reduceAdd]
        refine xS.ret rfl rfl rfl (fun _ _ => rfl) ?_
        refine ⟨rfl, ?_⟩
        unfold xseen xmir
        first | (simp [xif0 g5, g22, g28]; done) | (simp [xif1 g5, g22, g28]; done)
  · have g5 := xf_eq h5
    refine xS.s1 rfl rfl ?_
    try dsimp only [Nat.reduceAdd]
    refine xS.s1 rfl rfl ?_
    try dsimp only [Nat.reduceAdd]
    -- 10 yX8_thought
    refine xS.cv rfl rfl rfl (hC.1 _) rfl rfl ⟨by decide, rfl, rfl⟩ (c_X8_thought hC hs) (fun v M1 hv => ?_)
    rw [hv.1, hv.2]
    clear hv M1 v
    try dsimp only [Nat.reduceAdd, Option.toList, List.cons_append, List.nil_append, List.drop]
    refine xS.s1 rfl rfl ?_
    try dsimp only [Nat.reduceAdd]
    refine xS.s1 rfl rfl ?_
    try dsimp only [Nat.reduceAdd]
    refine xS.s1 rfl rfl ?_
    try dsimp only [Nat.reduceAdd]
    refine xS.s1 rfl rfl ?_
    try dsimp only [Nat.reduceAdd, xi_1]
    refine xS.br (c := .eq) (off := 9) (l := 3) rfl rfl (fun h22 => ?_) (fun h22 => ?_)
    · have g22 := xt_eq h22
      refine xS.s1 rfl rfl ?_
      try dsimp only [Nat.reduceAdd, xi_3]
      refine xS.s1 rfl rfl ?_
      try dsimp only [Nat.reduceAdd]
      refine xS.s1 rfl rfl ?_
      try dsimp only [Nat.reduceAdd]
      refine xS.s1 rfl rfl ?_
      try dsimp only [Nat.reduceAdd]
      refine xS.ret rfl rfl rfl (fun _ _ => rfl) ?_
      refine ⟨rfl, ?_⟩
      unfold xseen xmir
      first | (simp [xif0 g5, g22]; done) | (simp [xif1 g5, g22]; done)
    · have g22 := xf_eq h22
      refine xS.s1 rfl rfl ?_
      try dsimp only [Nat.reduceAdd]
      refine xS.s1 rfl rfl ?_
      try dsimp only [Nat.reduceAdd, xi_2]
      refine xS.br (c := .ne) (off := 10) (l := 3) rfl rfl (fun h28 => ?_) (fun h28 => ?_)
      · have g28 := xt_ne h28
        refine xS.s1 rfl rfl ?_
        try dsimp only [Nat.reduceAdd]
        refine xS.ret rfl rfl rfl (fun _ _ => rfl) ?_
        refine ⟨rfl, ?_⟩
        unfold xseen xmir
        first | (simp [xif0 g5, g22, g28]; done) | (simp [xif1 g5, g22, g28]; done)
      · have g28 := xf_ne h28
        refine xS.s1 rfl rfl ?_
        try dsimp only [Nat.reduceAdd, xi_3]
        refine xS.s1 rfl rfl ?_
        try dsimp only [Nat.reduceAdd]
        refine xS.s1 rfl rfl ?_
        try dsimp only [Nat.reduceAdd]
        refine xS.s1 rfl rfl ?_
        try dsimp only [Nat.reduceAdd]
        refine xS.ret rfl rfl rfl (fun _ _ => rfl) ?_
        refine ⟨rfl, ?_⟩
        unfold xseen xmir
        first | (simp [xif0 g5, g22, g28]; done) | (simp [xif1 g5, g22, g28]; done)

set_option maxRecDepth 10000 in
theorem c_X8_shown_C (hC : xro a) (hF : xce c n) (hp : xpn g) (hL : L < 24) (hi : t < 2 ^ 30) (hs : g c 1 = nI m) (hm : m ≤ n) (hu : ∀ s, xsrc (L / 4) (L % 4) t = some s → s < m ∧ xstp (g (c + 1) s)) : xT (k + 4) 61 [.ref a, .ref (43 + L), .ref c, .int (nI t)] (xH b g l) (fun r M' => M' = xH b g l ∧ r = some (.int (xshw (g (a + 1)) (L / 4) (L % 4) (fun s => xN (g (c + 1) s)) t))) := by
  refine xT.of rfl (Nat.le_of_ble_eq_true rfl) ?_
  try dsimp only [lv_args]
  refine xS.s1 rfl rfl ?_
  try dsimp only [Nat.reduceAdd]
  refine xS.s1 rfl rfl ?_
  try dsimp only [Nat.reduceAdd]
  refine xS.cSrc rfl rfl hp hL hi rfl ?_
  try dsimp only [Nat.reduceAdd]
  refine xS.s1 rfl rfl ?_
  try dsimp only [Nat.reduceAdd]
  refine xS.s1 rfl rfl ?_
  try dsimp only [Nat.reduceAdd]
  refine xS.s1 rfl rfl ?_
  try dsimp only [Nat.reduceAdd, xi_m1]
  cases e : xsrc (L / 4) (L % 4) t with
  | none =>
    refine xS.br (c := .ne) (off := 7) (l := 3) rfl rfl (fun h10 => absurd rfl (xt_ne h10)) (fun h10 => ?_)
    refine xS.s1 rfl rfl ?_
    try dsimp only [Nat.reduceAdd, xi_0]
    refine xS.s1 rfl rfl ?_
    try dsimp only [Nat.reduceAdd]
    refine xS.ret rfl rfl rfl (fun _ _ => rfl) ?_
    exact ⟨rfl, by unfold xshw; rw [e]⟩
  | some s =>
    obtain ⟨h1, h2⟩ := hu s e
    have h2 := xstp_N h2
    have h3 : s < 2 ^ 31 := by have := xn31 hF.2; omega
    show xS _ _ _ _ (.int (-1) :: .int (nI s) :: _) _ _
    refine xS.br (c := .ne) (off := 7) (l := 3) rfl rfl (fun h10 => ?_) (fun h10 => absurd (xf_ne h10) (fun z => absurd ((nI_toInt h3).symm.trans (congrArg Int32.toInt z)) (by have : (-1 : Int32).toInt = -1 := rfl; omega)))
    refine xS.s1 rfl rfl ?_
    try dsimp only [Nat.reduceAdd]
    refine xS.s1 rfl rfl ?_
    try dsimp only [Nat.reduceAdd]
    refine xS.s1 rfl rfl ?_
    try dsimp only [Nat.reduceAdd]
    refine xS.s1 rfl rfl ?_
    try dsimp only [Nat.reduceAdd]
    refine xS.s1 rfl rfl ?_
    try dsimp only [Nat.reduceAdd]
    refine xS.cv rfl rfl rfl (hF.1 _) rfl rfl ⟨by decide, rfl, rfl⟩ (c_X0_stepAt hF hs hm h1) (fun v M1 hv => ?_)
    rw [hv.1, hv.2, h2.2]
    try dsimp only [Nat.reduceAdd, Option.toList, List.cons_append, List.nil_append, List.drop]
    refine xS.cv rfl rfl rfl (hC.1 _) rfl rfl ⟨by decide, rfl, rfl⟩ (c_X8_seen hC hL hi h2.1) (fun v M1 hv => ?_)
    rw [hv.1, hv.2]
    try dsimp only [Nat.reduceAdd, Option.toList, List.cons_append, List.nil_append, List.drop]
    refine xS.ret rfl rfl rfl (fun _ _ => rfl) ?_
    exact ⟨rfl, by unfold xshw; rw [e]⟩

set_option maxRecDepth 10000 in
theorem c_X8_shown_D (hC : xro a) (hF : xde c) (hp : xpn g) (hL : L < 24) (hi : t < 2 ^ 30) (hs : g c 1 = nI m) (hm : m ≤ 40) (hu : ∀ s, xsrc (L / 4) (L % 4) t = some s → s < m ∧ xstp (g (c + 1) (4 * s))) : xT (k + 4) 61 [.ref a, .ref (43 + L), .ref c, .int (nI t)] (xH b g l) (fun r M' => M' = xH b g l ∧ r = some (.int (xshw (g (a + 1)) (L / 4) (L % 4) (fun s => xN (g (c + 1) (4 * s))) t))) := by
  refine xT.of rfl (Nat.le_of_ble_eq_true rfl) ?_
  try dsimp only [lv_args]
  refine xS.s1 rfl rfl ?_
  try dsimp only [Nat.reduceAdd]
  refine xS.s1 rfl rfl ?_
  try dsimp only [Nat.reduceAdd]
  refine xS.cSrc rfl rfl hp hL hi rfl ?_
  try dsimp only [Nat.reduceAdd]
  refine xS.s1 rfl rfl ?_
  try dsimp only [Nat.reduceAdd]
  refine xS.s1 rfl rfl ?_
  try dsimp only [Nat.reduceAdd]
  refine xS.s1 rfl rfl ?_
  try dsimp only [Nat.reduceAdd, xi_m1]
  cases e : xsrc (L / 4) (L % 4) t with
  | none =>
    refine xS.br (c := .ne) (off := 7) (l := 3) rfl rfl (fun h10 => absurd rfl (xt_ne h10)) (fun h10 => ?_)
    refine xS.s1 rfl rfl ?_
    try dsimp only [Nat.reduceAdd, xi_0]
    refine xS.s1 rfl rfl ?_
    try dsimp only [Nat.reduceAdd]
    refine xS.ret rfl rfl rfl (fun _ _ => rfl) ?_
    exact ⟨rfl, by unfold xshw; rw [e]⟩
  | some s =>
    obtain ⟨h1, h2⟩ := hu s e
    have h2 := xstp_N h2
    have h3 : s < 2 ^ 31 := by  omega
    show xS _ _ _ _ (.int (-1) :: .int (nI s) :: _) _ _
    refine xS.br (c := .ne) (off := 7) (l := 3) rfl rfl (fun h10 => ?_) (fun h10 => absurd (xf_ne h10) (fun z => absurd ((nI_toInt h3).symm.trans (congrArg Int32.toInt z)) (by have : (-1 : Int32).toInt = -1 := rfl; omega)))
    refine xS.s1 rfl rfl ?_
    try dsimp only [Nat.reduceAdd]
    refine xS.s1 rfl rfl ?_
    try dsimp only [Nat.reduceAdd]
    refine xS.s1 rfl rfl ?_
    try dsimp only [Nat.reduceAdd]
    refine xS.s1 rfl rfl ?_
    try dsimp only [Nat.reduceAdd]
    refine xS.s1 rfl rfl ?_
    try dsimp only [Nat.reduceAdd]
    refine xS.cv rfl rfl rfl (hF.1 _) rfl rfl ⟨by decide, rfl, rfl⟩ (c_X2_stepAt hF hs hm h1) (fun v M1 hv => ?_)
    rw [hv.1, hv.2, h2.2]
    try dsimp only [Nat.reduceAdd, Option.toList, List.cons_append, List.nil_append, List.drop]
    refine xS.cv rfl rfl rfl (hC.1 _) rfl rfl ⟨by decide, rfl, rfl⟩ (c_X8_seen hC hL hi h2.1) (fun v M1 hv => ?_)
    rw [hv.1, hv.2]
    try dsimp only [Nat.reduceAdd, Option.toList, List.cons_append, List.nil_append, List.drop]
    refine xS.ret rfl rfl rfl (fun _ _ => rfl) ?_
    exact ⟨rfl, by unfold xshw; rw [e]⟩

set_option maxRecDepth 10000 in
theorem c_X8_stepsSeenAs (hC : xro a) (hL : L < 24) (hi : t < 2 ^ 30) : xT (k + 4) 62 [.ref a, .ref (43 + L), .int (nI t), .int x] (xH b g l) (fun r M' => M' = xH b g l ∧ r = some (.int (xbits (fun s => decide (xseen (g (a + 1)) (L / 4) t s = x)) 6))) := by
  refine xT.of rfl (Nat.le_of_ble_eq_true rfl) ?_
  dsimp only [lv_args]
  refine xS.s1 rfl rfl ?_
  try dsimp only [Nat.reduceAdd, xi_0]
  refine xS.s1 rfl rfl ?_
  try dsimp only [Nat.reduceAdd]
  refine xS.s1 rfl rfl ?_
  try dsimp only [Nat.reduceAdd, xi_0]
  refine xS.s1 rfl rfl ?_
  try dsimp only [Nat.reduceAdd]
  refine xS.pick [0, 1, 2, 3, 4, 5] rfl ?_
  refine xS.loop (σ := Unit) (6) (fun j S => [(5, .int (nI j)), (4, .int (xbits (fun s => decide (xseen (g (a + 1)) (L / 4) t s = x)) j)), (0, .ref a), (1, .ref (43 + L)), (2, .int (nI t)), (3, .int x)]) (fun _ _ => xH b g l) (fun _ _ => True) (()) (rfl) (rfl) (trivial) ?_
  intro j S hj hI ih
  try dsimp only
  refine xS.s1 rfl rfl ?_
  try dsimp only [Nat.reduceAdd]
  refine xS.s1 rfl rfl ?_
  try dsimp only [Nat.reduceAdd, xj_6]
  refine xS.br (c := .ge) (off := 30) (l := 3) rfl rfl (fun h10 => ?_) (fun h10 => ?_)
  · have g10 := xt_ge h10
    refine xS.s1 rfl rfl ?_
    try dsimp only [Nat.reduceAdd]
    refine xS.ret rfl rfl rfl (fun _ _ => rfl) ?_
    have e := xnle (b := 6) g10 (by omega) (by omega)
    rw [show 6 = j by omega]
    exact ⟨rfl, rfl⟩
  · have g10 := xf_ge h10
    have hlt := xnlt (b := 6) g10 (by omega) (by omega)
    refine xS.s1 rfl rfl ?_
    try dsimp only [Nat.reduceAdd]
    refine xS.s1 rfl rfl ?_
    try dsimp only [Nat.reduceAdd]
    refine xS.s1 rfl rfl ?_
    try dsimp only [Nat.reduceAdd]
    refine xS.s1 rfl rfl ?_
    try dsimp only [Nat.reduceAdd]
    -- 18 yX8_seen
    refine xS.cv rfl rfl rfl (hC.1 _) rfl rfl ⟨by decide, rfl, rfl⟩ (c_X8_seen hC hL hi hlt) (fun v M1 hv => ?_)
    rw [hv.1, hv.2]
    clear hv M1 v
    try dsimp only [Nat.reduceAdd, Option.toList, List.cons_append, List.nil_append, List.drop]
    refine xS.s1 rfl rfl ?_
    try dsimp only [Nat.reduceAdd]
    refine xS.br (c := .ne) (off := 12) (l := 3) rfl rfl (fun h22 => ?_) (fun h22 => ?_)
    · have g22 := xt_ne h22
      refine xS.s1 rfl rfl ?_
      try dsimp only [Nat.reduceAdd, xi_1]
      rw [nI_1]
      refine xS.s1 rfl rfl ?_
      try dsimp only [Nat.reduceAdd]
      refine xS.pick [0, 1, 2, 3, 4, 5] rfl ?_
      have ih2 := ih () (by omega) trivial
      first | (rw [show xbits (fun s => decide (xseen (g (a + 1)) (L / 4) t s = x)) (j + 1) = xbits (fun s => decide (xseen (g (a + 1)) (L / 4) t s = x)) j from by simp [xbits_s, g22]] at ih2; exact ih2) | (rw [show xbits (fun s => decide (xseen (g (a + 1)) (L / 4) t s = x)) (j + 1) = xbits (fun s => decide (xseen (g (a + 1)) (L / 4) t s = x)) j ||| (1 <<< (nI j &&& 31)) from by simp [xbits_s, g22]] at ih2; exact ih2)
    · have g22 := xf_ne h22
      refine xS.s1 rfl rfl ?_
      try dsimp only [Nat.reduceAdd]
      refine xS.s1 rfl rfl ?_
      try dsimp only [Nat.reduceAdd, xi_1]
      refine xS.s1 rfl rfl ?_
      try dsimp only [Nat.reduceAdd]
      refine xS.s1 rfl rfl ?_
      try dsimp only [Nat.reduceAdd]
      refine xS.s1 rfl rfl ?_
      try dsimp only [Nat.reduceAdd]
      refine xS.s1 rfl rfl ?_
      try dsimp only [Nat.reduceAdd]
      refine xS.s1 rfl rfl ?_
      try dsimp only [Nat.reduceAdd, xi_1]
      rw [nI_1]
      refine xS.s1 rfl rfl ?_
      try dsimp only [Nat.reduceAdd]
      refine xS.pick [0, 1, 2, 3, 4, 5] rfl ?_
      have ih2 := ih () (by omega) trivial
      first | (rw [show xbits (fun s => decide (xseen (g (a + 1)) (L / 4) t s = x)) (j + 1) = xbits (fun s => decide (xseen (g (a + 1)) (L / 4) t s = x)) j from by simp [xbits_s, g22]] at ih2; exact ih2) | (rw [show xbits (fun s => decide (xseen (g (a + 1)) (L / 4) t s = x)) (j + 1) = xbits (fun s => decide (xseen (g (a + 1)) (L / 4) t s = x)) j ||| (1 <<< (nI j &&& 31)) from by simp [xbits_s, g22]] at ih2; exact ih2)

set_option maxRecDepth 10000 in
theorem c_X8_firstBroken (hC : xro a) (hs : g a 4 = nI m) (hm : m ≤ 8) : xT (k + 1) 63 [.ref a, .int x, .int y] (xH b g l) (fun r M' => M' = xH b g l ∧ r = some (.int (xfI (xfb (g (a + 3)) m x y)))) := by
  refine xT.of rfl (Nat.le_of_ble_eq_true rfl) ?_
  dsimp only [lv_args]
  refine xS.s1 rfl rfl ?_
  try dsimp only [Nat.reduceAdd, xi_0]
  refine xS.s1 rfl rfl ?_
  try dsimp only [Nat.reduceAdd]
  refine xS.pick [0, 1, 2, 3] rfl ?_
  refine xS.loop (σ := Unit) (m) (fun j S => [(3, .int (nI j)), (0, .ref a), (1, .int x), (2, .int y)]) (fun _ _ => xH b g l) (fun j _ => xfst (xtm (g (a + 3)) x y) j = none) (()) (rfl) (rfl) (rfl) ?_
  intro j S hj hI ih
  try dsimp only
  refine xS.s1 rfl rfl ?_
  try dsimp only [Nat.reduceAdd]
  refine xS.s1 rfl rfl ?_
  try dsimp only [Nat.reduceAdd]
  refine xS.gI rfl (hC.1 _) rfl ⟨by decide, rfl⟩ rfl ?_
  try dsimp only [Nat.reduceAdd]
  refine xS.br (c := .ge) (off := 37) (l := 3) rfl rfl (fun h7 => ?_) (fun h7 => ?_)
  · have g7 := xt_ge h7
    refine xS.s1 rfl rfl ?_
    try dsimp only [Nat.reduceAdd, xj_m9]
    refine xS.ret rfl rfl rfl (fun _ _ => rfl) ?_
    rw [hs] at g7
    have e := xnle g7 (by omega) (by omega)
    unfold xfb
    rw [show m = j by omega, hI]
    exact ⟨rfl, rfl⟩
  · have g7 := xf_ge h7
    rw [hs] at g7
    have hlt := xnlt g7 (by omega) (by omega)
    refine xS.s1 rfl rfl ?_
    try dsimp only [Nat.reduceAdd]
    refine xS.gR rfl (hC.1 _) rfl ⟨by decide, rfl⟩ rfl ?_
    try dsimp only [Nat.reduceAdd]
    refine xS.s1 rfl rfl ?_
    try dsimp only [Nat.reduceAdd, xi_2]
    refine xS.s1 rfl rfl ?_
    try dsimp only [Nat.reduceAdd]
    refine xS.s1 rfl rfl ?_
    try dsimp only [Nat.reduceAdd]
    rw [show ((2 * nI j) : Int32) = nI (2 * j) from by simp only [← nI_add, ← pk_mul]; rfl]
    refine xS.ia rfl hC.2.2.2 (by omega) ?_
    try dsimp only [Nat.reduceAdd]
    refine xS.s1 rfl rfl ?_
    try dsimp only [Nat.reduceAdd]
    refine xS.br (c := .ne) (off := 19) (l := 3) rfl rfl (fun h19 => ?_) (fun h19 => ?_)
    · have g19 := xt_ne h19
      refine xS.s1 rfl rfl ?_
      try dsimp only [Nat.reduceAdd, xi_1]
      rw [nI_1]
      refine xS.s1 rfl rfl ?_
      try dsimp only [Nat.reduceAdd]
      refine xS.pick [0, 1, 2, 3] rfl ?_
      exact ih () (by omega) (xfst_n hI (by simp [xtm, g19]))
    · have g19 := xf_ne h19
      refine xS.s1 rfl rfl ?_
      try dsimp only [Nat.reduceAdd]
      refine xS.gR rfl (hC.1 _) rfl ⟨by decide, rfl⟩ rfl ?_
      try dsimp only [Nat.reduceAdd]
      refine xS.s1 rfl rfl ?_
      try dsimp only [Nat.reduceAdd, xi_2]
      refine xS.s1 rfl rfl ?_
      try dsimp only [Nat.reduceAdd]
      refine xS.s1 rfl rfl ?_
      try dsimp only [Nat.reduceAdd]
      refine xS.s1 rfl rfl ?_
      try dsimp only [Nat.reduceAdd, xi_1]
      refine xS.s1 rfl rfl ?_
      try dsimp only [Nat.reduceAdd]
      rw [show (((2 * nI j) + 1) : Int32) = nI ((2 * j) + 1) from by simp only [← nI_add, ← pk_mul]; rfl]
      refine xS.ia rfl hC.2.2.2 (by omega) ?_
      try dsimp only [Nat.reduceAdd]
      refine xS.s1 rfl rfl ?_
      try dsimp only [Nat.reduceAdd]
      refine xS.br (c := .ne) (off := 5) (l := 3) rfl rfl (fun h33 => ?_) (fun h33 => ?_)
      · have g33 := xt_ne h33
        refine xS.s1 rfl rfl ?_
        try dsimp only [Nat.reduceAdd, xi_1]
        rw [nI_1]
        refine xS.s1 rfl rfl ?_
        try dsimp only [Nat.reduceAdd]
        refine xS.pick [0, 1, 2, 3] rfl ?_
        exact ih () (by omega) (xfst_n hI (by simp [xtm, g19, g33]))
      · have g33 := xf_ne h33
        refine xS.s1 rfl rfl ?_
        try dsimp only [Nat.reduceAdd]
        refine xS.ret rfl rfl rfl (fun _ _ => rfl) ?_
        unfold xfb
        rw [xfst_at hI (by simp [xtm, g19, g33]) hlt]
        exact ⟨rfl, rfl⟩

theorem xfb_lt {tx : Nat → Int32} {T d : Nat} {x y : Int32} (h : xfb tx T x y = some d) : d < T := (xfst_lt h).1
theorem xfb_n {tx : Nat → Int32} {T : Nat} {x y : Int32} (hT : T ≤ 8) : xfI (xfb tx T x y) = -9 ↔ xfb tx T x y = none := xfI_none (fun d h => by have := xfb_lt h; omega)

set_option maxRecDepth 10000 in
theorem c_X8_isBroken (hC : xro a) (hs : g a 4 = nI m) (hm : m ≤ 8) : xT (k + 2) 64 [.ref a, .int x, .int y] (xH b g l) (fun r M' => M' = xH b g l ∧ r = some (.int (if xfb (g (a + 3)) m x y = none then 0 else 1))) := by
  refine xT.of rfl (Nat.le_of_ble_eq_true rfl) ?_
  dsimp only [lv_args]
  refine xS.s1 rfl rfl ?_
  try dsimp only [Nat.reduceAdd]
  refine xS.s1 rfl rfl ?_
  try dsimp only [Nat.reduceAdd]
  refine xS.s1 rfl rfl ?_
  try dsimp only [Nat.reduceAdd]
  -- 3 yX8_firstBroken
  refine xS.cv rfl rfl rfl (hC.1 _) rfl rfl ⟨by decide, rfl, rfl⟩ (c_X8_firstBroken hC hs hm) (fun v M1 hv => ?_)
  rw [hv.1, hv.2]
  clear hv M1 v
  try dsimp only [Nat.reduceAdd, Option.toList, List.cons_append, List.nil_append, List.drop]
  refine xS.s1 rfl rfl ?_
  try dsimp only [Nat.reduceAdd, xj_m9]
  refine xS.br (c := .eq) (off := 7) (l := 3) rfl rfl (fun h8 => ?_) (fun h8 => ?_)
  · have g8 := xt_eq h8
    refine xS.s1 rfl rfl ?_
    try dsimp only [Nat.reduceAdd, xi_0]
    refine xS.ret rfl rfl rfl (fun _ _ => rfl) ?_
    rw [xfb_n hm] at g8
    exact ⟨rfl, by simp [g8]⟩
  · have g8 := xf_eq h8
    refine xS.s1 rfl rfl ?_
    try dsimp only [Nat.reduceAdd, xi_1]
    refine xS.s1 rfl rfl ?_
    try dsimp only [Nat.reduceAdd]
    refine xS.ret rfl rfl rfl (fun _ _ => rfl) ?_
    rw [xfb_n hm] at g8
    exact ⟨rfl, by simp [g8]⟩

end
end
