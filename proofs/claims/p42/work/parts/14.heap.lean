/-! THE CELLS behind both constructors: their shape never changes but for room and draft (b); ints in g, longs in l, by address and place -/
def xsh_1 : List Value := [.ref 23, .ref 25, .ref 27, .ref 29, .ref 31, .ref 33]
def xsh_2 : List Value := [.ref 35, .ref 37, .ref 39, .ref 41]
def xsh_3 : List Value := [.ref 43, .ref 44, .ref 45, .ref 46, .ref 47, .ref 48, .ref 49, .ref 50, .ref 51, .ref 52, .ref 53, .ref 54, .ref 55, .ref 56, .ref 57, .ref 58, .ref 59, .ref 60, .ref 61, .ref 62, .ref 63, .ref 64, .ref 65, .ref 66]
def xsh_6 : List Value := [.ref 67, .ref 69, .ref 71]
def xsh (b : Nat × Nat) : xM := [(10, [.ref 1, .ref 2, .ref 3, .ref 4, .ref 6, .ref b.1, .ref b.2, .ref 15, .ref 17, .ref 18, .ref 19, .int 0, .long 0, .long 0, .int 0, .ref 22]),
  (13, xsh_1),
  (13, xsh_2),
  (15, xsh_3),
  (2, [.ref 5, .int 0]),
  (12, List.replicate 160 (.int 0)),
  (14, xsh_6),
  (7, [.ref 8, .ref 9, .int 0, .ref 10, .int 0]),
  (12, List.replicate 6 (.int 0)),
  (12, List.replicate 6 (.int 0)),
  (12, List.replicate 16 (.int 0)),
  (7, [.ref 12, .ref 13, .int 0, .ref 14, .int 0]),
  (12, List.replicate 6 (.int 0)),
  (12, List.replicate 6 (.int 0)),
  (12, List.replicate 16 (.int 0)),
  (0, [.ref 16, .int 0]),
  (12, List.replicate 12 (.int 0)),
  (12, List.replicate 6 (.int 0)),
  (12, List.replicate 6 (.int 0)),
  (1, [.ref 20, .ref 21, .int 0, .int 0, .int 0]),
  (12, List.replicate 30 (.int 0)),
  (12, List.replicate 30 (.int 0)),
  (12, List.replicate 6 (.int 0)),
  (0, [.ref 24, .int 0]),
  (12, List.replicate 40 (.int 0)),
  (0, [.ref 26, .int 0]),
  (12, List.replicate 40 (.int 0)),
  (0, [.ref 28, .int 0]),
  (12, List.replicate 40 (.int 0)),
  (0, [.ref 30, .int 0]),
  (12, List.replicate 40 (.int 0)),
  (0, [.ref 32, .int 0]),
  (12, List.replicate 40 (.int 0)),
  (0, [.ref 34, .int 0]),
  (12, List.replicate 40 (.int 0)),
  (0, [.ref 36, .int 0]),
  (12, List.replicate 60 (.int 0)),
  (0, [.ref 38, .int 0]),
  (12, List.replicate 60 (.int 0)),
  (0, [.ref 40, .int 0]),
  (12, List.replicate 60 (.int 0)),
  (0, [.ref 42, .int 0]),
  (12, List.replicate 60 (.int 0)),
  (6, [.int 0, .int 0]),
  (6, [.int 0, .int 0]),
  (6, [.int 0, .int 0]),
  (6, [.int 0, .int 0]),
  (4, [.int 0, .int 0]),
  (4, [.int 0, .int 0]),
  (4, [.int 0, .int 0]),
  (4, [.int 0, .int 0]),
  (8, [.int 0, .int 0]),
  (8, [.int 0, .int 0]),
  (8, [.int 0, .int 0]),
  (8, [.int 0, .int 0]),
  (9, [.int 0, .int 0]),
  (9, [.int 0, .int 0]),
  (9, [.int 0, .int 0]),
  (9, [.int 0, .int 0]),
  (5, [.int 0, .int 0]),
  (5, [.int 0, .int 0]),
  (5, [.int 0, .int 0]),
  (5, [.int 0, .int 0]),
  (3, [.int 0, .int 0]),
  (3, [.int 0, .int 0]),
  (3, [.int 0, .int 0]),
  (3, [.int 0, .int 0]),
  (2, [.ref 68, .int 0]),
  (12, List.replicate 160 (.int 0)),
  (2, [.ref 70, .int 0]),
  (12, List.replicate 160 (.int 0)),
  (2, [.ref 72, .int 0]),
  (12, List.replicate 160 (.int 0)),
  (11, [.ref 74, .ref 75, .ref 76, .ref 77, .ref 78, .int 0, .ref 79, .int 0, .ref 80, .ref 81, .int 0, .ref 82, .int 0, .ref 83, .int 0, .ref 84, .ref 85, .ref 86, .ref 87, .ref 88, .int 0, .long 0, .long 0, .int 0, .ref 89, .ref 90, .ref 91, .ref 92, .int 0, .int 0, .int 0, .long 0]),
  (12, List.replicate 6 (.int 0)),
  (12, List.replicate 240 (.int 0)),
  (12, List.replicate 4 (.int 0)),
  (12, List.replicate 240 (.int 0)),
  (12, List.replicate 6 (.int 0)),
  (12, List.replicate 12 (.int 0)),
  (12, List.replicate 16 (.int 0)),
  (12, List.replicate 6 (.int 0)),
  (12, List.replicate 12 (.int 0)),
  (12, List.replicate 16 (.int 0)),
  (12, List.replicate 40 (.int 0)),
  (12, List.replicate 40 (.int 0)),
  (12, List.replicate 3 (.int 0)),
  (12, List.replicate 120 (.int 0)),
  (12, List.replicate 120 (.int 0)),
  (12, List.replicate 6 (.int 0)),
  (12, List.replicate 13 (.int 0)),
  (12, List.replicate 13 (.int 0)),
  (12, List.replicate 13 (.int 0))]
def xfi (g : Nat → Nat → Int32) (l : Nat → Nat → Int64) (a i : Nat) (v : Value) : Value := match v with
  | .int _ => .int (g a i)
  | .long _ => .long (l a i)
  | v => v
/-- behind a choice, so that nothing unfolds it -/
noncomputable def xHo : {f : Nat × Nat → (Nat → Nat → Int32) → (Nat → Nat → Int64) → xM // f = fun b g l => (xsh b).mapIdx (fun a c => (c.1, c.2.mapIdx (xfi g l a)))} := Classical.choice ⟨⟨_, rfl⟩⟩
noncomputable def xH (b : Nat × Nat) (g : Nat → Nat → Int32) (l : Nat → Nat → Int64) : xM := xHo.val b g l
theorem xH_eq (b : Nat × Nat) (g : Nat → Nat → Int32) (l : Nat → Nat → Int64) : xH b g l = (xsh b).mapIdx (fun a c => (c.1, c.2.mapIdx (xfi g l a))) := by
  unfold xH
  rw [xHo.property]
def up {α : Type} (g : Nat → Nat → α) (a i : Nat) (v : α) : Nat → Nat → α := fun a' i' => if a' = a ∧ i' = i then v else g a' i'
theorem up_same {α : Type} (g : Nat → Nat → α) (a i : Nat) (v : α) : up g a i v a i = v := if_pos ⟨rfl, rfl⟩
theorem up_ne {α : Type} {g : Nat → Nat → α} {a i a' i' : Nat} {v : α} (h : a' ≠ a ∨ i' ≠ i) : up g a i v a' i' = g a' i' := if_neg (fun z => by rcases h with h | h; exact h z.1; exact h z.2)
theorem up_na {α : Type} {g : Nat → Nat → α} {a i a' : Nat} {v : α} (h : a' ≠ a) : up g a i v a' = g a' := funext (fun _ => up_ne (Or.inl h))
section
variable {b : Nat × Nat} {g : Nat → Nat → Int32} {l : Nat → Nat → Int64} {a i ci n : Nat} {fs : List Value} {z : Int32} {zl : Int64}
theorem xH_get (h : (xsh b)[a]? = some (ci, fs)) : (xH b g l)[a]? = some (ci, fs.mapIdx (xfi g l a)) := by
  rw [xH_eq, List.getElem?_mapIdx, h]
  rfl
theorem xH_setI {v : Int32} (h : (xsh b)[a]? = some (ci, fs)) (hz : fs[i]? = some (.int z)) : (xH b g l).set a (ci, (fs.mapIdx (xfi g l a)).set i (.int v)) = xH b (up g a i v) l := by
  apply List.ext_getElem?
  intro a'
  by_cases e : a = a'
  · subst e
    have hlt : a < (xH b g l).length := (List.getElem?_eq_some_iff.mp (xH_get (g := g) (l := l) h)).1
    rw [List.getElem?_set_self hlt, xH_get (g := up g a i v) (l := l) h]
    congr 2
    apply List.ext_getElem?
    intro j
    rw [List.getElem?_set, List.getElem?_mapIdx, List.getElem?_mapIdx, List.length_mapIdx]
    by_cases e2 : i = j
    · subst e2
      have hi : i < fs.length := (List.getElem?_eq_some_iff.mp hz).1
      rw [if_pos rfl, if_pos hi, hz]
      show some (Value.int v) = some (xfi (up g a i v) l a i (.int z))
      unfold xfi
      rw [up_same]
    · rw [if_neg e2]
      cases hw : fs[j]? with
      | none => rfl
      | some w =>
        show some (xfi g l a j w) = some (xfi (up g a i v) l a j w)
        unfold xfi
        rw [up_ne (Or.inr (Ne.symm e2))]
  · rw [List.getElem?_set_ne e]
    rw [xH_eq, xH_eq, List.getElem?_mapIdx, List.getElem?_mapIdx]
    cases hc : (xsh b)[a']? with
    | none => rfl
    | some c =>
      have e1 : xfi (up g a i v) l a' = xfi g l a' := by
        funext j w
        unfold xfi
        rw [up_na (Ne.symm e)]
      simp [e1]
theorem xH_setL {v : Int64} (h : (xsh b)[a]? = some (ci, fs)) (hz : fs[i]? = some (.long zl)) : (xH b g l).set a (ci, (fs.mapIdx (xfi g l a)).set i (.long v)) = xH b g (up l a i v) := by
  apply List.ext_getElem?
  intro a'
  by_cases e : a = a'
  · subst e
    have hlt : a < (xH b g l).length := (List.getElem?_eq_some_iff.mp (xH_get (g := g) (l := l) h)).1
    rw [List.getElem?_set_self hlt, xH_get (g := g) (l := up l a i v) h]
    congr 2
    apply List.ext_getElem?
    intro j
    rw [List.getElem?_set, List.getElem?_mapIdx, List.getElem?_mapIdx, List.length_mapIdx]
    by_cases e2 : i = j
    · subst e2
      have hi : i < fs.length := (List.getElem?_eq_some_iff.mp hz).1
      rw [if_pos rfl, if_pos hi, hz]
      show some (Value.long v) = some (xfi g (up l a i v) a i (.long zl))
      unfold xfi
      rw [up_same]
    · rw [if_neg e2]
      cases hw : fs[j]? with
      | none => rfl
      | some w =>
        show some (xfi g l a j w) = some (xfi g (up l a i v) a j w)
        unfold xfi
        rw [up_ne (Or.inr (Ne.symm e2))]
  · rw [List.getElem?_set_ne e]
    rw [xH_eq, xH_eq, List.getElem?_mapIdx, List.getElem?_mapIdx]
    cases hc : (xsh b)[a']? with
    | none => rfl
    | some c =>
      have e1 : xfi g (up l a i v) a' = xfi g l a' := by
        funext j w
        unfold xfi
        rw [up_na (Ne.symm e)]
      simp [e1]
end
section
variable {q : xQ} {k pc l0 a t : Nat} {lv : xL} {rest : List Value} {P : Option Value → xM → Prop} {vs : List Value} {M : xM} {x : Int32}
theorem xS.iaG (hl : xe_lkF q.1 pc = some (.iaload, l0)) (hM : M[a]? = some (12, vs)) (hn : t < 2 ^ 31) (hv : vs[t]? = some (.int x)) (h : xS q k (pc + 1) lv (.int x :: rest) M P) : xS q k pc lv (.int (nI t) :: .ref a :: rest) M P := by
  refine xS.s2 hl rfl (g := ((pc + 1, lv, .int x :: rest), M)) ?_ h
  show xb_iaload none pc lv (.int (nI t) :: .ref a :: rest) M = _
  unfold xb_iaload
  have h2 : ¬ xlt (nI t) 0 = true := by rw [xlt_iff]; exact nI_pos hn
  simp only [xg_eq, hM, h2, nI_clamp hn, hv, true_and, not_false_eq_true, if_true]
  rfl
theorem xS.iasG (hl : xe_lkF q.1 pc = some (.iastore, l0)) (hM : M[a]? = some (12, vs)) (hn : t < 2 ^ 31) (hv : t < vs.length) (h : xS q k (pc + 1) lv rest (M.set a (12, vs.set t (.int x))) P) : xS q k pc lv (.int x :: .int (nI t) :: .ref a :: rest) M P := by
  refine xS.s2 hl rfl (g := ((pc + 1, lv, rest), M.set a (12, vs.set t (.int x)))) ?_ h
  show xb_iastore pc lv (.int x :: .int (nI t) :: .ref a :: rest) M = _
  unfold xb_iastore
  have h2 : ¬ xlt (nI t) 0 = true := by rw [xlt_iff]; exact nI_pos hn
  simp only [xg_eq, xse_eq, xln_eq, hM, h2, nI_clamp hn, hv, true_and, and_true, not_false_eq_true]
  rfl
end
def xar (a n : Nat) : Prop := (∀ b, (xsh b)[a]? = some (12, List.replicate n (.int 0))) ∧ n ≤ 1000
def xob (a ci : Nat) (fs : List Value) : Prop := ∀ b, (xsh b)[a]? = some (ci, fs)
section
variable {q : xQ} {k pc l0 idx a ci n t : Nat} {lv : xL} {st rest : List Value} {P : Option Value → xM → Prop} {fs : List Value} {e : xFE} {b : Nat × Nat} {g : Nat → Nat → Int32} {l : Nat → Nat → Int64} {z x : Int32} {zl y : Int64} {c : Nat}
theorem xS.gI (hl : xe_lkF q.1 pc = some (.getfield idx, l0)) (hM : (xsh b)[a]? = some (ci, fs)) (he : xfF q.2.1 idx = some e) (hc : ci < 12 ∧ e.2.2.2.2.contains ci = true) (hv : fs[e.2.1]? = some (.int z)) (h : xS q k (pc + 3) lv (.int (g a e.2.1) :: rest) (xH b g l) P) : xS q k pc lv (.ref a :: rest) (xH b g l) P :=
  xS.get hl (xH_get hM) he hc (by rw [List.getElem?_mapIdx, hv]; rfl) h
theorem xS.gL (hl : xe_lkF q.1 pc = some (.getfield idx, l0)) (hM : (xsh b)[a]? = some (ci, fs)) (he : xfF q.2.1 idx = some e) (hc : ci < 12 ∧ e.2.2.2.2.contains ci = true) (hv : fs[e.2.1]? = some (.long zl)) (h : xS q k (pc + 3) lv (.long (l a e.2.1) :: rest) (xH b g l) P) : xS q k pc lv (.ref a :: rest) (xH b g l) P :=
  xS.get hl (xH_get hM) he hc (by rw [List.getElem?_mapIdx, hv]; rfl) h
theorem xS.gR (hl : xe_lkF q.1 pc = some (.getfield idx, l0)) (hM : (xsh b)[a]? = some (ci, fs)) (he : xfF q.2.1 idx = some e) (hc : ci < 12 ∧ e.2.2.2.2.contains ci = true) (hv : fs[e.2.1]? = some (.ref c)) (h : xS q k (pc + 3) lv (.ref c :: rest) (xH b g l) P) : xS q k pc lv (.ref a :: rest) (xH b g l) P :=
  xS.get hl (xH_get hM) he hc (by rw [List.getElem?_mapIdx, hv]; rfl) h
theorem xS.pI (hl : xe_lkF q.1 pc = some (.putfield idx, l0)) (hM : (xsh b)[a]? = some (ci, fs)) (he : xfF q.2.1 idx = some e) (hc : (ci < 12 ∧ e.2.2.2.2.contains ci = true) ∧ ((0 : Nat) = e.2.2.1 ∧ (e.2.2.2.1 = true → q.2.2.2.2 = true) ∧ e.2.2.1 < 3)) (hv : fs[e.2.1]? = some (.int z)) (h : xS q k (pc + 3) lv rest (xH b (up g a e.2.1 x) l) P) : xS q k pc lv (.int x :: .ref a :: rest) (xH b g l) P := by
  refine xS.put hl (xH_get hM) he ⟨hc.1, hc.2, ?_⟩ ?_
  · rw [List.length_mapIdx]
    exact (List.getElem?_eq_some_iff.mp hv).1
  · rw [xH_setI hM hv]
    exact h
theorem xS.pL (hl : xe_lkF q.1 pc = some (.putfield idx, l0)) (hM : (xsh b)[a]? = some (ci, fs)) (he : xfF q.2.1 idx = some e) (hc : (ci < 12 ∧ e.2.2.2.2.contains ci = true) ∧ ((1 : Nat) = e.2.2.1 ∧ (e.2.2.2.1 = true → q.2.2.2.2 = true) ∧ e.2.2.1 < 3)) (hv : fs[e.2.1]? = some (.long zl)) (h : xS q k (pc + 3) lv rest (xH b g (up l a e.2.1 y)) P) : xS q k pc lv (.long y :: .ref a :: rest) (xH b g l) P := by
  refine xS.put hl (xH_get hM) he ⟨hc.1, hc.2, ?_⟩ ?_
  · rw [List.length_mapIdx]
    exact (List.getElem?_eq_some_iff.mp hv).1
  · rw [xH_setL hM hv]
    exact h
theorem xS.ia (hl : xe_lkF q.1 pc = some (.iaload, l0)) (ha : xar a n) (ht : t < n) (h : xS q k (pc + 1) lv (.int (g a t) :: rest) (xH b g l) P) : xS q k pc lv (.int (nI t) :: .ref a :: rest) (xH b g l) P :=
  xS.iaG hl (xH_get (ha.1 b)) (by have := ha.2; omega) (by rw [List.getElem?_mapIdx, List.getElem?_replicate, if_pos ht]; rfl) h
theorem xS.ias (hl : xe_lkF q.1 pc = some (.iastore, l0)) (ha : xar a n) (ht : t < n) (h : xS q k (pc + 1) lv rest (xH b (up g a t x) l) P) : xS q k pc lv (.int x :: .int (nI t) :: .ref a :: rest) (xH b g l) P :=
  xS.iasG hl (xH_get (ha.1 b)) (by have := ha.2; omega) (by rw [List.length_mapIdx, List.length_replicate]; exact ht) (by rw [xH_setI (ha.1 b) (by rw [List.getElem?_replicate, if_pos ht])]; exact h)
theorem xS.al (hl : xe_lkF q.1 pc = some (.arraylength, l0)) (ha : xar a n) (h : xS q k (pc + 1) lv (.int (nI n) :: rest) (xH b g l) P) : xS q k pc lv (.ref a :: rest) (xH b g l) P := by
  refine xS.alen hl (xH_get (ha.1 b)) (by decide) ?_
  rw [List.length_mapIdx, List.length_replicate]
  exact h
theorem xS.alo (hl : xe_lkF q.1 pc = some (.arraylength, l0)) (hM : (xsh b)[a]? = some (ci, fs)) (hci : 12 ≤ ci ∧ ci < 16) (hn : fs.length = n) (h : xS q k (pc + 1) lv (.int (nI n) :: rest) (xH b g l) P) : xS q k pc lv (.ref a :: rest) (xH b g l) P := by
  refine xS.alen hl (xH_get hM) hci ?_
  rw [List.length_mapIdx, hn]
  exact h
theorem xS.aR (hl : xe_lkF q.1 pc = some (.aaload, l0)) (hM : (xsh b)[a]? = some (ci, fs)) (hci : 12 < ci ∧ ci < 16) (hn : t < 2 ^ 31) (hv : fs[t]? = some (.ref c)) (h : xS q k (pc + 1) lv (.ref c :: rest) (xH b g l) P) : xS q k pc lv (.int (nI t) :: .ref a :: rest) (xH b g l) P :=
  xS.aald hl (xH_get hM) hci (nI_pos hn) (v := .ref c) (by rw [nI_clamp hn, List.getElem?_mapIdx, hv]; rfl) rfl h
/-- a virtual call of an object whose kind is known -/
theorem xS.cv {m : Nat} {rs : List (Nat × Nat)} {idx' : Nat} {e : Nat × Nat} {Q : xME} {P1 : Option Value → xM → Prop} (hl : xe_lkF q.1 pc = some (.invokevirtual idx, l0)) (hx : xcF q.2.1 idx = some (idx', 3, m, rs)) (hd : st.drop m = .ref a :: rest) (hM : (xsh b)[a]? = some (ci, fs)) (hr : xfd rs ci = some e) (hm : xmF e.2 = some Q) (hn : ci < 12 ∧ Q.2.2.2.2 = m ∧ xe_sum rest = true) (hT : xT k e.2 (.ref a :: (st.take m).reverse) (xH b g l) P1) (h : ∀ v M1, P1 v M1 → xS q k (pc + 3) lv (v.toList ++ rest) M1 P) : xS q k pc lv st (xH b g l) P :=
  xS.callV hl hx hd (xH_get hM) hr hm hn hT h
theorem xS.csup {mn : Nat} {rs : List (Nat × Nat)} {idx' : Nat} {Q : xME} {P1 : Option Value → xM → Prop} (hl : xe_lkF q.1 pc = some (.invokespecial idx, l0)) (hx : xcF q.2.1 idx = some (idx', 9, mn, rs)) (hm : xmF mn = some Q) (hd : st.drop Q.2.2.2.2 = .ref a :: rest) (hM : (xsh b)[a]? = some (ci, fs)) (hn : ci < 12 ∧ xe_sum rest = true) (hT : xT k mn (.ref a :: (st.take Q.2.2.2.2).reverse) (xH b g l) P1) (h : ∀ v M1, P1 v M1 → xS q k (pc + 3) lv (v.toList ++ rest) M1 P) : xS q k pc lv st (xH b g l) P :=
  xS.callSup hl hx hm hd (xH_get hM) hn hT h
/-- the end of a boolean method -/
theorem xS.retB {p : Prop} {dp : Decidable p} {M : xM} (hl : xe_lkF q.1 pc = some (.ireturn, l0)) (hrt : q.2.2.2.1 = 2) (hP : P (some (.int (@ite _ p dp 1 0))) M) : xS q k pc lv [.int (@ite _ p dp 1 0)] M P := by
  by_cases hp : p
  · rw [if_pos hp] at hP ⊢
    exact xS.ret hl rfl rfl (fun _ _ => by show xe_end q.2.2.2.1 .ireturn [.int 1] M = _; rw [hrt]; rfl) hP
  · rw [if_neg hp] at hP ⊢
    exact xS.ret hl rfl rfl (fun _ _ => by show xe_end q.2.2.2.1 .ireturn [.int 0] M = _; rw [hrt]; rfl) hP
/-- a loop with a state s that keeps I -/
theorem xS.loop {σ : Type} (N : Nat) (lvf : Nat → σ → xL) (Mf : Nat → σ → xM) (I : Nat → σ → Prop) (s0 : σ) {M : xM} (e1 : lv = lvf 0 s0) (e2 : M = Mf 0 s0) (h0 : I 0 s0) (h : ∀ j s, j ≤ N → I j s → (∀ s', j < N → I (j + 1) s' → xS q k pc (lvf (j + 1) s') [] (Mf (j + 1) s') P) → xS q k pc (lvf j s) [] (Mf j s) P) : xS q k pc lv [] M P := by
  have key : ∀ t j s, j + t = N → I j s → xS q k pc (lvf j s) [] (Mf j s) P := by
    intro t
    induction t with
    | zero => intro j s hj hi; exact h j s (by omega) hi (fun s' h1 _ => absurd h1 (by omega))
    | succ t ih => intro j s hj hi; exact h j s (by omega) hi (fun s' _ h2 => ih (j + 1) s' (by omega) h2)
  rw [e1, e2]
  exact key N 0 s0 (by omega) h0
end
section
variable {a b : Int32}
theorem xt_eq (h : xe_holds .eq a b = true) : a = b := of_decide_eq_true h
theorem xt_ne (h : xe_holds .ne a b = true) : ¬ a = b := of_decide_eq_true h
theorem xt_lt (h : xe_holds .lt a b = true) : a < b := of_decide_eq_true h
theorem xt_ge (h : xe_holds .ge a b = true) : b ≤ a := of_decide_eq_true h
theorem xt_gt (h : xe_holds .gt a b = true) : b < a := of_decide_eq_true h
theorem xt_le (h : xe_holds .le a b = true) : a ≤ b := of_decide_eq_true h
theorem xf_eq (h : xe_holds .eq a b = false) : ¬ a = b := of_decide_eq_false h
theorem xf_ne (h : xe_holds .ne a b = false) : a = b := Classical.not_not.mp (of_decide_eq_false h)
theorem xf_lt (h : xe_holds .lt a b = false) : b ≤ a := Int32.not_lt.mp (of_decide_eq_false h)
theorem xf_ge (h : xe_holds .ge a b = false) : a < b := Int32.not_le.mp (of_decide_eq_false h)
theorem xf_gt (h : xe_holds .gt a b = false) : a ≤ b := Int32.not_lt.mp (of_decide_eq_false h)
theorem xf_le (h : xe_holds .le a b = false) : b < a := Int32.not_le.mp (of_decide_eq_false h)
end
def xce (a n : Nat) : Prop := xob a 0 [.ref (a + 1), .int 0] ∧ xar (a + 1) n
def xde (a : Nat) : Prop := xob a 2 [.ref (a + 1), .int 0] ∧ xar (a + 1) 160
def xro (a : Nat) : Prop := xob a 7 [.ref (a + 1), .ref (a + 2), .int 0, .ref (a + 3), .int 0] ∧ xar (a + 1) 6 ∧ xar (a + 2) 6 ∧ xar (a + 3) 16
theorem xce_row : ∀ {r : Nat}, r < 6 → xce (23 + 2 * r) 40
  | 0, _ | 1, _ | 2, _ | 3, _ | 4, _ | 5, _ => ⟨fun _ => rfl, fun _ => rfl, by decide⟩
  | _ + 6, h => absurd h (by omega)
theorem xce_text : ∀ {r : Nat}, r < 4 → xce (35 + 2 * r) 60
  | 0, _ | 1, _ | 2, _ | 3, _ => ⟨fun _ => rfl, fun _ => rfl, by decide⟩
  | _ + 4, h => absurd h (by omega)
theorem xce_trial : xce 15 12 := ⟨fun _ => rfl, fun _ => rfl, by decide⟩
theorem xde_deeds : xde 4 := ⟨fun _ => rfl, fun _ => rfl, by decide⟩
theorem xde_kept : ∀ {r : Nat}, r < 3 → xde (67 + 2 * r)
  | 0, _ | 1, _ | 2, _ => ⟨fun _ => rfl, fun _ => rfl, by decide⟩
  | _ + 3, h => absurd h (by omega)
theorem xro_7 : xro 7 := ⟨fun _ => rfl, ⟨fun _ => rfl, by decide⟩, ⟨fun _ => rfl, by decide⟩, fun _ => rfl, by decide⟩
theorem xro_11 : xro 11 := ⟨fun _ => rfl, ⟨fun _ => rfl, by decide⟩, ⟨fun _ => rfl, by decide⟩, fun _ => rfl, by decide⟩
theorem xsh1_get : ∀ {r : Nat}, r < 6 → xsh_1[r]? = some (.ref (23 + 2 * r))
  | 0, _ | 1, _ | 2, _ | 3, _ | 4, _ | 5, _ => rfl
  | _ + 6, h => absurd h (by omega)
theorem xsh2_get : ∀ {r : Nat}, r < 4 → xsh_2[r]? = some (.ref (35 + 2 * r))
  | 0, _ | 1, _ | 2, _ | 3, _ => rfl
  | _ + 4, h => absurd h (by omega)
theorem xsh6_get : ∀ {r : Nat}, r < 3 → xsh_6[r]? = some (.ref (67 + 2 * r))
  | 0, _ | 1, _ | 2, _ => rfl
  | _ + 3, h => absurd h (by omega)
theorem xsh3_get {r : Nat} (h : r < 24) : xsh_3[r]? = some (.ref (43 + r)) := by
  have : ∀ r : Fin 24, xsh_3[r.val]? = some (.ref (43 + r.val)) := by decide
  exact this ⟨r, h⟩

theorem xar_5 : xar 5 160 := ⟨fun _ => rfl, by decide⟩
theorem xar_8 : xar 8 6 := ⟨fun _ => rfl, by decide⟩
theorem xar_9 : xar 9 6 := ⟨fun _ => rfl, by decide⟩
theorem xar_10 : xar 10 16 := ⟨fun _ => rfl, by decide⟩
theorem xar_12 : xar 12 6 := ⟨fun _ => rfl, by decide⟩
theorem xar_13 : xar 13 6 := ⟨fun _ => rfl, by decide⟩
theorem xar_14 : xar 14 16 := ⟨fun _ => rfl, by decide⟩
theorem xar_16 : xar 16 12 := ⟨fun _ => rfl, by decide⟩
theorem xar_17 : xar 17 6 := ⟨fun _ => rfl, by decide⟩
theorem xar_18 : xar 18 6 := ⟨fun _ => rfl, by decide⟩
theorem xar_20 : xar 20 30 := ⟨fun _ => rfl, by decide⟩
theorem xar_21 : xar 21 30 := ⟨fun _ => rfl, by decide⟩
theorem xar_22 : xar 22 6 := ⟨fun _ => rfl, by decide⟩
theorem xar_24 : xar 24 40 := ⟨fun _ => rfl, by decide⟩
theorem xar_26 : xar 26 40 := ⟨fun _ => rfl, by decide⟩
theorem xar_28 : xar 28 40 := ⟨fun _ => rfl, by decide⟩
theorem xar_30 : xar 30 40 := ⟨fun _ => rfl, by decide⟩
theorem xar_32 : xar 32 40 := ⟨fun _ => rfl, by decide⟩
theorem xar_34 : xar 34 40 := ⟨fun _ => rfl, by decide⟩
theorem xar_36 : xar 36 60 := ⟨fun _ => rfl, by decide⟩
theorem xar_38 : xar 38 60 := ⟨fun _ => rfl, by decide⟩
theorem xar_40 : xar 40 60 := ⟨fun _ => rfl, by decide⟩
theorem xar_42 : xar 42 60 := ⟨fun _ => rfl, by decide⟩
theorem xar_68 : xar 68 160 := ⟨fun _ => rfl, by decide⟩
theorem xar_70 : xar 70 160 := ⟨fun _ => rfl, by decide⟩
theorem xar_72 : xar 72 160 := ⟨fun _ => rfl, by decide⟩
theorem xar_74 : xar 74 6 := ⟨fun _ => rfl, by decide⟩
theorem xar_75 : xar 75 240 := ⟨fun _ => rfl, by decide⟩
theorem xar_76 : xar 76 4 := ⟨fun _ => rfl, by decide⟩
theorem xar_77 : xar 77 240 := ⟨fun _ => rfl, by decide⟩
theorem xar_78 : xar 78 6 := ⟨fun _ => rfl, by decide⟩
theorem xar_79 : xar 79 12 := ⟨fun _ => rfl, by decide⟩
theorem xar_80 : xar 80 16 := ⟨fun _ => rfl, by decide⟩
theorem xar_81 : xar 81 6 := ⟨fun _ => rfl, by decide⟩
theorem xar_82 : xar 82 12 := ⟨fun _ => rfl, by decide⟩
theorem xar_83 : xar 83 16 := ⟨fun _ => rfl, by decide⟩
theorem xar_84 : xar 84 40 := ⟨fun _ => rfl, by decide⟩
theorem xar_85 : xar 85 40 := ⟨fun _ => rfl, by decide⟩
theorem xar_86 : xar 86 3 := ⟨fun _ => rfl, by decide⟩
theorem xar_87 : xar 87 120 := ⟨fun _ => rfl, by decide⟩
theorem xar_88 : xar 88 120 := ⟨fun _ => rfl, by decide⟩
theorem xar_89 : xar 89 6 := ⟨fun _ => rfl, by decide⟩
theorem xar_90 : xar 90 13 := ⟨fun _ => rfl, by decide⟩
theorem xar_91 : xar 91 13 := ⟨fun _ => rfl, by decide⟩
theorem xar_92 : xar 92 13 := ⟨fun _ => rfl, by decide⟩
