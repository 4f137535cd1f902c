/-! LimpMirror$Cells.open: the first m places become v -/
def xfl (v : Int32) (j : Nat) (ns : List Int32) : List Int32 := List.replicate j v ++ ns.drop j
theorem xfl_len {v : Int32} {j : Nat} {ns : List Int32} (h : j ≤ ns.length) : (xfl v j ns).length = ns.length := by
  unfold xfl
  rw [List.length_append, List.length_replicate, List.length_drop]
  omega
theorem xfl_set {v : Int32} {j : Nat} {ns : List Int32} (h : j < ns.length) : (xfl v j ns).set j v = xfl v (j + 1) ns := by
  unfold xfl
  apply List.ext_getElem?
  intro i
  rw [List.getElem?_set, List.length_append, List.length_replicate, List.length_drop]
  by_cases e : j = i
  · subst e
    rw [if_pos rfl, if_pos (by omega), List.getElem?_append_left (by rw [List.length_replicate]; omega), List.getElem?_replicate, if_pos (by omega)]
  · rw [if_neg e]
    rcases Nat.lt_or_ge i j with h1 | h1
    · rw [List.getElem?_append_left (by rw [List.length_replicate]; omega), List.getElem?_append_left (by rw [List.length_replicate]; omega), List.getElem?_replicate, List.getElem?_replicate, if_pos h1, if_pos (by omega)]
    · rw [List.getElem?_append_right (by rw [List.length_replicate]; omega), List.getElem?_append_right (by rw [List.length_replicate]; omega), List.length_replicate, List.length_replicate, List.getElem?_drop, List.getElem?_drop]
      congr 1
      omega
section
variable {M : xM} {a c m k : Nat} {n0 v : Int32} {ns : List Int32}
set_option maxRecDepth 10000 in
theorem c_X0_open_loop (hA : M[a]? = some (0, [.ref c, .int (nI m)])) (hc : c < M.length) (hac : c ≠ a) (hm : m ≤ ns.length) (hn : ns.length < 2 ^ 31) : ∀ t j, j + t = m → xS (xt_7, 0, 4, 0, false) k 19 [(3, .int (nI j)), (0, .ref a), (1, .int n0), (2, .int v)] [] (M.set c (12, xIs (xfl v j ns))) (fun r M' => M' = M.set c (12, xIs (xfl v m ns)) ∧ r = none) := by
  intro t
  induction t with
  | zero =>
    intro j hj
    have e : j = m := by omega
    subst e
    have hA1 : (M.set c (12, xIs (xfl v j ns)))[a]? = some (0, [.ref c, .int (nI j)]) := by rw [List.getElem?_set_ne hac]; exact hA
    refine xS.s1 rfl rfl ?_
    dsimp only [Nat.reduceAdd]
    refine xS.s1 rfl rfl ?_
    dsimp only [Nat.reduceAdd]
    refine xS.get rfl hA1 rfl (by decide) rfl ?_
    dsimp only [Nat.reduceAdd]
    refine xS.br (c := .ge) (off := 16) (l := 3) rfl rfl (fun h24 => ?_) (fun h24 => ?_)
    · refine xS.ret rfl rfl rfl (fun _ _ => rfl) ?_
      exact ⟨rfl, rfl⟩
    · exact absurd (Int32.le_refl _) (of_decide_eq_false h24)
  | succ t ih =>
    intro j hj
    have hA1 : (M.set c (12, xIs (xfl v j ns)))[a]? = some (0, [.ref c, .int (nI m)]) := by rw [List.getElem?_set_ne hac]; exact hA
    have hB1 : (M.set c (12, xIs (xfl v j ns)))[c]? = some (12, xIs (xfl v j ns)) := List.getElem?_set_self hc
    refine xS.s1 rfl rfl ?_
    dsimp only [Nat.reduceAdd]
    refine xS.s1 rfl rfl ?_
    dsimp only [Nat.reduceAdd]
    refine xS.get rfl hA1 rfl (by decide) rfl ?_
    dsimp only [Nat.reduceAdd]
    refine xS.br (c := .ge) (off := 16) (l := 3) rfl rfl (fun h24 => ?_) (fun h24 => ?_)
    · exact absurd ((nI_leI (by omega) (by omega)).mp (of_decide_eq_true h24)) (by omega)
    · refine xS.s1 rfl rfl ?_
      dsimp only [Nat.reduceAdd]
      refine xS.get rfl hA1 rfl (by decide) rfl ?_
      dsimp only [Nat.reduceAdd]
      refine xS.s1 rfl rfl ?_
      dsimp only [Nat.reduceAdd]
      refine xS.s1 rfl rfl ?_
      dsimp only [Nat.reduceAdd]
      refine xS.iast rfl hB1 (nI_pos (by omega)) (by rw [nI_clamp (by omega), xfl_len (by omega)]; omega) ?_
      dsimp only [Nat.reduceAdd]
      rw [nI_clamp (by omega), xfl_set (by omega), List.set_set]
      refine xS.s1 rfl rfl ?_
      dsimp only [Nat.reduceAdd, xi_1]
      refine xS.s1 rfl rfl ?_
      rw [nI_1]
      exact ih (j + 1) (by omega)
end
