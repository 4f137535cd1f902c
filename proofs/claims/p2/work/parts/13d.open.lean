/-! LimpMirror$Cells.open with a size that there is room for -/
section
variable {M : xM} {a c m : Nat} {sz v : Int32} {ns : List Int32}
set_option maxRecDepth 10000 in
theorem c_X0_open (hA : M[a]? = some (0, [.ref c, .int sz])) (hB : M[c]? = some (12, xIs ns)) (hac : c ≠ a) (hm : m ≤ ns.length) (hn : ns.length < 2 ^ 31) : xT 1 7 [.ref a, .int (nI m), .int v] M (fun r M' => M' = (M.set a (0, [.ref c, .int (nI m)])).set c (12, xIs (xfl v m ns)) ∧ r = none) := by
  have hla : a < M.length := (List.getElem?_eq_some_iff.mp hA).1
  have hlc : c < M.length := (List.getElem?_eq_some_iff.mp hB).1
  refine xT.of rfl (Nat.le_of_ble_eq_true rfl) ?_
  show xS (xt_7, 0, 4, 0, false) 0 0 [(0, .ref a), (1, .int (nI m)), (2, .int v)] [] M _
  refine xS.s1 rfl rfl ?_
  dsimp only [Nat.reduceAdd]
  refine xS.s1 rfl rfl ?_
  dsimp only [Nat.reduceAdd, xi_0]
  refine xS.s1 rfl rfl ?_
  dsimp only [Nat.reduceAdd]
  refine xS.s1 rfl rfl ?_
  dsimp only [Nat.reduceAdd]
  refine xS.get rfl hA rfl (by decide) rfl ?_
  dsimp only [Nat.reduceAdd]
  refine xS.alen rfl hB (by decide) ?_
  dsimp only [Nat.reduceAdd]
  rw [List.length_map]
  refine xS.s3 (pc' := 11) (M1 := M) (st' := [.int (if Int32.ofNat ns.length < nI m then Int32.ofNat ns.length else nI m), .int 0, .ref a]) rfl rfl rfl (fun _ _ => rfl) ?_
  have e1 : (if Int32.ofNat ns.length < nI m then Int32.ofNat ns.length else nI m) = nI m := if_neg (nI_nlt (b := m) (a := ns.length) hm hn)
  rw [e1]
  refine xS.s3 (pc' := 14) (M1 := M) (st' := [.int (if 0 < nI m then nI m else 0), .ref a]) rfl rfl rfl (fun _ _ => rfl) ?_
  have e2 : (if 0 < nI m then nI m else 0) = nI m := by
    split
    · rfl
    · rename_i h
      cases m with
      | zero => rfl
      | succ m => exact absurd (nI_lt (a := 0) (b := m + 1) (by omega) (by omega)) h
  rw [e2]
  refine xS.put rfl hA rfl ⟨⟨by decide, rfl⟩, ⟨rfl, by decide, by decide⟩, Nat.le_of_ble_eq_true rfl⟩ ?_
  dsimp only [Nat.reduceAdd]
  refine xS.s1 rfl rfl ?_
  dsimp only [Nat.reduceAdd, xi_0]
  refine xS.s1 rfl rfl ?_
  have hA2 : (M.set a (0, [.ref c, .int (nI m)]))[a]? = some (0, [.ref c, .int (nI m)]) := List.getElem?_set_self hla
  have hB2 : (M.set a (0, [.ref c, .int (nI m)]))[c]? = some (12, xIs ns) := by rw [List.getElem?_set_ne (Ne.symm hac)]; exact hB
  have key := c_X0_open_loop (k := 0) (n0 := nI m) (v := v) (ns := ns) hA2 (by rw [List.length_set]; exact hlc) hac hm hn m 0 (by omega)
  have e3 : (M.set a (0, [.ref c, .int (nI m)])).set c (12, xIs (xfl v 0 ns)) = M.set a (0, [.ref c, .int (nI m)]) := by
    apply List.ext_getElem?
    intro i
    by_cases h : c = i
    · subst h
      rw [List.getElem?_set_self (by rw [List.length_set]; exact hlc), hB2]
      rfl
    · rw [List.getElem?_set_ne h]
  rw [e3] at key
  exact key
end
