/-! LimpMirror$Cells: get, set -/
theorem xix {i : Int32} {n : Nat} (h0 : 0 ≤ i) (h : i < Int32.ofNat n) (hn : n < 2 ^ 31) : i.toNatClampNeg < n := by
  obtain ⟨j, hj, rfl⟩ := nI_of (x := i) (Int32.not_lt.mpr h0)
  rw [nI_clamp hj]
  exact (nI_ltI hj hn).mp h
theorem xif0 {p : Prop} [Decidable p] (h : (if p then (1 : Int32) else 0) = 0) : ¬ p := fun hp => by
  rw [if_pos hp] at h
  exact absurd h (by decide)
theorem xif1 {p : Prop} [Decidable p] (h : ¬ (if p then (1 : Int32) else 0) = 0) : p := by
  by_cases hp : p
  · exact hp
  · rw [if_neg hp] at h
    exact absurd rfl h
section
variable {M : xM} {a c : Nat} {sz i x : Int32} {ns : List Int32}
set_option maxRecDepth 10000 in
theorem c_X0_get (hA : M[a]? = some (0, [.ref c, .int sz])) (hB : M[c]? = some (12, xIs ns)) (hn : ns.length < 2 ^ 31) : xT 2 5 [.ref a, .int i] M (fun r M' => M' = M ∧ r = some (.int (if 0 ≤ i ∧ i < sz ∧ i < Int32.ofNat ns.length then ns.getD i.toNatClampNeg 0 else 0))) := by
  refine xT.of rfl (Nat.le_of_ble_eq_true rfl) ?_
  dsimp only [lv_args]
  refine xS.s1 rfl rfl ?_
  dsimp only [Nat.reduceAdd]
  refine xS.s1 rfl rfl ?_
  dsimp only [Nat.reduceAdd]
  refine xS.callV rfl rfl rfl (by assumption) rfl rfl ⟨by decide, rfl, rfl⟩ (c_X0_has hA hB) (fun v M1 hv => ?_)
  obtain ⟨rfl, rfl⟩ := hv
  dsimp only [Nat.reduceAdd, Option.toList, List.cons_append, List.nil_append]
  refine xS.br0 (c := .eq) (off := 12) (l := 3) rfl rfl (fun h5 => ?_) (fun h5 => ?_)
  · have g5 := xif0 (of_decide_eq_true h5)
    refine xS.s1 rfl rfl ?_
    dsimp only [Nat.reduceAdd, xi_0]
    refine xS.ret rfl rfl rfl (fun _ _ => rfl) ?_
    exact ⟨rfl, by rw [if_neg g5]⟩
  · have g5 := xif1 (of_decide_eq_false h5)
    refine xS.s1 rfl rfl ?_
    dsimp only [Nat.reduceAdd]
    refine xS.get rfl (by assumption) rfl (by decide) rfl ?_
    dsimp only [Nat.reduceAdd]
    refine xS.s1 rfl rfl ?_
    dsimp only [Nat.reduceAdd]
    have hlt := xix g5.1 g5.2.2 hn
    refine xS.iald rfl (by assumption) (Int32.not_lt.mpr g5.1) (x := ns.getD i.toNatClampNeg 0) (by rw [List.getD_eq_getElem?_getD, List.getElem?_eq_getElem hlt]; rfl) ?_
    dsimp only [Nat.reduceAdd]
    refine xS.s1 rfl rfl ?_
    dsimp only [Nat.reduceAdd]
    refine xS.ret rfl rfl rfl (fun _ _ => rfl) ?_
    exact ⟨rfl, by rw [if_pos g5]⟩
set_option maxRecDepth 10000 in
theorem c_X0_set (hA : M[a]? = some (0, [.ref c, .int sz])) (hB : M[c]? = some (12, xIs ns)) (hn : ns.length < 2 ^ 31) : xT 2 6 [.ref a, .int i, .int x] M (fun r M' => M' = (if 0 ≤ i ∧ i < sz ∧ i < Int32.ofNat ns.length then M.set c (12, xIs (ns.set i.toNatClampNeg x)) else M) ∧ r = none) := by
  refine xT.of rfl (Nat.le_of_ble_eq_true rfl) ?_
  dsimp only [lv_args]
  refine xS.s1 rfl rfl ?_
  dsimp only [Nat.reduceAdd]
  refine xS.s1 rfl rfl ?_
  dsimp only [Nat.reduceAdd]
  refine xS.callV rfl rfl rfl (by assumption) rfl rfl ⟨by decide, rfl, rfl⟩ (c_X0_has hA hB) (fun v M1 hv => ?_)
  obtain ⟨rfl, rfl⟩ := hv
  dsimp only [Nat.reduceAdd, Option.toList, List.cons_append, List.nil_append]
  refine xS.br0 (c := .eq) (off := 10) (l := 3) rfl rfl (fun h5 => ?_) (fun h5 => ?_)
  · have g5 := xif0 (of_decide_eq_true h5)
    refine xS.ret rfl rfl rfl (fun _ _ => rfl) ?_
    exact ⟨by rw [if_neg g5], rfl⟩
  · have g5 := xif1 (of_decide_eq_false h5)
    refine xS.s1 rfl rfl ?_
    dsimp only [Nat.reduceAdd]
    refine xS.get rfl (by assumption) rfl (by decide) rfl ?_
    dsimp only [Nat.reduceAdd]
    refine xS.s1 rfl rfl ?_
    dsimp only [Nat.reduceAdd]
    refine xS.s1 rfl rfl ?_
    dsimp only [Nat.reduceAdd]
    have hlt := xix g5.1 g5.2.2 hn
    refine xS.iast rfl (by assumption) (Int32.not_lt.mpr g5.1) hlt ?_
    dsimp only [Nat.reduceAdd]
    refine xS.ret rfl rfl rfl (fun _ _ => rfl) ?_
    exact ⟨by rw [if_pos g5], rfl⟩
end
