/-! LimpMirror$Cells: a ROW or a TEXT at a, its numbers ns at c, its size sz -/
section
variable {M : xM} {a c : Nat} {sz i n : Int32} {ns : List Int32}
set_option maxRecDepth 10000 in
theorem c_X0_isMissing (hA : M[a]? = some (0, [.ref c, .int sz])) : xT 1 1 [.ref a] M (fun r M' => M' = M ∧ r = some (.int (if sz = -1 then 1 else 0))) := by
  refine xT.of rfl (Nat.le_of_ble_eq_true rfl) ?_
  dsimp only [lv_args]
  refine xS.s1 rfl rfl ?_
  dsimp only [Nat.reduceAdd]
  refine xS.get rfl (by assumption) rfl (by decide) rfl ?_
  dsimp only [Nat.reduceAdd]
  refine xS.s1 rfl rfl ?_
  dsimp only [Nat.reduceAdd, xi_m1]
  refine xS.br (c := .ne) (off := 7) (l := 3) rfl rfl (fun h5 => ?_) (fun h5 => ?_)
  · have g5 := of_decide_eq_true h5
    refine xS.s1 rfl rfl ?_
    dsimp only [Nat.reduceAdd, xi_0]
    refine xS.ret rfl rfl rfl (fun _ _ => rfl) ?_
    exact ⟨rfl, by split <;> first | rfl | (exfalso; simp_all)⟩
  · have g5 := of_decide_eq_false h5
    refine xS.s1 rfl rfl ?_
    dsimp only [Nat.reduceAdd, xi_1]
    refine xS.s1 rfl rfl ?_
    dsimp only [Nat.reduceAdd]
    refine xS.ret rfl rfl rfl (fun _ _ => rfl) ?_
    exact ⟨rfl, by split <;> first | rfl | (exfalso; simp_all)⟩
set_option maxRecDepth 10000 in
theorem c_X0_size (hA : M[a]? = some (0, [.ref c, .int sz])) : xT 1 2 [.ref a] M (fun r M' => M' = M ∧ r = some (.int sz)) := by
  refine xT.of rfl (Nat.le_of_ble_eq_true rfl) ?_
  dsimp only [lv_args]
  refine xS.s1 rfl rfl ?_
  dsimp only [Nat.reduceAdd]
  refine xS.get rfl (by assumption) rfl (by decide) rfl ?_
  dsimp only [Nat.reduceAdd]
  refine xS.ret rfl rfl rfl (fun _ _ => rfl) ?_
  exact ⟨rfl, rfl⟩
set_option maxRecDepth 10000 in
theorem c_X0_has (hA : M[a]? = some (0, [.ref c, .int sz])) (hB : M[c]? = some (12, xIs ns)) : xT 1 3 [.ref a, .int i] M (fun r M' => M' = M ∧ r = some (.int (if 0 ≤ i ∧ i < sz ∧ i < Int32.ofNat ns.length then 1 else 0))) := by
  refine xT.of rfl (Nat.le_of_ble_eq_true rfl) ?_
  dsimp only [lv_args]
  refine xS.s1 rfl rfl ?_
  dsimp only [Nat.reduceAdd]
  refine xS.br0 (c := .lt) (off := 24) (l := 3) rfl rfl (fun h1 => ?_) (fun h1 => ?_)
  · have g1 := of_decide_eq_true h1
    refine xS.s1 rfl rfl ?_
    dsimp only [Nat.reduceAdd, xi_0]
    refine xS.ret rfl rfl rfl (fun _ _ => rfl) ?_
    exact ⟨rfl, by split <;> first | rfl | (exfalso; simp only [Int32.le_iff_toInt_le, Int32.lt_iff_toInt_lt, Int32.reduceToInt] at *; omega)⟩
  · have g1 := of_decide_eq_false h1
    refine xS.s1 rfl rfl ?_
    dsimp only [Nat.reduceAdd]
    refine xS.s1 rfl rfl ?_
    dsimp only [Nat.reduceAdd]
    refine xS.get rfl (by assumption) rfl (by decide) rfl ?_
    dsimp only [Nat.reduceAdd]
    refine xS.br (c := .ge) (off := 16) (l := 3) rfl rfl (fun h9 => ?_) (fun h9 => ?_)
    · have g9 := of_decide_eq_true h9
      refine xS.s1 rfl rfl ?_
      dsimp only [Nat.reduceAdd, xi_0]
      refine xS.ret rfl rfl rfl (fun _ _ => rfl) ?_
      exact ⟨rfl, by split <;> first | rfl | (exfalso; simp only [Int32.le_iff_toInt_le, Int32.lt_iff_toInt_lt, Int32.reduceToInt] at *; omega)⟩
    · have g9 := of_decide_eq_false h9
      refine xS.s1 rfl rfl ?_
      dsimp only [Nat.reduceAdd]
      refine xS.s1 rfl rfl ?_
      dsimp only [Nat.reduceAdd]
      refine xS.get rfl (by assumption) rfl (by decide) rfl ?_
      dsimp only [Nat.reduceAdd]
      refine xS.alen rfl (by assumption) (by decide) ?_
      dsimp only [Nat.reduceAdd]
      rw [List.length_map]
      refine xS.br (c := .ge) (off := 7) (l := 3) rfl rfl (fun h18 => ?_) (fun h18 => ?_)
      · have g18 := of_decide_eq_true h18
        refine xS.s1 rfl rfl ?_
        dsimp only [Nat.reduceAdd, xi_0]
        refine xS.ret rfl rfl rfl (fun _ _ => rfl) ?_
        exact ⟨rfl, by split <;> first | rfl | (exfalso; simp only [Int32.le_iff_toInt_le, Int32.lt_iff_toInt_lt, Int32.reduceToInt] at *; omega)⟩
      · have g18 := of_decide_eq_false h18
        refine xS.s1 rfl rfl ?_
        dsimp only [Nat.reduceAdd, xi_1]
        refine xS.s1 rfl rfl ?_
        dsimp only [Nat.reduceAdd]
        refine xS.ret rfl rfl rfl (fun _ _ => rfl) ?_
        exact ⟨rfl, by split <;> first | rfl | (exfalso; simp only [Int32.le_iff_toInt_le, Int32.lt_iff_toInt_lt, Int32.reduceToInt] at *; omega)⟩
set_option maxRecDepth 10000 in
theorem c_X0_hasPlaces (hA : M[a]? = some (0, [.ref c, .int sz])) : xT 1 4 [.ref a, .int i, .int n] M (fun r M' => M' = M ∧ r = some (.int (if 0 ≤ i ∧ i ≤ sz ∧ n ≤ sz - i then 1 else 0))) := by
  refine xT.of rfl (Nat.le_of_ble_eq_true rfl) ?_
  dsimp only [lv_args]
  refine xS.s1 rfl rfl ?_
  dsimp only [Nat.reduceAdd]
  refine xS.br0 (c := .lt) (off := 25) (l := 3) rfl rfl (fun h1 => ?_) (fun h1 => ?_)
  · have g1 := of_decide_eq_true h1
    refine xS.s1 rfl rfl ?_
    dsimp only [Nat.reduceAdd, xi_0]
    refine xS.ret rfl rfl rfl (fun _ _ => rfl) ?_
    exact ⟨rfl, by split <;> first | rfl | (exfalso; simp only [Int32.le_iff_toInt_le, Int32.lt_iff_toInt_lt, Int32.reduceToInt] at *; omega)⟩
  · have g1 := of_decide_eq_false h1
    refine xS.s1 rfl rfl ?_
    dsimp only [Nat.reduceAdd]
    refine xS.s1 rfl rfl ?_
    dsimp only [Nat.reduceAdd]
    refine xS.get rfl (by assumption) rfl (by decide) rfl ?_
    dsimp only [Nat.reduceAdd]
    refine xS.br (c := .gt) (off := 17) (l := 3) rfl rfl (fun h9 => ?_) (fun h9 => ?_)
    · have g9 := of_decide_eq_true h9
      refine xS.s1 rfl rfl ?_
      dsimp only [Nat.reduceAdd, xi_0]
      refine xS.ret rfl rfl rfl (fun _ _ => rfl) ?_
      exact ⟨rfl, by split <;> first | rfl | (exfalso; simp only [Int32.le_iff_toInt_le, Int32.lt_iff_toInt_lt, Int32.reduceToInt] at *; omega)⟩
    · have g9 := of_decide_eq_false h9
      refine xS.s1 rfl rfl ?_
      dsimp only [Nat.reduceAdd]
      refine xS.s1 rfl rfl ?_
      dsimp only [Nat.reduceAdd]
      refine xS.get rfl (by assumption) rfl (by decide) rfl ?_
      dsimp only [Nat.reduceAdd]
      refine xS.s1 rfl rfl ?_
      dsimp only [Nat.reduceAdd]
      refine xS.s1 rfl rfl ?_
      dsimp only [Nat.reduceAdd]
      refine xS.br (c := .gt) (off := 7) (l := 3) rfl rfl (fun h19 => ?_) (fun h19 => ?_)
      · have g19 := of_decide_eq_true h19
        refine xS.s1 rfl rfl ?_
        dsimp only [Nat.reduceAdd, xi_0]
        refine xS.ret rfl rfl rfl (fun _ _ => rfl) ?_
        exact ⟨rfl, by split <;> first | rfl | (exfalso; simp only [Int32.le_iff_toInt_le, Int32.lt_iff_toInt_lt, Int32.reduceToInt] at *; omega)⟩
      · have g19 := of_decide_eq_false h19
        refine xS.s1 rfl rfl ?_
        dsimp only [Nat.reduceAdd, xi_1]
        refine xS.s1 rfl rfl ?_
        dsimp only [Nat.reduceAdd]
        refine xS.ret rfl rfl rfl (fun _ _ => rfl) ?_
        exact ⟨rfl, by split <;> first | rfl | (exfalso; simp only [Int32.le_iff_toInt_le, Int32.lt_iff_toInt_lt, Int32.reduceToInt] at *; omega)⟩
set_option maxRecDepth 10000 in
theorem c_X0_drop (hA : M[a]? = some (0, [.ref c, .int sz])) : xT 1 8 [.ref a] M (fun r M' => M' = M.set a (0, [.ref c, .int (-1)]) ∧ r = none) := by
  refine xT.of rfl (Nat.le_of_ble_eq_true rfl) ?_
  dsimp only [lv_args]
  refine xS.s1 rfl rfl ?_
  dsimp only [Nat.reduceAdd]
  refine xS.s1 rfl rfl ?_
  dsimp only [Nat.reduceAdd, xi_m1]
  refine xS.put rfl (by assumption) rfl ⟨⟨by decide, rfl⟩, ⟨rfl, by decide, by decide⟩, Nat.le_of_ble_eq_true rfl⟩ ?_
  dsimp only [Nat.reduceAdd]
  refine xS.ret rfl rfl rfl (fun _ _ => rfl) ?_
  exact ⟨rfl, rfl⟩
end
