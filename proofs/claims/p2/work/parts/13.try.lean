set_option maxRecDepth 10000 in
theorem c_isRow (M : xM) (x : Int32) : xT 1 123 [.int x] M (some (.int (if 0 ≤ x ∧ x < 6 then 1 else 0))) M := by
  refine xT.of rfl (Nat.le_of_ble_eq_true rfl) ?_
  dsimp only [lv_args]
  refine xS.s1 rfl rfl ?_
  dsimp only [Nat.reduceAdd]
  refine xS.br0 (c := .lt) (off := 13) (l := 3) rfl rfl (fun h1 => ?_) (fun h1 => ?_)
  · have h2 := of_decide_eq_true h1
    rw [if_neg (fun h => absurd h2 (Int32.not_lt.mpr h.1))]
    refine xS.s1 rfl rfl ?_
    dsimp only [Nat.reduceAdd]
    exact xS.ret rfl rfl rfl (fun _ _ => rfl)
  · have h2 := of_decide_eq_false h1
    refine xS.s1 rfl rfl ?_
    dsimp only [Nat.reduceAdd]
    refine xS.s1 rfl rfl ?_
    dsimp only [Nat.reduceAdd]
    refine xS.br (c := .ge) (off := 7) (l := 3) rfl rfl (fun h3 => ?_) (fun h3 => ?_)
    · have h4 := of_decide_eq_true h3
      rw [if_neg (fun h => absurd h.2 (Int32.not_lt.mpr h4))]
      refine xS.s1 rfl rfl ?_
      dsimp only [Nat.reduceAdd]
      exact xS.ret rfl rfl rfl (fun _ _ => rfl)
    · have h4 := of_decide_eq_false h3
      rw [if_pos ⟨Int32.not_lt.mp h2, Int32.not_le.mp h4⟩]
      refine xS.s1 rfl rfl ?_
      dsimp only [Nat.reduceAdd]
      refine xS.s1 rfl rfl ?_
      dsimp only [Nat.reduceAdd]
      exact xS.ret rfl rfl rfl (fun _ _ => rfl)
