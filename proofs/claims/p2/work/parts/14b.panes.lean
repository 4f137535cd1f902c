/-! panes: (kind, delay) of each of the six sorts of objects; Deeds, Room -/
section
variable {M : xM} {a c f h g t : Nat} {sz x y z i n gl te kd dl : Int32} {fa hs ls ts : List Int32}
set_option maxRecDepth 10000 in
theorem c_X7_kind_3 (hA : M[a]? = some (3, [.int kd, .int dl])) : xT 1 48 [.ref a] M (fun r M' => M' = M ∧ r = some (.int kd)) := by
  refine xT.of rfl (Nat.le_of_ble_eq_true rfl) ?_
  dsimp only [lv_args]
  refine xS.s1 rfl rfl ?_
  dsimp only [Nat.reduceAdd]
  refine xS.get rfl (by assumption) rfl (by decide) rfl ?_
  dsimp only [Nat.reduceAdd]
  refine xS.ret rfl rfl rfl (fun _ _ => rfl) ?_
  exact ⟨rfl, rfl⟩
set_option maxRecDepth 10000 in
theorem c_X7_delay_3 (hA : M[a]? = some (3, [.int kd, .int dl])) : xT 1 49 [.ref a] M (fun r M' => M' = M ∧ r = some (.int dl)) := by
  refine xT.of rfl (Nat.le_of_ble_eq_true rfl) ?_
  dsimp only [lv_args]
  refine xS.s1 rfl rfl ?_
  dsimp only [Nat.reduceAdd]
  refine xS.get rfl (by assumption) rfl (by decide) rfl ?_
  dsimp only [Nat.reduceAdd]
  refine xS.ret rfl rfl rfl (fun _ _ => rfl) ?_
  exact ⟨rfl, rfl⟩
set_option maxRecDepth 10000 in
theorem c_X7_isOf_3 (hA : M[a]? = some (3, [.int kd, .int dl])) : xT 1 50 [.ref a, .int x] M (fun r M' => M' = M ∧ r = some (.int (if x = kd ∨ x = 0 then 1 else 0))) := by
  refine xT.of rfl (Nat.le_of_ble_eq_true rfl) ?_
  dsimp only [lv_args]
  refine xS.s1 rfl rfl ?_
  dsimp only [Nat.reduceAdd]
  refine xS.s1 rfl rfl ?_
  dsimp only [Nat.reduceAdd]
  refine xS.get rfl (by assumption) rfl (by decide) rfl ?_
  dsimp only [Nat.reduceAdd]
  refine xS.br (c := .eq) (off := 7) (l := 3) rfl rfl (fun h5 => ?_) (fun h5 => ?_)
  · have g5 := of_decide_eq_true h5
    refine xS.s1 rfl rfl ?_
    dsimp only [Nat.reduceAdd, xi_1]
    refine xS.s1 rfl rfl ?_
    dsimp only [Nat.reduceAdd]
    refine xS.ret rfl rfl rfl (fun _ _ => rfl) ?_
    exact ⟨rfl, by split <;> first | rfl | (exfalso; simp_all)⟩
  · have g5 := of_decide_eq_false h5
    refine xS.s1 rfl rfl ?_
    dsimp only [Nat.reduceAdd]
    refine xS.br0 (c := .ne) (off := 7) (l := 3) rfl rfl (fun h9 => ?_) (fun h9 => ?_)
    · have g9 := of_decide_eq_true h9
      refine xS.s1 rfl rfl ?_
      dsimp only [Nat.reduceAdd, xi_0]
      refine xS.ret rfl rfl rfl (fun _ _ => rfl) ?_
      exact ⟨rfl, by split <;> first | rfl | (exfalso; simp_all)⟩
    · have g9 := of_decide_eq_false h9
      refine xS.s1 rfl rfl ?_
      dsimp only [Nat.reduceAdd, xi_1]
      refine xS.s1 rfl rfl ?_
      dsimp only [Nat.reduceAdd]
      refine xS.ret rfl rfl rfl (fun _ _ => rfl) ?_
      exact ⟨rfl, by split <;> first | rfl | (exfalso; simp_all)⟩
set_option maxRecDepth 10000 in
theorem c_X7_kind_4 (hA : M[a]? = some (4, [.int kd, .int dl])) : xT 1 48 [.ref a] M (fun r M' => M' = M ∧ r = some (.int kd)) := by
  refine xT.of rfl (Nat.le_of_ble_eq_true rfl) ?_
  dsimp only [lv_args]
  refine xS.s1 rfl rfl ?_
  dsimp only [Nat.reduceAdd]
  refine xS.get rfl (by assumption) rfl (by decide) rfl ?_
  dsimp only [Nat.reduceAdd]
  refine xS.ret rfl rfl rfl (fun _ _ => rfl) ?_
  exact ⟨rfl, rfl⟩
set_option maxRecDepth 10000 in
theorem c_X7_delay_4 (hA : M[a]? = some (4, [.int kd, .int dl])) : xT 1 49 [.ref a] M (fun r M' => M' = M ∧ r = some (.int dl)) := by
  refine xT.of rfl (Nat.le_of_ble_eq_true rfl) ?_
  dsimp only [lv_args]
  refine xS.s1 rfl rfl ?_
  dsimp only [Nat.reduceAdd]
  refine xS.get rfl (by assumption) rfl (by decide) rfl ?_
  dsimp only [Nat.reduceAdd]
  refine xS.ret rfl rfl rfl (fun _ _ => rfl) ?_
  exact ⟨rfl, rfl⟩
set_option maxRecDepth 10000 in
theorem c_X7_isOf_4 (hA : M[a]? = some (4, [.int kd, .int dl])) : xT 1 50 [.ref a, .int x] M (fun r M' => M' = M ∧ r = some (.int (if x = kd ∨ x = 0 then 1 else 0))) := by
  refine xT.of rfl (Nat.le_of_ble_eq_true rfl) ?_
  dsimp only [lv_args]
  refine xS.s1 rfl rfl ?_
  dsimp only [Nat.reduceAdd]
  refine xS.s1 rfl rfl ?_
  dsimp only [Nat.reduceAdd]
  refine xS.get rfl (by assumption) rfl (by decide) rfl ?_
  dsimp only [Nat.reduceAdd]
  refine xS.br (c := .eq) (off := 7) (l := 3) rfl rfl (fun h5 => ?_) (fun h5 => ?_)
  · have g5 := of_decide_eq_true h5
    refine xS.s1 rfl rfl ?_
    dsimp only [Nat.reduceAdd, xi_1]
    refine xS.s1 rfl rfl ?_
    dsimp only [Nat.reduceAdd]
    refine xS.ret rfl rfl rfl (fun _ _ => rfl) ?_
    exact ⟨rfl, by split <;> first | rfl | (exfalso; simp_all)⟩
  · have g5 := of_decide_eq_false h5
    refine xS.s1 rfl rfl ?_
    dsimp only [Nat.reduceAdd]
    refine xS.br0 (c := .ne) (off := 7) (l := 3) rfl rfl (fun h9 => ?_) (fun h9 => ?_)
    · have g9 := of_decide_eq_true h9
      refine xS.s1 rfl rfl ?_
      dsimp only [Nat.reduceAdd, xi_0]
      refine xS.ret rfl rfl rfl (fun _ _ => rfl) ?_
      exact ⟨rfl, by split <;> first | rfl | (exfalso; simp_all)⟩
    · have g9 := of_decide_eq_false h9
      refine xS.s1 rfl rfl ?_
      dsimp only [Nat.reduceAdd, xi_1]
      refine xS.s1 rfl rfl ?_
      dsimp only [Nat.reduceAdd]
      refine xS.ret rfl rfl rfl (fun _ _ => rfl) ?_
      exact ⟨rfl, by split <;> first | rfl | (exfalso; simp_all)⟩
set_option maxRecDepth 10000 in
theorem c_X7_kind_5 (hA : M[a]? = some (5, [.int kd, .int dl])) : xT 1 48 [.ref a] M (fun r M' => M' = M ∧ r = some (.int kd)) := by
  refine xT.of rfl (Nat.le_of_ble_eq_true rfl) ?_
  dsimp only [lv_args]
  refine xS.s1 rfl rfl ?_
  dsimp only [Nat.reduceAdd]
  refine xS.get rfl (by assumption) rfl (by decide) rfl ?_
  dsimp only [Nat.reduceAdd]
  refine xS.ret rfl rfl rfl (fun _ _ => rfl) ?_
  exact ⟨rfl, rfl⟩
set_option maxRecDepth 10000 in
theorem c_X7_delay_5 (hA : M[a]? = some (5, [.int kd, .int dl])) : xT 1 49 [.ref a] M (fun r M' => M' = M ∧ r = some (.int dl)) := by
  refine xT.of rfl (Nat.le_of_ble_eq_true rfl) ?_
  dsimp only [lv_args]
  refine xS.s1 rfl rfl ?_
  dsimp only [Nat.reduceAdd]
  refine xS.get rfl (by assumption) rfl (by decide) rfl ?_
  dsimp only [Nat.reduceAdd]
  refine xS.ret rfl rfl rfl (fun _ _ => rfl) ?_
  exact ⟨rfl, rfl⟩
set_option maxRecDepth 10000 in
theorem c_X7_isOf_5 (hA : M[a]? = some (5, [.int kd, .int dl])) : xT 1 50 [.ref a, .int x] M (fun r M' => M' = M ∧ r = some (.int (if x = kd ∨ x = 0 then 1 else 0))) := by
  refine xT.of rfl (Nat.le_of_ble_eq_true rfl) ?_
  dsimp only [lv_args]
  refine xS.s1 rfl rfl ?_
  dsimp only [Nat.reduceAdd]
  refine xS.s1 rfl rfl ?_
  dsimp only [Nat.reduceAdd]
  refine xS.get rfl (by assumption) rfl (by decide) rfl ?_
  dsimp only [Nat.reduceAdd]
  refine xS.br (c := .eq) (off := 7) (l := 3) rfl rfl (fun h5 => ?_) (fun h5 => ?_)
  · have g5 := of_decide_eq_true h5
    refine xS.s1 rfl rfl ?_
    dsimp only [Nat.reduceAdd, xi_1]
    refine xS.s1 rfl rfl ?_
    dsimp only [Nat.reduceAdd]
    refine xS.ret rfl rfl rfl (fun _ _ => rfl) ?_
    exact ⟨rfl, by split <;> first | rfl | (exfalso; simp_all)⟩
  · have g5 := of_decide_eq_false h5
    refine xS.s1 rfl rfl ?_
    dsimp only [Nat.reduceAdd]
    refine xS.br0 (c := .ne) (off := 7) (l := 3) rfl rfl (fun h9 => ?_) (fun h9 => ?_)
    · have g9 := of_decide_eq_true h9
      refine xS.s1 rfl rfl ?_
      dsimp only [Nat.reduceAdd, xi_0]
      refine xS.ret rfl rfl rfl (fun _ _ => rfl) ?_
      exact ⟨rfl, by split <;> first | rfl | (exfalso; simp_all)⟩
    · have g9 := of_decide_eq_false h9
      refine xS.s1 rfl rfl ?_
      dsimp only [Nat.reduceAdd, xi_1]
      refine xS.s1 rfl rfl ?_
      dsimp only [Nat.reduceAdd]
      refine xS.ret rfl rfl rfl (fun _ _ => rfl) ?_
      exact ⟨rfl, by split <;> first | rfl | (exfalso; simp_all)⟩
set_option maxRecDepth 10000 in
theorem c_X7_kind_6 (hA : M[a]? = some (6, [.int kd, .int dl])) : xT 1 48 [.ref a] M (fun r M' => M' = M ∧ r = some (.int kd)) := by
  refine xT.of rfl (Nat.le_of_ble_eq_true rfl) ?_
  dsimp only [lv_args]
  refine xS.s1 rfl rfl ?_
  dsimp only [Nat.reduceAdd]
  refine xS.get rfl (by assumption) rfl (by decide) rfl ?_
  dsimp only [Nat.reduceAdd]
  refine xS.ret rfl rfl rfl (fun _ _ => rfl) ?_
  exact ⟨rfl, rfl⟩
set_option maxRecDepth 10000 in
theorem c_X7_delay_6 (hA : M[a]? = some (6, [.int kd, .int dl])) : xT 1 49 [.ref a] M (fun r M' => M' = M ∧ r = some (.int dl)) := by
  refine xT.of rfl (Nat.le_of_ble_eq_true rfl) ?_
  dsimp only [lv_args]
  refine xS.s1 rfl rfl ?_
  dsimp only [Nat.reduceAdd]
  refine xS.get rfl (by assumption) rfl (by decide) rfl ?_
  dsimp only [Nat.reduceAdd]
  refine xS.ret rfl rfl rfl (fun _ _ => rfl) ?_
  exact ⟨rfl, rfl⟩
set_option maxRecDepth 10000 in
theorem c_X7_isOf_6 (hA : M[a]? = some (6, [.int kd, .int dl])) : xT 1 50 [.ref a, .int x] M (fun r M' => M' = M ∧ r = some (.int (if x = kd ∨ x = 0 then 1 else 0))) := by
  refine xT.of rfl (Nat.le_of_ble_eq_true rfl) ?_
  dsimp only [lv_args]
  refine xS.s1 rfl rfl ?_
  dsimp only [Nat.reduceAdd]
  refine xS.s1 rfl rfl ?_
  dsimp only [Nat.reduceAdd]
  refine xS.get rfl (by assumption) rfl (by decide) rfl ?_
  dsimp only [Nat.reduceAdd]
  refine xS.br (c := .eq) (off := 7) (l := 3) rfl rfl (fun h5 => ?_) (fun h5 => ?_)
  · have g5 := of_decide_eq_true h5
    refine xS.s1 rfl rfl ?_
    dsimp only [Nat.reduceAdd, xi_1]
    refine xS.s1 rfl rfl ?_
    dsimp only [Nat.reduceAdd]
    refine xS.ret rfl rfl rfl (fun _ _ => rfl) ?_
    exact ⟨rfl, by split <;> first | rfl | (exfalso; simp_all)⟩
  · have g5 := of_decide_eq_false h5
    refine xS.s1 rfl rfl ?_
    dsimp only [Nat.reduceAdd]
    refine xS.br0 (c := .ne) (off := 7) (l := 3) rfl rfl (fun h9 => ?_) (fun h9 => ?_)
    · have g9 := of_decide_eq_true h9
      refine xS.s1 rfl rfl ?_
      dsimp only [Nat.reduceAdd, xi_0]
      refine xS.ret rfl rfl rfl (fun _ _ => rfl) ?_
      exact ⟨rfl, by split <;> first | rfl | (exfalso; simp_all)⟩
    · have g9 := of_decide_eq_false h9
      refine xS.s1 rfl rfl ?_
      dsimp only [Nat.reduceAdd, xi_1]
      refine xS.s1 rfl rfl ?_
      dsimp only [Nat.reduceAdd]
      refine xS.ret rfl rfl rfl (fun _ _ => rfl) ?_
      exact ⟨rfl, by split <;> first | rfl | (exfalso; simp_all)⟩
set_option maxRecDepth 10000 in
theorem c_X7_kind_8 (hA : M[a]? = some (8, [.int kd, .int dl])) : xT 1 48 [.ref a] M (fun r M' => M' = M ∧ r = some (.int kd)) := by
  refine xT.of rfl (Nat.le_of_ble_eq_true rfl) ?_
  dsimp only [lv_args]
  refine xS.s1 rfl rfl ?_
  dsimp only [Nat.reduceAdd]
  refine xS.get rfl (by assumption) rfl (by decide) rfl ?_
  dsimp only [Nat.reduceAdd]
  refine xS.ret rfl rfl rfl (fun _ _ => rfl) ?_
  exact ⟨rfl, rfl⟩
set_option maxRecDepth 10000 in
theorem c_X7_delay_8 (hA : M[a]? = some (8, [.int kd, .int dl])) : xT 1 49 [.ref a] M (fun r M' => M' = M ∧ r = some (.int dl)) := by
  refine xT.of rfl (Nat.le_of_ble_eq_true rfl) ?_
  dsimp only [lv_args]
  refine xS.s1 rfl rfl ?_
  dsimp only [Nat.reduceAdd]
  refine xS.get rfl (by assumption) rfl (by decide) rfl ?_
  dsimp only [Nat.reduceAdd]
  refine xS.ret rfl rfl rfl (fun _ _ => rfl) ?_
  exact ⟨rfl, rfl⟩
set_option maxRecDepth 10000 in
theorem c_X7_isOf_8 (hA : M[a]? = some (8, [.int kd, .int dl])) : xT 1 50 [.ref a, .int x] M (fun r M' => M' = M ∧ r = some (.int (if x = kd ∨ x = 0 then 1 else 0))) := by
  refine xT.of rfl (Nat.le_of_ble_eq_true rfl) ?_
  dsimp only [lv_args]
  refine xS.s1 rfl rfl ?_
  dsimp only [Nat.reduceAdd]
  refine xS.s1 rfl rfl ?_
  dsimp only [Nat.reduceAdd]
  refine xS.get rfl (by assumption) rfl (by decide) rfl ?_
  dsimp only [Nat.reduceAdd]
  refine xS.br (c := .eq) (off := 7) (l := 3) rfl rfl (fun h5 => ?_) (fun h5 => ?_)
  · have g5 := of_decide_eq_true h5
    refine xS.s1 rfl rfl ?_
    dsimp only [Nat.reduceAdd, xi_1]
    refine xS.s1 rfl rfl ?_
    dsimp only [Nat.reduceAdd]
    refine xS.ret rfl rfl rfl (fun _ _ => rfl) ?_
    exact ⟨rfl, by split <;> first | rfl | (exfalso; simp_all)⟩
  · have g5 := of_decide_eq_false h5
    refine xS.s1 rfl rfl ?_
    dsimp only [Nat.reduceAdd]
    refine xS.br0 (c := .ne) (off := 7) (l := 3) rfl rfl (fun h9 => ?_) (fun h9 => ?_)
    · have g9 := of_decide_eq_true h9
      refine xS.s1 rfl rfl ?_
      dsimp only [Nat.reduceAdd, xi_0]
      refine xS.ret rfl rfl rfl (fun _ _ => rfl) ?_
      exact ⟨rfl, by split <;> first | rfl | (exfalso; simp_all)⟩
    · have g9 := of_decide_eq_false h9
      refine xS.s1 rfl rfl ?_
      dsimp only [Nat.reduceAdd, xi_1]
      refine xS.s1 rfl rfl ?_
      dsimp only [Nat.reduceAdd]
      refine xS.ret rfl rfl rfl (fun _ _ => rfl) ?_
      exact ⟨rfl, by split <;> first | rfl | (exfalso; simp_all)⟩
set_option maxRecDepth 10000 in
theorem c_X7_kind_9 (hA : M[a]? = some (9, [.int kd, .int dl])) : xT 1 48 [.ref a] M (fun r M' => M' = M ∧ r = some (.int kd)) := by
  refine xT.of rfl (Nat.le_of_ble_eq_true rfl) ?_
  dsimp only [lv_args]
  refine xS.s1 rfl rfl ?_
  dsimp only [Nat.reduceAdd]
  refine xS.get rfl (by assumption) rfl (by decide) rfl ?_
  dsimp only [Nat.reduceAdd]
  refine xS.ret rfl rfl rfl (fun _ _ => rfl) ?_
  exact ⟨rfl, rfl⟩
set_option maxRecDepth 10000 in
theorem c_X7_delay_9 (hA : M[a]? = some (9, [.int kd, .int dl])) : xT 1 49 [.ref a] M (fun r M' => M' = M ∧ r = some (.int dl)) := by
  refine xT.of rfl (Nat.le_of_ble_eq_true rfl) ?_
  dsimp only [lv_args]
  refine xS.s1 rfl rfl ?_
  dsimp only [Nat.reduceAdd]
  refine xS.get rfl (by assumption) rfl (by decide) rfl ?_
  dsimp only [Nat.reduceAdd]
  refine xS.ret rfl rfl rfl (fun _ _ => rfl) ?_
  exact ⟨rfl, rfl⟩
set_option maxRecDepth 10000 in
theorem c_X7_isOf_9 (hA : M[a]? = some (9, [.int kd, .int dl])) : xT 1 50 [.ref a, .int x] M (fun r M' => M' = M ∧ r = some (.int (if x = kd ∨ x = 0 then 1 else 0))) := by
  refine xT.of rfl (Nat.le_of_ble_eq_true rfl) ?_
  dsimp only [lv_args]
  refine xS.s1 rfl rfl ?_
  dsimp only [Nat.reduceAdd]
  refine xS.s1 rfl rfl ?_
  dsimp only [Nat.reduceAdd]
  refine xS.get rfl (by assumption) rfl (by decide) rfl ?_
  dsimp only [Nat.reduceAdd]
  refine xS.br (c := .eq) (off := 7) (l := 3) rfl rfl (fun h5 => ?_) (fun h5 => ?_)
  · have g5 := of_decide_eq_true h5
    refine xS.s1 rfl rfl ?_
    dsimp only [Nat.reduceAdd, xi_1]
    refine xS.s1 rfl rfl ?_
    dsimp only [Nat.reduceAdd]
    refine xS.ret rfl rfl rfl (fun _ _ => rfl) ?_
    exact ⟨rfl, by split <;> first | rfl | (exfalso; simp_all)⟩
  · have g5 := of_decide_eq_false h5
    refine xS.s1 rfl rfl ?_
    dsimp only [Nat.reduceAdd]
    refine xS.br0 (c := .ne) (off := 7) (l := 3) rfl rfl (fun h9 => ?_) (fun h9 => ?_)
    · have g9 := of_decide_eq_true h9
      refine xS.s1 rfl rfl ?_
      dsimp only [Nat.reduceAdd, xi_0]
      refine xS.ret rfl rfl rfl (fun _ _ => rfl) ?_
      exact ⟨rfl, by split <;> first | rfl | (exfalso; simp_all)⟩
    · have g9 := of_decide_eq_false h9
      refine xS.s1 rfl rfl ?_
      dsimp only [Nat.reduceAdd, xi_1]
      refine xS.s1 rfl rfl ?_
      dsimp only [Nat.reduceAdd]
      refine xS.ret rfl rfl rfl (fun _ _ => rfl) ?_
      exact ⟨rfl, by split <;> first | rfl | (exfalso; simp_all)⟩
set_option maxRecDepth 10000 in
theorem c_X7_source  : xT 1 51 [.ref a, .int x] M (fun r M' => M' = M ∧ r = some (.int x)) := by
  refine xT.of rfl (Nat.le_of_ble_eq_true rfl) ?_
  dsimp only [lv_args]
  refine xS.s1 rfl rfl ?_
  dsimp only [Nat.reduceAdd]
  refine xS.ret rfl rfl rfl (fun _ _ => rfl) ?_
  exact ⟨rfl, rfl⟩
set_option maxRecDepth 10000 in
theorem c_X4_source  : xT 1 39 [.ref a, .int x] M (fun r M' => M' = M ∧ r = some (.int x)) := by
  refine xT.of rfl (Nat.le_of_ble_eq_true rfl) ?_
  dsimp only [lv_args]
  refine xS.s1 rfl rfl ?_
  dsimp only [Nat.reduceAdd]
  refine xS.ret rfl rfl rfl (fun _ _ => rfl) ?_
  exact ⟨rfl, rfl⟩
set_option maxRecDepth 10000 in
theorem c_X7_thinks  : xT 1 52 [.ref a, .int x] M (fun r M' => M' = M ∧ r = some (.int 0)) := by
  refine xT.of rfl (Nat.le_of_ble_eq_true rfl) ?_
  dsimp only [lv_args]
  refine xS.s1 rfl rfl ?_
  dsimp only [Nat.reduceAdd, xi_0]
  refine xS.ret rfl rfl rfl (fun _ _ => rfl) ?_
  exact ⟨rfl, rfl⟩
set_option maxRecDepth 10000 in
theorem c_X10_thinks  : xT 1 76 [.ref a, .int x] M (fun r M' => M' = M ∧ r = some (.int 1)) := by
  refine xT.of rfl (Nat.le_of_ble_eq_true rfl) ?_
  dsimp only [lv_args]
  refine xS.s1 rfl rfl ?_
  dsimp only [Nat.reduceAdd, xi_1]
  refine xS.ret rfl rfl rfl (fun _ _ => rfl) ?_
  exact ⟨rfl, rfl⟩
set_option maxRecDepth 10000 in
theorem c_X7_isOdd  : xT 1 53 [.int x] M (fun r M' => M' = M ∧ r = some (.int (if x &&& 1 = 1 then 1 else 0))) := by
  refine xT.of rfl (Nat.le_of_ble_eq_true rfl) ?_
  dsimp only [lv_args]
  refine xS.s1 rfl rfl ?_
  dsimp only [Nat.reduceAdd]
  refine xS.s1 rfl rfl ?_
  dsimp only [Nat.reduceAdd, xi_1]
  refine xS.s1 rfl rfl ?_
  dsimp only [Nat.reduceAdd]
  refine xS.s1 rfl rfl ?_
  dsimp only [Nat.reduceAdd, xi_1]
  refine xS.br (c := .ne) (off := 7) (l := 3) rfl rfl (fun h4 => ?_) (fun h4 => ?_)
  · have g4 := of_decide_eq_true h4
    refine xS.s1 rfl rfl ?_
    dsimp only [Nat.reduceAdd, xi_0]
    refine xS.ret rfl rfl rfl (fun _ _ => rfl) ?_
    exact ⟨rfl, by split <;> first | rfl | (exfalso; simp_all)⟩
  · have g4 := of_decide_eq_false h4
    refine xS.s1 rfl rfl ?_
    dsimp only [Nat.reduceAdd, xi_1]
    refine xS.s1 rfl rfl ?_
    dsimp only [Nat.reduceAdd]
    refine xS.ret rfl rfl rfl (fun _ _ => rfl) ?_
    exact ⟨rfl, by split <;> first | rfl | (exfalso; simp_all)⟩
end
