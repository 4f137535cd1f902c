/-! small statics of both, Deeds' and Room's small methods -/
section
variable {M : xM} {a c f h g t : Nat} {sz x y z i n gl te : Int32} {fa : List Int32}
set_option maxRecDepth 10000 in
theorem c_X11_isRow  : xT 1 123 [.int x] M (fun r M' => M' = M ∧ r = some (.int (if 0 ≤ x ∧ x < 6 then 1 else 0))) := by
  refine xT.of rfl (Nat.le_of_ble_eq_true rfl) ?_
  dsimp only [lv_args]
  refine xS.s1 rfl rfl ?_
  dsimp only [Nat.reduceAdd]
  refine xS.br0 (c := .lt) (off := 13) (l := 3) rfl rfl (fun h1 => ?_) (fun h1 => ?_)
  · have g1 := of_decide_eq_true h1
    refine xS.s1 rfl rfl ?_
    dsimp only [Nat.reduceAdd, xi_0]
    refine xS.ret rfl rfl rfl (fun _ _ => rfl) ?_
    exact ⟨rfl, by split <;> first | rfl | (exfalso; simp only [Int32.le_iff_toInt_le, Int32.lt_iff_toInt_lt, Int32.reduceToInt] at *; omega)⟩
  · have g1 := of_decide_eq_false h1
    refine xS.s1 rfl rfl ?_
    dsimp only [Nat.reduceAdd]
    refine xS.s1 rfl rfl ?_
    dsimp only [Nat.reduceAdd, xj_6]
    refine xS.br (c := .ge) (off := 7) (l := 3) rfl rfl (fun h7 => ?_) (fun h7 => ?_)
    · have g7 := of_decide_eq_true h7
      refine xS.s1 rfl rfl ?_
      dsimp only [Nat.reduceAdd, xi_0]
      refine xS.ret rfl rfl rfl (fun _ _ => rfl) ?_
      exact ⟨rfl, by split <;> first | rfl | (exfalso; simp only [Int32.le_iff_toInt_le, Int32.lt_iff_toInt_lt, Int32.reduceToInt] at *; omega)⟩
    · have g7 := of_decide_eq_false h7
      refine xS.s1 rfl rfl ?_
      dsimp only [Nat.reduceAdd, xi_1]
      refine xS.s1 rfl rfl ?_
      dsimp only [Nat.reduceAdd]
      refine xS.ret rfl rfl rfl (fun _ _ => rfl) ?_
      exact ⟨rfl, by split <;> first | rfl | (exfalso; simp only [Int32.le_iff_toInt_le, Int32.lt_iff_toInt_lt, Int32.reduceToInt] at *; omega)⟩
set_option maxRecDepth 10000 in
theorem c_X11_isText  : xT 1 124 [.int x] M (fun r M' => M' = M ∧ r = some (.int (if 0 ≤ x ∧ x < 4 then 1 else 0))) := by
  refine xT.of rfl (Nat.le_of_ble_eq_true rfl) ?_
  dsimp only [lv_args]
  refine xS.s1 rfl rfl ?_
  dsimp only [Nat.reduceAdd]
  refine xS.br0 (c := .lt) (off := 12) (l := 3) rfl rfl (fun h1 => ?_) (fun h1 => ?_)
  · have g1 := of_decide_eq_true h1
    refine xS.s1 rfl rfl ?_
    dsimp only [Nat.reduceAdd, xi_0]
    refine xS.ret rfl rfl rfl (fun _ _ => rfl) ?_
    exact ⟨rfl, by split <;> first | rfl | (exfalso; simp only [Int32.le_iff_toInt_le, Int32.lt_iff_toInt_lt, Int32.reduceToInt] at *; omega)⟩
  · have g1 := of_decide_eq_false h1
    refine xS.s1 rfl rfl ?_
    dsimp only [Nat.reduceAdd]
    refine xS.s1 rfl rfl ?_
    dsimp only [Nat.reduceAdd, xi_4]
    refine xS.br (c := .ge) (off := 7) (l := 3) rfl rfl (fun h6 => ?_) (fun h6 => ?_)
    · have g6 := of_decide_eq_true h6
      refine xS.s1 rfl rfl ?_
      dsimp only [Nat.reduceAdd, xi_0]
      refine xS.ret rfl rfl rfl (fun _ _ => rfl) ?_
      exact ⟨rfl, by split <;> first | rfl | (exfalso; simp only [Int32.le_iff_toInt_le, Int32.lt_iff_toInt_lt, Int32.reduceToInt] at *; omega)⟩
    · have g6 := of_decide_eq_false h6
      refine xS.s1 rfl rfl ?_
      dsimp only [Nat.reduceAdd, xi_1]
      refine xS.s1 rfl rfl ?_
      dsimp only [Nat.reduceAdd]
      refine xS.ret rfl rfl rfl (fun _ _ => rfl) ?_
      exact ⟨rfl, by split <;> first | rfl | (exfalso; simp only [Int32.le_iff_toInt_le, Int32.lt_iff_toInt_lt, Int32.reduceToInt] at *; omega)⟩
set_option maxRecDepth 10000 in
theorem c_X11_isKept  : xT 1 125 [.int x] M (fun r M' => M' = M ∧ r = some (.int (if 0 ≤ x ∧ x < 3 then 1 else 0))) := by
  refine xT.of rfl (Nat.le_of_ble_eq_true rfl) ?_
  dsimp only [lv_args]
  refine xS.s1 rfl rfl ?_
  dsimp only [Nat.reduceAdd]
  refine xS.br0 (c := .lt) (off := 12) (l := 3) rfl rfl (fun h1 => ?_) (fun h1 => ?_)
  · have g1 := of_decide_eq_true h1
    refine xS.s1 rfl rfl ?_
    dsimp only [Nat.reduceAdd, xi_0]
    refine xS.ret rfl rfl rfl (fun _ _ => rfl) ?_
    exact ⟨rfl, by split <;> first | rfl | (exfalso; simp only [Int32.le_iff_toInt_le, Int32.lt_iff_toInt_lt, Int32.reduceToInt] at *; omega)⟩
  · have g1 := of_decide_eq_false h1
    refine xS.s1 rfl rfl ?_
    dsimp only [Nat.reduceAdd]
    refine xS.s1 rfl rfl ?_
    dsimp only [Nat.reduceAdd, xi_3]
    refine xS.br (c := .ge) (off := 7) (l := 3) rfl rfl (fun h6 => ?_) (fun h6 => ?_)
    · have g6 := of_decide_eq_true h6
      refine xS.s1 rfl rfl ?_
      dsimp only [Nat.reduceAdd, xi_0]
      refine xS.ret rfl rfl rfl (fun _ _ => rfl) ?_
      exact ⟨rfl, by split <;> first | rfl | (exfalso; simp only [Int32.le_iff_toInt_le, Int32.lt_iff_toInt_lt, Int32.reduceToInt] at *; omega)⟩
    · have g6 := of_decide_eq_false h6
      refine xS.s1 rfl rfl ?_
      dsimp only [Nat.reduceAdd, xi_1]
      refine xS.s1 rfl rfl ?_
      dsimp only [Nat.reduceAdd]
      refine xS.ret rfl rfl rfl (fun _ _ => rfl) ?_
      exact ⟨rfl, by split <;> first | rfl | (exfalso; simp only [Int32.le_iff_toInt_le, Int32.lt_iff_toInt_lt, Int32.reduceToInt] at *; omega)⟩
set_option maxRecDepth 10000 in
theorem c_X11_isStep  : xT 1 126 [.int x] M (fun r M' => M' = M ∧ r = some (.int (if 0 ≤ x ∧ x < 6 then 1 else 0))) := by
  refine xT.of rfl (Nat.le_of_ble_eq_true rfl) ?_
  dsimp only [lv_args]
  refine xS.s1 rfl rfl ?_
  dsimp only [Nat.reduceAdd]
  refine xS.br0 (c := .lt) (off := 13) (l := 3) rfl rfl (fun h1 => ?_) (fun h1 => ?_)
  · have g1 := of_decide_eq_true h1
    refine xS.s1 rfl rfl ?_
    dsimp only [Nat.reduceAdd, xi_0]
    refine xS.ret rfl rfl rfl (fun _ _ => rfl) ?_
    exact ⟨rfl, by split <;> first | rfl | (exfalso; simp only [Int32.le_iff_toInt_le, Int32.lt_iff_toInt_lt, Int32.reduceToInt] at *; omega)⟩
  · have g1 := of_decide_eq_false h1
    refine xS.s1 rfl rfl ?_
    dsimp only [Nat.reduceAdd]
    refine xS.s1 rfl rfl ?_
    dsimp only [Nat.reduceAdd, xj_6]
    refine xS.br (c := .ge) (off := 7) (l := 3) rfl rfl (fun h7 => ?_) (fun h7 => ?_)
    · have g7 := of_decide_eq_true h7
      refine xS.s1 rfl rfl ?_
      dsimp only [Nat.reduceAdd, xi_0]
      refine xS.ret rfl rfl rfl (fun _ _ => rfl) ?_
      exact ⟨rfl, by split <;> first | rfl | (exfalso; simp only [Int32.le_iff_toInt_le, Int32.lt_iff_toInt_lt, Int32.reduceToInt] at *; omega)⟩
    · have g7 := of_decide_eq_false h7
      refine xS.s1 rfl rfl ?_
      dsimp only [Nat.reduceAdd, xi_1]
      refine xS.s1 rfl rfl ?_
      dsimp only [Nat.reduceAdd]
      refine xS.ret rfl rfl rfl (fun _ _ => rfl) ?_
      exact ⟨rfl, by split <;> first | rfl | (exfalso; simp only [Int32.le_iff_toInt_le, Int32.lt_iff_toInt_lt, Int32.reduceToInt] at *; omega)⟩
set_option maxRecDepth 10000 in
theorem c_X12_in  : xT 1 151 [.int x, .int y, .int z] M (fun r M' => M' = M ∧ r = some (.int (if y ≤ x ∧ x ≤ z then 1 else 0))) := by
  refine xT.of rfl (Nat.le_of_ble_eq_true rfl) ?_
  dsimp only [lv_args]
  refine xS.s1 rfl rfl ?_
  dsimp only [Nat.reduceAdd]
  refine xS.s1 rfl rfl ?_
  dsimp only [Nat.reduceAdd]
  refine xS.br (c := .lt) (off := 12) (l := 3) rfl rfl (fun h2 => ?_) (fun h2 => ?_)
  · have g2 := of_decide_eq_true h2
    refine xS.s1 rfl rfl ?_
    dsimp only [Nat.reduceAdd, xi_0]
    refine xS.ret rfl rfl rfl (fun _ _ => rfl) ?_
    exact ⟨rfl, by split <;> first | rfl | (exfalso; simp only [Int32.le_iff_toInt_le, Int32.lt_iff_toInt_lt, Int32.reduceToInt] at *; omega)⟩
  · have g2 := of_decide_eq_false h2
    refine xS.s1 rfl rfl ?_
    dsimp only [Nat.reduceAdd]
    refine xS.s1 rfl rfl ?_
    dsimp only [Nat.reduceAdd]
    refine xS.br (c := .gt) (off := 7) (l := 3) rfl rfl (fun h7 => ?_) (fun h7 => ?_)
    · have g7 := of_decide_eq_true h7
      refine xS.s1 rfl rfl ?_
      dsimp only [Nat.reduceAdd, xi_0]
      refine xS.ret rfl rfl rfl (fun _ _ => rfl) ?_
      exact ⟨rfl, by split <;> first | rfl | (exfalso; simp only [Int32.le_iff_toInt_le, Int32.lt_iff_toInt_lt, Int32.reduceToInt] at *; omega)⟩
    · have g7 := of_decide_eq_false h7
      refine xS.s1 rfl rfl ?_
      dsimp only [Nat.reduceAdd, xi_1]
      refine xS.s1 rfl rfl ?_
      dsimp only [Nat.reduceAdd]
      refine xS.ret rfl rfl rfl (fun _ _ => rfl) ?_
      exact ⟨rfl, by split <;> first | rfl | (exfalso; simp only [Int32.le_iff_toInt_le, Int32.lt_iff_toInt_lt, Int32.reduceToInt] at *; omega)⟩
set_option maxRecDepth 10000 in
theorem c_X12_isPart  : xT 1 163 [.int x, .int y, .int z] M (fun r M' => M' = M ∧ r = some (.int (if 0 ≤ x ∧ y ≤ z ∧ x ≤ z - y then 1 else 0))) := by
  refine xT.of rfl (Nat.le_of_ble_eq_true rfl) ?_
  dsimp only [lv_args]
  refine xS.s1 rfl rfl ?_
  dsimp only [Nat.reduceAdd]
  refine xS.br0 (c := .lt) (off := 19) (l := 3) rfl rfl (fun h1 => ?_) (fun h1 => ?_)
  · have g1 := of_decide_eq_true h1
    refine xS.s1 rfl rfl ?_
    dsimp only [Nat.reduceAdd, xi_0]
    refine xS.ret rfl rfl rfl (fun _ _ => rfl) ?_
    exact ⟨rfl, by split <;> first | rfl | (exfalso; simp only [Int32.le_iff_toInt_le, Int32.lt_iff_toInt_lt, Int32.reduceToInt] at *; omega)⟩
  · have g1 := of_decide_eq_false h1
    refine xS.s1 rfl rfl ?_
    dsimp only [Nat.reduceAdd]
    refine xS.s1 rfl rfl ?_
    dsimp only [Nat.reduceAdd]
    refine xS.br (c := .gt) (off := 14) (l := 3) rfl rfl (fun h6 => ?_) (fun h6 => ?_)
    · have g6 := of_decide_eq_true h6
      refine xS.s1 rfl rfl ?_
      dsimp only [Nat.reduceAdd, xi_0]
      refine xS.ret rfl rfl rfl (fun _ _ => rfl) ?_
      exact ⟨rfl, by split <;> first | rfl | (exfalso; simp only [Int32.le_iff_toInt_le, Int32.lt_iff_toInt_lt, Int32.reduceToInt] at *; omega)⟩
    · have g6 := of_decide_eq_false h6
      refine xS.s1 rfl rfl ?_
      dsimp only [Nat.reduceAdd]
      refine xS.s1 rfl rfl ?_
      dsimp only [Nat.reduceAdd]
      refine xS.s1 rfl rfl ?_
      dsimp only [Nat.reduceAdd]
      refine xS.s1 rfl rfl ?_
      dsimp only [Nat.reduceAdd]
      refine xS.br (c := .gt) (off := 7) (l := 3) rfl rfl (fun h13 => ?_) (fun h13 => ?_)
      · have g13 := of_decide_eq_true h13
        refine xS.s1 rfl rfl ?_
        dsimp only [Nat.reduceAdd, xi_0]
        refine xS.ret rfl rfl rfl (fun _ _ => rfl) ?_
        exact ⟨rfl, by split <;> first | rfl | (exfalso; simp only [Int32.le_iff_toInt_le, Int32.lt_iff_toInt_lt, Int32.reduceToInt] at *; omega)⟩
      · have g13 := of_decide_eq_false h13
        refine xS.s1 rfl rfl ?_
        dsimp only [Nat.reduceAdd, xi_1]
        refine xS.s1 rfl rfl ?_
        dsimp only [Nat.reduceAdd]
        refine xS.ret rfl rfl rfl (fun _ _ => rfl) ?_
        exact ⟨rfl, by split <;> first | rfl | (exfalso; simp only [Int32.le_iff_toInt_le, Int32.lt_iff_toInt_lt, Int32.reduceToInt] at *; omega)⟩
set_option maxRecDepth 10000 in
theorem c_X2_size (hA : M[a]? = some (2, [.ref f, .int sz])) : xT 1 23 [.ref a] M (fun r M' => M' = M ∧ r = some (.int sz)) := by
  refine xT.of rfl (Nat.le_of_ble_eq_true rfl) ?_
  dsimp only [lv_args]
  refine xS.s1 rfl rfl ?_
  dsimp only [Nat.reduceAdd]
  refine xS.get rfl (by assumption) rfl (by decide) rfl ?_
  dsimp only [Nat.reduceAdd]
  refine xS.ret rfl rfl rfl (fun _ _ => rfl) ?_
  exact ⟨rfl, rfl⟩
set_option maxRecDepth 10000 in
theorem c_X2_isMissing (hA : M[a]? = some (2, [.ref f, .int sz])) : xT 1 24 [.ref a] M (fun r M' => M' = M ∧ r = some (.int (if sz = -1 then 1 else 0))) := by
  refine xT.of rfl (Nat.le_of_ble_eq_true rfl) ?_
  dsimp only [lv_args]
  refine xS.s1 rfl rfl ?_
  dsimp only [Nat.reduceAdd]
  refine xS.get rfl (by assumption) rfl (by decide) rfl ?_
  dsimp only [Nat.reduceAdd]
  refine xS.s1 rfl rfl ?_
  dsimp only [Nat.reduceAdd, xi_m1]
  refine xS.br (c := .ne) (off := 7) (l := 3) rfl rfl (fun h5 => ?_) (fun h5 => ?_)
  · have g5 := of_decide_eq_true h5
    refine xS.s1 rfl rfl ?_
    dsimp only [Nat.reduceAdd, xi_0]
    refine xS.ret rfl rfl rfl (fun _ _ => rfl) ?_
    exact ⟨rfl, by split <;> first | rfl | (exfalso; simp_all)⟩
  · have g5 := of_decide_eq_false h5
    refine xS.s1 rfl rfl ?_
    dsimp only [Nat.reduceAdd, xi_1]
    refine xS.s1 rfl rfl ?_
    dsimp only [Nat.reduceAdd]
    refine xS.ret rfl rfl rfl (fun _ _ => rfl) ?_
    exact ⟨rfl, by split <;> first | rfl | (exfalso; simp_all)⟩
set_option maxRecDepth 10000 in
theorem c_X2_drop (hA : M[a]? = some (2, [.ref f, .int sz])) : xT 1 25 [.ref a] M (fun r M' => M' = M.set a (2, [.ref f, .int (-1)]) ∧ r = none) := by
  refine xT.of rfl (Nat.le_of_ble_eq_true rfl) ?_
  dsimp only [lv_args]
  refine xS.s1 rfl rfl ?_
  dsimp only [Nat.reduceAdd]
  refine xS.s1 rfl rfl ?_
  dsimp only [Nat.reduceAdd, xi_m1]
  refine xS.put rfl (by assumption) rfl ⟨⟨by decide, rfl⟩, ⟨rfl, by decide, by decide⟩, Nat.le_of_ble_eq_true rfl⟩ ?_
  dsimp only [Nat.reduceAdd]
  refine xS.ret rfl rfl rfl (fun _ _ => rfl) ?_
  exact ⟨rfl, rfl⟩
set_option maxRecDepth 10000 in
theorem c_X8_glasses (hA : M[a]? = some (7, [.ref h, .ref g, .int gl, .ref t, .int te])) : xT 1 55 [.ref a] M (fun r M' => M' = M ∧ r = some (.int gl)) := by
  refine xT.of rfl (Nat.le_of_ble_eq_true rfl) ?_
  dsimp only [lv_args]
  refine xS.s1 rfl rfl ?_
  dsimp only [Nat.reduceAdd]
  refine xS.get rfl (by assumption) rfl (by decide) rfl ?_
  dsimp only [Nat.reduceAdd]
  refine xS.ret rfl rfl rfl (fun _ _ => rfl) ?_
  exact ⟨rfl, rfl⟩
set_option maxRecDepth 10000 in
theorem c_X8_terms (hA : M[a]? = some (7, [.ref h, .ref g, .int gl, .ref t, .int te])) : xT 1 56 [.ref a] M (fun r M' => M' = M ∧ r = some (.int te)) := by
  refine xT.of rfl (Nat.le_of_ble_eq_true rfl) ?_
  dsimp only [lv_args]
  refine xS.s1 rfl rfl ?_
  dsimp only [Nat.reduceAdd]
  refine xS.get rfl (by assumption) rfl (by decide) rfl ?_
  dsimp only [Nat.reduceAdd]
  refine xS.ret rfl rfl rfl (fun _ _ => rfl) ?_
  exact ⟨rfl, rfl⟩
end
