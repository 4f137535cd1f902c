/-! the law, op by op -/
section
variable {vs : List Value} {L i : Nat} {xv : Nat → Int32} {b : Nat × Nat} {g : Nat → Nat → Int32} {l : Nat → Nat → Int64}
set_option maxRecDepth 10000 in
theorem w_row (hL : L ≤ 384) (hi : i + 6 ≤ L) (hvs : ∀ t, t < L → vs[t]? = some (.int (xv t))) (hJ : xJ b g) (nx : ∀ b2 g2 l2, xJ b2 g2 → xLw vs 1546 [(3, .int (nI i)), (2, .ref 73), (1, .ref 0), (0, .retAddr 0)] [] (xH b2 g2 l2)) : xLw vs 224 [(3, .int (nI i)), (2, .ref 73), (1, .ref 0), (0, .retAddr 0)] [] (xH b g l) := by
  refine xLw.s1 rfl rfl ?_
  try dsimp only [Nat.reduceAdd]
  refine xLw.s1 rfl rfl ?_
  try dsimp only [Nat.reduceAdd]
  refine xLw.s1 rfl rfl ?_
  try dsimp only [Nat.reduceAdd]
  refine xLw.s1 rfl rfl ?_
  try dsimp only [Nat.reduceAdd, xi_1]
  refine xLw.s1 rfl rfl ?_
  try dsimp only [Nat.reduceAdd]
  rw [show (nI i + 1 : Int32) = nI (i + 1) from nI_add i 1]
  refine xLw.ial rfl (hvs (i + 1) (by omega)) (by omega) ?_
  try dsimp only [Nat.reduceAdd]
  refine xLw.s1 rfl rfl ?_
  try dsimp only [Nat.reduceAdd]
  refine xLw.s1 rfl rfl ?_
  try dsimp only [Nat.reduceAdd]
  refine xLw.s1 rfl rfl ?_
  try dsimp only [Nat.reduceAdd, xi_2]
  refine xLw.s1 rfl rfl ?_
  try dsimp only [Nat.reduceAdd]
  rw [show (nI i + 2 : Int32) = nI (i + 2) from nI_add i 2]
  refine xLw.ial rfl (hvs (i + 2) (by omega)) (by omega) ?_
  try dsimp only [Nat.reduceAdd]
  refine xLw.cv rfl rfl rfl rfl rfl rfl ⟨by decide, rfl, rfl⟩ (j_row hJ) (fun v1 M1 hv => ?_)
  obtain ⟨w, b1, g1, l1, rfl, rfl, hT2⟩ := hv
  try dsimp only [Nat.reduceAdd, Option.toList, List.cons_append, List.nil_append]
  refine xLw.s1 rfl rfl ?_
  try dsimp only [Nat.reduceAdd]
  refine xLw.s1 rfl rfl ?_
  try dsimp only [Nat.reduceAdd]
  refine xLw.s1 rfl rfl ?_
  try dsimp only [Nat.reduceAdd]
  refine xLw.s1 rfl rfl ?_
  try dsimp only [Nat.reduceAdd]
  refine xLw.s1 rfl rfl ?_
  try dsimp only [Nat.reduceAdd, xi_1]
  refine xLw.s1 rfl rfl ?_
  try dsimp only [Nat.reduceAdd]
  rw [show (nI i + 1 : Int32) = nI (i + 1) from nI_add i 1]
  refine xLw.ial rfl (hvs (i + 1) (by omega)) (by omega) ?_
  try dsimp only [Nat.reduceAdd]
  refine xLw.s1 rfl rfl ?_
  try dsimp only [Nat.reduceAdd]
  refine xLw.s1 rfl rfl ?_
  try dsimp only [Nat.reduceAdd]
  refine xLw.s1 rfl rfl ?_
  try dsimp only [Nat.reduceAdd, xi_2]
  refine xLw.s1 rfl rfl ?_
  try dsimp only [Nat.reduceAdd]
  rw [show (nI i + 2 : Int32) = nI (i + 2) from nI_add i 2]
  refine xLw.ial rfl (hvs (i + 2) (by omega)) (by omega) ?_
  try dsimp only [Nat.reduceAdd]
  refine xLw.cv rfl rfl rfl rfl rfl rfl ⟨by decide, rfl, rfl⟩ hT2 (fun v1 M1 hv => ?_)
  obtain ⟨w2, b2, g2, l2, rfl, rfl, hJ2, heq⟩ := hv
  try dsimp only [Nat.reduceAdd, Option.toList, List.cons_append, List.nil_append]
  refine xLw.s1 rfl rfl ?_
  try dsimp only [Nat.reduceAdd]
  refine xLw.s1 rfl rfl ?_
  try dsimp only [Nat.reduceAdd]
  exact nx _ _ _ hJ2
set_option maxRecDepth 10000 in
theorem w_lay (hL : L ≤ 384) (hi : i + 6 ≤ L) (hvs : ∀ t, t < L → vs[t]? = some (.int (xv t))) (hJ : xJ b g) (nx : ∀ b2 g2 l2, xJ b2 g2 → xLw vs 1546 [(3, .int (nI i)), (2, .ref 73), (1, .ref 0), (0, .retAddr 0)] [] (xH b2 g2 l2)) : xLw vs 257 [(3, .int (nI i)), (2, .ref 73), (1, .ref 0), (0, .retAddr 0)] [] (xH b g l) := by
  refine xLw.s1 rfl rfl ?_
  try dsimp only [Nat.reduceAdd]
  refine xLw.s1 rfl rfl ?_
  try dsimp only [Nat.reduceAdd]
  refine xLw.s1 rfl rfl ?_
  try dsimp only [Nat.reduceAdd]
  refine xLw.s1 rfl rfl ?_
  try dsimp only [Nat.reduceAdd, xi_1]
  refine xLw.s1 rfl rfl ?_
  try dsimp only [Nat.reduceAdd]
  rw [show (nI i + 1 : Int32) = nI (i + 1) from nI_add i 1]
  refine xLw.ial rfl (hvs (i + 1) (by omega)) (by omega) ?_
  try dsimp only [Nat.reduceAdd]
  refine xLw.s1 rfl rfl ?_
  try dsimp only [Nat.reduceAdd]
  refine xLw.s1 rfl rfl ?_
  try dsimp only [Nat.reduceAdd]
  refine xLw.s1 rfl rfl ?_
  try dsimp only [Nat.reduceAdd, xi_2]
  refine xLw.s1 rfl rfl ?_
  try dsimp only [Nat.reduceAdd]
  rw [show (nI i + 2 : Int32) = nI (i + 2) from nI_add i 2]
  refine xLw.ial rfl (hvs (i + 2) (by omega)) (by omega) ?_
  try dsimp only [Nat.reduceAdd]
  refine xLw.s1 rfl rfl ?_
  try dsimp only [Nat.reduceAdd]
  refine xLw.s1 rfl rfl ?_
  try dsimp only [Nat.reduceAdd]
  refine xLw.s1 rfl rfl ?_
  try dsimp only [Nat.reduceAdd, xi_3]
  refine xLw.s1 rfl rfl ?_
  try dsimp only [Nat.reduceAdd]
  rw [show (nI i + 3 : Int32) = nI (i + 3) from nI_add i 3]
  refine xLw.ial rfl (hvs (i + 3) (by omega)) (by omega) ?_
  try dsimp only [Nat.reduceAdd]
  refine xLw.cv rfl rfl rfl rfl rfl rfl ⟨by decide, rfl, rfl⟩ (j_lay hJ) (fun v1 M1 hv => ?_)
  obtain ⟨w, b1, g1, l1, rfl, rfl, hT2⟩ := hv
  try dsimp only [Nat.reduceAdd, Option.toList, List.cons_append, List.nil_append]
  refine xLw.s1 rfl rfl ?_
  try dsimp only [Nat.reduceAdd]
  refine xLw.s1 rfl rfl ?_
  try dsimp only [Nat.reduceAdd]
  refine xLw.s1 rfl rfl ?_
  try dsimp only [Nat.reduceAdd]
  refine xLw.s1 rfl rfl ?_
  try dsimp only [Nat.reduceAdd]
  refine xLw.s1 rfl rfl ?_
  try dsimp only [Nat.reduceAdd, xi_1]
  refine xLw.s1 rfl rfl ?_
  try dsimp only [Nat.reduceAdd]
  rw [show (nI i + 1 : Int32) = nI (i + 1) from nI_add i 1]
  refine xLw.ial rfl (hvs (i + 1) (by omega)) (by omega) ?_
  try dsimp only [Nat.reduceAdd]
  refine xLw.s1 rfl rfl ?_
  try dsimp only [Nat.reduceAdd]
  refine xLw.s1 rfl rfl ?_
  try dsimp only [Nat.reduceAdd]
  refine xLw.s1 rfl rfl ?_
  try dsimp only [Nat.reduceAdd, xi_2]
  refine xLw.s1 rfl rfl ?_
  try dsimp only [Nat.reduceAdd]
  rw [show (nI i + 2 : Int32) = nI (i + 2) from nI_add i 2]
  refine xLw.ial rfl (hvs (i + 2) (by omega)) (by omega) ?_
  try dsimp only [Nat.reduceAdd]
  refine xLw.s1 rfl rfl ?_
  try dsimp only [Nat.reduceAdd]
  refine xLw.s1 rfl rfl ?_
  try dsimp only [Nat.reduceAdd]
  refine xLw.s1 rfl rfl ?_
  try dsimp only [Nat.reduceAdd, xi_3]
  refine xLw.s1 rfl rfl ?_
  try dsimp only [Nat.reduceAdd]
  rw [show (nI i + 3 : Int32) = nI (i + 3) from nI_add i 3]
  refine xLw.ial rfl (hvs (i + 3) (by omega)) (by omega) ?_
  try dsimp only [Nat.reduceAdd]
  refine xLw.cv rfl rfl rfl rfl rfl rfl ⟨by decide, rfl, rfl⟩ hT2 (fun v1 M1 hv => ?_)
  obtain ⟨w2, b2, g2, l2, rfl, rfl, hJ2, heq⟩ := hv
  try dsimp only [Nat.reduceAdd, Option.toList, List.cons_append, List.nil_append]
  refine xLw.s1 rfl rfl ?_
  try dsimp only [Nat.reduceAdd]
  refine xLw.s1 rfl rfl ?_
  try dsimp only [Nat.reduceAdd]
  exact nx _ _ _ hJ2
set_option maxRecDepth 10000 in
theorem w_at (hL : L ≤ 384) (hi : i + 6 ≤ L) (hvs : ∀ t, t < L → vs[t]? = some (.int (xv t))) (hJ : xJ b g) (nx : ∀ b2 g2 l2, xJ b2 g2 → xLw vs 1546 [(3, .int (nI i)), (2, .ref 73), (1, .ref 0), (0, .retAddr 0)] [] (xH b2 g2 l2)) : xLw vs 300 [(3, .int (nI i)), (2, .ref 73), (1, .ref 0), (0, .retAddr 0)] [] (xH b g l) := by
  refine xLw.s1 rfl rfl ?_
  try dsimp only [Nat.reduceAdd]
  refine xLw.s1 rfl rfl ?_
  try dsimp only [Nat.reduceAdd]
  refine xLw.s1 rfl rfl ?_
  try dsimp only [Nat.reduceAdd]
  refine xLw.s1 rfl rfl ?_
  try dsimp only [Nat.reduceAdd, xi_1]
  refine xLw.s1 rfl rfl ?_
  try dsimp only [Nat.reduceAdd]
  rw [show (nI i + 1 : Int32) = nI (i + 1) from nI_add i 1]
  refine xLw.ial rfl (hvs (i + 1) (by omega)) (by omega) ?_
  try dsimp only [Nat.reduceAdd]
  refine xLw.s1 rfl rfl ?_
  try dsimp only [Nat.reduceAdd]
  refine xLw.s1 rfl rfl ?_
  try dsimp only [Nat.reduceAdd]
  refine xLw.s1 rfl rfl ?_
  try dsimp only [Nat.reduceAdd, xi_2]
  refine xLw.s1 rfl rfl ?_
  try dsimp only [Nat.reduceAdd]
  rw [show (nI i + 2 : Int32) = nI (i + 2) from nI_add i 2]
  refine xLw.ial rfl (hvs (i + 2) (by omega)) (by omega) ?_
  try dsimp only [Nat.reduceAdd]
  refine xLw.cv rfl rfl rfl rfl rfl rfl ⟨by decide, rfl, rfl⟩ (j_at hJ) (fun v1 M1 hv => ?_)
  obtain ⟨w, b1, g1, l1, rfl, rfl, hT2⟩ := hv
  try dsimp only [Nat.reduceAdd, Option.toList, List.cons_append, List.nil_append]
  refine xLw.s1 rfl rfl ?_
  try dsimp only [Nat.reduceAdd]
  refine xLw.s1 rfl rfl ?_
  try dsimp only [Nat.reduceAdd]
  refine xLw.s1 rfl rfl ?_
  try dsimp only [Nat.reduceAdd]
  refine xLw.s1 rfl rfl ?_
  try dsimp only [Nat.reduceAdd]
  refine xLw.s1 rfl rfl ?_
  try dsimp only [Nat.reduceAdd, xi_1]
  refine xLw.s1 rfl rfl ?_
  try dsimp only [Nat.reduceAdd]
  rw [show (nI i + 1 : Int32) = nI (i + 1) from nI_add i 1]
  refine xLw.ial rfl (hvs (i + 1) (by omega)) (by omega) ?_
  try dsimp only [Nat.reduceAdd]
  refine xLw.s1 rfl rfl ?_
  try dsimp only [Nat.reduceAdd]
  refine xLw.s1 rfl rfl ?_
  try dsimp only [Nat.reduceAdd]
  refine xLw.s1 rfl rfl ?_
  try dsimp only [Nat.reduceAdd, xi_2]
  refine xLw.s1 rfl rfl ?_
  try dsimp only [Nat.reduceAdd]
  rw [show (nI i + 2 : Int32) = nI (i + 2) from nI_add i 2]
  refine xLw.ial rfl (hvs (i + 2) (by omega)) (by omega) ?_
  try dsimp only [Nat.reduceAdd]
  refine xLw.cv rfl rfl rfl rfl rfl rfl ⟨by decide, rfl, rfl⟩ hT2 (fun v1 M1 hv => ?_)
  obtain ⟨w2, b2, g2, l2, rfl, rfl, hJ2, heq⟩ := hv
  try dsimp only [Nat.reduceAdd, Option.toList, List.cons_append, List.nil_append]
  refine xLw.s1 rfl rfl ?_
  try dsimp only [Nat.reduceAdd]
  refine xLw.s1 rfl rfl ?_
  try dsimp only [Nat.reduceAdd]
  exact nx _ _ _ hJ2
set_option maxRecDepth 10000 in
theorem w_tear (hL : L ≤ 384) (hi : i + 6 ≤ L) (hvs : ∀ t, t < L → vs[t]? = some (.int (xv t))) (hJ : xJ b g) (nx : ∀ b2 g2 l2, xJ b2 g2 → xLw vs 1546 [(3, .int (nI i)), (2, .ref 73), (1, .ref 0), (0, .retAddr 0)] [] (xH b2 g2 l2)) : xLw vs 333 [(3, .int (nI i)), (2, .ref 73), (1, .ref 0), (0, .retAddr 0)] [] (xH b g l) := by
  refine xLw.s1 rfl rfl ?_
  try dsimp only [Nat.reduceAdd]
  refine xLw.s1 rfl rfl ?_
  try dsimp only [Nat.reduceAdd]
  refine xLw.s1 rfl rfl ?_
  try dsimp only [Nat.reduceAdd]
  refine xLw.s1 rfl rfl ?_
  try dsimp only [Nat.reduceAdd, xi_1]
  refine xLw.s1 rfl rfl ?_
  try dsimp only [Nat.reduceAdd]
  rw [show (nI i + 1 : Int32) = nI (i + 1) from nI_add i 1]
  refine xLw.ial rfl (hvs (i + 1) (by omega)) (by omega) ?_
  try dsimp only [Nat.reduceAdd]
  refine xLw.cv rfl rfl rfl rfl rfl rfl ⟨by decide, rfl, rfl⟩ (j_tear hJ) (fun v1 M1 hv => ?_)
  obtain ⟨w, b1, g1, l1, rfl, rfl, hT2⟩ := hv
  try dsimp only [Nat.reduceAdd, Option.toList, List.cons_append, List.nil_append]
  refine xLw.s1 rfl rfl ?_
  try dsimp only [Nat.reduceAdd]
  refine xLw.s1 rfl rfl ?_
  try dsimp only [Nat.reduceAdd]
  refine xLw.s1 rfl rfl ?_
  try dsimp only [Nat.reduceAdd]
  refine xLw.s1 rfl rfl ?_
  try dsimp only [Nat.reduceAdd]
  refine xLw.s1 rfl rfl ?_
  try dsimp only [Nat.reduceAdd, xi_1]
  refine xLw.s1 rfl rfl ?_
  try dsimp only [Nat.reduceAdd]
  rw [show (nI i + 1 : Int32) = nI (i + 1) from nI_add i 1]
  refine xLw.ial rfl (hvs (i + 1) (by omega)) (by omega) ?_
  try dsimp only [Nat.reduceAdd]
  refine xLw.cv rfl rfl rfl rfl rfl rfl ⟨by decide, rfl, rfl⟩ hT2 (fun v1 M1 hv => ?_)
  obtain ⟨w2, b2, g2, l2, rfl, rfl, hJ2, heq⟩ := hv
  try dsimp only [Nat.reduceAdd, Option.toList, List.cons_append, List.nil_append]
  refine xLw.s1 rfl rfl ?_
  try dsimp only [Nat.reduceAdd]
  refine xLw.s1 rfl rfl ?_
  try dsimp only [Nat.reduceAdd]
  exact nx _ _ _ hJ2
set_option maxRecDepth 10000 in
theorem w_copy (hL : L ≤ 384) (hi : i + 6 ≤ L) (hvs : ∀ t, t < L → vs[t]? = some (.int (xv t))) (hJ : xJ b g) (nx : ∀ b2 g2 l2, xJ b2 g2 → xLw vs 1546 [(3, .int (nI i)), (2, .ref 73), (1, .ref 0), (0, .retAddr 0)] [] (xH b2 g2 l2)) : xLw vs 356 [(3, .int (nI i)), (2, .ref 73), (1, .ref 0), (0, .retAddr 0)] [] (xH b g l) := by
  refine xLw.s1 rfl rfl ?_
  try dsimp only [Nat.reduceAdd]
  refine xLw.s1 rfl rfl ?_
  try dsimp only [Nat.reduceAdd]
  refine xLw.s1 rfl rfl ?_
  try dsimp only [Nat.reduceAdd]
  refine xLw.s1 rfl rfl ?_
  try dsimp only [Nat.reduceAdd, xi_1]
  refine xLw.s1 rfl rfl ?_
  try dsimp only [Nat.reduceAdd]
  rw [show (nI i + 1 : Int32) = nI (i + 1) from nI_add i 1]
  refine xLw.ial rfl (hvs (i + 1) (by omega)) (by omega) ?_
  try dsimp only [Nat.reduceAdd]
  refine xLw.s1 rfl rfl ?_
  try dsimp only [Nat.reduceAdd]
  refine xLw.s1 rfl rfl ?_
  try dsimp only [Nat.reduceAdd]
  refine xLw.s1 rfl rfl ?_
  try dsimp only [Nat.reduceAdd, xi_2]
  refine xLw.s1 rfl rfl ?_
  try dsimp only [Nat.reduceAdd]
  rw [show (nI i + 2 : Int32) = nI (i + 2) from nI_add i 2]
  refine xLw.ial rfl (hvs (i + 2) (by omega)) (by omega) ?_
  try dsimp only [Nat.reduceAdd]
  refine xLw.s1 rfl rfl ?_
  try dsimp only [Nat.reduceAdd]
  refine xLw.s1 rfl rfl ?_
  try dsimp only [Nat.reduceAdd]
  refine xLw.s1 rfl rfl ?_
  try dsimp only [Nat.reduceAdd, xi_3]
  refine xLw.s1 rfl rfl ?_
  try dsimp only [Nat.reduceAdd]
  rw [show (nI i + 3 : Int32) = nI (i + 3) from nI_add i 3]
  refine xLw.ial rfl (hvs (i + 3) (by omega)) (by omega) ?_
  try dsimp only [Nat.reduceAdd]
  refine xLw.s1 rfl rfl ?_
  try dsimp only [Nat.reduceAdd]
  refine xLw.s1 rfl rfl ?_
  try dsimp only [Nat.reduceAdd]
  refine xLw.s1 rfl rfl ?_
  try dsimp only [Nat.reduceAdd, xi_4]
  refine xLw.s1 rfl rfl ?_
  try dsimp only [Nat.reduceAdd]
  rw [show (nI i + 4 : Int32) = nI (i + 4) from nI_add i 4]
  refine xLw.ial rfl (hvs (i + 4) (by omega)) (by omega) ?_
  try dsimp only [Nat.reduceAdd]
  refine xLw.s1 rfl rfl ?_
  try dsimp only [Nat.reduceAdd]
  refine xLw.s1 rfl rfl ?_
  try dsimp only [Nat.reduceAdd]
  refine xLw.s1 rfl rfl ?_
  try dsimp only [Nat.reduceAdd, xi_5]
  refine xLw.s1 rfl rfl ?_
  try dsimp only [Nat.reduceAdd]
  rw [show (nI i + 5 : Int32) = nI (i + 5) from nI_add i 5]
  refine xLw.ial rfl (hvs (i + 5) (by omega)) (by omega) ?_
  try dsimp only [Nat.reduceAdd]
  refine xLw.cv rfl rfl rfl rfl rfl rfl ⟨by decide, rfl, rfl⟩ (j_copy hJ) (fun v1 M1 hv => ?_)
  obtain ⟨w, b1, g1, l1, rfl, rfl, hT2⟩ := hv
  try dsimp only [Nat.reduceAdd, Option.toList, List.cons_append, List.nil_append]
  refine xLw.s1 rfl rfl ?_
  try dsimp only [Nat.reduceAdd]
  refine xLw.s1 rfl rfl ?_
  try dsimp only [Nat.reduceAdd]
  refine xLw.s1 rfl rfl ?_
  try dsimp only [Nat.reduceAdd]
  refine xLw.s1 rfl rfl ?_
  try dsimp only [Nat.reduceAdd]
  refine xLw.s1 rfl rfl ?_
  try dsimp only [Nat.reduceAdd, xi_1]
  refine xLw.s1 rfl rfl ?_
  try dsimp only [Nat.reduceAdd]
  rw [show (nI i + 1 : Int32) = nI (i + 1) from nI_add i 1]
  refine xLw.ial rfl (hvs (i + 1) (by omega)) (by omega) ?_
  try dsimp only [Nat.reduceAdd]
  refine xLw.s1 rfl rfl ?_
  try dsimp only [Nat.reduceAdd]
  refine xLw.s1 rfl rfl ?_
  try dsimp only [Nat.reduceAdd]
  refine xLw.s1 rfl rfl ?_
  try dsimp only [Nat.reduceAdd, xi_2]
  refine xLw.s1 rfl rfl ?_
  try dsimp only [Nat.reduceAdd]
  rw [show (nI i + 2 : Int32) = nI (i + 2) from nI_add i 2]
  refine xLw.ial rfl (hvs (i + 2) (by omega)) (by omega) ?_
  try dsimp only [Nat.reduceAdd]
  refine xLw.s1 rfl rfl ?_
  try dsimp only [Nat.reduceAdd]
  refine xLw.s1 rfl rfl ?_
  try dsimp only [Nat.reduceAdd]
  refine xLw.s1 rfl rfl ?_
  try dsimp only [Nat.reduceAdd, xi_3]
  refine xLw.s1 rfl rfl ?_
  try dsimp only [Nat.reduceAdd]
  rw [show (nI i + 3 : Int32) = nI (i + 3) from nI_add i 3]
  refine xLw.ial rfl (hvs (i + 3) (by omega)) (by omega) ?_
  try dsimp only [Nat.reduceAdd]
  refine xLw.s1 rfl rfl ?_
  try dsimp only [Nat.reduceAdd]
  refine xLw.s1 rfl rfl ?_
  try dsimp only [Nat.reduceAdd]
  refine xLw.s1 rfl rfl ?_
  try dsimp only [Nat.reduceAdd, xi_4]
  refine xLw.s1 rfl rfl ?_
  try dsimp only [Nat.reduceAdd]
  rw [show (nI i + 4 : Int32) = nI (i + 4) from nI_add i 4]
  refine xLw.ial rfl (hvs (i + 4) (by omega)) (by omega) ?_
  try dsimp only [Nat.reduceAdd]
  refine xLw.s1 rfl rfl ?_
  try dsimp only [Nat.reduceAdd]
  refine xLw.s1 rfl rfl ?_
  try dsimp only [Nat.reduceAdd]
  refine xLw.s1 rfl rfl ?_
  try dsimp only [Nat.reduceAdd, xi_5]
  refine xLw.s1 rfl rfl ?_
  try dsimp only [Nat.reduceAdd]
  rw [show (nI i + 5 : Int32) = nI (i + 5) from nI_add i 5]
  refine xLw.ial rfl (hvs (i + 5) (by omega)) (by omega) ?_
  try dsimp only [Nat.reduceAdd]
  refine xLw.cv rfl rfl rfl rfl rfl rfl ⟨by decide, rfl, rfl⟩ hT2 (fun v1 M1 hv => ?_)
  obtain ⟨w2, b2, g2, l2, rfl, rfl, hJ2, heq⟩ := hv
  try dsimp only [Nat.reduceAdd, Option.toList, List.cons_append, List.nil_append]
  refine xLw.s1 rfl rfl ?_
  try dsimp only [Nat.reduceAdd]
  refine xLw.s1 rfl rfl ?_
  try dsimp only [Nat.reduceAdd]
  exact nx _ _ _ hJ2
set_option maxRecDepth 10000 in
theorem w_mean (hL : L ≤ 384) (hi : i + 6 ≤ L) (hvs : ∀ t, t < L → vs[t]? = some (.int (xv t))) (hJ : xJ b g) (nx : ∀ b2 g2 l2, xJ b2 g2 → xLw vs 1546 [(3, .int (nI i)), (2, .ref 73), (1, .ref 0), (0, .retAddr 0)] [] (xH b2 g2 l2)) : xLw vs 419 [(3, .int (nI i)), (2, .ref 73), (1, .ref 0), (0, .retAddr 0)] [] (xH b g l) := by
  refine xLw.s1 rfl rfl ?_
  try dsimp only [Nat.reduceAdd]
  refine xLw.s1 rfl rfl ?_
  try dsimp only [Nat.reduceAdd]
  refine xLw.s1 rfl rfl ?_
  try dsimp only [Nat.reduceAdd]
  refine xLw.s1 rfl rfl ?_
  try dsimp only [Nat.reduceAdd, xi_1]
  refine xLw.s1 rfl rfl ?_
  try dsimp only [Nat.reduceAdd]
  rw [show (nI i + 1 : Int32) = nI (i + 1) from nI_add i 1]
  refine xLw.ial rfl (hvs (i + 1) (by omega)) (by omega) ?_
  try dsimp only [Nat.reduceAdd]
  refine xLw.cv rfl rfl rfl rfl rfl rfl ⟨by decide, rfl, rfl⟩ (j_mean hJ) (fun v1 M1 hv => ?_)
  obtain ⟨w, b1, g1, l1, rfl, rfl, hT2⟩ := hv
  try dsimp only [Nat.reduceAdd, Option.toList, List.cons_append, List.nil_append]
  refine xLw.s1 rfl rfl ?_
  try dsimp only [Nat.reduceAdd]
  refine xLw.s1 rfl rfl ?_
  try dsimp only [Nat.reduceAdd]
  refine xLw.s1 rfl rfl ?_
  try dsimp only [Nat.reduceAdd]
  refine xLw.s1 rfl rfl ?_
  try dsimp only [Nat.reduceAdd]
  refine xLw.s1 rfl rfl ?_
  try dsimp only [Nat.reduceAdd, xi_1]
  refine xLw.s1 rfl rfl ?_
  try dsimp only [Nat.reduceAdd]
  rw [show (nI i + 1 : Int32) = nI (i + 1) from nI_add i 1]
  refine xLw.ial rfl (hvs (i + 1) (by omega)) (by omega) ?_
  try dsimp only [Nat.reduceAdd]
  refine xLw.cv rfl rfl rfl rfl rfl rfl ⟨by decide, rfl, rfl⟩ hT2 (fun v1 M1 hv => ?_)
  obtain ⟨w2, b2, g2, l2, rfl, rfl, hJ2, heq⟩ := hv
  try dsimp only [Nat.reduceAdd, Option.toList, List.cons_append, List.nil_append]
  refine xLw.s1 rfl rfl ?_
  try dsimp only [Nat.reduceAdd]
  refine xLw.s1 rfl rfl ?_
  try dsimp only [Nat.reduceAdd]
  exact nx _ _ _ hJ2
set_option maxRecDepth 10000 in
theorem w_text (hL : L ≤ 384) (hi : i + 6 ≤ L) (hvs : ∀ t, t < L → vs[t]? = some (.int (xv t))) (hJ : xJ b g) (nx : ∀ b2 g2 l2, xJ b2 g2 → xLw vs 1546 [(3, .int (nI i)), (2, .ref 73), (1, .ref 0), (0, .retAddr 0)] [] (xH b2 g2 l2)) : xLw vs 442 [(3, .int (nI i)), (2, .ref 73), (1, .ref 0), (0, .retAddr 0)] [] (xH b g l) := by
  refine xLw.s1 rfl rfl ?_
  try dsimp only [Nat.reduceAdd]
  refine xLw.s1 rfl rfl ?_
  try dsimp only [Nat.reduceAdd]
  refine xLw.s1 rfl rfl ?_
  try dsimp only [Nat.reduceAdd]
  refine xLw.s1 rfl rfl ?_
  try dsimp only [Nat.reduceAdd, xi_1]
  refine xLw.s1 rfl rfl ?_
  try dsimp only [Nat.reduceAdd]
  rw [show (nI i + 1 : Int32) = nI (i + 1) from nI_add i 1]
  refine xLw.ial rfl (hvs (i + 1) (by omega)) (by omega) ?_
  try dsimp only [Nat.reduceAdd]
  refine xLw.s1 rfl rfl ?_
  try dsimp only [Nat.reduceAdd]
  refine xLw.s1 rfl rfl ?_
  try dsimp only [Nat.reduceAdd]
  refine xLw.s1 rfl rfl ?_
  try dsimp only [Nat.reduceAdd, xi_2]
  refine xLw.s1 rfl rfl ?_
  try dsimp only [Nat.reduceAdd]
  rw [show (nI i + 2 : Int32) = nI (i + 2) from nI_add i 2]
  refine xLw.ial rfl (hvs (i + 2) (by omega)) (by omega) ?_
  try dsimp only [Nat.reduceAdd]
  refine xLw.cv rfl rfl rfl rfl rfl rfl ⟨by decide, rfl, rfl⟩ (j_text hJ) (fun v1 M1 hv => ?_)
  obtain ⟨w, b1, g1, l1, rfl, rfl, hT2⟩ := hv
  try dsimp only [Nat.reduceAdd, Option.toList, List.cons_append, List.nil_append]
  refine xLw.s1 rfl rfl ?_
  try dsimp only [Nat.reduceAdd]
  refine xLw.s1 rfl rfl ?_
  try dsimp only [Nat.reduceAdd]
  refine xLw.s1 rfl rfl ?_
  try dsimp only [Nat.reduceAdd]
  refine xLw.s1 rfl rfl ?_
  try dsimp only [Nat.reduceAdd]
  refine xLw.s1 rfl rfl ?_
  try dsimp only [Nat.reduceAdd, xi_1]
  refine xLw.s1 rfl rfl ?_
  try dsimp only [Nat.reduceAdd]
  rw [show (nI i + 1 : Int32) = nI (i + 1) from nI_add i 1]
  refine xLw.ial rfl (hvs (i + 1) (by omega)) (by omega) ?_
  try dsimp only [Nat.reduceAdd]
  refine xLw.s1 rfl rfl ?_
  try dsimp only [Nat.reduceAdd]
  refine xLw.s1 rfl rfl ?_
  try dsimp only [Nat.reduceAdd]
  refine xLw.s1 rfl rfl ?_
  try dsimp only [Nat.reduceAdd, xi_2]
  refine xLw.s1 rfl rfl ?_
  try dsimp only [Nat.reduceAdd]
  rw [show (nI i + 2 : Int32) = nI (i + 2) from nI_add i 2]
  refine xLw.ial rfl (hvs (i + 2) (by omega)) (by omega) ?_
  try dsimp only [Nat.reduceAdd]
  refine xLw.cv rfl rfl rfl rfl rfl rfl ⟨by decide, rfl, rfl⟩ hT2 (fun v1 M1 hv => ?_)
  obtain ⟨w2, b2, g2, l2, rfl, rfl, hJ2, heq⟩ := hv
  try dsimp only [Nat.reduceAdd, Option.toList, List.cons_append, List.nil_append]
  refine xLw.s1 rfl rfl ?_
  try dsimp only [Nat.reduceAdd]
  refine xLw.s1 rfl rfl ?_
  try dsimp only [Nat.reduceAdd]
  exact nx _ _ _ hJ2
set_option maxRecDepth 10000 in
theorem w_put (hL : L ≤ 384) (hi : i + 6 ≤ L) (hvs : ∀ t, t < L → vs[t]? = some (.int (xv t))) (hJ : xJ b g) (nx : ∀ b2 g2 l2, xJ b2 g2 → xLw vs 1546 [(3, .int (nI i)), (2, .ref 73), (1, .ref 0), (0, .retAddr 0)] [] (xH b2 g2 l2)) : xLw vs 475 [(3, .int (nI i)), (2, .ref 73), (1, .ref 0), (0, .retAddr 0)] [] (xH b g l) := by
  refine xLw.s1 rfl rfl ?_
  try dsimp only [Nat.reduceAdd]
  refine xLw.s1 rfl rfl ?_
  try dsimp only [Nat.reduceAdd]
  refine xLw.s1 rfl rfl ?_
  try dsimp only [Nat.reduceAdd]
  refine xLw.s1 rfl rfl ?_
  try dsimp only [Nat.reduceAdd, xi_1]
  refine xLw.s1 rfl rfl ?_
  try dsimp only [Nat.reduceAdd]
  rw [show (nI i + 1 : Int32) = nI (i + 1) from nI_add i 1]
  refine xLw.ial rfl (hvs (i + 1) (by omega)) (by omega) ?_
  try dsimp only [Nat.reduceAdd]
  refine xLw.s1 rfl rfl ?_
  try dsimp only [Nat.reduceAdd]
  refine xLw.s1 rfl rfl ?_
  try dsimp only [Nat.reduceAdd]
  refine xLw.s1 rfl rfl ?_
  try dsimp only [Nat.reduceAdd, xi_2]
  refine xLw.s1 rfl rfl ?_
  try dsimp only [Nat.reduceAdd]
  rw [show (nI i + 2 : Int32) = nI (i + 2) from nI_add i 2]
  refine xLw.ial rfl (hvs (i + 2) (by omega)) (by omega) ?_
  try dsimp only [Nat.reduceAdd]
  refine xLw.s1 rfl rfl ?_
  try dsimp only [Nat.reduceAdd]
  refine xLw.s1 rfl rfl ?_
  try dsimp only [Nat.reduceAdd]
  refine xLw.s1 rfl rfl ?_
  try dsimp only [Nat.reduceAdd, xi_3]
  refine xLw.s1 rfl rfl ?_
  try dsimp only [Nat.reduceAdd]
  rw [show (nI i + 3 : Int32) = nI (i + 3) from nI_add i 3]
  refine xLw.ial rfl (hvs (i + 3) (by omega)) (by omega) ?_
  try dsimp only [Nat.reduceAdd]
  refine xLw.cv rfl rfl rfl rfl rfl rfl ⟨by decide, rfl, rfl⟩ (j_put hJ) (fun v1 M1 hv => ?_)
  obtain ⟨w, b1, g1, l1, rfl, rfl, hT2⟩ := hv
  try dsimp only [Nat.reduceAdd, Option.toList, List.cons_append, List.nil_append]
  refine xLw.s1 rfl rfl ?_
  try dsimp only [Nat.reduceAdd]
  refine xLw.s1 rfl rfl ?_
  try dsimp only [Nat.reduceAdd]
  refine xLw.s1 rfl rfl ?_
  try dsimp only [Nat.reduceAdd]
  refine xLw.s1 rfl rfl ?_
  try dsimp only [Nat.reduceAdd]
  refine xLw.s1 rfl rfl ?_
  try dsimp only [Nat.reduceAdd, xi_1]
  refine xLw.s1 rfl rfl ?_
  try dsimp only [Nat.reduceAdd]
  rw [show (nI i + 1 : Int32) = nI (i + 1) from nI_add i 1]
  refine xLw.ial rfl (hvs (i + 1) (by omega)) (by omega) ?_
  try dsimp only [Nat.reduceAdd]
  refine xLw.s1 rfl rfl ?_
  try dsimp only [Nat.reduceAdd]
  refine xLw.s1 rfl rfl ?_
  try dsimp only [Nat.reduceAdd]
  refine xLw.s1 rfl rfl ?_
  try dsimp only [Nat.reduceAdd, xi_2]
  refine xLw.s1 rfl rfl ?_
  try dsimp only [Nat.reduceAdd]
  rw [show (nI i + 2 : Int32) = nI (i + 2) from nI_add i 2]
  refine xLw.ial rfl (hvs (i + 2) (by omega)) (by omega) ?_
  try dsimp only [Nat.reduceAdd]
  refine xLw.s1 rfl rfl ?_
  try dsimp only [Nat.reduceAdd]
  refine xLw.s1 rfl rfl ?_
  try dsimp only [Nat.reduceAdd]
  refine xLw.s1 rfl rfl ?_
  try dsimp only [Nat.reduceAdd, xi_3]
  refine xLw.s1 rfl rfl ?_
  try dsimp only [Nat.reduceAdd]
  rw [show (nI i + 3 : Int32) = nI (i + 3) from nI_add i 3]
  refine xLw.ial rfl (hvs (i + 3) (by omega)) (by omega) ?_
  try dsimp only [Nat.reduceAdd]
  refine xLw.cv rfl rfl rfl rfl rfl rfl ⟨by decide, rfl, rfl⟩ hT2 (fun v1 M1 hv => ?_)
  obtain ⟨w2, b2, g2, l2, rfl, rfl, hJ2, heq⟩ := hv
  try dsimp only [Nat.reduceAdd, Option.toList, List.cons_append, List.nil_append]
  refine xLw.s1 rfl rfl ?_
  try dsimp only [Nat.reduceAdd]
  refine xLw.s1 rfl rfl ?_
  try dsimp only [Nat.reduceAdd]
  exact nx _ _ _ hJ2
set_option maxRecDepth 10000 in
theorem w_fault (hL : L ≤ 384) (hi : i + 6 ≤ L) (hvs : ∀ t, t < L → vs[t]? = some (.int (xv t))) (hJ : xJ b g) (nx : ∀ b2 g2 l2, xJ b2 g2 → xLw vs 1546 [(3, .int (nI i)), (2, .ref 73), (1, .ref 0), (0, .retAddr 0)] [] (xH b2 g2 l2)) : xLw vs 518 [(3, .int (nI i)), (2, .ref 73), (1, .ref 0), (0, .retAddr 0)] [] (xH b g l) := by
  refine xLw.s1 rfl rfl ?_
  try dsimp only [Nat.reduceAdd]
  refine xLw.s1 rfl rfl ?_
  try dsimp only [Nat.reduceAdd]
  refine xLw.s1 rfl rfl ?_
  try dsimp only [Nat.reduceAdd]
  refine xLw.s1 rfl rfl ?_
  try dsimp only [Nat.reduceAdd, xi_1]
  refine xLw.s1 rfl rfl ?_
  try dsimp only [Nat.reduceAdd]
  rw [show (nI i + 1 : Int32) = nI (i + 1) from nI_add i 1]
  refine xLw.ial rfl (hvs (i + 1) (by omega)) (by omega) ?_
  try dsimp only [Nat.reduceAdd]
  refine xLw.cv rfl rfl rfl rfl rfl rfl ⟨by decide, rfl, rfl⟩ (j_fault hJ) (fun v1 M1 hv => ?_)
  obtain ⟨w, b1, g1, l1, rfl, rfl, hT2⟩ := hv
  try dsimp only [Nat.reduceAdd, Option.toList, List.cons_append, List.nil_append]
  refine xLw.s1 rfl rfl ?_
  try dsimp only [Nat.reduceAdd]
  refine xLw.s1 rfl rfl ?_
  try dsimp only [Nat.reduceAdd]
  refine xLw.s1 rfl rfl ?_
  try dsimp only [Nat.reduceAdd]
  refine xLw.s1 rfl rfl ?_
  try dsimp only [Nat.reduceAdd]
  refine xLw.s1 rfl rfl ?_
  try dsimp only [Nat.reduceAdd, xi_1]
  refine xLw.s1 rfl rfl ?_
  try dsimp only [Nat.reduceAdd]
  rw [show (nI i + 1 : Int32) = nI (i + 1) from nI_add i 1]
  refine xLw.ial rfl (hvs (i + 1) (by omega)) (by omega) ?_
  try dsimp only [Nat.reduceAdd]
  refine xLw.cv rfl rfl rfl rfl rfl rfl ⟨by decide, rfl, rfl⟩ hT2 (fun v1 M1 hv => ?_)
  obtain ⟨w2, b2, g2, l2, rfl, rfl, hJ2, heq⟩ := hv
  try dsimp only [Nat.reduceAdd, Option.toList, List.cons_append, List.nil_append]
  refine xLw.s1 rfl rfl ?_
  try dsimp only [Nat.reduceAdd]
  refine xLw.s1 rfl rfl ?_
  try dsimp only [Nat.reduceAdd]
  exact nx _ _ _ hJ2
set_option maxRecDepth 10000 in
theorem w_room (hL : L ≤ 384) (hi : i + 6 ≤ L) (hvs : ∀ t, t < L → vs[t]? = some (.int (xv t))) (hJ : xJ b g) (nx : ∀ b2 g2 l2, xJ b2 g2 → xLw vs 1546 [(3, .int (nI i)), (2, .ref 73), (1, .ref 0), (0, .retAddr 0)] [] (xH b2 g2 l2)) : xLw vs 541 [(3, .int (nI i)), (2, .ref 73), (1, .ref 0), (0, .retAddr 0)] [] (xH b g l) := by
  refine xLw.s1 rfl rfl ?_
  try dsimp only [Nat.reduceAdd]
  refine xLw.s1 rfl rfl ?_
  try dsimp only [Nat.reduceAdd]
  refine xLw.s1 rfl rfl ?_
  try dsimp only [Nat.reduceAdd]
  refine xLw.s1 rfl rfl ?_
  try dsimp only [Nat.reduceAdd, xi_1]
  refine xLw.s1 rfl rfl ?_
  try dsimp only [Nat.reduceAdd]
  rw [show (nI i + 1 : Int32) = nI (i + 1) from nI_add i 1]
  refine xLw.ial rfl (hvs (i + 1) (by omega)) (by omega) ?_
  try dsimp only [Nat.reduceAdd]
  refine xLw.cv rfl rfl rfl rfl rfl rfl ⟨by decide, rfl, rfl⟩ (j_room hJ) (fun v1 M1 hv => ?_)
  obtain ⟨w, b1, g1, l1, rfl, rfl, hT2⟩ := hv
  try dsimp only [Nat.reduceAdd, Option.toList, List.cons_append, List.nil_append]
  refine xLw.s1 rfl rfl ?_
  try dsimp only [Nat.reduceAdd]
  refine xLw.s1 rfl rfl ?_
  try dsimp only [Nat.reduceAdd]
  refine xLw.s1 rfl rfl ?_
  try dsimp only [Nat.reduceAdd]
  refine xLw.s1 rfl rfl ?_
  try dsimp only [Nat.reduceAdd]
  refine xLw.s1 rfl rfl ?_
  try dsimp only [Nat.reduceAdd, xi_1]
  refine xLw.s1 rfl rfl ?_
  try dsimp only [Nat.reduceAdd]
  rw [show (nI i + 1 : Int32) = nI (i + 1) from nI_add i 1]
  refine xLw.ial rfl (hvs (i + 1) (by omega)) (by omega) ?_
  try dsimp only [Nat.reduceAdd]
  refine xLw.cv rfl rfl rfl rfl rfl rfl ⟨by decide, rfl, rfl⟩ hT2 (fun v1 M1 hv => ?_)
  obtain ⟨w2, b2, g2, l2, rfl, rfl, hJ2, heq⟩ := hv
  try dsimp only [Nat.reduceAdd, Option.toList, List.cons_append, List.nil_append]
  refine xLw.s1 rfl rfl ?_
  try dsimp only [Nat.reduceAdd]
  refine xLw.s1 rfl rfl ?_
  try dsimp only [Nat.reduceAdd]
  exact nx _ _ _ hJ2
set_option maxRecDepth 10000 in
theorem w_glass (hL : L ≤ 384) (hi : i + 6 ≤ L) (hvs : ∀ t, t < L → vs[t]? = some (.int (xv t))) (hJ : xJ b g) (nx : ∀ b2 g2 l2, xJ b2 g2 → xLw vs 1546 [(3, .int (nI i)), (2, .ref 73), (1, .ref 0), (0, .retAddr 0)] [] (xH b2 g2 l2)) : xLw vs 564 [(3, .int (nI i)), (2, .ref 73), (1, .ref 0), (0, .retAddr 0)] [] (xH b g l) := by
  refine xLw.s1 rfl rfl ?_
  try dsimp only [Nat.reduceAdd]
  refine xLw.s1 rfl rfl ?_
  try dsimp only [Nat.reduceAdd]
  refine xLw.s1 rfl rfl ?_
  try dsimp only [Nat.reduceAdd]
  refine xLw.s1 rfl rfl ?_
  try dsimp only [Nat.reduceAdd, xi_1]
  refine xLw.s1 rfl rfl ?_
  try dsimp only [Nat.reduceAdd]
  rw [show (nI i + 1 : Int32) = nI (i + 1) from nI_add i 1]
  refine xLw.ial rfl (hvs (i + 1) (by omega)) (by omega) ?_
  try dsimp only [Nat.reduceAdd]
  refine xLw.s1 rfl rfl ?_
  try dsimp only [Nat.reduceAdd]
  refine xLw.s1 rfl rfl ?_
  try dsimp only [Nat.reduceAdd]
  refine xLw.s1 rfl rfl ?_
  try dsimp only [Nat.reduceAdd, xi_2]
  refine xLw.s1 rfl rfl ?_
  try dsimp only [Nat.reduceAdd]
  rw [show (nI i + 2 : Int32) = nI (i + 2) from nI_add i 2]
  refine xLw.ial rfl (hvs (i + 2) (by omega)) (by omega) ?_
  try dsimp only [Nat.reduceAdd]
  refine xLw.cv rfl rfl rfl rfl rfl rfl ⟨by decide, rfl, rfl⟩ (j_glass hJ) (fun v1 M1 hv => ?_)
  obtain ⟨w, b1, g1, l1, rfl, rfl, hT2⟩ := hv
  try dsimp only [Nat.reduceAdd, Option.toList, List.cons_append, List.nil_append]
  refine xLw.s1 rfl rfl ?_
  try dsimp only [Nat.reduceAdd]
  refine xLw.s1 rfl rfl ?_
  try dsimp only [Nat.reduceAdd]
  refine xLw.s1 rfl rfl ?_
  try dsimp only [Nat.reduceAdd]
  refine xLw.s1 rfl rfl ?_
  try dsimp only [Nat.reduceAdd]
  refine xLw.s1 rfl rfl ?_
  try dsimp only [Nat.reduceAdd, xi_1]
  refine xLw.s1 rfl rfl ?_
  try dsimp only [Nat.reduceAdd]
  rw [show (nI i + 1 : Int32) = nI (i + 1) from nI_add i 1]
  refine xLw.ial rfl (hvs (i + 1) (by omega)) (by omega) ?_
  try dsimp only [Nat.reduceAdd]
  refine xLw.s1 rfl rfl ?_
  try dsimp only [Nat.reduceAdd]
  refine xLw.s1 rfl rfl ?_
  try dsimp only [Nat.reduceAdd]
  refine xLw.s1 rfl rfl ?_
  try dsimp only [Nat.reduceAdd, xi_2]
  refine xLw.s1 rfl rfl ?_
  try dsimp only [Nat.reduceAdd]
  rw [show (nI i + 2 : Int32) = nI (i + 2) from nI_add i 2]
  refine xLw.ial rfl (hvs (i + 2) (by omega)) (by omega) ?_
  try dsimp only [Nat.reduceAdd]
  refine xLw.cv rfl rfl rfl rfl rfl rfl ⟨by decide, rfl, rfl⟩ hT2 (fun v1 M1 hv => ?_)
  obtain ⟨w2, b2, g2, l2, rfl, rfl, hJ2, heq⟩ := hv
  try dsimp only [Nat.reduceAdd, Option.toList, List.cons_append, List.nil_append]
  refine xLw.s1 rfl rfl ?_
  try dsimp only [Nat.reduceAdd]
  refine xLw.s1 rfl rfl ?_
  try dsimp only [Nat.reduceAdd]
  exact nx _ _ _ hJ2
set_option maxRecDepth 10000 in
theorem w_mark (hL : L ≤ 384) (hi : i + 6 ≤ L) (hvs : ∀ t, t < L → vs[t]? = some (.int (xv t))) (hJ : xJ b g) (nx : ∀ b2 g2 l2, xJ b2 g2 → xLw vs 1546 [(3, .int (nI i)), (2, .ref 73), (1, .ref 0), (0, .retAddr 0)] [] (xH b2 g2 l2)) : xLw vs 597 [(3, .int (nI i)), (2, .ref 73), (1, .ref 0), (0, .retAddr 0)] [] (xH b g l) := by
  refine xLw.s1 rfl rfl ?_
  try dsimp only [Nat.reduceAdd]
  refine xLw.s1 rfl rfl ?_
  try dsimp only [Nat.reduceAdd]
  refine xLw.s1 rfl rfl ?_
  try dsimp only [Nat.reduceAdd]
  refine xLw.s1 rfl rfl ?_
  try dsimp only [Nat.reduceAdd, xi_1]
  refine xLw.s1 rfl rfl ?_
  try dsimp only [Nat.reduceAdd]
  rw [show (nI i + 1 : Int32) = nI (i + 1) from nI_add i 1]
  refine xLw.ial rfl (hvs (i + 1) (by omega)) (by omega) ?_
  try dsimp only [Nat.reduceAdd]
  refine xLw.s1 rfl rfl ?_
  try dsimp only [Nat.reduceAdd]
  refine xLw.s1 rfl rfl ?_
  try dsimp only [Nat.reduceAdd]
  refine xLw.s1 rfl rfl ?_
  try dsimp only [Nat.reduceAdd, xi_2]
  refine xLw.s1 rfl rfl ?_
  try dsimp only [Nat.reduceAdd]
  rw [show (nI i + 2 : Int32) = nI (i + 2) from nI_add i 2]
  refine xLw.ial rfl (hvs (i + 2) (by omega)) (by omega) ?_
  try dsimp only [Nat.reduceAdd]
  refine xLw.cv rfl rfl rfl rfl rfl rfl ⟨by decide, rfl, rfl⟩ (j_mark hJ) (fun v1 M1 hv => ?_)
  obtain ⟨w, b1, g1, l1, rfl, rfl, hT2⟩ := hv
  try dsimp only [Nat.reduceAdd, Option.toList, List.cons_append, List.nil_append]
  refine xLw.s1 rfl rfl ?_
  try dsimp only [Nat.reduceAdd]
  refine xLw.s1 rfl rfl ?_
  try dsimp only [Nat.reduceAdd]
  refine xLw.s1 rfl rfl ?_
  try dsimp only [Nat.reduceAdd]
  refine xLw.s1 rfl rfl ?_
  try dsimp only [Nat.reduceAdd]
  refine xLw.s1 rfl rfl ?_
  try dsimp only [Nat.reduceAdd, xi_1]
  refine xLw.s1 rfl rfl ?_
  try dsimp only [Nat.reduceAdd]
  rw [show (nI i + 1 : Int32) = nI (i + 1) from nI_add i 1]
  refine xLw.ial rfl (hvs (i + 1) (by omega)) (by omega) ?_
  try dsimp only [Nat.reduceAdd]
  refine xLw.s1 rfl rfl ?_
  try dsimp only [Nat.reduceAdd]
  refine xLw.s1 rfl rfl ?_
  try dsimp only [Nat.reduceAdd]
  refine xLw.s1 rfl rfl ?_
  try dsimp only [Nat.reduceAdd, xi_2]
  refine xLw.s1 rfl rfl ?_
  try dsimp only [Nat.reduceAdd]
  rw [show (nI i + 2 : Int32) = nI (i + 2) from nI_add i 2]
  refine xLw.ial rfl (hvs (i + 2) (by omega)) (by omega) ?_
  try dsimp only [Nat.reduceAdd]
  refine xLw.cv rfl rfl rfl rfl rfl rfl ⟨by decide, rfl, rfl⟩ hT2 (fun v1 M1 hv => ?_)
  obtain ⟨w2, b2, g2, l2, rfl, rfl, hJ2, heq⟩ := hv
  try dsimp only [Nat.reduceAdd, Option.toList, List.cons_append, List.nil_append]
  refine xLw.s1 rfl rfl ?_
  try dsimp only [Nat.reduceAdd]
  refine xLw.s1 rfl rfl ?_
  try dsimp only [Nat.reduceAdd]
  exact nx _ _ _ hJ2
set_option maxRecDepth 10000 in
theorem w_habit (hL : L ≤ 384) (hi : i + 6 ≤ L) (hvs : ∀ t, t < L → vs[t]? = some (.int (xv t))) (hJ : xJ b g) (nx : ∀ b2 g2 l2, xJ b2 g2 → xLw vs 1546 [(3, .int (nI i)), (2, .ref 73), (1, .ref 0), (0, .retAddr 0)] [] (xH b2 g2 l2)) : xLw vs 630 [(3, .int (nI i)), (2, .ref 73), (1, .ref 0), (0, .retAddr 0)] [] (xH b g l) := by
  refine xLw.s1 rfl rfl ?_
  try dsimp only [Nat.reduceAdd]
  refine xLw.s1 rfl rfl ?_
  try dsimp only [Nat.reduceAdd]
  refine xLw.s1 rfl rfl ?_
  try dsimp only [Nat.reduceAdd]
  refine xLw.s1 rfl rfl ?_
  try dsimp only [Nat.reduceAdd, xi_1]
  refine xLw.s1 rfl rfl ?_
  try dsimp only [Nat.reduceAdd]
  rw [show (nI i + 1 : Int32) = nI (i + 1) from nI_add i 1]
  refine xLw.ial rfl (hvs (i + 1) (by omega)) (by omega) ?_
  try dsimp only [Nat.reduceAdd]
  refine xLw.cv rfl rfl rfl rfl rfl rfl ⟨by decide, rfl, rfl⟩ (j_habit hJ) (fun v1 M1 hv => ?_)
  obtain ⟨w, b1, g1, l1, rfl, rfl, hT2⟩ := hv
  try dsimp only [Nat.reduceAdd, Option.toList, List.cons_append, List.nil_append]
  refine xLw.s1 rfl rfl ?_
  try dsimp only [Nat.reduceAdd]
  refine xLw.s1 rfl rfl ?_
  try dsimp only [Nat.reduceAdd]
  refine xLw.s1 rfl rfl ?_
  try dsimp only [Nat.reduceAdd]
  refine xLw.s1 rfl rfl ?_
  try dsimp only [Nat.reduceAdd]
  refine xLw.s1 rfl rfl ?_
  try dsimp only [Nat.reduceAdd, xi_1]
  refine xLw.s1 rfl rfl ?_
  try dsimp only [Nat.reduceAdd]
  rw [show (nI i + 1 : Int32) = nI (i + 1) from nI_add i 1]
  refine xLw.ial rfl (hvs (i + 1) (by omega)) (by omega) ?_
  try dsimp only [Nat.reduceAdd]
  refine xLw.cv rfl rfl rfl rfl rfl rfl ⟨by decide, rfl, rfl⟩ hT2 (fun v1 M1 hv => ?_)
  obtain ⟨w2, b2, g2, l2, rfl, rfl, hJ2, heq⟩ := hv
  try dsimp only [Nat.reduceAdd, Option.toList, List.cons_append, List.nil_append]
  refine xLw.s1 rfl rfl ?_
  try dsimp only [Nat.reduceAdd]
  refine xLw.s1 rfl rfl ?_
  try dsimp only [Nat.reduceAdd]
  exact nx _ _ _ hJ2
set_option maxRecDepth 10000 in
theorem w_term (hL : L ≤ 384) (hi : i + 6 ≤ L) (hvs : ∀ t, t < L → vs[t]? = some (.int (xv t))) (hJ : xJ b g) (nx : ∀ b2 g2 l2, xJ b2 g2 → xLw vs 1546 [(3, .int (nI i)), (2, .ref 73), (1, .ref 0), (0, .retAddr 0)] [] (xH b2 g2 l2)) : xLw vs 653 [(3, .int (nI i)), (2, .ref 73), (1, .ref 0), (0, .retAddr 0)] [] (xH b g l) := by
  refine xLw.s1 rfl rfl ?_
  try dsimp only [Nat.reduceAdd]
  refine xLw.s1 rfl rfl ?_
  try dsimp only [Nat.reduceAdd]
  refine xLw.s1 rfl rfl ?_
  try dsimp only [Nat.reduceAdd]
  refine xLw.s1 rfl rfl ?_
  try dsimp only [Nat.reduceAdd, xi_1]
  refine xLw.s1 rfl rfl ?_
  try dsimp only [Nat.reduceAdd]
  rw [show (nI i + 1 : Int32) = nI (i + 1) from nI_add i 1]
  refine xLw.ial rfl (hvs (i + 1) (by omega)) (by omega) ?_
  try dsimp only [Nat.reduceAdd]
  refine xLw.s1 rfl rfl ?_
  try dsimp only [Nat.reduceAdd]
  refine xLw.s1 rfl rfl ?_
  try dsimp only [Nat.reduceAdd]
  refine xLw.s1 rfl rfl ?_
  try dsimp only [Nat.reduceAdd, xi_2]
  refine xLw.s1 rfl rfl ?_
  try dsimp only [Nat.reduceAdd]
  rw [show (nI i + 2 : Int32) = nI (i + 2) from nI_add i 2]
  refine xLw.ial rfl (hvs (i + 2) (by omega)) (by omega) ?_
  try dsimp only [Nat.reduceAdd]
  refine xLw.cv rfl rfl rfl rfl rfl rfl ⟨by decide, rfl, rfl⟩ (j_term hJ) (fun v1 M1 hv => ?_)
  obtain ⟨w, b1, g1, l1, rfl, rfl, hT2⟩ := hv
  try dsimp only [Nat.reduceAdd, Option.toList, List.cons_append, List.nil_append]
  refine xLw.s1 rfl rfl ?_
  try dsimp only [Nat.reduceAdd]
  refine xLw.s1 rfl rfl ?_
  try dsimp only [Nat.reduceAdd]
  refine xLw.s1 rfl rfl ?_
  try dsimp only [Nat.reduceAdd]
  refine xLw.s1 rfl rfl ?_
  try dsimp only [Nat.reduceAdd]
  refine xLw.s1 rfl rfl ?_
  try dsimp only [Nat.reduceAdd, xi_1]
  refine xLw.s1 rfl rfl ?_
  try dsimp only [Nat.reduceAdd]
  rw [show (nI i + 1 : Int32) = nI (i + 1) from nI_add i 1]
  refine xLw.ial rfl (hvs (i + 1) (by omega)) (by omega) ?_
  try dsimp only [Nat.reduceAdd]
  refine xLw.s1 rfl rfl ?_
  try dsimp only [Nat.reduceAdd]
  refine xLw.s1 rfl rfl ?_
  try dsimp only [Nat.reduceAdd]
  refine xLw.s1 rfl rfl ?_
  try dsimp only [Nat.reduceAdd, xi_2]
  refine xLw.s1 rfl rfl ?_
  try dsimp only [Nat.reduceAdd]
  rw [show (nI i + 2 : Int32) = nI (i + 2) from nI_add i 2]
  refine xLw.ial rfl (hvs (i + 2) (by omega)) (by omega) ?_
  try dsimp only [Nat.reduceAdd]
  refine xLw.cv rfl rfl rfl rfl rfl rfl ⟨by decide, rfl, rfl⟩ hT2 (fun v1 M1 hv => ?_)
  obtain ⟨w2, b2, g2, l2, rfl, rfl, hJ2, heq⟩ := hv
  try dsimp only [Nat.reduceAdd, Option.toList, List.cons_append, List.nil_append]
  refine xLw.s1 rfl rfl ?_
  try dsimp only [Nat.reduceAdd]
  refine xLw.s1 rfl rfl ?_
  try dsimp only [Nat.reduceAdd]
  exact nx _ _ _ hJ2
set_option maxRecDepth 10000 in
theorem w_step (hL : L ≤ 384) (hi : i + 6 ≤ L) (hvs : ∀ t, t < L → vs[t]? = some (.int (xv t))) (hJ : xJ b g) (nx : ∀ b2 g2 l2, xJ b2 g2 → xLw vs 1546 [(3, .int (nI i)), (2, .ref 73), (1, .ref 0), (0, .retAddr 0)] [] (xH b2 g2 l2)) : xLw vs 686 [(3, .int (nI i)), (2, .ref 73), (1, .ref 0), (0, .retAddr 0)] [] (xH b g l) := by
  refine xLw.s1 rfl rfl ?_
  try dsimp only [Nat.reduceAdd]
  refine xLw.s1 rfl rfl ?_
  try dsimp only [Nat.reduceAdd]
  refine xLw.s1 rfl rfl ?_
  try dsimp only [Nat.reduceAdd]
  refine xLw.s1 rfl rfl ?_
  try dsimp only [Nat.reduceAdd, xi_1]
  refine xLw.s1 rfl rfl ?_
  try dsimp only [Nat.reduceAdd]
  rw [show (nI i + 1 : Int32) = nI (i + 1) from nI_add i 1]
  refine xLw.ial rfl (hvs (i + 1) (by omega)) (by omega) ?_
  try dsimp only [Nat.reduceAdd]
  refine xLw.s1 rfl rfl ?_
  try dsimp only [Nat.reduceAdd]
  refine xLw.s1 rfl rfl ?_
  try dsimp only [Nat.reduceAdd]
  refine xLw.s1 rfl rfl ?_
  try dsimp only [Nat.reduceAdd, xi_2]
  refine xLw.s1 rfl rfl ?_
  try dsimp only [Nat.reduceAdd]
  rw [show (nI i + 2 : Int32) = nI (i + 2) from nI_add i 2]
  refine xLw.ial rfl (hvs (i + 2) (by omega)) (by omega) ?_
  try dsimp only [Nat.reduceAdd]
  refine xLw.cv rfl rfl rfl rfl rfl rfl ⟨by decide, rfl, rfl⟩ (j_step hJ) (fun v1 M1 hv => ?_)
  obtain ⟨w, b1, g1, l1, rfl, rfl, hT2⟩ := hv
  try dsimp only [Nat.reduceAdd, Option.toList, List.cons_append, List.nil_append]
  refine xLw.s1 rfl rfl ?_
  try dsimp only [Nat.reduceAdd]
  refine xLw.s1 rfl rfl ?_
  try dsimp only [Nat.reduceAdd]
  refine xLw.s1 rfl rfl ?_
  try dsimp only [Nat.reduceAdd]
  refine xLw.s1 rfl rfl ?_
  try dsimp only [Nat.reduceAdd]
  refine xLw.s1 rfl rfl ?_
  try dsimp only [Nat.reduceAdd, xi_1]
  refine xLw.s1 rfl rfl ?_
  try dsimp only [Nat.reduceAdd]
  rw [show (nI i + 1 : Int32) = nI (i + 1) from nI_add i 1]
  refine xLw.ial rfl (hvs (i + 1) (by omega)) (by omega) ?_
  try dsimp only [Nat.reduceAdd]
  refine xLw.s1 rfl rfl ?_
  try dsimp only [Nat.reduceAdd]
  refine xLw.s1 rfl rfl ?_
  try dsimp only [Nat.reduceAdd]
  refine xLw.s1 rfl rfl ?_
  try dsimp only [Nat.reduceAdd, xi_2]
  refine xLw.s1 rfl rfl ?_
  try dsimp only [Nat.reduceAdd]
  rw [show (nI i + 2 : Int32) = nI (i + 2) from nI_add i 2]
  refine xLw.ial rfl (hvs (i + 2) (by omega)) (by omega) ?_
  try dsimp only [Nat.reduceAdd]
  refine xLw.cv rfl rfl rfl rfl rfl rfl ⟨by decide, rfl, rfl⟩ hT2 (fun v1 M1 hv => ?_)
  obtain ⟨w2, b2, g2, l2, rfl, rfl, hJ2, heq⟩ := hv
  try dsimp only [Nat.reduceAdd, Option.toList, List.cons_append, List.nil_append]
  refine xLw.s1 rfl rfl ?_
  try dsimp only [Nat.reduceAdd]
  refine xLw.s1 rfl rfl ?_
  try dsimp only [Nat.reduceAdd]
  exact nx _ _ _ hJ2
set_option maxRecDepth 10000 in
theorem w_deed (hL : L ≤ 384) (hi : i + 6 ≤ L) (hvs : ∀ t, t < L → vs[t]? = some (.int (xv t))) (hJ : xJ b g) (nx : ∀ b2 g2 l2, xJ b2 g2 → xLw vs 1546 [(3, .int (nI i)), (2, .ref 73), (1, .ref 0), (0, .retAddr 0)] [] (xH b2 g2 l2)) : xLw vs 719 [(3, .int (nI i)), (2, .ref 73), (1, .ref 0), (0, .retAddr 0)] [] (xH b g l) := by
  refine xLw.s1 rfl rfl ?_
  try dsimp only [Nat.reduceAdd]
  refine xLw.s1 rfl rfl ?_
  try dsimp only [Nat.reduceAdd]
  refine xLw.s1 rfl rfl ?_
  try dsimp only [Nat.reduceAdd]
  refine xLw.s1 rfl rfl ?_
  try dsimp only [Nat.reduceAdd, xi_1]
  refine xLw.s1 rfl rfl ?_
  try dsimp only [Nat.reduceAdd]
  rw [show (nI i + 1 : Int32) = nI (i + 1) from nI_add i 1]
  refine xLw.ial rfl (hvs (i + 1) (by omega)) (by omega) ?_
  try dsimp only [Nat.reduceAdd]
  refine xLw.s1 rfl rfl ?_
  try dsimp only [Nat.reduceAdd]
  refine xLw.s1 rfl rfl ?_
  try dsimp only [Nat.reduceAdd]
  refine xLw.s1 rfl rfl ?_
  try dsimp only [Nat.reduceAdd, xi_2]
  refine xLw.s1 rfl rfl ?_
  try dsimp only [Nat.reduceAdd]
  rw [show (nI i + 2 : Int32) = nI (i + 2) from nI_add i 2]
  refine xLw.ial rfl (hvs (i + 2) (by omega)) (by omega) ?_
  try dsimp only [Nat.reduceAdd]
  refine xLw.cv rfl rfl rfl rfl rfl rfl ⟨by decide, rfl, rfl⟩ (j_deed hJ) (fun v1 M1 hv => ?_)
  obtain ⟨w, b1, g1, l1, rfl, rfl, hT2⟩ := hv
  try dsimp only [Nat.reduceAdd, Option.toList, List.cons_append, List.nil_append]
  refine xLw.s1 rfl rfl ?_
  try dsimp only [Nat.reduceAdd]
  refine xLw.s1 rfl rfl ?_
  try dsimp only [Nat.reduceAdd]
  refine xLw.s1 rfl rfl ?_
  try dsimp only [Nat.reduceAdd]
  refine xLw.s1 rfl rfl ?_
  try dsimp only [Nat.reduceAdd]
  refine xLw.s1 rfl rfl ?_
  try dsimp only [Nat.reduceAdd, xi_1]
  refine xLw.s1 rfl rfl ?_
  try dsimp only [Nat.reduceAdd]
  rw [show (nI i + 1 : Int32) = nI (i + 1) from nI_add i 1]
  refine xLw.ial rfl (hvs (i + 1) (by omega)) (by omega) ?_
  try dsimp only [Nat.reduceAdd]
  refine xLw.s1 rfl rfl ?_
  try dsimp only [Nat.reduceAdd]
  refine xLw.s1 rfl rfl ?_
  try dsimp only [Nat.reduceAdd]
  refine xLw.s1 rfl rfl ?_
  try dsimp only [Nat.reduceAdd, xi_2]
  refine xLw.s1 rfl rfl ?_
  try dsimp only [Nat.reduceAdd]
  rw [show (nI i + 2 : Int32) = nI (i + 2) from nI_add i 2]
  refine xLw.ial rfl (hvs (i + 2) (by omega)) (by omega) ?_
  try dsimp only [Nat.reduceAdd]
  refine xLw.cv rfl rfl rfl rfl rfl rfl ⟨by decide, rfl, rfl⟩ hT2 (fun v1 M1 hv => ?_)
  obtain ⟨w2, b2, g2, l2, rfl, rfl, hJ2, heq⟩ := hv
  try dsimp only [Nat.reduceAdd, Option.toList, List.cons_append, List.nil_append]
  refine xLw.s1 rfl rfl ?_
  try dsimp only [Nat.reduceAdd]
  refine xLw.s1 rfl rfl ?_
  try dsimp only [Nat.reduceAdd]
  exact nx _ _ _ hJ2
set_option maxRecDepth 10000 in
theorem w_broken (hL : L ≤ 384) (hi : i + 6 ≤ L) (hvs : ∀ t, t < L → vs[t]? = some (.int (xv t))) (hJ : xJ b g) (nx : ∀ b2 g2 l2, xJ b2 g2 → xLw vs 1546 [(3, .int (nI i)), (2, .ref 73), (1, .ref 0), (0, .retAddr 0)] [] (xH b2 g2 l2)) : xLw vs 752 [(3, .int (nI i)), (2, .ref 73), (1, .ref 0), (0, .retAddr 0)] [] (xH b g l) := by
  refine xLw.s1 rfl rfl ?_
  try dsimp only [Nat.reduceAdd]
  refine xLw.cv rfl rfl rfl rfl rfl rfl ⟨by decide, rfl, rfl⟩ (j_broken hJ) (fun v1 M1 hv => ?_)
  obtain ⟨w, b1, g1, l1, rfl, rfl, hT2⟩ := hv
  try dsimp only [Nat.reduceAdd, Option.toList, List.cons_append, List.nil_append]
  refine xLw.s1 rfl rfl ?_
  try dsimp only [Nat.reduceAdd]
  refine xLw.s1 rfl rfl ?_
  try dsimp only [Nat.reduceAdd]
  refine xLw.cv rfl rfl rfl rfl rfl rfl ⟨by decide, rfl, rfl⟩ hT2 (fun v1 M1 hv => ?_)
  obtain ⟨w2, b2, g2, l2, rfl, rfl, hJ2, heq⟩ := hv
  try dsimp only [Nat.reduceAdd, Option.toList, List.cons_append, List.nil_append]
  refine xLw.s1 rfl rfl ?_
  try dsimp only [Nat.reduceAdd]
  refine xLw.s1 rfl rfl ?_
  try dsimp only [Nat.reduceAdd]
  exact nx _ _ _ hJ2
set_option maxRecDepth 10000 in
theorem w_undo (hL : L ≤ 384) (hi : i + 6 ≤ L) (hvs : ∀ t, t < L → vs[t]? = some (.int (xv t))) (hJ : xJ b g) (nx : ∀ b2 g2 l2, xJ b2 g2 → xLw vs 1546 [(3, .int (nI i)), (2, .ref 73), (1, .ref 0), (0, .retAddr 0)] [] (xH b2 g2 l2)) : xLw vs 765 [(3, .int (nI i)), (2, .ref 73), (1, .ref 0), (0, .retAddr 0)] [] (xH b g l) := by
  refine xLw.s1 rfl rfl ?_
  try dsimp only [Nat.reduceAdd]
  refine xLw.s1 rfl rfl ?_
  try dsimp only [Nat.reduceAdd]
  refine xLw.s1 rfl rfl ?_
  try dsimp only [Nat.reduceAdd]
  refine xLw.s1 rfl rfl ?_
  try dsimp only [Nat.reduceAdd, xi_1]
  refine xLw.s1 rfl rfl ?_
  try dsimp only [Nat.reduceAdd]
  rw [show (nI i + 1 : Int32) = nI (i + 1) from nI_add i 1]
  refine xLw.ial rfl (hvs (i + 1) (by omega)) (by omega) ?_
  try dsimp only [Nat.reduceAdd]
  refine xLw.cv rfl rfl rfl rfl rfl rfl ⟨by decide, rfl, rfl⟩ (j_undo hJ) (fun v1 M1 hv => ?_)
  obtain ⟨w, b1, g1, l1, rfl, rfl, hT2⟩ := hv
  try dsimp only [Nat.reduceAdd, Option.toList, List.cons_append, List.nil_append]
  refine xLw.s1 rfl rfl ?_
  try dsimp only [Nat.reduceAdd]
  refine xLw.s1 rfl rfl ?_
  try dsimp only [Nat.reduceAdd]
  refine xLw.s1 rfl rfl ?_
  try dsimp only [Nat.reduceAdd]
  refine xLw.s1 rfl rfl ?_
  try dsimp only [Nat.reduceAdd]
  refine xLw.s1 rfl rfl ?_
  try dsimp only [Nat.reduceAdd, xi_1]
  refine xLw.s1 rfl rfl ?_
  try dsimp only [Nat.reduceAdd]
  rw [show (nI i + 1 : Int32) = nI (i + 1) from nI_add i 1]
  refine xLw.ial rfl (hvs (i + 1) (by omega)) (by omega) ?_
  try dsimp only [Nat.reduceAdd]
  refine xLw.cv rfl rfl rfl rfl rfl rfl ⟨by decide, rfl, rfl⟩ hT2 (fun v1 M1 hv => ?_)
  obtain ⟨w2, b2, g2, l2, rfl, rfl, hJ2, heq⟩ := hv
  try dsimp only [Nat.reduceAdd, Option.toList, List.cons_append, List.nil_append]
  refine xLw.s1 rfl rfl ?_
  try dsimp only [Nat.reduceAdd]
  refine xLw.s1 rfl rfl ?_
  try dsimp only [Nat.reduceAdd]
  exact nx _ _ _ hJ2
set_option maxRecDepth 10000 in
theorem w_keep (hL : L ≤ 384) (hi : i + 6 ≤ L) (hvs : ∀ t, t < L → vs[t]? = some (.int (xv t))) (hJ : xJ b g) (nx : ∀ b2 g2 l2, xJ b2 g2 → xLw vs 1546 [(3, .int (nI i)), (2, .ref 73), (1, .ref 0), (0, .retAddr 0)] [] (xH b2 g2 l2)) : xLw vs 788 [(3, .int (nI i)), (2, .ref 73), (1, .ref 0), (0, .retAddr 0)] [] (xH b g l) := by
  refine xLw.s1 rfl rfl ?_
  try dsimp only [Nat.reduceAdd]
  refine xLw.s1 rfl rfl ?_
  try dsimp only [Nat.reduceAdd]
  refine xLw.s1 rfl rfl ?_
  try dsimp only [Nat.reduceAdd]
  refine xLw.s1 rfl rfl ?_
  try dsimp only [Nat.reduceAdd, xi_1]
  refine xLw.s1 rfl rfl ?_
  try dsimp only [Nat.reduceAdd]
  rw [show (nI i + 1 : Int32) = nI (i + 1) from nI_add i 1]
  refine xLw.ial rfl (hvs (i + 1) (by omega)) (by omega) ?_
  try dsimp only [Nat.reduceAdd]
  refine xLw.cv rfl rfl rfl rfl rfl rfl ⟨by decide, rfl, rfl⟩ (j_keep hJ) (fun v1 M1 hv => ?_)
  obtain ⟨w, b1, g1, l1, rfl, rfl, hT2⟩ := hv
  try dsimp only [Nat.reduceAdd, Option.toList, List.cons_append, List.nil_append]
  refine xLw.s1 rfl rfl ?_
  try dsimp only [Nat.reduceAdd]
  refine xLw.s1 rfl rfl ?_
  try dsimp only [Nat.reduceAdd]
  refine xLw.s1 rfl rfl ?_
  try dsimp only [Nat.reduceAdd]
  refine xLw.s1 rfl rfl ?_
  try dsimp only [Nat.reduceAdd]
  refine xLw.s1 rfl rfl ?_
  try dsimp only [Nat.reduceAdd, xi_1]
  refine xLw.s1 rfl rfl ?_
  try dsimp only [Nat.reduceAdd]
  rw [show (nI i + 1 : Int32) = nI (i + 1) from nI_add i 1]
  refine xLw.ial rfl (hvs (i + 1) (by omega)) (by omega) ?_
  try dsimp only [Nat.reduceAdd]
  refine xLw.cv rfl rfl rfl rfl rfl rfl ⟨by decide, rfl, rfl⟩ hT2 (fun v1 M1 hv => ?_)
  obtain ⟨w2, b2, g2, l2, rfl, rfl, hJ2, heq⟩ := hv
  try dsimp only [Nat.reduceAdd, Option.toList, List.cons_append, List.nil_append]
  refine xLw.s1 rfl rfl ?_
  try dsimp only [Nat.reduceAdd]
  refine xLw.s1 rfl rfl ?_
  try dsimp only [Nat.reduceAdd]
  exact nx _ _ _ hJ2
set_option maxRecDepth 10000 in
theorem w_on (hL : L ≤ 384) (hi : i + 6 ≤ L) (hvs : ∀ t, t < L → vs[t]? = some (.int (xv t))) (hJ : xJ b g) (nx : ∀ b2 g2 l2, xJ b2 g2 → xLw vs 1546 [(3, .int (nI i)), (2, .ref 73), (1, .ref 0), (0, .retAddr 0)] [] (xH b2 g2 l2)) : xLw vs 811 [(3, .int (nI i)), (2, .ref 73), (1, .ref 0), (0, .retAddr 0)] [] (xH b g l) := by
  refine xLw.s1 rfl rfl ?_
  try dsimp only [Nat.reduceAdd]
  refine xLw.s1 rfl rfl ?_
  try dsimp only [Nat.reduceAdd]
  refine xLw.s1 rfl rfl ?_
  try dsimp only [Nat.reduceAdd]
  refine xLw.s1 rfl rfl ?_
  try dsimp only [Nat.reduceAdd, xi_1]
  refine xLw.s1 rfl rfl ?_
  try dsimp only [Nat.reduceAdd]
  rw [show (nI i + 1 : Int32) = nI (i + 1) from nI_add i 1]
  refine xLw.ial rfl (hvs (i + 1) (by omega)) (by omega) ?_
  try dsimp only [Nat.reduceAdd]
  refine xLw.cv rfl rfl rfl rfl rfl rfl ⟨by decide, rfl, rfl⟩ (j_on hJ) (fun v1 M1 hv => ?_)
  obtain ⟨w, b1, g1, l1, rfl, rfl, hT2⟩ := hv
  try dsimp only [Nat.reduceAdd, Option.toList, List.cons_append, List.nil_append]
  refine xLw.s1 rfl rfl ?_
  try dsimp only [Nat.reduceAdd]
  refine xLw.s1 rfl rfl ?_
  try dsimp only [Nat.reduceAdd]
  refine xLw.s1 rfl rfl ?_
  try dsimp only [Nat.reduceAdd]
  refine xLw.s1 rfl rfl ?_
  try dsimp only [Nat.reduceAdd]
  refine xLw.s1 rfl rfl ?_
  try dsimp only [Nat.reduceAdd, xi_1]
  refine xLw.s1 rfl rfl ?_
  try dsimp only [Nat.reduceAdd]
  rw [show (nI i + 1 : Int32) = nI (i + 1) from nI_add i 1]
  refine xLw.ial rfl (hvs (i + 1) (by omega)) (by omega) ?_
  try dsimp only [Nat.reduceAdd]
  refine xLw.cv rfl rfl rfl rfl rfl rfl ⟨by decide, rfl, rfl⟩ hT2 (fun v1 M1 hv => ?_)
  obtain ⟨w2, b2, g2, l2, rfl, rfl, hJ2, heq⟩ := hv
  try dsimp only [Nat.reduceAdd, Option.toList, List.cons_append, List.nil_append]
  refine xLw.s1 rfl rfl ?_
  try dsimp only [Nat.reduceAdd]
  refine xLw.s1 rfl rfl ?_
  try dsimp only [Nat.reduceAdd]
  exact nx _ _ _ hJ2
set_option maxRecDepth 10000 in
theorem w_show (hL : L ≤ 384) (hi : i + 6 ≤ L) (hvs : ∀ t, t < L → vs[t]? = some (.int (xv t))) (hJ : xJ b g) (nx : ∀ b2 g2 l2, xJ b2 g2 → xLw vs 1546 [(3, .int (nI i)), (2, .ref 73), (1, .ref 0), (0, .retAddr 0)] [] (xH b2 g2 l2)) : xLw vs 834 [(3, .int (nI i)), (2, .ref 73), (1, .ref 0), (0, .retAddr 0)] [] (xH b g l) := by
  refine xLw.s1 rfl rfl ?_
  try dsimp only [Nat.reduceAdd]
  refine xLw.s1 rfl rfl ?_
  try dsimp only [Nat.reduceAdd]
  refine xLw.s1 rfl rfl ?_
  try dsimp only [Nat.reduceAdd]
  refine xLw.s1 rfl rfl ?_
  try dsimp only [Nat.reduceAdd, xi_1]
  refine xLw.s1 rfl rfl ?_
  try dsimp only [Nat.reduceAdd]
  rw [show (nI i + 1 : Int32) = nI (i + 1) from nI_add i 1]
  refine xLw.ial rfl (hvs (i + 1) (by omega)) (by omega) ?_
  try dsimp only [Nat.reduceAdd]
  refine xLw.s1 rfl rfl ?_
  try dsimp only [Nat.reduceAdd]
  refine xLw.s1 rfl rfl ?_
  try dsimp only [Nat.reduceAdd]
  refine xLw.s1 rfl rfl ?_
  try dsimp only [Nat.reduceAdd, xi_2]
  refine xLw.s1 rfl rfl ?_
  try dsimp only [Nat.reduceAdd]
  rw [show (nI i + 2 : Int32) = nI (i + 2) from nI_add i 2]
  refine xLw.ial rfl (hvs (i + 2) (by omega)) (by omega) ?_
  try dsimp only [Nat.reduceAdd]
  refine xLw.s1 rfl rfl ?_
  try dsimp only [Nat.reduceAdd]
  refine xLw.s1 rfl rfl ?_
  try dsimp only [Nat.reduceAdd]
  refine xLw.s1 rfl rfl ?_
  try dsimp only [Nat.reduceAdd, xi_3]
  refine xLw.s1 rfl rfl ?_
  try dsimp only [Nat.reduceAdd]
  rw [show (nI i + 3 : Int32) = nI (i + 3) from nI_add i 3]
  refine xLw.ial rfl (hvs (i + 3) (by omega)) (by omega) ?_
  try dsimp only [Nat.reduceAdd]
  refine xLw.cv rfl rfl rfl rfl rfl rfl ⟨by decide, rfl, rfl⟩ (j_show hJ) (fun v1 M1 hv => ?_)
  obtain ⟨w, b1, g1, l1, rfl, rfl, hT2⟩ := hv
  try dsimp only [Nat.reduceAdd, Option.toList, List.cons_append, List.nil_append]
  refine xLw.s1 rfl rfl ?_
  try dsimp only [Nat.reduceAdd]
  refine xLw.s1 rfl rfl ?_
  try dsimp only [Nat.reduceAdd]
  refine xLw.s1 rfl rfl ?_
  try dsimp only [Nat.reduceAdd]
  refine xLw.s1 rfl rfl ?_
  try dsimp only [Nat.reduceAdd]
  refine xLw.s1 rfl rfl ?_
  try dsimp only [Nat.reduceAdd, xi_1]
  refine xLw.s1 rfl rfl ?_
  try dsimp only [Nat.reduceAdd]
  rw [show (nI i + 1 : Int32) = nI (i + 1) from nI_add i 1]
  refine xLw.ial rfl (hvs (i + 1) (by omega)) (by omega) ?_
  try dsimp only [Nat.reduceAdd]
  refine xLw.s1 rfl rfl ?_
  try dsimp only [Nat.reduceAdd]
  refine xLw.s1 rfl rfl ?_
  try dsimp only [Nat.reduceAdd]
  refine xLw.s1 rfl rfl ?_
  try dsimp only [Nat.reduceAdd, xi_2]
  refine xLw.s1 rfl rfl ?_
  try dsimp only [Nat.reduceAdd]
  rw [show (nI i + 2 : Int32) = nI (i + 2) from nI_add i 2]
  refine xLw.ial rfl (hvs (i + 2) (by omega)) (by omega) ?_
  try dsimp only [Nat.reduceAdd]
  refine xLw.s1 rfl rfl ?_
  try dsimp only [Nat.reduceAdd]
  refine xLw.s1 rfl rfl ?_
  try dsimp only [Nat.reduceAdd]
  refine xLw.s1 rfl rfl ?_
  try dsimp only [Nat.reduceAdd, xi_3]
  refine xLw.s1 rfl rfl ?_
  try dsimp only [Nat.reduceAdd]
  rw [show (nI i + 3 : Int32) = nI (i + 3) from nI_add i 3]
  refine xLw.ial rfl (hvs (i + 3) (by omega)) (by omega) ?_
  try dsimp only [Nat.reduceAdd]
  refine xLw.cv rfl rfl rfl rfl rfl rfl ⟨by decide, rfl, rfl⟩ hT2 (fun v1 M1 hv => ?_)
  obtain ⟨w2, b2, g2, l2, rfl, rfl, hJ2, heq⟩ := hv
  try dsimp only [Nat.reduceAdd, Option.toList, List.cons_append, List.nil_append]
  refine xLw.s1 rfl rfl ?_
  try dsimp only [Nat.reduceAdd]
  refine xLw.s1 rfl rfl ?_
  try dsimp only [Nat.reduceAdd]
  exact nx _ _ _ hJ2
set_option maxRecDepth 10000 in
theorem w_breaks (hL : L ≤ 384) (hi : i + 6 ≤ L) (hvs : ∀ t, t < L → vs[t]? = some (.int (xv t))) (hJ : xJ b g) (nx : ∀ b2 g2 l2, xJ b2 g2 → xLw vs 1546 [(3, .int (nI i)), (2, .ref 73), (1, .ref 0), (0, .retAddr 0)] [] (xH b2 g2 l2)) : xLw vs 877 [(3, .int (nI i)), (2, .ref 73), (1, .ref 0), (0, .retAddr 0)] [] (xH b g l) := by
  refine xLw.s1 rfl rfl ?_
  try dsimp only [Nat.reduceAdd]
  refine xLw.s1 rfl rfl ?_
  try dsimp only [Nat.reduceAdd]
  refine xLw.s1 rfl rfl ?_
  try dsimp only [Nat.reduceAdd]
  refine xLw.s1 rfl rfl ?_
  try dsimp only [Nat.reduceAdd, xi_1]
  refine xLw.s1 rfl rfl ?_
  try dsimp only [Nat.reduceAdd]
  rw [show (nI i + 1 : Int32) = nI (i + 1) from nI_add i 1]
  refine xLw.ial rfl (hvs (i + 1) (by omega)) (by omega) ?_
  try dsimp only [Nat.reduceAdd]
  refine xLw.s1 rfl rfl ?_
  try dsimp only [Nat.reduceAdd]
  refine xLw.s1 rfl rfl ?_
  try dsimp only [Nat.reduceAdd]
  refine xLw.s1 rfl rfl ?_
  try dsimp only [Nat.reduceAdd, xi_2]
  refine xLw.s1 rfl rfl ?_
  try dsimp only [Nat.reduceAdd]
  rw [show (nI i + 2 : Int32) = nI (i + 2) from nI_add i 2]
  refine xLw.ial rfl (hvs (i + 2) (by omega)) (by omega) ?_
  try dsimp only [Nat.reduceAdd]
  refine xLw.cv rfl rfl rfl rfl rfl rfl ⟨by decide, rfl, rfl⟩ (j_breaks hJ) (fun v1 M1 hv => ?_)
  obtain ⟨w, b1, g1, l1, rfl, rfl, hT2⟩ := hv
  try dsimp only [Nat.reduceAdd, Option.toList, List.cons_append, List.nil_append]
  refine xLw.s1 rfl rfl ?_
  try dsimp only [Nat.reduceAdd]
  refine xLw.s1 rfl rfl ?_
  try dsimp only [Nat.reduceAdd]
  refine xLw.s1 rfl rfl ?_
  try dsimp only [Nat.reduceAdd]
  refine xLw.s1 rfl rfl ?_
  try dsimp only [Nat.reduceAdd]
  refine xLw.s1 rfl rfl ?_
  try dsimp only [Nat.reduceAdd, xi_1]
  refine xLw.s1 rfl rfl ?_
  try dsimp only [Nat.reduceAdd]
  rw [show (nI i + 1 : Int32) = nI (i + 1) from nI_add i 1]
  refine xLw.ial rfl (hvs (i + 1) (by omega)) (by omega) ?_
  try dsimp only [Nat.reduceAdd]
  refine xLw.s1 rfl rfl ?_
  try dsimp only [Nat.reduceAdd]
  refine xLw.s1 rfl rfl ?_
  try dsimp only [Nat.reduceAdd]
  refine xLw.s1 rfl rfl ?_
  try dsimp only [Nat.reduceAdd, xi_2]
  refine xLw.s1 rfl rfl ?_
  try dsimp only [Nat.reduceAdd]
  rw [show (nI i + 2 : Int32) = nI (i + 2) from nI_add i 2]
  refine xLw.ial rfl (hvs (i + 2) (by omega)) (by omega) ?_
  try dsimp only [Nat.reduceAdd]
  refine xLw.cv rfl rfl rfl rfl rfl rfl ⟨by decide, rfl, rfl⟩ hT2 (fun v1 M1 hv => ?_)
  obtain ⟨w2, b2, g2, l2, rfl, rfl, hJ2, heq⟩ := hv
  try dsimp only [Nat.reduceAdd, Option.toList, List.cons_append, List.nil_append]
  refine xLw.s1 rfl rfl ?_
  try dsimp only [Nat.reduceAdd]
  refine xLw.s1 rfl rfl ?_
  try dsimp only [Nat.reduceAdd]
  exact nx _ _ _ hJ2
set_option maxRecDepth 10000 in
theorem w_alike (hL : L ≤ 384) (hi : i + 6 ≤ L) (hvs : ∀ t, t < L → vs[t]? = some (.int (xv t))) (hJ : xJ b g) (nx : ∀ b2 g2 l2, xJ b2 g2 → xLw vs 1546 [(3, .int (nI i)), (2, .ref 73), (1, .ref 0), (0, .retAddr 0)] [] (xH b2 g2 l2)) : xLw vs 910 [(3, .int (nI i)), (2, .ref 73), (1, .ref 0), (0, .retAddr 0)] [] (xH b g l) := by
  refine xLw.s1 rfl rfl ?_
  try dsimp only [Nat.reduceAdd]
  refine xLw.s1 rfl rfl ?_
  try dsimp only [Nat.reduceAdd]
  refine xLw.s1 rfl rfl ?_
  try dsimp only [Nat.reduceAdd]
  refine xLw.s1 rfl rfl ?_
  try dsimp only [Nat.reduceAdd, xi_1]
  refine xLw.s1 rfl rfl ?_
  try dsimp only [Nat.reduceAdd]
  rw [show (nI i + 1 : Int32) = nI (i + 1) from nI_add i 1]
  refine xLw.ial rfl (hvs (i + 1) (by omega)) (by omega) ?_
  try dsimp only [Nat.reduceAdd]
  refine xLw.s1 rfl rfl ?_
  try dsimp only [Nat.reduceAdd]
  refine xLw.s1 rfl rfl ?_
  try dsimp only [Nat.reduceAdd]
  refine xLw.s1 rfl rfl ?_
  try dsimp only [Nat.reduceAdd, xi_2]
  refine xLw.s1 rfl rfl ?_
  try dsimp only [Nat.reduceAdd]
  rw [show (nI i + 2 : Int32) = nI (i + 2) from nI_add i 2]
  refine xLw.ial rfl (hvs (i + 2) (by omega)) (by omega) ?_
  try dsimp only [Nat.reduceAdd]
  refine xLw.cv rfl rfl rfl rfl rfl rfl ⟨by decide, rfl, rfl⟩ (j_alike hJ) (fun v1 M1 hv => ?_)
  obtain ⟨w, b1, g1, l1, rfl, rfl, hT2⟩ := hv
  try dsimp only [Nat.reduceAdd, Option.toList, List.cons_append, List.nil_append]
  refine xLw.s1 rfl rfl ?_
  try dsimp only [Nat.reduceAdd]
  refine xLw.s1 rfl rfl ?_
  try dsimp only [Nat.reduceAdd]
  refine xLw.s1 rfl rfl ?_
  try dsimp only [Nat.reduceAdd]
  refine xLw.s1 rfl rfl ?_
  try dsimp only [Nat.reduceAdd]
  refine xLw.s1 rfl rfl ?_
  try dsimp only [Nat.reduceAdd, xi_1]
  refine xLw.s1 rfl rfl ?_
  try dsimp only [Nat.reduceAdd]
  rw [show (nI i + 1 : Int32) = nI (i + 1) from nI_add i 1]
  refine xLw.ial rfl (hvs (i + 1) (by omega)) (by omega) ?_
  try dsimp only [Nat.reduceAdd]
  refine xLw.s1 rfl rfl ?_
  try dsimp only [Nat.reduceAdd]
  refine xLw.s1 rfl rfl ?_
  try dsimp only [Nat.reduceAdd]
  refine xLw.s1 rfl rfl ?_
  try dsimp only [Nat.reduceAdd, xi_2]
  refine xLw.s1 rfl rfl ?_
  try dsimp only [Nat.reduceAdd]
  rw [show (nI i + 2 : Int32) = nI (i + 2) from nI_add i 2]
  refine xLw.ial rfl (hvs (i + 2) (by omega)) (by omega) ?_
  try dsimp only [Nat.reduceAdd]
  refine xLw.cv rfl rfl rfl rfl rfl rfl ⟨by decide, rfl, rfl⟩ hT2 (fun v1 M1 hv => ?_)
  obtain ⟨w2, b2, g2, l2, rfl, rfl, hJ2, heq⟩ := hv
  try dsimp only [Nat.reduceAdd, Option.toList, List.cons_append, List.nil_append]
  refine xLw.s1 rfl rfl ?_
  try dsimp only [Nat.reduceAdd]
  refine xLw.s1 rfl rfl ?_
  try dsimp only [Nat.reduceAdd]
  exact nx _ _ _ hJ2
set_option maxRecDepth 10000 in
theorem w_fit (hL : L ≤ 384) (hi : i + 6 ≤ L) (hvs : ∀ t, t < L → vs[t]? = some (.int (xv t))) (hJ : xJ b g) (nx : ∀ b2 g2 l2, xJ b2 g2 → xLw vs 1546 [(3, .int (nI i)), (2, .ref 73), (1, .ref 0), (0, .retAddr 0)] [] (xH b2 g2 l2)) : xLw vs 943 [(3, .int (nI i)), (2, .ref 73), (1, .ref 0), (0, .retAddr 0)] [] (xH b g l) := by
  refine xLw.s1 rfl rfl ?_
  try dsimp only [Nat.reduceAdd]
  refine xLw.s1 rfl rfl ?_
  try dsimp only [Nat.reduceAdd]
  refine xLw.s1 rfl rfl ?_
  try dsimp only [Nat.reduceAdd]
  refine xLw.s1 rfl rfl ?_
  try dsimp only [Nat.reduceAdd, xi_1]
  refine xLw.s1 rfl rfl ?_
  try dsimp only [Nat.reduceAdd]
  rw [show (nI i + 1 : Int32) = nI (i + 1) from nI_add i 1]
  refine xLw.ial rfl (hvs (i + 1) (by omega)) (by omega) ?_
  try dsimp only [Nat.reduceAdd]
  refine xLw.s1 rfl rfl ?_
  try dsimp only [Nat.reduceAdd]
  refine xLw.s1 rfl rfl ?_
  try dsimp only [Nat.reduceAdd]
  refine xLw.s1 rfl rfl ?_
  try dsimp only [Nat.reduceAdd, xi_2]
  refine xLw.s1 rfl rfl ?_
  try dsimp only [Nat.reduceAdd]
  rw [show (nI i + 2 : Int32) = nI (i + 2) from nI_add i 2]
  refine xLw.ial rfl (hvs (i + 2) (by omega)) (by omega) ?_
  try dsimp only [Nat.reduceAdd]
  refine xLw.cv rfl rfl rfl rfl rfl rfl ⟨by decide, rfl, rfl⟩ (j_fit hJ) (fun v1 M1 hv => ?_)
  obtain ⟨w, b1, g1, l1, rfl, rfl, hT2⟩ := hv
  try dsimp only [Nat.reduceAdd, Option.toList, List.cons_append, List.nil_append]
  refine xLw.s1 rfl rfl ?_
  try dsimp only [Nat.reduceAdd]
  refine xLw.s1 rfl rfl ?_
  try dsimp only [Nat.reduceAdd]
  refine xLw.s1 rfl rfl ?_
  try dsimp only [Nat.reduceAdd]
  refine xLw.s1 rfl rfl ?_
  try dsimp only [Nat.reduceAdd]
  refine xLw.s1 rfl rfl ?_
  try dsimp only [Nat.reduceAdd, xi_1]
  refine xLw.s1 rfl rfl ?_
  try dsimp only [Nat.reduceAdd]
  rw [show (nI i + 1 : Int32) = nI (i + 1) from nI_add i 1]
  refine xLw.ial rfl (hvs (i + 1) (by omega)) (by omega) ?_
  try dsimp only [Nat.reduceAdd]
  refine xLw.s1 rfl rfl ?_
  try dsimp only [Nat.reduceAdd]
  refine xLw.s1 rfl rfl ?_
  try dsimp only [Nat.reduceAdd]
  refine xLw.s1 rfl rfl ?_
  try dsimp only [Nat.reduceAdd, xi_2]
  refine xLw.s1 rfl rfl ?_
  try dsimp only [Nat.reduceAdd]
  rw [show (nI i + 2 : Int32) = nI (i + 2) from nI_add i 2]
  refine xLw.ial rfl (hvs (i + 2) (by omega)) (by omega) ?_
  try dsimp only [Nat.reduceAdd]
  refine xLw.cv rfl rfl rfl rfl rfl rfl ⟨by decide, rfl, rfl⟩ hT2 (fun v1 M1 hv => ?_)
  obtain ⟨w2, b2, g2, l2, rfl, rfl, hJ2, heq⟩ := hv
  try dsimp only [Nat.reduceAdd, Option.toList, List.cons_append, List.nil_append]
  refine xLw.s1 rfl rfl ?_
  try dsimp only [Nat.reduceAdd]
  refine xLw.s1 rfl rfl ?_
  try dsimp only [Nat.reduceAdd]
  exact nx _ _ _ hJ2
set_option maxRecDepth 10000 in
theorem w_ways (hL : L ≤ 384) (hi : i + 6 ≤ L) (hvs : ∀ t, t < L → vs[t]? = some (.int (xv t))) (hJ : xJ b g) (nx : ∀ b2 g2 l2, xJ b2 g2 → xLw vs 1546 [(3, .int (nI i)), (2, .ref 73), (1, .ref 0), (0, .retAddr 0)] [] (xH b2 g2 l2)) : xLw vs 976 [(3, .int (nI i)), (2, .ref 73), (1, .ref 0), (0, .retAddr 0)] [] (xH b g l) := by
  refine xLw.s1 rfl rfl ?_
  try dsimp only [Nat.reduceAdd]
  refine xLw.s1 rfl rfl ?_
  try dsimp only [Nat.reduceAdd]
  refine xLw.s1 rfl rfl ?_
  try dsimp only [Nat.reduceAdd]
  refine xLw.s1 rfl rfl ?_
  try dsimp only [Nat.reduceAdd, xi_1]
  refine xLw.s1 rfl rfl ?_
  try dsimp only [Nat.reduceAdd]
  rw [show (nI i + 1 : Int32) = nI (i + 1) from nI_add i 1]
  refine xLw.ial rfl (hvs (i + 1) (by omega)) (by omega) ?_
  try dsimp only [Nat.reduceAdd]
  refine xLw.s1 rfl rfl ?_
  try dsimp only [Nat.reduceAdd]
  refine xLw.s1 rfl rfl ?_
  try dsimp only [Nat.reduceAdd]
  refine xLw.s1 rfl rfl ?_
  try dsimp only [Nat.reduceAdd, xi_2]
  refine xLw.s1 rfl rfl ?_
  try dsimp only [Nat.reduceAdd]
  rw [show (nI i + 2 : Int32) = nI (i + 2) from nI_add i 2]
  refine xLw.ial rfl (hvs (i + 2) (by omega)) (by omega) ?_
  try dsimp only [Nat.reduceAdd]
  refine xLw.cv rfl rfl rfl rfl rfl rfl ⟨by decide, rfl, rfl⟩ (j_ways hJ) (fun v1 M1 hv => ?_)
  obtain ⟨w, b1, g1, l1, rfl, rfl, hT2⟩ := hv
  try dsimp only [Nat.reduceAdd, Option.toList, List.cons_append, List.nil_append]
  refine xLw.s1 rfl rfl ?_
  try dsimp only [Nat.reduceAdd]
  refine xLw.s1 rfl rfl ?_
  try dsimp only [Nat.reduceAdd]
  refine xLw.s1 rfl rfl ?_
  try dsimp only [Nat.reduceAdd]
  refine xLw.s1 rfl rfl ?_
  try dsimp only [Nat.reduceAdd]
  refine xLw.s1 rfl rfl ?_
  try dsimp only [Nat.reduceAdd, xi_1]
  refine xLw.s1 rfl rfl ?_
  try dsimp only [Nat.reduceAdd]
  rw [show (nI i + 1 : Int32) = nI (i + 1) from nI_add i 1]
  refine xLw.ial rfl (hvs (i + 1) (by omega)) (by omega) ?_
  try dsimp only [Nat.reduceAdd]
  refine xLw.s1 rfl rfl ?_
  try dsimp only [Nat.reduceAdd]
  refine xLw.s1 rfl rfl ?_
  try dsimp only [Nat.reduceAdd]
  refine xLw.s1 rfl rfl ?_
  try dsimp only [Nat.reduceAdd, xi_2]
  refine xLw.s1 rfl rfl ?_
  try dsimp only [Nat.reduceAdd]
  rw [show (nI i + 2 : Int32) = nI (i + 2) from nI_add i 2]
  refine xLw.ial rfl (hvs (i + 2) (by omega)) (by omega) ?_
  try dsimp only [Nat.reduceAdd]
  refine xLw.cv rfl rfl rfl rfl rfl rfl ⟨by decide, rfl, rfl⟩ hT2 (fun v1 M1 hv => ?_)
  obtain ⟨w2, b2, g2, l2, rfl, rfl, hJ2, heq⟩ := hv
  try dsimp only [Nat.reduceAdd, Option.toList, List.cons_append, List.nil_append]
  refine xLw.s1 rfl rfl ?_
  try dsimp only [Nat.reduceAdd]
  refine xLw.s1 rfl rfl ?_
  try dsimp only [Nat.reduceAdd]
  exact nx _ _ _ hJ2
set_option maxRecDepth 10000 in
theorem w_first (hL : L ≤ 384) (hi : i + 6 ≤ L) (hvs : ∀ t, t < L → vs[t]? = some (.int (xv t))) (hJ : xJ b g) (nx : ∀ b2 g2 l2, xJ b2 g2 → xLw vs 1546 [(3, .int (nI i)), (2, .ref 73), (1, .ref 0), (0, .retAddr 0)] [] (xH b2 g2 l2)) : xLw vs 1009 [(3, .int (nI i)), (2, .ref 73), (1, .ref 0), (0, .retAddr 0)] [] (xH b g l) := by
  refine xLw.s1 rfl rfl ?_
  try dsimp only [Nat.reduceAdd]
  refine xLw.s1 rfl rfl ?_
  try dsimp only [Nat.reduceAdd]
  refine xLw.s1 rfl rfl ?_
  try dsimp only [Nat.reduceAdd]
  refine xLw.s1 rfl rfl ?_
  try dsimp only [Nat.reduceAdd, xi_1]
  refine xLw.s1 rfl rfl ?_
  try dsimp only [Nat.reduceAdd]
  rw [show (nI i + 1 : Int32) = nI (i + 1) from nI_add i 1]
  refine xLw.ial rfl (hvs (i + 1) (by omega)) (by omega) ?_
  try dsimp only [Nat.reduceAdd]
  refine xLw.s1 rfl rfl ?_
  try dsimp only [Nat.reduceAdd]
  refine xLw.s1 rfl rfl ?_
  try dsimp only [Nat.reduceAdd]
  refine xLw.s1 rfl rfl ?_
  try dsimp only [Nat.reduceAdd, xi_2]
  refine xLw.s1 rfl rfl ?_
  try dsimp only [Nat.reduceAdd]
  rw [show (nI i + 2 : Int32) = nI (i + 2) from nI_add i 2]
  refine xLw.ial rfl (hvs (i + 2) (by omega)) (by omega) ?_
  try dsimp only [Nat.reduceAdd]
  refine xLw.s1 rfl rfl ?_
  try dsimp only [Nat.reduceAdd]
  refine xLw.s1 rfl rfl ?_
  try dsimp only [Nat.reduceAdd]
  refine xLw.s1 rfl rfl ?_
  try dsimp only [Nat.reduceAdd, xi_3]
  refine xLw.s1 rfl rfl ?_
  try dsimp only [Nat.reduceAdd]
  rw [show (nI i + 3 : Int32) = nI (i + 3) from nI_add i 3]
  refine xLw.ial rfl (hvs (i + 3) (by omega)) (by omega) ?_
  try dsimp only [Nat.reduceAdd]
  refine xLw.cv rfl rfl rfl rfl rfl rfl ⟨by decide, rfl, rfl⟩ (j_first hJ) (fun v1 M1 hv => ?_)
  obtain ⟨w, b1, g1, l1, rfl, rfl, hT2⟩ := hv
  try dsimp only [Nat.reduceAdd, Option.toList, List.cons_append, List.nil_append]
  refine xLw.s1 rfl rfl ?_
  try dsimp only [Nat.reduceAdd]
  refine xLw.s1 rfl rfl ?_
  try dsimp only [Nat.reduceAdd]
  refine xLw.s1 rfl rfl ?_
  try dsimp only [Nat.reduceAdd]
  refine xLw.s1 rfl rfl ?_
  try dsimp only [Nat.reduceAdd]
  refine xLw.s1 rfl rfl ?_
  try dsimp only [Nat.reduceAdd, xi_1]
  refine xLw.s1 rfl rfl ?_
  try dsimp only [Nat.reduceAdd]
  rw [show (nI i + 1 : Int32) = nI (i + 1) from nI_add i 1]
  refine xLw.ial rfl (hvs (i + 1) (by omega)) (by omega) ?_
  try dsimp only [Nat.reduceAdd]
  refine xLw.s1 rfl rfl ?_
  try dsimp only [Nat.reduceAdd]
  refine xLw.s1 rfl rfl ?_
  try dsimp only [Nat.reduceAdd]
  refine xLw.s1 rfl rfl ?_
  try dsimp only [Nat.reduceAdd, xi_2]
  refine xLw.s1 rfl rfl ?_
  try dsimp only [Nat.reduceAdd]
  rw [show (nI i + 2 : Int32) = nI (i + 2) from nI_add i 2]
  refine xLw.ial rfl (hvs (i + 2) (by omega)) (by omega) ?_
  try dsimp only [Nat.reduceAdd]
  refine xLw.s1 rfl rfl ?_
  try dsimp only [Nat.reduceAdd]
  refine xLw.s1 rfl rfl ?_
  try dsimp only [Nat.reduceAdd]
  refine xLw.s1 rfl rfl ?_
  try dsimp only [Nat.reduceAdd, xi_3]
  refine xLw.s1 rfl rfl ?_
  try dsimp only [Nat.reduceAdd]
  rw [show (nI i + 3 : Int32) = nI (i + 3) from nI_add i 3]
  refine xLw.ial rfl (hvs (i + 3) (by omega)) (by omega) ?_
  try dsimp only [Nat.reduceAdd]
  refine xLw.cv rfl rfl rfl rfl rfl rfl ⟨by decide, rfl, rfl⟩ hT2 (fun v1 M1 hv => ?_)
  obtain ⟨w2, b2, g2, l2, rfl, rfl, hJ2, heq⟩ := hv
  try dsimp only [Nat.reduceAdd, Option.toList, List.cons_append, List.nil_append]
  refine xLw.s1 rfl rfl ?_
  try dsimp only [Nat.reduceAdd]
  refine xLw.s1 rfl rfl ?_
  try dsimp only [Nat.reduceAdd]
  exact nx _ _ _ hJ2
set_option maxRecDepth 10000 in
theorem w_can (hL : L ≤ 384) (hi : i + 6 ≤ L) (hvs : ∀ t, t < L → vs[t]? = some (.int (xv t))) (hJ : xJ b g) (nx : ∀ b2 g2 l2, xJ b2 g2 → xLw vs 1546 [(3, .int (nI i)), (2, .ref 73), (1, .ref 0), (0, .retAddr 0)] [] (xH b2 g2 l2)) : xLw vs 1052 [(3, .int (nI i)), (2, .ref 73), (1, .ref 0), (0, .retAddr 0)] [] (xH b g l) := by
  refine xLw.s1 rfl rfl ?_
  try dsimp only [Nat.reduceAdd]
  refine xLw.s1 rfl rfl ?_
  try dsimp only [Nat.reduceAdd]
  refine xLw.s1 rfl rfl ?_
  try dsimp only [Nat.reduceAdd]
  refine xLw.s1 rfl rfl ?_
  try dsimp only [Nat.reduceAdd, xi_1]
  refine xLw.s1 rfl rfl ?_
  try dsimp only [Nat.reduceAdd]
  rw [show (nI i + 1 : Int32) = nI (i + 1) from nI_add i 1]
  refine xLw.ial rfl (hvs (i + 1) (by omega)) (by omega) ?_
  try dsimp only [Nat.reduceAdd]
  refine xLw.s1 rfl rfl ?_
  try dsimp only [Nat.reduceAdd]
  refine xLw.s1 rfl rfl ?_
  try dsimp only [Nat.reduceAdd]
  refine xLw.s1 rfl rfl ?_
  try dsimp only [Nat.reduceAdd, xi_2]
  refine xLw.s1 rfl rfl ?_
  try dsimp only [Nat.reduceAdd]
  rw [show (nI i + 2 : Int32) = nI (i + 2) from nI_add i 2]
  refine xLw.ial rfl (hvs (i + 2) (by omega)) (by omega) ?_
  try dsimp only [Nat.reduceAdd]
  refine xLw.s1 rfl rfl ?_
  try dsimp only [Nat.reduceAdd]
  refine xLw.s1 rfl rfl ?_
  try dsimp only [Nat.reduceAdd]
  refine xLw.s1 rfl rfl ?_
  try dsimp only [Nat.reduceAdd, xi_3]
  refine xLw.s1 rfl rfl ?_
  try dsimp only [Nat.reduceAdd]
  rw [show (nI i + 3 : Int32) = nI (i + 3) from nI_add i 3]
  refine xLw.ial rfl (hvs (i + 3) (by omega)) (by omega) ?_
  try dsimp only [Nat.reduceAdd]
  refine xLw.cv rfl rfl rfl rfl rfl rfl ⟨by decide, rfl, rfl⟩ (j_can hJ) (fun v1 M1 hv => ?_)
  obtain ⟨w, b1, g1, l1, rfl, rfl, hT2⟩ := hv
  try dsimp only [Nat.reduceAdd, Option.toList, List.cons_append, List.nil_append]
  refine xLw.s1 rfl rfl ?_
  try dsimp only [Nat.reduceAdd]
  refine xLw.s1 rfl rfl ?_
  try dsimp only [Nat.reduceAdd]
  refine xLw.s1 rfl rfl ?_
  try dsimp only [Nat.reduceAdd]
  refine xLw.s1 rfl rfl ?_
  try dsimp only [Nat.reduceAdd]
  refine xLw.s1 rfl rfl ?_
  try dsimp only [Nat.reduceAdd, xi_1]
  refine xLw.s1 rfl rfl ?_
  try dsimp only [Nat.reduceAdd]
  rw [show (nI i + 1 : Int32) = nI (i + 1) from nI_add i 1]
  refine xLw.ial rfl (hvs (i + 1) (by omega)) (by omega) ?_
  try dsimp only [Nat.reduceAdd]
  refine xLw.s1 rfl rfl ?_
  try dsimp only [Nat.reduceAdd]
  refine xLw.s1 rfl rfl ?_
  try dsimp only [Nat.reduceAdd]
  refine xLw.s1 rfl rfl ?_
  try dsimp only [Nat.reduceAdd, xi_2]
  refine xLw.s1 rfl rfl ?_
  try dsimp only [Nat.reduceAdd]
  rw [show (nI i + 2 : Int32) = nI (i + 2) from nI_add i 2]
  refine xLw.ial rfl (hvs (i + 2) (by omega)) (by omega) ?_
  try dsimp only [Nat.reduceAdd]
  refine xLw.s1 rfl rfl ?_
  try dsimp only [Nat.reduceAdd]
  refine xLw.s1 rfl rfl ?_
  try dsimp only [Nat.reduceAdd]
  refine xLw.s1 rfl rfl ?_
  try dsimp only [Nat.reduceAdd, xi_3]
  refine xLw.s1 rfl rfl ?_
  try dsimp only [Nat.reduceAdd]
  rw [show (nI i + 3 : Int32) = nI (i + 3) from nI_add i 3]
  refine xLw.ial rfl (hvs (i + 3) (by omega)) (by omega) ?_
  try dsimp only [Nat.reduceAdd]
  refine xLw.cv rfl rfl rfl rfl rfl rfl ⟨by decide, rfl, rfl⟩ hT2 (fun v1 M1 hv => ?_)
  obtain ⟨w2, b2, g2, l2, rfl, rfl, hJ2, heq⟩ := hv
  try dsimp only [Nat.reduceAdd, Option.toList, List.cons_append, List.nil_append]
  refine xLw.s1 rfl rfl ?_
  try dsimp only [Nat.reduceAdd]
  refine xLw.s1 rfl rfl ?_
  try dsimp only [Nat.reduceAdd]
  exact nx _ _ _ hJ2
set_option maxRecDepth 10000 in
theorem w_laws (hL : L ≤ 384) (hi : i + 6 ≤ L) (hvs : ∀ t, t < L → vs[t]? = some (.int (xv t))) (hJ : xJ b g) (nx : ∀ b2 g2 l2, xJ b2 g2 → xLw vs 1546 [(3, .int (nI i)), (2, .ref 73), (1, .ref 0), (0, .retAddr 0)] [] (xH b2 g2 l2)) : xLw vs 1095 [(3, .int (nI i)), (2, .ref 73), (1, .ref 0), (0, .retAddr 0)] [] (xH b g l) := by
  refine xLw.s1 rfl rfl ?_
  try dsimp only [Nat.reduceAdd]
  refine xLw.s1 rfl rfl ?_
  try dsimp only [Nat.reduceAdd]
  refine xLw.s1 rfl rfl ?_
  try dsimp only [Nat.reduceAdd]
  refine xLw.s1 rfl rfl ?_
  try dsimp only [Nat.reduceAdd, xi_1]
  refine xLw.s1 rfl rfl ?_
  try dsimp only [Nat.reduceAdd]
  rw [show (nI i + 1 : Int32) = nI (i + 1) from nI_add i 1]
  refine xLw.ial rfl (hvs (i + 1) (by omega)) (by omega) ?_
  try dsimp only [Nat.reduceAdd]
  refine xLw.s1 rfl rfl ?_
  try dsimp only [Nat.reduceAdd]
  refine xLw.s1 rfl rfl ?_
  try dsimp only [Nat.reduceAdd]
  refine xLw.s1 rfl rfl ?_
  try dsimp only [Nat.reduceAdd, xi_2]
  refine xLw.s1 rfl rfl ?_
  try dsimp only [Nat.reduceAdd]
  rw [show (nI i + 2 : Int32) = nI (i + 2) from nI_add i 2]
  refine xLw.ial rfl (hvs (i + 2) (by omega)) (by omega) ?_
  try dsimp only [Nat.reduceAdd]
  refine xLw.cv rfl rfl rfl rfl rfl rfl ⟨by decide, rfl, rfl⟩ (j_laws hJ) (fun v1 M1 hv => ?_)
  obtain ⟨w, b1, g1, l1, rfl, rfl, hT2⟩ := hv
  try dsimp only [Nat.reduceAdd, Option.toList, List.cons_append, List.nil_append]
  refine xLw.s1 rfl rfl ?_
  try dsimp only [Nat.reduceAdd]
  refine xLw.s1 rfl rfl ?_
  try dsimp only [Nat.reduceAdd]
  refine xLw.s1 rfl rfl ?_
  try dsimp only [Nat.reduceAdd]
  refine xLw.s1 rfl rfl ?_
  try dsimp only [Nat.reduceAdd]
  refine xLw.s1 rfl rfl ?_
  try dsimp only [Nat.reduceAdd, xi_1]
  refine xLw.s1 rfl rfl ?_
  try dsimp only [Nat.reduceAdd]
  rw [show (nI i + 1 : Int32) = nI (i + 1) from nI_add i 1]
  refine xLw.ial rfl (hvs (i + 1) (by omega)) (by omega) ?_
  try dsimp only [Nat.reduceAdd]
  refine xLw.s1 rfl rfl ?_
  try dsimp only [Nat.reduceAdd]
  refine xLw.s1 rfl rfl ?_
  try dsimp only [Nat.reduceAdd]
  refine xLw.s1 rfl rfl ?_
  try dsimp only [Nat.reduceAdd, xi_2]
  refine xLw.s1 rfl rfl ?_
  try dsimp only [Nat.reduceAdd]
  rw [show (nI i + 2 : Int32) = nI (i + 2) from nI_add i 2]
  refine xLw.ial rfl (hvs (i + 2) (by omega)) (by omega) ?_
  try dsimp only [Nat.reduceAdd]
  refine xLw.cv rfl rfl rfl rfl rfl rfl ⟨by decide, rfl, rfl⟩ hT2 (fun v1 M1 hv => ?_)
  obtain ⟨w2, b2, g2, l2, rfl, rfl, hJ2, heq⟩ := hv
  try dsimp only [Nat.reduceAdd, Option.toList, List.cons_append, List.nil_append]
  refine xLw.s1 rfl rfl ?_
  try dsimp only [Nat.reduceAdd]
  refine xLw.s1 rfl rfl ?_
  try dsimp only [Nat.reduceAdd]
  exact nx _ _ _ hJ2
set_option maxRecDepth 10000 in
theorem w_next (hL : L ≤ 384) (hi : i + 6 ≤ L) (hvs : ∀ t, t < L → vs[t]? = some (.int (xv t))) (hJ : xJ b g) (nx : ∀ b2 g2 l2, xJ b2 g2 → xLw vs 1546 [(3, .int (nI i)), (2, .ref 73), (1, .ref 0), (0, .retAddr 0)] [] (xH b2 g2 l2)) : xLw vs 1128 [(3, .int (nI i)), (2, .ref 73), (1, .ref 0), (0, .retAddr 0)] [] (xH b g l) := by
  refine xLw.s1 rfl rfl ?_
  try dsimp only [Nat.reduceAdd]
  refine xLw.s1 rfl rfl ?_
  try dsimp only [Nat.reduceAdd]
  refine xLw.s1 rfl rfl ?_
  try dsimp only [Nat.reduceAdd]
  refine xLw.s1 rfl rfl ?_
  try dsimp only [Nat.reduceAdd, xi_1]
  refine xLw.s1 rfl rfl ?_
  try dsimp only [Nat.reduceAdd]
  rw [show (nI i + 1 : Int32) = nI (i + 1) from nI_add i 1]
  refine xLw.ial rfl (hvs (i + 1) (by omega)) (by omega) ?_
  try dsimp only [Nat.reduceAdd]
  refine xLw.s1 rfl rfl ?_
  try dsimp only [Nat.reduceAdd]
  refine xLw.s1 rfl rfl ?_
  try dsimp only [Nat.reduceAdd]
  refine xLw.s1 rfl rfl ?_
  try dsimp only [Nat.reduceAdd, xi_2]
  refine xLw.s1 rfl rfl ?_
  try dsimp only [Nat.reduceAdd]
  rw [show (nI i + 2 : Int32) = nI (i + 2) from nI_add i 2]
  refine xLw.ial rfl (hvs (i + 2) (by omega)) (by omega) ?_
  try dsimp only [Nat.reduceAdd]
  refine xLw.cv rfl rfl rfl rfl rfl rfl ⟨by decide, rfl, rfl⟩ (j_next hJ) (fun v1 M1 hv => ?_)
  obtain ⟨w, b1, g1, l1, rfl, rfl, hT2⟩ := hv
  try dsimp only [Nat.reduceAdd, Option.toList, List.cons_append, List.nil_append]
  refine xLw.s1 rfl rfl ?_
  try dsimp only [Nat.reduceAdd]
  refine xLw.s1 rfl rfl ?_
  try dsimp only [Nat.reduceAdd]
  refine xLw.s1 rfl rfl ?_
  try dsimp only [Nat.reduceAdd]
  refine xLw.s1 rfl rfl ?_
  try dsimp only [Nat.reduceAdd]
  refine xLw.s1 rfl rfl ?_
  try dsimp only [Nat.reduceAdd, xi_1]
  refine xLw.s1 rfl rfl ?_
  try dsimp only [Nat.reduceAdd]
  rw [show (nI i + 1 : Int32) = nI (i + 1) from nI_add i 1]
  refine xLw.ial rfl (hvs (i + 1) (by omega)) (by omega) ?_
  try dsimp only [Nat.reduceAdd]
  refine xLw.s1 rfl rfl ?_
  try dsimp only [Nat.reduceAdd]
  refine xLw.s1 rfl rfl ?_
  try dsimp only [Nat.reduceAdd]
  refine xLw.s1 rfl rfl ?_
  try dsimp only [Nat.reduceAdd, xi_2]
  refine xLw.s1 rfl rfl ?_
  try dsimp only [Nat.reduceAdd]
  rw [show (nI i + 2 : Int32) = nI (i + 2) from nI_add i 2]
  refine xLw.ial rfl (hvs (i + 2) (by omega)) (by omega) ?_
  try dsimp only [Nat.reduceAdd]
  refine xLw.cv rfl rfl rfl rfl rfl rfl ⟨by decide, rfl, rfl⟩ hT2 (fun v1 M1 hv => ?_)
  obtain ⟨w2, b2, g2, l2, rfl, rfl, hJ2, heq⟩ := hv
  try dsimp only [Nat.reduceAdd, Option.toList, List.cons_append, List.nil_append]
  refine xLw.s1 rfl rfl ?_
  try dsimp only [Nat.reduceAdd]
  refine xLw.s1 rfl rfl ?_
  try dsimp only [Nat.reduceAdd]
  exact nx _ _ _ hJ2
set_option maxRecDepth 10000 in
theorem w_he (hL : L ≤ 384) (hi : i + 6 ≤ L) (hvs : ∀ t, t < L → vs[t]? = some (.int (xv t))) (hJ : xJ b g) (nx : ∀ b2 g2 l2, xJ b2 g2 → xLw vs 1546 [(3, .int (nI i)), (2, .ref 73), (1, .ref 0), (0, .retAddr 0)] [] (xH b2 g2 l2)) : xLw vs 1161 [(3, .int (nI i)), (2, .ref 73), (1, .ref 0), (0, .retAddr 0)] [] (xH b g l) := by
  refine xLw.s1 rfl rfl ?_
  try dsimp only [Nat.reduceAdd]
  refine xLw.s1 rfl rfl ?_
  try dsimp only [Nat.reduceAdd]
  refine xLw.s1 rfl rfl ?_
  try dsimp only [Nat.reduceAdd]
  refine xLw.s1 rfl rfl ?_
  try dsimp only [Nat.reduceAdd, xi_1]
  refine xLw.s1 rfl rfl ?_
  try dsimp only [Nat.reduceAdd]
  rw [show (nI i + 1 : Int32) = nI (i + 1) from nI_add i 1]
  refine xLw.ial rfl (hvs (i + 1) (by omega)) (by omega) ?_
  try dsimp only [Nat.reduceAdd]
  refine xLw.s1 rfl rfl ?_
  try dsimp only [Nat.reduceAdd]
  refine xLw.s1 rfl rfl ?_
  try dsimp only [Nat.reduceAdd]
  refine xLw.s1 rfl rfl ?_
  try dsimp only [Nat.reduceAdd, xi_2]
  refine xLw.s1 rfl rfl ?_
  try dsimp only [Nat.reduceAdd]
  rw [show (nI i + 2 : Int32) = nI (i + 2) from nI_add i 2]
  refine xLw.ial rfl (hvs (i + 2) (by omega)) (by omega) ?_
  try dsimp only [Nat.reduceAdd]
  refine xLw.s1 rfl rfl ?_
  try dsimp only [Nat.reduceAdd]
  refine xLw.s1 rfl rfl ?_
  try dsimp only [Nat.reduceAdd]
  refine xLw.s1 rfl rfl ?_
  try dsimp only [Nat.reduceAdd, xi_3]
  refine xLw.s1 rfl rfl ?_
  try dsimp only [Nat.reduceAdd]
  rw [show (nI i + 3 : Int32) = nI (i + 3) from nI_add i 3]
  refine xLw.ial rfl (hvs (i + 3) (by omega)) (by omega) ?_
  try dsimp only [Nat.reduceAdd]
  refine xLw.cv rfl rfl rfl rfl rfl rfl ⟨by decide, rfl, rfl⟩ (j_he hJ) (fun v1 M1 hv => ?_)
  obtain ⟨w, b1, g1, l1, rfl, rfl, hT2⟩ := hv
  try dsimp only [Nat.reduceAdd, Option.toList, List.cons_append, List.nil_append]
  refine xLw.s1 rfl rfl ?_
  try dsimp only [Nat.reduceAdd]
  refine xLw.s1 rfl rfl ?_
  try dsimp only [Nat.reduceAdd]
  refine xLw.s1 rfl rfl ?_
  try dsimp only [Nat.reduceAdd]
  refine xLw.s1 rfl rfl ?_
  try dsimp only [Nat.reduceAdd]
  refine xLw.s1 rfl rfl ?_
  try dsimp only [Nat.reduceAdd, xi_1]
  refine xLw.s1 rfl rfl ?_
  try dsimp only [Nat.reduceAdd]
  rw [show (nI i + 1 : Int32) = nI (i + 1) from nI_add i 1]
  refine xLw.ial rfl (hvs (i + 1) (by omega)) (by omega) ?_
  try dsimp only [Nat.reduceAdd]
  refine xLw.s1 rfl rfl ?_
  try dsimp only [Nat.reduceAdd]
  refine xLw.s1 rfl rfl ?_
  try dsimp only [Nat.reduceAdd]
  refine xLw.s1 rfl rfl ?_
  try dsimp only [Nat.reduceAdd, xi_2]
  refine xLw.s1 rfl rfl ?_
  try dsimp only [Nat.reduceAdd]
  rw [show (nI i + 2 : Int32) = nI (i + 2) from nI_add i 2]
  refine xLw.ial rfl (hvs (i + 2) (by omega)) (by omega) ?_
  try dsimp only [Nat.reduceAdd]
  refine xLw.s1 rfl rfl ?_
  try dsimp only [Nat.reduceAdd]
  refine xLw.s1 rfl rfl ?_
  try dsimp only [Nat.reduceAdd]
  refine xLw.s1 rfl rfl ?_
  try dsimp only [Nat.reduceAdd, xi_3]
  refine xLw.s1 rfl rfl ?_
  try dsimp only [Nat.reduceAdd]
  rw [show (nI i + 3 : Int32) = nI (i + 3) from nI_add i 3]
  refine xLw.ial rfl (hvs (i + 3) (by omega)) (by omega) ?_
  try dsimp only [Nat.reduceAdd]
  refine xLw.cv rfl rfl rfl rfl rfl rfl ⟨by decide, rfl, rfl⟩ hT2 (fun v1 M1 hv => ?_)
  obtain ⟨w2, b2, g2, l2, rfl, rfl, hJ2, heq⟩ := hv
  try dsimp only [Nat.reduceAdd, Option.toList, List.cons_append, List.nil_append]
  refine xLw.s1 rfl rfl ?_
  try dsimp only [Nat.reduceAdd]
  refine xLw.s1 rfl rfl ?_
  try dsimp only [Nat.reduceAdd]
  exact nx _ _ _ hJ2
set_option maxRecDepth 10000 in
theorem w_keeps (hL : L ≤ 384) (hi : i + 6 ≤ L) (hvs : ∀ t, t < L → vs[t]? = some (.int (xv t))) (hJ : xJ b g) (nx : ∀ b2 g2 l2, xJ b2 g2 → xLw vs 1546 [(3, .int (nI i)), (2, .ref 73), (1, .ref 0), (0, .retAddr 0)] [] (xH b2 g2 l2)) : xLw vs 1204 [(3, .int (nI i)), (2, .ref 73), (1, .ref 0), (0, .retAddr 0)] [] (xH b g l) := by
  refine xLw.s1 rfl rfl ?_
  try dsimp only [Nat.reduceAdd]
  refine xLw.s1 rfl rfl ?_
  try dsimp only [Nat.reduceAdd]
  refine xLw.s1 rfl rfl ?_
  try dsimp only [Nat.reduceAdd]
  refine xLw.s1 rfl rfl ?_
  try dsimp only [Nat.reduceAdd, xi_1]
  refine xLw.s1 rfl rfl ?_
  try dsimp only [Nat.reduceAdd]
  rw [show (nI i + 1 : Int32) = nI (i + 1) from nI_add i 1]
  refine xLw.ial rfl (hvs (i + 1) (by omega)) (by omega) ?_
  try dsimp only [Nat.reduceAdd]
  refine xLw.s1 rfl rfl ?_
  try dsimp only [Nat.reduceAdd]
  refine xLw.s1 rfl rfl ?_
  try dsimp only [Nat.reduceAdd]
  refine xLw.s1 rfl rfl ?_
  try dsimp only [Nat.reduceAdd, xi_2]
  refine xLw.s1 rfl rfl ?_
  try dsimp only [Nat.reduceAdd]
  rw [show (nI i + 2 : Int32) = nI (i + 2) from nI_add i 2]
  refine xLw.ial rfl (hvs (i + 2) (by omega)) (by omega) ?_
  try dsimp only [Nat.reduceAdd]
  refine xLw.cv rfl rfl rfl rfl rfl rfl ⟨by decide, rfl, rfl⟩ (j_keeps hJ) (fun v1 M1 hv => ?_)
  obtain ⟨w, b1, g1, l1, rfl, rfl, hT2⟩ := hv
  try dsimp only [Nat.reduceAdd, Option.toList, List.cons_append, List.nil_append]
  refine xLw.s1 rfl rfl ?_
  try dsimp only [Nat.reduceAdd]
  refine xLw.s1 rfl rfl ?_
  try dsimp only [Nat.reduceAdd]
  refine xLw.s1 rfl rfl ?_
  try dsimp only [Nat.reduceAdd]
  refine xLw.s1 rfl rfl ?_
  try dsimp only [Nat.reduceAdd]
  refine xLw.s1 rfl rfl ?_
  try dsimp only [Nat.reduceAdd, xi_1]
  refine xLw.s1 rfl rfl ?_
  try dsimp only [Nat.reduceAdd]
  rw [show (nI i + 1 : Int32) = nI (i + 1) from nI_add i 1]
  refine xLw.ial rfl (hvs (i + 1) (by omega)) (by omega) ?_
  try dsimp only [Nat.reduceAdd]
  refine xLw.s1 rfl rfl ?_
  try dsimp only [Nat.reduceAdd]
  refine xLw.s1 rfl rfl ?_
  try dsimp only [Nat.reduceAdd]
  refine xLw.s1 rfl rfl ?_
  try dsimp only [Nat.reduceAdd, xi_2]
  refine xLw.s1 rfl rfl ?_
  try dsimp only [Nat.reduceAdd]
  rw [show (nI i + 2 : Int32) = nI (i + 2) from nI_add i 2]
  refine xLw.ial rfl (hvs (i + 2) (by omega)) (by omega) ?_
  try dsimp only [Nat.reduceAdd]
  refine xLw.cv rfl rfl rfl rfl rfl rfl ⟨by decide, rfl, rfl⟩ hT2 (fun v1 M1 hv => ?_)
  obtain ⟨w2, b2, g2, l2, rfl, rfl, hJ2, heq⟩ := hv
  try dsimp only [Nat.reduceAdd, Option.toList, List.cons_append, List.nil_append]
  refine xLw.s1 rfl rfl ?_
  try dsimp only [Nat.reduceAdd]
  refine xLw.s1 rfl rfl ?_
  try dsimp only [Nat.reduceAdd]
  exact nx _ _ _ hJ2
set_option maxRecDepth 10000 in
theorem w_still (hL : L ≤ 384) (hi : i + 6 ≤ L) (hvs : ∀ t, t < L → vs[t]? = some (.int (xv t))) (hJ : xJ b g) (nx : ∀ b2 g2 l2, xJ b2 g2 → xLw vs 1546 [(3, .int (nI i)), (2, .ref 73), (1, .ref 0), (0, .retAddr 0)] [] (xH b2 g2 l2)) : xLw vs 1237 [(3, .int (nI i)), (2, .ref 73), (1, .ref 0), (0, .retAddr 0)] [] (xH b g l) := by
  refine xLw.s1 rfl rfl ?_
  try dsimp only [Nat.reduceAdd]
  refine xLw.s1 rfl rfl ?_
  try dsimp only [Nat.reduceAdd]
  refine xLw.s1 rfl rfl ?_
  try dsimp only [Nat.reduceAdd]
  refine xLw.s1 rfl rfl ?_
  try dsimp only [Nat.reduceAdd, xi_1]
  refine xLw.s1 rfl rfl ?_
  try dsimp only [Nat.reduceAdd]
  rw [show (nI i + 1 : Int32) = nI (i + 1) from nI_add i 1]
  refine xLw.ial rfl (hvs (i + 1) (by omega)) (by omega) ?_
  try dsimp only [Nat.reduceAdd]
  refine xLw.s1 rfl rfl ?_
  try dsimp only [Nat.reduceAdd]
  refine xLw.s1 rfl rfl ?_
  try dsimp only [Nat.reduceAdd]
  refine xLw.s1 rfl rfl ?_
  try dsimp only [Nat.reduceAdd, xi_2]
  refine xLw.s1 rfl rfl ?_
  try dsimp only [Nat.reduceAdd]
  rw [show (nI i + 2 : Int32) = nI (i + 2) from nI_add i 2]
  refine xLw.ial rfl (hvs (i + 2) (by omega)) (by omega) ?_
  try dsimp only [Nat.reduceAdd]
  refine xLw.cv rfl rfl rfl rfl rfl rfl ⟨by decide, rfl, rfl⟩ (j_still hJ) (fun v1 M1 hv => ?_)
  obtain ⟨w, b1, g1, l1, rfl, rfl, hT2⟩ := hv
  try dsimp only [Nat.reduceAdd, Option.toList, List.cons_append, List.nil_append]
  refine xLw.s1 rfl rfl ?_
  try dsimp only [Nat.reduceAdd]
  refine xLw.s1 rfl rfl ?_
  try dsimp only [Nat.reduceAdd]
  refine xLw.s1 rfl rfl ?_
  try dsimp only [Nat.reduceAdd]
  refine xLw.s1 rfl rfl ?_
  try dsimp only [Nat.reduceAdd]
  refine xLw.s1 rfl rfl ?_
  try dsimp only [Nat.reduceAdd, xi_1]
  refine xLw.s1 rfl rfl ?_
  try dsimp only [Nat.reduceAdd]
  rw [show (nI i + 1 : Int32) = nI (i + 1) from nI_add i 1]
  refine xLw.ial rfl (hvs (i + 1) (by omega)) (by omega) ?_
  try dsimp only [Nat.reduceAdd]
  refine xLw.s1 rfl rfl ?_
  try dsimp only [Nat.reduceAdd]
  refine xLw.s1 rfl rfl ?_
  try dsimp only [Nat.reduceAdd]
  refine xLw.s1 rfl rfl ?_
  try dsimp only [Nat.reduceAdd, xi_2]
  refine xLw.s1 rfl rfl ?_
  try dsimp only [Nat.reduceAdd]
  rw [show (nI i + 2 : Int32) = nI (i + 2) from nI_add i 2]
  refine xLw.ial rfl (hvs (i + 2) (by omega)) (by omega) ?_
  try dsimp only [Nat.reduceAdd]
  refine xLw.cv rfl rfl rfl rfl rfl rfl ⟨by decide, rfl, rfl⟩ hT2 (fun v1 M1 hv => ?_)
  obtain ⟨w2, b2, g2, l2, rfl, rfl, hJ2, heq⟩ := hv
  try dsimp only [Nat.reduceAdd, Option.toList, List.cons_append, List.nil_append]
  refine xLw.s1 rfl rfl ?_
  try dsimp only [Nat.reduceAdd]
  refine xLw.s1 rfl rfl ?_
  try dsimp only [Nat.reduceAdd]
  exact nx _ _ _ hJ2
set_option maxRecDepth 10000 in
theorem w_game (hL : L ≤ 384) (hi : i + 6 ≤ L) (hvs : ∀ t, t < L → vs[t]? = some (.int (xv t))) (hJ : xJ b g) (nx : ∀ b2 g2 l2, xJ b2 g2 → xLw vs 1546 [(3, .int (nI i)), (2, .ref 73), (1, .ref 0), (0, .retAddr 0)] [] (xH b2 g2 l2)) : xLw vs 1270 [(3, .int (nI i)), (2, .ref 73), (1, .ref 0), (0, .retAddr 0)] [] (xH b g l) := by
  refine xLw.s1 rfl rfl ?_
  try dsimp only [Nat.reduceAdd]
  refine xLw.s1 rfl rfl ?_
  try dsimp only [Nat.reduceAdd]
  refine xLw.s1 rfl rfl ?_
  try dsimp only [Nat.reduceAdd]
  refine xLw.s1 rfl rfl ?_
  try dsimp only [Nat.reduceAdd, xi_1]
  refine xLw.s1 rfl rfl ?_
  try dsimp only [Nat.reduceAdd]
  rw [show (nI i + 1 : Int32) = nI (i + 1) from nI_add i 1]
  refine xLw.ial rfl (hvs (i + 1) (by omega)) (by omega) ?_
  try dsimp only [Nat.reduceAdd]
  refine xLw.cv rfl rfl rfl rfl rfl rfl ⟨by decide, rfl, rfl⟩ (j_game hJ) (fun v1 M1 hv => ?_)
  obtain ⟨w, b1, g1, l1, rfl, rfl, hT2⟩ := hv
  try dsimp only [Nat.reduceAdd, Option.toList, List.cons_append, List.nil_append]
  refine xLw.s1 rfl rfl ?_
  try dsimp only [Nat.reduceAdd]
  refine xLw.s1 rfl rfl ?_
  try dsimp only [Nat.reduceAdd]
  refine xLw.s1 rfl rfl ?_
  try dsimp only [Nat.reduceAdd]
  refine xLw.s1 rfl rfl ?_
  try dsimp only [Nat.reduceAdd]
  refine xLw.s1 rfl rfl ?_
  try dsimp only [Nat.reduceAdd, xi_1]
  refine xLw.s1 rfl rfl ?_
  try dsimp only [Nat.reduceAdd]
  rw [show (nI i + 1 : Int32) = nI (i + 1) from nI_add i 1]
  refine xLw.ial rfl (hvs (i + 1) (by omega)) (by omega) ?_
  try dsimp only [Nat.reduceAdd]
  refine xLw.cv rfl rfl rfl rfl rfl rfl ⟨by decide, rfl, rfl⟩ hT2 (fun v1 M1 hv => ?_)
  obtain ⟨w2, b2, g2, l2, rfl, rfl, hJ2, heq⟩ := hv
  try dsimp only [Nat.reduceAdd, Option.toList, List.cons_append, List.nil_append]
  refine xLw.s1 rfl rfl ?_
  try dsimp only [Nat.reduceAdd]
  refine xLw.s1 rfl rfl ?_
  try dsimp only [Nat.reduceAdd]
  exact nx _ _ _ hJ2
set_option maxRecDepth 10000 in
theorem w_picks (hL : L ≤ 384) (hi : i + 6 ≤ L) (hvs : ∀ t, t < L → vs[t]? = some (.int (xv t))) (hJ : xJ b g) (nx : ∀ b2 g2 l2, xJ b2 g2 → xLw vs 1546 [(3, .int (nI i)), (2, .ref 73), (1, .ref 0), (0, .retAddr 0)] [] (xH b2 g2 l2)) : xLw vs 1293 [(3, .int (nI i)), (2, .ref 73), (1, .ref 0), (0, .retAddr 0)] [] (xH b g l) := by
  refine xLw.s1 rfl rfl ?_
  try dsimp only [Nat.reduceAdd]
  refine xLw.s1 rfl rfl ?_
  try dsimp only [Nat.reduceAdd]
  refine xLw.s1 rfl rfl ?_
  try dsimp only [Nat.reduceAdd]
  refine xLw.s1 rfl rfl ?_
  try dsimp only [Nat.reduceAdd, xi_1]
  refine xLw.s1 rfl rfl ?_
  try dsimp only [Nat.reduceAdd]
  rw [show (nI i + 1 : Int32) = nI (i + 1) from nI_add i 1]
  refine xLw.ial rfl (hvs (i + 1) (by omega)) (by omega) ?_
  try dsimp only [Nat.reduceAdd]
  refine xLw.cv rfl rfl rfl rfl rfl rfl ⟨by decide, rfl, rfl⟩ (j_picks hJ) (fun v1 M1 hv => ?_)
  obtain ⟨w, b1, g1, l1, rfl, rfl, hT2⟩ := hv
  try dsimp only [Nat.reduceAdd, Option.toList, List.cons_append, List.nil_append]
  refine xLw.s1 rfl rfl ?_
  try dsimp only [Nat.reduceAdd]
  refine xLw.s1 rfl rfl ?_
  try dsimp only [Nat.reduceAdd]
  refine xLw.s1 rfl rfl ?_
  try dsimp only [Nat.reduceAdd]
  refine xLw.s1 rfl rfl ?_
  try dsimp only [Nat.reduceAdd]
  refine xLw.s1 rfl rfl ?_
  try dsimp only [Nat.reduceAdd, xi_1]
  refine xLw.s1 rfl rfl ?_
  try dsimp only [Nat.reduceAdd]
  rw [show (nI i + 1 : Int32) = nI (i + 1) from nI_add i 1]
  refine xLw.ial rfl (hvs (i + 1) (by omega)) (by omega) ?_
  try dsimp only [Nat.reduceAdd]
  refine xLw.cv rfl rfl rfl rfl rfl rfl ⟨by decide, rfl, rfl⟩ hT2 (fun v1 M1 hv => ?_)
  obtain ⟨w2, b2, g2, l2, rfl, rfl, hJ2, heq⟩ := hv
  try dsimp only [Nat.reduceAdd, Option.toList, List.cons_append, List.nil_append]
  refine xLw.s1 rfl rfl ?_
  try dsimp only [Nat.reduceAdd]
  refine xLw.s1 rfl rfl ?_
  try dsimp only [Nat.reduceAdd]
  exact nx _ _ _ hJ2
set_option maxRecDepth 10000 in
theorem w_odds (hL : L ≤ 384) (hi : i + 6 ≤ L) (hvs : ∀ t, t < L → vs[t]? = some (.int (xv t))) (hJ : xJ b g) (nx : ∀ b2 g2 l2, xJ b2 g2 → xLw vs 1546 [(3, .int (nI i)), (2, .ref 73), (1, .ref 0), (0, .retAddr 0)] [] (xH b2 g2 l2)) : xLw vs 1316 [(3, .int (nI i)), (2, .ref 73), (1, .ref 0), (0, .retAddr 0)] [] (xH b g l) := by
  refine xLw.s1 rfl rfl ?_
  try dsimp only [Nat.reduceAdd]
  refine xLw.s1 rfl rfl ?_
  try dsimp only [Nat.reduceAdd]
  refine xLw.s1 rfl rfl ?_
  try dsimp only [Nat.reduceAdd]
  refine xLw.s1 rfl rfl ?_
  try dsimp only [Nat.reduceAdd, xi_1]
  refine xLw.s1 rfl rfl ?_
  try dsimp only [Nat.reduceAdd]
  rw [show (nI i + 1 : Int32) = nI (i + 1) from nI_add i 1]
  refine xLw.ial rfl (hvs (i + 1) (by omega)) (by omega) ?_
  try dsimp only [Nat.reduceAdd]
  refine xLw.s1 rfl rfl ?_
  try dsimp only [Nat.reduceAdd]
  refine xLw.s1 rfl rfl ?_
  try dsimp only [Nat.reduceAdd]
  refine xLw.s1 rfl rfl ?_
  try dsimp only [Nat.reduceAdd, xi_2]
  refine xLw.s1 rfl rfl ?_
  try dsimp only [Nat.reduceAdd]
  rw [show (nI i + 2 : Int32) = nI (i + 2) from nI_add i 2]
  refine xLw.ial rfl (hvs (i + 2) (by omega)) (by omega) ?_
  try dsimp only [Nat.reduceAdd]
  refine xLw.s1 rfl rfl ?_
  try dsimp only [Nat.reduceAdd]
  refine xLw.s1 rfl rfl ?_
  try dsimp only [Nat.reduceAdd]
  refine xLw.s1 rfl rfl ?_
  try dsimp only [Nat.reduceAdd, xi_3]
  refine xLw.s1 rfl rfl ?_
  try dsimp only [Nat.reduceAdd]
  rw [show (nI i + 3 : Int32) = nI (i + 3) from nI_add i 3]
  refine xLw.ial rfl (hvs (i + 3) (by omega)) (by omega) ?_
  try dsimp only [Nat.reduceAdd]
  refine xLw.cv rfl rfl rfl rfl rfl rfl ⟨by decide, rfl, rfl⟩ (j_odds hJ) (fun v1 M1 hv => ?_)
  obtain ⟨w, b1, g1, l1, rfl, rfl, hT2⟩ := hv
  try dsimp only [Nat.reduceAdd, Option.toList, List.cons_append, List.nil_append]
  refine xLw.s1 rfl rfl ?_
  try dsimp only [Nat.reduceAdd]
  refine xLw.s1 rfl rfl ?_
  try dsimp only [Nat.reduceAdd]
  refine xLw.s1 rfl rfl ?_
  try dsimp only [Nat.reduceAdd]
  refine xLw.s1 rfl rfl ?_
  try dsimp only [Nat.reduceAdd]
  refine xLw.s1 rfl rfl ?_
  try dsimp only [Nat.reduceAdd, xi_1]
  refine xLw.s1 rfl rfl ?_
  try dsimp only [Nat.reduceAdd]
  rw [show (nI i + 1 : Int32) = nI (i + 1) from nI_add i 1]
  refine xLw.ial rfl (hvs (i + 1) (by omega)) (by omega) ?_
  try dsimp only [Nat.reduceAdd]
  refine xLw.s1 rfl rfl ?_
  try dsimp only [Nat.reduceAdd]
  refine xLw.s1 rfl rfl ?_
  try dsimp only [Nat.reduceAdd]
  refine xLw.s1 rfl rfl ?_
  try dsimp only [Nat.reduceAdd, xi_2]
  refine xLw.s1 rfl rfl ?_
  try dsimp only [Nat.reduceAdd]
  rw [show (nI i + 2 : Int32) = nI (i + 2) from nI_add i 2]
  refine xLw.ial rfl (hvs (i + 2) (by omega)) (by omega) ?_
  try dsimp only [Nat.reduceAdd]
  refine xLw.s1 rfl rfl ?_
  try dsimp only [Nat.reduceAdd]
  refine xLw.s1 rfl rfl ?_
  try dsimp only [Nat.reduceAdd]
  refine xLw.s1 rfl rfl ?_
  try dsimp only [Nat.reduceAdd, xi_3]
  refine xLw.s1 rfl rfl ?_
  try dsimp only [Nat.reduceAdd]
  rw [show (nI i + 3 : Int32) = nI (i + 3) from nI_add i 3]
  refine xLw.ial rfl (hvs (i + 3) (by omega)) (by omega) ?_
  try dsimp only [Nat.reduceAdd]
  refine xLw.cv rfl rfl rfl rfl rfl rfl ⟨by decide, rfl, rfl⟩ hT2 (fun v1 M1 hv => ?_)
  obtain ⟨w2, b2, g2, l2, rfl, rfl, hJ2, heq⟩ := hv
  try dsimp only [Nat.reduceAdd, Option.toList, List.cons_append, List.nil_append]
  refine xLw.s1 rfl rfl ?_
  try dsimp only [Nat.reduceAdd]
  refine xLw.s1 rfl rfl ?_
  try dsimp only [Nat.reduceAdd]
  exact nx _ _ _ hJ2
set_option maxRecDepth 10000 in
theorem w_mid (hL : L ≤ 384) (hi : i + 6 ≤ L) (hvs : ∀ t, t < L → vs[t]? = some (.int (xv t))) (hJ : xJ b g) (nx : ∀ b2 g2 l2, xJ b2 g2 → xLw vs 1546 [(3, .int (nI i)), (2, .ref 73), (1, .ref 0), (0, .retAddr 0)] [] (xH b2 g2 l2)) : xLw vs 1359 [(3, .int (nI i)), (2, .ref 73), (1, .ref 0), (0, .retAddr 0)] [] (xH b g l) := by
  refine xLw.s1 rfl rfl ?_
  try dsimp only [Nat.reduceAdd]
  refine xLw.s1 rfl rfl ?_
  try dsimp only [Nat.reduceAdd]
  refine xLw.s1 rfl rfl ?_
  try dsimp only [Nat.reduceAdd]
  refine xLw.s1 rfl rfl ?_
  try dsimp only [Nat.reduceAdd, xi_1]
  refine xLw.s1 rfl rfl ?_
  try dsimp only [Nat.reduceAdd]
  rw [show (nI i + 1 : Int32) = nI (i + 1) from nI_add i 1]
  refine xLw.ial rfl (hvs (i + 1) (by omega)) (by omega) ?_
  try dsimp only [Nat.reduceAdd]
  refine xLw.s1 rfl rfl ?_
  try dsimp only [Nat.reduceAdd]
  refine xLw.s1 rfl rfl ?_
  try dsimp only [Nat.reduceAdd]
  refine xLw.s1 rfl rfl ?_
  try dsimp only [Nat.reduceAdd, xi_2]
  refine xLw.s1 rfl rfl ?_
  try dsimp only [Nat.reduceAdd]
  rw [show (nI i + 2 : Int32) = nI (i + 2) from nI_add i 2]
  refine xLw.ial rfl (hvs (i + 2) (by omega)) (by omega) ?_
  try dsimp only [Nat.reduceAdd]
  refine xLw.s1 rfl rfl ?_
  try dsimp only [Nat.reduceAdd]
  refine xLw.s1 rfl rfl ?_
  try dsimp only [Nat.reduceAdd]
  refine xLw.s1 rfl rfl ?_
  try dsimp only [Nat.reduceAdd, xi_3]
  refine xLw.s1 rfl rfl ?_
  try dsimp only [Nat.reduceAdd]
  rw [show (nI i + 3 : Int32) = nI (i + 3) from nI_add i 3]
  refine xLw.ial rfl (hvs (i + 3) (by omega)) (by omega) ?_
  try dsimp only [Nat.reduceAdd]
  refine xLw.cv rfl rfl rfl rfl rfl rfl ⟨by decide, rfl, rfl⟩ (j_mid hJ) (fun v1 M1 hv => ?_)
  obtain ⟨w, b1, g1, l1, rfl, rfl, hT2⟩ := hv
  try dsimp only [Nat.reduceAdd, Option.toList, List.cons_append, List.nil_append]
  refine xLw.s1 rfl rfl ?_
  try dsimp only [Nat.reduceAdd]
  refine xLw.s1 rfl rfl ?_
  try dsimp only [Nat.reduceAdd]
  refine xLw.s1 rfl rfl ?_
  try dsimp only [Nat.reduceAdd]
  refine xLw.s1 rfl rfl ?_
  try dsimp only [Nat.reduceAdd]
  refine xLw.s1 rfl rfl ?_
  try dsimp only [Nat.reduceAdd, xi_1]
  refine xLw.s1 rfl rfl ?_
  try dsimp only [Nat.reduceAdd]
  rw [show (nI i + 1 : Int32) = nI (i + 1) from nI_add i 1]
  refine xLw.ial rfl (hvs (i + 1) (by omega)) (by omega) ?_
  try dsimp only [Nat.reduceAdd]
  refine xLw.s1 rfl rfl ?_
  try dsimp only [Nat.reduceAdd]
  refine xLw.s1 rfl rfl ?_
  try dsimp only [Nat.reduceAdd]
  refine xLw.s1 rfl rfl ?_
  try dsimp only [Nat.reduceAdd, xi_2]
  refine xLw.s1 rfl rfl ?_
  try dsimp only [Nat.reduceAdd]
  rw [show (nI i + 2 : Int32) = nI (i + 2) from nI_add i 2]
  refine xLw.ial rfl (hvs (i + 2) (by omega)) (by omega) ?_
  try dsimp only [Nat.reduceAdd]
  refine xLw.s1 rfl rfl ?_
  try dsimp only [Nat.reduceAdd]
  refine xLw.s1 rfl rfl ?_
  try dsimp only [Nat.reduceAdd]
  refine xLw.s1 rfl rfl ?_
  try dsimp only [Nat.reduceAdd, xi_3]
  refine xLw.s1 rfl rfl ?_
  try dsimp only [Nat.reduceAdd]
  rw [show (nI i + 3 : Int32) = nI (i + 3) from nI_add i 3]
  refine xLw.ial rfl (hvs (i + 3) (by omega)) (by omega) ?_
  try dsimp only [Nat.reduceAdd]
  refine xLw.cv rfl rfl rfl rfl rfl rfl ⟨by decide, rfl, rfl⟩ hT2 (fun v1 M1 hv => ?_)
  obtain ⟨w2, b2, g2, l2, rfl, rfl, hJ2, heq⟩ := hv
  try dsimp only [Nat.reduceAdd, Option.toList, List.cons_append, List.nil_append]
  refine xLw.s1 rfl rfl ?_
  try dsimp only [Nat.reduceAdd]
  refine xLw.s1 rfl rfl ?_
  try dsimp only [Nat.reduceAdd]
  exact nx _ _ _ hJ2
set_option maxRecDepth 10000 in
theorem w_lots (hL : L ≤ 384) (hi : i + 6 ≤ L) (hvs : ∀ t, t < L → vs[t]? = some (.int (xv t))) (hJ : xJ b g) (nx : ∀ b2 g2 l2, xJ b2 g2 → xLw vs 1546 [(3, .int (nI i)), (2, .ref 73), (1, .ref 0), (0, .retAddr 0)] [] (xH b2 g2 l2)) : xLw vs 1402 [(3, .int (nI i)), (2, .ref 73), (1, .ref 0), (0, .retAddr 0)] [] (xH b g l) := by
  refine xLw.s1 rfl rfl ?_
  try dsimp only [Nat.reduceAdd]
  refine xLw.s1 rfl rfl ?_
  try dsimp only [Nat.reduceAdd]
  refine xLw.s1 rfl rfl ?_
  try dsimp only [Nat.reduceAdd]
  refine xLw.s1 rfl rfl ?_
  try dsimp only [Nat.reduceAdd, xi_1]
  refine xLw.s1 rfl rfl ?_
  try dsimp only [Nat.reduceAdd]
  rw [show (nI i + 1 : Int32) = nI (i + 1) from nI_add i 1]
  refine xLw.ial rfl (hvs (i + 1) (by omega)) (by omega) ?_
  try dsimp only [Nat.reduceAdd]
  refine xLw.s1 rfl rfl ?_
  try dsimp only [Nat.reduceAdd]
  refine xLw.s1 rfl rfl ?_
  try dsimp only [Nat.reduceAdd]
  refine xLw.s1 rfl rfl ?_
  try dsimp only [Nat.reduceAdd, xi_2]
  refine xLw.s1 rfl rfl ?_
  try dsimp only [Nat.reduceAdd]
  rw [show (nI i + 2 : Int32) = nI (i + 2) from nI_add i 2]
  refine xLw.ial rfl (hvs (i + 2) (by omega)) (by omega) ?_
  try dsimp only [Nat.reduceAdd]
  refine xLw.cv rfl rfl rfl rfl rfl rfl ⟨by decide, rfl, rfl⟩ (j_lots hJ) (fun v1 M1 hv => ?_)
  obtain ⟨w, b1, g1, l1, rfl, rfl, hT2⟩ := hv
  try dsimp only [Nat.reduceAdd, Option.toList, List.cons_append, List.nil_append]
  refine xLw.s1 rfl rfl ?_
  try dsimp only [Nat.reduceAdd]
  refine xLw.s1 rfl rfl ?_
  try dsimp only [Nat.reduceAdd]
  refine xLw.s1 rfl rfl ?_
  try dsimp only [Nat.reduceAdd]
  refine xLw.s1 rfl rfl ?_
  try dsimp only [Nat.reduceAdd]
  refine xLw.s1 rfl rfl ?_
  try dsimp only [Nat.reduceAdd, xi_1]
  refine xLw.s1 rfl rfl ?_
  try dsimp only [Nat.reduceAdd]
  rw [show (nI i + 1 : Int32) = nI (i + 1) from nI_add i 1]
  refine xLw.ial rfl (hvs (i + 1) (by omega)) (by omega) ?_
  try dsimp only [Nat.reduceAdd]
  refine xLw.s1 rfl rfl ?_
  try dsimp only [Nat.reduceAdd]
  refine xLw.s1 rfl rfl ?_
  try dsimp only [Nat.reduceAdd]
  refine xLw.s1 rfl rfl ?_
  try dsimp only [Nat.reduceAdd, xi_2]
  refine xLw.s1 rfl rfl ?_
  try dsimp only [Nat.reduceAdd]
  rw [show (nI i + 2 : Int32) = nI (i + 2) from nI_add i 2]
  refine xLw.ial rfl (hvs (i + 2) (by omega)) (by omega) ?_
  try dsimp only [Nat.reduceAdd]
  refine xLw.cv rfl rfl rfl rfl rfl rfl ⟨by decide, rfl, rfl⟩ hT2 (fun v1 M1 hv => ?_)
  obtain ⟨w2, b2, g2, l2, rfl, rfl, hJ2, heq⟩ := hv
  try dsimp only [Nat.reduceAdd, Option.toList, List.cons_append, List.nil_append]
  refine xLw.s1 rfl rfl ?_
  try dsimp only [Nat.reduceAdd]
  refine xLw.s1 rfl rfl ?_
  try dsimp only [Nat.reduceAdd]
  exact nx _ _ _ hJ2
set_option maxRecDepth 10000 in
theorem w_asked (hL : L ≤ 384) (hi : i + 6 ≤ L) (hvs : ∀ t, t < L → vs[t]? = some (.int (xv t))) (hJ : xJ b g) (nx : ∀ b2 g2 l2, xJ b2 g2 → xLw vs 1546 [(3, .int (nI i)), (2, .ref 73), (1, .ref 0), (0, .retAddr 0)] [] (xH b2 g2 l2)) : xLw vs 1435 [(3, .int (nI i)), (2, .ref 73), (1, .ref 0), (0, .retAddr 0)] [] (xH b g l) := by
  refine xLw.s1 rfl rfl ?_
  try dsimp only [Nat.reduceAdd]
  refine xLw.cv rfl rfl rfl rfl rfl rfl ⟨by decide, rfl, rfl⟩ (j_asked hJ) (fun v1 M1 hv => ?_)
  obtain ⟨w, b1, g1, l1, rfl, rfl, hT2⟩ := hv
  try dsimp only [Nat.reduceAdd, Option.toList, List.cons_append, List.nil_append]
  refine xLw.s1 rfl rfl ?_
  try dsimp only [Nat.reduceAdd]
  refine xLw.s1 rfl rfl ?_
  try dsimp only [Nat.reduceAdd]
  refine xLw.cv rfl rfl rfl rfl rfl rfl ⟨by decide, rfl, rfl⟩ hT2 (fun v1 M1 hv => ?_)
  obtain ⟨w2, b2, g2, l2, rfl, rfl, hJ2, heq⟩ := hv
  try dsimp only [Nat.reduceAdd, Option.toList, List.cons_append, List.nil_append]
  refine xLw.s1 rfl rfl ?_
  try dsimp only [Nat.reduceAdd]
  refine xLw.s1 rfl rfl ?_
  try dsimp only [Nat.reduceAdd]
  exact nx _ _ _ hJ2
set_option maxRecDepth 10000 in
theorem w_upper (hL : L ≤ 384) (hi : i + 6 ≤ L) (hvs : ∀ t, t < L → vs[t]? = some (.int (xv t))) (hJ : xJ b g) (nx : ∀ b2 g2 l2, xJ b2 g2 → xLw vs 1546 [(3, .int (nI i)), (2, .ref 73), (1, .ref 0), (0, .retAddr 0)] [] (xH b2 g2 l2)) : xLw vs 1448 [(3, .int (nI i)), (2, .ref 73), (1, .ref 0), (0, .retAddr 0)] [] (xH b g l) := by
  refine xLw.s1 rfl rfl ?_
  try dsimp only [Nat.reduceAdd]
  refine xLw.cv rfl rfl rfl rfl rfl rfl ⟨by decide, rfl, rfl⟩ (j_upper hJ) (fun v1 M1 hv => ?_)
  obtain ⟨w, b1, g1, l1, rfl, rfl, hT2⟩ := hv
  try dsimp only [Nat.reduceAdd, Option.toList, List.cons_append, List.nil_append]
  refine xLw.s1 rfl rfl ?_
  try dsimp only [Nat.reduceAdd]
  refine xLw.s1 rfl rfl ?_
  try dsimp only [Nat.reduceAdd]
  refine xLw.cv rfl rfl rfl rfl rfl rfl ⟨by decide, rfl, rfl⟩ hT2 (fun v1 M1 hv => ?_)
  obtain ⟨w2, b2, g2, l2, rfl, rfl, hJ2, heq⟩ := hv
  try dsimp only [Nat.reduceAdd, Option.toList, List.cons_append, List.nil_append]
  refine xLw.s1 rfl rfl ?_
  try dsimp only [Nat.reduceAdd]
  refine xLw.s1 rfl rfl ?_
  try dsimp only [Nat.reduceAdd]
  exact nx _ _ _ hJ2
set_option maxRecDepth 10000 in
theorem w_lower (hL : L ≤ 384) (hi : i + 6 ≤ L) (hvs : ∀ t, t < L → vs[t]? = some (.int (xv t))) (hJ : xJ b g) (nx : ∀ b2 g2 l2, xJ b2 g2 → xLw vs 1546 [(3, .int (nI i)), (2, .ref 73), (1, .ref 0), (0, .retAddr 0)] [] (xH b2 g2 l2)) : xLw vs 1461 [(3, .int (nI i)), (2, .ref 73), (1, .ref 0), (0, .retAddr 0)] [] (xH b g l) := by
  refine xLw.s1 rfl rfl ?_
  try dsimp only [Nat.reduceAdd]
  refine xLw.cv rfl rfl rfl rfl rfl rfl ⟨by decide, rfl, rfl⟩ (j_lower hJ) (fun v1 M1 hv => ?_)
  obtain ⟨w, b1, g1, l1, rfl, rfl, hT2⟩ := hv
  try dsimp only [Nat.reduceAdd, Option.toList, List.cons_append, List.nil_append]
  refine xLw.s1 rfl rfl ?_
  try dsimp only [Nat.reduceAdd]
  refine xLw.s1 rfl rfl ?_
  try dsimp only [Nat.reduceAdd]
  refine xLw.cv rfl rfl rfl rfl rfl rfl ⟨by decide, rfl, rfl⟩ hT2 (fun v1 M1 hv => ?_)
  obtain ⟨w2, b2, g2, l2, rfl, rfl, hJ2, heq⟩ := hv
  try dsimp only [Nat.reduceAdd, Option.toList, List.cons_append, List.nil_append]
  refine xLw.s1 rfl rfl ?_
  try dsimp only [Nat.reduceAdd]
  refine xLw.s1 rfl rfl ?_
  try dsimp only [Nat.reduceAdd]
  exact nx _ _ _ hJ2
set_option maxRecDepth 10000 in
theorem w_count (hL : L ≤ 384) (hi : i + 6 ≤ L) (hvs : ∀ t, t < L → vs[t]? = some (.int (xv t))) (hJ : xJ b g) (nx : ∀ b2 g2 l2, xJ b2 g2 → xLw vs 1546 [(3, .int (nI i)), (2, .ref 73), (1, .ref 0), (0, .retAddr 0)] [] (xH b2 g2 l2)) : xLw vs 1474 [(3, .int (nI i)), (2, .ref 73), (1, .ref 0), (0, .retAddr 0)] [] (xH b g l) := by
  refine xLw.s1 rfl rfl ?_
  try dsimp only [Nat.reduceAdd]
  refine xLw.s1 rfl rfl ?_
  try dsimp only [Nat.reduceAdd]
  refine xLw.s1 rfl rfl ?_
  try dsimp only [Nat.reduceAdd]
  refine xLw.s1 rfl rfl ?_
  try dsimp only [Nat.reduceAdd, xi_1]
  refine xLw.s1 rfl rfl ?_
  try dsimp only [Nat.reduceAdd]
  rw [show (nI i + 1 : Int32) = nI (i + 1) from nI_add i 1]
  refine xLw.ial rfl (hvs (i + 1) (by omega)) (by omega) ?_
  try dsimp only [Nat.reduceAdd]
  refine xLw.cv rfl rfl rfl rfl rfl rfl ⟨by decide, rfl, rfl⟩ (j_count hJ) (fun v1 M1 hv => ?_)
  obtain ⟨w, b1, g1, l1, rfl, rfl, hT2⟩ := hv
  try dsimp only [Nat.reduceAdd, Option.toList, List.cons_append, List.nil_append]
  refine xLw.s1 rfl rfl ?_
  try dsimp only [Nat.reduceAdd]
  refine xLw.s1 rfl rfl ?_
  try dsimp only [Nat.reduceAdd]
  refine xLw.s1 rfl rfl ?_
  try dsimp only [Nat.reduceAdd]
  refine xLw.s1 rfl rfl ?_
  try dsimp only [Nat.reduceAdd, xi_1]
  refine xLw.s1 rfl rfl ?_
  try dsimp only [Nat.reduceAdd]
  rw [show (nI i + 1 : Int32) = nI (i + 1) from nI_add i 1]
  refine xLw.ial rfl (hvs (i + 1) (by omega)) (by omega) ?_
  try dsimp only [Nat.reduceAdd]
  refine xLw.cv rfl rfl rfl rfl rfl rfl ⟨by decide, rfl, rfl⟩ hT2 (fun v1 M1 hv => ?_)
  obtain ⟨w2, b2, g2, l2, rfl, rfl, hJ2, heq⟩ := hv
  try dsimp only [Nat.reduceAdd, Option.toList, List.cons_append, List.nil_append]
  have eq : w = w2 := (heq trivial).symm
  refine xLw.br (c := .eq) (off := 54) (l0 := 3) rfl rfl (fun h => ?_) (fun h => ?_)
  · exact nx _ _ _ hJ2
  · exact absurd eq (xf_eq h)
set_option maxRecDepth 10000 in
theorem w_finding (hL : L ≤ 384) (hi : i + 6 ≤ L) (hvs : ∀ t, t < L → vs[t]? = some (.int (xv t))) (hJ : xJ b g) (nx : ∀ b2 g2 l2, xJ b2 g2 → xLw vs 1546 [(3, .int (nI i)), (2, .ref 73), (1, .ref 0), (0, .retAddr 0)] [] (xH b2 g2 l2)) : xLw vs 1497 [(3, .int (nI i)), (2, .ref 73), (1, .ref 0), (0, .retAddr 0)] [] (xH b g l) := by
  refine xLw.s1 rfl rfl ?_
  try dsimp only [Nat.reduceAdd]
  refine xLw.cv rfl rfl rfl rfl rfl rfl ⟨by decide, rfl, rfl⟩ (j_finding hJ) (fun v1 M1 hv => ?_)
  obtain ⟨w, b1, g1, l1, rfl, rfl, hT2⟩ := hv
  try dsimp only [Nat.reduceAdd, Option.toList, List.cons_append, List.nil_append]
  refine xLw.s1 rfl rfl ?_
  try dsimp only [Nat.reduceAdd]
  refine xLw.s1 rfl rfl ?_
  try dsimp only [Nat.reduceAdd]
  refine xLw.cv rfl rfl rfl rfl rfl rfl ⟨by decide, rfl, rfl⟩ hT2 (fun v1 M1 hv => ?_)
  obtain ⟨w2, b2, g2, l2, rfl, rfl, hJ2, heq⟩ := hv
  try dsimp only [Nat.reduceAdd, Option.toList, List.cons_append, List.nil_append]
  refine xLw.s1 rfl rfl ?_
  try dsimp only [Nat.reduceAdd]
  refine xLw.s1 rfl rfl ?_
  try dsimp only [Nat.reduceAdd]
  exact nx _ _ _ hJ2
set_option maxRecDepth 10000 in
theorem w_findings (hL : L ≤ 384) (hi : i + 6 ≤ L) (hvs : ∀ t, t < L → vs[t]? = some (.int (xv t))) (hJ : xJ b g) (nx : ∀ b2 g2 l2, xJ b2 g2 → xLw vs 1546 [(3, .int (nI i)), (2, .ref 73), (1, .ref 0), (0, .retAddr 0)] [] (xH b2 g2 l2)) : xLw vs 1510 [(3, .int (nI i)), (2, .ref 73), (1, .ref 0), (0, .retAddr 0)] [] (xH b g l) := by
  refine xLw.s1 rfl rfl ?_
  try dsimp only [Nat.reduceAdd]
  refine xLw.s1 rfl rfl ?_
  try dsimp only [Nat.reduceAdd]
  refine xLw.s1 rfl rfl ?_
  try dsimp only [Nat.reduceAdd]
  refine xLw.s1 rfl rfl ?_
  try dsimp only [Nat.reduceAdd, xi_1]
  refine xLw.s1 rfl rfl ?_
  try dsimp only [Nat.reduceAdd]
  rw [show (nI i + 1 : Int32) = nI (i + 1) from nI_add i 1]
  refine xLw.ial rfl (hvs (i + 1) (by omega)) (by omega) ?_
  try dsimp only [Nat.reduceAdd]
  refine xLw.cv rfl rfl rfl rfl rfl rfl ⟨by decide, rfl, rfl⟩ (j_findings hJ) (fun v1 M1 hv => ?_)
  obtain ⟨w, b1, g1, l1, rfl, rfl, hT2⟩ := hv
  try dsimp only [Nat.reduceAdd, Option.toList, List.cons_append, List.nil_append]
  refine xLw.s1 rfl rfl ?_
  try dsimp only [Nat.reduceAdd]
  refine xLw.s1 rfl rfl ?_
  try dsimp only [Nat.reduceAdd]
  refine xLw.s1 rfl rfl ?_
  try dsimp only [Nat.reduceAdd]
  refine xLw.s1 rfl rfl ?_
  try dsimp only [Nat.reduceAdd]
  refine xLw.s1 rfl rfl ?_
  try dsimp only [Nat.reduceAdd, xi_1]
  refine xLw.s1 rfl rfl ?_
  try dsimp only [Nat.reduceAdd]
  rw [show (nI i + 1 : Int32) = nI (i + 1) from nI_add i 1]
  refine xLw.ial rfl (hvs (i + 1) (by omega)) (by omega) ?_
  try dsimp only [Nat.reduceAdd]
  refine xLw.cv rfl rfl rfl rfl rfl rfl ⟨by decide, rfl, rfl⟩ hT2 (fun v1 M1 hv => ?_)
  obtain ⟨w2, b2, g2, l2, rfl, rfl, hJ2, heq⟩ := hv
  try dsimp only [Nat.reduceAdd, Option.toList, List.cons_append, List.nil_append]
  refine xLw.s1 rfl rfl ?_
  try dsimp only [Nat.reduceAdd]
  refine xLw.s1 rfl rfl ?_
  try dsimp only [Nat.reduceAdd]
  exact nx _ _ _ hJ2
set_option maxRecDepth 10000 in
theorem w_digest (hL : L ≤ 384) (hi : i + 6 ≤ L) (hvs : ∀ t, t < L → vs[t]? = some (.int (xv t))) (hJ : xJ b g) (nx : ∀ b2 g2 l2, xJ b2 g2 → xLw vs 1546 [(3, .int (nI i)), (2, .ref 73), (1, .ref 0), (0, .retAddr 0)] [] (xH b2 g2 l2)) : xLw vs 1533 [(3, .int (nI i)), (2, .ref 73), (1, .ref 0), (0, .retAddr 0)] [] (xH b g l) := by
  refine xLw.s1 rfl rfl ?_
  try dsimp only [Nat.reduceAdd]
  refine xLw.cv rfl rfl rfl rfl rfl rfl ⟨by decide, rfl, rfl⟩ (j_digest hJ) (fun v1 M1 hv => ?_)
  obtain ⟨w, b1, g1, l1, rfl, rfl, hT2⟩ := hv
  try dsimp only [Nat.reduceAdd, Option.toList, List.cons_append, List.nil_append]
  refine xLw.s1 rfl rfl ?_
  try dsimp only [Nat.reduceAdd]
  refine xLw.s1 rfl rfl ?_
  try dsimp only [Nat.reduceAdd]
  refine xLw.cv rfl rfl rfl rfl rfl rfl ⟨by decide, rfl, rfl⟩ hT2 (fun v1 M1 hv => ?_)
  obtain ⟨w2, b2, g2, l2, rfl, rfl, hJ2, heq⟩ := hv
  try dsimp only [Nat.reduceAdd, Option.toList, List.cons_append, List.nil_append]
  refine xLw.s1 rfl rfl ?_
  try dsimp only [Nat.reduceAdd]
  refine xLw.s1 rfl rfl ?_
  try dsimp only [Nat.reduceAdd]
  exact nx _ _ _ hJ2
end
