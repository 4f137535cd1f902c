/-! LimpMirrorModel: deeds, copies, rows taken out -/
theorem xdec (a : Nat) : nI a + (-1) = nI a - 1 := by rw [Int32.sub_eq_add_neg]
theorem xdown {m j : Nat} (h : j < m) : nI (m - j) - 1 = nI (m - j - 1) := by
  obtain ⟨q, hq⟩ : ∃ q, m - j = q + 1 := ⟨m - j - 1, by omega⟩
  rw [hq]
  exact nI_pred q
theorem xdown0 {m j : Nat} (h : j ≤ m) (hm : m < 2 ^ 31) : nI (m - j) - 1 < 0 ↔ m = j := by
  by_cases c : m = j
  · refine ⟨fun _ => c, fun _ => ?_⟩
    rw [c, Nat.sub_self]
    decide
  · refine ⟨fun z => ?_, fun z => absurd z c⟩
    rw [xdown (by omega)] at z
    exact absurd z (nI_pos (by omega))
def xdn1 (p : Nat → Bool) (m j : Nat) : Option Nat := Nat.rec (motive := fun _ => Option Nat) none (fun j o => bif p (m - j - 1) then some (m - j - 1) else o) j
theorem xdn1_s (p : Nat → Bool) (m j : Nat) : xdn1 p m (j + 1) = bif p (m - j - 1) then some (m - j - 1) else xdn1 p m j := rfl
def xcd (p : Nat → Bool) (m j : Nat) : Nat := Nat.rec (motive := fun _ => Nat) 0 (fun j c => bif p (m - j - 1) then c + 1 else c) j
theorem xcd_s (p : Nat → Bool) (m j : Nat) : xcd p m (j + 1) = bif p (m - j - 1) then xcd p m j + 1 else xcd p m j := rfl
theorem xdn1_spec (p : Nat → Bool) (m : Nat) : ∀ j, j ≤ m → ((xdn1 p m j = none → ∀ i, m - j ≤ i → i < m → p i = false) ∧ (∀ d, xdn1 p m j = some d → m - j ≤ d ∧ d < m ∧ p d = true ∧ ∀ i, m - j ≤ i → i < d → p i = false)) := by
  intro j
  induction j with
  | zero => exact fun _ => ⟨fun _ i h1 h2 => absurd h2 (by omega), fun d h => by cases h⟩
  | succ j ih =>
    intro hj
    obtain ⟨i1, i2⟩ := ih (by omega)
    rw [xdn1_s]
    cases hp : p (m - j - 1) with
    | true =>
      refine ⟨fun h => (by cases h), fun d h => ?_⟩
      cases h
      exact ⟨by omega, by omega, hp, fun i h1 h2 => absurd h2 (by omega)⟩
    | false =>
      refine ⟨fun h i h1 h2 => ?_, fun d h => ?_⟩
      · by_cases e : i = m - j - 1
        · rw [e]; exact hp
        · exact i1 h i (by omega) h2
      · obtain ⟨q1, q2, q3, q4⟩ := i2 d h
        refine ⟨by omega, q2, q3, fun i h1 h2 => ?_⟩
        by_cases e : i = m - j - 1
        · rw [e]; exact hp
        · exact q4 i (by omega) h2
theorem xdn1_m (p : Nat → Bool) (m : Nat) : xdn1 p m m = xfst p m := by
  obtain ⟨i1, i2⟩ := xdn1_spec p m m (Nat.le_refl m)
  cases e : xdn1 p m m with
  | none => exact (xfst_none.mpr (fun i hi => i1 e i (by omega) hi)).symm
  | some d =>
    obtain ⟨q1, q2, q3, q4⟩ := i2 d e
    exact (xfst_at (xfst_none.mpr (fun i hi => q4 i (by omega) hi)) q3 q2).symm
theorem xcd_e (p : Nat → Bool) (m : Nat) : ∀ j, j ≤ m → xcnt p m = xcnt p (m - j) + xcd p m j := by
  intro j
  induction j with
  | zero => exact fun _ => rfl
  | succ j ih =>
    intro hj
    rw [ih (by omega), xcd_s]
    obtain ⟨q, hq⟩ : ∃ q, m - j = q + 1 := ⟨m - j - 1, by omega⟩
    rw [show m - (j + 1) = q by omega, show m - j - 1 = q by omega, hq, xcnt_s]
    cases p q <;> simp only [cond_true, cond_false] <;> omega
theorem xcd_m (p : Nat → Bool) (m : Nat) : xcd p m m = xcnt p m := by
  rw [xcd_e p m m (Nat.le_refl m), Nat.sub_self, xcnt_0, Nat.zero_add]
theorem xcd_le (p : Nat → Bool) (m : Nat) : ∀ j, xcd p m j ≤ j
  | 0 => Nat.le_refl 0
  | j + 1 => by
    have := xcd_le p m j
    rw [xcd_s]
    cases p (m - j - 1) <;> simp only [cond_true, cond_false] <;> omega
theorem gseg_un {g : Nat → Nat → Int32} {a o n a' i : Nat} {S : Nat → Int32} {v : Int32} (h : a' ≠ a) : up (gseg g a o n S) a' i v = gseg (up g a' i v) a o n S := by
  funext x y
  unfold up gseg
  by_cases e1 : x = a' ∧ y = i
  · rw [if_pos e1, if_neg (fun z => h (by rw [← e1.1, z.1]))]
    exact (if_pos e1).symm
  · rw [if_neg e1]
    by_cases e2 : x = a ∧ o ≤ y ∧ y < o + n
    · rw [if_pos e2, if_pos e2]
    · rw [if_neg e2, if_neg e2]
      exact (if_neg e1).symm
theorem gset_un {g : Nat → Nat → Int32} {a n a' i : Nat} {S : Nat → Int32} {v : Int32} (h : a' ≠ a) : up (gset g a n S) a' i v = gset (up g a' i v) a n S := by
  funext x y
  unfold up gset
  by_cases e1 : x = a' ∧ y = i
  · rw [if_pos e1, if_neg (fun z => h (by rw [← e1.1, z.1]))]
    exact (if_pos e1).symm
  · rw [if_neg e1]
    by_cases e2 : x = a ∧ y < n
    · rw [if_pos e2, if_pos e2]
    · rw [if_neg e2, if_neg e2]
      exact (if_neg e1).symm

section
variable {k a c n n2 m t p s d i1 j1 : Nat} {b : Nat × Nat} {g : Nat → Nat → Int32} {l : Nat → Nat → Int64} {i j x y z v w : Int32} {u w1 w2 : Int64}
variable {L G T e1 q1 κ δ : Nat} {Lw f : Nat → Nat} {h tx F4 Rw Rw2 : Nat → Int32}
set_option maxRecDepth 10000 in
theorem c_X12_habit_bad (hx : ¬ (0 ≤ x ∧ x < 6)) : xT (k + 3) 189 [.ref 73, .int x] (xH b g l) (fun r M' => M' = xH b g l ∧ r = some (.int (-1))) := by
  refine xT.of rfl (Nat.le_of_ble_eq_true rfl) ?_
  change xS _ _ 0 [(0, .ref 73), (1, .int x)] [] _ _
  refine xS.s1 rfl rfl ?_
  try dsimp only [Nat.reduceAdd]
  -- 1 yX12_isStep
  refine xS.callS rfl rfl rfl ⟨Nat.le_of_ble_eq_true rfl, rfl⟩ c_X12_isStep (fun v M1 hv => ?_)
  rw [hv.1, hv.2]
  clear hv M1 v
  try dsimp only [Nat.reduceAdd, Option.toList, List.cons_append, List.nil_append, List.drop]
  refine xS.br0 (c := .eq) (off := 12) (l := 3) rfl rfl (fun h4 => ?_) (fun h4 => ?_)
  · have g4 := xt_eq h4
    refine xS.s1 rfl rfl ?_
    try dsimp only [Nat.reduceAdd, xi_m1]
    refine xS.ret rfl rfl rfl (fun _ _ => rfl) ?_
    exact ⟨rfl, rfl⟩
  · have g4 := xf_eq h4
    exact absurd (xif1 g4) hx

set_option maxRecDepth 10000 in
theorem c_X12_habit_ok (hR : xRr g h tx G T Lw) (ht : t < 6) : xT (k + 3) 189 [.ref 73, .int (nI t)] (xH b g l) (fun r M' => M' = xH b g l ∧ r = some (.int (h t))) := by
  refine xT.of rfl (Nat.le_of_ble_eq_true rfl) ?_
  change xS _ _ 0 [(0, .ref 73), (1, .int (nI t))] [] _ _
  refine xS.s1 rfl rfl ?_
  try dsimp only [Nat.reduceAdd]
  -- 1 yX12_isStep
  refine xS.callS rfl rfl rfl ⟨Nat.le_of_ble_eq_true rfl, rfl⟩ (c_X12_isStep_in ht) (fun v M1 hv => ?_)
  rw [hv.1, hv.2]
  clear hv M1 v
  try dsimp only [Nat.reduceAdd, Option.toList, List.cons_append, List.nil_append, List.drop]
  refine xS.br0 (c := .eq) (off := 12) (l := 3) rfl rfl (fun h4 => ?_) (fun h4 => ?_)
  · have g4 := xt_eq h4
    exfalso; first | exact absurd g4 (by decide) | (simp (disch := omega) only [Int32.lt_iff_toInt_lt, Int32.le_iff_toInt_le, nI_toInt, Int32.reduceToInt] at g4 <;> omega)
  · have g4 := xf_eq h4
    refine xS.s1 rfl rfl ?_
    try dsimp only [Nat.reduceAdd]
    refine xS.gR rfl rfl rfl ⟨by decide, rfl⟩ rfl ?_
    try dsimp only [Nat.reduceAdd]
    refine xS.s1 rfl rfl ?_
    try dsimp only [Nat.reduceAdd]
    refine xS.ia rfl xar_81 (by omega) ?_
    try dsimp only [Nat.reduceAdd]
    refine xS.s1 rfl rfl ?_
    try dsimp only [Nat.reduceAdd]
    refine xS.ret rfl rfl rfl (fun _ _ => rfl) ?_
    rw [(hR.2.2.2.1 t ht).1]
    exact ⟨rfl, rfl⟩

set_option maxRecDepth 10000 in
theorem c_X12_term_bad (hR : xRr g h tx G T Lw) (hx : ¬ ((0 ≤ x ∧ x < nI T) ∧ 0 ≤ y ∧ y ≤ 1)) : xT (k + 2) 190 [.ref 73, .int x, .int y] (xH b g l) (fun r M' => M' = xH b g l ∧ r = some (.int (-1))) := by
  refine xT.of rfl (Nat.le_of_ble_eq_true rfl) ?_
  change xS _ _ 0 [(0, .ref 73), (1, .int x), (2, .int y)] [] _ _
  refine xS.s1 rfl rfl ?_
  try dsimp only [Nat.reduceAdd]
  refine xS.s1 rfl rfl ?_
  try dsimp only [Nat.reduceAdd, xi_0]
  refine xS.s1 rfl rfl ?_
  try dsimp only [Nat.reduceAdd]
  refine xS.gI rfl rfl rfl ⟨by decide, rfl⟩ rfl ?_
  try dsimp only [Nat.reduceAdd]
  rw [hR.2.1.1]
  refine xS.s1 rfl rfl ?_
  try dsimp only [Nat.reduceAdd, xi_1]
  refine xS.s1 rfl rfl ?_
  try dsimp only [Nat.reduceAdd]
  -- 8 yX12_in
  refine xS.callS rfl rfl rfl ⟨Nat.le_of_ble_eq_true rfl, rfl⟩ (c_in_m (by have := hR.2.1.2; omega)) (fun v M1 hv => ?_)
  rw [hv.1, hv.2]
  clear hv M1 v
  try dsimp only [Nat.reduceAdd, Option.toList, List.cons_append, List.nil_append, List.drop]
  refine xS.br0 (c := .eq) (off := 25) (l := 3) rfl rfl (fun h11 => ?_) (fun h11 => ?_)
  · have g11 := xt_eq h11
    refine xS.s1 rfl rfl ?_
    try dsimp only [Nat.reduceAdd, xi_m1]
    refine xS.ret rfl rfl rfl (fun _ _ => rfl) ?_
    exact ⟨rfl, rfl⟩
  · have g11 := xf_eq h11
    refine xS.s1 rfl rfl ?_
    try dsimp only [Nat.reduceAdd]
    refine xS.s1 rfl rfl ?_
    try dsimp only [Nat.reduceAdd, xi_0]
    refine xS.s1 rfl rfl ?_
    try dsimp only [Nat.reduceAdd, xi_1]
    -- 17 yX12_in
    refine xS.callS rfl rfl rfl ⟨Nat.le_of_ble_eq_true rfl, rfl⟩ c_in_x (fun v M1 hv => ?_)
    rw [hv.1, hv.2]
    clear hv M1 v
    try dsimp only [Nat.reduceAdd, Option.toList, List.cons_append, List.nil_append, List.drop]
    refine xS.br0 (c := .eq) (off := 16) (l := 3) rfl rfl (fun h20 => ?_) (fun h20 => ?_)
    · have g20 := xt_eq h20
      refine xS.s1 rfl rfl ?_
      try dsimp only [Nat.reduceAdd, xi_m1]
      refine xS.ret rfl rfl rfl (fun _ _ => rfl) ?_
      exact ⟨rfl, rfl⟩
    · have g20 := xf_eq h20
      exact absurd ⟨xif1 g11, xif1 g20⟩ hx

set_option maxRecDepth 10000 in
theorem c_X12_term_ok (hR : xRr g h tx G T Lw) (hd : d < T) (ht : t < 2) : xT (k + 2) 190 [.ref 73, .int (nI d), .int (nI t)] (xH b g l) (fun r M' => M' = xH b g l ∧ r = some (.int (tx (2 * d + t)))) := by
  have h8 := hR.2.1.2
  refine xT.of rfl (Nat.le_of_ble_eq_true rfl) ?_
  change xS _ _ 0 [(0, .ref 73), (1, .int (nI d)), (2, .int (nI t))] [] _ _
  refine xS.s1 rfl rfl ?_
  try dsimp only [Nat.reduceAdd]
  refine xS.s1 rfl rfl ?_
  try dsimp only [Nat.reduceAdd, xi_0]
  refine xS.s1 rfl rfl ?_
  try dsimp only [Nat.reduceAdd]
  refine xS.gI rfl rfl rfl ⟨by decide, rfl⟩ rfl ?_
  try dsimp only [Nat.reduceAdd]
  rw [hR.2.1.1]
  refine xS.s1 rfl rfl ?_
  try dsimp only [Nat.reduceAdd, xi_1]
  refine xS.s1 rfl rfl ?_
  try dsimp only [Nat.reduceAdd]
  -- 8 yX12_in
  refine xS.callS rfl rfl rfl ⟨Nat.le_of_ble_eq_true rfl, rfl⟩ (c_in_m1 (by omega) hd) (fun v M1 hv => ?_)
  rw [hv.1, hv.2]
  clear hv M1 v
  try dsimp only [Nat.reduceAdd, Option.toList, List.cons_append, List.nil_append, List.drop]
  refine xS.br0 (c := .eq) (off := 25) (l := 3) rfl rfl (fun h11 => ?_) (fun h11 => ?_)
  · have g11 := xt_eq h11
    exfalso; first | exact absurd g11 (by decide) | (simp (disch := omega) only [Int32.lt_iff_toInt_lt, Int32.le_iff_toInt_le, nI_toInt, Int32.reduceToInt] at g11 <;> omega)
  · have g11 := xf_eq h11
    refine xS.s1 rfl rfl ?_
    try dsimp only [Nat.reduceAdd]
    refine xS.s1 rfl rfl ?_
    try dsimp only [Nat.reduceAdd, xi_0]
    refine xS.s1 rfl rfl ?_
    try dsimp only [Nat.reduceAdd, xi_1]
    -- 17 yX12_in
    refine xS.callS rfl rfl rfl ⟨Nat.le_of_ble_eq_true rfl, rfl⟩ (c_in_n1 (s := 0) (m := 1) (by omega) (by omega) (by decide)) (fun v M1 hv => ?_)
    rw [hv.1, hv.2]
    clear hv M1 v
    try dsimp only [Nat.reduceAdd, Option.toList, List.cons_append, List.nil_append, List.drop]
    refine xS.br0 (c := .eq) (off := 16) (l := 3) rfl rfl (fun h20 => ?_) (fun h20 => ?_)
    · have g20 := xt_eq h20
      exfalso; first | exact absurd g20 (by decide) | (simp (disch := omega) only [Int32.lt_iff_toInt_lt, Int32.le_iff_toInt_le, nI_toInt, Int32.reduceToInt] at g20 <;> omega)
    · have g20 := xf_eq h20
      refine xS.s1 rfl rfl ?_
      try dsimp only [Nat.reduceAdd]
      refine xS.gR rfl rfl rfl ⟨by decide, rfl⟩ rfl ?_
      try dsimp only [Nat.reduceAdd]
      refine xS.s1 rfl rfl ?_
      try dsimp only [Nat.reduceAdd, xi_2]
      refine xS.s1 rfl rfl ?_
      try dsimp only [Nat.reduceAdd]
      refine xS.s1 rfl rfl ?_
      try dsimp only [Nat.reduceAdd]
      refine xS.s1 rfl rfl ?_
      try dsimp only [Nat.reduceAdd]
      refine xS.s1 rfl rfl ?_
      try dsimp only [Nat.reduceAdd]
      rw [show (((2 * nI d) + nI t) : Int32) = nI ((2 * d) + t) from by simp only [← nI_add, ← pk_mul]; rfl]
      refine xS.ia rfl xar_83 (by omega) ?_
      try dsimp only [Nat.reduceAdd]
      refine xS.s1 rfl rfl ?_
      try dsimp only [Nat.reduceAdd]
      refine xS.ret rfl rfl rfl (fun _ _ => rfl) ?_
      rw [hR.2.2.2.2 _ (by omega)]
      exact ⟨rfl, rfl⟩

set_option maxRecDepth 10000 in
theorem c_X12_shownOf_g (hR : xRr g h tx G T Lw) (hd : d < 40) (hk : t < G) (h85 : g 85 d = nI t) (hf : ∀ u, u ≤ d → g 84 u = nI (f u) ∧ f u < 6) : xT (k + 4) 184 [.ref 73, .int (nI d)] (xH b g l) (fun r M' => M' = xH b g l ∧ r = some (.int (xshw h (Lw t / 4) (Lw t % 4) f d))) := by
  refine xT.of rfl (Nat.le_of_ble_eq_true rfl) ?_
  change xS _ _ 0 [(0, .ref 73), (1, .int (nI d))] [] _ _
  refine xS.s1 rfl rfl ?_
  try dsimp only [Nat.reduceAdd]
  refine xS.s1 rfl rfl ?_
  try dsimp only [Nat.reduceAdd]
  refine xS.gR rfl rfl rfl ⟨by decide, rfl⟩ rfl ?_
  try dsimp only [Nat.reduceAdd]
  refine xS.s1 rfl rfl ?_
  try dsimp only [Nat.reduceAdd]
  refine xS.ia rfl xar_85 (by omega) ?_
  try dsimp only [Nat.reduceAdd]
  rw [h85]
  refine xS.s1 rfl rfl ?_
  try dsimp only [Nat.reduceAdd]
  refine xS.gR rfl rfl rfl ⟨by decide, rfl⟩ rfl ?_
  try dsimp only [Nat.reduceAdd]
  refine xS.s1 rfl rfl ?_
  try dsimp only [Nat.reduceAdd]
  -- 12 yX12_showsOf
  refine xS.cv rfl rfl rfl rfl rfl rfl ⟨by decide, rfl, rfl⟩ (c_X12_showsOf xar_84 hR hd hk hf) (fun v M1 hv => ?_)
  rw [hv.1, hv.2]
  clear hv M1 v
  try dsimp only [Nat.reduceAdd, Option.toList, List.cons_append, List.nil_append, List.drop]
  refine xS.ret rfl rfl rfl (fun _ _ => rfl) ?_
  exact ⟨rfl, rfl⟩

theorem xDr_do {g : Nat → Nat → Int32} {h tx F4 : Nat → Int32} {T G m s t : Nat} {Lw : Nat → Nat} (hD : xDr g h tx T G Lw F4 m) (hs : s < 6) : ∀ u, u ≤ m → (up (up (up g 84 m (nI s)) 85 m (nI t)) 73 14 (nI (m + 1))) 84 u = nI ((fun i => if i = m then s else xN (F4 (4 * i))) u) ∧ (fun i => if i = m then s else xN (F4 (4 * i))) u < 6 := by
  intro u hu
  dsimp only
  by_cases e : u = m
  · rw [if_pos e, up_na (by decide), up_na (by decide), e, up_same]
    exact ⟨rfl, hs⟩
  · rw [if_neg e, up_na (by decide), up_na (by decide), up_ne (Or.inr e)]
    exact xDr_84 hD u (by omega)

set_option maxRecDepth 10000 in
theorem c_X12_doStep (hR : xRr g h tx G T Lw) (hs : g 73 14 = nI m) (hm : m < 40) (hD : xDr g h tx T G Lw F4 m) (hk : t < G) (hs6 : s < 6) : xT (k + 5) 191 [.ref 73, .int (nI t), .int (nI s)] (xH b g l) (fun r M' => M' = xH b (up (up (up g 84 m (nI s)) 85 m (nI t)) 73 14 (nI (m + 1))) l ∧ r = some (.int (xshw h (Lw t / 4) (Lw t % 4) (fun i => if i = m then s else xN (F4 (4 * i))) m))) := by
  refine xT.of rfl (Nat.le_of_ble_eq_true rfl) ?_
  change xS _ _ 0 [(0, .ref 73), (1, .int (nI t)), (2, .int (nI s))] [] _ _
  refine xS.s1 rfl rfl ?_
  try dsimp only [Nat.reduceAdd]
  refine xS.gR rfl rfl rfl ⟨by decide, rfl⟩ rfl ?_
  try dsimp only [Nat.reduceAdd]
  refine xS.s1 rfl rfl ?_
  try dsimp only [Nat.reduceAdd]
  refine xS.gI rfl rfl rfl ⟨by decide, rfl⟩ rfl ?_
  try dsimp only [Nat.reduceAdd]
  rw [hs]
  refine xS.s1 rfl rfl ?_
  try dsimp only [Nat.reduceAdd]
  refine xS.ias rfl xar_84 (by omega) ?_
  try dsimp only [Nat.reduceAdd]
  refine xS.s1 rfl rfl ?_
  try dsimp only [Nat.reduceAdd]
  refine xS.gR rfl rfl rfl ⟨by decide, rfl⟩ rfl ?_
  try dsimp only [Nat.reduceAdd]
  refine xS.s1 rfl rfl ?_
  try dsimp only [Nat.reduceAdd]
  refine xS.gI rfl rfl rfl ⟨by decide, rfl⟩ rfl ?_
  try dsimp only [Nat.reduceAdd]
  rw [up_na (by decide), hs]
  refine xS.s1 rfl rfl ?_
  try dsimp only [Nat.reduceAdd]
  refine xS.ias rfl xar_85 (by omega) ?_
  try dsimp only [Nat.reduceAdd]
  refine xS.s1 rfl rfl ?_
  try dsimp only [Nat.reduceAdd]
  refine xS.s1 rfl rfl ?_
  try dsimp only [Nat.reduceAdd]
  refine xS.gI rfl rfl rfl ⟨by decide, rfl⟩ rfl ?_
  try dsimp only [Nat.reduceAdd]
  rw [up_na (by decide), up_na (by decide), hs]
  refine xS.s1 rfl rfl ?_
  try dsimp only [Nat.reduceAdd, xi_1]
  refine xS.s1 rfl rfl ?_
  try dsimp only [Nat.reduceAdd]
  rw [nI_1]
  refine xS.pI rfl rfl rfl ⟨⟨by decide, rfl⟩, rfl, by decide, by decide⟩ rfl ?_
  try dsimp only [Nat.reduceAdd]
  refine xS.s1 rfl rfl ?_
  try dsimp only [Nat.reduceAdd]
  refine xS.s1 rfl rfl ?_
  try dsimp only [Nat.reduceAdd]
  refine xS.gI rfl rfl rfl ⟨by decide, rfl⟩ rfl ?_
  try dsimp only [Nat.reduceAdd]
  rw [up_same]
  refine xS.s1 rfl rfl ?_
  try dsimp only [Nat.reduceAdd, xi_1]
  refine xS.s1 rfl rfl ?_
  try dsimp only [Nat.reduceAdd]
  rw [nI_pred]
  -- 37 yX12_shownOf
  refine xS.cv rfl rfl rfl rfl rfl rfl ⟨by decide, rfl, rfl⟩ (c_X12_shownOf_g (xRr_fr (by rw [up_ne (Or.inr (by decide)), up_na (by decide), up_na (by decide)]) (by rw [up_ne (Or.inr (by decide)), up_na (by decide), up_na (by decide)]) (by rw [up_na (by decide), up_na (by decide), up_na (by decide)]) (by rw [up_na (by decide), up_na (by decide), up_na (by decide)]) (by rw [up_na (by decide), up_na (by decide), up_na (by decide)]) hR) hm hk (by rw [up_na (by decide), up_same]) (xDr_do hD hs6)) (fun v M1 hv => ?_)
  rw [hv.1, hv.2]
  clear hv M1 v
  try dsimp only [Nat.reduceAdd, Option.toList, List.cons_append, List.nil_append, List.drop]
  refine xS.ret rfl rfl rfl (fun _ _ => rfl) ?_
  exact ⟨rfl, rfl⟩

set_option maxRecDepth 10000 in
theorem c_X12_step_bad (hR : xRr g h tx G T Lw) (hx : ¬ ((0 ≤ x ∧ x < nI G) ∧ 0 ≤ y ∧ y < 6)) : xT (k + 6) 192 [.ref 73, .int x, .int y] (xH b g l) (fun r M' => M' = xH b g l ∧ r = some (.int (-1))) := by
  refine xT.of rfl (Nat.le_of_ble_eq_true rfl) ?_
  change xS _ _ 0 [(0, .ref 73), (1, .int x), (2, .int y)] [] _ _
  refine xS.s1 rfl rfl ?_
  try dsimp only [Nat.reduceAdd]
  refine xS.s1 rfl rfl ?_
  try dsimp only [Nat.reduceAdd]
  -- 2 yX12_isGlass
  refine xS.cv rfl rfl rfl rfl rfl rfl ⟨by decide, rfl, rfl⟩ (c_X12_isGlass hR.1.1 hR.1.2) (fun v M1 hv => ?_)
  rw [hv.1, hv.2]
  clear hv M1 v
  try dsimp only [Nat.reduceAdd, Option.toList, List.cons_append, List.nil_append, List.drop]
  refine xS.br0 (c := .eq) (off := 10) (l := 3) rfl rfl (fun h5 => ?_) (fun h5 => ?_)
  · have g5 := xt_eq h5
    refine xS.s1 rfl rfl ?_
    try dsimp only [Nat.reduceAdd, xi_m1]
    refine xS.ret rfl rfl rfl (fun _ _ => rfl) ?_
    exact ⟨rfl, rfl⟩
  · have g5 := xf_eq h5
    refine xS.s1 rfl rfl ?_
    try dsimp only [Nat.reduceAdd]
    -- 9 yX12_isStep
    refine xS.callS rfl rfl rfl ⟨Nat.le_of_ble_eq_true rfl, rfl⟩ c_X12_isStep (fun v M1 hv => ?_)
    rw [hv.1, hv.2]
    clear hv M1 v
    try dsimp only [Nat.reduceAdd, Option.toList, List.cons_append, List.nil_append, List.drop]
    refine xS.br0 (c := .ne) (off := 5) (l := 3) rfl rfl (fun h12 => ?_) (fun h12 => ?_)
    · have g12 := xt_ne h12
      exact absurd ⟨xif1 g5, xif1 g12⟩ hx
    · have g12 := xf_ne h12
      refine xS.s1 rfl rfl ?_
      try dsimp only [Nat.reduceAdd, xi_m1]
      refine xS.ret rfl rfl rfl (fun _ _ => rfl) ?_
      exact ⟨rfl, rfl⟩

set_option maxRecDepth 10000 in
theorem c_X12_step_full (hR : xRr g h tx G T Lw) (hs : g 73 14 = nI 40) (hk : t < G) (hs6 : s < 6) : xT (k + 6) 192 [.ref 73, .int (nI t), .int (nI s)] (xH b g l) (fun r M' => M' = xH b g l ∧ r = some (.int (-2))) := by
  refine xT.of rfl (Nat.le_of_ble_eq_true rfl) ?_
  change xS _ _ 0 [(0, .ref 73), (1, .int (nI t)), (2, .int (nI s))] [] _ _
  refine xS.s1 rfl rfl ?_
  try dsimp only [Nat.reduceAdd]
  refine xS.s1 rfl rfl ?_
  try dsimp only [Nat.reduceAdd]
  -- 2 yX12_isGlass
  refine xS.cv rfl rfl rfl rfl rfl rfl ⟨by decide, rfl, rfl⟩ (c_X12_isGlass_in hR.1.1 hR.1.2 hk) (fun v M1 hv => ?_)
  rw [hv.1, hv.2]
  clear hv M1 v
  try dsimp only [Nat.reduceAdd, Option.toList, List.cons_append, List.nil_append, List.drop]
  refine xS.br0 (c := .eq) (off := 10) (l := 3) rfl rfl (fun h5 => ?_) (fun h5 => ?_)
  · have g5 := xt_eq h5
    exfalso; first | exact absurd g5 (by decide) | (simp (disch := omega) only [Int32.lt_iff_toInt_lt, Int32.le_iff_toInt_le, nI_toInt, Int32.reduceToInt] at g5 <;> omega)
  · have g5 := xf_eq h5
    refine xS.s1 rfl rfl ?_
    try dsimp only [Nat.reduceAdd]
    -- 9 yX12_isStep
    refine xS.callS rfl rfl rfl ⟨Nat.le_of_ble_eq_true rfl, rfl⟩ (c_X12_isStep_in hs6) (fun v M1 hv => ?_)
    rw [hv.1, hv.2]
    clear hv M1 v
    try dsimp only [Nat.reduceAdd, Option.toList, List.cons_append, List.nil_append, List.drop]
    refine xS.br0 (c := .ne) (off := 5) (l := 3) rfl rfl (fun h12 => ?_) (fun h12 => ?_)
    · have g12 := xt_ne h12
      refine xS.s1 rfl rfl ?_
      try dsimp only [Nat.reduceAdd]
      refine xS.gI rfl rfl rfl ⟨by decide, rfl⟩ rfl ?_
      try dsimp only [Nat.reduceAdd]
      refine xS.s1 rfl rfl ?_
      try dsimp only [Nat.reduceAdd, xj_40]
      refine xS.br (c := .ne) (off := 8) (l := 3) rfl rfl (fun h23 => ?_) (fun h23 => ?_)
      · have g23 := xt_ne h23
        exfalso; rw [hs] at g23; exact g23 rfl
      · have g23 := xf_ne h23
        refine xS.s1 rfl rfl ?_
        try dsimp only [Nat.reduceAdd, xj_m2]
        refine xS.s1 rfl rfl ?_
        try dsimp only [Nat.reduceAdd]
        refine xS.ret rfl rfl rfl (fun _ _ => rfl) ?_
        exact ⟨rfl, rfl⟩
    · have g12 := xf_ne h12
      exfalso; first | exact absurd g12 (by decide) | (simp (disch := omega) only [Int32.lt_iff_toInt_lt, Int32.le_iff_toInt_le, nI_toInt, Int32.reduceToInt] at g12 <;> omega)

set_option maxRecDepth 10000 in
theorem c_X12_step_ok (hR : xRr g h tx G T Lw) (hs : g 73 14 = nI m) (hm : m < 40) (hD : xDr g h tx T G Lw F4 m) (hk : t < G) (hs6 : s < 6) : xT (k + 6) 192 [.ref 73, .int (nI t), .int (nI s)] (xH b g l) (fun r M' => M' = xH b (up (up (up g 84 m (nI s)) 85 m (nI t)) 73 14 (nI (m + 1))) l ∧ r = some (.int (xshw h (Lw t / 4) (Lw t % 4) (fun i => if i = m then s else xN (F4 (4 * i))) m))) := by
  refine xT.of rfl (Nat.le_of_ble_eq_true rfl) ?_
  change xS _ _ 0 [(0, .ref 73), (1, .int (nI t)), (2, .int (nI s))] [] _ _
  refine xS.s1 rfl rfl ?_
  try dsimp only [Nat.reduceAdd]
  refine xS.s1 rfl rfl ?_
  try dsimp only [Nat.reduceAdd]
  -- 2 yX12_isGlass
  refine xS.cv rfl rfl rfl rfl rfl rfl ⟨by decide, rfl, rfl⟩ (c_X12_isGlass_in hR.1.1 hR.1.2 hk) (fun v M1 hv => ?_)
  rw [hv.1, hv.2]
  clear hv M1 v
  try dsimp only [Nat.reduceAdd, Option.toList, List.cons_append, List.nil_append, List.drop]
  refine xS.br0 (c := .eq) (off := 10) (l := 3) rfl rfl (fun h5 => ?_) (fun h5 => ?_)
  · have g5 := xt_eq h5
    exfalso; first | exact absurd g5 (by decide) | (simp (disch := omega) only [Int32.lt_iff_toInt_lt, Int32.le_iff_toInt_le, nI_toInt, Int32.reduceToInt] at g5 <;> omega)
  · have g5 := xf_eq h5
    refine xS.s1 rfl rfl ?_
    try dsimp only [Nat.reduceAdd]
    -- 9 yX12_isStep
    refine xS.callS rfl rfl rfl ⟨Nat.le_of_ble_eq_true rfl, rfl⟩ (c_X12_isStep_in hs6) (fun v M1 hv => ?_)
    rw [hv.1, hv.2]
    clear hv M1 v
    try dsimp only [Nat.reduceAdd, Option.toList, List.cons_append, List.nil_append, List.drop]
    refine xS.br0 (c := .ne) (off := 5) (l := 3) rfl rfl (fun h12 => ?_) (fun h12 => ?_)
    · have g12 := xt_ne h12
      refine xS.s1 rfl rfl ?_
      try dsimp only [Nat.reduceAdd]
      refine xS.gI rfl rfl rfl ⟨by decide, rfl⟩ rfl ?_
      try dsimp only [Nat.reduceAdd]
      refine xS.s1 rfl rfl ?_
      try dsimp only [Nat.reduceAdd, xj_40]
      refine xS.br (c := .ne) (off := 8) (l := 3) rfl rfl (fun h23 => ?_) (fun h23 => ?_)
      · have g23 := xt_ne h23
        refine xS.s1 rfl rfl ?_
        try dsimp only [Nat.reduceAdd]
        refine xS.s1 rfl rfl ?_
        try dsimp only [Nat.reduceAdd]
        refine xS.s1 rfl rfl ?_
        try dsimp only [Nat.reduceAdd]
        -- 34 yX12_doStep
        refine xS.cv rfl rfl rfl rfl rfl rfl ⟨by decide, rfl, rfl⟩ (c_X12_doStep hR hs hm hD hk hs6) (fun v M1 hv => ?_)
        rw [hv.1, hv.2]
        clear hv M1 v
        try dsimp only [Nat.reduceAdd, Option.toList, List.cons_append, List.nil_append, List.drop]
        refine xS.ret rfl rfl rfl (fun _ _ => rfl) ?_
        exact ⟨rfl, rfl⟩
      · have g23 := xf_ne h23
        exfalso; rw [hs] at g23; have := (nI_eq (b := 40) (by omega) (by omega)).mp g23; omega
    · have g12 := xf_ne h12
      exfalso; first | exact absurd g12 (by decide) | (simp (disch := omega) only [Int32.lt_iff_toInt_lt, Int32.le_iff_toInt_le, nI_toInt, Int32.reduceToInt] at g12 <;> omega)

set_option maxRecDepth 10000 in
theorem c_X12_deed_bad (hs : g 73 14 = nI m) (hm : m ≤ 40) (hx : ¬ ((0 ≤ x ∧ x < nI m) ∧ 0 ≤ y ∧ y ≤ 3)) : xT (k + 6) 193 [.ref 73, .int x, .int y] (xH b g l) (fun r M' => M' = xH b g l ∧ r = some (.int (-1))) := by
  refine xT.of rfl (Nat.le_of_ble_eq_true rfl) ?_
  change xS _ _ 0 [(0, .ref 73), (1, .int x), (2, .int y)] [] _ _
  refine xS.s1 rfl rfl ?_
  try dsimp only [Nat.reduceAdd]
  refine xS.s1 rfl rfl ?_
  try dsimp only [Nat.reduceAdd, xi_0]
  refine xS.s1 rfl rfl ?_
  try dsimp only [Nat.reduceAdd]
  refine xS.gI rfl rfl rfl ⟨by decide, rfl⟩ rfl ?_
  try dsimp only [Nat.reduceAdd]
  rw [hs]
  refine xS.s1 rfl rfl ?_
  try dsimp only [Nat.reduceAdd, xi_1]
  refine xS.s1 rfl rfl ?_
  try dsimp only [Nat.reduceAdd]
  -- 8 yX12_in
  refine xS.callS rfl rfl rfl ⟨Nat.le_of_ble_eq_true rfl, rfl⟩ (c_in_m (by omega)) (fun v M1 hv => ?_)
  rw [hv.1, hv.2]
  clear hv M1 v
  try dsimp only [Nat.reduceAdd, Option.toList, List.cons_append, List.nil_append, List.drop]
  refine xS.br0 (c := .eq) (off := 12) (l := 3) rfl rfl (fun h11 => ?_) (fun h11 => ?_)
  · have g11 := xt_eq h11
    refine xS.s1 rfl rfl ?_
    try dsimp only [Nat.reduceAdd, xi_m1]
    refine xS.ret rfl rfl rfl (fun _ _ => rfl) ?_
    exact ⟨rfl, rfl⟩
  · have g11 := xf_eq h11
    refine xS.s1 rfl rfl ?_
    try dsimp only [Nat.reduceAdd]
    refine xS.s1 rfl rfl ?_
    try dsimp only [Nat.reduceAdd, xi_0]
    refine xS.s1 rfl rfl ?_
    try dsimp only [Nat.reduceAdd, xi_3]
    -- 17 yX12_in
    refine xS.callS rfl rfl rfl ⟨Nat.le_of_ble_eq_true rfl, rfl⟩ c_in_x (fun v M1 hv => ?_)
    rw [hv.1, hv.2]
    clear hv M1 v
    try dsimp only [Nat.reduceAdd, Option.toList, List.cons_append, List.nil_append, List.drop]
    refine xS.br0 (c := .ne) (off := 5) (l := 3) rfl rfl (fun h20 => ?_) (fun h20 => ?_)
    · have g20 := xt_ne h20
      exact absurd ⟨xif1 g11, xif1 g20⟩ hx
    · have g20 := xf_ne h20
      refine xS.s1 rfl rfl ?_
      try dsimp only [Nat.reduceAdd, xi_m1]
      refine xS.ret rfl rfl rfl (fun _ _ => rfl) ?_
      exact ⟨rfl, rfl⟩

set_option maxRecDepth 10000 in
theorem c_X12_deed_0 (hR : xRr g h tx G T Lw) (hD : xDr g h tx T G Lw F4 m) (hm : m ≤ 40) (hs : g 73 14 = nI m) (hd : d < m) : xT (k + 6) 193 [.ref 73, .int (nI d), .int (nI 0)] (xH b g l) (fun r M' => M' = xH b (up g 73 20 (F4 (4 * d + 0))) l ∧ r = some (.int 1)) := by
  obtain ⟨s9, k9, r1, r2, r3, r4, r5, r6, r7, r8⟩ := hD d hd
  refine xT.of rfl (Nat.le_of_ble_eq_true rfl) ?_
  change xS _ _ 0 [(0, .ref 73), (1, .int (nI d)), (2, .int (nI 0))] [] _ _
  refine xS.s1 rfl rfl ?_
  try dsimp only [Nat.reduceAdd]
  refine xS.s1 rfl rfl ?_
  try dsimp only [Nat.reduceAdd, xi_0]
  refine xS.s1 rfl rfl ?_
  try dsimp only [Nat.reduceAdd]
  refine xS.gI rfl rfl rfl ⟨by decide, rfl⟩ rfl ?_
  try dsimp only [Nat.reduceAdd]
  rw [hs]
  refine xS.s1 rfl rfl ?_
  try dsimp only [Nat.reduceAdd, xi_1]
  refine xS.s1 rfl rfl ?_
  try dsimp only [Nat.reduceAdd]
  -- 8 yX12_in
  refine xS.callS rfl rfl rfl ⟨Nat.le_of_ble_eq_true rfl, rfl⟩ (c_in_m1 (by omega) hd) (fun v M1 hv => ?_)
  rw [hv.1, hv.2]
  clear hv M1 v
  try dsimp only [Nat.reduceAdd, Option.toList, List.cons_append, List.nil_append, List.drop]
  refine xS.br0 (c := .eq) (off := 12) (l := 3) rfl rfl (fun h11 => ?_) (fun h11 => ?_)
  · have g11 := xt_eq h11
    exfalso; first | exact absurd g11 (by decide) | (simp (disch := omega) only [Int32.lt_iff_toInt_lt, Int32.le_iff_toInt_le, nI_toInt, Int32.reduceToInt] at g11 <;> omega)
  · have g11 := xf_eq h11
    refine xS.s1 rfl rfl ?_
    try dsimp only [Nat.reduceAdd]
    refine xS.s1 rfl rfl ?_
    try dsimp only [Nat.reduceAdd, xi_0]
    refine xS.s1 rfl rfl ?_
    try dsimp only [Nat.reduceAdd, xi_3]
    -- 17 yX12_in
    refine xS.callS rfl rfl rfl ⟨Nat.le_of_ble_eq_true rfl, rfl⟩ (c_in_n1 (t := 0) (s := 0) (m := 3) (by decide) (by decide) (by decide)) (fun v M1 hv => ?_)
    rw [hv.1, hv.2]
    clear hv M1 v
    try dsimp only [Nat.reduceAdd, Option.toList, List.cons_append, List.nil_append, List.drop]
    refine xS.br0 (c := .ne) (off := 5) (l := 3) rfl rfl (fun h20 => ?_) (fun h20 => ?_)
    · have g20 := xt_ne h20
      refine xS.s1 rfl rfl ?_
      try dsimp only [Nat.reduceAdd]
      refine xS.s1 rfl rfl ?_
      try dsimp only [Nat.reduceAdd]
      refine xS.br0 (c := .ne) (off := 12) (l := 3) rfl rfl (fun h27 => ?_) (fun h27 => ?_)
      · have g27 := xt_ne h27
        exfalso; first | exact absurd g27 (by decide) | (simp (disch := omega) only [Int32.lt_iff_toInt_lt, Int32.le_iff_toInt_le, nI_toInt, Int32.reduceToInt] at g27 <;> omega)
      · have g27 := xf_ne h27
        refine xS.s1 rfl rfl ?_
        try dsimp only [Nat.reduceAdd]
        refine xS.gR rfl rfl rfl ⟨by decide, rfl⟩ rfl ?_
        try dsimp only [Nat.reduceAdd]
        refine xS.s1 rfl rfl ?_
        try dsimp only [Nat.reduceAdd]
        refine xS.ia rfl xar_84 (by omega) ?_
        try dsimp only [Nat.reduceAdd]
        rw [r7, ← r3]
        refine xS.s1 rfl rfl ?_
        try dsimp only [Nat.reduceAdd]
        -- 71 yX12_tells
        refine xS.cv rfl rfl rfl rfl rfl rfl ⟨by decide, rfl, rfl⟩ c_X12_tells (fun v M1 hv => ?_)
        rw [hv.1, hv.2]
        clear hv M1 v
        try dsimp only [Nat.reduceAdd, Option.toList, List.cons_append, List.nil_append, List.drop]
        refine xS.ret rfl rfl rfl (fun _ _ => rfl) ?_
        exact ⟨rfl, rfl⟩
    · have g20 := xf_ne h20
      exfalso; first | exact absurd g20 (by decide) | (simp (disch := omega) only [Int32.lt_iff_toInt_lt, Int32.le_iff_toInt_le, nI_toInt, Int32.reduceToInt] at g20 <;> omega)

set_option maxRecDepth 10000 in
theorem c_X12_deed_1 (hR : xRr g h tx G T Lw) (hD : xDr g h tx T G Lw F4 m) (hm : m ≤ 40) (hs : g 73 14 = nI m) (hd : d < m) : xT (k + 6) 193 [.ref 73, .int (nI d), .int (nI 1)] (xH b g l) (fun r M' => M' = xH b (up g 73 20 (F4 (4 * d + 1))) l ∧ r = some (.int 1)) := by
  obtain ⟨s9, k9, r1, r2, r3, r4, r5, r6, r7, r8⟩ := hD d hd
  refine xT.of rfl (Nat.le_of_ble_eq_true rfl) ?_
  change xS _ _ 0 [(0, .ref 73), (1, .int (nI d)), (2, .int (nI 1))] [] _ _
  refine xS.s1 rfl rfl ?_
  try dsimp only [Nat.reduceAdd]
  refine xS.s1 rfl rfl ?_
  try dsimp only [Nat.reduceAdd, xi_0]
  refine xS.s1 rfl rfl ?_
  try dsimp only [Nat.reduceAdd]
  refine xS.gI rfl rfl rfl ⟨by decide, rfl⟩ rfl ?_
  try dsimp only [Nat.reduceAdd]
  rw [hs]
  refine xS.s1 rfl rfl ?_
  try dsimp only [Nat.reduceAdd, xi_1]
  refine xS.s1 rfl rfl ?_
  try dsimp only [Nat.reduceAdd]
  -- 8 yX12_in
  refine xS.callS rfl rfl rfl ⟨Nat.le_of_ble_eq_true rfl, rfl⟩ (c_in_m1 (by omega) hd) (fun v M1 hv => ?_)
  rw [hv.1, hv.2]
  clear hv M1 v
  try dsimp only [Nat.reduceAdd, Option.toList, List.cons_append, List.nil_append, List.drop]
  refine xS.br0 (c := .eq) (off := 12) (l := 3) rfl rfl (fun h11 => ?_) (fun h11 => ?_)
  · have g11 := xt_eq h11
    exfalso; first | exact absurd g11 (by decide) | (simp (disch := omega) only [Int32.lt_iff_toInt_lt, Int32.le_iff_toInt_le, nI_toInt, Int32.reduceToInt] at g11 <;> omega)
  · have g11 := xf_eq h11
    refine xS.s1 rfl rfl ?_
    try dsimp only [Nat.reduceAdd]
    refine xS.s1 rfl rfl ?_
    try dsimp only [Nat.reduceAdd, xi_0]
    refine xS.s1 rfl rfl ?_
    try dsimp only [Nat.reduceAdd, xi_3]
    -- 17 yX12_in
    refine xS.callS rfl rfl rfl ⟨Nat.le_of_ble_eq_true rfl, rfl⟩ (c_in_n1 (t := 1) (s := 0) (m := 3) (by decide) (by decide) (by decide)) (fun v M1 hv => ?_)
    rw [hv.1, hv.2]
    clear hv M1 v
    try dsimp only [Nat.reduceAdd, Option.toList, List.cons_append, List.nil_append, List.drop]
    refine xS.br0 (c := .ne) (off := 5) (l := 3) rfl rfl (fun h20 => ?_) (fun h20 => ?_)
    · have g20 := xt_ne h20
      refine xS.s1 rfl rfl ?_
      try dsimp only [Nat.reduceAdd]
      refine xS.s1 rfl rfl ?_
      try dsimp only [Nat.reduceAdd]
      refine xS.br0 (c := .ne) (off := 12) (l := 3) rfl rfl (fun h27 => ?_) (fun h27 => ?_)
      · have g27 := xt_ne h27
        refine xS.s1 rfl rfl ?_
        try dsimp only [Nat.reduceAdd]
        refine xS.s1 rfl rfl ?_
        try dsimp only [Nat.reduceAdd, xi_1]
        refine xS.br (c := .ne) (off := 12) (l := 3) rfl rfl (fun h41 => ?_) (fun h41 => ?_)
        · have g41 := xt_ne h41
          exfalso; first | exact absurd g41 (by decide) | (simp (disch := omega) only [Int32.lt_iff_toInt_lt, Int32.le_iff_toInt_le, nI_toInt, Int32.reduceToInt] at g41 <;> omega)
        · have g41 := xf_ne h41
          refine xS.s1 rfl rfl ?_
          try dsimp only [Nat.reduceAdd]
          refine xS.gR rfl rfl rfl ⟨by decide, rfl⟩ rfl ?_
          try dsimp only [Nat.reduceAdd]
          refine xS.s1 rfl rfl ?_
          try dsimp only [Nat.reduceAdd]
          refine xS.ia rfl xar_85 (by omega) ?_
          try dsimp only [Nat.reduceAdd]
          rw [r8, ← r4]
          refine xS.s1 rfl rfl ?_
          try dsimp only [Nat.reduceAdd]
          -- 71 yX12_tells
          refine xS.cv rfl rfl rfl rfl rfl rfl ⟨by decide, rfl, rfl⟩ c_X12_tells (fun v M1 hv => ?_)
          rw [hv.1, hv.2]
          clear hv M1 v
          try dsimp only [Nat.reduceAdd, Option.toList, List.cons_append, List.nil_append, List.drop]
          refine xS.ret rfl rfl rfl (fun _ _ => rfl) ?_
          exact ⟨rfl, rfl⟩
      · have g27 := xf_ne h27
        exfalso; first | exact absurd g27 (by decide) | (simp (disch := omega) only [Int32.lt_iff_toInt_lt, Int32.le_iff_toInt_le, nI_toInt, Int32.reduceToInt] at g27 <;> omega)
    · have g20 := xf_ne h20
      exfalso; first | exact absurd g20 (by decide) | (simp (disch := omega) only [Int32.lt_iff_toInt_lt, Int32.le_iff_toInt_le, nI_toInt, Int32.reduceToInt] at g20 <;> omega)

set_option maxRecDepth 10000 in
theorem c_X12_deed_2 (hR : xRr g h tx G T Lw) (hD : xDr g h tx T G Lw F4 m) (hm : m ≤ 40) (hs : g 73 14 = nI m) (hd : d < m) : xT (k + 6) 193 [.ref 73, .int (nI d), .int (nI 2)] (xH b g l) (fun r M' => M' = xH b (up g 73 20 (F4 (4 * d + 2))) l ∧ r = some (.int 1)) := by
  obtain ⟨s9, k9, r1, r2, r3, r4, r5, r6, r7, r8⟩ := hD d hd
  refine xT.of rfl (Nat.le_of_ble_eq_true rfl) ?_
  change xS _ _ 0 [(0, .ref 73), (1, .int (nI d)), (2, .int (nI 2))] [] _ _
  refine xS.s1 rfl rfl ?_
  try dsimp only [Nat.reduceAdd]
  refine xS.s1 rfl rfl ?_
  try dsimp only [Nat.reduceAdd, xi_0]
  refine xS.s1 rfl rfl ?_
  try dsimp only [Nat.reduceAdd]
  refine xS.gI rfl rfl rfl ⟨by decide, rfl⟩ rfl ?_
  try dsimp only [Nat.reduceAdd]
  rw [hs]
  refine xS.s1 rfl rfl ?_
  try dsimp only [Nat.reduceAdd, xi_1]
  refine xS.s1 rfl rfl ?_
  try dsimp only [Nat.reduceAdd]
  -- 8 yX12_in
  refine xS.callS rfl rfl rfl ⟨Nat.le_of_ble_eq_true rfl, rfl⟩ (c_in_m1 (by omega) hd) (fun v M1 hv => ?_)
  rw [hv.1, hv.2]
  clear hv M1 v
  try dsimp only [Nat.reduceAdd, Option.toList, List.cons_append, List.nil_append, List.drop]
  refine xS.br0 (c := .eq) (off := 12) (l := 3) rfl rfl (fun h11 => ?_) (fun h11 => ?_)
  · have g11 := xt_eq h11
    exfalso; first | exact absurd g11 (by decide) | (simp (disch := omega) only [Int32.lt_iff_toInt_lt, Int32.le_iff_toInt_le, nI_toInt, Int32.reduceToInt] at g11 <;> omega)
  · have g11 := xf_eq h11
    refine xS.s1 rfl rfl ?_
    try dsimp only [Nat.reduceAdd]
    refine xS.s1 rfl rfl ?_
    try dsimp only [Nat.reduceAdd, xi_0]
    refine xS.s1 rfl rfl ?_
    try dsimp only [Nat.reduceAdd, xi_3]
    -- 17 yX12_in
    refine xS.callS rfl rfl rfl ⟨Nat.le_of_ble_eq_true rfl, rfl⟩ (c_in_n1 (t := 2) (s := 0) (m := 3) (by decide) (by decide) (by decide)) (fun v M1 hv => ?_)
    rw [hv.1, hv.2]
    clear hv M1 v
    try dsimp only [Nat.reduceAdd, Option.toList, List.cons_append, List.nil_append, List.drop]
    refine xS.br0 (c := .ne) (off := 5) (l := 3) rfl rfl (fun h20 => ?_) (fun h20 => ?_)
    · have g20 := xt_ne h20
      refine xS.s1 rfl rfl ?_
      try dsimp only [Nat.reduceAdd]
      refine xS.s1 rfl rfl ?_
      try dsimp only [Nat.reduceAdd]
      refine xS.br0 (c := .ne) (off := 12) (l := 3) rfl rfl (fun h27 => ?_) (fun h27 => ?_)
      · have g27 := xt_ne h27
        refine xS.s1 rfl rfl ?_
        try dsimp only [Nat.reduceAdd]
        refine xS.s1 rfl rfl ?_
        try dsimp only [Nat.reduceAdd, xi_1]
        refine xS.br (c := .ne) (off := 12) (l := 3) rfl rfl (fun h41 => ?_) (fun h41 => ?_)
        · have g41 := xt_ne h41
          refine xS.s1 rfl rfl ?_
          try dsimp only [Nat.reduceAdd]
          refine xS.s1 rfl rfl ?_
          try dsimp only [Nat.reduceAdd, xi_2]
          refine xS.br (c := .ne) (off := 11) (l := 3) rfl rfl (fun h55 => ?_) (fun h55 => ?_)
          · have g55 := xt_ne h55
            exfalso; first | exact absurd g55 (by decide) | (simp (disch := omega) only [Int32.lt_iff_toInt_lt, Int32.le_iff_toInt_le, nI_toInt, Int32.reduceToInt] at g55 <;> omega)
          · have g55 := xf_ne h55
            refine xS.s1 rfl rfl ?_
            try dsimp only [Nat.reduceAdd]
            refine xS.s1 rfl rfl ?_
            try dsimp only [Nat.reduceAdd]
            -- 60 yX12_shownOf
            refine xS.cv rfl rfl rfl rfl rfl rfl ⟨by decide, rfl, rfl⟩ (c_X12_shownOf hR hD hm hd) (fun v M1 hv => ?_)
            rw [hv.1, hv.2]
            clear hv M1 v
            try dsimp only [Nat.reduceAdd, Option.toList, List.cons_append, List.nil_append, List.drop]
            refine xS.s1 rfl rfl ?_
            try dsimp only [Nat.reduceAdd]
            -- 71 yX12_tells
            refine xS.cv rfl rfl rfl rfl rfl rfl ⟨by decide, rfl, rfl⟩ c_X12_tells (fun v M1 hv => ?_)
            rw [hv.1, hv.2]
            clear hv M1 v
            try dsimp only [Nat.reduceAdd, Option.toList, List.cons_append, List.nil_append, List.drop]
            refine xS.ret rfl rfl rfl (fun _ _ => rfl) ?_
            exact ⟨rfl, rfl⟩
        · have g41 := xf_ne h41
          exfalso; first | exact absurd g41 (by decide) | (simp (disch := omega) only [Int32.lt_iff_toInt_lt, Int32.le_iff_toInt_le, nI_toInt, Int32.reduceToInt] at g41 <;> omega)
      · have g27 := xf_ne h27
        exfalso; first | exact absurd g27 (by decide) | (simp (disch := omega) only [Int32.lt_iff_toInt_lt, Int32.le_iff_toInt_le, nI_toInt, Int32.reduceToInt] at g27 <;> omega)
    · have g20 := xf_ne h20
      exfalso; first | exact absurd g20 (by decide) | (simp (disch := omega) only [Int32.lt_iff_toInt_lt, Int32.le_iff_toInt_le, nI_toInt, Int32.reduceToInt] at g20 <;> omega)

set_option maxRecDepth 10000 in
theorem c_X12_deed_3 (hR : xRr g h tx G T Lw) (hD : xDr g h tx T G Lw F4 m) (hm : m ≤ 40) (hs : g 73 14 = nI m) (hd : d < m) : xT (k + 6) 193 [.ref 73, .int (nI d), .int (nI 3)] (xH b g l) (fun r M' => M' = xH b (up g 73 20 (F4 (4 * d + 3))) l ∧ r = some (.int 1)) := by
  obtain ⟨s9, k9, r1, r2, r3, r4, r5, r6, r7, r8⟩ := hD d hd
  refine xT.of rfl (Nat.le_of_ble_eq_true rfl) ?_
  change xS _ _ 0 [(0, .ref 73), (1, .int (nI d)), (2, .int (nI 3))] [] _ _
  refine xS.s1 rfl rfl ?_
  try dsimp only [Nat.reduceAdd]
  refine xS.s1 rfl rfl ?_
  try dsimp only [Nat.reduceAdd, xi_0]
  refine xS.s1 rfl rfl ?_
  try dsimp only [Nat.reduceAdd]
  refine xS.gI rfl rfl rfl ⟨by decide, rfl⟩ rfl ?_
  try dsimp only [Nat.reduceAdd]
  rw [hs]
  refine xS.s1 rfl rfl ?_
  try dsimp only [Nat.reduceAdd, xi_1]
  refine xS.s1 rfl rfl ?_
  try dsimp only [Nat.reduceAdd]
  -- 8 yX12_in
  refine xS.callS rfl rfl rfl ⟨Nat.le_of_ble_eq_true rfl, rfl⟩ (c_in_m1 (by omega) hd) (fun v M1 hv => ?_)
  rw [hv.1, hv.2]
  clear hv M1 v
  try dsimp only [Nat.reduceAdd, Option.toList, List.cons_append, List.nil_append, List.drop]
  refine xS.br0 (c := .eq) (off := 12) (l := 3) rfl rfl (fun h11 => ?_) (fun h11 => ?_)
  · have g11 := xt_eq h11
    exfalso; first | exact absurd g11 (by decide) | (simp (disch := omega) only [Int32.lt_iff_toInt_lt, Int32.le_iff_toInt_le, nI_toInt, Int32.reduceToInt] at g11 <;> omega)
  · have g11 := xf_eq h11
    refine xS.s1 rfl rfl ?_
    try dsimp only [Nat.reduceAdd]
    refine xS.s1 rfl rfl ?_
    try dsimp only [Nat.reduceAdd, xi_0]
    refine xS.s1 rfl rfl ?_
    try dsimp only [Nat.reduceAdd, xi_3]
    -- 17 yX12_in
    refine xS.callS rfl rfl rfl ⟨Nat.le_of_ble_eq_true rfl, rfl⟩ (c_in_n1 (t := 3) (s := 0) (m := 3) (by decide) (by decide) (by decide)) (fun v M1 hv => ?_)
    rw [hv.1, hv.2]
    clear hv M1 v
    try dsimp only [Nat.reduceAdd, Option.toList, List.cons_append, List.nil_append, List.drop]
    refine xS.br0 (c := .ne) (off := 5) (l := 3) rfl rfl (fun h20 => ?_) (fun h20 => ?_)
    · have g20 := xt_ne h20
      refine xS.s1 rfl rfl ?_
      try dsimp only [Nat.reduceAdd]
      refine xS.s1 rfl rfl ?_
      try dsimp only [Nat.reduceAdd]
      refine xS.br0 (c := .ne) (off := 12) (l := 3) rfl rfl (fun h27 => ?_) (fun h27 => ?_)
      · have g27 := xt_ne h27
        refine xS.s1 rfl rfl ?_
        try dsimp only [Nat.reduceAdd]
        refine xS.s1 rfl rfl ?_
        try dsimp only [Nat.reduceAdd, xi_1]
        refine xS.br (c := .ne) (off := 12) (l := 3) rfl rfl (fun h41 => ?_) (fun h41 => ?_)
        · have g41 := xt_ne h41
          refine xS.s1 rfl rfl ?_
          try dsimp only [Nat.reduceAdd]
          refine xS.s1 rfl rfl ?_
          try dsimp only [Nat.reduceAdd, xi_2]
          refine xS.br (c := .ne) (off := 11) (l := 3) rfl rfl (fun h55 => ?_) (fun h55 => ?_)
          · have g55 := xt_ne h55
            refine xS.s1 rfl rfl ?_
            try dsimp only [Nat.reduceAdd]
            refine xS.s1 rfl rfl ?_
            try dsimp only [Nat.reduceAdd]
            -- 68 yX12_brokenBy
            refine xS.cv rfl rfl rfl rfl rfl rfl ⟨by decide, rfl, rfl⟩ (c_X12_brokenBy hR hD hm hd) (fun v M1 hv => ?_)
            rw [hv.1, hv.2]
            clear hv M1 v
            try dsimp only [Nat.reduceAdd, Option.toList, List.cons_append, List.nil_append, List.drop]
            -- 71 yX12_tells
            refine xS.cv rfl rfl rfl rfl rfl rfl ⟨by decide, rfl, rfl⟩ c_X12_tells (fun v M1 hv => ?_)
            rw [hv.1, hv.2]
            clear hv M1 v
            try dsimp only [Nat.reduceAdd, Option.toList, List.cons_append, List.nil_append, List.drop]
            refine xS.ret rfl rfl rfl (fun _ _ => rfl) ?_
            exact ⟨rfl, rfl⟩
          · have g55 := xf_ne h55
            exfalso; first | exact absurd g55 (by decide) | (simp (disch := omega) only [Int32.lt_iff_toInt_lt, Int32.le_iff_toInt_le, nI_toInt, Int32.reduceToInt] at g55 <;> omega)
        · have g41 := xf_ne h41
          exfalso; first | exact absurd g41 (by decide) | (simp (disch := omega) only [Int32.lt_iff_toInt_lt, Int32.le_iff_toInt_le, nI_toInt, Int32.reduceToInt] at g41 <;> omega)
      · have g27 := xf_ne h27
        exfalso; first | exact absurd g27 (by decide) | (simp (disch := omega) only [Int32.lt_iff_toInt_lt, Int32.le_iff_toInt_le, nI_toInt, Int32.reduceToInt] at g27 <;> omega)
    · have g20 := xf_ne h20
      exfalso; first | exact absurd g20 (by decide) | (simp (disch := omega) only [Int32.lt_iff_toInt_lt, Int32.le_iff_toInt_le, nI_toInt, Int32.reduceToInt] at g20 <;> omega)

set_option maxRecDepth 10000 in
theorem c_X12_brokenMany (hR : xRr g h tx G T Lw) (hD : xDr g h tx T G Lw F4 m) (hm : m ≤ 40) (hs : g 73 14 = nI m) : xT (k + 6) 194 [.ref 73] (xH b g l) (fun r M' => M' = xH b g l ∧ r = some (.int (nI (xcnt (fun d => !decide (F4 (4 * d + 3) = -9)) m)))) := by
  refine xT.of rfl (Nat.le_of_ble_eq_true rfl) ?_
  change xS _ _ 0 [(0, .ref 73)] [] _ _
  refine xS.s1 rfl rfl ?_
  try dsimp only [Nat.reduceAdd, xi_0]
  refine xS.s1 rfl rfl ?_
  try dsimp only [Nat.reduceAdd]
  refine xS.s1 rfl rfl ?_
  try dsimp only [Nat.reduceAdd, xi_0]
  refine xS.s1 rfl rfl ?_
  try dsimp only [Nat.reduceAdd]
  refine xS.pick [0, 1, 2] rfl ?_
  refine xS.loop (σ := Unit) (m) (fun j S => [(2, .int (nI j)), (1, .int (nI (xcnt (fun d => !decide (F4 (4 * d + 3) = -9)) j))), (0, .ref 73)]) (fun _ _ => xH b g l) (fun _ _ => True) (()) (rfl) (rfl) (trivial) ?_
  intro j S hj hI ih
  try dsimp only
  refine xS.s1 rfl rfl ?_
  try dsimp only [Nat.reduceAdd]
  refine xS.s1 rfl rfl ?_
  try dsimp only [Nat.reduceAdd]
  refine xS.gI rfl rfl rfl ⟨by decide, rfl⟩ rfl ?_
  try dsimp only [Nat.reduceAdd]
  refine xS.br (c := .ge) (off := 27) (l := 3) rfl rfl (fun h9 => ?_) (fun h9 => ?_)
  · have g9 := xt_ge h9
    rw [hs] at g9
    have e := xnle g9 (by omega) (by omega)
    have e2 : m = j := by omega
    subst e2
    refine xS.s1 rfl rfl ?_
    try dsimp only [Nat.reduceAdd]
    refine xS.ret rfl rfl rfl (fun _ _ => rfl) ?_
    exact ⟨rfl, rfl⟩
  · have g9 := xf_ge h9
    rw [hs] at g9
    have hlt := xnlt g9 (by omega) (by omega)
    refine xS.s1 rfl rfl ?_
    try dsimp only [Nat.reduceAdd]
    refine xS.s1 rfl rfl ?_
    try dsimp only [Nat.reduceAdd]
    refine xS.s1 rfl rfl ?_
    try dsimp only [Nat.reduceAdd]
    -- 15 yX12_brokenBy
    refine xS.cv rfl rfl rfl rfl rfl rfl ⟨by decide, rfl, rfl⟩ (c_X12_brokenBy hR hD hm hlt) (fun v M1 hv => ?_)
    rw [hv.1, hv.2]
    clear hv M1 v
    try dsimp only [Nat.reduceAdd, Option.toList, List.cons_append, List.nil_append, List.drop]
    refine xS.s1 rfl rfl ?_
    try dsimp only [Nat.reduceAdd, xj_m9]
    refine xS.br (c := .ne) (off := 7) (l := 3) rfl rfl (fun h20 => ?_) (fun h20 => ?_)
    · have g20 := xt_ne h20
      refine xS.s1 rfl rfl ?_
      try dsimp only [Nat.reduceAdd, xi_1]
      refine xS.s1 rfl rfl ?_
      try dsimp only [Nat.reduceAdd]
      refine xS.s1 rfl rfl ?_
      try dsimp only [Nat.reduceAdd]
      refine xS.s1 rfl rfl ?_
      try dsimp only [Nat.reduceAdd, xi_1]
      rw [nI_1]
      refine xS.s1 rfl rfl ?_
      try dsimp only [Nat.reduceAdd]
      refine xS.pick [0, 1, 2] rfl ?_
      rw [nI_1]
      have ih2 := ih () (by omega) trivial
      first | (rw [show xcnt (fun d => !decide (F4 (4 * d + 3) = -9)) (j + 1) = xcnt (fun d => !decide (F4 (4 * d + 3) = -9)) j from by simp [xcnt_s, g20]] at ih2; exact ih2) | (rw [show xcnt (fun d => !decide (F4 (4 * d + 3) = -9)) (j + 1) = xcnt (fun d => !decide (F4 (4 * d + 3) = -9)) j + 1 from by simp [xcnt_s, g20]] at ih2; exact ih2)
    · have g20 := xf_ne h20
      refine xS.s1 rfl rfl ?_
      try dsimp only [Nat.reduceAdd, xi_0]
      refine xS.s1 rfl rfl ?_
      try dsimp only [Nat.reduceAdd]
      refine xS.s1 rfl rfl ?_
      try dsimp only [Nat.reduceAdd]
      refine xS.s1 rfl rfl ?_
      try dsimp only [Nat.reduceAdd]
      refine xS.s1 rfl rfl ?_
      try dsimp only [Nat.reduceAdd, xi_1]
      rw [nI_1]
      refine xS.s1 rfl rfl ?_
      try dsimp only [Nat.reduceAdd]
      refine xS.pick [0, 1, 2] rfl ?_
      rw [show nI (xcnt (fun d => !decide (F4 (4 * d + 3) = -9)) j) + 0 = nI (xcnt (fun d => !decide (F4 (4 * d + 3) = -9)) j) from nI_add _ 0]
      have ih2 := ih () (by omega) trivial
      first | (rw [show xcnt (fun d => !decide (F4 (4 * d + 3) = -9)) (j + 1) = xcnt (fun d => !decide (F4 (4 * d + 3) = -9)) j from by simp [xcnt_s, g20]] at ih2; exact ih2) | (rw [show xcnt (fun d => !decide (F4 (4 * d + 3) = -9)) (j + 1) = xcnt (fun d => !decide (F4 (4 * d + 3) = -9)) j + 1 from by simp [xcnt_s, g20]] at ih2; exact ih2)

set_option maxRecDepth 10000 in
theorem c_X12_broken (hR : xRr g h tx G T Lw) (hD : xDr g h tx T G Lw F4 m) (hm : m ≤ 40) (hs : g 73 14 = nI m) : xT (k + 7) 195 [.ref 73] (xH b g l) (fun r M' => M' = xH b (up g 73 20 (xfI (xfst (fun d => !decide (F4 (4 * d + 3) = -9)) m))) l ∧ r = some (.int (nI (xcnt (fun d => !decide (F4 (4 * d + 3) = -9)) m)))) := by
  refine xT.of rfl (Nat.le_of_ble_eq_true rfl) ?_
  change xS _ _ 0 [(0, .ref 73)] [] _ _
  refine xS.s1 rfl rfl ?_
  try dsimp only [Nat.reduceAdd, xj_m9]
  refine xS.s1 rfl rfl ?_
  try dsimp only [Nat.reduceAdd]
  refine xS.s1 rfl rfl ?_
  try dsimp only [Nat.reduceAdd]
  refine xS.gI rfl rfl rfl ⟨by decide, rfl⟩ rfl ?_
  try dsimp only [Nat.reduceAdd]
  rw [hs]
  refine xS.s1 rfl rfl ?_
  try dsimp only [Nat.reduceAdd, xi_1]
  refine xS.s1 rfl rfl ?_
  try dsimp only [Nat.reduceAdd]
  refine xS.s1 rfl rfl ?_
  try dsimp only [Nat.reduceAdd]
  refine xS.pick [0, 1, 2] rfl ?_
  refine xS.loop (σ := Unit) (m) (fun j S => [(2, .int (nI (m - j) - 1)), (1, .int (xfI (xdn1 (fun d => !decide (F4 (4 * d + 3) = -9)) m j))), (0, .ref 73)]) (fun _ _ => xH b g l) (fun _ _ => True) (()) (rfl) (rfl) (trivial) ?_
  intro j S hj hI ih
  try dsimp only
  refine xS.s1 rfl rfl ?_
  try dsimp only [Nat.reduceAdd]
  refine xS.br0 (c := .lt) (off := 25) (l := 3) rfl rfl (fun h11 => ?_) (fun h11 => ?_)
  · have g11 := xt_lt h11
    rw [xdown0 hj (by omega)] at g11
    subst g11
    refine xS.s1 rfl rfl ?_
    try dsimp only [Nat.reduceAdd]
    refine xS.s1 rfl rfl ?_
    try dsimp only [Nat.reduceAdd]
    refine xS.pI rfl rfl rfl ⟨⟨by decide, rfl⟩, rfl, by decide, by decide⟩ rfl ?_
    try dsimp only [Nat.reduceAdd]
    refine xS.s1 rfl rfl ?_
    try dsimp only [Nat.reduceAdd]
    -- 42 yX12_brokenMany
    refine xS.cv rfl rfl rfl rfl rfl rfl ⟨by decide, rfl, rfl⟩ (c_X12_brokenMany (xRr_fr (by rw [up_ne (Or.inr (by decide))]) (by rw [up_ne (Or.inr (by decide))]) (up_na (by decide)) (up_na (by decide)) (up_na (by decide)) hR) (xDr_fr (up_na (by decide)) (up_na (by decide)) hD) hm (by rw [up_ne (Or.inr (by decide))]; exact hs)) (fun v M1 hv => ?_)
    rw [hv.1, hv.2]
    clear hv M1 v
    try dsimp only [Nat.reduceAdd, Option.toList, List.cons_append, List.nil_append, List.drop]
    refine xS.ret rfl rfl rfl (fun _ _ => rfl) ?_
    rw [xdn1_m]
    exact ⟨rfl, rfl⟩
  · have g11 := xf_lt h11
    have hlt : j < m := by
      have := (not_congr (xdown0 hj (by omega))).mp (Int32.not_lt.mpr g11)
      omega
    rw [xdown hlt]
    refine xS.s1 rfl rfl ?_
    try dsimp only [Nat.reduceAdd]
    refine xS.s1 rfl rfl ?_
    try dsimp only [Nat.reduceAdd]
    -- 16 yX12_brokenBy
    refine xS.cv rfl rfl rfl rfl rfl rfl ⟨by decide, rfl, rfl⟩ (c_X12_brokenBy hR hD hm (by omega)) (fun v M1 hv => ?_)
    rw [hv.1, hv.2]
    clear hv M1 v
    try dsimp only [Nat.reduceAdd, Option.toList, List.cons_append, List.nil_append, List.drop]
    refine xS.s1 rfl rfl ?_
    try dsimp only [Nat.reduceAdd, xj_m9]
    refine xS.br (c := .ne) (off := 7) (l := 3) rfl rfl (fun h21 => ?_) (fun h21 => ?_)
    · have g21 := xt_ne h21
      refine xS.s1 rfl rfl ?_
      try dsimp only [Nat.reduceAdd]
      refine xS.s1 rfl rfl ?_
      try dsimp only [Nat.reduceAdd]
      refine xS.s1 rfl rfl ?_
      try dsimp only [Nat.reduceAdd, xi_m1]
      refine xS.s1 rfl rfl ?_
      try dsimp only [Nat.reduceAdd]
      refine xS.pick [0, 1, 2] rfl ?_
      have ih2 := ih () (by omega) trivial
      rw [xdec]
      rw [show xdn1 (fun d => !decide (F4 (4 * d + 3) = -9)) m (j + 1) = some (m - j - 1) from by rw [xdn1_s]; simp [g21]] at ih2
      exact ih2
    · have g21 := xf_ne h21
      refine xS.s1 rfl rfl ?_
      try dsimp only [Nat.reduceAdd]
      refine xS.s1 rfl rfl ?_
      try dsimp only [Nat.reduceAdd]
      refine xS.s1 rfl rfl ?_
      try dsimp only [Nat.reduceAdd]
      refine xS.s1 rfl rfl ?_
      try dsimp only [Nat.reduceAdd, xi_m1]
      refine xS.s1 rfl rfl ?_
      try dsimp only [Nat.reduceAdd]
      refine xS.pick [0, 1, 2] rfl ?_
      have ih2 := ih () (by omega) trivial
      rw [xdec]
      rw [show xdn1 (fun d => !decide (F4 (4 * d + 3) = -9)) m (j + 1) = xdn1 (fun d => !decide (F4 (4 * d + 3) = -9)) m j from by rw [xdn1_s]; simp [g21]] at ih2
      exact ih2

set_option maxRecDepth 10000 in
theorem c_X12_undo_bad (hx : ¬ (0 ≤ x ∧ x ≤ g 73 14)) : xT (k + 2) 196 [.ref 73, .int x] (xH b g l) (fun r M' => M' = xH b g l ∧ r = some (.int (-1))) := by
  refine xT.of rfl (Nat.le_of_ble_eq_true rfl) ?_
  change xS _ _ 0 [(0, .ref 73), (1, .int x)] [] _ _
  refine xS.s1 rfl rfl ?_
  try dsimp only [Nat.reduceAdd]
  refine xS.s1 rfl rfl ?_
  try dsimp only [Nat.reduceAdd, xi_0]
  refine xS.s1 rfl rfl ?_
  try dsimp only [Nat.reduceAdd]
  refine xS.gI rfl rfl rfl ⟨by decide, rfl⟩ rfl ?_
  try dsimp only [Nat.reduceAdd]
  -- 6 yX12_in
  refine xS.callS rfl rfl rfl ⟨Nat.le_of_ble_eq_true rfl, rfl⟩ c_in_x (fun v M1 hv => ?_)
  rw [hv.1, hv.2]
  clear hv M1 v
  try dsimp only [Nat.reduceAdd, Option.toList, List.cons_append, List.nil_append, List.drop]
  refine xS.br0 (c := .ne) (off := 5) (l := 3) rfl rfl (fun h9 => ?_) (fun h9 => ?_)
  · have g9 := xt_ne h9
    exact absurd (xif1 g9) hx
  · have g9 := xf_ne h9
    refine xS.s1 rfl rfl ?_
    try dsimp only [Nat.reduceAdd, xi_m1]
    refine xS.ret rfl rfl rfl (fun _ _ => rfl) ?_
    exact ⟨rfl, rfl⟩

set_option maxRecDepth 10000 in
theorem c_X12_undo_ok (hs : g 73 14 = nI m) (hm : m ≤ 40) (ht : t ≤ m) : xT (k + 2) 196 [.ref 73, .int (nI t)] (xH b g l) (fun r M' => M' = xH b (up g 73 14 (nI t)) l ∧ r = some (.int (nI (m - t)))) := by
  refine xT.of rfl (Nat.le_of_ble_eq_true rfl) ?_
  change xS _ _ 0 [(0, .ref 73), (1, .int (nI t))] [] _ _
  refine xS.s1 rfl rfl ?_
  try dsimp only [Nat.reduceAdd]
  refine xS.s1 rfl rfl ?_
  try dsimp only [Nat.reduceAdd, xi_0]
  refine xS.s1 rfl rfl ?_
  try dsimp only [Nat.reduceAdd]
  refine xS.gI rfl rfl rfl ⟨by decide, rfl⟩ rfl ?_
  try dsimp only [Nat.reduceAdd]
  rw [hs]
  -- 6 yX12_in
  refine xS.callS rfl rfl rfl ⟨Nat.le_of_ble_eq_true rfl, rfl⟩ (c_in_n1 (s := 0) (by omega) ht (by omega)) (fun v M1 hv => ?_)
  rw [hv.1, hv.2]
  clear hv M1 v
  try dsimp only [Nat.reduceAdd, Option.toList, List.cons_append, List.nil_append, List.drop]
  refine xS.br0 (c := .ne) (off := 5) (l := 3) rfl rfl (fun h9 => ?_) (fun h9 => ?_)
  · have g9 := xt_ne h9
    refine xS.s1 rfl rfl ?_
    try dsimp only [Nat.reduceAdd]
    refine xS.gI rfl rfl rfl ⟨by decide, rfl⟩ rfl ?_
    try dsimp only [Nat.reduceAdd]
    rw [hs]
    refine xS.s1 rfl rfl ?_
    try dsimp only [Nat.reduceAdd]
    refine xS.s1 rfl rfl ?_
    try dsimp only [Nat.reduceAdd]
    rw [pk_sub ht]
    refine xS.s1 rfl rfl ?_
    try dsimp only [Nat.reduceAdd]
    refine xS.s1 rfl rfl ?_
    try dsimp only [Nat.reduceAdd]
    refine xS.s1 rfl rfl ?_
    try dsimp only [Nat.reduceAdd]
    refine xS.pI rfl rfl rfl ⟨⟨by decide, rfl⟩, rfl, by decide, by decide⟩ rfl ?_
    try dsimp only [Nat.reduceAdd]
    refine xS.s1 rfl rfl ?_
    try dsimp only [Nat.reduceAdd]
    refine xS.ret rfl rfl rfl (fun _ _ => rfl) ?_
    exact ⟨rfl, rfl⟩
  · have g9 := xf_ne h9
    exfalso; first | exact absurd g9 (by decide) | (simp (disch := omega) only [Int32.lt_iff_toInt_lt, Int32.le_iff_toInt_le, nI_toInt, Int32.reduceToInt] at g9 <;> omega)

theorem xin2 {x : Int32} : (0 ≤ x ∧ x ≤ 2) ↔ (0 ≤ x ∧ x < 3) := by
  simp only [Int32.le_iff_toInt_le, Int32.lt_iff_toInt_lt, Int32.reduceToInt]
  omega

set_option maxRecDepth 10000 in
theorem c_X12_keep_bad (hx : ¬ (0 ≤ x ∧ x < 3)) : xT (k + 2) 197 [.ref 73, .int x] (xH b g l) (fun r M' => M' = xH b g l ∧ r = some (.int (-1))) := by
  refine xT.of rfl (Nat.le_of_ble_eq_true rfl) ?_
  change xS _ _ 0 [(0, .ref 73), (1, .int x)] [] _ _
  refine xS.s1 rfl rfl ?_
  try dsimp only [Nat.reduceAdd]
  refine xS.s1 rfl rfl ?_
  try dsimp only [Nat.reduceAdd, xi_0]
  refine xS.s1 rfl rfl ?_
  try dsimp only [Nat.reduceAdd, xi_2]
  -- 3 yX12_in
  refine xS.callS rfl rfl rfl ⟨Nat.le_of_ble_eq_true rfl, rfl⟩ c_in_x (fun v M1 hv => ?_)
  rw [hv.1, hv.2]
  clear hv M1 v
  try dsimp only [Nat.reduceAdd, Option.toList, List.cons_append, List.nil_append, List.drop]
  refine xS.br0 (c := .ne) (off := 5) (l := 3) rfl rfl (fun h6 => ?_) (fun h6 => ?_)
  · have g6 := xt_ne h6
    exact absurd (xin2.mp (xif1 g6)) hx
  · have g6 := xf_ne h6
    refine xS.s1 rfl rfl ?_
    try dsimp only [Nat.reduceAdd, xi_m1]
    refine xS.ret rfl rfl rfl (fun _ _ => rfl) ?_
    exact ⟨rfl, rfl⟩

set_option maxRecDepth 10000 in
theorem c_X12_keep_state (ht : t < 3) (hg : g 73 10 = 0) : xT (k + 2) 197 [.ref 73, .int (nI t)] (xH b g l) (fun r M' => M' = xH b g l ∧ r = some (.int (-4))) := by
  refine xT.of rfl (Nat.le_of_ble_eq_true rfl) ?_
  change xS _ _ 0 [(0, .ref 73), (1, .int (nI t))] [] _ _
  refine xS.s1 rfl rfl ?_
  try dsimp only [Nat.reduceAdd]
  refine xS.s1 rfl rfl ?_
  try dsimp only [Nat.reduceAdd, xi_0]
  refine xS.s1 rfl rfl ?_
  try dsimp only [Nat.reduceAdd, xi_2]
  -- 3 yX12_in
  refine xS.callS rfl rfl rfl ⟨Nat.le_of_ble_eq_true rfl, rfl⟩ (c_in_n1 (s := 0) (m := 2) (by omega) (by omega) (by decide)) (fun v M1 hv => ?_)
  rw [hv.1, hv.2]
  clear hv M1 v
  try dsimp only [Nat.reduceAdd, Option.toList, List.cons_append, List.nil_append, List.drop]
  refine xS.br0 (c := .ne) (off := 5) (l := 3) rfl rfl (fun h6 => ?_) (fun h6 => ?_)
  · have g6 := xt_ne h6
    refine xS.s1 rfl rfl ?_
    try dsimp only [Nat.reduceAdd]
    refine xS.gI rfl rfl rfl ⟨by decide, rfl⟩ rfl ?_
    try dsimp only [Nat.reduceAdd]
    refine xS.br0 (c := .ne) (off := 6) (l := 3) rfl rfl (fun h15 => ?_) (fun h15 => ?_)
    · have g15 := xt_ne h15
      exact absurd hg g15
    · have g15 := xf_ne h15
      refine xS.s1 rfl rfl ?_
      try dsimp only [Nat.reduceAdd, xj_m4]
      refine xS.ret rfl rfl rfl (fun _ _ => rfl) ?_
      exact ⟨rfl, rfl⟩
  · have g6 := xf_ne h6
    exfalso; first | exact absurd g6 (by decide) | (simp (disch := omega) only [Int32.lt_iff_toInt_lt, Int32.le_iff_toInt_le, nI_toInt, Int32.reduceToInt] at g6 <;> omega)

set_option maxRecDepth 10000 in
theorem c_X12_keep_ok (ht : t < 3) (hg : ¬ g 73 10 = 0) (hs : g 73 14 = nI m) (hm : m ≤ 40) : xT (k + 2) 197 [.ref 73, .int (nI t)] (xH b g l) (fun r M' => M' = xH b (gseg (gseg (up g 86 t (nI m)) 87 (40 * t) m (g 84)) 88 (40 * t) m (g 85)) l ∧ r = some (.int (nI m))) := by
  refine xT.of rfl (Nat.le_of_ble_eq_true rfl) ?_
  change xS _ _ 0 [(0, .ref 73), (1, .int (nI t))] [] _ _
  refine xS.s1 rfl rfl ?_
  try dsimp only [Nat.reduceAdd]
  refine xS.s1 rfl rfl ?_
  try dsimp only [Nat.reduceAdd, xi_0]
  refine xS.s1 rfl rfl ?_
  try dsimp only [Nat.reduceAdd, xi_2]
  -- 3 yX12_in
  refine xS.callS rfl rfl rfl ⟨Nat.le_of_ble_eq_true rfl, rfl⟩ (c_in_n1 (s := 0) (m := 2) (by omega) (by omega) (by decide)) (fun v M1 hv => ?_)
  rw [hv.1, hv.2]
  clear hv M1 v
  try dsimp only [Nat.reduceAdd, Option.toList, List.cons_append, List.nil_append, List.drop]
  refine xS.br0 (c := .ne) (off := 5) (l := 3) rfl rfl (fun h6 => ?_) (fun h6 => ?_)
  · have g6 := xt_ne h6
    refine xS.s1 rfl rfl ?_
    try dsimp only [Nat.reduceAdd]
    refine xS.gI rfl rfl rfl ⟨by decide, rfl⟩ rfl ?_
    try dsimp only [Nat.reduceAdd]
    refine xS.br0 (c := .ne) (off := 6) (l := 3) rfl rfl (fun h15 => ?_) (fun h15 => ?_)
    · have g15 := xt_ne h15
      refine xS.s1 rfl rfl ?_
      try dsimp only [Nat.reduceAdd]
      refine xS.gR rfl rfl rfl ⟨by decide, rfl⟩ rfl ?_
      try dsimp only [Nat.reduceAdd]
      refine xS.s1 rfl rfl ?_
      try dsimp only [Nat.reduceAdd]
      refine xS.s1 rfl rfl ?_
      try dsimp only [Nat.reduceAdd]
      refine xS.gI rfl rfl rfl ⟨by decide, rfl⟩ rfl ?_
      try dsimp only [Nat.reduceAdd]
      rw [hs]
      refine xS.ias rfl xar_86 (by omega) ?_
      try dsimp only [Nat.reduceAdd]
      refine xS.s1 rfl rfl ?_
      try dsimp only [Nat.reduceAdd, xi_0]
      refine xS.s1 rfl rfl ?_
      try dsimp only [Nat.reduceAdd]
      refine xS.pick [0, 1, 2] rfl ?_
      refine xS.loop (σ := Unit) (m) (fun j S => [(2, .int (nI j)), (0, .ref 73), (1, .int (nI t))]) (fun j _ => xH b (gseg (gseg (up g 86 t (nI m)) 87 (40 * t) j (g 84)) 88 (40 * t) j (g 85)) l) (fun _ _ => True) (()) (rfl) (by rw [gseg_0, gseg_0]) (trivial) ?_
      intro j S hj hI ih
      try dsimp only
      have e84 : (gseg (gseg (up g 86 t (nI m)) 87 (40 * t) j (g 84)) 88 (40 * t) j (g 85)) 84 = g 84 := by rw [gseg_na (by decide), gseg_na (by decide), up_na (by decide)]
      have e73 : (gseg (gseg (up g 86 t (nI m)) 87 (40 * t) j (g 84)) 88 (40 * t) j (g 85)) 73 14 = nI m := by rw [gseg_na (by decide), gseg_na (by decide), up_na (by decide)]; exact hs
      refine xS.s1 rfl rfl ?_
      try dsimp only [Nat.reduceAdd]
      refine xS.s1 rfl rfl ?_
      try dsimp only [Nat.reduceAdd]
      refine xS.gI rfl rfl rfl ⟨by decide, rfl⟩ rfl ?_
      try dsimp only [Nat.reduceAdd]
      refine xS.br (c := .ge) (off := 43) (l := 3) rfl rfl (fun h38 => ?_) (fun h38 => ?_)
      · have g38 := xt_ge h38
        rw [e73] at g38
        have e := xnle g38 (by omega) (by omega)
        have e2 : m = j := by omega
        subst e2
        refine xS.s1 rfl rfl ?_
        try dsimp only [Nat.reduceAdd]
        refine xS.gI rfl rfl rfl ⟨by decide, rfl⟩ rfl ?_
        try dsimp only [Nat.reduceAdd]
        refine xS.ret rfl rfl rfl (fun _ _ => rfl) ?_
        rw [e73]
        exact ⟨rfl, rfl⟩
      · have g38 := xf_ge h38
        rw [e73] at g38
        have hlt := xnlt g38 (by omega) (by omega)
        refine xS.s1 rfl rfl ?_
        try dsimp only [Nat.reduceAdd]
        refine xS.gR rfl rfl rfl ⟨by decide, rfl⟩ rfl ?_
        try dsimp only [Nat.reduceAdd]
        refine xS.s1 rfl rfl ?_
        try dsimp only [Nat.reduceAdd, xj_40]
        refine xS.s1 rfl rfl ?_
        try dsimp only [Nat.reduceAdd]
        refine xS.s1 rfl rfl ?_
        try dsimp only [Nat.reduceAdd]
        refine xS.s1 rfl rfl ?_
        try dsimp only [Nat.reduceAdd]
        refine xS.s1 rfl rfl ?_
        try dsimp only [Nat.reduceAdd]
        refine xS.s1 rfl rfl ?_
        try dsimp only [Nat.reduceAdd]
        refine xS.gR rfl rfl rfl ⟨by decide, rfl⟩ rfl ?_
        try dsimp only [Nat.reduceAdd]
        refine xS.s1 rfl rfl ?_
        try dsimp only [Nat.reduceAdd]
        refine xS.ia rfl xar_84 (by omega) ?_
        try dsimp only [Nat.reduceAdd]
        rw [e84]
        rw [show (((40 * nI t) + nI j) : Int32) = nI ((40 * t) + j) from by simp only [← nI_add, ← pk_mul]; rfl]
        refine xS.ias rfl xar_87 (by omega) ?_
        try dsimp only [Nat.reduceAdd]
        rw [gseg_un (by decide), gseg_s]
        refine xS.s1 rfl rfl ?_
        try dsimp only [Nat.reduceAdd]
        refine xS.gR rfl rfl rfl ⟨by decide, rfl⟩ rfl ?_
        try dsimp only [Nat.reduceAdd]
        refine xS.s1 rfl rfl ?_
        try dsimp only [Nat.reduceAdd, xj_40]
        refine xS.s1 rfl rfl ?_
        try dsimp only [Nat.reduceAdd]
        refine xS.s1 rfl rfl ?_
        try dsimp only [Nat.reduceAdd]
        refine xS.s1 rfl rfl ?_
        try dsimp only [Nat.reduceAdd]
        refine xS.s1 rfl rfl ?_
        try dsimp only [Nat.reduceAdd]
        refine xS.s1 rfl rfl ?_
        try dsimp only [Nat.reduceAdd]
        refine xS.gR rfl rfl rfl ⟨by decide, rfl⟩ rfl ?_
        try dsimp only [Nat.reduceAdd]
        refine xS.s1 rfl rfl ?_
        try dsimp only [Nat.reduceAdd]
        refine xS.ia rfl xar_85 (by omega) ?_
        try dsimp only [Nat.reduceAdd]
        rw [gseg_na (by decide), gseg_na (by decide), up_na (by decide)]
        rw [show (((40 * nI t) + nI j) : Int32) = nI ((40 * t) + j) from by simp only [← nI_add, ← pk_mul]; rfl]
        refine xS.ias rfl xar_88 (by omega) ?_
        try dsimp only [Nat.reduceAdd]
        rw [gseg_s]
        refine xS.s1 rfl rfl ?_
        try dsimp only [Nat.reduceAdd, xi_1]
        rw [nI_1]
        refine xS.s1 rfl rfl ?_
        try dsimp only [Nat.reduceAdd]
        refine xS.pick [0, 1, 2] rfl ?_
        exact ih () (by omega) trivial
    · have g15 := xf_ne h15
      exact absurd g15 hg
  · have g6 := xf_ne h6
    exfalso; first | exact absurd g6 (by decide) | (simp (disch := omega) only [Int32.lt_iff_toInt_lt, Int32.le_iff_toInt_le, nI_toInt, Int32.reduceToInt] at g6 <;> omega)

set_option maxRecDepth 10000 in
theorem c_X12_on_bad (hx : ¬ (0 ≤ x ∧ x < 3)) : xT (k + 2) 198 [.ref 73, .int x] (xH b g l) (fun r M' => M' = xH b g l ∧ r = some (.int (-1))) := by
  refine xT.of rfl (Nat.le_of_ble_eq_true rfl) ?_
  change xS _ _ 0 [(0, .ref 73), (1, .int x)] [] _ _
  refine xS.s1 rfl rfl ?_
  try dsimp only [Nat.reduceAdd]
  refine xS.s1 rfl rfl ?_
  try dsimp only [Nat.reduceAdd, xi_0]
  refine xS.s1 rfl rfl ?_
  try dsimp only [Nat.reduceAdd, xi_2]
  -- 3 yX12_in
  refine xS.callS rfl rfl rfl ⟨Nat.le_of_ble_eq_true rfl, rfl⟩ c_in_x (fun v M1 hv => ?_)
  rw [hv.1, hv.2]
  clear hv M1 v
  try dsimp only [Nat.reduceAdd, Option.toList, List.cons_append, List.nil_append, List.drop]
  refine xS.br0 (c := .ne) (off := 5) (l := 3) rfl rfl (fun h6 => ?_) (fun h6 => ?_)
  · have g6 := xt_ne h6
    exact absurd (xin2.mp (xif1 g6)) hx
  · have g6 := xf_ne h6
    refine xS.s1 rfl rfl ?_
    try dsimp only [Nat.reduceAdd, xi_m1]
    refine xS.ret rfl rfl rfl (fun _ _ => rfl) ?_
    exact ⟨rfl, rfl⟩

set_option maxRecDepth 10000 in
theorem c_X12_on_no (ht : t < 3) (hs : g 86 t = -1) : xT (k + 2) 198 [.ref 73, .int (nI t)] (xH b g l) (fun r M' => M' = xH b (xfR g 1) l ∧ r = some (.int (-3))) := by
  refine xT.of rfl (Nat.le_of_ble_eq_true rfl) ?_
  change xS _ _ 0 [(0, .ref 73), (1, .int (nI t))] [] _ _
  refine xS.s1 rfl rfl ?_
  try dsimp only [Nat.reduceAdd]
  refine xS.s1 rfl rfl ?_
  try dsimp only [Nat.reduceAdd, xi_0]
  refine xS.s1 rfl rfl ?_
  try dsimp only [Nat.reduceAdd, xi_2]
  -- 3 yX12_in
  refine xS.callS rfl rfl rfl ⟨Nat.le_of_ble_eq_true rfl, rfl⟩ (c_in_n1 (s := 0) (m := 2) (by omega) (by omega) (by decide)) (fun v M1 hv => ?_)
  rw [hv.1, hv.2]
  clear hv M1 v
  try dsimp only [Nat.reduceAdd, Option.toList, List.cons_append, List.nil_append, List.drop]
  refine xS.br0 (c := .ne) (off := 5) (l := 3) rfl rfl (fun h6 => ?_) (fun h6 => ?_)
  · have g6 := xt_ne h6
    refine xS.s1 rfl rfl ?_
    try dsimp only [Nat.reduceAdd]
    refine xS.gR rfl rfl rfl ⟨by decide, rfl⟩ rfl ?_
    try dsimp only [Nat.reduceAdd]
    refine xS.s1 rfl rfl ?_
    try dsimp only [Nat.reduceAdd]
    refine xS.ia rfl xar_86 (by omega) ?_
    try dsimp only [Nat.reduceAdd]
    refine xS.br0 (c := .ge) (off := 9) (l := 3) rfl rfl (fun h17 => ?_) (fun h17 => ?_)
    · have g17 := xt_ge h17
      exfalso; rw [hs] at g17; exact absurd g17 (by decide)
    · have g17 := xf_ge h17
      refine xS.s1 rfl rfl ?_
      try dsimp only [Nat.reduceAdd]
      refine xS.s1 rfl rfl ?_
      try dsimp only [Nat.reduceAdd, xi_1]
      -- 22 yX12_finds
      refine xS.cv rfl rfl rfl rfl rfl rfl ⟨by decide, rfl, rfl⟩ (c_X12_finds (t := 1) (by decide)) (fun v M1 hv => ?_)
      rw [hv.1, hv.2]
      clear hv M1 v
      try dsimp only [Nat.reduceAdd, Option.toList, List.cons_append, List.nil_append, List.drop]
      refine xS.ret rfl rfl rfl (fun _ _ => rfl) ?_
      exact ⟨rfl, rfl⟩
  · have g6 := xf_ne h6
    exfalso; first | exact absurd g6 (by decide) | (simp (disch := omega) only [Int32.lt_iff_toInt_lt, Int32.le_iff_toInt_le, nI_toInt, Int32.reduceToInt] at g6 <;> omega)

set_option maxRecDepth 10000 in
theorem c_X12_on_ok (ht : t < 3) (hs : g 86 t = nI m) (hm : m ≤ 40) : xT (k + 2) 198 [.ref 73, .int (nI t)] (xH b g l) (fun r M' => M' = xH b (gset (gset (up g 73 14 (nI m)) 84 m (fun d => g 87 (40 * t + d))) 85 m (fun d => g 88 (40 * t + d))) l ∧ r = some (.int (nI m))) := by
  refine xT.of rfl (Nat.le_of_ble_eq_true rfl) ?_
  change xS _ _ 0 [(0, .ref 73), (1, .int (nI t))] [] _ _
  refine xS.s1 rfl rfl ?_
  try dsimp only [Nat.reduceAdd]
  refine xS.s1 rfl rfl ?_
  try dsimp only [Nat.reduceAdd, xi_0]
  refine xS.s1 rfl rfl ?_
  try dsimp only [Nat.reduceAdd, xi_2]
  -- 3 yX12_in
  refine xS.callS rfl rfl rfl ⟨Nat.le_of_ble_eq_true rfl, rfl⟩ (c_in_n1 (s := 0) (m := 2) (by omega) (by omega) (by decide)) (fun v M1 hv => ?_)
  rw [hv.1, hv.2]
  clear hv M1 v
  try dsimp only [Nat.reduceAdd, Option.toList, List.cons_append, List.nil_append, List.drop]
  refine xS.br0 (c := .ne) (off := 5) (l := 3) rfl rfl (fun h6 => ?_) (fun h6 => ?_)
  · have g6 := xt_ne h6
    refine xS.s1 rfl rfl ?_
    try dsimp only [Nat.reduceAdd]
    refine xS.gR rfl rfl rfl ⟨by decide, rfl⟩ rfl ?_
    try dsimp only [Nat.reduceAdd]
    refine xS.s1 rfl rfl ?_
    try dsimp only [Nat.reduceAdd]
    refine xS.ia rfl xar_86 (by omega) ?_
    try dsimp only [Nat.reduceAdd]
    refine xS.br0 (c := .ge) (off := 9) (l := 3) rfl rfl (fun h17 => ?_) (fun h17 => ?_)
    · have g17 := xt_ge h17
      refine xS.s1 rfl rfl ?_
      try dsimp only [Nat.reduceAdd]
      refine xS.s1 rfl rfl ?_
      try dsimp only [Nat.reduceAdd]
      refine xS.gR rfl rfl rfl ⟨by decide, rfl⟩ rfl ?_
      try dsimp only [Nat.reduceAdd]
      refine xS.s1 rfl rfl ?_
      try dsimp only [Nat.reduceAdd]
      refine xS.ia rfl xar_86 (by omega) ?_
      try dsimp only [Nat.reduceAdd]
      rw [hs]
      refine xS.pI rfl rfl rfl ⟨⟨by decide, rfl⟩, rfl, by decide, by decide⟩ rfl ?_
      try dsimp only [Nat.reduceAdd]
      refine xS.s1 rfl rfl ?_
      try dsimp only [Nat.reduceAdd, xi_0]
      refine xS.s1 rfl rfl ?_
      try dsimp only [Nat.reduceAdd]
      refine xS.pick [0, 1, 2] rfl ?_
      refine xS.loop (σ := Unit) (m) (fun j S => [(2, .int (nI j)), (0, .ref 73), (1, .int (nI t))]) (fun j _ => xH b (gset (gset (up g 73 14 (nI m)) 84 j (fun d => g 87 (40 * t + d))) 85 j (fun d => g 88 (40 * t + d))) l) (fun _ _ => True) (()) (rfl) (by rw [gset_0, gset_0]) (trivial) ?_
      intro j S hj hI ih
      try dsimp only
      have e87 : (gset (gset (up g 73 14 (nI m)) 84 j (fun d => g 87 (40 * t + d))) 85 j (fun d => g 88 (40 * t + d))) 87 = g 87 := by rw [gset_na (by decide), gset_na (by decide), up_na (by decide)]
      have e73 : (gset (gset (up g 73 14 (nI m)) 84 j (fun d => g 87 (40 * t + d))) 85 j (fun d => g 88 (40 * t + d))) 73 14 = nI m := by rw [gset_na (by decide), gset_na (by decide), up_same]
      refine xS.s1 rfl rfl ?_
      try dsimp only [Nat.reduceAdd]
      refine xS.s1 rfl rfl ?_
      try dsimp only [Nat.reduceAdd]
      refine xS.gI rfl rfl rfl ⟨by decide, rfl⟩ rfl ?_
      try dsimp only [Nat.reduceAdd]
      refine xS.br (c := .ge) (off := 43) (l := 3) rfl rfl (fun h43 => ?_) (fun h43 => ?_)
      · have g43 := xt_ge h43
        rw [e73] at g43
        have e := xnle g43 (by omega) (by omega)
        have e2 : m = j := by omega
        subst e2
        refine xS.s1 rfl rfl ?_
        try dsimp only [Nat.reduceAdd]
        refine xS.gI rfl rfl rfl ⟨by decide, rfl⟩ rfl ?_
        try dsimp only [Nat.reduceAdd]
        refine xS.ret rfl rfl rfl (fun _ _ => rfl) ?_
        rw [e73]
        exact ⟨rfl, rfl⟩
      · have g43 := xf_ge h43
        rw [e73] at g43
        have hlt := xnlt g43 (by omega) (by omega)
        refine xS.s1 rfl rfl ?_
        try dsimp only [Nat.reduceAdd]
        refine xS.gR rfl rfl rfl ⟨by decide, rfl⟩ rfl ?_
        try dsimp only [Nat.reduceAdd]
        refine xS.s1 rfl rfl ?_
        try dsimp only [Nat.reduceAdd]
        refine xS.s1 rfl rfl ?_
        try dsimp only [Nat.reduceAdd]
        refine xS.gR rfl rfl rfl ⟨by decide, rfl⟩ rfl ?_
        try dsimp only [Nat.reduceAdd]
        refine xS.s1 rfl rfl ?_
        try dsimp only [Nat.reduceAdd, xj_40]
        refine xS.s1 rfl rfl ?_
        try dsimp only [Nat.reduceAdd]
        refine xS.s1 rfl rfl ?_
        try dsimp only [Nat.reduceAdd]
        refine xS.s1 rfl rfl ?_
        try dsimp only [Nat.reduceAdd]
        refine xS.s1 rfl rfl ?_
        try dsimp only [Nat.reduceAdd]
        rw [show (((40 * nI t) + nI j) : Int32) = nI ((40 * t) + j) from by simp only [← nI_add, ← pk_mul]; rfl]
        refine xS.ia rfl xar_87 (by omega) ?_
        try dsimp only [Nat.reduceAdd]
        rw [e87]
        refine xS.ias rfl xar_84 (by omega) ?_
        try dsimp only [Nat.reduceAdd]
        rw [gset_un (by decide), gset_s (S := fun d => g 87 (40 * t + d))]
        refine xS.s1 rfl rfl ?_
        try dsimp only [Nat.reduceAdd]
        refine xS.gR rfl rfl rfl ⟨by decide, rfl⟩ rfl ?_
        try dsimp only [Nat.reduceAdd]
        refine xS.s1 rfl rfl ?_
        try dsimp only [Nat.reduceAdd]
        refine xS.s1 rfl rfl ?_
        try dsimp only [Nat.reduceAdd]
        refine xS.gR rfl rfl rfl ⟨by decide, rfl⟩ rfl ?_
        try dsimp only [Nat.reduceAdd]
        refine xS.s1 rfl rfl ?_
        try dsimp only [Nat.reduceAdd, xj_40]
        refine xS.s1 rfl rfl ?_
        try dsimp only [Nat.reduceAdd]
        refine xS.s1 rfl rfl ?_
        try dsimp only [Nat.reduceAdd]
        refine xS.s1 rfl rfl ?_
        try dsimp only [Nat.reduceAdd]
        refine xS.s1 rfl rfl ?_
        try dsimp only [Nat.reduceAdd]
        rw [show (((40 * nI t) + nI j) : Int32) = nI ((40 * t) + j) from by simp only [← nI_add, ← pk_mul]; rfl]
        refine xS.ia rfl xar_88 (by omega) ?_
        try dsimp only [Nat.reduceAdd]
        rw [gset_na (by decide), gset_na (by decide), up_na (by decide)]
        refine xS.ias rfl xar_85 (by omega) ?_
        try dsimp only [Nat.reduceAdd]
        rw [gset_s (S := fun d => g 88 (40 * t + d))]
        refine xS.s1 rfl rfl ?_
        try dsimp only [Nat.reduceAdd, xi_1]
        rw [nI_1]
        refine xS.s1 rfl rfl ?_
        try dsimp only [Nat.reduceAdd]
        refine xS.pick [0, 1, 2] rfl ?_
        exact ih () (by omega) trivial
    · have g17 := xf_ge h17
      exfalso; rw [hs] at g17; exact absurd g17 (nI_pos (by omega))
  · have g6 := xf_ne h6
    exfalso; first | exact absurd g6 (by decide) | (simp (disch := omega) only [Int32.lt_iff_toInt_lt, Int32.le_iff_toInt_le, nI_toInt, Int32.reduceToInt] at g6 <;> omega)

set_option maxRecDepth 10000 in
theorem c_X12_layRow (hA : xar a n) (ha : a ≠ 75) (ha2 : a ≠ 74) (hp1 : p < 6) (hm : m ≤ 12) (hmn : m ≤ n) : xT (k + 1) 201 [.ref 73, .int (nI p), .int (nI m), .ref a] (xH b g l) (fun r M' => M' = xH b (gseg (up g 74 p (nI m)) 75 (40 * p) m (g a)) l ∧ r = some (.int (nI m))) := by
  refine xT.of rfl (Nat.le_of_ble_eq_true rfl) ?_
  change xS _ _ 0 [(0, .ref 73), (1, .int (nI p)), (2, .int (nI m)), (3, .ref a)] [] _ _
  refine xS.s1 rfl rfl ?_
  try dsimp only [Nat.reduceAdd]
  refine xS.gR rfl rfl rfl ⟨by decide, rfl⟩ rfl ?_
  try dsimp only [Nat.reduceAdd]
  refine xS.s1 rfl rfl ?_
  try dsimp only [Nat.reduceAdd]
  refine xS.s1 rfl rfl ?_
  try dsimp only [Nat.reduceAdd]
  refine xS.ias rfl xar_74 (by omega) ?_
  try dsimp only [Nat.reduceAdd]
  refine xS.s1 rfl rfl ?_
  try dsimp only [Nat.reduceAdd, xi_0]
  refine xS.s1 rfl rfl ?_
  try dsimp only [Nat.reduceAdd]
  refine xS.pick [0, 1, 2, 3, 4] rfl ?_
  refine xS.loop (σ := Unit) (m) (fun j S => [(4, .int (nI j)), (0, .ref 73), (1, .int (nI p)), (2, .int (nI m)), (3, .ref a)]) (fun j _ => xH b (gseg (up g 74 p (nI m)) 75 (40 * p) j (g a)) l) (fun _ _ => True) (()) (rfl) (by rw [gseg_0]) (trivial) ?_
  intro j S hj hI ih
  try dsimp only
  refine xS.s1 rfl rfl ?_
  try dsimp only [Nat.reduceAdd]
  refine xS.s1 rfl rfl ?_
  try dsimp only [Nat.reduceAdd]
  refine xS.br (c := .ge) (off := 25) (l := 3) rfl rfl (fun h13 => ?_) (fun h13 => ?_)
  · have g13 := xt_ge h13
    have e := xnle g13 (by omega) (by omega)
    have e2 : m = j := by omega
    subst e2
    refine xS.s1 rfl rfl ?_
    try dsimp only [Nat.reduceAdd]
    refine xS.ret rfl rfl rfl (fun _ _ => rfl) ?_
    exact ⟨rfl, rfl⟩
  · have g13 := xf_ge h13
    have hlt := xnlt g13 (by omega) (by omega)
    refine xS.s1 rfl rfl ?_
    try dsimp only [Nat.reduceAdd]
    refine xS.gR rfl rfl rfl ⟨by decide, rfl⟩ rfl ?_
    try dsimp only [Nat.reduceAdd]
    refine xS.s1 rfl rfl ?_
    try dsimp only [Nat.reduceAdd, xj_40]
    refine xS.s1 rfl rfl ?_
    try dsimp only [Nat.reduceAdd]
    refine xS.s1 rfl rfl ?_
    try dsimp only [Nat.reduceAdd]
    refine xS.s1 rfl rfl ?_
    try dsimp only [Nat.reduceAdd]
    refine xS.s1 rfl rfl ?_
    try dsimp only [Nat.reduceAdd]
    refine xS.s1 rfl rfl ?_
    try dsimp only [Nat.reduceAdd]
    refine xS.s1 rfl rfl ?_
    try dsimp only [Nat.reduceAdd]
    refine xS.ia rfl hA (by omega) ?_
    try dsimp only [Nat.reduceAdd]
    rw [gseg_na ha, up_na ha2]
    rw [show (((40 * nI p) + nI j) : Int32) = nI ((40 * p) + j) from by simp only [← nI_add, ← pk_mul]; rfl]
    refine xS.ias rfl xar_75 (by omega) ?_
    try dsimp only [Nat.reduceAdd]
    rw [gseg_s]
    refine xS.s1 rfl rfl ?_
    try dsimp only [Nat.reduceAdd, xi_1]
    rw [nI_1]
    refine xS.s1 rfl rfl ?_
    try dsimp only [Nat.reduceAdd]
    refine xS.pick [0, 1, 2, 3, 4] rfl ?_
    exact ih () (by omega) trivial

set_option maxRecDepth 10000 in
theorem c_X12_takeOut_no (hA : xar a n) (ha : a ≠ 75) (ha2 : a ≠ 74) (hp1 : p < 6) (hs : g 74 p = -1) : xT (k + 3) 199 [.ref 73, .int (nI p), .int (nI t), .ref a] (xH b g l) (fun r M' => M' = xH b (xfR g 1) l ∧ r = some (.int (-3))) := by
  refine xT.of rfl (Nat.le_of_ble_eq_true rfl) ?_
  change xS _ _ 0 [(0, .ref 73), (1, .int (nI p)), (2, .int (nI t)), (3, .ref a)] [] _ _
  refine xS.s1 rfl rfl ?_
  try dsimp only [Nat.reduceAdd]
  refine xS.gR rfl rfl rfl ⟨by decide, rfl⟩ rfl ?_
  try dsimp only [Nat.reduceAdd]
  refine xS.s1 rfl rfl ?_
  try dsimp only [Nat.reduceAdd]
  refine xS.ia rfl xar_74 (by omega) ?_
  try dsimp only [Nat.reduceAdd]
  refine xS.br0 (c := .ge) (off := 9) (l := 3) rfl rfl (fun h6 => ?_) (fun h6 => ?_)
  · have g6 := xt_ge h6
    exfalso; rw [hs] at g6; exact absurd g6 (by decide)
  · have g6 := xf_ge h6
    refine xS.s1 rfl rfl ?_
    try dsimp only [Nat.reduceAdd]
    refine xS.s1 rfl rfl ?_
    try dsimp only [Nat.reduceAdd, xi_1]
    -- 11 yX12_finds
    refine xS.cv rfl rfl rfl rfl rfl rfl ⟨by decide, rfl, rfl⟩ (c_X12_finds (t := 1) (by decide)) (fun v M1 hv => ?_)
    rw [hv.1, hv.2]
    clear hv M1 v
    try dsimp only [Nat.reduceAdd, Option.toList, List.cons_append, List.nil_append, List.drop]
    refine xS.ret rfl rfl rfl (fun _ _ => rfl) ?_
    exact ⟨rfl, rfl⟩

set_option maxRecDepth 10000 in
theorem c_X12_takeOut_big (hA : xar a n) (ha : a ≠ 75) (ha2 : a ≠ 74) (hp1 : p < 6) (hs : g 74 p = nI m) (hm : m ≤ 40) (ht : t < m) : xT (k + 3) 199 [.ref 73, .int (nI p), .int (nI t), .ref a] (xH b g l) (fun r M' => M' = xH b (xfR g 5) l ∧ r = some (.int (-3))) := by
  refine xT.of rfl (Nat.le_of_ble_eq_true rfl) ?_
  change xS _ _ 0 [(0, .ref 73), (1, .int (nI p)), (2, .int (nI t)), (3, .ref a)] [] _ _
  refine xS.s1 rfl rfl ?_
  try dsimp only [Nat.reduceAdd]
  refine xS.gR rfl rfl rfl ⟨by decide, rfl⟩ rfl ?_
  try dsimp only [Nat.reduceAdd]
  refine xS.s1 rfl rfl ?_
  try dsimp only [Nat.reduceAdd]
  refine xS.ia rfl xar_74 (by omega) ?_
  try dsimp only [Nat.reduceAdd]
  refine xS.br0 (c := .ge) (off := 9) (l := 3) rfl rfl (fun h6 => ?_) (fun h6 => ?_)
  · have g6 := xt_ge h6
    refine xS.s1 rfl rfl ?_
    try dsimp only [Nat.reduceAdd]
    refine xS.gR rfl rfl rfl ⟨by decide, rfl⟩ rfl ?_
    try dsimp only [Nat.reduceAdd]
    refine xS.s1 rfl rfl ?_
    try dsimp only [Nat.reduceAdd]
    refine xS.ia rfl xar_74 (by omega) ?_
    try dsimp only [Nat.reduceAdd]
    refine xS.s1 rfl rfl ?_
    try dsimp only [Nat.reduceAdd]
    refine xS.br (c := .le) (off := 9) (l := 3) rfl rfl (fun h22 => ?_) (fun h22 => ?_)
    · have g22 := xt_le h22
      exfalso; rw [hs] at g22; have := (nI_leI (by omega) (by omega)).mp g22; omega
    · have g22 := xf_le h22
      refine xS.s1 rfl rfl ?_
      try dsimp only [Nat.reduceAdd]
      refine xS.s1 rfl rfl ?_
      try dsimp only [Nat.reduceAdd, xi_5]
      -- 27 yX12_finds
      refine xS.cv rfl rfl rfl rfl rfl rfl ⟨by decide, rfl, rfl⟩ (c_X12_finds (t := 5) (by decide)) (fun v M1 hv => ?_)
      rw [hv.1, hv.2]
      clear hv M1 v
      try dsimp only [Nat.reduceAdd, Option.toList, List.cons_append, List.nil_append, List.drop]
      refine xS.ret rfl rfl rfl (fun _ _ => rfl) ?_
      exact ⟨rfl, rfl⟩
  · have g6 := xf_ge h6
    exfalso; rw [hs] at g6; exact absurd g6 (nI_pos (by omega))

set_option maxRecDepth 10000 in
theorem c_X12_takeOut_ok (hA : xar a n) (ha : a ≠ 75) (ha2 : a ≠ 74) (hp1 : p < 6) (hs : g 74 p = nI m) (hm : m ≤ 40) (ht : m ≤ t) (hmn : m ≤ n) (ht31 : t < 2 ^ 31) (hx : xfst (xnst (fun i => g 75 (40 * p + i))) m = none) : xT (k + 3) 199 [.ref 73, .int (nI p), .int (nI t), .ref a] (xH b g l) (fun r M' => M' = xH b (gset g a m (fun i => g 75 (40 * p + i))) l ∧ r = some (.int 0)) := by
  refine xT.of rfl (Nat.le_of_ble_eq_true rfl) ?_
  change xS _ _ 0 [(0, .ref 73), (1, .int (nI p)), (2, .int (nI t)), (3, .ref a)] [] _ _
  refine xS.s1 rfl rfl ?_
  try dsimp only [Nat.reduceAdd]
  refine xS.gR rfl rfl rfl ⟨by decide, rfl⟩ rfl ?_
  try dsimp only [Nat.reduceAdd]
  refine xS.s1 rfl rfl ?_
  try dsimp only [Nat.reduceAdd]
  refine xS.ia rfl xar_74 (by omega) ?_
  try dsimp only [Nat.reduceAdd]
  refine xS.br0 (c := .ge) (off := 9) (l := 3) rfl rfl (fun h6 => ?_) (fun h6 => ?_)
  · have g6 := xt_ge h6
    refine xS.s1 rfl rfl ?_
    try dsimp only [Nat.reduceAdd]
    refine xS.gR rfl rfl rfl ⟨by decide, rfl⟩ rfl ?_
    try dsimp only [Nat.reduceAdd]
    refine xS.s1 rfl rfl ?_
    try dsimp only [Nat.reduceAdd]
    refine xS.ia rfl xar_74 (by omega) ?_
    try dsimp only [Nat.reduceAdd]
    refine xS.s1 rfl rfl ?_
    try dsimp only [Nat.reduceAdd]
    refine xS.br (c := .le) (off := 9) (l := 3) rfl rfl (fun h22 => ?_) (fun h22 => ?_)
    · have g22 := xt_le h22
      refine xS.s1 rfl rfl ?_
      try dsimp only [Nat.reduceAdd, xi_1]
      refine xS.s1 rfl rfl ?_
      try dsimp only [Nat.reduceAdd]
      refine xS.s1 rfl rfl ?_
      try dsimp only [Nat.reduceAdd, xi_0]
      refine xS.s1 rfl rfl ?_
      try dsimp only [Nat.reduceAdd]
      refine xS.pick [0, 1, 2, 3, 5] rfl ?_
      refine xS.loop (σ := Unit) (m) (fun j S => [(5, .int (nI j)), (4, .int (if xfst (xnst (fun i => g 75 (40 * p + i))) j = none then 1 else 0)), (0, .ref 73), (1, .int (nI p)), (3, .ref a)]) (fun j _ => xH b (gset g a j (fun i => g 75 (40 * p + i))) l) (fun _ _ => True) (()) (rfl) (by rw [gset_0]) (trivial) ?_
      intro j S hj hI ih
      try dsimp only
      have e74 : (gset g a j (fun i => g 75 (40 * p + i))) 74 p = nI m := by rw [gset_na (Ne.symm ha2)]; exact hs
      have e75 : (gset g a j (fun i => g 75 (40 * p + i))) 75 = g 75 := gset_na (Ne.symm ha)
      refine xS.s1 rfl rfl ?_
      try dsimp only [Nat.reduceAdd]
      refine xS.s1 rfl rfl ?_
      try dsimp only [Nat.reduceAdd]
      refine xS.gR rfl rfl rfl ⟨by decide, rfl⟩ rfl ?_
      try dsimp only [Nat.reduceAdd]
      refine xS.s1 rfl rfl ?_
      try dsimp only [Nat.reduceAdd]
      refine xS.ia rfl xar_74 (by omega) ?_
      try dsimp only [Nat.reduceAdd]
      refine xS.br (c := .ge) (off := 47) (l := 3) rfl rfl (fun h45 => ?_) (fun h45 => ?_)
      · have g45 := xt_ge h45
        rw [e74] at g45
        have e := xnle g45 (by omega) (by omega)
        have e2 : m = j := by omega
        subst e2
        refine xS.s1 rfl rfl ?_
        try dsimp only [Nat.reduceAdd]
        refine xS.br0 (c := .eq) (off := 7) (l := 3) rfl rfl (fun h94 => ?_) (fun h94 => ?_)
        · have g94 := xt_eq h94
          exact absurd hx (xif0 g94)
        · have g94 := xf_eq h94
          refine xS.s1 rfl rfl ?_
          try dsimp only [Nat.reduceAdd, xi_0]
          refine xS.s1 rfl rfl ?_
          try dsimp only [Nat.reduceAdd]
          refine xS.ret rfl rfl rfl (fun _ _ => rfl) ?_
          exact ⟨rfl, rfl⟩
      · have g45 := xf_ge h45
        rw [e74] at g45
        have hlt := xnlt g45 (by omega) (by omega)
        refine xS.s1 rfl rfl ?_
        try dsimp only [Nat.reduceAdd]
        refine xS.s1 rfl rfl ?_
        try dsimp only [Nat.reduceAdd]
        refine xS.s1 rfl rfl ?_
        try dsimp only [Nat.reduceAdd]
        refine xS.gR rfl rfl rfl ⟨by decide, rfl⟩ rfl ?_
        try dsimp only [Nat.reduceAdd]
        refine xS.s1 rfl rfl ?_
        try dsimp only [Nat.reduceAdd, xj_40]
        refine xS.s1 rfl rfl ?_
        try dsimp only [Nat.reduceAdd]
        refine xS.s1 rfl rfl ?_
        try dsimp only [Nat.reduceAdd]
        refine xS.s1 rfl rfl ?_
        try dsimp only [Nat.reduceAdd]
        refine xS.s1 rfl rfl ?_
        try dsimp only [Nat.reduceAdd]
        rw [show (((40 * nI p) + nI j) : Int32) = nI ((40 * p) + j) from by simp only [← nI_add, ← pk_mul]; rfl]
        refine xS.ia rfl xar_75 (by omega) ?_
        try dsimp only [Nat.reduceAdd]
        rw [e75]
        refine xS.ias rfl hA (by omega) ?_
        try dsimp only [Nat.reduceAdd]
        rw [gset_s (S := (fun i => g 75 (40 * p + i)))]
        refine xS.s1 rfl rfl ?_
        try dsimp only [Nat.reduceAdd]
        refine xS.br0 (c := .eq) (off := 17) (l := 3) rfl rfl (fun h66 => ?_) (fun h66 => ?_)
        · have g66 := xt_eq h66
          refine xS.s1 rfl rfl ?_
          try dsimp only [Nat.reduceAdd, xi_0]
          refine xS.s1 rfl rfl ?_
          try dsimp only [Nat.reduceAdd]
          refine xS.s1 rfl rfl ?_
          try dsimp only [Nat.reduceAdd, xi_1]
          rw [nI_1]
          refine xS.s1 rfl rfl ?_
          try dsimp only [Nat.reduceAdd]
          refine xS.pick [0, 1, 2, 3, 4] rfl ?_
          have ih2 := ih () (by omega) trivial
          have e66 := xif0 g66
          rw [if_neg (by rw [xfst_k e66]; exact e66)] at ih2
          exact ih2
        · have g66 := xf_eq h66
          refine xS.s1 rfl rfl ?_
          try dsimp only [Nat.reduceAdd]
          refine xS.s1 rfl rfl ?_
          try dsimp only [Nat.reduceAdd]
          refine xS.ia rfl hA (by omega) ?_
          try dsimp only [Nat.reduceAdd]
          rw [gset_in (by omega)]
          -- 73 yX12_isStep
          refine xS.callS rfl rfl rfl ⟨Nat.le_of_ble_eq_true rfl, rfl⟩ c_X12_isStep (fun v M1 hv => ?_)
          rw [hv.1, hv.2]
          clear hv M1 v
          try dsimp only [Nat.reduceAdd, Option.toList, List.cons_append, List.nil_append, List.drop]
          refine xS.br0 (c := .eq) (off := 7) (l := 3) rfl rfl (fun h76 => ?_) (fun h76 => ?_)
          · have g76 := xt_eq h76
            refine xS.s1 rfl rfl ?_
            try dsimp only [Nat.reduceAdd, xi_0]
            refine xS.s1 rfl rfl ?_
            try dsimp only [Nat.reduceAdd]
            refine xS.s1 rfl rfl ?_
            try dsimp only [Nat.reduceAdd, xi_1]
            rw [nI_1]
            refine xS.s1 rfl rfl ?_
            try dsimp only [Nat.reduceAdd]
            refine xS.pick [0, 1, 2, 3, 4] rfl ?_
            have ih2 := ih () (by omega) trivial
            have e66 := xif1 g66
            rw [if_neg (by rw [xfst_c e66 (by simp [xnst, xif0 g76])]; exact fun z => by cases z)] at ih2
            exact ih2
          · have g76 := xf_eq h76
            refine xS.s1 rfl rfl ?_
            try dsimp only [Nat.reduceAdd, xi_1]
            refine xS.s1 rfl rfl ?_
            try dsimp only [Nat.reduceAdd]
            refine xS.s1 rfl rfl ?_
            try dsimp only [Nat.reduceAdd]
            refine xS.s1 rfl rfl ?_
            try dsimp only [Nat.reduceAdd, xi_1]
            rw [nI_1]
            refine xS.s1 rfl rfl ?_
            try dsimp only [Nat.reduceAdd]
            refine xS.pick [0, 1, 2, 3, 4] rfl ?_
            have ih2 := ih () (by omega) trivial
            have e66 := xif1 g66
            rw [if_pos (xfst_n e66 (by simp [xnst, xif1 g76]))] at ih2
            exact ih2
    · have g22 := xf_le h22
      exfalso; rw [hs] at g22; have := (nI_ltI (by omega) (by omega)).mp g22; omega
  · have g6 := xf_ge h6
    exfalso; rw [hs] at g6; exact absurd g6 (nI_pos (by omega))

set_option maxRecDepth 10000 in
theorem c_X12_takeOut_unl (hA : xar a n) (ha : a ≠ 75) (ha2 : a ≠ 74) (hp1 : p < 6) (hs : g 74 p = nI m) (hm : m ≤ 40) (ht : m ≤ t) (hmn : m ≤ n) (ht31 : t < 2 ^ 31) (hx : ¬ xfst (xnst (fun i => g 75 (40 * p + i))) m = none) : xT (k + 3) 199 [.ref 73, .int (nI p), .int (nI t), .ref a] (xH b g l) (fun r M' => M' = xH b (xfR (gset g a m (fun i => g 75 (40 * p + i))) 3) l ∧ r = some (.int (-3))) := by
  refine xT.of rfl (Nat.le_of_ble_eq_true rfl) ?_
  change xS _ _ 0 [(0, .ref 73), (1, .int (nI p)), (2, .int (nI t)), (3, .ref a)] [] _ _
  refine xS.s1 rfl rfl ?_
  try dsimp only [Nat.reduceAdd]
  refine xS.gR rfl rfl rfl ⟨by decide, rfl⟩ rfl ?_
  try dsimp only [Nat.reduceAdd]
  refine xS.s1 rfl rfl ?_
  try dsimp only [Nat.reduceAdd]
  refine xS.ia rfl xar_74 (by omega) ?_
  try dsimp only [Nat.reduceAdd]
  refine xS.br0 (c := .ge) (off := 9) (l := 3) rfl rfl (fun h6 => ?_) (fun h6 => ?_)
  · have g6 := xt_ge h6
    refine xS.s1 rfl rfl ?_
    try dsimp only [Nat.reduceAdd]
    refine xS.gR rfl rfl rfl ⟨by decide, rfl⟩ rfl ?_
    try dsimp only [Nat.reduceAdd]
    refine xS.s1 rfl rfl ?_
    try dsimp only [Nat.reduceAdd]
    refine xS.ia rfl xar_74 (by omega) ?_
    try dsimp only [Nat.reduceAdd]
    refine xS.s1 rfl rfl ?_
    try dsimp only [Nat.reduceAdd]
    refine xS.br (c := .le) (off := 9) (l := 3) rfl rfl (fun h22 => ?_) (fun h22 => ?_)
    · have g22 := xt_le h22
      refine xS.s1 rfl rfl ?_
      try dsimp only [Nat.reduceAdd, xi_1]
      refine xS.s1 rfl rfl ?_
      try dsimp only [Nat.reduceAdd]
      refine xS.s1 rfl rfl ?_
      try dsimp only [Nat.reduceAdd, xi_0]
      refine xS.s1 rfl rfl ?_
      try dsimp only [Nat.reduceAdd]
      refine xS.pick [0, 1, 2, 3, 5] rfl ?_
      refine xS.loop (σ := Unit) (m) (fun j S => [(5, .int (nI j)), (4, .int (if xfst (xnst (fun i => g 75 (40 * p + i))) j = none then 1 else 0)), (0, .ref 73), (1, .int (nI p)), (3, .ref a)]) (fun j _ => xH b (gset g a j (fun i => g 75 (40 * p + i))) l) (fun _ _ => True) (()) (rfl) (by rw [gset_0]) (trivial) ?_
      intro j S hj hI ih
      try dsimp only
      have e74 : (gset g a j (fun i => g 75 (40 * p + i))) 74 p = nI m := by rw [gset_na (Ne.symm ha2)]; exact hs
      have e75 : (gset g a j (fun i => g 75 (40 * p + i))) 75 = g 75 := gset_na (Ne.symm ha)
      refine xS.s1 rfl rfl ?_
      try dsimp only [Nat.reduceAdd]
      refine xS.s1 rfl rfl ?_
      try dsimp only [Nat.reduceAdd]
      refine xS.gR rfl rfl rfl ⟨by decide, rfl⟩ rfl ?_
      try dsimp only [Nat.reduceAdd]
      refine xS.s1 rfl rfl ?_
      try dsimp only [Nat.reduceAdd]
      refine xS.ia rfl xar_74 (by omega) ?_
      try dsimp only [Nat.reduceAdd]
      refine xS.br (c := .ge) (off := 47) (l := 3) rfl rfl (fun h45 => ?_) (fun h45 => ?_)
      · have g45 := xt_ge h45
        rw [e74] at g45
        have e := xnle g45 (by omega) (by omega)
        have e2 : m = j := by omega
        subst e2
        refine xS.s1 rfl rfl ?_
        try dsimp only [Nat.reduceAdd]
        refine xS.br0 (c := .eq) (off := 7) (l := 3) rfl rfl (fun h94 => ?_) (fun h94 => ?_)
        · have g94 := xt_eq h94
          refine xS.s1 rfl rfl ?_
          try dsimp only [Nat.reduceAdd]
          refine xS.s1 rfl rfl ?_
          try dsimp only [Nat.reduceAdd, xi_3]
          -- 103 yX12_finds
          refine xS.cv rfl rfl rfl rfl rfl rfl ⟨by decide, rfl, rfl⟩ (c_X12_finds (t := 3) (by decide)) (fun v M1 hv => ?_)
          rw [hv.1, hv.2]
          clear hv M1 v
          try dsimp only [Nat.reduceAdd, Option.toList, List.cons_append, List.nil_append, List.drop]
          refine xS.ret rfl rfl rfl (fun _ _ => rfl) ?_
          exact ⟨rfl, rfl⟩
        · have g94 := xf_eq h94
          exact absurd (xif1 g94) hx
      · have g45 := xf_ge h45
        rw [e74] at g45
        have hlt := xnlt g45 (by omega) (by omega)
        refine xS.s1 rfl rfl ?_
        try dsimp only [Nat.reduceAdd]
        refine xS.s1 rfl rfl ?_
        try dsimp only [Nat.reduceAdd]
        refine xS.s1 rfl rfl ?_
        try dsimp only [Nat.reduceAdd]
        refine xS.gR rfl rfl rfl ⟨by decide, rfl⟩ rfl ?_
        try dsimp only [Nat.reduceAdd]
        refine xS.s1 rfl rfl ?_
        try dsimp only [Nat.reduceAdd, xj_40]
        refine xS.s1 rfl rfl ?_
        try dsimp only [Nat.reduceAdd]
        refine xS.s1 rfl rfl ?_
        try dsimp only [Nat.reduceAdd]
        refine xS.s1 rfl rfl ?_
        try dsimp only [Nat.reduceAdd]
        refine xS.s1 rfl rfl ?_
        try dsimp only [Nat.reduceAdd]
        rw [show (((40 * nI p) + nI j) : Int32) = nI ((40 * p) + j) from by simp only [← nI_add, ← pk_mul]; rfl]
        refine xS.ia rfl xar_75 (by omega) ?_
        try dsimp only [Nat.reduceAdd]
        rw [e75]
        refine xS.ias rfl hA (by omega) ?_
        try dsimp only [Nat.reduceAdd]
        rw [gset_s (S := (fun i => g 75 (40 * p + i)))]
        refine xS.s1 rfl rfl ?_
        try dsimp only [Nat.reduceAdd]
        refine xS.br0 (c := .eq) (off := 17) (l := 3) rfl rfl (fun h66 => ?_) (fun h66 => ?_)
        · have g66 := xt_eq h66
          refine xS.s1 rfl rfl ?_
          try dsimp only [Nat.reduceAdd, xi_0]
          refine xS.s1 rfl rfl ?_
          try dsimp only [Nat.reduceAdd]
          refine xS.s1 rfl rfl ?_
          try dsimp only [Nat.reduceAdd, xi_1]
          rw [nI_1]
          refine xS.s1 rfl rfl ?_
          try dsimp only [Nat.reduceAdd]
          refine xS.pick [0, 1, 2, 3, 4] rfl ?_
          have ih2 := ih () (by omega) trivial
          have e66 := xif0 g66
          rw [if_neg (by rw [xfst_k e66]; exact e66)] at ih2
          exact ih2
        · have g66 := xf_eq h66
          refine xS.s1 rfl rfl ?_
          try dsimp only [Nat.reduceAdd]
          refine xS.s1 rfl rfl ?_
          try dsimp only [Nat.reduceAdd]
          refine xS.ia rfl hA (by omega) ?_
          try dsimp only [Nat.reduceAdd]
          rw [gset_in (by omega)]
          -- 73 yX12_isStep
          refine xS.callS rfl rfl rfl ⟨Nat.le_of_ble_eq_true rfl, rfl⟩ c_X12_isStep (fun v M1 hv => ?_)
          rw [hv.1, hv.2]
          clear hv M1 v
          try dsimp only [Nat.reduceAdd, Option.toList, List.cons_append, List.nil_append, List.drop]
          refine xS.br0 (c := .eq) (off := 7) (l := 3) rfl rfl (fun h76 => ?_) (fun h76 => ?_)
          · have g76 := xt_eq h76
            refine xS.s1 rfl rfl ?_
            try dsimp only [Nat.reduceAdd, xi_0]
            refine xS.s1 rfl rfl ?_
            try dsimp only [Nat.reduceAdd]
            refine xS.s1 rfl rfl ?_
            try dsimp only [Nat.reduceAdd, xi_1]
            rw [nI_1]
            refine xS.s1 rfl rfl ?_
            try dsimp only [Nat.reduceAdd]
            refine xS.pick [0, 1, 2, 3, 4] rfl ?_
            have ih2 := ih () (by omega) trivial
            have e66 := xif1 g66
            rw [if_neg (by rw [xfst_c e66 (by simp [xnst, xif0 g76])]; exact fun z => by cases z)] at ih2
            exact ih2
          · have g76 := xf_eq h76
            refine xS.s1 rfl rfl ?_
            try dsimp only [Nat.reduceAdd, xi_1]
            refine xS.s1 rfl rfl ?_
            try dsimp only [Nat.reduceAdd]
            refine xS.s1 rfl rfl ?_
            try dsimp only [Nat.reduceAdd]
            refine xS.s1 rfl rfl ?_
            try dsimp only [Nat.reduceAdd, xi_1]
            rw [nI_1]
            refine xS.s1 rfl rfl ?_
            try dsimp only [Nat.reduceAdd]
            refine xS.pick [0, 1, 2, 3, 4] rfl ?_
            have ih2 := ih () (by omega) trivial
            have e66 := xif1 g66
            rw [if_pos (xfst_n e66 (by simp [xnst, xif1 g76]))] at ih2
            exact ih2
    · have g22 := xf_le h22
      exfalso; rw [hs] at g22; have := (nI_ltI (by omega) (by omega)).mp g22; omega
  · have g6 := xf_ge h6
    exfalso; rw [hs] at g6; exact absurd g6 (nI_pos (by omega))

end
