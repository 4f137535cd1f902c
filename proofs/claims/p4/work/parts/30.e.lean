section
/-! LimpMirrorModel: rows and texts, what is shown -/
def xfR (g : Nat → Nat → Int32) (t : Nat) : Nat → Nat → Int32 := up (up g 73 23 (nI t)) 89 t (g 89 t + 1)
def gseg (g : Nat → Nat → Int32) (a o n : Nat) (S : Nat → Int32) : Nat → Nat → Int32 := fun a' i' => if a' = a ∧ o ≤ i' ∧ i' < o + n then S (i' - o) else g a' i'
theorem gseg_0 {g : Nat → Nat → Int32} {a o : Nat} {S : Nat → Int32} : gseg g a o 0 S = g := by
  funext a' i'
  exact if_neg (fun h => absurd h.2 (by omega))
theorem gseg_s {g : Nat → Nat → Int32} {a o j : Nat} {S : Nat → Int32} : up (gseg g a o j S) a (o + j) (S j) = gseg g a o (j + 1) S := by
  funext a' i'
  unfold up gseg
  by_cases e : a' = a
  · subst e
    by_cases e2 : i' = o + j
    · subst e2
      rw [if_pos ⟨rfl, rfl⟩, if_pos ⟨rfl, by omega, by omega⟩]
      congr 1
      omega
    · rw [if_neg (fun z => e2 z.2)]
      by_cases e3 : o ≤ i' ∧ i' < o + j
      · rw [if_pos ⟨rfl, e3⟩, if_pos ⟨rfl, by omega, by omega⟩]
      · rw [if_neg (fun z => e3 z.2), if_neg (fun z => e3 ⟨z.2.1, by omega⟩)]
  · rw [if_neg (fun z => e z.1), if_neg (fun z => e z.1), if_neg (fun z => e z.1)]
theorem gseg_na {g : Nat → Nat → Int32} {a o n a' : Nat} {S : Nat → Int32} (h : a' ≠ a) : gseg g a o n S a' = g a' := funext (fun _ => if_neg (fun z => h z.1))
theorem gseg_in {g : Nat → Nat → Int32} {a o n i : Nat} {S : Nat → Int32} (h : i < n) : gseg g a o n S a (o + i) = S i := by
  unfold gseg
  rw [if_pos ⟨rfl, by omega, by omega⟩]
  congr 1
  omega
theorem gseg_out {g : Nat → Nat → Int32} {a o n i : Nat} {S : Nat → Int32} (h : i < o ∨ o + n ≤ i) : gseg g a o n S a i = g a i := if_neg (fun z => by omega)
theorem xinb {x : Int32} {m : Nat} (hm : m < 2 ^ 31) : (0 ≤ x ∧ x ≤ nI m - 1) ↔ (0 ≤ x ∧ x < nI m) := by
  cases m with
  | zero =>
    constructor
    · rintro ⟨h1, h2⟩
      exfalso
      have : nI 0 - 1 = (-1 : Int32) := rfl
      rw [this] at h2
      simp only [Int32.le_iff_toInt_le, Int32.reduceToInt] at h1 h2
      omega
    · rintro ⟨h1, h2⟩
      exfalso
      have : nI 0 = (0 : Int32) := rfl
      rw [this] at h2
      simp only [Int32.le_iff_toInt_le, Int32.lt_iff_toInt_lt, Int32.reduceToInt] at h1 h2
      omega
  | succ m =>
    rw [nI_pred]
    constructor
    · rintro ⟨h1, h2⟩
      obtain ⟨j, hj, rfl⟩ := nI_of (x := x) (Int32.not_lt.mpr h1)
      exact ⟨h1, nI_lt (by have := (nI_leI hj (by omega)).mp h2; omega) hm⟩
    · rintro ⟨h1, h2⟩
      obtain ⟨j, hj, rfl⟩ := nI_of (x := x) (Int32.not_lt.mpr h1)
      exact ⟨h1, nI_le (by have := (nI_ltI hj hm).mp h2; omega) (by omega)⟩
def xRr (g : Nat → Nat → Int32) (h tx : Nat → Int32) (G T : Nat) (Lw : Nat → Nat) : Prop := (g 73 10 = nI G ∧ G ≤ 6) ∧ (g 73 12 = nI T ∧ T ≤ 8) ∧ (∀ k, k < G → g 82 (2 * k) = nI (Lw k / 4) ∧ g 82 (2 * k + 1) = nI (Lw k % 4) ∧ Lw k < 24) ∧ (∀ s, s < 6 → g 81 s = h s ∧ xstp (h s)) ∧ (∀ i, i < 2 * T → g 83 i = tx i)
theorem xRr_fr {g g' : Nat → Nat → Int32} {h tx : Nat → Int32} {G T : Nat} {Lw : Nat → Nat} (h10 : g' 73 10 = g 73 10) (h12 : g' 73 12 = g 73 12) (h81 : g' 81 = g 81) (h82 : g' 82 = g 82) (h83 : g' 83 = g 83) (hR : xRr g h tx G T Lw) : xRr g' h tx G T Lw := by
  unfold xRr at hR ⊢
  rw [h10, h12, h81, h82, h83]
  exact hR
theorem xrem2 {t : Nat} (h : t < 2 ^ 31) : nI t - nI t / 2 * 2 = nI (t % 2) := pk_rem (d := 2) h (by omega) (by omega)

section
variable {k a c n n2 m t p s d i1 j1 : Nat} {b : Nat × Nat} {g : Nat → Nat → Int32} {l : Nat → Nat → Int64} {i j x y z v w : Int32} {u w1 w2 : Int64}
variable {L G T e1 q1 κ δ : Nat} {Lw f : Nat → Nat} {h tx : Nat → Int32}
set_option maxRecDepth 10000 in
theorem c_X12_in  : xT (k + 1) 151 [.int x, .int y, .int z] (xH b g l) (fun r M' => M' = xH b g l ∧ r = some (.int (if y ≤ x ∧ x ≤ z then 1 else 0))) := by
  refine xT.of rfl (Nat.le_of_ble_eq_true rfl) ?_
  change xS _ _ 0 [(0, .int x), (1, .int y), (2, .int z)] [] _ _
  refine xS.s1 rfl rfl ?_
  try dsimp only [Nat.reduceAdd]
  refine xS.s1 rfl rfl ?_
  try dsimp only [Nat.reduceAdd]
  refine xS.br (c := .lt) (off := 12) (l := 3) rfl rfl (fun h2 => ?_) (fun h2 => ?_)
  · have g2 := xt_lt h2
    refine xS.s1 rfl rfl ?_
    try dsimp only [Nat.reduceAdd, xi_0]
    refine xS.ret rfl rfl rfl (fun _ _ => rfl) ?_
    exact ⟨rfl, by split <;> first | rfl | (exfalso; simp only [Int32.le_iff_toInt_le, Int32.lt_iff_toInt_lt, Int32.reduceToInt] at *; omega)⟩
  · have g2 := xf_lt h2
    refine xS.s1 rfl rfl ?_
    try dsimp only [Nat.reduceAdd]
    refine xS.s1 rfl rfl ?_
    try dsimp only [Nat.reduceAdd]
    refine xS.br (c := .gt) (off := 7) (l := 3) rfl rfl (fun h7 => ?_) (fun h7 => ?_)
    · have g7 := xt_gt h7
      refine xS.s1 rfl rfl ?_
      try dsimp only [Nat.reduceAdd, xi_0]
      refine xS.ret rfl rfl rfl (fun _ _ => rfl) ?_
      exact ⟨rfl, by split <;> first | rfl | (exfalso; simp only [Int32.le_iff_toInt_le, Int32.lt_iff_toInt_lt, Int32.reduceToInt] at *; omega)⟩
    · have g7 := xf_gt h7
      refine xS.s1 rfl rfl ?_
      try dsimp only [Nat.reduceAdd, xi_1]
      refine xS.s1 rfl rfl ?_
      try dsimp only [Nat.reduceAdd]
      refine xS.ret rfl rfl rfl (fun _ _ => rfl) ?_
      exact ⟨rfl, by split <;> first | rfl | (exfalso; simp only [Int32.le_iff_toInt_le, Int32.lt_iff_toInt_lt, Int32.reduceToInt] at *; omega)⟩

theorem c_in_m (hm : m < 2 ^ 31) : xT (k + 1) 151 [.int x, .int 0, .int (nI m - 1)] (xH b g l) (fun r M' => M' = xH b g l ∧ r = some (.int (if 0 ≤ x ∧ x < nI m then 1 else 0))) :=
  c_X12_in.weak (fun r M' hr => ⟨hr.1, by rw [hr.2]; simp only [xinb hm]⟩)

theorem c_in_m1 (hm : m < 2 ^ 31) (ht : t < m) : xT (k + 1) 151 [.int (nI t), .int 0, .int (nI m - 1)] (xH b g l) (fun r M' => M' = xH b g l ∧ r = some (.int (1))) :=
  c_X12_in.weak (fun r M' hr => ⟨hr.1, by rw [hr.2]; rw [if_pos ((xinb hm).mpr ⟨nI_pos' (by omega), nI_lt ht hm⟩)]⟩)

theorem c_in_n1 (hs : s ≤ t) (ht : t ≤ m) (hm : m < 2 ^ 31) : xT (k + 1) 151 [.int (nI t), .int (nI s), .int (nI m)] (xH b g l) (fun r M' => M' = xH b g l ∧ r = some (.int (1))) :=
  c_X12_in.weak (fun r M' hr => ⟨hr.1, by rw [hr.2]; rw [if_pos ⟨nI_le hs (by omega), nI_le ht (by omega)⟩]⟩)

theorem xin5 {x : Int32} : (0 ≤ x ∧ x ≤ 5) ↔ (0 ≤ x ∧ x < 6) := by
  simp only [Int32.le_iff_toInt_le, Int32.lt_iff_toInt_lt, Int32.reduceToInt]
  omega
theorem xin3 {x : Int32} : (0 ≤ x ∧ x ≤ 3) ↔ (0 ≤ x ∧ x < 4) := by
  simp only [Int32.le_iff_toInt_le, Int32.lt_iff_toInt_lt, Int32.reduceToInt]
  omega

set_option maxRecDepth 10000 in
theorem c_X12_isRow  : xT (k + 2) 156 [.int x] (xH b g l) (fun r M' => M' = xH b g l ∧ r = some (.int (if 0 ≤ x ∧ x < 6 then 1 else 0))) := by
  refine xT.of rfl (Nat.le_of_ble_eq_true rfl) ?_
  change xS _ _ 0 [(0, .int x)] [] _ _
  refine xS.s1 rfl rfl ?_
  try dsimp only [Nat.reduceAdd]
  refine xS.s1 rfl rfl ?_
  try dsimp only [Nat.reduceAdd, xi_0]
  refine xS.s1 rfl rfl ?_
  try dsimp only [Nat.reduceAdd, xi_5]
  -- 3 yX12_in
  refine xS.callS rfl rfl rfl ⟨Nat.le_of_ble_eq_true rfl, rfl⟩ c_X12_in (fun v M1 hv => ?_)
  rw [hv.1, hv.2]
  clear hv M1 v
  try dsimp only [Nat.reduceAdd, Option.toList, List.cons_append, List.nil_append, List.drop]
  refine xS.retB rfl rfl ?_
  exact ⟨rfl, by simp only [xin5]⟩

theorem c_X12_isRow_in (ht : t < 6) : xT (k + 2) 156 [.int (nI t)] (xH b g l) (fun r M' => M' = xH b g l ∧ r = some (.int 1)) :=
  (c_X12_isRow).weak (fun r M' h => ⟨h.1, by rw [h.2, if_pos ⟨nI_pos' (by omega), nI_lt (b := 6) ht (by omega)⟩]⟩)

set_option maxRecDepth 10000 in
theorem c_X12_isText  : xT (k + 2) 157 [.int x] (xH b g l) (fun r M' => M' = xH b g l ∧ r = some (.int (if 0 ≤ x ∧ x < 4 then 1 else 0))) := by
  refine xT.of rfl (Nat.le_of_ble_eq_true rfl) ?_
  change xS _ _ 0 [(0, .int x)] [] _ _
  refine xS.s1 rfl rfl ?_
  try dsimp only [Nat.reduceAdd]
  refine xS.s1 rfl rfl ?_
  try dsimp only [Nat.reduceAdd, xi_0]
  refine xS.s1 rfl rfl ?_
  try dsimp only [Nat.reduceAdd, xi_3]
  -- 3 yX12_in
  refine xS.callS rfl rfl rfl ⟨Nat.le_of_ble_eq_true rfl, rfl⟩ c_X12_in (fun v M1 hv => ?_)
  rw [hv.1, hv.2]
  clear hv M1 v
  try dsimp only [Nat.reduceAdd, Option.toList, List.cons_append, List.nil_append, List.drop]
  refine xS.retB rfl rfl ?_
  exact ⟨rfl, by simp only [xin3]⟩

theorem c_X12_isText_in (ht : t < 4) : xT (k + 2) 157 [.int (nI t)] (xH b g l) (fun r M' => M' = xH b g l ∧ r = some (.int 1)) :=
  (c_X12_isText).weak (fun r M' h => ⟨h.1, by rw [h.2, if_pos ⟨nI_pos' (by omega), nI_lt (b := 4) ht (by omega)⟩]⟩)

set_option maxRecDepth 10000 in
theorem c_X12_isStep  : xT (k + 2) 179 [.int x] (xH b g l) (fun r M' => M' = xH b g l ∧ r = some (.int (if 0 ≤ x ∧ x < 6 then 1 else 0))) := by
  refine xT.of rfl (Nat.le_of_ble_eq_true rfl) ?_
  change xS _ _ 0 [(0, .int x)] [] _ _
  refine xS.s1 rfl rfl ?_
  try dsimp only [Nat.reduceAdd]
  refine xS.s1 rfl rfl ?_
  try dsimp only [Nat.reduceAdd, xi_0]
  refine xS.s1 rfl rfl ?_
  try dsimp only [Nat.reduceAdd, xi_5]
  -- 3 yX12_in
  refine xS.callS rfl rfl rfl ⟨Nat.le_of_ble_eq_true rfl, rfl⟩ c_X12_in (fun v M1 hv => ?_)
  rw [hv.1, hv.2]
  clear hv M1 v
  try dsimp only [Nat.reduceAdd, Option.toList, List.cons_append, List.nil_append, List.drop]
  refine xS.retB rfl rfl ?_
  exact ⟨rfl, by simp only [xin5]⟩

theorem c_X12_isStep_in (ht : t < 6) : xT (k + 2) 179 [.int (nI t)] (xH b g l) (fun r M' => M' = xH b g l ∧ r = some (.int 1)) :=
  (c_X12_isStep).weak (fun r M' h => ⟨h.1, by rw [h.2, if_pos ⟨nI_pos' (by omega), nI_lt (b := 6) ht (by omega)⟩]⟩)

set_option maxRecDepth 10000 in
theorem c_X12_isGlass (hG : g 73 10 = nI G) (hG6 : G ≤ 6) : xT (k + 2) 178 [.ref 73, .int x] (xH b g l) (fun r M' => M' = xH b g l ∧ r = some (.int (if 0 ≤ x ∧ x < nI G then 1 else 0))) := by
  refine xT.of rfl (Nat.le_of_ble_eq_true rfl) ?_
  change xS _ _ 0 [(0, .ref 73), (1, .int x)] [] _ _
  refine xS.s1 rfl rfl ?_
  try dsimp only [Nat.reduceAdd]
  refine xS.s1 rfl rfl ?_
  try dsimp only [Nat.reduceAdd, xi_0]
  refine xS.s1 rfl rfl ?_
  try dsimp only [Nat.reduceAdd]
  refine xS.gI rfl rfl rfl ⟨by decide, rfl⟩ rfl ?_
  try dsimp only [Nat.reduceAdd]
  rw [hG]
  refine xS.s1 rfl rfl ?_
  try dsimp only [Nat.reduceAdd, xi_1]
  refine xS.s1 rfl rfl ?_
  try dsimp only [Nat.reduceAdd]
  -- 8 yX12_in
  refine xS.callS rfl rfl rfl ⟨Nat.le_of_ble_eq_true rfl, rfl⟩ (c_in_m (by omega)) (fun v M1 hv => ?_)
  rw [hv.1, hv.2]
  clear hv M1 v
  try dsimp only [Nat.reduceAdd, Option.toList, List.cons_append, List.nil_append, List.drop]
  refine xS.retB rfl rfl ?_
  exact ⟨rfl, rfl⟩

theorem c_X12_isGlass_in (hG : g 73 10 = nI G) (hG6 : G ≤ 6) (ht : t < G) : xT (k + 2) 178 [.ref 73, .int (nI t)] (xH b g l) (fun r M' => M' = xH b g l ∧ r = some (.int 1)) :=
  (c_X12_isGlass hG hG6).weak (fun r M' h => ⟨h.1, by rw [h.2, if_pos ⟨nI_pos' (by omega), nI_lt ht (by omega)⟩]⟩)

set_option maxRecDepth 10000 in
theorem c_X12_finds (ht : t < 6) : xT (k + 1) 153 [.ref 73, .int (nI t)] (xH b g l) (fun r M' => M' = xH b (xfR g t) l ∧ r = some (.int (-3))) := by
  refine xT.of rfl (Nat.le_of_ble_eq_true rfl) ?_
  change xS _ _ 0 [(0, .ref 73), (1, .int (nI t))] [] _ _
  refine xS.s1 rfl rfl ?_
  try dsimp only [Nat.reduceAdd]
  refine xS.s1 rfl rfl ?_
  try dsimp only [Nat.reduceAdd]
  refine xS.pI rfl rfl rfl ⟨⟨by decide, rfl⟩, rfl, by decide, by decide⟩ rfl ?_
  try dsimp only [Nat.reduceAdd]
  refine xS.s1 rfl rfl ?_
  try dsimp only [Nat.reduceAdd]
  refine xS.gR rfl rfl rfl ⟨by decide, rfl⟩ rfl ?_
  try dsimp only [Nat.reduceAdd]
  refine xS.s1 rfl rfl ?_
  try dsimp only [Nat.reduceAdd]
  refine xS.s1 rfl rfl ?_
  try dsimp only [Nat.reduceAdd]
  refine xS.ia rfl xar_89 (by omega) ?_
  try dsimp only [Nat.reduceAdd]
  rw [up_ne (Or.inl (by decide))]
  refine xS.s1 rfl rfl ?_
  try dsimp only [Nat.reduceAdd, xi_1]
  refine xS.s1 rfl rfl ?_
  try dsimp only [Nat.reduceAdd]
  refine xS.ias rfl xar_89 (by omega) ?_
  try dsimp only [Nat.reduceAdd]
  refine xS.s1 rfl rfl ?_
  try dsimp only [Nat.reduceAdd, xj_m3]
  refine xS.ret rfl rfl rfl (fun _ _ => rfl) ?_
  exact ⟨rfl, rfl⟩

set_option maxRecDepth 10000 in
theorem c_X12_tells  : xT (k + 1) 154 [.ref 73, .int x] (xH b g l) (fun r M' => M' = xH b (up g 73 20 x) l ∧ r = some (.int 1)) := by
  refine xT.of rfl (Nat.le_of_ble_eq_true rfl) ?_
  change xS _ _ 0 [(0, .ref 73), (1, .int x)] [] _ _
  refine xS.s1 rfl rfl ?_
  try dsimp only [Nat.reduceAdd]
  refine xS.s1 rfl rfl ?_
  try dsimp only [Nat.reduceAdd]
  refine xS.pI rfl rfl rfl ⟨⟨by decide, rfl⟩, rfl, by decide, by decide⟩ rfl ?_
  try dsimp only [Nat.reduceAdd]
  refine xS.s1 rfl rfl ?_
  try dsimp only [Nat.reduceAdd, xi_1]
  refine xS.ret rfl rfl rfl (fun _ _ => rfl) ?_
  exact ⟨rfl, rfl⟩

set_option maxRecDepth 10000 in
theorem c_X12_row_bad (hx : ¬ ((0 ≤ x ∧ x < 6) ∧ y ≤ 40)) : xT (k + 3) 158 [.ref 73, .int x, .int y] (xH b g l) (fun r M' => M' = xH b g l ∧ r = some (.int (-1))) := by
  refine xT.of rfl (Nat.le_of_ble_eq_true rfl) ?_
  change xS _ _ 0 [(0, .ref 73), (1, .int x), (2, .int y)] [] _ _
  refine xS.s1 rfl rfl ?_
  try dsimp only [Nat.reduceAdd]
  -- 1 yX12_isRow
  refine xS.callS rfl rfl rfl ⟨Nat.le_of_ble_eq_true rfl, rfl⟩ c_X12_isRow (fun v M1 hv => ?_)
  rw [hv.1, hv.2]
  clear hv M1 v
  try dsimp only [Nat.reduceAdd, Option.toList, List.cons_append, List.nil_append, List.drop]
  refine xS.br0 (c := .eq) (off := 9) (l := 3) rfl rfl (fun h4 => ?_) (fun h4 => ?_)
  · have g4 := xt_eq h4
    refine xS.s1 rfl rfl ?_
    try dsimp only [Nat.reduceAdd, xi_m1]
    refine xS.ret rfl rfl rfl (fun _ _ => rfl) ?_
    exact ⟨rfl, rfl⟩
  · have g4 := xf_eq h4
    refine xS.s1 rfl rfl ?_
    try dsimp only [Nat.reduceAdd]
    refine xS.s1 rfl rfl ?_
    try dsimp only [Nat.reduceAdd, xj_40]
    refine xS.br (c := .le) (off := 5) (l := 3) rfl rfl (fun h10 => ?_) (fun h10 => ?_)
    · have g10 := xt_le h10
      exact absurd ⟨xif1 g4, g10⟩ hx
    · have g10 := xf_le h10
      refine xS.s1 rfl rfl ?_
      try dsimp only [Nat.reduceAdd, xi_m1]
      refine xS.ret rfl rfl rfl (fun _ _ => rfl) ?_
      exact ⟨rfl, rfl⟩

set_option maxRecDepth 10000 in
theorem c_X12_row_neg (ht : t < 6) (hy : y < 0) : xT (k + 3) 158 [.ref 73, .int (nI t), .int y] (xH b g l) (fun r M' => M' = xH b (xfR g 5) l ∧ r = some (.int (-3))) := by
  refine xT.of rfl (Nat.le_of_ble_eq_true rfl) ?_
  change xS _ _ 0 [(0, .ref 73), (1, .int (nI t)), (2, .int y)] [] _ _
  refine xS.s1 rfl rfl ?_
  try dsimp only [Nat.reduceAdd]
  -- 1 yX12_isRow
  refine xS.callS rfl rfl rfl ⟨Nat.le_of_ble_eq_true rfl, rfl⟩ (c_X12_isRow_in ht) (fun v M1 hv => ?_)
  rw [hv.1, hv.2]
  clear hv M1 v
  try dsimp only [Nat.reduceAdd, Option.toList, List.cons_append, List.nil_append, List.drop]
  refine xS.br0 (c := .eq) (off := 9) (l := 3) rfl rfl (fun h4 => ?_) (fun h4 => ?_)
  · have g4 := xt_eq h4
    exfalso; first | exact absurd g4 (by decide) | (simp (disch := omega) only [Int32.lt_iff_toInt_lt, Int32.le_iff_toInt_le, nI_toInt, Int32.reduceToInt] at g4 <;> omega)
  · have g4 := xf_eq h4
    refine xS.s1 rfl rfl ?_
    try dsimp only [Nat.reduceAdd]
    refine xS.s1 rfl rfl ?_
    try dsimp only [Nat.reduceAdd, xj_40]
    refine xS.br (c := .le) (off := 5) (l := 3) rfl rfl (fun h10 => ?_) (fun h10 => ?_)
    · have g10 := xt_le h10
      refine xS.s1 rfl rfl ?_
      try dsimp only [Nat.reduceAdd]
      refine xS.br0 (c := .ge) (off := 9) (l := 3) rfl rfl (fun h16 => ?_) (fun h16 => ?_)
      · have g16 := xt_ge h16
        exact absurd hy (Int32.not_lt.mpr g16)
      · have g16 := xf_ge h16
        refine xS.s1 rfl rfl ?_
        try dsimp only [Nat.reduceAdd]
        refine xS.s1 rfl rfl ?_
        try dsimp only [Nat.reduceAdd, xi_5]
        -- 21 yX12_finds
        refine xS.cv rfl rfl rfl rfl rfl rfl ⟨by decide, rfl, rfl⟩ (c_X12_finds (t := 5) (by decide)) (fun v M1 hv => ?_)
        rw [hv.1, hv.2]
        clear hv M1 v
        try dsimp only [Nat.reduceAdd, Option.toList, List.cons_append, List.nil_append, List.drop]
        refine xS.ret rfl rfl rfl (fun _ _ => rfl) ?_
        exact ⟨rfl, rfl⟩
    · have g10 := xf_le h10
      exfalso; simp only [Int32.lt_iff_toInt_lt, Int32.le_iff_toInt_le, Int32.reduceToInt] at g10 hy; omega

set_option maxRecDepth 10000 in
theorem c_X12_row_ok (ht : t < 6) (hm : m ≤ 40) : xT (k + 3) 158 [.ref 73, .int (nI t), .int (nI m)] (xH b g l) (fun r M' => M' = xH b (gseg (up g 74 t (nI m)) 75 (40 * t) m (fun _ => 0)) l ∧ r = some (.int (nI m))) := by
  refine xT.of rfl (Nat.le_of_ble_eq_true rfl) ?_
  change xS _ _ 0 [(0, .ref 73), (1, .int (nI t)), (2, .int (nI m))] [] _ _
  refine xS.s1 rfl rfl ?_
  try dsimp only [Nat.reduceAdd]
  -- 1 yX12_isRow
  refine xS.callS rfl rfl rfl ⟨Nat.le_of_ble_eq_true rfl, rfl⟩ (c_X12_isRow_in ht) (fun v M1 hv => ?_)
  rw [hv.1, hv.2]
  clear hv M1 v
  try dsimp only [Nat.reduceAdd, Option.toList, List.cons_append, List.nil_append, List.drop]
  refine xS.br0 (c := .eq) (off := 9) (l := 3) rfl rfl (fun h4 => ?_) (fun h4 => ?_)
  · have g4 := xt_eq h4
    exfalso; first | exact absurd g4 (by decide) | (simp (disch := omega) only [Int32.lt_iff_toInt_lt, Int32.le_iff_toInt_le, nI_toInt, Int32.reduceToInt] at g4 <;> omega)
  · have g4 := xf_eq h4
    refine xS.s1 rfl rfl ?_
    try dsimp only [Nat.reduceAdd]
    refine xS.s1 rfl rfl ?_
    try dsimp only [Nat.reduceAdd, xj_40]
    refine xS.br (c := .le) (off := 5) (l := 3) rfl rfl (fun h10 => ?_) (fun h10 => ?_)
    · have g10 := xt_le h10
      refine xS.s1 rfl rfl ?_
      try dsimp only [Nat.reduceAdd]
      refine xS.br0 (c := .ge) (off := 9) (l := 3) rfl rfl (fun h16 => ?_) (fun h16 => ?_)
      · have g16 := xt_ge h16
        refine xS.s1 rfl rfl ?_
        try dsimp only [Nat.reduceAdd]
        refine xS.gR rfl rfl rfl ⟨by decide, rfl⟩ rfl ?_
        try dsimp only [Nat.reduceAdd]
        refine xS.s1 rfl rfl ?_
        try dsimp only [Nat.reduceAdd]
        refine xS.s1 rfl rfl ?_
        try dsimp only [Nat.reduceAdd]
        refine xS.ias rfl xar_74 (by omega) ?_
        try dsimp only [Nat.reduceAdd]
        refine xS.s1 rfl rfl ?_
        try dsimp only [Nat.reduceAdd, xi_0]
        refine xS.s1 rfl rfl ?_
        try dsimp only [Nat.reduceAdd]
        refine xS.pick [0, 1, 2, 3] rfl ?_
        refine xS.loop (σ := Unit) (m) (fun j S => [(3, .int (nI j)), (0, .ref 73), (1, .int (nI t)), (2, .int (nI m))]) (fun j _ => xH b (gseg (up g 74 t (nI m)) 75 (40 * t) j (fun _ => 0)) l) (fun _ _ => True) (()) (rfl) (by rw [gseg_0]) (trivial) ?_
        intro j S hj hI ih
        try dsimp only
        refine xS.s1 rfl rfl ?_
        try dsimp only [Nat.reduceAdd]
        refine xS.s1 rfl rfl ?_
        try dsimp only [Nat.reduceAdd]
        refine xS.br (c := .ge) (off := 21) (l := 3) rfl rfl (fun h36 => ?_) (fun h36 => ?_)
        · have g36 := xt_ge h36
          have e := xnle g36 (by omega) (by omega)
          have e2 : m = j := by omega
          subst e2
          refine xS.s1 rfl rfl ?_
          try dsimp only [Nat.reduceAdd]
          refine xS.ret rfl rfl rfl (fun _ _ => rfl) ?_
          exact ⟨rfl, rfl⟩
        · have g36 := xf_ge h36
          have hlt := xnlt g36 (by omega) (by omega)
          refine xS.s1 rfl rfl ?_
          try dsimp only [Nat.reduceAdd]
          refine xS.gR rfl rfl rfl ⟨by decide, rfl⟩ rfl ?_
          try dsimp only [Nat.reduceAdd]
          refine xS.s1 rfl rfl ?_
          try dsimp only [Nat.reduceAdd, xj_40]
          refine xS.s1 rfl rfl ?_
          try dsimp only [Nat.reduceAdd]
          refine xS.s1 rfl rfl ?_
          try dsimp only [Nat.reduceAdd]
          refine xS.s1 rfl rfl ?_
          try dsimp only [Nat.reduceAdd]
          refine xS.s1 rfl rfl ?_
          try dsimp only [Nat.reduceAdd]
          refine xS.s1 rfl rfl ?_
          try dsimp only [Nat.reduceAdd, xi_0]
          rw [show (((40 * nI t) + nI j) : Int32) = nI ((40 * t) + j) from by simp only [← nI_add, ← pk_mul]; rfl]
          refine xS.ias rfl xar_75 (by omega) ?_
          try dsimp only [Nat.reduceAdd]
          refine xS.s1 rfl rfl ?_
          try dsimp only [Nat.reduceAdd, xi_1]
          rw [nI_1]
          refine xS.s1 rfl rfl ?_
          try dsimp only [Nat.reduceAdd]
          refine xS.pick [0, 1, 2, 3] rfl ?_
          rw [gseg_s (S := fun _ => 0)]
          exact ih () (by omega) trivial
      · have g16 := xf_ge h16
        exfalso; first | exact absurd g16 (by decide) | (simp (disch := omega) only [Int32.lt_iff_toInt_lt, Int32.le_iff_toInt_le, nI_toInt, Int32.reduceToInt] at g16 <;> omega)
    · have g10 := xf_le h10
      exfalso; first | exact absurd g10 (by decide) | (simp (disch := omega) only [Int32.lt_iff_toInt_lt, Int32.le_iff_toInt_le, nI_toInt, Int32.reduceToInt] at g10 <;> omega)

set_option maxRecDepth 10000 in
theorem c_X12_text_bad (hx : ¬ ((0 ≤ x ∧ x < 4) ∧ y ≤ 60)) : xT (k + 3) 166 [.ref 73, .int x, .int y] (xH b g l) (fun r M' => M' = xH b g l ∧ r = some (.int (-1))) := by
  refine xT.of rfl (Nat.le_of_ble_eq_true rfl) ?_
  change xS _ _ 0 [(0, .ref 73), (1, .int x), (2, .int y)] [] _ _
  refine xS.s1 rfl rfl ?_
  try dsimp only [Nat.reduceAdd]
  -- 1 yX12_isText
  refine xS.callS rfl rfl rfl ⟨Nat.le_of_ble_eq_true rfl, rfl⟩ c_X12_isText (fun v M1 hv => ?_)
  rw [hv.1, hv.2]
  clear hv M1 v
  try dsimp only [Nat.reduceAdd, Option.toList, List.cons_append, List.nil_append, List.drop]
  refine xS.br0 (c := .eq) (off := 9) (l := 3) rfl rfl (fun h4 => ?_) (fun h4 => ?_)
  · have g4 := xt_eq h4
    refine xS.s1 rfl rfl ?_
    try dsimp only [Nat.reduceAdd, xi_m1]
    refine xS.ret rfl rfl rfl (fun _ _ => rfl) ?_
    exact ⟨rfl, rfl⟩
  · have g4 := xf_eq h4
    refine xS.s1 rfl rfl ?_
    try dsimp only [Nat.reduceAdd]
    refine xS.s1 rfl rfl ?_
    try dsimp only [Nat.reduceAdd, xj_60]
    refine xS.br (c := .le) (off := 5) (l := 3) rfl rfl (fun h10 => ?_) (fun h10 => ?_)
    · have g10 := xt_le h10
      exact absurd ⟨xif1 g4, g10⟩ hx
    · have g10 := xf_le h10
      refine xS.s1 rfl rfl ?_
      try dsimp only [Nat.reduceAdd, xi_m1]
      refine xS.ret rfl rfl rfl (fun _ _ => rfl) ?_
      exact ⟨rfl, rfl⟩

set_option maxRecDepth 10000 in
theorem c_X12_text_neg (ht : t < 4) (hy : y < 0) : xT (k + 3) 166 [.ref 73, .int (nI t), .int y] (xH b g l) (fun r M' => M' = xH b (xfR g 5) l ∧ r = some (.int (-3))) := by
  refine xT.of rfl (Nat.le_of_ble_eq_true rfl) ?_
  change xS _ _ 0 [(0, .ref 73), (1, .int (nI t)), (2, .int y)] [] _ _
  refine xS.s1 rfl rfl ?_
  try dsimp only [Nat.reduceAdd]
  -- 1 yX12_isText
  refine xS.callS rfl rfl rfl ⟨Nat.le_of_ble_eq_true rfl, rfl⟩ (c_X12_isText_in ht) (fun v M1 hv => ?_)
  rw [hv.1, hv.2]
  clear hv M1 v
  try dsimp only [Nat.reduceAdd, Option.toList, List.cons_append, List.nil_append, List.drop]
  refine xS.br0 (c := .eq) (off := 9) (l := 3) rfl rfl (fun h4 => ?_) (fun h4 => ?_)
  · have g4 := xt_eq h4
    exfalso; first | exact absurd g4 (by decide) | (simp (disch := omega) only [Int32.lt_iff_toInt_lt, Int32.le_iff_toInt_le, nI_toInt, Int32.reduceToInt] at g4 <;> omega)
  · have g4 := xf_eq h4
    refine xS.s1 rfl rfl ?_
    try dsimp only [Nat.reduceAdd]
    refine xS.s1 rfl rfl ?_
    try dsimp only [Nat.reduceAdd, xj_60]
    refine xS.br (c := .le) (off := 5) (l := 3) rfl rfl (fun h10 => ?_) (fun h10 => ?_)
    · have g10 := xt_le h10
      refine xS.s1 rfl rfl ?_
      try dsimp only [Nat.reduceAdd]
      refine xS.br0 (c := .ge) (off := 9) (l := 3) rfl rfl (fun h16 => ?_) (fun h16 => ?_)
      · have g16 := xt_ge h16
        exact absurd hy (Int32.not_lt.mpr g16)
      · have g16 := xf_ge h16
        refine xS.s1 rfl rfl ?_
        try dsimp only [Nat.reduceAdd]
        refine xS.s1 rfl rfl ?_
        try dsimp only [Nat.reduceAdd, xi_5]
        -- 21 yX12_finds
        refine xS.cv rfl rfl rfl rfl rfl rfl ⟨by decide, rfl, rfl⟩ (c_X12_finds (t := 5) (by decide)) (fun v M1 hv => ?_)
        rw [hv.1, hv.2]
        clear hv M1 v
        try dsimp only [Nat.reduceAdd, Option.toList, List.cons_append, List.nil_append, List.drop]
        refine xS.ret rfl rfl rfl (fun _ _ => rfl) ?_
        exact ⟨rfl, rfl⟩
    · have g10 := xf_le h10
      exfalso; simp only [Int32.lt_iff_toInt_lt, Int32.le_iff_toInt_le, Int32.reduceToInt] at g10 hy; omega

set_option maxRecDepth 10000 in
theorem c_X12_text_ok (ht : t < 4) (hm : m ≤ 60) : xT (k + 3) 166 [.ref 73, .int (nI t), .int (nI m)] (xH b g l) (fun r M' => M' = xH b (gseg (up g 76 t (nI m)) 77 (60 * t) m (fun _ => 32)) l ∧ r = some (.int (nI m))) := by
  refine xT.of rfl (Nat.le_of_ble_eq_true rfl) ?_
  change xS _ _ 0 [(0, .ref 73), (1, .int (nI t)), (2, .int (nI m))] [] _ _
  refine xS.s1 rfl rfl ?_
  try dsimp only [Nat.reduceAdd]
  -- 1 yX12_isText
  refine xS.callS rfl rfl rfl ⟨Nat.le_of_ble_eq_true rfl, rfl⟩ (c_X12_isText_in ht) (fun v M1 hv => ?_)
  rw [hv.1, hv.2]
  clear hv M1 v
  try dsimp only [Nat.reduceAdd, Option.toList, List.cons_append, List.nil_append, List.drop]
  refine xS.br0 (c := .eq) (off := 9) (l := 3) rfl rfl (fun h4 => ?_) (fun h4 => ?_)
  · have g4 := xt_eq h4
    exfalso; first | exact absurd g4 (by decide) | (simp (disch := omega) only [Int32.lt_iff_toInt_lt, Int32.le_iff_toInt_le, nI_toInt, Int32.reduceToInt] at g4 <;> omega)
  · have g4 := xf_eq h4
    refine xS.s1 rfl rfl ?_
    try dsimp only [Nat.reduceAdd]
    refine xS.s1 rfl rfl ?_
    try dsimp only [Nat.reduceAdd, xj_60]
    refine xS.br (c := .le) (off := 5) (l := 3) rfl rfl (fun h10 => ?_) (fun h10 => ?_)
    · have g10 := xt_le h10
      refine xS.s1 rfl rfl ?_
      try dsimp only [Nat.reduceAdd]
      refine xS.br0 (c := .ge) (off := 9) (l := 3) rfl rfl (fun h16 => ?_) (fun h16 => ?_)
      · have g16 := xt_ge h16
        refine xS.s1 rfl rfl ?_
        try dsimp only [Nat.reduceAdd]
        refine xS.gR rfl rfl rfl ⟨by decide, rfl⟩ rfl ?_
        try dsimp only [Nat.reduceAdd]
        refine xS.s1 rfl rfl ?_
        try dsimp only [Nat.reduceAdd]
        refine xS.s1 rfl rfl ?_
        try dsimp only [Nat.reduceAdd]
        refine xS.ias rfl xar_76 (by omega) ?_
        try dsimp only [Nat.reduceAdd]
        refine xS.s1 rfl rfl ?_
        try dsimp only [Nat.reduceAdd, xi_0]
        refine xS.s1 rfl rfl ?_
        try dsimp only [Nat.reduceAdd]
        refine xS.pick [0, 1, 2, 3] rfl ?_
        refine xS.loop (σ := Unit) (m) (fun j S => [(3, .int (nI j)), (0, .ref 73), (1, .int (nI t)), (2, .int (nI m))]) (fun j _ => xH b (gseg (up g 76 t (nI m)) 77 (60 * t) j (fun _ => 32)) l) (fun _ _ => True) (()) (rfl) (by rw [gseg_0]) (trivial) ?_
        intro j S hj hI ih
        try dsimp only
        refine xS.s1 rfl rfl ?_
        try dsimp only [Nat.reduceAdd]
        refine xS.s1 rfl rfl ?_
        try dsimp only [Nat.reduceAdd]
        refine xS.br (c := .ge) (off := 22) (l := 3) rfl rfl (fun h36 => ?_) (fun h36 => ?_)
        · have g36 := xt_ge h36
          have e := xnle g36 (by omega) (by omega)
          have e2 : m = j := by omega
          subst e2
          refine xS.s1 rfl rfl ?_
          try dsimp only [Nat.reduceAdd]
          refine xS.ret rfl rfl rfl (fun _ _ => rfl) ?_
          exact ⟨rfl, rfl⟩
        · have g36 := xf_ge h36
          have hlt := xnlt g36 (by omega) (by omega)
          refine xS.s1 rfl rfl ?_
          try dsimp only [Nat.reduceAdd]
          refine xS.gR rfl rfl rfl ⟨by decide, rfl⟩ rfl ?_
          try dsimp only [Nat.reduceAdd]
          refine xS.s1 rfl rfl ?_
          try dsimp only [Nat.reduceAdd, xj_60]
          refine xS.s1 rfl rfl ?_
          try dsimp only [Nat.reduceAdd]
          refine xS.s1 rfl rfl ?_
          try dsimp only [Nat.reduceAdd]
          refine xS.s1 rfl rfl ?_
          try dsimp only [Nat.reduceAdd]
          refine xS.s1 rfl rfl ?_
          try dsimp only [Nat.reduceAdd]
          refine xS.s1 rfl rfl ?_
          try dsimp only [Nat.reduceAdd, xj_32]
          rw [show (((60 * nI t) + nI j) : Int32) = nI ((60 * t) + j) from by simp only [← nI_add, ← pk_mul]; rfl]
          refine xS.ias rfl xar_77 (by omega) ?_
          try dsimp only [Nat.reduceAdd]
          refine xS.s1 rfl rfl ?_
          try dsimp only [Nat.reduceAdd, xi_1]
          rw [nI_1]
          refine xS.s1 rfl rfl ?_
          try dsimp only [Nat.reduceAdd]
          refine xS.pick [0, 1, 2, 3] rfl ?_
          rw [gseg_s (S := fun _ => 32)]
          exact ih () (by omega) trivial
      · have g16 := xf_ge h16
        exfalso; first | exact absurd g16 (by decide) | (simp (disch := omega) only [Int32.lt_iff_toInt_lt, Int32.le_iff_toInt_le, nI_toInt, Int32.reduceToInt] at g16 <;> omega)
    · have g10 := xf_le h10
      exfalso; first | exact absurd g10 (by decide) | (simp (disch := omega) only [Int32.lt_iff_toInt_lt, Int32.le_iff_toInt_le, nI_toInt, Int32.reduceToInt] at g10 <;> omega)

set_option maxRecDepth 10000 in
theorem c_X12_wrongAt_bad (hx : ¬ (0 ≤ x ∧ x < 6)) : xT (k + 3) 159 [.ref 73, .int x, .int i] (xH b g l) (fun r M' => M' = xH b g l ∧ r = some (.int (-1))) := by
  refine xT.of rfl (Nat.le_of_ble_eq_true rfl) ?_
  change xS _ _ 0 [(0, .ref 73), (1, .int x), (2, .int i)] [] _ _
  refine xS.s1 rfl rfl ?_
  try dsimp only [Nat.reduceAdd]
  -- 1 yX12_isRow
  refine xS.callS rfl rfl rfl ⟨Nat.le_of_ble_eq_true rfl, rfl⟩ c_X12_isRow (fun v M1 hv => ?_)
  rw [hv.1, hv.2]
  clear hv M1 v
  try dsimp only [Nat.reduceAdd, Option.toList, List.cons_append, List.nil_append, List.drop]
  refine xS.br0 (c := .ne) (off := 5) (l := 3) rfl rfl (fun h4 => ?_) (fun h4 => ?_)
  · have g4 := xt_ne h4
    exact absurd (xif1 g4) hx
  · have g4 := xf_ne h4
    refine xS.s1 rfl rfl ?_
    try dsimp only [Nat.reduceAdd, xi_m1]
    refine xS.ret rfl rfl rfl (fun _ _ => rfl) ?_
    exact ⟨rfl, rfl⟩

set_option maxRecDepth 10000 in
theorem c_X12_wrongAt_no (hp1 : p < 6) (hs : g 74 p = -1) : xT (k + 3) 159 [.ref 73, .int (nI p), .int i] (xH b g l) (fun r M' => M' = xH b (xfR g 1) l ∧ r = some (.int (-3))) := by
  refine xT.of rfl (Nat.le_of_ble_eq_true rfl) ?_
  change xS _ _ 0 [(0, .ref 73), (1, .int (nI p)), (2, .int i)] [] _ _
  refine xS.s1 rfl rfl ?_
  try dsimp only [Nat.reduceAdd]
  -- 1 yX12_isRow
  refine xS.callS rfl rfl rfl ⟨Nat.le_of_ble_eq_true rfl, rfl⟩ (c_X12_isRow_in hp1) (fun v M1 hv => ?_)
  rw [hv.1, hv.2]
  clear hv M1 v
  try dsimp only [Nat.reduceAdd, Option.toList, List.cons_append, List.nil_append, List.drop]
  refine xS.br0 (c := .ne) (off := 5) (l := 3) rfl rfl (fun h4 => ?_) (fun h4 => ?_)
  · have g4 := xt_ne h4
    refine xS.s1 rfl rfl ?_
    try dsimp only [Nat.reduceAdd]
    refine xS.gR rfl rfl rfl ⟨by decide, rfl⟩ rfl ?_
    try dsimp only [Nat.reduceAdd]
    refine xS.s1 rfl rfl ?_
    try dsimp only [Nat.reduceAdd]
    refine xS.ia rfl xar_74 (by omega) ?_
    try dsimp only [Nat.reduceAdd]
    refine xS.br0 (c := .ge) (off := 9) (l := 3) rfl rfl (fun h15 => ?_) (fun h15 => ?_)
    · have g15 := xt_ge h15
      exfalso; rw [hs] at g15; exact absurd g15 (by decide)
    · have g15 := xf_ge h15
      refine xS.s1 rfl rfl ?_
      try dsimp only [Nat.reduceAdd]
      refine xS.s1 rfl rfl ?_
      try dsimp only [Nat.reduceAdd, xi_1]
      -- 20 yX12_finds
      refine xS.cv rfl rfl rfl rfl rfl rfl ⟨by decide, rfl, rfl⟩ (c_X12_finds (t := 1) (by decide)) (fun v M1 hv => ?_)
      rw [hv.1, hv.2]
      clear hv M1 v
      try dsimp only [Nat.reduceAdd, Option.toList, List.cons_append, List.nil_append, List.drop]
      refine xS.ret rfl rfl rfl (fun _ _ => rfl) ?_
      exact ⟨rfl, rfl⟩
  · have g4 := xf_ne h4
    exfalso; first | exact absurd g4 (by decide) | (simp (disch := omega) only [Int32.lt_iff_toInt_lt, Int32.le_iff_toInt_le, nI_toInt, Int32.reduceToInt] at g4 <;> omega)

set_option maxRecDepth 10000 in
theorem c_X12_wrongAt_bey (hp1 : p < 6) (hs : g 74 p = nI m) (hm : m ≤ 40) (hi : ¬ (0 ≤ i ∧ i < nI m)) : xT (k + 3) 159 [.ref 73, .int (nI p), .int i] (xH b g l) (fun r M' => M' = xH b (xfR g 2) l ∧ r = some (.int (-3))) := by
  refine xT.of rfl (Nat.le_of_ble_eq_true rfl) ?_
  change xS _ _ 0 [(0, .ref 73), (1, .int (nI p)), (2, .int i)] [] _ _
  refine xS.s1 rfl rfl ?_
  try dsimp only [Nat.reduceAdd]
  -- 1 yX12_isRow
  refine xS.callS rfl rfl rfl ⟨Nat.le_of_ble_eq_true rfl, rfl⟩ (c_X12_isRow_in hp1) (fun v M1 hv => ?_)
  rw [hv.1, hv.2]
  clear hv M1 v
  try dsimp only [Nat.reduceAdd, Option.toList, List.cons_append, List.nil_append, List.drop]
  refine xS.br0 (c := .ne) (off := 5) (l := 3) rfl rfl (fun h4 => ?_) (fun h4 => ?_)
  · have g4 := xt_ne h4
    refine xS.s1 rfl rfl ?_
    try dsimp only [Nat.reduceAdd]
    refine xS.gR rfl rfl rfl ⟨by decide, rfl⟩ rfl ?_
    try dsimp only [Nat.reduceAdd]
    refine xS.s1 rfl rfl ?_
    try dsimp only [Nat.reduceAdd]
    refine xS.ia rfl xar_74 (by omega) ?_
    try dsimp only [Nat.reduceAdd]
    refine xS.br0 (c := .ge) (off := 9) (l := 3) rfl rfl (fun h15 => ?_) (fun h15 => ?_)
    · have g15 := xt_ge h15
      refine xS.s1 rfl rfl ?_
      try dsimp only [Nat.reduceAdd]
      refine xS.s1 rfl rfl ?_
      try dsimp only [Nat.reduceAdd, xi_0]
      refine xS.s1 rfl rfl ?_
      try dsimp only [Nat.reduceAdd]
      refine xS.gR rfl rfl rfl ⟨by decide, rfl⟩ rfl ?_
      try dsimp only [Nat.reduceAdd]
      refine xS.s1 rfl rfl ?_
      try dsimp only [Nat.reduceAdd]
      refine xS.ia rfl xar_74 (by omega) ?_
      try dsimp only [Nat.reduceAdd]
      rw [hs]
      refine xS.s1 rfl rfl ?_
      try dsimp only [Nat.reduceAdd, xi_1]
      refine xS.s1 rfl rfl ?_
      try dsimp only [Nat.reduceAdd]
      -- 34 yX12_in
      refine xS.callS rfl rfl rfl ⟨Nat.le_of_ble_eq_true rfl, rfl⟩ (c_in_m (by omega)) (fun v M1 hv => ?_)
      rw [hv.1, hv.2]
      clear hv M1 v
      try dsimp only [Nat.reduceAdd, Option.toList, List.cons_append, List.nil_append, List.drop]
      refine xS.br0 (c := .eq) (off := 7) (l := 3) rfl rfl (fun h37 => ?_) (fun h37 => ?_)
      · have g37 := xt_eq h37
        refine xS.s1 rfl rfl ?_
        try dsimp only [Nat.reduceAdd]
        refine xS.s1 rfl rfl ?_
        try dsimp only [Nat.reduceAdd, xi_2]
        -- 46 yX12_finds
        refine xS.cv rfl rfl rfl rfl rfl rfl ⟨by decide, rfl, rfl⟩ (c_X12_finds (t := 2) (by decide)) (fun v M1 hv => ?_)
        rw [hv.1, hv.2]
        clear hv M1 v
        try dsimp only [Nat.reduceAdd, Option.toList, List.cons_append, List.nil_append, List.drop]
        refine xS.ret rfl rfl rfl (fun _ _ => rfl) ?_
        exact ⟨rfl, rfl⟩
      · have g37 := xf_eq h37
        exact absurd (xif1 g37) hi
    · have g15 := xf_ge h15
      exfalso; rw [hs] at g15; exact absurd g15 (nI_pos (by omega))
  · have g4 := xf_ne h4
    exfalso; first | exact absurd g4 (by decide) | (simp (disch := omega) only [Int32.lt_iff_toInt_lt, Int32.le_iff_toInt_le, nI_toInt, Int32.reduceToInt] at g4 <;> omega)

set_option maxRecDepth 10000 in
theorem c_X12_wrongAt_ok (hp1 : p < 6) (hs : g 74 p = nI m) (hm : m ≤ 40) (hi : t < m) : xT (k + 3) 159 [.ref 73, .int (nI p), .int (nI t)] (xH b g l) (fun r M' => M' = xH b g l ∧ r = some (.int (0))) := by
  refine xT.of rfl (Nat.le_of_ble_eq_true rfl) ?_
  change xS _ _ 0 [(0, .ref 73), (1, .int (nI p)), (2, .int (nI t))] [] _ _
  refine xS.s1 rfl rfl ?_
  try dsimp only [Nat.reduceAdd]
  -- 1 yX12_isRow
  refine xS.callS rfl rfl rfl ⟨Nat.le_of_ble_eq_true rfl, rfl⟩ (c_X12_isRow_in hp1) (fun v M1 hv => ?_)
  rw [hv.1, hv.2]
  clear hv M1 v
  try dsimp only [Nat.reduceAdd, Option.toList, List.cons_append, List.nil_append, List.drop]
  refine xS.br0 (c := .ne) (off := 5) (l := 3) rfl rfl (fun h4 => ?_) (fun h4 => ?_)
  · have g4 := xt_ne h4
    refine xS.s1 rfl rfl ?_
    try dsimp only [Nat.reduceAdd]
    refine xS.gR rfl rfl rfl ⟨by decide, rfl⟩ rfl ?_
    try dsimp only [Nat.reduceAdd]
    refine xS.s1 rfl rfl ?_
    try dsimp only [Nat.reduceAdd]
    refine xS.ia rfl xar_74 (by omega) ?_
    try dsimp only [Nat.reduceAdd]
    refine xS.br0 (c := .ge) (off := 9) (l := 3) rfl rfl (fun h15 => ?_) (fun h15 => ?_)
    · have g15 := xt_ge h15
      refine xS.s1 rfl rfl ?_
      try dsimp only [Nat.reduceAdd]
      refine xS.s1 rfl rfl ?_
      try dsimp only [Nat.reduceAdd, xi_0]
      refine xS.s1 rfl rfl ?_
      try dsimp only [Nat.reduceAdd]
      refine xS.gR rfl rfl rfl ⟨by decide, rfl⟩ rfl ?_
      try dsimp only [Nat.reduceAdd]
      refine xS.s1 rfl rfl ?_
      try dsimp only [Nat.reduceAdd]
      refine xS.ia rfl xar_74 (by omega) ?_
      try dsimp only [Nat.reduceAdd]
      rw [hs]
      refine xS.s1 rfl rfl ?_
      try dsimp only [Nat.reduceAdd, xi_1]
      refine xS.s1 rfl rfl ?_
      try dsimp only [Nat.reduceAdd]
      -- 34 yX12_in
      refine xS.callS rfl rfl rfl ⟨Nat.le_of_ble_eq_true rfl, rfl⟩ (c_in_m1 (by omega) hi) (fun v M1 hv => ?_)
      rw [hv.1, hv.2]
      clear hv M1 v
      try dsimp only [Nat.reduceAdd, Option.toList, List.cons_append, List.nil_append, List.drop]
      refine xS.br0 (c := .eq) (off := 7) (l := 3) rfl rfl (fun h37 => ?_) (fun h37 => ?_)
      · have g37 := xt_eq h37
        exfalso; first | exact absurd g37 (by decide) | (simp (disch := omega) only [Int32.lt_iff_toInt_lt, Int32.le_iff_toInt_le, nI_toInt, Int32.reduceToInt] at g37 <;> omega)
      · have g37 := xf_eq h37
        refine xS.s1 rfl rfl ?_
        try dsimp only [Nat.reduceAdd, xi_0]
        refine xS.s1 rfl rfl ?_
        try dsimp only [Nat.reduceAdd]
        refine xS.ret rfl rfl rfl (fun _ _ => rfl) ?_
        exact ⟨rfl, rfl⟩
    · have g15 := xf_ge h15
      exfalso; rw [hs] at g15; exact absurd g15 (nI_pos (by omega))
  · have g4 := xf_ne h4
    exfalso; first | exact absurd g4 (by decide) | (simp (disch := omega) only [Int32.lt_iff_toInt_lt, Int32.le_iff_toInt_le, nI_toInt, Int32.reduceToInt] at g4 <;> omega)

set_option maxRecDepth 10000 in
theorem c_X12_lay_bad (hx : ¬ (0 ≤ x ∧ x < 6)) : xT (k + 4) 160 [.ref 73, .int x, .int i, .int v] (xH b g l) (fun r M' => M' = xH b g l ∧ r = some (.int (-1))) := by
  refine xT.of rfl (Nat.le_of_ble_eq_true rfl) ?_
  change xS _ _ 0 [(0, .ref 73), (1, .int x), (2, .int i), (3, .int v)] [] _ _
  refine xS.s1 rfl rfl ?_
  try dsimp only [Nat.reduceAdd]
  refine xS.s1 rfl rfl ?_
  try dsimp only [Nat.reduceAdd]
  refine xS.s1 rfl rfl ?_
  try dsimp only [Nat.reduceAdd]
  -- 3 yX12_wrongAt
  refine xS.cv rfl rfl rfl rfl rfl rfl ⟨by decide, rfl, rfl⟩ (c_X12_wrongAt_bad hx) (fun v M1 hv => ?_)
  rw [hv.1, hv.2]
  clear hv M1 v
  try dsimp only [Nat.reduceAdd, Option.toList, List.cons_append, List.nil_append, List.drop]
  refine xS.s1 rfl rfl ?_
  try dsimp only [Nat.reduceAdd]
  refine xS.s1 rfl rfl ?_
  try dsimp only [Nat.reduceAdd]
  refine xS.br0 (c := .ge) (off := 6) (l := 3) rfl rfl (fun h10 => ?_) (fun h10 => ?_)
  · have g10 := xt_ge h10
    exfalso; first | exact absurd g10 (by decide) | (simp (disch := omega) only [Int32.lt_iff_toInt_lt, Int32.le_iff_toInt_le, nI_toInt, Int32.reduceToInt] at g10 <;> omega)
  · have g10 := xf_ge h10
    refine xS.s1 rfl rfl ?_
    try dsimp only [Nat.reduceAdd]
    refine xS.ret rfl rfl rfl (fun _ _ => rfl) ?_
    exact ⟨rfl, rfl⟩

set_option maxRecDepth 10000 in
theorem c_X12_lay_no (hp1 : p < 6) (hs : g 74 p = -1) : xT (k + 4) 160 [.ref 73, .int (nI p), .int i, .int v] (xH b g l) (fun r M' => M' = xH b (xfR g 1) l ∧ r = some (.int (-3))) := by
  refine xT.of rfl (Nat.le_of_ble_eq_true rfl) ?_
  change xS _ _ 0 [(0, .ref 73), (1, .int (nI p)), (2, .int i), (3, .int v)] [] _ _
  refine xS.s1 rfl rfl ?_
  try dsimp only [Nat.reduceAdd]
  refine xS.s1 rfl rfl ?_
  try dsimp only [Nat.reduceAdd]
  refine xS.s1 rfl rfl ?_
  try dsimp only [Nat.reduceAdd]
  -- 3 yX12_wrongAt
  refine xS.cv rfl rfl rfl rfl rfl rfl ⟨by decide, rfl, rfl⟩ (c_X12_wrongAt_no hp1 hs) (fun v M1 hv => ?_)
  rw [hv.1, hv.2]
  clear hv M1 v
  try dsimp only [Nat.reduceAdd, Option.toList, List.cons_append, List.nil_append, List.drop]
  refine xS.s1 rfl rfl ?_
  try dsimp only [Nat.reduceAdd]
  refine xS.s1 rfl rfl ?_
  try dsimp only [Nat.reduceAdd]
  refine xS.br0 (c := .ge) (off := 6) (l := 3) rfl rfl (fun h10 => ?_) (fun h10 => ?_)
  · have g10 := xt_ge h10
    exfalso; first | exact absurd g10 (by decide) | (simp (disch := omega) only [Int32.lt_iff_toInt_lt, Int32.le_iff_toInt_le, nI_toInt, Int32.reduceToInt] at g10 <;> omega)
  · have g10 := xf_ge h10
    refine xS.s1 rfl rfl ?_
    try dsimp only [Nat.reduceAdd]
    refine xS.ret rfl rfl rfl (fun _ _ => rfl) ?_
    exact ⟨rfl, rfl⟩

set_option maxRecDepth 10000 in
theorem c_X12_lay_bey (hp1 : p < 6) (hs : g 74 p = nI m) (hm : m ≤ 40) (hi : ¬ (0 ≤ i ∧ i < nI m)) : xT (k + 4) 160 [.ref 73, .int (nI p), .int i, .int v] (xH b g l) (fun r M' => M' = xH b (xfR g 2) l ∧ r = some (.int (-3))) := by
  refine xT.of rfl (Nat.le_of_ble_eq_true rfl) ?_
  change xS _ _ 0 [(0, .ref 73), (1, .int (nI p)), (2, .int i), (3, .int v)] [] _ _
  refine xS.s1 rfl rfl ?_
  try dsimp only [Nat.reduceAdd]
  refine xS.s1 rfl rfl ?_
  try dsimp only [Nat.reduceAdd]
  refine xS.s1 rfl rfl ?_
  try dsimp only [Nat.reduceAdd]
  -- 3 yX12_wrongAt
  refine xS.cv rfl rfl rfl rfl rfl rfl ⟨by decide, rfl, rfl⟩ (c_X12_wrongAt_bey hp1 hs hm hi) (fun v M1 hv => ?_)
  rw [hv.1, hv.2]
  clear hv M1 v
  try dsimp only [Nat.reduceAdd, Option.toList, List.cons_append, List.nil_append, List.drop]
  refine xS.s1 rfl rfl ?_
  try dsimp only [Nat.reduceAdd]
  refine xS.s1 rfl rfl ?_
  try dsimp only [Nat.reduceAdd]
  refine xS.br0 (c := .ge) (off := 6) (l := 3) rfl rfl (fun h10 => ?_) (fun h10 => ?_)
  · have g10 := xt_ge h10
    exfalso; first | exact absurd g10 (by decide) | (simp (disch := omega) only [Int32.lt_iff_toInt_lt, Int32.le_iff_toInt_le, nI_toInt, Int32.reduceToInt] at g10 <;> omega)
  · have g10 := xf_ge h10
    refine xS.s1 rfl rfl ?_
    try dsimp only [Nat.reduceAdd]
    refine xS.ret rfl rfl rfl (fun _ _ => rfl) ?_
    exact ⟨rfl, rfl⟩

set_option maxRecDepth 10000 in
theorem c_X12_lay_ok (hp1 : p < 6) (hs : g 74 p = nI m) (hm : m ≤ 40) (hi : t < m) : xT (k + 4) 160 [.ref 73, .int (nI p), .int (nI t), .int v] (xH b g l) (fun r M' => M' = xH b (up (up g 75 (40 * p + t) v) 73 20 (g 75 (40 * p + t))) l ∧ r = some (.int 1)) := by
  refine xT.of rfl (Nat.le_of_ble_eq_true rfl) ?_
  change xS _ _ 0 [(0, .ref 73), (1, .int (nI p)), (2, .int (nI t)), (3, .int v)] [] _ _
  refine xS.s1 rfl rfl ?_
  try dsimp only [Nat.reduceAdd]
  refine xS.s1 rfl rfl ?_
  try dsimp only [Nat.reduceAdd]
  refine xS.s1 rfl rfl ?_
  try dsimp only [Nat.reduceAdd]
  -- 3 yX12_wrongAt
  refine xS.cv rfl rfl rfl rfl rfl rfl ⟨by decide, rfl, rfl⟩ (c_X12_wrongAt_ok hp1 hs hm hi) (fun v M1 hv => ?_)
  rw [hv.1, hv.2]
  clear hv M1 v
  try dsimp only [Nat.reduceAdd, Option.toList, List.cons_append, List.nil_append, List.drop]
  refine xS.s1 rfl rfl ?_
  try dsimp only [Nat.reduceAdd]
  refine xS.s1 rfl rfl ?_
  try dsimp only [Nat.reduceAdd]
  refine xS.br0 (c := .ge) (off := 6) (l := 3) rfl rfl (fun h10 => ?_) (fun h10 => ?_)
  · have g10 := xt_ge h10
    refine xS.s1 rfl rfl ?_
    try dsimp only [Nat.reduceAdd]
    refine xS.gR rfl rfl rfl ⟨by decide, rfl⟩ rfl ?_
    try dsimp only [Nat.reduceAdd]
    refine xS.s1 rfl rfl ?_
    try dsimp only [Nat.reduceAdd, xj_40]
    refine xS.s1 rfl rfl ?_
    try dsimp only [Nat.reduceAdd]
    refine xS.s1 rfl rfl ?_
    try dsimp only [Nat.reduceAdd]
    refine xS.s1 rfl rfl ?_
    try dsimp only [Nat.reduceAdd]
    refine xS.s1 rfl rfl ?_
    try dsimp only [Nat.reduceAdd]
    rw [show (((40 * nI p) + nI t) : Int32) = nI ((40 * p) + t) from by simp only [← nI_add, ← pk_mul]; rfl]
    refine xS.ia rfl xar_75 (by omega) ?_
    try dsimp only [Nat.reduceAdd]
    refine xS.s1 rfl rfl ?_
    try dsimp only [Nat.reduceAdd]
    refine xS.s1 rfl rfl ?_
    try dsimp only [Nat.reduceAdd]
    refine xS.gR rfl rfl rfl ⟨by decide, rfl⟩ rfl ?_
    try dsimp only [Nat.reduceAdd]
    refine xS.s1 rfl rfl ?_
    try dsimp only [Nat.reduceAdd, xj_40]
    refine xS.s1 rfl rfl ?_
    try dsimp only [Nat.reduceAdd]
    refine xS.s1 rfl rfl ?_
    try dsimp only [Nat.reduceAdd]
    refine xS.s1 rfl rfl ?_
    try dsimp only [Nat.reduceAdd]
    refine xS.s1 rfl rfl ?_
    try dsimp only [Nat.reduceAdd]
    refine xS.s1 rfl rfl ?_
    try dsimp only [Nat.reduceAdd]
    rw [show (((40 * nI p) + nI t) : Int32) = nI ((40 * p) + t) from by simp only [← nI_add, ← pk_mul]; rfl]
    refine xS.ias rfl xar_75 (by omega) ?_
    try dsimp only [Nat.reduceAdd]
    refine xS.s1 rfl rfl ?_
    try dsimp only [Nat.reduceAdd]
    refine xS.s1 rfl rfl ?_
    try dsimp only [Nat.reduceAdd]
    -- 44 yX12_tells
    refine xS.cv rfl rfl rfl rfl rfl rfl ⟨by decide, rfl, rfl⟩ c_X12_tells (fun v M1 hv => ?_)
    rw [hv.1, hv.2]
    clear hv M1 v
    try dsimp only [Nat.reduceAdd, Option.toList, List.cons_append, List.nil_append, List.drop]
    refine xS.ret rfl rfl rfl (fun _ _ => rfl) ?_
    exact ⟨rfl, rfl⟩
  · have g10 := xf_ge h10
    exfalso; first | exact absurd g10 (by decide) | (simp (disch := omega) only [Int32.lt_iff_toInt_lt, Int32.le_iff_toInt_le, nI_toInt, Int32.reduceToInt] at g10 <;> omega)

set_option maxRecDepth 10000 in
theorem c_X12_at_bad (hx : ¬ (0 ≤ x ∧ x < 6)) : xT (k + 4) 161 [.ref 73, .int x, .int i] (xH b g l) (fun r M' => M' = xH b g l ∧ r = some (.int (-1))) := by
  refine xT.of rfl (Nat.le_of_ble_eq_true rfl) ?_
  change xS _ _ 0 [(0, .ref 73), (1, .int x), (2, .int i)] [] _ _
  refine xS.s1 rfl rfl ?_
  try dsimp only [Nat.reduceAdd]
  refine xS.s1 rfl rfl ?_
  try dsimp only [Nat.reduceAdd]
  refine xS.s1 rfl rfl ?_
  try dsimp only [Nat.reduceAdd]
  -- 3 yX12_wrongAt
  refine xS.cv rfl rfl rfl rfl rfl rfl ⟨by decide, rfl, rfl⟩ (c_X12_wrongAt_bad hx) (fun v M1 hv => ?_)
  rw [hv.1, hv.2]
  clear hv M1 v
  try dsimp only [Nat.reduceAdd, Option.toList, List.cons_append, List.nil_append, List.drop]
  refine xS.s1 rfl rfl ?_
  try dsimp only [Nat.reduceAdd]
  refine xS.s1 rfl rfl ?_
  try dsimp only [Nat.reduceAdd]
  refine xS.br0 (c := .ge) (off := 7) (l := 3) rfl rfl (fun h8 => ?_) (fun h8 => ?_)
  · have g8 := xt_ge h8
    exfalso; first | exact absurd g8 (by decide) | (simp (disch := omega) only [Int32.lt_iff_toInt_lt, Int32.le_iff_toInt_le, nI_toInt, Int32.reduceToInt] at g8 <;> omega)
  · have g8 := xf_ge h8
    refine xS.s1 rfl rfl ?_
    try dsimp only [Nat.reduceAdd]
    refine xS.s1 rfl rfl ?_
    try dsimp only [Nat.reduceAdd]
    refine xS.ret rfl rfl rfl (fun _ _ => rfl) ?_
    exact ⟨rfl, rfl⟩

set_option maxRecDepth 10000 in
theorem c_X12_at_no (hp1 : p < 6) (hs : g 74 p = -1) : xT (k + 4) 161 [.ref 73, .int (nI p), .int i] (xH b g l) (fun r M' => M' = xH b (xfR g 1) l ∧ r = some (.int (-3))) := by
  refine xT.of rfl (Nat.le_of_ble_eq_true rfl) ?_
  change xS _ _ 0 [(0, .ref 73), (1, .int (nI p)), (2, .int i)] [] _ _
  refine xS.s1 rfl rfl ?_
  try dsimp only [Nat.reduceAdd]
  refine xS.s1 rfl rfl ?_
  try dsimp only [Nat.reduceAdd]
  refine xS.s1 rfl rfl ?_
  try dsimp only [Nat.reduceAdd]
  -- 3 yX12_wrongAt
  refine xS.cv rfl rfl rfl rfl rfl rfl ⟨by decide, rfl, rfl⟩ (c_X12_wrongAt_no hp1 hs) (fun v M1 hv => ?_)
  rw [hv.1, hv.2]
  clear hv M1 v
  try dsimp only [Nat.reduceAdd, Option.toList, List.cons_append, List.nil_append, List.drop]
  refine xS.s1 rfl rfl ?_
  try dsimp only [Nat.reduceAdd]
  refine xS.s1 rfl rfl ?_
  try dsimp only [Nat.reduceAdd]
  refine xS.br0 (c := .ge) (off := 7) (l := 3) rfl rfl (fun h8 => ?_) (fun h8 => ?_)
  · have g8 := xt_ge h8
    exfalso; first | exact absurd g8 (by decide) | (simp (disch := omega) only [Int32.lt_iff_toInt_lt, Int32.le_iff_toInt_le, nI_toInt, Int32.reduceToInt] at g8 <;> omega)
  · have g8 := xf_ge h8
    refine xS.s1 rfl rfl ?_
    try dsimp only [Nat.reduceAdd]
    refine xS.s1 rfl rfl ?_
    try dsimp only [Nat.reduceAdd]
    refine xS.ret rfl rfl rfl (fun _ _ => rfl) ?_
    exact ⟨rfl, rfl⟩

set_option maxRecDepth 10000 in
theorem c_X12_at_bey (hp1 : p < 6) (hs : g 74 p = nI m) (hm : m ≤ 40) (hi : ¬ (0 ≤ i ∧ i < nI m)) : xT (k + 4) 161 [.ref 73, .int (nI p), .int i] (xH b g l) (fun r M' => M' = xH b (xfR g 2) l ∧ r = some (.int (-3))) := by
  refine xT.of rfl (Nat.le_of_ble_eq_true rfl) ?_
  change xS _ _ 0 [(0, .ref 73), (1, .int (nI p)), (2, .int i)] [] _ _
  refine xS.s1 rfl rfl ?_
  try dsimp only [Nat.reduceAdd]
  refine xS.s1 rfl rfl ?_
  try dsimp only [Nat.reduceAdd]
  refine xS.s1 rfl rfl ?_
  try dsimp only [Nat.reduceAdd]
  -- 3 yX12_wrongAt
  refine xS.cv rfl rfl rfl rfl rfl rfl ⟨by decide, rfl, rfl⟩ (c_X12_wrongAt_bey hp1 hs hm hi) (fun v M1 hv => ?_)
  rw [hv.1, hv.2]
  clear hv M1 v
  try dsimp only [Nat.reduceAdd, Option.toList, List.cons_append, List.nil_append, List.drop]
  refine xS.s1 rfl rfl ?_
  try dsimp only [Nat.reduceAdd]
  refine xS.s1 rfl rfl ?_
  try dsimp only [Nat.reduceAdd]
  refine xS.br0 (c := .ge) (off := 7) (l := 3) rfl rfl (fun h8 => ?_) (fun h8 => ?_)
  · have g8 := xt_ge h8
    exfalso; first | exact absurd g8 (by decide) | (simp (disch := omega) only [Int32.lt_iff_toInt_lt, Int32.le_iff_toInt_le, nI_toInt, Int32.reduceToInt] at g8 <;> omega)
  · have g8 := xf_ge h8
    refine xS.s1 rfl rfl ?_
    try dsimp only [Nat.reduceAdd]
    refine xS.s1 rfl rfl ?_
    try dsimp only [Nat.reduceAdd]
    refine xS.ret rfl rfl rfl (fun _ _ => rfl) ?_
    exact ⟨rfl, rfl⟩

set_option maxRecDepth 10000 in
theorem c_X12_at_ok (hp1 : p < 6) (hs : g 74 p = nI m) (hm : m ≤ 40) (hi : t < m) : xT (k + 4) 161 [.ref 73, .int (nI p), .int (nI t)] (xH b g l) (fun r M' => M' = xH b (up g 73 20 (g 75 (40 * p + t))) l ∧ r = some (.int 1)) := by
  refine xT.of rfl (Nat.le_of_ble_eq_true rfl) ?_
  change xS _ _ 0 [(0, .ref 73), (1, .int (nI p)), (2, .int (nI t))] [] _ _
  refine xS.s1 rfl rfl ?_
  try dsimp only [Nat.reduceAdd]
  refine xS.s1 rfl rfl ?_
  try dsimp only [Nat.reduceAdd]
  refine xS.s1 rfl rfl ?_
  try dsimp only [Nat.reduceAdd]
  -- 3 yX12_wrongAt
  refine xS.cv rfl rfl rfl rfl rfl rfl ⟨by decide, rfl, rfl⟩ (c_X12_wrongAt_ok hp1 hs hm hi) (fun v M1 hv => ?_)
  rw [hv.1, hv.2]
  clear hv M1 v
  try dsimp only [Nat.reduceAdd, Option.toList, List.cons_append, List.nil_append, List.drop]
  refine xS.s1 rfl rfl ?_
  try dsimp only [Nat.reduceAdd]
  refine xS.s1 rfl rfl ?_
  try dsimp only [Nat.reduceAdd]
  refine xS.br0 (c := .ge) (off := 7) (l := 3) rfl rfl (fun h8 => ?_) (fun h8 => ?_)
  · have g8 := xt_ge h8
    refine xS.s1 rfl rfl ?_
    try dsimp only [Nat.reduceAdd]
    refine xS.s1 rfl rfl ?_
    try dsimp only [Nat.reduceAdd]
    refine xS.gR rfl rfl rfl ⟨by decide, rfl⟩ rfl ?_
    try dsimp only [Nat.reduceAdd]
    refine xS.s1 rfl rfl ?_
    try dsimp only [Nat.reduceAdd, xj_40]
    refine xS.s1 rfl rfl ?_
    try dsimp only [Nat.reduceAdd]
    refine xS.s1 rfl rfl ?_
    try dsimp only [Nat.reduceAdd]
    refine xS.s1 rfl rfl ?_
    try dsimp only [Nat.reduceAdd]
    refine xS.s1 rfl rfl ?_
    try dsimp only [Nat.reduceAdd]
    rw [show (((40 * nI p) + nI t) : Int32) = nI ((40 * p) + t) from by simp only [← nI_add, ← pk_mul]; rfl]
    refine xS.ia rfl xar_75 (by omega) ?_
    try dsimp only [Nat.reduceAdd]
    -- 27 yX12_tells
    refine xS.cv rfl rfl rfl rfl rfl rfl ⟨by decide, rfl, rfl⟩ c_X12_tells (fun v M1 hv => ?_)
    rw [hv.1, hv.2]
    clear hv M1 v
    try dsimp only [Nat.reduceAdd, Option.toList, List.cons_append, List.nil_append, List.drop]
    refine xS.ret rfl rfl rfl (fun _ _ => rfl) ?_
    exact ⟨rfl, rfl⟩
  · have g8 := xf_ge h8
    exfalso; first | exact absurd g8 (by decide) | (simp (disch := omega) only [Int32.lt_iff_toInt_lt, Int32.le_iff_toInt_le, nI_toInt, Int32.reduceToInt] at g8 <;> omega)

set_option maxRecDepth 10000 in
theorem c_X12_tear_bad (hx : ¬ (0 ≤ x ∧ x < 6)) : xT (k + 3) 162 [.ref 73, .int x] (xH b g l) (fun r M' => M' = xH b g l ∧ r = some (.int (-1))) := by
  refine xT.of rfl (Nat.le_of_ble_eq_true rfl) ?_
  change xS _ _ 0 [(0, .ref 73), (1, .int x)] [] _ _
  refine xS.s1 rfl rfl ?_
  try dsimp only [Nat.reduceAdd]
  -- 1 yX12_isRow
  refine xS.callS rfl rfl rfl ⟨Nat.le_of_ble_eq_true rfl, rfl⟩ c_X12_isRow (fun v M1 hv => ?_)
  rw [hv.1, hv.2]
  clear hv M1 v
  try dsimp only [Nat.reduceAdd, Option.toList, List.cons_append, List.nil_append, List.drop]
  refine xS.br0 (c := .ne) (off := 5) (l := 3) rfl rfl (fun h4 => ?_) (fun h4 => ?_)
  · have g4 := xt_ne h4
    exact absurd (xif1 g4) hx
  · have g4 := xf_ne h4
    refine xS.s1 rfl rfl ?_
    try dsimp only [Nat.reduceAdd, xi_m1]
    refine xS.ret rfl rfl rfl (fun _ _ => rfl) ?_
    exact ⟨rfl, rfl⟩

set_option maxRecDepth 10000 in
theorem c_X12_tear_no (hp1 : p < 6) (hs : g 74 p = -1) : xT (k + 3) 162 [.ref 73, .int (nI p)] (xH b g l) (fun r M' => M' = xH b (xfR g 1) l ∧ r = some (.int (-3))) := by
  refine xT.of rfl (Nat.le_of_ble_eq_true rfl) ?_
  change xS _ _ 0 [(0, .ref 73), (1, .int (nI p))] [] _ _
  refine xS.s1 rfl rfl ?_
  try dsimp only [Nat.reduceAdd]
  -- 1 yX12_isRow
  refine xS.callS rfl rfl rfl ⟨Nat.le_of_ble_eq_true rfl, rfl⟩ (c_X12_isRow_in hp1) (fun v M1 hv => ?_)
  rw [hv.1, hv.2]
  clear hv M1 v
  try dsimp only [Nat.reduceAdd, Option.toList, List.cons_append, List.nil_append, List.drop]
  refine xS.br0 (c := .ne) (off := 5) (l := 3) rfl rfl (fun h4 => ?_) (fun h4 => ?_)
  · have g4 := xt_ne h4
    refine xS.s1 rfl rfl ?_
    try dsimp only [Nat.reduceAdd]
    refine xS.gR rfl rfl rfl ⟨by decide, rfl⟩ rfl ?_
    try dsimp only [Nat.reduceAdd]
    refine xS.s1 rfl rfl ?_
    try dsimp only [Nat.reduceAdd]
    refine xS.ia rfl xar_74 (by omega) ?_
    try dsimp only [Nat.reduceAdd]
    refine xS.br0 (c := .ge) (off := 9) (l := 3) rfl rfl (fun h15 => ?_) (fun h15 => ?_)
    · have g15 := xt_ge h15
      exfalso; rw [hs] at g15; exact absurd g15 (by decide)
    · have g15 := xf_ge h15
      refine xS.s1 rfl rfl ?_
      try dsimp only [Nat.reduceAdd]
      refine xS.s1 rfl rfl ?_
      try dsimp only [Nat.reduceAdd, xi_1]
      -- 20 yX12_finds
      refine xS.cv rfl rfl rfl rfl rfl rfl ⟨by decide, rfl, rfl⟩ (c_X12_finds (t := 1) (by decide)) (fun v M1 hv => ?_)
      rw [hv.1, hv.2]
      clear hv M1 v
      try dsimp only [Nat.reduceAdd, Option.toList, List.cons_append, List.nil_append, List.drop]
      refine xS.ret rfl rfl rfl (fun _ _ => rfl) ?_
      exact ⟨rfl, rfl⟩
  · have g4 := xf_ne h4
    exfalso; first | exact absurd g4 (by decide) | (simp (disch := omega) only [Int32.lt_iff_toInt_lt, Int32.le_iff_toInt_le, nI_toInt, Int32.reduceToInt] at g4 <;> omega)

set_option maxRecDepth 10000 in
theorem c_X12_tear_ok (hp1 : p < 6) (hs : g 74 p = nI m) (hm : m ≤ 40) : xT (k + 3) 162 [.ref 73, .int (nI p)] (xH b g l) (fun r M' => M' = xH b (up g 74 p (-1)) l ∧ r = some (.int 1)) := by
  refine xT.of rfl (Nat.le_of_ble_eq_true rfl) ?_
  change xS _ _ 0 [(0, .ref 73), (1, .int (nI p))] [] _ _
  refine xS.s1 rfl rfl ?_
  try dsimp only [Nat.reduceAdd]
  -- 1 yX12_isRow
  refine xS.callS rfl rfl rfl ⟨Nat.le_of_ble_eq_true rfl, rfl⟩ (c_X12_isRow_in hp1) (fun v M1 hv => ?_)
  rw [hv.1, hv.2]
  clear hv M1 v
  try dsimp only [Nat.reduceAdd, Option.toList, List.cons_append, List.nil_append, List.drop]
  refine xS.br0 (c := .ne) (off := 5) (l := 3) rfl rfl (fun h4 => ?_) (fun h4 => ?_)
  · have g4 := xt_ne h4
    refine xS.s1 rfl rfl ?_
    try dsimp only [Nat.reduceAdd]
    refine xS.gR rfl rfl rfl ⟨by decide, rfl⟩ rfl ?_
    try dsimp only [Nat.reduceAdd]
    refine xS.s1 rfl rfl ?_
    try dsimp only [Nat.reduceAdd]
    refine xS.ia rfl xar_74 (by omega) ?_
    try dsimp only [Nat.reduceAdd]
    refine xS.br0 (c := .ge) (off := 9) (l := 3) rfl rfl (fun h15 => ?_) (fun h15 => ?_)
    · have g15 := xt_ge h15
      refine xS.s1 rfl rfl ?_
      try dsimp only [Nat.reduceAdd]
      refine xS.gR rfl rfl rfl ⟨by decide, rfl⟩ rfl ?_
      try dsimp only [Nat.reduceAdd]
      refine xS.s1 rfl rfl ?_
      try dsimp only [Nat.reduceAdd]
      refine xS.s1 rfl rfl ?_
      try dsimp only [Nat.reduceAdd, xi_m1]
      refine xS.ias rfl xar_74 (by omega) ?_
      try dsimp only [Nat.reduceAdd]
      refine xS.s1 rfl rfl ?_
      try dsimp only [Nat.reduceAdd, xi_1]
      refine xS.ret rfl rfl rfl (fun _ _ => rfl) ?_
      exact ⟨rfl, rfl⟩
    · have g15 := xf_ge h15
      exfalso; rw [hs] at g15; exact absurd g15 (nI_pos (by omega))
  · have g4 := xf_ne h4
    exfalso; first | exact absurd g4 (by decide) | (simp (disch := omega) only [Int32.lt_iff_toInt_lt, Int32.le_iff_toInt_le, nI_toInt, Int32.reduceToInt] at g4 <;> omega)

set_option maxRecDepth 10000 in
theorem c_X12_put_bad (hx : ¬ (0 ≤ x ∧ x < 4)) : xT (k + 3) 167 [.ref 73, .int x, .int i, .int v] (xH b g l) (fun r M' => M' = xH b g l ∧ r = some (.int (-1))) := by
  refine xT.of rfl (Nat.le_of_ble_eq_true rfl) ?_
  change xS _ _ 0 [(0, .ref 73), (1, .int x), (2, .int i), (3, .int v)] [] _ _
  refine xS.s1 rfl rfl ?_
  try dsimp only [Nat.reduceAdd]
  -- 1 yX12_isText
  refine xS.callS rfl rfl rfl ⟨Nat.le_of_ble_eq_true rfl, rfl⟩ c_X12_isText (fun v M1 hv => ?_)
  rw [hv.1, hv.2]
  clear hv M1 v
  try dsimp only [Nat.reduceAdd, Option.toList, List.cons_append, List.nil_append, List.drop]
  refine xS.br0 (c := .ne) (off := 5) (l := 3) rfl rfl (fun h4 => ?_) (fun h4 => ?_)
  · have g4 := xt_ne h4
    exact absurd (xif1 g4) hx
  · have g4 := xf_ne h4
    refine xS.s1 rfl rfl ?_
    try dsimp only [Nat.reduceAdd, xi_m1]
    refine xS.ret rfl rfl rfl (fun _ _ => rfl) ?_
    exact ⟨rfl, rfl⟩

set_option maxRecDepth 10000 in
theorem c_X12_put_no (hp1 : p < 4) (hs : g 76 p = -1) : xT (k + 3) 167 [.ref 73, .int (nI p), .int i, .int v] (xH b g l) (fun r M' => M' = xH b (xfR g 1) l ∧ r = some (.int (-3))) := by
  refine xT.of rfl (Nat.le_of_ble_eq_true rfl) ?_
  change xS _ _ 0 [(0, .ref 73), (1, .int (nI p)), (2, .int i), (3, .int v)] [] _ _
  refine xS.s1 rfl rfl ?_
  try dsimp only [Nat.reduceAdd]
  -- 1 yX12_isText
  refine xS.callS rfl rfl rfl ⟨Nat.le_of_ble_eq_true rfl, rfl⟩ (c_X12_isText_in hp1) (fun v M1 hv => ?_)
  rw [hv.1, hv.2]
  clear hv M1 v
  try dsimp only [Nat.reduceAdd, Option.toList, List.cons_append, List.nil_append, List.drop]
  refine xS.br0 (c := .ne) (off := 5) (l := 3) rfl rfl (fun h4 => ?_) (fun h4 => ?_)
  · have g4 := xt_ne h4
    refine xS.s1 rfl rfl ?_
    try dsimp only [Nat.reduceAdd]
    refine xS.gR rfl rfl rfl ⟨by decide, rfl⟩ rfl ?_
    try dsimp only [Nat.reduceAdd]
    refine xS.s1 rfl rfl ?_
    try dsimp only [Nat.reduceAdd]
    refine xS.ia rfl xar_76 (by omega) ?_
    try dsimp only [Nat.reduceAdd]
    refine xS.br0 (c := .ge) (off := 9) (l := 3) rfl rfl (fun h15 => ?_) (fun h15 => ?_)
    · have g15 := xt_ge h15
      exfalso; rw [hs] at g15; exact absurd g15 (by decide)
    · have g15 := xf_ge h15
      refine xS.s1 rfl rfl ?_
      try dsimp only [Nat.reduceAdd]
      refine xS.s1 rfl rfl ?_
      try dsimp only [Nat.reduceAdd, xi_1]
      -- 20 yX12_finds
      refine xS.cv rfl rfl rfl rfl rfl rfl ⟨by decide, rfl, rfl⟩ (c_X12_finds (t := 1) (by decide)) (fun v M1 hv => ?_)
      rw [hv.1, hv.2]
      clear hv M1 v
      try dsimp only [Nat.reduceAdd, Option.toList, List.cons_append, List.nil_append, List.drop]
      refine xS.ret rfl rfl rfl (fun _ _ => rfl) ?_
      exact ⟨rfl, rfl⟩
  · have g4 := xf_ne h4
    exfalso; first | exact absurd g4 (by decide) | (simp (disch := omega) only [Int32.lt_iff_toInt_lt, Int32.le_iff_toInt_le, nI_toInt, Int32.reduceToInt] at g4 <;> omega)

set_option maxRecDepth 10000 in
theorem c_X12_put_bey (hp1 : p < 4) (hs : g 76 p = nI m) (hm : m ≤ 60) (hi : ¬ (0 ≤ i ∧ i < nI m)) : xT (k + 3) 167 [.ref 73, .int (nI p), .int i, .int v] (xH b g l) (fun r M' => M' = xH b (xfR g 2) l ∧ r = some (.int (-3))) := by
  refine xT.of rfl (Nat.le_of_ble_eq_true rfl) ?_
  change xS _ _ 0 [(0, .ref 73), (1, .int (nI p)), (2, .int i), (3, .int v)] [] _ _
  refine xS.s1 rfl rfl ?_
  try dsimp only [Nat.reduceAdd]
  -- 1 yX12_isText
  refine xS.callS rfl rfl rfl ⟨Nat.le_of_ble_eq_true rfl, rfl⟩ (c_X12_isText_in hp1) (fun v M1 hv => ?_)
  rw [hv.1, hv.2]
  clear hv M1 v
  try dsimp only [Nat.reduceAdd, Option.toList, List.cons_append, List.nil_append, List.drop]
  refine xS.br0 (c := .ne) (off := 5) (l := 3) rfl rfl (fun h4 => ?_) (fun h4 => ?_)
  · have g4 := xt_ne h4
    refine xS.s1 rfl rfl ?_
    try dsimp only [Nat.reduceAdd]
    refine xS.gR rfl rfl rfl ⟨by decide, rfl⟩ rfl ?_
    try dsimp only [Nat.reduceAdd]
    refine xS.s1 rfl rfl ?_
    try dsimp only [Nat.reduceAdd]
    refine xS.ia rfl xar_76 (by omega) ?_
    try dsimp only [Nat.reduceAdd]
    refine xS.br0 (c := .ge) (off := 9) (l := 3) rfl rfl (fun h15 => ?_) (fun h15 => ?_)
    · have g15 := xt_ge h15
      refine xS.s1 rfl rfl ?_
      try dsimp only [Nat.reduceAdd]
      refine xS.s1 rfl rfl ?_
      try dsimp only [Nat.reduceAdd, xi_0]
      refine xS.s1 rfl rfl ?_
      try dsimp only [Nat.reduceAdd]
      refine xS.gR rfl rfl rfl ⟨by decide, rfl⟩ rfl ?_
      try dsimp only [Nat.reduceAdd]
      refine xS.s1 rfl rfl ?_
      try dsimp only [Nat.reduceAdd]
      refine xS.ia rfl xar_76 (by omega) ?_
      try dsimp only [Nat.reduceAdd]
      rw [hs]
      refine xS.s1 rfl rfl ?_
      try dsimp only [Nat.reduceAdd, xi_1]
      refine xS.s1 rfl rfl ?_
      try dsimp only [Nat.reduceAdd]
      -- 34 yX12_in
      refine xS.callS rfl rfl rfl ⟨Nat.le_of_ble_eq_true rfl, rfl⟩ (c_in_m (by omega)) (fun v M1 hv => ?_)
      rw [hv.1, hv.2]
      clear hv M1 v
      try dsimp only [Nat.reduceAdd, Option.toList, List.cons_append, List.nil_append, List.drop]
      refine xS.br0 (c := .ne) (off := 9) (l := 3) rfl rfl (fun h37 => ?_) (fun h37 => ?_)
      · have g37 := xt_ne h37
        exact absurd (xif1 g37) hi
      · have g37 := xf_ne h37
        refine xS.s1 rfl rfl ?_
        try dsimp only [Nat.reduceAdd]
        refine xS.s1 rfl rfl ?_
        try dsimp only [Nat.reduceAdd, xi_2]
        -- 42 yX12_finds
        refine xS.cv rfl rfl rfl rfl rfl rfl ⟨by decide, rfl, rfl⟩ (c_X12_finds (t := 2) (by decide)) (fun v M1 hv => ?_)
        rw [hv.1, hv.2]
        clear hv M1 v
        try dsimp only [Nat.reduceAdd, Option.toList, List.cons_append, List.nil_append, List.drop]
        refine xS.ret rfl rfl rfl (fun _ _ => rfl) ?_
        exact ⟨rfl, rfl⟩
    · have g15 := xf_ge h15
      exfalso; rw [hs] at g15; exact absurd g15 (nI_pos (by omega))
  · have g4 := xf_ne h4
    exfalso; first | exact absurd g4 (by decide) | (simp (disch := omega) only [Int32.lt_iff_toInt_lt, Int32.le_iff_toInt_le, nI_toInt, Int32.reduceToInt] at g4 <;> omega)

set_option maxRecDepth 10000 in
theorem c_X12_put_ok (hp1 : p < 4) (hs : g 76 p = nI m) (hm : m ≤ 60) (hi : t < m) : xT (k + 3) 167 [.ref 73, .int (nI p), .int (nI t), .int v] (xH b g l) (fun r M' => M' = xH b (up g 77 (60 * p + t) v.toInt8.toInt32) l ∧ r = some (.int (g 77 (60 * p + t) + 1000))) := by
  refine xT.of rfl (Nat.le_of_ble_eq_true rfl) ?_
  change xS _ _ 0 [(0, .ref 73), (1, .int (nI p)), (2, .int (nI t)), (3, .int v)] [] _ _
  refine xS.s1 rfl rfl ?_
  try dsimp only [Nat.reduceAdd]
  -- 1 yX12_isText
  refine xS.callS rfl rfl rfl ⟨Nat.le_of_ble_eq_true rfl, rfl⟩ (c_X12_isText_in hp1) (fun v M1 hv => ?_)
  rw [hv.1, hv.2]
  clear hv M1 v
  try dsimp only [Nat.reduceAdd, Option.toList, List.cons_append, List.nil_append, List.drop]
  refine xS.br0 (c := .ne) (off := 5) (l := 3) rfl rfl (fun h4 => ?_) (fun h4 => ?_)
  · have g4 := xt_ne h4
    refine xS.s1 rfl rfl ?_
    try dsimp only [Nat.reduceAdd]
    refine xS.gR rfl rfl rfl ⟨by decide, rfl⟩ rfl ?_
    try dsimp only [Nat.reduceAdd]
    refine xS.s1 rfl rfl ?_
    try dsimp only [Nat.reduceAdd]
    refine xS.ia rfl xar_76 (by omega) ?_
    try dsimp only [Nat.reduceAdd]
    refine xS.br0 (c := .ge) (off := 9) (l := 3) rfl rfl (fun h15 => ?_) (fun h15 => ?_)
    · have g15 := xt_ge h15
      refine xS.s1 rfl rfl ?_
      try dsimp only [Nat.reduceAdd]
      refine xS.s1 rfl rfl ?_
      try dsimp only [Nat.reduceAdd, xi_0]
      refine xS.s1 rfl rfl ?_
      try dsimp only [Nat.reduceAdd]
      refine xS.gR rfl rfl rfl ⟨by decide, rfl⟩ rfl ?_
      try dsimp only [Nat.reduceAdd]
      refine xS.s1 rfl rfl ?_
      try dsimp only [Nat.reduceAdd]
      refine xS.ia rfl xar_76 (by omega) ?_
      try dsimp only [Nat.reduceAdd]
      rw [hs]
      refine xS.s1 rfl rfl ?_
      try dsimp only [Nat.reduceAdd, xi_1]
      refine xS.s1 rfl rfl ?_
      try dsimp only [Nat.reduceAdd]
      -- 34 yX12_in
      refine xS.callS rfl rfl rfl ⟨Nat.le_of_ble_eq_true rfl, rfl⟩ (c_in_m1 (by omega) hi) (fun v M1 hv => ?_)
      rw [hv.1, hv.2]
      clear hv M1 v
      try dsimp only [Nat.reduceAdd, Option.toList, List.cons_append, List.nil_append, List.drop]
      refine xS.br0 (c := .ne) (off := 9) (l := 3) rfl rfl (fun h37 => ?_) (fun h37 => ?_)
      · have g37 := xt_ne h37
        refine xS.s1 rfl rfl ?_
        try dsimp only [Nat.reduceAdd]
        refine xS.gR rfl rfl rfl ⟨by decide, rfl⟩ rfl ?_
        try dsimp only [Nat.reduceAdd]
        refine xS.s1 rfl rfl ?_
        try dsimp only [Nat.reduceAdd, xj_60]
        refine xS.s1 rfl rfl ?_
        try dsimp only [Nat.reduceAdd]
        refine xS.s1 rfl rfl ?_
        try dsimp only [Nat.reduceAdd]
        refine xS.s1 rfl rfl ?_
        try dsimp only [Nat.reduceAdd]
        refine xS.s1 rfl rfl ?_
        try dsimp only [Nat.reduceAdd]
        rw [show (((60 * nI p) + nI t) : Int32) = nI ((60 * p) + t) from by simp only [← nI_add, ← pk_mul]; rfl]
        refine xS.ia rfl xar_77 (by omega) ?_
        try dsimp only [Nat.reduceAdd]
        refine xS.s1 rfl rfl ?_
        try dsimp only [Nat.reduceAdd]
        refine xS.s1 rfl rfl ?_
        try dsimp only [Nat.reduceAdd]
        refine xS.gR rfl rfl rfl ⟨by decide, rfl⟩ rfl ?_
        try dsimp only [Nat.reduceAdd]
        refine xS.s1 rfl rfl ?_
        try dsimp only [Nat.reduceAdd, xj_60]
        refine xS.s1 rfl rfl ?_
        try dsimp only [Nat.reduceAdd]
        refine xS.s1 rfl rfl ?_
        try dsimp only [Nat.reduceAdd]
        refine xS.s1 rfl rfl ?_
        try dsimp only [Nat.reduceAdd]
        refine xS.s1 rfl rfl ?_
        try dsimp only [Nat.reduceAdd]
        refine xS.s1 rfl rfl ?_
        try dsimp only [Nat.reduceAdd]
        refine xS.s1 rfl rfl ?_
        try dsimp only [Nat.reduceAdd]
        rw [show (((60 * nI p) + nI t) : Int32) = nI ((60 * p) + t) from by simp only [← nI_add, ← pk_mul]; rfl]
        refine xS.ias rfl xar_77 (by omega) ?_
        try dsimp only [Nat.reduceAdd]
        refine xS.s1 rfl rfl ?_
        try dsimp only [Nat.reduceAdd]
        refine xS.s1 rfl rfl ?_
        try dsimp only [Nat.reduceAdd, xk_1000]
        refine xS.s1 rfl rfl ?_
        try dsimp only [Nat.reduceAdd]
        refine xS.ret rfl rfl rfl (fun _ _ => rfl) ?_
        exact ⟨rfl, rfl⟩
      · have g37 := xf_ne h37
        exfalso; first | exact absurd g37 (by decide) | (simp (disch := omega) only [Int32.lt_iff_toInt_lt, Int32.le_iff_toInt_le, nI_toInt, Int32.reduceToInt] at g37 <;> omega)
    · have g15 := xf_ge h15
      exfalso; rw [hs] at g15; exact absurd g15 (nI_pos (by omega))
  · have g4 := xf_ne h4
    exfalso; first | exact absurd g4 (by decide) | (simp (disch := omega) only [Int32.lt_iff_toInt_lt, Int32.le_iff_toInt_le, nI_toInt, Int32.reduceToInt] at g4 <;> omega)

set_option maxRecDepth 10000 in
theorem c_X12_mean_bad (hx : ¬ (0 ≤ x ∧ x < 6)) : xT (k + 3) 165 [.ref 73, .int x] (xH b g l) (fun r M' => M' = xH b g l ∧ r = some (.int (-1))) := by
  refine xT.of rfl (Nat.le_of_ble_eq_true rfl) ?_
  change xS _ _ 0 [(0, .ref 73), (1, .int x)] [] _ _
  refine xS.s1 rfl rfl ?_
  try dsimp only [Nat.reduceAdd]
  -- 1 yX12_isRow
  refine xS.callS rfl rfl rfl ⟨Nat.le_of_ble_eq_true rfl, rfl⟩ c_X12_isRow (fun v M1 hv => ?_)
  rw [hv.1, hv.2]
  clear hv M1 v
  try dsimp only [Nat.reduceAdd, Option.toList, List.cons_append, List.nil_append, List.drop]
  refine xS.br0 (c := .ne) (off := 5) (l := 3) rfl rfl (fun h4 => ?_) (fun h4 => ?_)
  · have g4 := xt_ne h4
    exact absurd (xif1 g4) hx
  · have g4 := xf_ne h4
    refine xS.s1 rfl rfl ?_
    try dsimp only [Nat.reduceAdd, xi_m1]
    refine xS.ret rfl rfl rfl (fun _ _ => rfl) ?_
    exact ⟨rfl, rfl⟩

set_option maxRecDepth 10000 in
theorem c_X12_mean_no (hp1 : p < 6) (hs : g 74 p = -1) : xT (k + 3) 165 [.ref 73, .int (nI p)] (xH b g l) (fun r M' => M' = xH b (xfR g 1) l ∧ r = some (.int (-3))) := by
  refine xT.of rfl (Nat.le_of_ble_eq_true rfl) ?_
  change xS _ _ 0 [(0, .ref 73), (1, .int (nI p))] [] _ _
  refine xS.s1 rfl rfl ?_
  try dsimp only [Nat.reduceAdd]
  -- 1 yX12_isRow
  refine xS.callS rfl rfl rfl ⟨Nat.le_of_ble_eq_true rfl, rfl⟩ (c_X12_isRow_in hp1) (fun v M1 hv => ?_)
  rw [hv.1, hv.2]
  clear hv M1 v
  try dsimp only [Nat.reduceAdd, Option.toList, List.cons_append, List.nil_append, List.drop]
  refine xS.br0 (c := .ne) (off := 5) (l := 3) rfl rfl (fun h4 => ?_) (fun h4 => ?_)
  · have g4 := xt_ne h4
    refine xS.s1 rfl rfl ?_
    try dsimp only [Nat.reduceAdd]
    refine xS.gR rfl rfl rfl ⟨by decide, rfl⟩ rfl ?_
    try dsimp only [Nat.reduceAdd]
    refine xS.s1 rfl rfl ?_
    try dsimp only [Nat.reduceAdd]
    refine xS.ia rfl xar_74 (by omega) ?_
    try dsimp only [Nat.reduceAdd]
    refine xS.br0 (c := .ge) (off := 9) (l := 3) rfl rfl (fun h15 => ?_) (fun h15 => ?_)
    · have g15 := xt_ge h15
      exfalso; rw [hs] at g15; exact absurd g15 (by decide)
    · have g15 := xf_ge h15
      refine xS.s1 rfl rfl ?_
      try dsimp only [Nat.reduceAdd]
      refine xS.s1 rfl rfl ?_
      try dsimp only [Nat.reduceAdd, xi_1]
      -- 20 yX12_finds
      refine xS.cv rfl rfl rfl rfl rfl rfl ⟨by decide, rfl, rfl⟩ (c_X12_finds (t := 1) (by decide)) (fun v M1 hv => ?_)
      rw [hv.1, hv.2]
      clear hv M1 v
      try dsimp only [Nat.reduceAdd, Option.toList, List.cons_append, List.nil_append, List.drop]
      refine xS.ret rfl rfl rfl (fun _ _ => rfl) ?_
      exact ⟨rfl, rfl⟩
  · have g4 := xf_ne h4
    exfalso; first | exact absurd g4 (by decide) | (simp (disch := omega) only [Int32.lt_iff_toInt_lt, Int32.le_iff_toInt_le, nI_toInt, Int32.reduceToInt] at g4 <;> omega)

set_option maxRecDepth 10000 in
theorem c_X12_mean_nought (hp1 : p < 6) (hs : g 74 p = nI 0) : xT (k + 3) 165 [.ref 73, .int (nI p)] (xH b g l) (fun r M' => M' = xH b (xfR g 4) l ∧ r = some (.int (-3))) := by
  refine xT.of rfl (Nat.le_of_ble_eq_true rfl) ?_
  change xS _ _ 0 [(0, .ref 73), (1, .int (nI p))] [] _ _
  refine xS.s1 rfl rfl ?_
  try dsimp only [Nat.reduceAdd]
  -- 1 yX12_isRow
  refine xS.callS rfl rfl rfl ⟨Nat.le_of_ble_eq_true rfl, rfl⟩ (c_X12_isRow_in hp1) (fun v M1 hv => ?_)
  rw [hv.1, hv.2]
  clear hv M1 v
  try dsimp only [Nat.reduceAdd, Option.toList, List.cons_append, List.nil_append, List.drop]
  refine xS.br0 (c := .ne) (off := 5) (l := 3) rfl rfl (fun h4 => ?_) (fun h4 => ?_)
  · have g4 := xt_ne h4
    refine xS.s1 rfl rfl ?_
    try dsimp only [Nat.reduceAdd]
    refine xS.gR rfl rfl rfl ⟨by decide, rfl⟩ rfl ?_
    try dsimp only [Nat.reduceAdd]
    refine xS.s1 rfl rfl ?_
    try dsimp only [Nat.reduceAdd]
    refine xS.ia rfl xar_74 (by omega) ?_
    try dsimp only [Nat.reduceAdd]
    refine xS.br0 (c := .ge) (off := 9) (l := 3) rfl rfl (fun h15 => ?_) (fun h15 => ?_)
    · have g15 := xt_ge h15
      refine xS.s1 rfl rfl ?_
      try dsimp only [Nat.reduceAdd]
      refine xS.gR rfl rfl rfl ⟨by decide, rfl⟩ rfl ?_
      try dsimp only [Nat.reduceAdd]
      refine xS.s1 rfl rfl ?_
      try dsimp only [Nat.reduceAdd]
      refine xS.ia rfl xar_74 (by omega) ?_
      try dsimp only [Nat.reduceAdd]
      refine xS.br0 (c := .ne) (off := 9) (l := 3) rfl rfl (fun h30 => ?_) (fun h30 => ?_)
      · have g30 := xt_ne h30
        exfalso; rw [hs] at g30; exact absurd g30 (by decide)
      · have g30 := xf_ne h30
        refine xS.s1 rfl rfl ?_
        try dsimp only [Nat.reduceAdd]
        refine xS.s1 rfl rfl ?_
        try dsimp only [Nat.reduceAdd, xi_4]
        -- 35 yX12_finds
        refine xS.cv rfl rfl rfl rfl rfl rfl ⟨by decide, rfl, rfl⟩ (c_X12_finds (t := 4) (by decide)) (fun v M1 hv => ?_)
        rw [hv.1, hv.2]
        clear hv M1 v
        try dsimp only [Nat.reduceAdd, Option.toList, List.cons_append, List.nil_append, List.drop]
        refine xS.ret rfl rfl rfl (fun _ _ => rfl) ?_
        exact ⟨rfl, rfl⟩
    · have g15 := xf_ge h15
      exfalso; rw [hs] at g15; exact absurd g15 (by decide)
  · have g4 := xf_ne h4
    exfalso; first | exact absurd g4 (by decide) | (simp (disch := omega) only [Int32.lt_iff_toInt_lt, Int32.le_iff_toInt_le, nI_toInt, Int32.reduceToInt] at g4 <;> omega)

set_option maxRecDepth 10000 in
theorem c_X12_mean_ok (hp1 : p < 6) (hs : g 74 p = nI m) (hm : m ≤ 40) (hm0 : 0 < m) : xT (k + 3) 165 [.ref 73, .int (nI p)] (xH b g l) (fun r M' => M' = xH b (up g 73 20 (xmean (fun i => g 75 (40 * p + i)) m)) l ∧ r = some (.int 1)) := by
  refine xT.of rfl (Nat.le_of_ble_eq_true rfl) ?_
  change xS _ _ 0 [(0, .ref 73), (1, .int (nI p))] [] _ _
  refine xS.s1 rfl rfl ?_
  try dsimp only [Nat.reduceAdd]
  -- 1 yX12_isRow
  refine xS.callS rfl rfl rfl ⟨Nat.le_of_ble_eq_true rfl, rfl⟩ (c_X12_isRow_in hp1) (fun v M1 hv => ?_)
  rw [hv.1, hv.2]
  clear hv M1 v
  try dsimp only [Nat.reduceAdd, Option.toList, List.cons_append, List.nil_append, List.drop]
  refine xS.br0 (c := .ne) (off := 5) (l := 3) rfl rfl (fun h4 => ?_) (fun h4 => ?_)
  · have g4 := xt_ne h4
    refine xS.s1 rfl rfl ?_
    try dsimp only [Nat.reduceAdd]
    refine xS.gR rfl rfl rfl ⟨by decide, rfl⟩ rfl ?_
    try dsimp only [Nat.reduceAdd]
    refine xS.s1 rfl rfl ?_
    try dsimp only [Nat.reduceAdd]
    refine xS.ia rfl xar_74 (by omega) ?_
    try dsimp only [Nat.reduceAdd]
    refine xS.br0 (c := .ge) (off := 9) (l := 3) rfl rfl (fun h15 => ?_) (fun h15 => ?_)
    · have g15 := xt_ge h15
      refine xS.s1 rfl rfl ?_
      try dsimp only [Nat.reduceAdd]
      refine xS.gR rfl rfl rfl ⟨by decide, rfl⟩ rfl ?_
      try dsimp only [Nat.reduceAdd]
      refine xS.s1 rfl rfl ?_
      try dsimp only [Nat.reduceAdd]
      refine xS.ia rfl xar_74 (by omega) ?_
      try dsimp only [Nat.reduceAdd]
      refine xS.br0 (c := .ne) (off := 9) (l := 3) rfl rfl (fun h30 => ?_) (fun h30 => ?_)
      · have g30 := xt_ne h30
        refine xS.s1 rfl rfl ?_
        try dsimp only [Nat.reduceAdd]
        refine xS.s1 rfl rfl ?_
        try dsimp only [Nat.reduceAdd]
        refine xS.s1 rfl rfl ?_
        try dsimp only [Nat.reduceAdd, xi_0]
        refine xS.s1 rfl rfl ?_
        try dsimp only [Nat.reduceAdd]
        refine xS.pick [0, 1, 2, 3] rfl ?_
        refine xS.loop (σ := Unit) (m) (fun j S => [(4, .int (nI j)), (2, .long (xsum (fun i => g 75 (40 * p + i)) j)), (0, .ref 73), (1, .int (nI p))]) (fun _ _ => xH b g l) (fun _ _ => True) (()) (rfl) (rfl) (trivial) ?_
        intro j S hj hI ih
        try dsimp only
        refine xS.s1 rfl rfl ?_
        try dsimp only [Nat.reduceAdd]
        refine xS.s1 rfl rfl ?_
        try dsimp only [Nat.reduceAdd]
        refine xS.gR rfl rfl rfl ⟨by decide, rfl⟩ rfl ?_
        try dsimp only [Nat.reduceAdd]
        refine xS.s1 rfl rfl ?_
        try dsimp only [Nat.reduceAdd]
        refine xS.ia rfl xar_74 (by omega) ?_
        try dsimp only [Nat.reduceAdd]
        refine xS.br (c := .ge) (off := 25) (l := 3) rfl rfl (fun h52 => ?_) (fun h52 => ?_)
        · have g52 := xt_ge h52
          rw [hs] at g52
          have e := xnle g52 (by omega) (by omega)
          have e2 : m = j := by omega
          subst e2
          refine xS.s1 rfl rfl ?_
          try dsimp only [Nat.reduceAdd]
          refine xS.s1 rfl rfl ?_
          try dsimp only [Nat.reduceAdd]
          refine xS.s1 rfl rfl ?_
          try dsimp only [Nat.reduceAdd]
          refine xS.gR rfl rfl rfl ⟨by decide, rfl⟩ rfl ?_
          try dsimp only [Nat.reduceAdd]
          refine xS.s1 rfl rfl ?_
          try dsimp only [Nat.reduceAdd]
          refine xS.ia rfl xar_74 (by omega) ?_
          try dsimp only [Nat.reduceAdd]
          rw [hs]
          refine xS.s1 rfl rfl ?_
          try dsimp only [Nat.reduceAdd]
          refine xS.ldiv rfl (nI_l0 hm0 (by omega)) ?_
          try dsimp only [Nat.reduceAdd]
          refine xS.s1 rfl rfl ?_
          try dsimp only [Nat.reduceAdd]
          -- 88 yX12_tells
          refine xS.cv rfl rfl rfl rfl rfl rfl ⟨by decide, rfl, rfl⟩ c_X12_tells (fun v M1 hv => ?_)
          rw [hv.1, hv.2]
          clear hv M1 v
          try dsimp only [Nat.reduceAdd, Option.toList, List.cons_append, List.nil_append, List.drop]
          refine xS.ret rfl rfl rfl (fun _ _ => rfl) ?_
          exact ⟨rfl, rfl⟩
        · have g52 := xf_ge h52
          rw [hs] at g52
          have hlt := xnlt g52 (by omega) (by omega)
          refine xS.s1 rfl rfl ?_
          try dsimp only [Nat.reduceAdd]
          refine xS.s1 rfl rfl ?_
          try dsimp only [Nat.reduceAdd]
          refine xS.gR rfl rfl rfl ⟨by decide, rfl⟩ rfl ?_
          try dsimp only [Nat.reduceAdd]
          refine xS.s1 rfl rfl ?_
          try dsimp only [Nat.reduceAdd, xj_40]
          refine xS.s1 rfl rfl ?_
          try dsimp only [Nat.reduceAdd]
          refine xS.s1 rfl rfl ?_
          try dsimp only [Nat.reduceAdd]
          refine xS.s1 rfl rfl ?_
          try dsimp only [Nat.reduceAdd]
          refine xS.s1 rfl rfl ?_
          try dsimp only [Nat.reduceAdd]
          rw [show (((40 * nI p) + nI j) : Int32) = nI ((40 * p) + j) from by simp only [← nI_add, ← pk_mul]; rfl]
          refine xS.ia rfl xar_75 (by omega) ?_
          try dsimp only [Nat.reduceAdd]
          refine xS.s1 rfl rfl ?_
          try dsimp only [Nat.reduceAdd]
          refine xS.s1 rfl rfl ?_
          try dsimp only [Nat.reduceAdd]
          refine xS.s1 rfl rfl ?_
          try dsimp only [Nat.reduceAdd]
          refine xS.s1 rfl rfl ?_
          try dsimp only [Nat.reduceAdd, xi_1]
          rw [nI_1]
          refine xS.s1 rfl rfl ?_
          try dsimp only [Nat.reduceAdd]
          refine xS.pick [0, 1, 2, 3] rfl ?_
          exact ih () (by omega) trivial
      · have g30 := xf_ne h30
        exfalso; rw [hs] at g30; exact nI_ne0 hm0 (by omega) g30
    · have g15 := xf_ge h15
      exfalso; rw [hs] at g15; exact absurd g15 (nI_pos (by omega))
  · have g4 := xf_ne h4
    exfalso; first | exact absurd g4 (by decide) | (simp (disch := omega) only [Int32.lt_iff_toInt_lt, Int32.le_iff_toInt_le, nI_toInt, Int32.reduceToInt] at g4 <;> omega)

set_option maxRecDepth 10000 in
theorem c_X12_mirrored  : xT (k + 1) 180 [.int x] (xH b g l) (fun r M' => M' = xH b g l ∧ r = some (.int (xmir x))) := by
  refine xT.of rfl (Nat.le_of_ble_eq_true rfl) ?_
  change xS _ _ 0 [(0, .int x)] [] _ _
  refine xS.s1 rfl rfl ?_
  try dsimp only [Nat.reduceAdd]
  refine xS.s1 rfl rfl ?_
  try dsimp only [Nat.reduceAdd, xi_1]
  refine xS.br (c := .ne) (off := 7) (l := 3) rfl rfl (fun h2 => ?_) (fun h2 => ?_)
  · have g2 := xt_ne h2
    refine xS.s1 rfl rfl ?_
    try dsimp only [Nat.reduceAdd]
    refine xS.s1 rfl rfl ?_
    try dsimp only [Nat.reduceAdd, xi_2]
    refine xS.br (c := .ne) (off := 7) (l := 3) rfl rfl (fun h11 => ?_) (fun h11 => ?_)
    · have g11 := xt_ne h11
      refine xS.s1 rfl rfl ?_
      try dsimp only [Nat.reduceAdd]
      refine xS.ret rfl rfl rfl (fun _ _ => rfl) ?_
      refine ⟨rfl, ?_⟩
      unfold xmir
      first | (simp [g2, g11]; done) | (simp [g2, g11]; decide)
    · have g11 := xf_ne h11
      refine xS.s1 rfl rfl ?_
      try dsimp only [Nat.reduceAdd, xi_1]
      refine xS.s1 rfl rfl ?_
      try dsimp only [Nat.reduceAdd]
      refine xS.ret rfl rfl rfl (fun _ _ => rfl) ?_
      refine ⟨rfl, ?_⟩
      unfold xmir
      first | (simp [g2, g11]; done) | (simp [g2, g11]; decide)
  · have g2 := xf_ne h2
    refine xS.s1 rfl rfl ?_
    try dsimp only [Nat.reduceAdd, xi_2]
    refine xS.s1 rfl rfl ?_
    try dsimp only [Nat.reduceAdd]
    refine xS.ret rfl rfl rfl (fun _ _ => rfl) ?_
    refine ⟨rfl, ?_⟩
    unfold xmir
    first | (simp [g2]; done) | (simp [g2]; decide)

set_option maxRecDepth 10000 in
theorem c_X12_showsBy_0 (hA : xar a n) (hR : xRr g h tx G T Lw) (ht : t < 2 ^ 30) (hd4 : d < 4) (hn : t < n) (hf : g a t = nI (f t)) (hf6 : f t < 6) : xT (k + 2) 181 [.ref 73, .int (nI 0), .int (nI d), .ref a, .int (nI t)] (xH b g l) (fun r M' => M' = xH b g l ∧ r = some (.int (xshw h 0 d f t))) := by
  refine xT.of rfl (Nat.le_of_ble_eq_true rfl) ?_
  change xS _ _ 0 [(0, .ref 73), (1, .int (nI 0)), (2, .int (nI d)), (3, .ref a), (4, .int (nI t))] [] _ _
  refine xS.s1 rfl rfl ?_
  try dsimp only [Nat.reduceAdd]
  refine xS.s1 rfl rfl ?_
  try dsimp only [Nat.reduceAdd, xi_1]
  refine xS.br (c := .eq) (off := 8) (l := 3) rfl rfl (fun h2 => ?_) (fun h2 => ?_)
  · have g2 := xt_eq h2
    exfalso; first | exact absurd g2 (by decide) | (simp (disch := omega) only [Int32.lt_iff_toInt_lt, Int32.le_iff_toInt_le, nI_toInt, Int32.reduceToInt] at g2 <;> omega)
  · have g2 := xf_eq h2
    refine xS.s1 rfl rfl ?_
    try dsimp only [Nat.reduceAdd]
    refine xS.s1 rfl rfl ?_
    try dsimp only [Nat.reduceAdd, xi_4]
    refine xS.br (c := .ne) (off := 7) (l := 3) rfl rfl (fun h7 => ?_) (fun h7 => ?_)
    · have g7 := xt_ne h7
      refine xS.s1 rfl rfl ?_
      try dsimp only [Nat.reduceAdd, xi_0]
      refine xS.s1 rfl rfl ?_
      try dsimp only [Nat.reduceAdd]
      refine xS.s1 rfl rfl ?_
      try dsimp only [Nat.reduceAdd]
      refine xS.br0 (c := .eq) (off := 10) (l := 3) rfl rfl (fun h19 => ?_) (fun h19 => ?_)
      · have g19 := xt_eq h19
        refine xS.s1 rfl rfl ?_
        try dsimp only [Nat.reduceAdd]
        refine xS.s1 rfl rfl ?_
        try dsimp only [Nat.reduceAdd]
        refine xS.s1 rfl rfl ?_
        try dsimp only [Nat.reduceAdd]
        refine xS.br0 (c := .ge) (off := 7) (l := 3) rfl rfl (fun h35 => ?_) (fun h35 => ?_)
        · have g35 := xt_ge h35
          refine xS.s1 rfl rfl ?_
          try dsimp only [Nat.reduceAdd]
          refine xS.s1 rfl rfl ?_
          try dsimp only [Nat.reduceAdd]
          refine xS.ia rfl hA (by omega) ?_
          try dsimp only [Nat.reduceAdd]
          rw [hf]
          refine xS.s1 rfl rfl ?_
          try dsimp only [Nat.reduceAdd]
          refine xS.s1 rfl rfl ?_
          try dsimp only [Nat.reduceAdd]
          refine xS.s1 rfl rfl ?_
          try dsimp only [Nat.reduceAdd, xi_4]
          refine xS.br (c := .ne) (off := 11) (l := 3) rfl rfl (fun h50 => ?_) (fun h50 => ?_)
          · have g50 := xt_ne h50
            refine xS.s1 rfl rfl ?_
            try dsimp only [Nat.reduceAdd]
            refine xS.s1 rfl rfl ?_
            try dsimp only [Nat.reduceAdd, xi_2]
            refine xS.br (c := .ne) (off := 13) (l := 3) rfl rfl (fun h63 => ?_) (fun h63 => ?_)
            · have g63 := xt_ne h63
              refine xS.s1 rfl rfl ?_
              try dsimp only [Nat.reduceAdd]
              refine xS.s1 rfl rfl ?_
              try dsimp only [Nat.reduceAdd, xi_3]
              refine xS.br (c := .eq) (off := 16) (l := 3) rfl rfl (fun h78 => ?_) (fun h78 => ?_)
              · have g78 := xt_eq h78
                exfalso; first | exact absurd g78 (by decide) | (simp (disch := omega) only [Int32.lt_iff_toInt_lt, Int32.le_iff_toInt_le, nI_toInt, Int32.reduceToInt] at g78 <;> omega)
              · have g78 := xf_eq h78
                refine xS.s1 rfl rfl ?_
                try dsimp only [Nat.reduceAdd]
                refine xS.s1 rfl rfl ?_
                try dsimp only [Nat.reduceAdd, xi_5]
                refine xS.br (c := .ne) (off := 15) (l := 3) rfl rfl (fun h83 => ?_) (fun h83 => ?_)
                · have g83 := xt_ne h83
                  refine xS.s1 rfl rfl ?_
                  try dsimp only [Nat.reduceAdd, xi_0]
                  refine xS.s1 rfl rfl ?_
                  try dsimp only [Nat.reduceAdd]
                  refine xS.s1 rfl rfl ?_
                  try dsimp only [Nat.reduceAdd]
                  refine xS.br0 (c := .eq) (off := 13) (l := 3) rfl rfl (fun h103 => ?_) (fun h103 => ?_)
                  · have g103 := xt_eq h103
                    refine xS.s1 rfl rfl ?_
                    try dsimp only [Nat.reduceAdd]
                    -- 118 yX12_mirrored
                    refine xS.callS rfl rfl rfl ⟨Nat.le_of_ble_eq_true rfl, rfl⟩ c_X12_mirrored (fun v M1 hv => ?_)
                    rw [hv.1, hv.2]
                    clear hv M1 v
                    try dsimp only [Nat.reduceAdd, Option.toList, List.cons_append, List.nil_append, List.drop]
                    refine xS.ret rfl rfl rfl (fun _ _ => rfl) ?_
                    refine ⟨rfl, ?_⟩
                    simp [xshw, xsrc, xseen, xth]
                    try rfl
                  · have g103 := xf_eq h103
                    exfalso; first | exact absurd g103 (by decide) | (simp (disch := omega) only [Int32.lt_iff_toInt_lt, Int32.le_iff_toInt_le, nI_toInt, Int32.reduceToInt] at g103 <;> omega)
                · have g83 := xf_ne h83
                  exfalso; first | exact absurd g83 (by decide) | (simp (disch := omega) only [Int32.lt_iff_toInt_lt, Int32.le_iff_toInt_le, nI_toInt, Int32.reduceToInt] at g83 <;> omega)
            · have g63 := xf_ne h63
              exfalso; first | exact absurd g63 (by decide) | (simp (disch := omega) only [Int32.lt_iff_toInt_lt, Int32.le_iff_toInt_le, nI_toInt, Int32.reduceToInt] at g63 <;> omega)
          · have g50 := xf_ne h50
            exfalso; first | exact absurd g50 (by decide) | (simp (disch := omega) only [Int32.lt_iff_toInt_lt, Int32.le_iff_toInt_le, nI_toInt, Int32.reduceToInt] at g50 <;> omega)
        · have g35 := xf_ge h35
          exact absurd g35 (nI_pos (by omega))
      · have g19 := xf_eq h19
        exfalso; first | exact absurd g19 (by decide) | (simp (disch := omega) only [Int32.lt_iff_toInt_lt, Int32.le_iff_toInt_le, nI_toInt, Int32.reduceToInt] at g19 <;> omega)
    · have g7 := xf_ne h7
      exfalso; first | exact absurd g7 (by decide) | (simp (disch := omega) only [Int32.lt_iff_toInt_lt, Int32.le_iff_toInt_le, nI_toInt, Int32.reduceToInt] at g7 <;> omega)

set_option maxRecDepth 10000 in
theorem c_X12_showsBy_1a (hA : xar a n) (hR : xRr g h tx G T Lw) (ht : t < 2 ^ 30) (hd4 : d < 4) (hdt : t < d) : xT (k + 2) 181 [.ref 73, .int (nI 1), .int (nI d), .ref a, .int (nI t)] (xH b g l) (fun r M' => M' = xH b g l ∧ r = some (.int (xshw h 1 d f t))) := by
  refine xT.of rfl (Nat.le_of_ble_eq_true rfl) ?_
  change xS _ _ 0 [(0, .ref 73), (1, .int (nI 1)), (2, .int (nI d)), (3, .ref a), (4, .int (nI t))] [] _ _
  refine xS.s1 rfl rfl ?_
  try dsimp only [Nat.reduceAdd]
  refine xS.s1 rfl rfl ?_
  try dsimp only [Nat.reduceAdd, xi_1]
  refine xS.br (c := .eq) (off := 8) (l := 3) rfl rfl (fun h2 => ?_) (fun h2 => ?_)
  · have g2 := xt_eq h2
    refine xS.s1 rfl rfl ?_
    try dsimp only [Nat.reduceAdd, xi_1]
    refine xS.s1 rfl rfl ?_
    try dsimp only [Nat.reduceAdd]
    refine xS.s1 rfl rfl ?_
    try dsimp only [Nat.reduceAdd]
    refine xS.s1 rfl rfl ?_
    try dsimp only [Nat.reduceAdd]
    refine xS.br0 (c := .eq) (off := 10) (l := 3) rfl rfl (fun h19 => ?_) (fun h19 => ?_)
    · have g19 := xt_eq h19
      exfalso; first | exact absurd g19 (by decide) | (simp (disch := omega) only [Int32.lt_iff_toInt_lt, Int32.le_iff_toInt_le, nI_toInt, Int32.reduceToInt] at g19 <;> omega)
    · have g19 := xf_eq h19
      refine xS.s1 rfl rfl ?_
      try dsimp only [Nat.reduceAdd]
      refine xS.s1 rfl rfl ?_
      try dsimp only [Nat.reduceAdd]
      refine xS.s1 rfl rfl ?_
      try dsimp only [Nat.reduceAdd]
      refine xS.s1 rfl rfl ?_
      try dsimp only [Nat.reduceAdd]
      refine xS.s1 rfl rfl ?_
      try dsimp only [Nat.reduceAdd]
      refine xS.s1 rfl rfl ?_
      try dsimp only [Nat.reduceAdd]
      refine xS.br0 (c := .ge) (off := 7) (l := 3) rfl rfl (fun h35 => ?_) (fun h35 => ?_)
      · have g35 := xt_ge h35
        exact absurd (pk_sneg (by omega) hdt) (Int32.not_lt.mpr g35)
      · have g35 := xf_ge h35
        refine xS.s1 rfl rfl ?_
        try dsimp only [Nat.reduceAdd, xi_0]
        refine xS.s1 rfl rfl ?_
        try dsimp only [Nat.reduceAdd]
        refine xS.s1 rfl rfl ?_
        try dsimp only [Nat.reduceAdd]
        refine xS.s1 rfl rfl ?_
        try dsimp only [Nat.reduceAdd]
        refine xS.s1 rfl rfl ?_
        try dsimp only [Nat.reduceAdd, xi_4]
        refine xS.br (c := .ne) (off := 11) (l := 3) rfl rfl (fun h50 => ?_) (fun h50 => ?_)
        · have g50 := xt_ne h50
          refine xS.s1 rfl rfl ?_
          try dsimp only [Nat.reduceAdd]
          refine xS.s1 rfl rfl ?_
          try dsimp only [Nat.reduceAdd, xi_2]
          refine xS.br (c := .ne) (off := 13) (l := 3) rfl rfl (fun h63 => ?_) (fun h63 => ?_)
          · have g63 := xt_ne h63
            refine xS.s1 rfl rfl ?_
            try dsimp only [Nat.reduceAdd]
            refine xS.s1 rfl rfl ?_
            try dsimp only [Nat.reduceAdd, xi_3]
            refine xS.br (c := .eq) (off := 16) (l := 3) rfl rfl (fun h78 => ?_) (fun h78 => ?_)
            · have g78 := xt_eq h78
              exfalso; first | exact absurd g78 (by decide) | (simp (disch := omega) only [Int32.lt_iff_toInt_lt, Int32.le_iff_toInt_le, nI_toInt, Int32.reduceToInt] at g78 <;> omega)
            · have g78 := xf_eq h78
              refine xS.s1 rfl rfl ?_
              try dsimp only [Nat.reduceAdd]
              refine xS.s1 rfl rfl ?_
              try dsimp only [Nat.reduceAdd, xi_5]
              refine xS.br (c := .ne) (off := 15) (l := 3) rfl rfl (fun h83 => ?_) (fun h83 => ?_)
              · have g83 := xt_ne h83
                refine xS.s1 rfl rfl ?_
                try dsimp only [Nat.reduceAdd, xi_0]
                refine xS.s1 rfl rfl ?_
                try dsimp only [Nat.reduceAdd]
                refine xS.s1 rfl rfl ?_
                try dsimp only [Nat.reduceAdd]
                refine xS.br0 (c := .eq) (off := 13) (l := 3) rfl rfl (fun h103 => ?_) (fun h103 => ?_)
                · have g103 := xt_eq h103
                  refine xS.s1 rfl rfl ?_
                  try dsimp only [Nat.reduceAdd]
                  -- 118 yX12_mirrored
                  refine xS.callS rfl rfl rfl ⟨Nat.le_of_ble_eq_true rfl, rfl⟩ c_X12_mirrored (fun v M1 hv => ?_)
                  rw [hv.1, hv.2]
                  clear hv M1 v
                  try dsimp only [Nat.reduceAdd, Option.toList, List.cons_append, List.nil_append, List.drop]
                  refine xS.ret rfl rfl rfl (fun _ _ => rfl) ?_
                  refine ⟨rfl, ?_⟩
                  simp [xshw, xsrc, xseen, xth, hdt]
                  try rfl
                · have g103 := xf_eq h103
                  exfalso; first | exact absurd g103 (by decide) | (simp (disch := omega) only [Int32.lt_iff_toInt_lt, Int32.le_iff_toInt_le, nI_toInt, Int32.reduceToInt] at g103 <;> omega)
              · have g83 := xf_ne h83
                exfalso; first | exact absurd g83 (by decide) | (simp (disch := omega) only [Int32.lt_iff_toInt_lt, Int32.le_iff_toInt_le, nI_toInt, Int32.reduceToInt] at g83 <;> omega)
          · have g63 := xf_ne h63
            exfalso; first | exact absurd g63 (by decide) | (simp (disch := omega) only [Int32.lt_iff_toInt_lt, Int32.le_iff_toInt_le, nI_toInt, Int32.reduceToInt] at g63 <;> omega)
        · have g50 := xf_ne h50
          exfalso; first | exact absurd g50 (by decide) | (simp (disch := omega) only [Int32.lt_iff_toInt_lt, Int32.le_iff_toInt_le, nI_toInt, Int32.reduceToInt] at g50 <;> omega)
  · have g2 := xf_eq h2
    exfalso; first | exact absurd g2 (by decide) | (simp (disch := omega) only [Int32.lt_iff_toInt_lt, Int32.le_iff_toInt_le, nI_toInt, Int32.reduceToInt] at g2 <;> omega)

set_option maxRecDepth 10000 in
theorem c_X12_showsBy_1b (hA : xar a n) (hR : xRr g h tx G T Lw) (ht : t < 2 ^ 30) (hd4 : d < 4) (hdt : d ≤ t) (hn : t - d < n) (hf : g a (t - d) = nI (f (t - d))) (hf6 : f (t - d) < 6) : xT (k + 2) 181 [.ref 73, .int (nI 1), .int (nI d), .ref a, .int (nI t)] (xH b g l) (fun r M' => M' = xH b g l ∧ r = some (.int (xshw h 1 d f t))) := by
  refine xT.of rfl (Nat.le_of_ble_eq_true rfl) ?_
  change xS _ _ 0 [(0, .ref 73), (1, .int (nI 1)), (2, .int (nI d)), (3, .ref a), (4, .int (nI t))] [] _ _
  refine xS.s1 rfl rfl ?_
  try dsimp only [Nat.reduceAdd]
  refine xS.s1 rfl rfl ?_
  try dsimp only [Nat.reduceAdd, xi_1]
  refine xS.br (c := .eq) (off := 8) (l := 3) rfl rfl (fun h2 => ?_) (fun h2 => ?_)
  · have g2 := xt_eq h2
    refine xS.s1 rfl rfl ?_
    try dsimp only [Nat.reduceAdd, xi_1]
    refine xS.s1 rfl rfl ?_
    try dsimp only [Nat.reduceAdd]
    refine xS.s1 rfl rfl ?_
    try dsimp only [Nat.reduceAdd]
    refine xS.s1 rfl rfl ?_
    try dsimp only [Nat.reduceAdd]
    refine xS.br0 (c := .eq) (off := 10) (l := 3) rfl rfl (fun h19 => ?_) (fun h19 => ?_)
    · have g19 := xt_eq h19
      exfalso; first | exact absurd g19 (by decide) | (simp (disch := omega) only [Int32.lt_iff_toInt_lt, Int32.le_iff_toInt_le, nI_toInt, Int32.reduceToInt] at g19 <;> omega)
    · have g19 := xf_eq h19
      refine xS.s1 rfl rfl ?_
      try dsimp only [Nat.reduceAdd]
      refine xS.s1 rfl rfl ?_
      try dsimp only [Nat.reduceAdd]
      refine xS.s1 rfl rfl ?_
      try dsimp only [Nat.reduceAdd]
      rw [pk_sub hdt]
      refine xS.s1 rfl rfl ?_
      try dsimp only [Nat.reduceAdd]
      refine xS.s1 rfl rfl ?_
      try dsimp only [Nat.reduceAdd]
      refine xS.s1 rfl rfl ?_
      try dsimp only [Nat.reduceAdd]
      refine xS.br0 (c := .ge) (off := 7) (l := 3) rfl rfl (fun h35 => ?_) (fun h35 => ?_)
      · have g35 := xt_ge h35
        refine xS.s1 rfl rfl ?_
        try dsimp only [Nat.reduceAdd]
        refine xS.s1 rfl rfl ?_
        try dsimp only [Nat.reduceAdd]
        refine xS.ia rfl hA (by omega) ?_
        try dsimp only [Nat.reduceAdd]
        rw [hf]
        refine xS.s1 rfl rfl ?_
        try dsimp only [Nat.reduceAdd]
        refine xS.s1 rfl rfl ?_
        try dsimp only [Nat.reduceAdd]
        refine xS.s1 rfl rfl ?_
        try dsimp only [Nat.reduceAdd, xi_4]
        refine xS.br (c := .ne) (off := 11) (l := 3) rfl rfl (fun h50 => ?_) (fun h50 => ?_)
        · have g50 := xt_ne h50
          refine xS.s1 rfl rfl ?_
          try dsimp only [Nat.reduceAdd]
          refine xS.s1 rfl rfl ?_
          try dsimp only [Nat.reduceAdd, xi_2]
          refine xS.br (c := .ne) (off := 13) (l := 3) rfl rfl (fun h63 => ?_) (fun h63 => ?_)
          · have g63 := xt_ne h63
            refine xS.s1 rfl rfl ?_
            try dsimp only [Nat.reduceAdd]
            refine xS.s1 rfl rfl ?_
            try dsimp only [Nat.reduceAdd, xi_3]
            refine xS.br (c := .eq) (off := 16) (l := 3) rfl rfl (fun h78 => ?_) (fun h78 => ?_)
            · have g78 := xt_eq h78
              exfalso; first | exact absurd g78 (by decide) | (simp (disch := omega) only [Int32.lt_iff_toInt_lt, Int32.le_iff_toInt_le, nI_toInt, Int32.reduceToInt] at g78 <;> omega)
            · have g78 := xf_eq h78
              refine xS.s1 rfl rfl ?_
              try dsimp only [Nat.reduceAdd]
              refine xS.s1 rfl rfl ?_
              try dsimp only [Nat.reduceAdd, xi_5]
              refine xS.br (c := .ne) (off := 15) (l := 3) rfl rfl (fun h83 => ?_) (fun h83 => ?_)
              · have g83 := xt_ne h83
                refine xS.s1 rfl rfl ?_
                try dsimp only [Nat.reduceAdd, xi_0]
                refine xS.s1 rfl rfl ?_
                try dsimp only [Nat.reduceAdd]
                refine xS.s1 rfl rfl ?_
                try dsimp only [Nat.reduceAdd]
                refine xS.br0 (c := .eq) (off := 13) (l := 3) rfl rfl (fun h103 => ?_) (fun h103 => ?_)
                · have g103 := xt_eq h103
                  refine xS.s1 rfl rfl ?_
                  try dsimp only [Nat.reduceAdd]
                  -- 118 yX12_mirrored
                  refine xS.callS rfl rfl rfl ⟨Nat.le_of_ble_eq_true rfl, rfl⟩ c_X12_mirrored (fun v M1 hv => ?_)
                  rw [hv.1, hv.2]
                  clear hv M1 v
                  try dsimp only [Nat.reduceAdd, Option.toList, List.cons_append, List.nil_append, List.drop]
                  refine xS.ret rfl rfl rfl (fun _ _ => rfl) ?_
                  refine ⟨rfl, ?_⟩
                  simp [xshw, xsrc, xseen, xth, Nat.not_lt.mpr hdt]
                  try rfl
                · have g103 := xf_eq h103
                  exfalso; first | exact absurd g103 (by decide) | (simp (disch := omega) only [Int32.lt_iff_toInt_lt, Int32.le_iff_toInt_le, nI_toInt, Int32.reduceToInt] at g103 <;> omega)
              · have g83 := xf_ne h83
                exfalso; first | exact absurd g83 (by decide) | (simp (disch := omega) only [Int32.lt_iff_toInt_lt, Int32.le_iff_toInt_le, nI_toInt, Int32.reduceToInt] at g83 <;> omega)
          · have g63 := xf_ne h63
            exfalso; first | exact absurd g63 (by decide) | (simp (disch := omega) only [Int32.lt_iff_toInt_lt, Int32.le_iff_toInt_le, nI_toInt, Int32.reduceToInt] at g63 <;> omega)
        · have g50 := xf_ne h50
          exfalso; first | exact absurd g50 (by decide) | (simp (disch := omega) only [Int32.lt_iff_toInt_lt, Int32.le_iff_toInt_le, nI_toInt, Int32.reduceToInt] at g50 <;> omega)
      · have g35 := xf_ge h35
        exact absurd g35 (nI_pos (by omega))
  · have g2 := xf_eq h2
    exfalso; first | exact absurd g2 (by decide) | (simp (disch := omega) only [Int32.lt_iff_toInt_lt, Int32.le_iff_toInt_le, nI_toInt, Int32.reduceToInt] at g2 <;> omega)

set_option maxRecDepth 10000 in
theorem c_X12_showsBy_2 (hA : xar a n) (hR : xRr g h tx G T Lw) (ht : t < 2 ^ 30) (hd4 : d < 4) (hn : t < n) (hf : g a t = nI (f t)) (hf6 : f t < 6) : xT (k + 2) 181 [.ref 73, .int (nI 2), .int (nI d), .ref a, .int (nI t)] (xH b g l) (fun r M' => M' = xH b g l ∧ r = some (.int (xshw h 2 d f t))) := by
  refine xT.of rfl (Nat.le_of_ble_eq_true rfl) ?_
  change xS _ _ 0 [(0, .ref 73), (1, .int (nI 2)), (2, .int (nI d)), (3, .ref a), (4, .int (nI t))] [] _ _
  refine xS.s1 rfl rfl ?_
  try dsimp only [Nat.reduceAdd]
  refine xS.s1 rfl rfl ?_
  try dsimp only [Nat.reduceAdd, xi_1]
  refine xS.br (c := .eq) (off := 8) (l := 3) rfl rfl (fun h2 => ?_) (fun h2 => ?_)
  · have g2 := xt_eq h2
    exfalso; first | exact absurd g2 (by decide) | (simp (disch := omega) only [Int32.lt_iff_toInt_lt, Int32.le_iff_toInt_le, nI_toInt, Int32.reduceToInt] at g2 <;> omega)
  · have g2 := xf_eq h2
    refine xS.s1 rfl rfl ?_
    try dsimp only [Nat.reduceAdd]
    refine xS.s1 rfl rfl ?_
    try dsimp only [Nat.reduceAdd, xi_4]
    refine xS.br (c := .ne) (off := 7) (l := 3) rfl rfl (fun h7 => ?_) (fun h7 => ?_)
    · have g7 := xt_ne h7
      refine xS.s1 rfl rfl ?_
      try dsimp only [Nat.reduceAdd, xi_0]
      refine xS.s1 rfl rfl ?_
      try dsimp only [Nat.reduceAdd]
      refine xS.s1 rfl rfl ?_
      try dsimp only [Nat.reduceAdd]
      refine xS.br0 (c := .eq) (off := 10) (l := 3) rfl rfl (fun h19 => ?_) (fun h19 => ?_)
      · have g19 := xt_eq h19
        refine xS.s1 rfl rfl ?_
        try dsimp only [Nat.reduceAdd]
        refine xS.s1 rfl rfl ?_
        try dsimp only [Nat.reduceAdd]
        refine xS.s1 rfl rfl ?_
        try dsimp only [Nat.reduceAdd]
        refine xS.br0 (c := .ge) (off := 7) (l := 3) rfl rfl (fun h35 => ?_) (fun h35 => ?_)
        · have g35 := xt_ge h35
          refine xS.s1 rfl rfl ?_
          try dsimp only [Nat.reduceAdd]
          refine xS.s1 rfl rfl ?_
          try dsimp only [Nat.reduceAdd]
          refine xS.ia rfl hA (by omega) ?_
          try dsimp only [Nat.reduceAdd]
          rw [hf]
          refine xS.s1 rfl rfl ?_
          try dsimp only [Nat.reduceAdd]
          refine xS.s1 rfl rfl ?_
          try dsimp only [Nat.reduceAdd]
          refine xS.s1 rfl rfl ?_
          try dsimp only [Nat.reduceAdd, xi_4]
          refine xS.br (c := .ne) (off := 11) (l := 3) rfl rfl (fun h50 => ?_) (fun h50 => ?_)
          · have g50 := xt_ne h50
            refine xS.s1 rfl rfl ?_
            try dsimp only [Nat.reduceAdd]
            refine xS.s1 rfl rfl ?_
            try dsimp only [Nat.reduceAdd, xi_2]
            refine xS.br (c := .ne) (off := 13) (l := 3) rfl rfl (fun h63 => ?_) (fun h63 => ?_)
            · have g63 := xt_ne h63
              exfalso; first | exact absurd g63 (by decide) | (simp (disch := omega) only [Int32.lt_iff_toInt_lt, Int32.le_iff_toInt_le, nI_toInt, Int32.reduceToInt] at g63 <;> omega)
            · have g63 := xf_ne h63
              refine xS.s1 rfl rfl ?_
              try dsimp only [Nat.reduceAdd]
              refine xS.s1 rfl rfl ?_
              try dsimp only [Nat.reduceAdd, xi_2]
              refine xS.s1 rfl rfl ?_
              try dsimp only [Nat.reduceAdd]
              rw [xrem2 (by omega)]
              refine xS.s1 rfl rfl ?_
              try dsimp only [Nat.reduceAdd, xi_1]
              refine xS.br (c := .ne) (off := 5) (l := 3) rfl rfl (fun h71 => ?_) (fun h71 => ?_)
              · have g71 := xt_ne h71
                have e71 : ¬ t % 2 = 1 := fun z => g71 (by rw [z]; rfl)
                refine xS.s1 rfl rfl ?_
                try dsimp only [Nat.reduceAdd]
                refine xS.s1 rfl rfl ?_
                try dsimp only [Nat.reduceAdd, xi_3]
                refine xS.br (c := .eq) (off := 16) (l := 3) rfl rfl (fun h78 => ?_) (fun h78 => ?_)
                · have g78 := xt_eq h78
                  exfalso; first | exact absurd g78 (by decide) | (simp (disch := omega) only [Int32.lt_iff_toInt_lt, Int32.le_iff_toInt_le, nI_toInt, Int32.reduceToInt] at g78 <;> omega)
                · have g78 := xf_eq h78
                  refine xS.s1 rfl rfl ?_
                  try dsimp only [Nat.reduceAdd]
                  refine xS.s1 rfl rfl ?_
                  try dsimp only [Nat.reduceAdd, xi_5]
                  refine xS.br (c := .ne) (off := 15) (l := 3) rfl rfl (fun h83 => ?_) (fun h83 => ?_)
                  · have g83 := xt_ne h83
                    refine xS.s1 rfl rfl ?_
                    try dsimp only [Nat.reduceAdd, xi_0]
                    refine xS.s1 rfl rfl ?_
                    try dsimp only [Nat.reduceAdd]
                    refine xS.s1 rfl rfl ?_
                    try dsimp only [Nat.reduceAdd]
                    refine xS.br0 (c := .eq) (off := 13) (l := 3) rfl rfl (fun h103 => ?_) (fun h103 => ?_)
                    · have g103 := xt_eq h103
                      refine xS.s1 rfl rfl ?_
                      try dsimp only [Nat.reduceAdd]
                      -- 118 yX12_mirrored
                      refine xS.callS rfl rfl rfl ⟨Nat.le_of_ble_eq_true rfl, rfl⟩ c_X12_mirrored (fun v M1 hv => ?_)
                      rw [hv.1, hv.2]
                      clear hv M1 v
                      try dsimp only [Nat.reduceAdd, Option.toList, List.cons_append, List.nil_append, List.drop]
                      refine xS.ret rfl rfl rfl (fun _ _ => rfl) ?_
                      refine ⟨rfl, ?_⟩
                      simp [xshw, xsrc, xseen, xth, e71]
                      try rfl
                    · have g103 := xf_eq h103
                      exfalso; first | exact absurd g103 (by decide) | (simp (disch := omega) only [Int32.lt_iff_toInt_lt, Int32.le_iff_toInt_le, nI_toInt, Int32.reduceToInt] at g103 <;> omega)
                  · have g83 := xf_ne h83
                    exfalso; first | exact absurd g83 (by decide) | (simp (disch := omega) only [Int32.lt_iff_toInt_lt, Int32.le_iff_toInt_le, nI_toInt, Int32.reduceToInt] at g83 <;> omega)
              · have g71 := xf_ne h71
                have e71 : t % 2 = 1 := (nI_eq (b := 1) (by omega) (by omega)).mp g71
                refine xS.s1 rfl rfl ?_
                try dsimp only [Nat.reduceAdd, xi_0]
                refine xS.ret rfl rfl rfl (fun _ _ => rfl) ?_
                refine ⟨rfl, ?_⟩
                simp [xshw, xsrc, xseen, xth, e71]
                try rfl
          · have g50 := xf_ne h50
            exfalso; first | exact absurd g50 (by decide) | (simp (disch := omega) only [Int32.lt_iff_toInt_lt, Int32.le_iff_toInt_le, nI_toInt, Int32.reduceToInt] at g50 <;> omega)
        · have g35 := xf_ge h35
          exact absurd g35 (nI_pos (by omega))
      · have g19 := xf_eq h19
        exfalso; first | exact absurd g19 (by decide) | (simp (disch := omega) only [Int32.lt_iff_toInt_lt, Int32.le_iff_toInt_le, nI_toInt, Int32.reduceToInt] at g19 <;> omega)
    · have g7 := xf_ne h7
      exfalso; first | exact absurd g7 (by decide) | (simp (disch := omega) only [Int32.lt_iff_toInt_lt, Int32.le_iff_toInt_le, nI_toInt, Int32.reduceToInt] at g7 <;> omega)

set_option maxRecDepth 10000 in
theorem c_X12_showsBy_3 (hA : xar a n) (hR : xRr g h tx G T Lw) (ht : t < 2 ^ 30) (hd4 : d < 4) (hn : t < n) (hf : g a t = nI (f t)) (hf6 : f t < 6) : xT (k + 2) 181 [.ref 73, .int (nI 3), .int (nI d), .ref a, .int (nI t)] (xH b g l) (fun r M' => M' = xH b g l ∧ r = some (.int (xshw h 3 d f t))) := by
  refine xT.of rfl (Nat.le_of_ble_eq_true rfl) ?_
  change xS _ _ 0 [(0, .ref 73), (1, .int (nI 3)), (2, .int (nI d)), (3, .ref a), (4, .int (nI t))] [] _ _
  refine xS.s1 rfl rfl ?_
  try dsimp only [Nat.reduceAdd]
  refine xS.s1 rfl rfl ?_
  try dsimp only [Nat.reduceAdd, xi_1]
  refine xS.br (c := .eq) (off := 8) (l := 3) rfl rfl (fun h2 => ?_) (fun h2 => ?_)
  · have g2 := xt_eq h2
    exfalso; first | exact absurd g2 (by decide) | (simp (disch := omega) only [Int32.lt_iff_toInt_lt, Int32.le_iff_toInt_le, nI_toInt, Int32.reduceToInt] at g2 <;> omega)
  · have g2 := xf_eq h2
    refine xS.s1 rfl rfl ?_
    try dsimp only [Nat.reduceAdd]
    refine xS.s1 rfl rfl ?_
    try dsimp only [Nat.reduceAdd, xi_4]
    refine xS.br (c := .ne) (off := 7) (l := 3) rfl rfl (fun h7 => ?_) (fun h7 => ?_)
    · have g7 := xt_ne h7
      refine xS.s1 rfl rfl ?_
      try dsimp only [Nat.reduceAdd, xi_0]
      refine xS.s1 rfl rfl ?_
      try dsimp only [Nat.reduceAdd]
      refine xS.s1 rfl rfl ?_
      try dsimp only [Nat.reduceAdd]
      refine xS.br0 (c := .eq) (off := 10) (l := 3) rfl rfl (fun h19 => ?_) (fun h19 => ?_)
      · have g19 := xt_eq h19
        refine xS.s1 rfl rfl ?_
        try dsimp only [Nat.reduceAdd]
        refine xS.s1 rfl rfl ?_
        try dsimp only [Nat.reduceAdd]
        refine xS.s1 rfl rfl ?_
        try dsimp only [Nat.reduceAdd]
        refine xS.br0 (c := .ge) (off := 7) (l := 3) rfl rfl (fun h35 => ?_) (fun h35 => ?_)
        · have g35 := xt_ge h35
          refine xS.s1 rfl rfl ?_
          try dsimp only [Nat.reduceAdd]
          refine xS.s1 rfl rfl ?_
          try dsimp only [Nat.reduceAdd]
          refine xS.ia rfl hA (by omega) ?_
          try dsimp only [Nat.reduceAdd]
          rw [hf]
          refine xS.s1 rfl rfl ?_
          try dsimp only [Nat.reduceAdd]
          refine xS.s1 rfl rfl ?_
          try dsimp only [Nat.reduceAdd]
          refine xS.s1 rfl rfl ?_
          try dsimp only [Nat.reduceAdd, xi_4]
          refine xS.br (c := .ne) (off := 11) (l := 3) rfl rfl (fun h50 => ?_) (fun h50 => ?_)
          · have g50 := xt_ne h50
            refine xS.s1 rfl rfl ?_
            try dsimp only [Nat.reduceAdd]
            refine xS.s1 rfl rfl ?_
            try dsimp only [Nat.reduceAdd, xi_2]
            refine xS.br (c := .ne) (off := 13) (l := 3) rfl rfl (fun h63 => ?_) (fun h63 => ?_)
            · have g63 := xt_ne h63
              refine xS.s1 rfl rfl ?_
              try dsimp only [Nat.reduceAdd]
              refine xS.s1 rfl rfl ?_
              try dsimp only [Nat.reduceAdd, xi_3]
              refine xS.br (c := .eq) (off := 16) (l := 3) rfl rfl (fun h78 => ?_) (fun h78 => ?_)
              · have g78 := xt_eq h78
                refine xS.s1 rfl rfl ?_
                try dsimp only [Nat.reduceAdd, xi_1]
                refine xS.s1 rfl rfl ?_
                try dsimp only [Nat.reduceAdd]
                refine xS.s1 rfl rfl ?_
                try dsimp only [Nat.reduceAdd]
                refine xS.s1 rfl rfl ?_
                try dsimp only [Nat.reduceAdd]
                refine xS.br0 (c := .eq) (off := 13) (l := 3) rfl rfl (fun h103 => ?_) (fun h103 => ?_)
                · have g103 := xt_eq h103
                  exfalso; first | exact absurd g103 (by decide) | (simp (disch := omega) only [Int32.lt_iff_toInt_lt, Int32.le_iff_toInt_le, nI_toInt, Int32.reduceToInt] at g103 <;> omega)
                · have g103 := xf_eq h103
                  refine xS.s1 rfl rfl ?_
                  try dsimp only [Nat.reduceAdd]
                  refine xS.gR rfl rfl rfl ⟨by decide, rfl⟩ rfl ?_
                  try dsimp only [Nat.reduceAdd]
                  refine xS.s1 rfl rfl ?_
                  try dsimp only [Nat.reduceAdd]
                  refine xS.ia rfl xar_81 hf6 ?_
                  try dsimp only [Nat.reduceAdd]
                  rw [(hR.2.2.2.1 _ hf6).1]
                  refine xS.s1 rfl rfl ?_
                  try dsimp only [Nat.reduceAdd]
                  -- 118 yX12_mirrored
                  refine xS.callS rfl rfl rfl ⟨Nat.le_of_ble_eq_true rfl, rfl⟩ c_X12_mirrored (fun v M1 hv => ?_)
                  rw [hv.1, hv.2]
                  clear hv M1 v
                  try dsimp only [Nat.reduceAdd, Option.toList, List.cons_append, List.nil_append, List.drop]
                  refine xS.ret rfl rfl rfl (fun _ _ => rfl) ?_
                  refine ⟨rfl, ?_⟩
                  simp [xshw, xsrc, xseen, xth]
                  try rfl
              · have g78 := xf_eq h78
                exfalso; first | exact absurd g78 (by decide) | (simp (disch := omega) only [Int32.lt_iff_toInt_lt, Int32.le_iff_toInt_le, nI_toInt, Int32.reduceToInt] at g78 <;> omega)
            · have g63 := xf_ne h63
              exfalso; first | exact absurd g63 (by decide) | (simp (disch := omega) only [Int32.lt_iff_toInt_lt, Int32.le_iff_toInt_le, nI_toInt, Int32.reduceToInt] at g63 <;> omega)
          · have g50 := xf_ne h50
            exfalso; first | exact absurd g50 (by decide) | (simp (disch := omega) only [Int32.lt_iff_toInt_lt, Int32.le_iff_toInt_le, nI_toInt, Int32.reduceToInt] at g50 <;> omega)
        · have g35 := xf_ge h35
          exact absurd g35 (nI_pos (by omega))
      · have g19 := xf_eq h19
        exfalso; first | exact absurd g19 (by decide) | (simp (disch := omega) only [Int32.lt_iff_toInt_lt, Int32.le_iff_toInt_le, nI_toInt, Int32.reduceToInt] at g19 <;> omega)
    · have g7 := xf_ne h7
      exfalso; first | exact absurd g7 (by decide) | (simp (disch := omega) only [Int32.lt_iff_toInt_lt, Int32.le_iff_toInt_le, nI_toInt, Int32.reduceToInt] at g7 <;> omega)

set_option maxRecDepth 10000 in
theorem c_X12_showsBy_4a (hA : xar a n) (hR : xRr g h tx G T Lw) (ht : t < 2 ^ 30) (hd4 : d < 4) (hdt : t < d) : xT (k + 2) 181 [.ref 73, .int (nI 4), .int (nI d), .ref a, .int (nI t)] (xH b g l) (fun r M' => M' = xH b g l ∧ r = some (.int (xshw h 4 d f t))) := by
  refine xT.of rfl (Nat.le_of_ble_eq_true rfl) ?_
  change xS _ _ 0 [(0, .ref 73), (1, .int (nI 4)), (2, .int (nI d)), (3, .ref a), (4, .int (nI t))] [] _ _
  refine xS.s1 rfl rfl ?_
  try dsimp only [Nat.reduceAdd]
  refine xS.s1 rfl rfl ?_
  try dsimp only [Nat.reduceAdd, xi_1]
  refine xS.br (c := .eq) (off := 8) (l := 3) rfl rfl (fun h2 => ?_) (fun h2 => ?_)
  · have g2 := xt_eq h2
    exfalso; first | exact absurd g2 (by decide) | (simp (disch := omega) only [Int32.lt_iff_toInt_lt, Int32.le_iff_toInt_le, nI_toInt, Int32.reduceToInt] at g2 <;> omega)
  · have g2 := xf_eq h2
    refine xS.s1 rfl rfl ?_
    try dsimp only [Nat.reduceAdd]
    refine xS.s1 rfl rfl ?_
    try dsimp only [Nat.reduceAdd, xi_4]
    refine xS.br (c := .ne) (off := 7) (l := 3) rfl rfl (fun h7 => ?_) (fun h7 => ?_)
    · have g7 := xt_ne h7
      exfalso; first | exact absurd g7 (by decide) | (simp (disch := omega) only [Int32.lt_iff_toInt_lt, Int32.le_iff_toInt_le, nI_toInt, Int32.reduceToInt] at g7 <;> omega)
    · have g7 := xf_ne h7
      refine xS.s1 rfl rfl ?_
      try dsimp only [Nat.reduceAdd, xi_1]
      refine xS.s1 rfl rfl ?_
      try dsimp only [Nat.reduceAdd]
      refine xS.s1 rfl rfl ?_
      try dsimp only [Nat.reduceAdd]
      refine xS.s1 rfl rfl ?_
      try dsimp only [Nat.reduceAdd]
      refine xS.br0 (c := .eq) (off := 10) (l := 3) rfl rfl (fun h19 => ?_) (fun h19 => ?_)
      · have g19 := xt_eq h19
        exfalso; first | exact absurd g19 (by decide) | (simp (disch := omega) only [Int32.lt_iff_toInt_lt, Int32.le_iff_toInt_le, nI_toInt, Int32.reduceToInt] at g19 <;> omega)
      · have g19 := xf_eq h19
        refine xS.s1 rfl rfl ?_
        try dsimp only [Nat.reduceAdd]
        refine xS.s1 rfl rfl ?_
        try dsimp only [Nat.reduceAdd]
        refine xS.s1 rfl rfl ?_
        try dsimp only [Nat.reduceAdd]
        refine xS.s1 rfl rfl ?_
        try dsimp only [Nat.reduceAdd]
        refine xS.s1 rfl rfl ?_
        try dsimp only [Nat.reduceAdd]
        refine xS.s1 rfl rfl ?_
        try dsimp only [Nat.reduceAdd]
        refine xS.br0 (c := .ge) (off := 7) (l := 3) rfl rfl (fun h35 => ?_) (fun h35 => ?_)
        · have g35 := xt_ge h35
          exact absurd (pk_sneg (by omega) hdt) (Int32.not_lt.mpr g35)
        · have g35 := xf_ge h35
          refine xS.s1 rfl rfl ?_
          try dsimp only [Nat.reduceAdd, xi_0]
          refine xS.s1 rfl rfl ?_
          try dsimp only [Nat.reduceAdd]
          refine xS.s1 rfl rfl ?_
          try dsimp only [Nat.reduceAdd]
          refine xS.s1 rfl rfl ?_
          try dsimp only [Nat.reduceAdd]
          refine xS.s1 rfl rfl ?_
          try dsimp only [Nat.reduceAdd, xi_4]
          refine xS.br (c := .ne) (off := 11) (l := 3) rfl rfl (fun h50 => ?_) (fun h50 => ?_)
          · have g50 := xt_ne h50
            exfalso; first | exact absurd g50 (by decide) | (simp (disch := omega) only [Int32.lt_iff_toInt_lt, Int32.le_iff_toInt_le, nI_toInt, Int32.reduceToInt] at g50 <;> omega)
          · have g50 := xf_ne h50
            refine xS.s1 rfl rfl ?_
            try dsimp only [Nat.reduceAdd]
            refine xS.s1 rfl rfl ?_
            try dsimp only [Nat.reduceAdd, xi_3]
            refine xS.s1 rfl rfl ?_
            try dsimp only [Nat.reduceAdd]
            rw [xrem3 (by omega)]
            refine xS.s1 rfl rfl ?_
            try dsimp only [Nat.reduceAdd, xi_2]
            refine xS.br (c := .eq) (off := 16) (l := 3) rfl rfl (fun h58 => ?_) (fun h58 => ?_)
            · have g58 := xt_eq h58
              have e58 : t % 3 = 2 := (nI_eq (b := 2) (by omega) (by omega)).mp g58
              refine xS.s1 rfl rfl ?_
              try dsimp only [Nat.reduceAdd, xi_0]
              refine xS.ret rfl rfl rfl (fun _ _ => rfl) ?_
              refine ⟨rfl, ?_⟩
              simp [xshw, xsrc, xseen, xth, hdt, e58]
              try rfl
            · have g58 := xf_eq h58
              have e58 : ¬ t % 3 = 2 := fun z => g58 (by rw [z]; rfl)
              refine xS.s1 rfl rfl ?_
              try dsimp only [Nat.reduceAdd]
              refine xS.s1 rfl rfl ?_
              try dsimp only [Nat.reduceAdd, xi_2]
              refine xS.br (c := .ne) (off := 13) (l := 3) rfl rfl (fun h63 => ?_) (fun h63 => ?_)
              · have g63 := xt_ne h63
                refine xS.s1 rfl rfl ?_
                try dsimp only [Nat.reduceAdd]
                refine xS.s1 rfl rfl ?_
                try dsimp only [Nat.reduceAdd, xi_3]
                refine xS.br (c := .eq) (off := 16) (l := 3) rfl rfl (fun h78 => ?_) (fun h78 => ?_)
                · have g78 := xt_eq h78
                  exfalso; first | exact absurd g78 (by decide) | (simp (disch := omega) only [Int32.lt_iff_toInt_lt, Int32.le_iff_toInt_le, nI_toInt, Int32.reduceToInt] at g78 <;> omega)
                · have g78 := xf_eq h78
                  refine xS.s1 rfl rfl ?_
                  try dsimp only [Nat.reduceAdd]
                  refine xS.s1 rfl rfl ?_
                  try dsimp only [Nat.reduceAdd, xi_5]
                  refine xS.br (c := .ne) (off := 15) (l := 3) rfl rfl (fun h83 => ?_) (fun h83 => ?_)
                  · have g83 := xt_ne h83
                    refine xS.s1 rfl rfl ?_
                    try dsimp only [Nat.reduceAdd, xi_0]
                    refine xS.s1 rfl rfl ?_
                    try dsimp only [Nat.reduceAdd]
                    refine xS.s1 rfl rfl ?_
                    try dsimp only [Nat.reduceAdd]
                    refine xS.br0 (c := .eq) (off := 13) (l := 3) rfl rfl (fun h103 => ?_) (fun h103 => ?_)
                    · have g103 := xt_eq h103
                      refine xS.s1 rfl rfl ?_
                      try dsimp only [Nat.reduceAdd]
                      -- 118 yX12_mirrored
                      refine xS.callS rfl rfl rfl ⟨Nat.le_of_ble_eq_true rfl, rfl⟩ c_X12_mirrored (fun v M1 hv => ?_)
                      rw [hv.1, hv.2]
                      clear hv M1 v
                      try dsimp only [Nat.reduceAdd, Option.toList, List.cons_append, List.nil_append, List.drop]
                      refine xS.ret rfl rfl rfl (fun _ _ => rfl) ?_
                      refine ⟨rfl, ?_⟩
                      simp [xshw, xsrc, xseen, xth, hdt, e58]
                      try rfl
                    · have g103 := xf_eq h103
                      exfalso; first | exact absurd g103 (by decide) | (simp (disch := omega) only [Int32.lt_iff_toInt_lt, Int32.le_iff_toInt_le, nI_toInt, Int32.reduceToInt] at g103 <;> omega)
                  · have g83 := xf_ne h83
                    exfalso; first | exact absurd g83 (by decide) | (simp (disch := omega) only [Int32.lt_iff_toInt_lt, Int32.le_iff_toInt_le, nI_toInt, Int32.reduceToInt] at g83 <;> omega)
              · have g63 := xf_ne h63
                exfalso; first | exact absurd g63 (by decide) | (simp (disch := omega) only [Int32.lt_iff_toInt_lt, Int32.le_iff_toInt_le, nI_toInt, Int32.reduceToInt] at g63 <;> omega)

set_option maxRecDepth 10000 in
theorem c_X12_showsBy_4b (hA : xar a n) (hR : xRr g h tx G T Lw) (ht : t < 2 ^ 30) (hd4 : d < 4) (hdt : d ≤ t) (hn : t - d < n) (hf : g a (t - d) = nI (f (t - d))) (hf6 : f (t - d) < 6) : xT (k + 2) 181 [.ref 73, .int (nI 4), .int (nI d), .ref a, .int (nI t)] (xH b g l) (fun r M' => M' = xH b g l ∧ r = some (.int (xshw h 4 d f t))) := by
  refine xT.of rfl (Nat.le_of_ble_eq_true rfl) ?_
  change xS _ _ 0 [(0, .ref 73), (1, .int (nI 4)), (2, .int (nI d)), (3, .ref a), (4, .int (nI t))] [] _ _
  refine xS.s1 rfl rfl ?_
  try dsimp only [Nat.reduceAdd]
  refine xS.s1 rfl rfl ?_
  try dsimp only [Nat.reduceAdd, xi_1]
  refine xS.br (c := .eq) (off := 8) (l := 3) rfl rfl (fun h2 => ?_) (fun h2 => ?_)
  · have g2 := xt_eq h2
    exfalso; first | exact absurd g2 (by decide) | (simp (disch := omega) only [Int32.lt_iff_toInt_lt, Int32.le_iff_toInt_le, nI_toInt, Int32.reduceToInt] at g2 <;> omega)
  · have g2 := xf_eq h2
    refine xS.s1 rfl rfl ?_
    try dsimp only [Nat.reduceAdd]
    refine xS.s1 rfl rfl ?_
    try dsimp only [Nat.reduceAdd, xi_4]
    refine xS.br (c := .ne) (off := 7) (l := 3) rfl rfl (fun h7 => ?_) (fun h7 => ?_)
    · have g7 := xt_ne h7
      exfalso; first | exact absurd g7 (by decide) | (simp (disch := omega) only [Int32.lt_iff_toInt_lt, Int32.le_iff_toInt_le, nI_toInt, Int32.reduceToInt] at g7 <;> omega)
    · have g7 := xf_ne h7
      refine xS.s1 rfl rfl ?_
      try dsimp only [Nat.reduceAdd, xi_1]
      refine xS.s1 rfl rfl ?_
      try dsimp only [Nat.reduceAdd]
      refine xS.s1 rfl rfl ?_
      try dsimp only [Nat.reduceAdd]
      refine xS.s1 rfl rfl ?_
      try dsimp only [Nat.reduceAdd]
      refine xS.br0 (c := .eq) (off := 10) (l := 3) rfl rfl (fun h19 => ?_) (fun h19 => ?_)
      · have g19 := xt_eq h19
        exfalso; first | exact absurd g19 (by decide) | (simp (disch := omega) only [Int32.lt_iff_toInt_lt, Int32.le_iff_toInt_le, nI_toInt, Int32.reduceToInt] at g19 <;> omega)
      · have g19 := xf_eq h19
        refine xS.s1 rfl rfl ?_
        try dsimp only [Nat.reduceAdd]
        refine xS.s1 rfl rfl ?_
        try dsimp only [Nat.reduceAdd]
        refine xS.s1 rfl rfl ?_
        try dsimp only [Nat.reduceAdd]
        rw [pk_sub hdt]
        refine xS.s1 rfl rfl ?_
        try dsimp only [Nat.reduceAdd]
        refine xS.s1 rfl rfl ?_
        try dsimp only [Nat.reduceAdd]
        refine xS.s1 rfl rfl ?_
        try dsimp only [Nat.reduceAdd]
        refine xS.br0 (c := .ge) (off := 7) (l := 3) rfl rfl (fun h35 => ?_) (fun h35 => ?_)
        · have g35 := xt_ge h35
          refine xS.s1 rfl rfl ?_
          try dsimp only [Nat.reduceAdd]
          refine xS.s1 rfl rfl ?_
          try dsimp only [Nat.reduceAdd]
          refine xS.ia rfl hA (by omega) ?_
          try dsimp only [Nat.reduceAdd]
          rw [hf]
          refine xS.s1 rfl rfl ?_
          try dsimp only [Nat.reduceAdd]
          refine xS.s1 rfl rfl ?_
          try dsimp only [Nat.reduceAdd]
          refine xS.s1 rfl rfl ?_
          try dsimp only [Nat.reduceAdd, xi_4]
          refine xS.br (c := .ne) (off := 11) (l := 3) rfl rfl (fun h50 => ?_) (fun h50 => ?_)
          · have g50 := xt_ne h50
            exfalso; first | exact absurd g50 (by decide) | (simp (disch := omega) only [Int32.lt_iff_toInt_lt, Int32.le_iff_toInt_le, nI_toInt, Int32.reduceToInt] at g50 <;> omega)
          · have g50 := xf_ne h50
            refine xS.s1 rfl rfl ?_
            try dsimp only [Nat.reduceAdd]
            refine xS.s1 rfl rfl ?_
            try dsimp only [Nat.reduceAdd, xi_3]
            refine xS.s1 rfl rfl ?_
            try dsimp only [Nat.reduceAdd]
            rw [xrem3 (by omega)]
            refine xS.s1 rfl rfl ?_
            try dsimp only [Nat.reduceAdd, xi_2]
            refine xS.br (c := .eq) (off := 16) (l := 3) rfl rfl (fun h58 => ?_) (fun h58 => ?_)
            · have g58 := xt_eq h58
              have e58 : t % 3 = 2 := (nI_eq (b := 2) (by omega) (by omega)).mp g58
              refine xS.s1 rfl rfl ?_
              try dsimp only [Nat.reduceAdd, xi_0]
              refine xS.ret rfl rfl rfl (fun _ _ => rfl) ?_
              refine ⟨rfl, ?_⟩
              simp [xshw, xsrc, xseen, xth, Nat.not_lt.mpr hdt, e58]
              try rfl
            · have g58 := xf_eq h58
              have e58 : ¬ t % 3 = 2 := fun z => g58 (by rw [z]; rfl)
              refine xS.s1 rfl rfl ?_
              try dsimp only [Nat.reduceAdd]
              refine xS.s1 rfl rfl ?_
              try dsimp only [Nat.reduceAdd, xi_2]
              refine xS.br (c := .ne) (off := 13) (l := 3) rfl rfl (fun h63 => ?_) (fun h63 => ?_)
              · have g63 := xt_ne h63
                refine xS.s1 rfl rfl ?_
                try dsimp only [Nat.reduceAdd]
                refine xS.s1 rfl rfl ?_
                try dsimp only [Nat.reduceAdd, xi_3]
                refine xS.br (c := .eq) (off := 16) (l := 3) rfl rfl (fun h78 => ?_) (fun h78 => ?_)
                · have g78 := xt_eq h78
                  exfalso; first | exact absurd g78 (by decide) | (simp (disch := omega) only [Int32.lt_iff_toInt_lt, Int32.le_iff_toInt_le, nI_toInt, Int32.reduceToInt] at g78 <;> omega)
                · have g78 := xf_eq h78
                  refine xS.s1 rfl rfl ?_
                  try dsimp only [Nat.reduceAdd]
                  refine xS.s1 rfl rfl ?_
                  try dsimp only [Nat.reduceAdd, xi_5]
                  refine xS.br (c := .ne) (off := 15) (l := 3) rfl rfl (fun h83 => ?_) (fun h83 => ?_)
                  · have g83 := xt_ne h83
                    refine xS.s1 rfl rfl ?_
                    try dsimp only [Nat.reduceAdd, xi_0]
                    refine xS.s1 rfl rfl ?_
                    try dsimp only [Nat.reduceAdd]
                    refine xS.s1 rfl rfl ?_
                    try dsimp only [Nat.reduceAdd]
                    refine xS.br0 (c := .eq) (off := 13) (l := 3) rfl rfl (fun h103 => ?_) (fun h103 => ?_)
                    · have g103 := xt_eq h103
                      refine xS.s1 rfl rfl ?_
                      try dsimp only [Nat.reduceAdd]
                      -- 118 yX12_mirrored
                      refine xS.callS rfl rfl rfl ⟨Nat.le_of_ble_eq_true rfl, rfl⟩ c_X12_mirrored (fun v M1 hv => ?_)
                      rw [hv.1, hv.2]
                      clear hv M1 v
                      try dsimp only [Nat.reduceAdd, Option.toList, List.cons_append, List.nil_append, List.drop]
                      refine xS.ret rfl rfl rfl (fun _ _ => rfl) ?_
                      refine ⟨rfl, ?_⟩
                      simp [xshw, xsrc, xseen, xth, Nat.not_lt.mpr hdt, e58]
                      try rfl
                    · have g103 := xf_eq h103
                      exfalso; first | exact absurd g103 (by decide) | (simp (disch := omega) only [Int32.lt_iff_toInt_lt, Int32.le_iff_toInt_le, nI_toInt, Int32.reduceToInt] at g103 <;> omega)
                  · have g83 := xf_ne h83
                    exfalso; first | exact absurd g83 (by decide) | (simp (disch := omega) only [Int32.lt_iff_toInt_lt, Int32.le_iff_toInt_le, nI_toInt, Int32.reduceToInt] at g83 <;> omega)
              · have g63 := xf_ne h63
                exfalso; first | exact absurd g63 (by decide) | (simp (disch := omega) only [Int32.lt_iff_toInt_lt, Int32.le_iff_toInt_le, nI_toInt, Int32.reduceToInt] at g63 <;> omega)
        · have g35 := xf_ge h35
          exact absurd g35 (nI_pos (by omega))

set_option maxRecDepth 10000 in
theorem c_X12_showsBy_5 (hA : xar a n) (hR : xRr g h tx G T Lw) (ht : t < 2 ^ 30) (hd4 : d < 4) (hn : t < n) (hf : g a t = nI (f t)) (hf6 : f t < 6) : xT (k + 2) 181 [.ref 73, .int (nI 5), .int (nI d), .ref a, .int (nI t)] (xH b g l) (fun r M' => M' = xH b g l ∧ r = some (.int (xshw h 5 d f t))) := by
  refine xT.of rfl (Nat.le_of_ble_eq_true rfl) ?_
  change xS _ _ 0 [(0, .ref 73), (1, .int (nI 5)), (2, .int (nI d)), (3, .ref a), (4, .int (nI t))] [] _ _
  refine xS.s1 rfl rfl ?_
  try dsimp only [Nat.reduceAdd]
  refine xS.s1 rfl rfl ?_
  try dsimp only [Nat.reduceAdd, xi_1]
  refine xS.br (c := .eq) (off := 8) (l := 3) rfl rfl (fun h2 => ?_) (fun h2 => ?_)
  · have g2 := xt_eq h2
    exfalso; first | exact absurd g2 (by decide) | (simp (disch := omega) only [Int32.lt_iff_toInt_lt, Int32.le_iff_toInt_le, nI_toInt, Int32.reduceToInt] at g2 <;> omega)
  · have g2 := xf_eq h2
    refine xS.s1 rfl rfl ?_
    try dsimp only [Nat.reduceAdd]
    refine xS.s1 rfl rfl ?_
    try dsimp only [Nat.reduceAdd, xi_4]
    refine xS.br (c := .ne) (off := 7) (l := 3) rfl rfl (fun h7 => ?_) (fun h7 => ?_)
    · have g7 := xt_ne h7
      refine xS.s1 rfl rfl ?_
      try dsimp only [Nat.reduceAdd, xi_0]
      refine xS.s1 rfl rfl ?_
      try dsimp only [Nat.reduceAdd]
      refine xS.s1 rfl rfl ?_
      try dsimp only [Nat.reduceAdd]
      refine xS.br0 (c := .eq) (off := 10) (l := 3) rfl rfl (fun h19 => ?_) (fun h19 => ?_)
      · have g19 := xt_eq h19
        refine xS.s1 rfl rfl ?_
        try dsimp only [Nat.reduceAdd]
        refine xS.s1 rfl rfl ?_
        try dsimp only [Nat.reduceAdd]
        refine xS.s1 rfl rfl ?_
        try dsimp only [Nat.reduceAdd]
        refine xS.br0 (c := .ge) (off := 7) (l := 3) rfl rfl (fun h35 => ?_) (fun h35 => ?_)
        · have g35 := xt_ge h35
          refine xS.s1 rfl rfl ?_
          try dsimp only [Nat.reduceAdd]
          refine xS.s1 rfl rfl ?_
          try dsimp only [Nat.reduceAdd]
          refine xS.ia rfl hA (by omega) ?_
          try dsimp only [Nat.reduceAdd]
          rw [hf]
          refine xS.s1 rfl rfl ?_
          try dsimp only [Nat.reduceAdd]
          refine xS.s1 rfl rfl ?_
          try dsimp only [Nat.reduceAdd]
          refine xS.s1 rfl rfl ?_
          try dsimp only [Nat.reduceAdd, xi_4]
          refine xS.br (c := .ne) (off := 11) (l := 3) rfl rfl (fun h50 => ?_) (fun h50 => ?_)
          · have g50 := xt_ne h50
            refine xS.s1 rfl rfl ?_
            try dsimp only [Nat.reduceAdd]
            refine xS.s1 rfl rfl ?_
            try dsimp only [Nat.reduceAdd, xi_2]
            refine xS.br (c := .ne) (off := 13) (l := 3) rfl rfl (fun h63 => ?_) (fun h63 => ?_)
            · have g63 := xt_ne h63
              refine xS.s1 rfl rfl ?_
              try dsimp only [Nat.reduceAdd]
              refine xS.s1 rfl rfl ?_
              try dsimp only [Nat.reduceAdd, xi_3]
              refine xS.br (c := .eq) (off := 16) (l := 3) rfl rfl (fun h78 => ?_) (fun h78 => ?_)
              · have g78 := xt_eq h78
                exfalso; first | exact absurd g78 (by decide) | (simp (disch := omega) only [Int32.lt_iff_toInt_lt, Int32.le_iff_toInt_le, nI_toInt, Int32.reduceToInt] at g78 <;> omega)
              · have g78 := xf_eq h78
                refine xS.s1 rfl rfl ?_
                try dsimp only [Nat.reduceAdd]
                refine xS.s1 rfl rfl ?_
                try dsimp only [Nat.reduceAdd, xi_5]
                refine xS.br (c := .ne) (off := 15) (l := 3) rfl rfl (fun h83 => ?_) (fun h83 => ?_)
                · have g83 := xt_ne h83
                  exfalso; first | exact absurd g83 (by decide) | (simp (disch := omega) only [Int32.lt_iff_toInt_lt, Int32.le_iff_toInt_le, nI_toInt, Int32.reduceToInt] at g83 <;> omega)
                · have g83 := xf_ne h83
                  refine xS.s1 rfl rfl ?_
                  try dsimp only [Nat.reduceAdd]
                  refine xS.s1 rfl rfl ?_
                  try dsimp only [Nat.reduceAdd, xi_2]
                  refine xS.s1 rfl rfl ?_
                  try dsimp only [Nat.reduceAdd]
                  rw [xrem2 (by omega)]
                  refine xS.s1 rfl rfl ?_
                  try dsimp only [Nat.reduceAdd, xi_1]
                  refine xS.br (c := .ne) (off := 7) (l := 3) rfl rfl (fun h91 => ?_) (fun h91 => ?_)
                  · have g91 := xt_ne h91
                    have e91 : ¬ t % 2 = 1 := fun z => g91 (by rw [z]; rfl)
                    refine xS.s1 rfl rfl ?_
                    try dsimp only [Nat.reduceAdd, xi_0]
                    refine xS.s1 rfl rfl ?_
                    try dsimp only [Nat.reduceAdd]
                    refine xS.s1 rfl rfl ?_
                    try dsimp only [Nat.reduceAdd]
                    refine xS.br0 (c := .eq) (off := 13) (l := 3) rfl rfl (fun h103 => ?_) (fun h103 => ?_)
                    · have g103 := xt_eq h103
                      refine xS.s1 rfl rfl ?_
                      try dsimp only [Nat.reduceAdd]
                      -- 118 yX12_mirrored
                      refine xS.callS rfl rfl rfl ⟨Nat.le_of_ble_eq_true rfl, rfl⟩ c_X12_mirrored (fun v M1 hv => ?_)
                      rw [hv.1, hv.2]
                      clear hv M1 v
                      try dsimp only [Nat.reduceAdd, Option.toList, List.cons_append, List.nil_append, List.drop]
                      refine xS.ret rfl rfl rfl (fun _ _ => rfl) ?_
                      refine ⟨rfl, ?_⟩
                      simp [xshw, xsrc, xseen, xth, e91]
                      try rfl
                    · have g103 := xf_eq h103
                      refine xS.s1 rfl rfl ?_
                      try dsimp only [Nat.reduceAdd]
                      refine xS.gR rfl rfl rfl ⟨by decide, rfl⟩ rfl ?_
                      try dsimp only [Nat.reduceAdd]
                      refine xS.s1 rfl rfl ?_
                      try dsimp only [Nat.reduceAdd]
                      refine xS.ia rfl xar_81 hf6 ?_
                      try dsimp only [Nat.reduceAdd]
                      rw [(hR.2.2.2.1 _ hf6).1]
                      refine xS.s1 rfl rfl ?_
                      try dsimp only [Nat.reduceAdd]
                      -- 118 yX12_mirrored
                      refine xS.callS rfl rfl rfl ⟨Nat.le_of_ble_eq_true rfl, rfl⟩ c_X12_mirrored (fun v M1 hv => ?_)
                      rw [hv.1, hv.2]
                      clear hv M1 v
                      try dsimp only [Nat.reduceAdd, Option.toList, List.cons_append, List.nil_append, List.drop]
                      refine xS.ret rfl rfl rfl (fun _ _ => rfl) ?_
                      exact absurd g103 (by decide)
                  · have g91 := xf_ne h91
                    have e91 : t % 2 = 1 := (nI_eq (b := 1) (by omega) (by omega)).mp g91
                    refine xS.s1 rfl rfl ?_
                    try dsimp only [Nat.reduceAdd, xi_1]
                    refine xS.s1 rfl rfl ?_
                    try dsimp only [Nat.reduceAdd]
                    refine xS.s1 rfl rfl ?_
                    try dsimp only [Nat.reduceAdd]
                    refine xS.s1 rfl rfl ?_
                    try dsimp only [Nat.reduceAdd]
                    refine xS.br0 (c := .eq) (off := 13) (l := 3) rfl rfl (fun h103 => ?_) (fun h103 => ?_)
                    · have g103 := xt_eq h103
                      refine xS.s1 rfl rfl ?_
                      try dsimp only [Nat.reduceAdd]
                      -- 118 yX12_mirrored
                      refine xS.callS rfl rfl rfl ⟨Nat.le_of_ble_eq_true rfl, rfl⟩ c_X12_mirrored (fun v M1 hv => ?_)
                      rw [hv.1, hv.2]
                      clear hv M1 v
                      try dsimp only [Nat.reduceAdd, Option.toList, List.cons_append, List.nil_append, List.drop]
                      refine xS.ret rfl rfl rfl (fun _ _ => rfl) ?_
                      exact absurd g103 (by decide)
                    · have g103 := xf_eq h103
                      refine xS.s1 rfl rfl ?_
                      try dsimp only [Nat.reduceAdd]
                      refine xS.gR rfl rfl rfl ⟨by decide, rfl⟩ rfl ?_
                      try dsimp only [Nat.reduceAdd]
                      refine xS.s1 rfl rfl ?_
                      try dsimp only [Nat.reduceAdd]
                      refine xS.ia rfl xar_81 hf6 ?_
                      try dsimp only [Nat.reduceAdd]
                      rw [(hR.2.2.2.1 _ hf6).1]
                      refine xS.s1 rfl rfl ?_
                      try dsimp only [Nat.reduceAdd]
                      -- 118 yX12_mirrored
                      refine xS.callS rfl rfl rfl ⟨Nat.le_of_ble_eq_true rfl, rfl⟩ c_X12_mirrored (fun v M1 hv => ?_)
                      rw [hv.1, hv.2]
                      clear hv M1 v
                      try dsimp only [Nat.reduceAdd, Option.toList, List.cons_append, List.nil_append, List.drop]
                      refine xS.ret rfl rfl rfl (fun _ _ => rfl) ?_
                      refine ⟨rfl, ?_⟩
                      simp [xshw, xsrc, xseen, xth, e91]
                      try rfl
            · have g63 := xf_ne h63
              exfalso; first | exact absurd g63 (by decide) | (simp (disch := omega) only [Int32.lt_iff_toInt_lt, Int32.le_iff_toInt_le, nI_toInt, Int32.reduceToInt] at g63 <;> omega)
          · have g50 := xf_ne h50
            exfalso; first | exact absurd g50 (by decide) | (simp (disch := omega) only [Int32.lt_iff_toInt_lt, Int32.le_iff_toInt_le, nI_toInt, Int32.reduceToInt] at g50 <;> omega)
        · have g35 := xf_ge h35
          exact absurd g35 (nI_pos (by omega))
      · have g19 := xf_eq h19
        exfalso; first | exact absurd g19 (by decide) | (simp (disch := omega) only [Int32.lt_iff_toInt_lt, Int32.le_iff_toInt_le, nI_toInt, Int32.reduceToInt] at g19 <;> omega)
    · have g7 := xf_ne h7
      exfalso; first | exact absurd g7 (by decide) | (simp (disch := omega) only [Int32.lt_iff_toInt_lt, Int32.le_iff_toInt_le, nI_toInt, Int32.reduceToInt] at g7 <;> omega)

end
end
section
/-! LimpMirrorModel: glasses, deeds, rows taken out -/
theorem xfst_congr {p p' : Nat → Bool} : ∀ {n : Nat}, (∀ i, i < n → p i = p' i) → xfst p n = xfst p' n
  | 0, _ => rfl
  | n + 1, h => by
    rw [xfst_s, xfst_s, xfst_congr (fun i hi => h i (by omega)), h n (by omega)]
theorem xcnt_congr {p p' : Nat → Bool} : ∀ {n : Nat}, (∀ i, i < n → p i = p' i) → xcnt p n = xcnt p' n
  | 0, _ => rfl
  | n + 1, h => by
    rw [xcnt_s, xcnt_s, xcnt_congr (fun i hi => h i (by omega)), h n (by omega)]
theorem xfb_congr {tx tx' : Nat → Int32} {T : Nat} {x y : Int32} (h : ∀ i, i < 2 * T → tx i = tx' i) : xfb tx T x y = xfb tx' T x y := xfst_congr (fun i hi => by unfold xtm; rw [h _ (by omega), h _ (by omega)])
def xat (κ δ t : Nat) : Option Nat := if κ = 1 ∨ κ = 4 then (if t < δ then none else some (t - δ)) else some t
theorem xat_le {κ δ t u : Nat} (h : xat κ δ t = some u) : u ≤ t := by
  unfold xat at h
  repeat' split at h
  all_goals first | (cases h; done) | (cases h; omega)
def xDr (g : Nat → Nat → Int32) (h tx : Nat → Int32) (T G : Nat) (Lw : Nat → Nat) (F4 : Nat → Int32) (m : Nat) : Prop := ∀ d, d < m → ∃ s k, s < 6 ∧ k < G ∧ F4 (4 * d) = nI s ∧ F4 (4 * d + 1) = nI k ∧ F4 (4 * d + 2) = xshw h (Lw k / 4) (Lw k % 4) (fun i => xN (F4 (4 * i))) d ∧ F4 (4 * d + 3) = xfI (xfb tx T (nI s) (xshw h (Lw k / 4) (Lw k % 4) (fun i => xN (F4 (4 * i))) d)) ∧ g 84 d = nI s ∧ g 85 d = nI k
theorem xDr_84 {g : Nat → Nat → Int32} {h tx : Nat → Int32} {T G : Nat} {Lw : Nat → Nat} {F4 : Nat → Int32} {m : Nat} (hD : xDr g h tx T G Lw F4 m) : ∀ d, d < m → g 84 d = nI (xN (F4 (4 * d))) ∧ xN (F4 (4 * d)) < 6 := fun d hd => by
  obtain ⟨s, k, h1, h2, h3, h4, h5, h6, h7, h8⟩ := hD d hd
  rw [h3, xN_nI (by omega)]
  exact ⟨h7, h1⟩
theorem xDr_fr {g g' : Nat → Nat → Int32} {h tx : Nat → Int32} {T G : Nat} {Lw : Nat → Nat} {F4 : Nat → Int32} {m : Nat} (h84 : g' 84 = g 84) (h85 : g' 85 = g 85) (hD : xDr g h tx T G Lw F4 m) : xDr g' h tx T G Lw F4 m := by
  intro d hd
  rw [h84, h85]
  exact hD d hd

section
variable {k a c n n2 m t p s d i1 j1 : Nat} {b : Nat × Nat} {g : Nat → Nat → Int32} {l : Nat → Nat → Int64} {i j x y z v w : Int32} {u w1 w2 : Int64}
variable {L G T e1 q1 κ δ : Nat} {Lw f : Nat → Nat} {h tx F4 Rw Rw2 : Nat → Int32}
theorem c_X12_showsBy (hA : xar a n) (hR : xRr g h tx G T Lw) (ht : t < 2 ^ 30) (hd4 : d < 4) (hk : κ < 6) (hu : ∀ u, xat κ d t = some u → u < n ∧ g a u = nI (f u) ∧ f u < 6) : xT (k + 2) 181 [.ref 73, .int (nI κ), .int (nI d), .ref a, .int (nI t)] (xH b g l) (fun r M' => M' = xH b g l ∧ r = some (.int (xshw h κ d f t))) := by
  have e : κ = 0 ∨ κ = 1 ∨ κ = 2 ∨ κ = 3 ∨ κ = 4 ∨ κ = 5 := by omega
  rcases e with rfl | rfl | rfl | rfl | rfl | rfl
  · obtain ⟨h1, h2, h3⟩ := hu t rfl
    exact c_X12_showsBy_0 hA hR ht hd4 h1 h2 h3
  · by_cases c : t < d
    · exact c_X12_showsBy_1a hA hR ht hd4 c
    · obtain ⟨h1, h2, h3⟩ := hu (t - d) (by unfold xat; rw [if_pos (Or.inl rfl), if_neg c])
      exact c_X12_showsBy_1b hA hR ht hd4 (by omega) h1 h2 h3
  · obtain ⟨h1, h2, h3⟩ := hu t rfl
    exact c_X12_showsBy_2 hA hR ht hd4 h1 h2 h3
  · obtain ⟨h1, h2, h3⟩ := hu t rfl
    exact c_X12_showsBy_3 hA hR ht hd4 h1 h2 h3
  · by_cases c : t < d
    · exact c_X12_showsBy_4a hA hR ht hd4 c
    · obtain ⟨h1, h2, h3⟩ := hu (t - d) (by unfold xat; rw [if_pos (Or.inr rfl), if_neg c])
      exact c_X12_showsBy_4b hA hR ht hd4 (by omega) h1 h2 h3
  · obtain ⟨h1, h2, h3⟩ := hu t rfl
    exact c_X12_showsBy_5 hA hR ht hd4 h1 h2 h3

set_option maxRecDepth 10000 in
theorem c_X12_showsOf_u (hA : xar a n) (hR : xRr g h tx G T Lw) (ht : t < 2 ^ 30) (hk : s < G) (hu : ∀ u, xat (Lw s / 4) (Lw s % 4) t = some u → u < n ∧ g a u = nI (f u) ∧ f u < 6) : xT (k + 3) 182 [.ref 73, .int (nI s), .ref a, .int (nI t)] (xH b g l) (fun r M' => M' = xH b g l ∧ r = some (.int (xshw h (Lw s / 4) (Lw s % 4) f t))) := by
  have h6 := hR.1.2
  obtain ⟨q1, q2, q3⟩ := hR.2.2.1 s hk
  refine xT.of rfl (Nat.le_of_ble_eq_true rfl) ?_
  change xS _ _ 0 [(0, .ref 73), (1, .int (nI s)), (2, .ref a), (3, .int (nI t))] [] _ _
  refine xS.s1 rfl rfl ?_
  try dsimp only [Nat.reduceAdd]
  refine xS.s1 rfl rfl ?_
  try dsimp only [Nat.reduceAdd]
  refine xS.gR rfl rfl rfl ⟨by decide, rfl⟩ rfl ?_
  try dsimp only [Nat.reduceAdd]
  refine xS.s1 rfl rfl ?_
  try dsimp only [Nat.reduceAdd, xi_2]
  refine xS.s1 rfl rfl ?_
  try dsimp only [Nat.reduceAdd]
  refine xS.s1 rfl rfl ?_
  try dsimp only [Nat.reduceAdd]
  rw [show ((2 * nI s) : Int32) = nI (2 * s) from by simp only [← nI_add, ← pk_mul]; rfl]
  refine xS.ia rfl xar_82 (by omega) ?_
  try dsimp only [Nat.reduceAdd]
  rw [q1]
  refine xS.s1 rfl rfl ?_
  try dsimp only [Nat.reduceAdd]
  refine xS.gR rfl rfl rfl ⟨by decide, rfl⟩ rfl ?_
  try dsimp only [Nat.reduceAdd]
  refine xS.s1 rfl rfl ?_
  try dsimp only [Nat.reduceAdd, xi_2]
  refine xS.s1 rfl rfl ?_
  try dsimp only [Nat.reduceAdd]
  refine xS.s1 rfl rfl ?_
  try dsimp only [Nat.reduceAdd]
  refine xS.s1 rfl rfl ?_
  try dsimp only [Nat.reduceAdd, xi_1]
  refine xS.s1 rfl rfl ?_
  try dsimp only [Nat.reduceAdd]
  rw [show (((2 * nI s) + 1) : Int32) = nI ((2 * s) + 1) from by simp only [← nI_add, ← pk_mul]; rfl]
  refine xS.ia rfl xar_82 (by omega) ?_
  try dsimp only [Nat.reduceAdd]
  rw [q2]
  refine xS.s1 rfl rfl ?_
  try dsimp only [Nat.reduceAdd]
  refine xS.s1 rfl rfl ?_
  try dsimp only [Nat.reduceAdd]
  -- 21 yX12_showsBy
  refine xS.cv rfl rfl rfl rfl rfl rfl ⟨by decide, rfl, rfl⟩ (c_X12_showsBy hA hR ht (by omega) (by omega) hu) (fun v M1 hv => ?_)
  rw [hv.1, hv.2]
  clear hv M1 v
  try dsimp only [Nat.reduceAdd, Option.toList, List.cons_append, List.nil_append, List.drop]
  refine xS.ret rfl rfl rfl (fun _ _ => rfl) ?_
  exact ⟨rfl, rfl⟩

theorem c_X12_showsOf (hA : xar a n) (hR : xRr g h tx G T Lw) (ht : t < n) (hk : s < G) (hf : ∀ u, u ≤ t → g a u = nI (f u) ∧ f u < 6) : xT (k + 3) 182 [.ref 73, .int (nI s), .ref a, .int (nI t)] (xH b g l) (fun r M' => M' = xH b g l ∧ r = some (.int (xshw h (Lw s / 4) (Lw s % 4) f t))) :=
  c_X12_showsOf_u hA hR (by have := hA.2; omega) hk (fun u hu => ⟨by have := xat_le hu; omega, hf u (xat_le hu)⟩)

set_option maxRecDepth 10000 in
theorem c_X12_termBy (hR : xRr g h tx G T Lw) : xT (k + 1) 183 [.ref 73, .int x, .int y] (xH b g l) (fun r M' => M' = xH b g l ∧ r = some (.int (xfI (xfb tx T x y)))) := by
  have h8 := hR.2.1.2
  rw [show xfb tx T x y = xfb (g 83) T x y from xfb_congr (fun i hi => (hR.2.2.2.2 i hi).symm)]
  refine xT.of rfl (Nat.le_of_ble_eq_true rfl) ?_
  change xS _ _ 0 [(0, .ref 73), (1, .int x), (2, .int y)] [] _ _
  refine xS.s1 rfl rfl ?_
  try dsimp only [Nat.reduceAdd, xi_0]
  refine xS.s1 rfl rfl ?_
  try dsimp only [Nat.reduceAdd]
  refine xS.pick [0, 1, 2, 3] rfl ?_
  refine xS.loop (σ := Unit) (T) (fun j S => [(3, .int (nI j)), (0, .ref 73), (1, .int x), (2, .int y)]) (fun _ _ => xH b g l) (fun j _ => xfst (xtm (g 83) x y) j = none) (()) (rfl) (rfl) (rfl) ?_
  intro j S hj hI ih
  try dsimp only
  refine xS.s1 rfl rfl ?_
  try dsimp only [Nat.reduceAdd]
  refine xS.s1 rfl rfl ?_
  try dsimp only [Nat.reduceAdd]
  refine xS.gI rfl rfl rfl ⟨by decide, rfl⟩ rfl ?_
  try dsimp only [Nat.reduceAdd]
  refine xS.br (c := .ge) (off := 37) (l := 3) rfl rfl (fun h7 => ?_) (fun h7 => ?_)
  · have g7 := xt_ge h7
    refine xS.s1 rfl rfl ?_
    try dsimp only [Nat.reduceAdd, xj_m9]
    refine xS.ret rfl rfl rfl (fun _ _ => rfl) ?_
    rw [hR.2.1.1] at g7
    have e := xnle g7 (by omega) (by omega)
    unfold xfb
    rw [show T = j by omega, hI]
    exact ⟨rfl, rfl⟩
  · have g7 := xf_ge h7
    rw [hR.2.1.1] at g7
    have hlt := xnlt g7 (by omega) (by omega)
    refine xS.s1 rfl rfl ?_
    try dsimp only [Nat.reduceAdd]
    refine xS.gR rfl rfl rfl ⟨by decide, rfl⟩ rfl ?_
    try dsimp only [Nat.reduceAdd]
    refine xS.s1 rfl rfl ?_
    try dsimp only [Nat.reduceAdd, xi_2]
    refine xS.s1 rfl rfl ?_
    try dsimp only [Nat.reduceAdd]
    refine xS.s1 rfl rfl ?_
    try dsimp only [Nat.reduceAdd]
    rw [show ((2 * nI j) : Int32) = nI (2 * j) from by simp only [← nI_add, ← pk_mul]; rfl]
    refine xS.ia rfl xar_83 (by omega) ?_
    try dsimp only [Nat.reduceAdd]
    refine xS.s1 rfl rfl ?_
    try dsimp only [Nat.reduceAdd]
    refine xS.br (c := .ne) (off := 19) (l := 3) rfl rfl (fun h19 => ?_) (fun h19 => ?_)
    · have g19 := xt_ne h19
      refine xS.s1 rfl rfl ?_
      try dsimp only [Nat.reduceAdd, xi_1]
      rw [nI_1]
      refine xS.s1 rfl rfl ?_
      try dsimp only [Nat.reduceAdd]
      refine xS.pick [0, 1, 2, 3] rfl ?_
      exact ih () (by omega) (xfst_n hI (by simp [xtm, g19]))
    · have g19 := xf_ne h19
      refine xS.s1 rfl rfl ?_
      try dsimp only [Nat.reduceAdd]
      refine xS.gR rfl rfl rfl ⟨by decide, rfl⟩ rfl ?_
      try dsimp only [Nat.reduceAdd]
      refine xS.s1 rfl rfl ?_
      try dsimp only [Nat.reduceAdd, xi_2]
      refine xS.s1 rfl rfl ?_
      try dsimp only [Nat.reduceAdd]
      refine xS.s1 rfl rfl ?_
      try dsimp only [Nat.reduceAdd]
      refine xS.s1 rfl rfl ?_
      try dsimp only [Nat.reduceAdd, xi_1]
      refine xS.s1 rfl rfl ?_
      try dsimp only [Nat.reduceAdd]
      rw [show (((2 * nI j) + 1) : Int32) = nI ((2 * j) + 1) from by simp only [← nI_add, ← pk_mul]; rfl]
      refine xS.ia rfl xar_83 (by omega) ?_
      try dsimp only [Nat.reduceAdd]
      refine xS.s1 rfl rfl ?_
      try dsimp only [Nat.reduceAdd]
      refine xS.br (c := .ne) (off := 5) (l := 3) rfl rfl (fun h33 => ?_) (fun h33 => ?_)
      · have g33 := xt_ne h33
        refine xS.s1 rfl rfl ?_
        try dsimp only [Nat.reduceAdd, xi_1]
        rw [nI_1]
        refine xS.s1 rfl rfl ?_
        try dsimp only [Nat.reduceAdd]
        refine xS.pick [0, 1, 2, 3] rfl ?_
        exact ih () (by omega) (xfst_n hI (by simp [xtm, g19, g33]))
      · have g33 := xf_ne h33
        refine xS.s1 rfl rfl ?_
        try dsimp only [Nat.reduceAdd]
        refine xS.ret rfl rfl rfl (fun _ _ => rfl) ?_
        unfold xfb
        rw [xfst_at hI (by simp [xtm, g19, g33]) hlt]
        exact ⟨rfl, rfl⟩

set_option maxRecDepth 10000 in
theorem c_X12_shownOf (hR : xRr g h tx G T Lw) (hD : xDr g h tx T G Lw F4 m) (hm : m ≤ 40) (hd : d < m) : xT (k + 4) 184 [.ref 73, .int (nI d)] (xH b g l) (fun r M' => M' = xH b g l ∧ r = some (.int (F4 (4 * d + 2)))) := by
  obtain ⟨s, k1, h1, h2, h3, h4, h5, h6, h7, h8⟩ := hD d hd
  refine xT.of rfl (Nat.le_of_ble_eq_true rfl) ?_
  change xS _ _ 0 [(0, .ref 73), (1, .int (nI d))] [] _ _
  refine xS.s1 rfl rfl ?_
  try dsimp only [Nat.reduceAdd]
  refine xS.s1 rfl rfl ?_
  try dsimp only [Nat.reduceAdd]
  refine xS.gR rfl rfl rfl ⟨by decide, rfl⟩ rfl ?_
  try dsimp only [Nat.reduceAdd]
  refine xS.s1 rfl rfl ?_
  try dsimp only [Nat.reduceAdd]
  refine xS.ia rfl xar_85 (by omega) ?_
  try dsimp only [Nat.reduceAdd]
  rw [h8]
  refine xS.s1 rfl rfl ?_
  try dsimp only [Nat.reduceAdd]
  refine xS.gR rfl rfl rfl ⟨by decide, rfl⟩ rfl ?_
  try dsimp only [Nat.reduceAdd]
  refine xS.s1 rfl rfl ?_
  try dsimp only [Nat.reduceAdd]
  -- 12 yX12_showsOf
  refine xS.cv rfl rfl rfl rfl rfl rfl ⟨by decide, rfl, rfl⟩ (c_X12_showsOf (f := fun i => xN (F4 (4 * i))) xar_84 hR (by omega) h2 (fun u hu => xDr_84 hD u (by omega))) (fun v M1 hv => ?_)
  rw [hv.1, hv.2]
  clear hv M1 v
  try dsimp only [Nat.reduceAdd, Option.toList, List.cons_append, List.nil_append, List.drop]
  refine xS.ret rfl rfl rfl (fun _ _ => rfl) ?_
  rw [h5]
  exact ⟨rfl, rfl⟩

set_option maxRecDepth 10000 in
theorem c_X12_brokenBy (hR : xRr g h tx G T Lw) (hD : xDr g h tx T G Lw F4 m) (hm : m ≤ 40) (hd : d < m) : xT (k + 5) 185 [.ref 73, .int (nI d)] (xH b g l) (fun r M' => M' = xH b g l ∧ r = some (.int (F4 (4 * d + 3)))) := by
  obtain ⟨s, k1, h1, h2, h3, h4, h5, h6, h7, h8⟩ := hD d hd
  refine xT.of rfl (Nat.le_of_ble_eq_true rfl) ?_
  change xS _ _ 0 [(0, .ref 73), (1, .int (nI d))] [] _ _
  refine xS.s1 rfl rfl ?_
  try dsimp only [Nat.reduceAdd]
  refine xS.s1 rfl rfl ?_
  try dsimp only [Nat.reduceAdd]
  refine xS.gR rfl rfl rfl ⟨by decide, rfl⟩ rfl ?_
  try dsimp only [Nat.reduceAdd]
  refine xS.s1 rfl rfl ?_
  try dsimp only [Nat.reduceAdd]
  refine xS.ia rfl xar_84 (by omega) ?_
  try dsimp only [Nat.reduceAdd]
  rw [h7]
  refine xS.s1 rfl rfl ?_
  try dsimp only [Nat.reduceAdd]
  refine xS.s1 rfl rfl ?_
  try dsimp only [Nat.reduceAdd]
  -- 9 yX12_shownOf
  refine xS.cv rfl rfl rfl rfl rfl rfl ⟨by decide, rfl, rfl⟩ (c_X12_shownOf hR hD hm hd) (fun v M1 hv => ?_)
  rw [hv.1, hv.2, h5]
  clear hv M1 v
  try dsimp only [Nat.reduceAdd, Option.toList, List.cons_append, List.nil_append, List.drop]
  -- 12 yX12_termBy
  refine xS.cv rfl rfl rfl rfl rfl rfl ⟨by decide, rfl, rfl⟩ (c_X12_termBy hR) (fun v M1 hv => ?_)
  rw [hv.1, hv.2]
  clear hv M1 v
  try dsimp only [Nat.reduceAdd, Option.toList, List.cons_append, List.nil_append, List.drop]
  refine xS.ret rfl rfl rfl (fun _ _ => rfl) ?_
  rw [h6]
  exact ⟨rfl, rfl⟩

theorem xiso_r {κ t : Nat} (hk : κ < 6) (ht1 : 1 ≤ t) (ht : t ≤ 5) : (xiso κ (nI t) = true) ↔ (κ = t ∨ (κ = 4 ∧ t = 1) ∨ (κ = 5 ∧ t = 2)) := by
  have hd : ∀ κ t : Fin 6, 1 ≤ t.val → decide ((xiso κ.val (nI t.val) = true) ↔ (κ.val = t.val ∨ (κ.val = 4 ∧ t.val = 1) ∨ (κ.val = 5 ∧ t.val = 2))) = true := by decide
  exact of_decide_eq_true (hd ⟨κ, hk⟩ ⟨t, by omega⟩ ht1)

set_option maxRecDepth 10000 in
theorem c_X12_isOf (hk : κ < 6) (ht1 : 1 ≤ t) (ht : t ≤ 5) : xT (k + 1) 186 [.int (nI κ), .int (nI t)] (xH b g l) (fun r M' => M' = xH b g l ∧ r = some (.int (if xiso κ (nI t) = true then 1 else 0))) := by
  refine xT.of rfl (Nat.le_of_ble_eq_true rfl) ?_
  change xS _ _ 0 [(0, .int (nI κ)), (1, .int (nI t))] [] _ _
  refine xS.s1 rfl rfl ?_
  try dsimp only [Nat.reduceAdd]
  refine xS.s1 rfl rfl ?_
  try dsimp only [Nat.reduceAdd]
  refine xS.br (c := .eq) (off := 23) (l := 3) rfl rfl (fun h2 => ?_) (fun h2 => ?_)
  · have g2 := xt_eq h2
    refine xS.s1 rfl rfl ?_
    try dsimp only [Nat.reduceAdd, xi_1]
    refine xS.s1 rfl rfl ?_
    try dsimp only [Nat.reduceAdd]
    refine xS.ret rfl rfl rfl (fun _ _ => rfl) ?_
    have e2 : κ = t := (nI_eq (a := κ) (b := t) (by omega) (by omega)).mp g2
    refine ⟨rfl, ?_⟩
    have hr := xiso_r hk ht1 ht
    by_cases c : xiso κ (nI t) = true
    · first | (rw [if_pos c]; done) | (exfalso; have := hr.mp c; omega)
    · first | (rw [if_neg c]; done) | (exfalso; have := (not_congr hr).mp c; omega)
  · have g2 := xf_eq h2
    refine xS.s1 rfl rfl ?_
    try dsimp only [Nat.reduceAdd]
    refine xS.s1 rfl rfl ?_
    try dsimp only [Nat.reduceAdd, xi_4]
    refine xS.br (c := .ne) (off := 8) (l := 3) rfl rfl (fun h7 => ?_) (fun h7 => ?_)
    · have g7 := xt_ne h7
      refine xS.s1 rfl rfl ?_
      try dsimp only [Nat.reduceAdd]
      refine xS.s1 rfl rfl ?_
      try dsimp only [Nat.reduceAdd, xi_5]
      refine xS.br (c := .ne) (off := 12) (l := 3) rfl rfl (fun h17 => ?_) (fun h17 => ?_)
      · have g17 := xt_ne h17
        refine xS.s1 rfl rfl ?_
        try dsimp only [Nat.reduceAdd, xi_0]
        refine xS.ret rfl rfl rfl (fun _ _ => rfl) ?_
        have e2 : ¬ κ = t := fun z => g2 (congrArg nI z)
        have e7 : ¬ κ = 4 := fun z => g7 (congrArg nI z)
        have e17 : ¬ κ = 5 := fun z => g17 (congrArg nI z)
        refine ⟨rfl, ?_⟩
        have hr := xiso_r hk ht1 ht
        by_cases c : xiso κ (nI t) = true
        · first | (rw [if_pos c]; done) | (exfalso; have := hr.mp c; omega)
        · first | (rw [if_neg c]; done) | (exfalso; have := (not_congr hr).mp c; omega)
      · have g17 := xf_ne h17
        refine xS.s1 rfl rfl ?_
        try dsimp only [Nat.reduceAdd]
        refine xS.s1 rfl rfl ?_
        try dsimp only [Nat.reduceAdd, xi_2]
        refine xS.br (c := .ne) (off := 7) (l := 3) rfl rfl (fun h22 => ?_) (fun h22 => ?_)
        · have g22 := xt_ne h22
          refine xS.s1 rfl rfl ?_
          try dsimp only [Nat.reduceAdd, xi_0]
          refine xS.ret rfl rfl rfl (fun _ _ => rfl) ?_
          have e2 : ¬ κ = t := fun z => g2 (congrArg nI z)
          have e7 : ¬ κ = 4 := fun z => g7 (congrArg nI z)
          have e17 : κ = 5 := (nI_eq (a := κ) (b := 5) (by omega) (by omega)).mp g17
          have e22 : ¬ t = 2 := fun z => g22 (congrArg nI z)
          refine ⟨rfl, ?_⟩
          have hr := xiso_r hk ht1 ht
          by_cases c : xiso κ (nI t) = true
          · first | (rw [if_pos c]; done) | (exfalso; have := hr.mp c; omega)
          · first | (rw [if_neg c]; done) | (exfalso; have := (not_congr hr).mp c; omega)
        · have g22 := xf_ne h22
          refine xS.s1 rfl rfl ?_
          try dsimp only [Nat.reduceAdd, xi_1]
          refine xS.s1 rfl rfl ?_
          try dsimp only [Nat.reduceAdd]
          refine xS.ret rfl rfl rfl (fun _ _ => rfl) ?_
          have e2 : ¬ κ = t := fun z => g2 (congrArg nI z)
          have e7 : ¬ κ = 4 := fun z => g7 (congrArg nI z)
          have e17 : κ = 5 := (nI_eq (a := κ) (b := 5) (by omega) (by omega)).mp g17
          have e22 : t = 2 := (nI_eq (a := t) (b := 2) (by omega) (by omega)).mp g22
          refine ⟨rfl, ?_⟩
          have hr := xiso_r hk ht1 ht
          by_cases c : xiso κ (nI t) = true
          · first | (rw [if_pos c]; done) | (exfalso; have := hr.mp c; omega)
          · first | (rw [if_neg c]; done) | (exfalso; have := (not_congr hr).mp c; omega)
    · have g7 := xf_ne h7
      refine xS.s1 rfl rfl ?_
      try dsimp only [Nat.reduceAdd]
      refine xS.s1 rfl rfl ?_
      try dsimp only [Nat.reduceAdd, xi_1]
      refine xS.br (c := .eq) (off := 13) (l := 3) rfl rfl (fun h12 => ?_) (fun h12 => ?_)
      · have g12 := xt_eq h12
        refine xS.s1 rfl rfl ?_
        try dsimp only [Nat.reduceAdd, xi_1]
        refine xS.s1 rfl rfl ?_
        try dsimp only [Nat.reduceAdd]
        refine xS.ret rfl rfl rfl (fun _ _ => rfl) ?_
        have e2 : ¬ κ = t := fun z => g2 (congrArg nI z)
        have e7 : κ = 4 := (nI_eq (a := κ) (b := 4) (by omega) (by omega)).mp g7
        have e12 : t = 1 := (nI_eq (a := t) (b := 1) (by omega) (by omega)).mp g12
        refine ⟨rfl, ?_⟩
        have hr := xiso_r hk ht1 ht
        by_cases c : xiso κ (nI t) = true
        · first | (rw [if_pos c]; done) | (exfalso; have := hr.mp c; omega)
        · first | (rw [if_neg c]; done) | (exfalso; have := (not_congr hr).mp c; omega)
      · have g12 := xf_eq h12
        refine xS.s1 rfl rfl ?_
        try dsimp only [Nat.reduceAdd]
        refine xS.s1 rfl rfl ?_
        try dsimp only [Nat.reduceAdd, xi_5]
        refine xS.br (c := .ne) (off := 12) (l := 3) rfl rfl (fun h17 => ?_) (fun h17 => ?_)
        · have g17 := xt_ne h17
          refine xS.s1 rfl rfl ?_
          try dsimp only [Nat.reduceAdd, xi_0]
          refine xS.ret rfl rfl rfl (fun _ _ => rfl) ?_
          have e2 : ¬ κ = t := fun z => g2 (congrArg nI z)
          have e7 : κ = 4 := (nI_eq (a := κ) (b := 4) (by omega) (by omega)).mp g7
          have e12 : ¬ t = 1 := fun z => g12 (congrArg nI z)
          have e17 : ¬ κ = 5 := fun z => g17 (congrArg nI z)
          refine ⟨rfl, ?_⟩
          have hr := xiso_r hk ht1 ht
          by_cases c : xiso κ (nI t) = true
          · first | (rw [if_pos c]; done) | (exfalso; have := hr.mp c; omega)
          · first | (rw [if_neg c]; done) | (exfalso; have := (not_congr hr).mp c; omega)
        · have g17 := xf_ne h17
          refine xS.s1 rfl rfl ?_
          try dsimp only [Nat.reduceAdd]
          refine xS.s1 rfl rfl ?_
          try dsimp only [Nat.reduceAdd, xi_2]
          refine xS.br (c := .ne) (off := 7) (l := 3) rfl rfl (fun h22 => ?_) (fun h22 => ?_)
          · have g22 := xt_ne h22
            refine xS.s1 rfl rfl ?_
            try dsimp only [Nat.reduceAdd, xi_0]
            refine xS.ret rfl rfl rfl (fun _ _ => rfl) ?_
            have e2 : ¬ κ = t := fun z => g2 (congrArg nI z)
            have e7 : κ = 4 := (nI_eq (a := κ) (b := 4) (by omega) (by omega)).mp g7
            have e12 : ¬ t = 1 := fun z => g12 (congrArg nI z)
            have e17 : κ = 5 := (nI_eq (a := κ) (b := 5) (by omega) (by omega)).mp g17
            have e22 : ¬ t = 2 := fun z => g22 (congrArg nI z)
            refine ⟨rfl, ?_⟩
            have hr := xiso_r hk ht1 ht
            by_cases c : xiso κ (nI t) = true
            · first | (rw [if_pos c]; done) | (exfalso; have := hr.mp c; omega)
            · first | (rw [if_neg c]; done) | (exfalso; have := (not_congr hr).mp c; omega)
          · have g22 := xf_ne h22
            refine xS.s1 rfl rfl ?_
            try dsimp only [Nat.reduceAdd, xi_1]
            refine xS.s1 rfl rfl ?_
            try dsimp only [Nat.reduceAdd]
            refine xS.ret rfl rfl rfl (fun _ _ => rfl) ?_
            have e2 : ¬ κ = t := fun z => g2 (congrArg nI z)
            have e7 : κ = 4 := (nI_eq (a := κ) (b := 4) (by omega) (by omega)).mp g7
            have e12 : ¬ t = 1 := fun z => g12 (congrArg nI z)
            have e17 : κ = 5 := (nI_eq (a := κ) (b := 5) (by omega) (by omega)).mp g17
            have e22 : t = 2 := (nI_eq (a := t) (b := 2) (by omega) (by omega)).mp g22
            refine ⟨rfl, ?_⟩
            have hr := xiso_r hk ht1 ht
            by_cases c : xiso κ (nI t) = true
            · first | (rw [if_pos c]; done) | (exfalso; have := hr.mp c; omega)
            · first | (rw [if_neg c]; done) | (exfalso; have := (not_congr hr).mp c; omega)

theorem c_in_x : xT (k + 1) 151 [.int x, .int y, .int z] (xH b g l) (fun r M' => M' = xH b g l ∧ r = some (.int (if y ≤ x ∧ x ≤ z then 1 else 0))) := c_X12_in

set_option maxRecDepth 10000 in
theorem c_X12_glass_bad (hR : xRr g h tx G T Lw) (hx : ¬ ((0 ≤ x ∧ x < nI G) ∧ 0 ≤ y ∧ y ≤ 3)) : xT (k + 6) 187 [.ref 73, .int x, .int y] (xH b g l) (fun r M' => M' = xH b g l ∧ r = some (.int (-1))) := by
  refine xT.of rfl (Nat.le_of_ble_eq_true rfl) ?_
  change xS _ _ 0 [(0, .ref 73), (1, .int x), (2, .int y)] [] _ _
  refine xS.s1 rfl rfl ?_
  try dsimp only [Nat.reduceAdd]
  refine xS.s1 rfl rfl ?_
  try dsimp only [Nat.reduceAdd]
  -- 2 yX12_isGlass
  refine xS.cv rfl rfl rfl rfl rfl rfl ⟨by decide, rfl, rfl⟩ (c_X12_isGlass hR.1.1 hR.1.2) (fun v M1 hv => ?_)
  rw [hv.1, hv.2]
  clear hv M1 v
  try dsimp only [Nat.reduceAdd, Option.toList, List.cons_append, List.nil_append, List.drop]
  refine xS.br0 (c := .eq) (off := 12) (l := 3) rfl rfl (fun h5 => ?_) (fun h5 => ?_)
  · have g5 := xt_eq h5
    refine xS.s1 rfl rfl ?_
    try dsimp only [Nat.reduceAdd, xi_m1]
    refine xS.ret rfl rfl rfl (fun _ _ => rfl) ?_
    exact ⟨rfl, rfl⟩
  · have g5 := xf_eq h5
    refine xS.s1 rfl rfl ?_
    try dsimp only [Nat.reduceAdd]
    refine xS.s1 rfl rfl ?_
    try dsimp only [Nat.reduceAdd, xi_0]
    refine xS.s1 rfl rfl ?_
    try dsimp only [Nat.reduceAdd, xi_3]
    -- 11 yX12_in
    refine xS.callS rfl rfl rfl ⟨Nat.le_of_ble_eq_true rfl, rfl⟩ c_in_x (fun v M1 hv => ?_)
    rw [hv.1, hv.2]
    clear hv M1 v
    try dsimp only [Nat.reduceAdd, Option.toList, List.cons_append, List.nil_append, List.drop]
    refine xS.br0 (c := .ne) (off := 5) (l := 3) rfl rfl (fun h14 => ?_) (fun h14 => ?_)
    · have g14 := xt_ne h14
      exact absurd ⟨xif1 g5, xif1 g14⟩ hx
    · have g14 := xf_ne h14
      refine xS.s1 rfl rfl ?_
      try dsimp only [Nat.reduceAdd, xi_m1]
      refine xS.ret rfl rfl rfl (fun _ _ => rfl) ?_
      exact ⟨rfl, rfl⟩

set_option maxRecDepth 10000 in
theorem c_X12_glass_0 (hR : xRr g h tx G T Lw) (hk : s < G) (hD : xDr g h tx T G Lw F4 m) (hm : m ≤ 40) (hs : g 73 14 = nI m) : xT (k + 6) 187 [.ref 73, .int (nI s), .int (nI 0)] (xH b g l) (fun r M' => M' = xH b (up g 73 20 (nI (Lw s / 4))) l ∧ r = some (.int 1)) := by
  have h6 := hR.1.2
  obtain ⟨q1, q2, q3⟩ := hR.2.2.1 s hk
  refine xT.of rfl (Nat.le_of_ble_eq_true rfl) ?_
  change xS _ _ 0 [(0, .ref 73), (1, .int (nI s)), (2, .int (nI 0))] [] _ _
  refine xS.s1 rfl rfl ?_
  try dsimp only [Nat.reduceAdd]
  refine xS.s1 rfl rfl ?_
  try dsimp only [Nat.reduceAdd]
  -- 2 yX12_isGlass
  refine xS.cv rfl rfl rfl rfl rfl rfl ⟨by decide, rfl, rfl⟩ (c_X12_isGlass_in hR.1.1 hR.1.2 hk) (fun v M1 hv => ?_)
  rw [hv.1, hv.2]
  clear hv M1 v
  try dsimp only [Nat.reduceAdd, Option.toList, List.cons_append, List.nil_append, List.drop]
  refine xS.br0 (c := .eq) (off := 12) (l := 3) rfl rfl (fun h5 => ?_) (fun h5 => ?_)
  · have g5 := xt_eq h5
    exfalso; first | exact absurd g5 (by decide) | (simp (disch := omega) only [Int32.lt_iff_toInt_lt, Int32.le_iff_toInt_le, nI_toInt, Int32.reduceToInt] at g5 <;> omega)
  · have g5 := xf_eq h5
    refine xS.s1 rfl rfl ?_
    try dsimp only [Nat.reduceAdd]
    refine xS.s1 rfl rfl ?_
    try dsimp only [Nat.reduceAdd, xi_0]
    refine xS.s1 rfl rfl ?_
    try dsimp only [Nat.reduceAdd, xi_3]
    -- 11 yX12_in
    refine xS.callS rfl rfl rfl ⟨Nat.le_of_ble_eq_true rfl, rfl⟩ (c_in_n1 (t := 0) (s := 0) (m := 3) (by decide) (by decide) (by decide)) (fun v M1 hv => ?_)
    rw [hv.1, hv.2]
    clear hv M1 v
    try dsimp only [Nat.reduceAdd, Option.toList, List.cons_append, List.nil_append, List.drop]
    refine xS.br0 (c := .ne) (off := 5) (l := 3) rfl rfl (fun h14 => ?_) (fun h14 => ?_)
    · have g14 := xt_ne h14
      refine xS.s1 rfl rfl ?_
      try dsimp only [Nat.reduceAdd]
      refine xS.s1 rfl rfl ?_
      try dsimp only [Nat.reduceAdd, xi_2]
      refine xS.br (c := .ge) (off := 18) (l := 3) rfl rfl (fun h21 => ?_) (fun h21 => ?_)
      · have g21 := xt_ge h21
        exfalso; first | exact absurd g21 (by decide) | (simp (disch := omega) only [Int32.lt_iff_toInt_lt, Int32.le_iff_toInt_le, nI_toInt, Int32.reduceToInt] at g21 <;> omega)
      · have g21 := xf_ge h21
        refine xS.s1 rfl rfl ?_
        try dsimp only [Nat.reduceAdd]
        refine xS.s1 rfl rfl ?_
        try dsimp only [Nat.reduceAdd]
        refine xS.gR rfl rfl rfl ⟨by decide, rfl⟩ rfl ?_
        try dsimp only [Nat.reduceAdd]
        refine xS.s1 rfl rfl ?_
        try dsimp only [Nat.reduceAdd, xi_2]
        refine xS.s1 rfl rfl ?_
        try dsimp only [Nat.reduceAdd]
        refine xS.s1 rfl rfl ?_
        try dsimp only [Nat.reduceAdd]
        refine xS.s1 rfl rfl ?_
        try dsimp only [Nat.reduceAdd]
        refine xS.s1 rfl rfl ?_
        try dsimp only [Nat.reduceAdd]
        rw [show (((2 * nI s) + nI 0) : Int32) = nI ((2 * s) + 0) from by simp only [← nI_add, ← pk_mul]; rfl]
        refine xS.ia rfl xar_82 (by omega) ?_
        try dsimp only [Nat.reduceAdd]
        rw [show 2 * s + 0 = 2 * s from rfl, q1]
        -- 35 yX12_tells
        refine xS.cv rfl rfl rfl rfl rfl rfl ⟨by decide, rfl, rfl⟩ c_X12_tells (fun v M1 hv => ?_)
        rw [hv.1, hv.2]
        clear hv M1 v
        try dsimp only [Nat.reduceAdd, Option.toList, List.cons_append, List.nil_append, List.drop]
        refine xS.ret rfl rfl rfl (fun _ _ => rfl) ?_
        exact ⟨rfl, rfl⟩
    · have g14 := xf_ne h14
      exfalso; first | exact absurd g14 (by decide) | (simp (disch := omega) only [Int32.lt_iff_toInt_lt, Int32.le_iff_toInt_le, nI_toInt, Int32.reduceToInt] at g14 <;> omega)

set_option maxRecDepth 10000 in
theorem c_X12_glass_1 (hR : xRr g h tx G T Lw) (hk : s < G) (hD : xDr g h tx T G Lw F4 m) (hm : m ≤ 40) (hs : g 73 14 = nI m) : xT (k + 6) 187 [.ref 73, .int (nI s), .int (nI 1)] (xH b g l) (fun r M' => M' = xH b (up g 73 20 (nI (Lw s % 4))) l ∧ r = some (.int 1)) := by
  have h6 := hR.1.2
  obtain ⟨q1, q2, q3⟩ := hR.2.2.1 s hk
  refine xT.of rfl (Nat.le_of_ble_eq_true rfl) ?_
  change xS _ _ 0 [(0, .ref 73), (1, .int (nI s)), (2, .int (nI 1))] [] _ _
  refine xS.s1 rfl rfl ?_
  try dsimp only [Nat.reduceAdd]
  refine xS.s1 rfl rfl ?_
  try dsimp only [Nat.reduceAdd]
  -- 2 yX12_isGlass
  refine xS.cv rfl rfl rfl rfl rfl rfl ⟨by decide, rfl, rfl⟩ (c_X12_isGlass_in hR.1.1 hR.1.2 hk) (fun v M1 hv => ?_)
  rw [hv.1, hv.2]
  clear hv M1 v
  try dsimp only [Nat.reduceAdd, Option.toList, List.cons_append, List.nil_append, List.drop]
  refine xS.br0 (c := .eq) (off := 12) (l := 3) rfl rfl (fun h5 => ?_) (fun h5 => ?_)
  · have g5 := xt_eq h5
    exfalso; first | exact absurd g5 (by decide) | (simp (disch := omega) only [Int32.lt_iff_toInt_lt, Int32.le_iff_toInt_le, nI_toInt, Int32.reduceToInt] at g5 <;> omega)
  · have g5 := xf_eq h5
    refine xS.s1 rfl rfl ?_
    try dsimp only [Nat.reduceAdd]
    refine xS.s1 rfl rfl ?_
    try dsimp only [Nat.reduceAdd, xi_0]
    refine xS.s1 rfl rfl ?_
    try dsimp only [Nat.reduceAdd, xi_3]
    -- 11 yX12_in
    refine xS.callS rfl rfl rfl ⟨Nat.le_of_ble_eq_true rfl, rfl⟩ (c_in_n1 (t := 1) (s := 0) (m := 3) (by decide) (by decide) (by decide)) (fun v M1 hv => ?_)
    rw [hv.1, hv.2]
    clear hv M1 v
    try dsimp only [Nat.reduceAdd, Option.toList, List.cons_append, List.nil_append, List.drop]
    refine xS.br0 (c := .ne) (off := 5) (l := 3) rfl rfl (fun h14 => ?_) (fun h14 => ?_)
    · have g14 := xt_ne h14
      refine xS.s1 rfl rfl ?_
      try dsimp only [Nat.reduceAdd]
      refine xS.s1 rfl rfl ?_
      try dsimp only [Nat.reduceAdd, xi_2]
      refine xS.br (c := .ge) (off := 18) (l := 3) rfl rfl (fun h21 => ?_) (fun h21 => ?_)
      · have g21 := xt_ge h21
        exfalso; first | exact absurd g21 (by decide) | (simp (disch := omega) only [Int32.lt_iff_toInt_lt, Int32.le_iff_toInt_le, nI_toInt, Int32.reduceToInt] at g21 <;> omega)
      · have g21 := xf_ge h21
        refine xS.s1 rfl rfl ?_
        try dsimp only [Nat.reduceAdd]
        refine xS.s1 rfl rfl ?_
        try dsimp only [Nat.reduceAdd]
        refine xS.gR rfl rfl rfl ⟨by decide, rfl⟩ rfl ?_
        try dsimp only [Nat.reduceAdd]
        refine xS.s1 rfl rfl ?_
        try dsimp only [Nat.reduceAdd, xi_2]
        refine xS.s1 rfl rfl ?_
        try dsimp only [Nat.reduceAdd]
        refine xS.s1 rfl rfl ?_
        try dsimp only [Nat.reduceAdd]
        refine xS.s1 rfl rfl ?_
        try dsimp only [Nat.reduceAdd]
        refine xS.s1 rfl rfl ?_
        try dsimp only [Nat.reduceAdd]
        rw [show (((2 * nI s) + nI 1) : Int32) = nI ((2 * s) + 1) from by simp only [← nI_add, ← pk_mul]; rfl]
        refine xS.ia rfl xar_82 (by omega) ?_
        try dsimp only [Nat.reduceAdd]
        rw [q2]
        -- 35 yX12_tells
        refine xS.cv rfl rfl rfl rfl rfl rfl ⟨by decide, rfl, rfl⟩ c_X12_tells (fun v M1 hv => ?_)
        rw [hv.1, hv.2]
        clear hv M1 v
        try dsimp only [Nat.reduceAdd, Option.toList, List.cons_append, List.nil_append, List.drop]
        refine xS.ret rfl rfl rfl (fun _ _ => rfl) ?_
        exact ⟨rfl, rfl⟩
    · have g14 := xf_ne h14
      exfalso; first | exact absurd g14 (by decide) | (simp (disch := omega) only [Int32.lt_iff_toInt_lt, Int32.le_iff_toInt_le, nI_toInt, Int32.reduceToInt] at g14 <;> omega)

set_option maxRecDepth 10000 in
theorem c_X12_glass_2 (hR : xRr g h tx G T Lw) (hk : s < G) (hD : xDr g h tx T G Lw F4 m) (hm : m ≤ 40) (hs : g 73 14 = nI m) : xT (k + 6) 187 [.ref 73, .int (nI s), .int (nI 2)] (xH b g l) (fun r M' => M' = xH b (up g 73 20 (nI (xcnt (fun d => decide (F4 (4 * d + 1) = nI s)) m))) l ∧ r = some (.int 1)) := by
  have h6 := hR.1.2
  obtain ⟨q1, q2, q3⟩ := hR.2.2.1 s hk
  refine xT.of rfl (Nat.le_of_ble_eq_true rfl) ?_
  change xS _ _ 0 [(0, .ref 73), (1, .int (nI s)), (2, .int (nI 2))] [] _ _
  refine xS.s1 rfl rfl ?_
  try dsimp only [Nat.reduceAdd]
  refine xS.s1 rfl rfl ?_
  try dsimp only [Nat.reduceAdd]
  -- 2 yX12_isGlass
  refine xS.cv rfl rfl rfl rfl rfl rfl ⟨by decide, rfl, rfl⟩ (c_X12_isGlass_in hR.1.1 hR.1.2 hk) (fun v M1 hv => ?_)
  rw [hv.1, hv.2]
  clear hv M1 v
  try dsimp only [Nat.reduceAdd, Option.toList, List.cons_append, List.nil_append, List.drop]
  refine xS.br0 (c := .eq) (off := 12) (l := 3) rfl rfl (fun h5 => ?_) (fun h5 => ?_)
  · have g5 := xt_eq h5
    exfalso; first | exact absurd g5 (by decide) | (simp (disch := omega) only [Int32.lt_iff_toInt_lt, Int32.le_iff_toInt_le, nI_toInt, Int32.reduceToInt] at g5 <;> omega)
  · have g5 := xf_eq h5
    refine xS.s1 rfl rfl ?_
    try dsimp only [Nat.reduceAdd]
    refine xS.s1 rfl rfl ?_
    try dsimp only [Nat.reduceAdd, xi_0]
    refine xS.s1 rfl rfl ?_
    try dsimp only [Nat.reduceAdd, xi_3]
    -- 11 yX12_in
    refine xS.callS rfl rfl rfl ⟨Nat.le_of_ble_eq_true rfl, rfl⟩ (c_in_n1 (t := 2) (s := 0) (m := 3) (by decide) (by decide) (by decide)) (fun v M1 hv => ?_)
    rw [hv.1, hv.2]
    clear hv M1 v
    try dsimp only [Nat.reduceAdd, Option.toList, List.cons_append, List.nil_append, List.drop]
    refine xS.br0 (c := .ne) (off := 5) (l := 3) rfl rfl (fun h14 => ?_) (fun h14 => ?_)
    · have g14 := xt_ne h14
      refine xS.s1 rfl rfl ?_
      try dsimp only [Nat.reduceAdd]
      refine xS.s1 rfl rfl ?_
      try dsimp only [Nat.reduceAdd, xi_2]
      refine xS.br (c := .ge) (off := 18) (l := 3) rfl rfl (fun h21 => ?_) (fun h21 => ?_)
      · have g21 := xt_ge h21
        refine xS.s1 rfl rfl ?_
        try dsimp only [Nat.reduceAdd, xi_0]
        refine xS.s1 rfl rfl ?_
        try dsimp only [Nat.reduceAdd]
        refine xS.s1 rfl rfl ?_
        try dsimp only [Nat.reduceAdd, xi_0]
        refine xS.s1 rfl rfl ?_
        try dsimp only [Nat.reduceAdd]
        refine xS.pick [0, 1, 2, 3, 4] rfl ?_
        refine xS.loop (σ := Unit) (m) (fun j S => [(4, .int (nI j)), (3, .int (nI (xcnt (fun d => decide (F4 (4 * d + 1) = nI s)) j))), (0, .ref 73), (1, .int (nI s)), (2, .int (nI 2))]) (fun _ _ => xH b g l) (fun _ _ => True) (()) (rfl) (rfl) (trivial) ?_
        intro j S hj hI ih
        try dsimp only
        refine xS.s1 rfl rfl ?_
        try dsimp only [Nat.reduceAdd]
        refine xS.s1 rfl rfl ?_
        try dsimp only [Nat.reduceAdd]
        refine xS.gI rfl rfl rfl ⟨by decide, rfl⟩ rfl ?_
        try dsimp only [Nat.reduceAdd]
        refine xS.br (c := .ge) (off := 44) (l := 3) rfl rfl (fun h50 => ?_) (fun h50 => ?_)
        · have g50 := xt_ge h50
          rw [hs] at g50
          have e := xnle g50 (by omega) (by omega)
          have e2 : m = j := by omega
          subst e2
          refine xS.s1 rfl rfl ?_
          try dsimp only [Nat.reduceAdd]
          refine xS.s1 rfl rfl ?_
          try dsimp only [Nat.reduceAdd]
          -- 96 yX12_tells
          refine xS.cv rfl rfl rfl rfl rfl rfl ⟨by decide, rfl, rfl⟩ c_X12_tells (fun v M1 hv => ?_)
          rw [hv.1, hv.2]
          clear hv M1 v
          try dsimp only [Nat.reduceAdd, Option.toList, List.cons_append, List.nil_append, List.drop]
          refine xS.ret rfl rfl rfl (fun _ _ => rfl) ?_
          exact ⟨rfl, rfl⟩
        · have g50 := xf_ge h50
          rw [hs] at g50
          have hlt := xnlt g50 (by omega) (by omega)
          obtain ⟨s9, k9, r1, r2, r3, r4, r5, r6, r7, r8⟩ := hD j hlt
          refine xS.s1 rfl rfl ?_
          try dsimp only [Nat.reduceAdd]
          refine xS.s1 rfl rfl ?_
          try dsimp only [Nat.reduceAdd]
          refine xS.gR rfl rfl rfl ⟨by decide, rfl⟩ rfl ?_
          try dsimp only [Nat.reduceAdd]
          refine xS.s1 rfl rfl ?_
          try dsimp only [Nat.reduceAdd]
          refine xS.ia rfl xar_85 (by omega) ?_
          try dsimp only [Nat.reduceAdd]
          rw [r8, ← r4]
          refine xS.s1 rfl rfl ?_
          try dsimp only [Nat.reduceAdd]
          refine xS.br (c := .ne) (off := 23) (l := 3) rfl rfl (fun h62 => ?_) (fun h62 => ?_)
          · have g62 := xt_ne h62
            refine xS.s1 rfl rfl ?_
            try dsimp only [Nat.reduceAdd, xi_0]
            refine xS.s1 rfl rfl ?_
            try dsimp only [Nat.reduceAdd]
            refine xS.s1 rfl rfl ?_
            try dsimp only [Nat.reduceAdd]
            refine xS.s1 rfl rfl ?_
            try dsimp only [Nat.reduceAdd, xi_1]
            rw [nI_1]
            refine xS.s1 rfl rfl ?_
            try dsimp only [Nat.reduceAdd]
            refine xS.pick [0, 1, 2, 3, 4] rfl ?_
            rw [show nI (xcnt (fun d => decide (F4 (4 * d + 1) = nI s)) j) + 0 = nI (xcnt (fun d => decide (F4 (4 * d + 1) = nI s)) j) from nI_add _ 0]
            have ih2 := ih () (by omega) trivial
            first | (rw [show xcnt (fun d => decide (F4 (4 * d + 1) = nI s)) (j + 1) = xcnt (fun d => decide (F4 (4 * d + 1) = nI s)) j from by simp [xcnt_s, g62]] at ih2; exact ih2) | (rw [show xcnt (fun d => decide (F4 (4 * d + 1) = nI s)) (j + 1) = xcnt (fun d => decide (F4 (4 * d + 1) = nI s)) j + 1 from by simp [xcnt_s, g62]] at ih2; exact ih2)
          · have g62 := xf_ne h62
            refine xS.s1 rfl rfl ?_
            try dsimp only [Nat.reduceAdd]
            refine xS.s1 rfl rfl ?_
            try dsimp only [Nat.reduceAdd, xi_2]
            refine xS.br (c := .eq) (off := 14) (l := 3) rfl rfl (fun h67 => ?_) (fun h67 => ?_)
            · have g67 := xt_eq h67
              refine xS.s1 rfl rfl ?_
              try dsimp only [Nat.reduceAdd, xi_1]
              refine xS.s1 rfl rfl ?_
              try dsimp only [Nat.reduceAdd]
              refine xS.s1 rfl rfl ?_
              try dsimp only [Nat.reduceAdd]
              refine xS.s1 rfl rfl ?_
              try dsimp only [Nat.reduceAdd]
              refine xS.s1 rfl rfl ?_
              try dsimp only [Nat.reduceAdd, xi_1]
              rw [nI_1]
              refine xS.s1 rfl rfl ?_
              try dsimp only [Nat.reduceAdd]
              refine xS.pick [0, 1, 2, 3, 4] rfl ?_
              rw [nI_1]
              have ih2 := ih () (by omega) trivial
              first | (rw [show xcnt (fun d => decide (F4 (4 * d + 1) = nI s)) (j + 1) = xcnt (fun d => decide (F4 (4 * d + 1) = nI s)) j from by simp [xcnt_s, g62]] at ih2; exact ih2) | (rw [show xcnt (fun d => decide (F4 (4 * d + 1) = nI s)) (j + 1) = xcnt (fun d => decide (F4 (4 * d + 1) = nI s)) j + 1 from by simp [xcnt_s, g62]] at ih2; exact ih2)
            · have g67 := xf_eq h67
              exfalso; first | exact absurd g67 (by decide) | (simp (disch := omega) only [Int32.lt_iff_toInt_lt, Int32.le_iff_toInt_le, nI_toInt, Int32.reduceToInt] at g67 <;> omega)
      · have g21 := xf_ge h21
        exfalso; first | exact absurd g21 (by decide) | (simp (disch := omega) only [Int32.lt_iff_toInt_lt, Int32.le_iff_toInt_le, nI_toInt, Int32.reduceToInt] at g21 <;> omega)
    · have g14 := xf_ne h14
      exfalso; first | exact absurd g14 (by decide) | (simp (disch := omega) only [Int32.lt_iff_toInt_lt, Int32.le_iff_toInt_le, nI_toInt, Int32.reduceToInt] at g14 <;> omega)

set_option maxRecDepth 10000 in
theorem c_X12_glass_3 (hR : xRr g h tx G T Lw) (hk : s < G) (hD : xDr g h tx T G Lw F4 m) (hm : m ≤ 40) (hs : g 73 14 = nI m) : xT (k + 6) 187 [.ref 73, .int (nI s), .int (nI 3)] (xH b g l) (fun r M' => M' = xH b (up g 73 20 (nI (xcnt (fun d => decide (F4 (4 * d + 1) = nI s) && !decide (F4 (4 * d + 3) = -9)) m))) l ∧ r = some (.int 1)) := by
  have h6 := hR.1.2
  obtain ⟨q1, q2, q3⟩ := hR.2.2.1 s hk
  refine xT.of rfl (Nat.le_of_ble_eq_true rfl) ?_
  change xS _ _ 0 [(0, .ref 73), (1, .int (nI s)), (2, .int (nI 3))] [] _ _
  refine xS.s1 rfl rfl ?_
  try dsimp only [Nat.reduceAdd]
  refine xS.s1 rfl rfl ?_
  try dsimp only [Nat.reduceAdd]
  -- 2 yX12_isGlass
  refine xS.cv rfl rfl rfl rfl rfl rfl ⟨by decide, rfl, rfl⟩ (c_X12_isGlass_in hR.1.1 hR.1.2 hk) (fun v M1 hv => ?_)
  rw [hv.1, hv.2]
  clear hv M1 v
  try dsimp only [Nat.reduceAdd, Option.toList, List.cons_append, List.nil_append, List.drop]
  refine xS.br0 (c := .eq) (off := 12) (l := 3) rfl rfl (fun h5 => ?_) (fun h5 => ?_)
  · have g5 := xt_eq h5
    exfalso; first | exact absurd g5 (by decide) | (simp (disch := omega) only [Int32.lt_iff_toInt_lt, Int32.le_iff_toInt_le, nI_toInt, Int32.reduceToInt] at g5 <;> omega)
  · have g5 := xf_eq h5
    refine xS.s1 rfl rfl ?_
    try dsimp only [Nat.reduceAdd]
    refine xS.s1 rfl rfl ?_
    try dsimp only [Nat.reduceAdd, xi_0]
    refine xS.s1 rfl rfl ?_
    try dsimp only [Nat.reduceAdd, xi_3]
    -- 11 yX12_in
    refine xS.callS rfl rfl rfl ⟨Nat.le_of_ble_eq_true rfl, rfl⟩ (c_in_n1 (t := 3) (s := 0) (m := 3) (by decide) (by decide) (by decide)) (fun v M1 hv => ?_)
    rw [hv.1, hv.2]
    clear hv M1 v
    try dsimp only [Nat.reduceAdd, Option.toList, List.cons_append, List.nil_append, List.drop]
    refine xS.br0 (c := .ne) (off := 5) (l := 3) rfl rfl (fun h14 => ?_) (fun h14 => ?_)
    · have g14 := xt_ne h14
      refine xS.s1 rfl rfl ?_
      try dsimp only [Nat.reduceAdd]
      refine xS.s1 rfl rfl ?_
      try dsimp only [Nat.reduceAdd, xi_2]
      refine xS.br (c := .ge) (off := 18) (l := 3) rfl rfl (fun h21 => ?_) (fun h21 => ?_)
      · have g21 := xt_ge h21
        refine xS.s1 rfl rfl ?_
        try dsimp only [Nat.reduceAdd, xi_0]
        refine xS.s1 rfl rfl ?_
        try dsimp only [Nat.reduceAdd]
        refine xS.s1 rfl rfl ?_
        try dsimp only [Nat.reduceAdd, xi_0]
        refine xS.s1 rfl rfl ?_
        try dsimp only [Nat.reduceAdd]
        refine xS.pick [0, 1, 2, 3, 4] rfl ?_
        refine xS.loop (σ := Unit) (m) (fun j S => [(4, .int (nI j)), (3, .int (nI (xcnt (fun d => decide (F4 (4 * d + 1) = nI s) && !decide (F4 (4 * d + 3) = -9)) j))), (0, .ref 73), (1, .int (nI s)), (2, .int (nI 3))]) (fun _ _ => xH b g l) (fun _ _ => True) (()) (rfl) (rfl) (trivial) ?_
        intro j S hj hI ih
        try dsimp only
        refine xS.s1 rfl rfl ?_
        try dsimp only [Nat.reduceAdd]
        refine xS.s1 rfl rfl ?_
        try dsimp only [Nat.reduceAdd]
        refine xS.gI rfl rfl rfl ⟨by decide, rfl⟩ rfl ?_
        try dsimp only [Nat.reduceAdd]
        refine xS.br (c := .ge) (off := 44) (l := 3) rfl rfl (fun h50 => ?_) (fun h50 => ?_)
        · have g50 := xt_ge h50
          rw [hs] at g50
          have e := xnle g50 (by omega) (by omega)
          have e2 : m = j := by omega
          subst e2
          refine xS.s1 rfl rfl ?_
          try dsimp only [Nat.reduceAdd]
          refine xS.s1 rfl rfl ?_
          try dsimp only [Nat.reduceAdd]
          -- 96 yX12_tells
          refine xS.cv rfl rfl rfl rfl rfl rfl ⟨by decide, rfl, rfl⟩ c_X12_tells (fun v M1 hv => ?_)
          rw [hv.1, hv.2]
          clear hv M1 v
          try dsimp only [Nat.reduceAdd, Option.toList, List.cons_append, List.nil_append, List.drop]
          refine xS.ret rfl rfl rfl (fun _ _ => rfl) ?_
          exact ⟨rfl, rfl⟩
        · have g50 := xf_ge h50
          rw [hs] at g50
          have hlt := xnlt g50 (by omega) (by omega)
          obtain ⟨s9, k9, r1, r2, r3, r4, r5, r6, r7, r8⟩ := hD j hlt
          refine xS.s1 rfl rfl ?_
          try dsimp only [Nat.reduceAdd]
          refine xS.s1 rfl rfl ?_
          try dsimp only [Nat.reduceAdd]
          refine xS.gR rfl rfl rfl ⟨by decide, rfl⟩ rfl ?_
          try dsimp only [Nat.reduceAdd]
          refine xS.s1 rfl rfl ?_
          try dsimp only [Nat.reduceAdd]
          refine xS.ia rfl xar_85 (by omega) ?_
          try dsimp only [Nat.reduceAdd]
          rw [r8, ← r4]
          refine xS.s1 rfl rfl ?_
          try dsimp only [Nat.reduceAdd]
          refine xS.br (c := .ne) (off := 23) (l := 3) rfl rfl (fun h62 => ?_) (fun h62 => ?_)
          · have g62 := xt_ne h62
            refine xS.s1 rfl rfl ?_
            try dsimp only [Nat.reduceAdd, xi_0]
            refine xS.s1 rfl rfl ?_
            try dsimp only [Nat.reduceAdd]
            refine xS.s1 rfl rfl ?_
            try dsimp only [Nat.reduceAdd]
            refine xS.s1 rfl rfl ?_
            try dsimp only [Nat.reduceAdd, xi_1]
            rw [nI_1]
            refine xS.s1 rfl rfl ?_
            try dsimp only [Nat.reduceAdd]
            refine xS.pick [0, 1, 2, 3, 4] rfl ?_
            rw [show nI (xcnt (fun d => decide (F4 (4 * d + 1) = nI s) && !decide (F4 (4 * d + 3) = -9)) j) + 0 = nI (xcnt (fun d => decide (F4 (4 * d + 1) = nI s) && !decide (F4 (4 * d + 3) = -9)) j) from nI_add _ 0]
            have ih2 := ih () (by omega) trivial
            first | (rw [show xcnt (fun d => decide (F4 (4 * d + 1) = nI s) && !decide (F4 (4 * d + 3) = -9)) (j + 1) = xcnt (fun d => decide (F4 (4 * d + 1) = nI s) && !decide (F4 (4 * d + 3) = -9)) j from by simp [xcnt_s, g62]] at ih2; exact ih2) | (rw [show xcnt (fun d => decide (F4 (4 * d + 1) = nI s) && !decide (F4 (4 * d + 3) = -9)) (j + 1) = xcnt (fun d => decide (F4 (4 * d + 1) = nI s) && !decide (F4 (4 * d + 3) = -9)) j + 1 from by simp [xcnt_s, g62]] at ih2; exact ih2)
          · have g62 := xf_ne h62
            refine xS.s1 rfl rfl ?_
            try dsimp only [Nat.reduceAdd]
            refine xS.s1 rfl rfl ?_
            try dsimp only [Nat.reduceAdd, xi_2]
            refine xS.br (c := .eq) (off := 14) (l := 3) rfl rfl (fun h67 => ?_) (fun h67 => ?_)
            · have g67 := xt_eq h67
              exfalso; first | exact absurd g67 (by decide) | (simp (disch := omega) only [Int32.lt_iff_toInt_lt, Int32.le_iff_toInt_le, nI_toInt, Int32.reduceToInt] at g67 <;> omega)
            · have g67 := xf_eq h67
              refine xS.s1 rfl rfl ?_
              try dsimp only [Nat.reduceAdd]
              refine xS.s1 rfl rfl ?_
              try dsimp only [Nat.reduceAdd]
              -- 73 yX12_brokenBy
              refine xS.cv rfl rfl rfl rfl rfl rfl ⟨by decide, rfl, rfl⟩ (c_X12_brokenBy hR hD hm hlt) (fun v M1 hv => ?_)
              rw [hv.1, hv.2]
              clear hv M1 v
              try dsimp only [Nat.reduceAdd, Option.toList, List.cons_append, List.nil_append, List.drop]
              refine xS.s1 rfl rfl ?_
              try dsimp only [Nat.reduceAdd, xj_m9]
              refine xS.br (c := .eq) (off := 7) (l := 3) rfl rfl (fun h78 => ?_) (fun h78 => ?_)
              · have g78 := xt_eq h78
                refine xS.s1 rfl rfl ?_
                try dsimp only [Nat.reduceAdd, xi_0]
                refine xS.s1 rfl rfl ?_
                try dsimp only [Nat.reduceAdd]
                refine xS.s1 rfl rfl ?_
                try dsimp only [Nat.reduceAdd]
                refine xS.s1 rfl rfl ?_
                try dsimp only [Nat.reduceAdd, xi_1]
                rw [nI_1]
                refine xS.s1 rfl rfl ?_
                try dsimp only [Nat.reduceAdd]
                refine xS.pick [0, 1, 2, 3, 4] rfl ?_
                rw [show nI (xcnt (fun d => decide (F4 (4 * d + 1) = nI s) && !decide (F4 (4 * d + 3) = -9)) j) + 0 = nI (xcnt (fun d => decide (F4 (4 * d + 1) = nI s) && !decide (F4 (4 * d + 3) = -9)) j) from nI_add _ 0]
                have ih2 := ih () (by omega) trivial
                first | (rw [show xcnt (fun d => decide (F4 (4 * d + 1) = nI s) && !decide (F4 (4 * d + 3) = -9)) (j + 1) = xcnt (fun d => decide (F4 (4 * d + 1) = nI s) && !decide (F4 (4 * d + 3) = -9)) j from by simp [xcnt_s, g62, g78]] at ih2; exact ih2) | (rw [show xcnt (fun d => decide (F4 (4 * d + 1) = nI s) && !decide (F4 (4 * d + 3) = -9)) (j + 1) = xcnt (fun d => decide (F4 (4 * d + 1) = nI s) && !decide (F4 (4 * d + 3) = -9)) j + 1 from by simp [xcnt_s, g62, g78]] at ih2; exact ih2)
              · have g78 := xf_eq h78
                refine xS.s1 rfl rfl ?_
                try dsimp only [Nat.reduceAdd, xi_1]
                refine xS.s1 rfl rfl ?_
                try dsimp only [Nat.reduceAdd]
                refine xS.s1 rfl rfl ?_
                try dsimp only [Nat.reduceAdd]
                refine xS.s1 rfl rfl ?_
                try dsimp only [Nat.reduceAdd]
                refine xS.s1 rfl rfl ?_
                try dsimp only [Nat.reduceAdd, xi_1]
                rw [nI_1]
                refine xS.s1 rfl rfl ?_
                try dsimp only [Nat.reduceAdd]
                refine xS.pick [0, 1, 2, 3, 4] rfl ?_
                rw [nI_1]
                have ih2 := ih () (by omega) trivial
                first | (rw [show xcnt (fun d => decide (F4 (4 * d + 1) = nI s) && !decide (F4 (4 * d + 3) = -9)) (j + 1) = xcnt (fun d => decide (F4 (4 * d + 1) = nI s) && !decide (F4 (4 * d + 3) = -9)) j from by simp [xcnt_s, g62, g78]] at ih2; exact ih2) | (rw [show xcnt (fun d => decide (F4 (4 * d + 1) = nI s) && !decide (F4 (4 * d + 3) = -9)) (j + 1) = xcnt (fun d => decide (F4 (4 * d + 1) = nI s) && !decide (F4 (4 * d + 3) = -9)) j + 1 from by simp [xcnt_s, g62, g78]] at ih2; exact ih2)
      · have g21 := xf_ge h21
        exfalso; first | exact absurd g21 (by decide) | (simp (disch := omega) only [Int32.lt_iff_toInt_lt, Int32.le_iff_toInt_le, nI_toInt, Int32.reduceToInt] at g21 <;> omega)
    · have g14 := xf_ne h14
      exfalso; first | exact absurd g14 (by decide) | (simp (disch := omega) only [Int32.lt_iff_toInt_lt, Int32.le_iff_toInt_le, nI_toInt, Int32.reduceToInt] at g14 <;> omega)

end
end
section
/-! LimpMirrorModel: deeds, copies, rows taken out -/
theorem xdec (a : Nat) : nI a + (-1) = nI a - 1 := by rw [Int32.sub_eq_add_neg]
theorem xdown {m j : Nat} (h : j < m) : nI (m - j) - 1 = nI (m - j - 1) := by
  obtain ⟨q, hq⟩ : ∃ q, m - j = q + 1 := ⟨m - j - 1, by omega⟩
  rw [hq]
  exact nI_pred q
theorem xdown0 {m j : Nat} (h : j ≤ m) (hm : m < 2 ^ 31) : nI (m - j) - 1 < 0 ↔ m = j := by
  by_cases c : m = j
  · refine ⟨fun _ => c, fun _ => ?_⟩
    rw [c, Nat.sub_self]
    decide
  · refine ⟨fun z => ?_, fun z => absurd z c⟩
    rw [xdown (by omega)] at z
    exact absurd z (nI_pos (by omega))
def xdn1 (p : Nat → Bool) (m j : Nat) : Option Nat := Nat.rec (motive := fun _ => Option Nat) none (fun j o => bif p (m - j - 1) then some (m - j - 1) else o) j
theorem xdn1_s (p : Nat → Bool) (m j : Nat) : xdn1 p m (j + 1) = bif p (m - j - 1) then some (m - j - 1) else xdn1 p m j := rfl
def xcd (p : Nat → Bool) (m j : Nat) : Nat := Nat.rec (motive := fun _ => Nat) 0 (fun j c => bif p (m - j - 1) then c + 1 else c) j
theorem xcd_s (p : Nat → Bool) (m j : Nat) : xcd p m (j + 1) = bif p (m - j - 1) then xcd p m j + 1 else xcd p m j := rfl
theorem xdn1_spec (p : Nat → Bool) (m : Nat) : ∀ j, j ≤ m → ((xdn1 p m j = none → ∀ i, m - j ≤ i → i < m → p i = false) ∧ (∀ d, xdn1 p m j = some d → m - j ≤ d ∧ d < m ∧ p d = true ∧ ∀ i, m - j ≤ i → i < d → p i = false)) := by
  intro j
  induction j with
  | zero => exact fun _ => ⟨fun _ i h1 h2 => absurd h2 (by omega), fun d h => by cases h⟩
  | succ j ih =>
    intro hj
    obtain ⟨i1, i2⟩ := ih (by omega)
    rw [xdn1_s]
    cases hp : p (m - j - 1) with
    | true =>
      refine ⟨fun h => (by cases h), fun d h => ?_⟩
      cases h
      exact ⟨by omega, by omega, hp, fun i h1 h2 => absurd h2 (by omega)⟩
    | false =>
      refine ⟨fun h i h1 h2 => ?_, fun d h => ?_⟩
      · by_cases e : i = m - j - 1
        · rw [e]; exact hp
        · exact i1 h i (by omega) h2
      · obtain ⟨q1, q2, q3, q4⟩ := i2 d h
        refine ⟨by omega, q2, q3, fun i h1 h2 => ?_⟩
        by_cases e : i = m - j - 1
        · rw [e]; exact hp
        · exact q4 i (by omega) h2
theorem xdn1_m (p : Nat → Bool) (m : Nat) : xdn1 p m m = xfst p m := by
  obtain ⟨i1, i2⟩ := xdn1_spec p m m (Nat.le_refl m)
  cases e : xdn1 p m m with
  | none => exact (xfst_none.mpr (fun i hi => i1 e i (by omega) hi)).symm
  | some d =>
    obtain ⟨q1, q2, q3, q4⟩ := i2 d e
    exact (xfst_at (xfst_none.mpr (fun i hi => q4 i (by omega) hi)) q3 q2).symm
theorem xcd_e (p : Nat → Bool) (m : Nat) : ∀ j, j ≤ m → xcnt p m = xcnt p (m - j) + xcd p m j := by
  intro j
  induction j with
  | zero => exact fun _ => rfl
  | succ j ih =>
    intro hj
    rw [ih (by omega), xcd_s]
    obtain ⟨q, hq⟩ : ∃ q, m - j = q + 1 := ⟨m - j - 1, by omega⟩
    rw [show m - (j + 1) = q by omega, show m - j - 1 = q by omega, hq, xcnt_s]
    cases p q <;> simp only [cond_true, cond_false] <;> omega
theorem xcd_m (p : Nat → Bool) (m : Nat) : xcd p m m = xcnt p m := by
  rw [xcd_e p m m (Nat.le_refl m), Nat.sub_self, xcnt_0, Nat.zero_add]
theorem xcd_le (p : Nat → Bool) (m : Nat) : ∀ j, xcd p m j ≤ j
  | 0 => Nat.le_refl 0
  | j + 1 => by
    have := xcd_le p m j
    rw [xcd_s]
    cases p (m - j - 1) <;> simp only [cond_true, cond_false] <;> omega
theorem gseg_un {g : Nat → Nat → Int32} {a o n a' i : Nat} {S : Nat → Int32} {v : Int32} (h : a' ≠ a) : up (gseg g a o n S) a' i v = gseg (up g a' i v) a o n S := by
  funext x y
  unfold up gseg
  by_cases e1 : x = a' ∧ y = i
  · rw [if_pos e1, if_neg (fun z => h (by rw [← e1.1, z.1]))]
    exact (if_pos e1).symm
  · rw [if_neg e1]
    by_cases e2 : x = a ∧ o ≤ y ∧ y < o + n
    · rw [if_pos e2, if_pos e2]
    · rw [if_neg e2, if_neg e2]
      exact (if_neg e1).symm
theorem gset_un {g : Nat → Nat → Int32} {a n a' i : Nat} {S : Nat → Int32} {v : Int32} (h : a' ≠ a) : up (gset g a n S) a' i v = gset (up g a' i v) a n S := by
  funext x y
  unfold up gset
  by_cases e1 : x = a' ∧ y = i
  · rw [if_pos e1, if_neg (fun z => h (by rw [← e1.1, z.1]))]
    exact (if_pos e1).symm
  · rw [if_neg e1]
    by_cases e2 : x = a ∧ y < n
    · rw [if_pos e2, if_pos e2]
    · rw [if_neg e2, if_neg e2]
      exact (if_neg e1).symm

section
variable {k a c n n2 m t p s d i1 j1 : Nat} {b : Nat × Nat} {g : Nat → Nat → Int32} {l : Nat → Nat → Int64} {i j x y z v w : Int32} {u w1 w2 : Int64}
variable {L G T e1 q1 κ δ : Nat} {Lw f : Nat → Nat} {h tx F4 Rw Rw2 : Nat → Int32}
set_option maxRecDepth 10000 in
theorem c_X12_habit_bad (hx : ¬ (0 ≤ x ∧ x < 6)) : xT (k + 3) 189 [.ref 73, .int x] (xH b g l) (fun r M' => M' = xH b g l ∧ r = some (.int (-1))) := by
  refine xT.of rfl (Nat.le_of_ble_eq_true rfl) ?_
  change xS _ _ 0 [(0, .ref 73), (1, .int x)] [] _ _
  refine xS.s1 rfl rfl ?_
  try dsimp only [Nat.reduceAdd]
  -- 1 yX12_isStep
  refine xS.callS rfl rfl rfl ⟨Nat.le_of_ble_eq_true rfl, rfl⟩ c_X12_isStep (fun v M1 hv => ?_)
  rw [hv.1, hv.2]
  clear hv M1 v
  try dsimp only [Nat.reduceAdd, Option.toList, List.cons_append, List.nil_append, List.drop]
  refine xS.br0 (c := .eq) (off := 12) (l := 3) rfl rfl (fun h4 => ?_) (fun h4 => ?_)
  · have g4 := xt_eq h4
    refine xS.s1 rfl rfl ?_
    try dsimp only [Nat.reduceAdd, xi_m1]
    refine xS.ret rfl rfl rfl (fun _ _ => rfl) ?_
    exact ⟨rfl, rfl⟩
  · have g4 := xf_eq h4
    exact absurd (xif1 g4) hx

set_option maxRecDepth 10000 in
theorem c_X12_habit_ok (hR : xRr g h tx G T Lw) (ht : t < 6) : xT (k + 3) 189 [.ref 73, .int (nI t)] (xH b g l) (fun r M' => M' = xH b g l ∧ r = some (.int (h t))) := by
  refine xT.of rfl (Nat.le_of_ble_eq_true rfl) ?_
  change xS _ _ 0 [(0, .ref 73), (1, .int (nI t))] [] _ _
  refine xS.s1 rfl rfl ?_
  try dsimp only [Nat.reduceAdd]
  -- 1 yX12_isStep
  refine xS.callS rfl rfl rfl ⟨Nat.le_of_ble_eq_true rfl, rfl⟩ (c_X12_isStep_in ht) (fun v M1 hv => ?_)
  rw [hv.1, hv.2]
  clear hv M1 v
  try dsimp only [Nat.reduceAdd, Option.toList, List.cons_append, List.nil_append, List.drop]
  refine xS.br0 (c := .eq) (off := 12) (l := 3) rfl rfl (fun h4 => ?_) (fun h4 => ?_)
  · have g4 := xt_eq h4
    exfalso; first | exact absurd g4 (by decide) | (simp (disch := omega) only [Int32.lt_iff_toInt_lt, Int32.le_iff_toInt_le, nI_toInt, Int32.reduceToInt] at g4 <;> omega)
  · have g4 := xf_eq h4
    refine xS.s1 rfl rfl ?_
    try dsimp only [Nat.reduceAdd]
    refine xS.gR rfl rfl rfl ⟨by decide, rfl⟩ rfl ?_
    try dsimp only [Nat.reduceAdd]
    refine xS.s1 rfl rfl ?_
    try dsimp only [Nat.reduceAdd]
    refine xS.ia rfl xar_81 (by omega) ?_
    try dsimp only [Nat.reduceAdd]
    refine xS.s1 rfl rfl ?_
    try dsimp only [Nat.reduceAdd]
    refine xS.ret rfl rfl rfl (fun _ _ => rfl) ?_
    rw [(hR.2.2.2.1 t ht).1]
    exact ⟨rfl, rfl⟩

set_option maxRecDepth 10000 in
theorem c_X12_term_bad (hR : xRr g h tx G T Lw) (hx : ¬ ((0 ≤ x ∧ x < nI T) ∧ 0 ≤ y ∧ y ≤ 1)) : xT (k + 2) 190 [.ref 73, .int x, .int y] (xH b g l) (fun r M' => M' = xH b g l ∧ r = some (.int (-1))) := by
  refine xT.of rfl (Nat.le_of_ble_eq_true rfl) ?_
  change xS _ _ 0 [(0, .ref 73), (1, .int x), (2, .int y)] [] _ _
  refine xS.s1 rfl rfl ?_
  try dsimp only [Nat.reduceAdd]
  refine xS.s1 rfl rfl ?_
  try dsimp only [Nat.reduceAdd, xi_0]
  refine xS.s1 rfl rfl ?_
  try dsimp only [Nat.reduceAdd]
  refine xS.gI rfl rfl rfl ⟨by decide, rfl⟩ rfl ?_
  try dsimp only [Nat.reduceAdd]
  rw [hR.2.1.1]
  refine xS.s1 rfl rfl ?_
  try dsimp only [Nat.reduceAdd, xi_1]
  refine xS.s1 rfl rfl ?_
  try dsimp only [Nat.reduceAdd]
  -- 8 yX12_in
  refine xS.callS rfl rfl rfl ⟨Nat.le_of_ble_eq_true rfl, rfl⟩ (c_in_m (by have := hR.2.1.2; omega)) (fun v M1 hv => ?_)
  rw [hv.1, hv.2]
  clear hv M1 v
  try dsimp only [Nat.reduceAdd, Option.toList, List.cons_append, List.nil_append, List.drop]
  refine xS.br0 (c := .eq) (off := 25) (l := 3) rfl rfl (fun h11 => ?_) (fun h11 => ?_)
  · have g11 := xt_eq h11
    refine xS.s1 rfl rfl ?_
    try dsimp only [Nat.reduceAdd, xi_m1]
    refine xS.ret rfl rfl rfl (fun _ _ => rfl) ?_
    exact ⟨rfl, rfl⟩
  · have g11 := xf_eq h11
    refine xS.s1 rfl rfl ?_
    try dsimp only [Nat.reduceAdd]
    refine xS.s1 rfl rfl ?_
    try dsimp only [Nat.reduceAdd, xi_0]
    refine xS.s1 rfl rfl ?_
    try dsimp only [Nat.reduceAdd, xi_1]
    -- 17 yX12_in
    refine xS.callS rfl rfl rfl ⟨Nat.le_of_ble_eq_true rfl, rfl⟩ c_in_x (fun v M1 hv => ?_)
    rw [hv.1, hv.2]
    clear hv M1 v
    try dsimp only [Nat.reduceAdd, Option.toList, List.cons_append, List.nil_append, List.drop]
    refine xS.br0 (c := .eq) (off := 16) (l := 3) rfl rfl (fun h20 => ?_) (fun h20 => ?_)
    · have g20 := xt_eq h20
      refine xS.s1 rfl rfl ?_
      try dsimp only [Nat.reduceAdd, xi_m1]
      refine xS.ret rfl rfl rfl (fun _ _ => rfl) ?_
      exact ⟨rfl, rfl⟩
    · have g20 := xf_eq h20
      exact absurd ⟨xif1 g11, xif1 g20⟩ hx

set_option maxRecDepth 10000 in
theorem c_X12_term_ok (hR : xRr g h tx G T Lw) (hd : d < T) (ht : t < 2) : xT (k + 2) 190 [.ref 73, .int (nI d), .int (nI t)] (xH b g l) (fun r M' => M' = xH b g l ∧ r = some (.int (tx (2 * d + t)))) := by
  have h8 := hR.2.1.2
  refine xT.of rfl (Nat.le_of_ble_eq_true rfl) ?_
  change xS _ _ 0 [(0, .ref 73), (1, .int (nI d)), (2, .int (nI t))] [] _ _
  refine xS.s1 rfl rfl ?_
  try dsimp only [Nat.reduceAdd]
  refine xS.s1 rfl rfl ?_
  try dsimp only [Nat.reduceAdd, xi_0]
  refine xS.s1 rfl rfl ?_
  try dsimp only [Nat.reduceAdd]
  refine xS.gI rfl rfl rfl ⟨by decide, rfl⟩ rfl ?_
  try dsimp only [Nat.reduceAdd]
  rw [hR.2.1.1]
  refine xS.s1 rfl rfl ?_
  try dsimp only [Nat.reduceAdd, xi_1]
  refine xS.s1 rfl rfl ?_
  try dsimp only [Nat.reduceAdd]
  -- 8 yX12_in
  refine xS.callS rfl rfl rfl ⟨Nat.le_of_ble_eq_true rfl, rfl⟩ (c_in_m1 (by omega) hd) (fun v M1 hv => ?_)
  rw [hv.1, hv.2]
  clear hv M1 v
  try dsimp only [Nat.reduceAdd, Option.toList, List.cons_append, List.nil_append, List.drop]
  refine xS.br0 (c := .eq) (off := 25) (l := 3) rfl rfl (fun h11 => ?_) (fun h11 => ?_)
  · have g11 := xt_eq h11
    exfalso; first | exact absurd g11 (by decide) | (simp (disch := omega) only [Int32.lt_iff_toInt_lt, Int32.le_iff_toInt_le, nI_toInt, Int32.reduceToInt] at g11 <;> omega)
  · have g11 := xf_eq h11
    refine xS.s1 rfl rfl ?_
    try dsimp only [Nat.reduceAdd]
    refine xS.s1 rfl rfl ?_
    try dsimp only [Nat.reduceAdd, xi_0]
    refine xS.s1 rfl rfl ?_
    try dsimp only [Nat.reduceAdd, xi_1]
    -- 17 yX12_in
    refine xS.callS rfl rfl rfl ⟨Nat.le_of_ble_eq_true rfl, rfl⟩ (c_in_n1 (s := 0) (m := 1) (by omega) (by omega) (by decide)) (fun v M1 hv => ?_)
    rw [hv.1, hv.2]
    clear hv M1 v
    try dsimp only [Nat.reduceAdd, Option.toList, List.cons_append, List.nil_append, List.drop]
    refine xS.br0 (c := .eq) (off := 16) (l := 3) rfl rfl (fun h20 => ?_) (fun h20 => ?_)
    · have g20 := xt_eq h20
      exfalso; first | exact absurd g20 (by decide) | (simp (disch := omega) only [Int32.lt_iff_toInt_lt, Int32.le_iff_toInt_le, nI_toInt, Int32.reduceToInt] at g20 <;> omega)
    · have g20 := xf_eq h20
      refine xS.s1 rfl rfl ?_
      try dsimp only [Nat.reduceAdd]
      refine xS.gR rfl rfl rfl ⟨by decide, rfl⟩ rfl ?_
      try dsimp only [Nat.reduceAdd]
      refine xS.s1 rfl rfl ?_
      try dsimp only [Nat.reduceAdd, xi_2]
      refine xS.s1 rfl rfl ?_
      try dsimp only [Nat.reduceAdd]
      refine xS.s1 rfl rfl ?_
      try dsimp only [Nat.reduceAdd]
      refine xS.s1 rfl rfl ?_
      try dsimp only [Nat.reduceAdd]
      refine xS.s1 rfl rfl ?_
      try dsimp only [Nat.reduceAdd]
      rw [show (((2 * nI d) + nI t) : Int32) = nI ((2 * d) + t) from by simp only [← nI_add, ← pk_mul]; rfl]
      refine xS.ia rfl xar_83 (by omega) ?_
      try dsimp only [Nat.reduceAdd]
      refine xS.s1 rfl rfl ?_
      try dsimp only [Nat.reduceAdd]
      refine xS.ret rfl rfl rfl (fun _ _ => rfl) ?_
      rw [hR.2.2.2.2 _ (by omega)]
      exact ⟨rfl, rfl⟩

set_option maxRecDepth 10000 in
theorem c_X12_shownOf_g (hR : xRr g h tx G T Lw) (hd : d < 40) (hk : t < G) (h85 : g 85 d = nI t) (hf : ∀ u, u ≤ d → g 84 u = nI (f u) ∧ f u < 6) : xT (k + 4) 184 [.ref 73, .int (nI d)] (xH b g l) (fun r M' => M' = xH b g l ∧ r = some (.int (xshw h (Lw t / 4) (Lw t % 4) f d))) := by
  refine xT.of rfl (Nat.le_of_ble_eq_true rfl) ?_
  change xS _ _ 0 [(0, .ref 73), (1, .int (nI d))] [] _ _
  refine xS.s1 rfl rfl ?_
  try dsimp only [Nat.reduceAdd]
  refine xS.s1 rfl rfl ?_
  try dsimp only [Nat.reduceAdd]
  refine xS.gR rfl rfl rfl ⟨by decide, rfl⟩ rfl ?_
  try dsimp only [Nat.reduceAdd]
  refine xS.s1 rfl rfl ?_
  try dsimp only [Nat.reduceAdd]
  refine xS.ia rfl xar_85 (by omega) ?_
  try dsimp only [Nat.reduceAdd]
  rw [h85]
  refine xS.s1 rfl rfl ?_
  try dsimp only [Nat.reduceAdd]
  refine xS.gR rfl rfl rfl ⟨by decide, rfl⟩ rfl ?_
  try dsimp only [Nat.reduceAdd]
  refine xS.s1 rfl rfl ?_
  try dsimp only [Nat.reduceAdd]
  -- 12 yX12_showsOf
  refine xS.cv rfl rfl rfl rfl rfl rfl ⟨by decide, rfl, rfl⟩ (c_X12_showsOf xar_84 hR hd hk hf) (fun v M1 hv => ?_)
  rw [hv.1, hv.2]
  clear hv M1 v
  try dsimp only [Nat.reduceAdd, Option.toList, List.cons_append, List.nil_append, List.drop]
  refine xS.ret rfl rfl rfl (fun _ _ => rfl) ?_
  exact ⟨rfl, rfl⟩

theorem xDr_do {g : Nat → Nat → Int32} {h tx F4 : Nat → Int32} {T G m s t : Nat} {Lw : Nat → Nat} (hD : xDr g h tx T G Lw F4 m) (hs : s < 6) : ∀ u, u ≤ m → (up (up (up g 84 m (nI s)) 85 m (nI t)) 73 14 (nI (m + 1))) 84 u = nI ((fun i => if i = m then s else xN (F4 (4 * i))) u) ∧ (fun i => if i = m then s else xN (F4 (4 * i))) u < 6 := by
  intro u hu
  dsimp only
  by_cases e : u = m
  · rw [if_pos e, up_na (by decide), up_na (by decide), e, up_same]
    exact ⟨rfl, hs⟩
  · rw [if_neg e, up_na (by decide), up_na (by decide), up_ne (Or.inr e)]
    exact xDr_84 hD u (by omega)

set_option maxRecDepth 10000 in
theorem c_X12_doStep (hR : xRr g h tx G T Lw) (hs : g 73 14 = nI m) (hm : m < 40) (hD : xDr g h tx T G Lw F4 m) (hk : t < G) (hs6 : s < 6) : xT (k + 5) 191 [.ref 73, .int (nI t), .int (nI s)] (xH b g l) (fun r M' => M' = xH b (up (up (up g 84 m (nI s)) 85 m (nI t)) 73 14 (nI (m + 1))) l ∧ r = some (.int (xshw h (Lw t / 4) (Lw t % 4) (fun i => if i = m then s else xN (F4 (4 * i))) m))) := by
  refine xT.of rfl (Nat.le_of_ble_eq_true rfl) ?_
  change xS _ _ 0 [(0, .ref 73), (1, .int (nI t)), (2, .int (nI s))] [] _ _
  refine xS.s1 rfl rfl ?_
  try dsimp only [Nat.reduceAdd]
  refine xS.gR rfl rfl rfl ⟨by decide, rfl⟩ rfl ?_
  try dsimp only [Nat.reduceAdd]
  refine xS.s1 rfl rfl ?_
  try dsimp only [Nat.reduceAdd]
  refine xS.gI rfl rfl rfl ⟨by decide, rfl⟩ rfl ?_
  try dsimp only [Nat.reduceAdd]
  rw [hs]
  refine xS.s1 rfl rfl ?_
  try dsimp only [Nat.reduceAdd]
  refine xS.ias rfl xar_84 (by omega) ?_
  try dsimp only [Nat.reduceAdd]
  refine xS.s1 rfl rfl ?_
  try dsimp only [Nat.reduceAdd]
  refine xS.gR rfl rfl rfl ⟨by decide, rfl⟩ rfl ?_
  try dsimp only [Nat.reduceAdd]
  refine xS.s1 rfl rfl ?_
  try dsimp only [Nat.reduceAdd]
  refine xS.gI rfl rfl rfl ⟨by decide, rfl⟩ rfl ?_
  try dsimp only [Nat.reduceAdd]
  rw [up_na (by decide), hs]
  refine xS.s1 rfl rfl ?_
  try dsimp only [Nat.reduceAdd]
  refine xS.ias rfl xar_85 (by omega) ?_
  try dsimp only [Nat.reduceAdd]
  refine xS.s1 rfl rfl ?_
  try dsimp only [Nat.reduceAdd]
  refine xS.s1 rfl rfl ?_
  try dsimp only [Nat.reduceAdd]
  refine xS.gI rfl rfl rfl ⟨by decide, rfl⟩ rfl ?_
  try dsimp only [Nat.reduceAdd]
  rw [up_na (by decide), up_na (by decide), hs]
  refine xS.s1 rfl rfl ?_
  try dsimp only [Nat.reduceAdd, xi_1]
  refine xS.s1 rfl rfl ?_
  try dsimp only [Nat.reduceAdd]
  rw [nI_1]
  refine xS.pI rfl rfl rfl ⟨⟨by decide, rfl⟩, rfl, by decide, by decide⟩ rfl ?_
  try dsimp only [Nat.reduceAdd]
  refine xS.s1 rfl rfl ?_
  try dsimp only [Nat.reduceAdd]
  refine xS.s1 rfl rfl ?_
  try dsimp only [Nat.reduceAdd]
  refine xS.gI rfl rfl rfl ⟨by decide, rfl⟩ rfl ?_
  try dsimp only [Nat.reduceAdd]
  rw [up_same]
  refine xS.s1 rfl rfl ?_
  try dsimp only [Nat.reduceAdd, xi_1]
  refine xS.s1 rfl rfl ?_
  try dsimp only [Nat.reduceAdd]
  rw [nI_pred]
  -- 37 yX12_shownOf
  refine xS.cv rfl rfl rfl rfl rfl rfl ⟨by decide, rfl, rfl⟩ (c_X12_shownOf_g (xRr_fr (by rw [up_ne (Or.inr (by decide)), up_na (by decide), up_na (by decide)]) (by rw [up_ne (Or.inr (by decide)), up_na (by decide), up_na (by decide)]) (by rw [up_na (by decide), up_na (by decide), up_na (by decide)]) (by rw [up_na (by decide), up_na (by decide), up_na (by decide)]) (by rw [up_na (by decide), up_na (by decide), up_na (by decide)]) hR) hm hk (by rw [up_na (by decide), up_same]) (xDr_do hD hs6)) (fun v M1 hv => ?_)
  rw [hv.1, hv.2]
  clear hv M1 v
  try dsimp only [Nat.reduceAdd, Option.toList, List.cons_append, List.nil_append, List.drop]
  refine xS.ret rfl rfl rfl (fun _ _ => rfl) ?_
  exact ⟨rfl, rfl⟩

set_option maxRecDepth 10000 in
theorem c_X12_step_bad (hR : xRr g h tx G T Lw) (hx : ¬ ((0 ≤ x ∧ x < nI G) ∧ 0 ≤ y ∧ y < 6)) : xT (k + 6) 192 [.ref 73, .int x, .int y] (xH b g l) (fun r M' => M' = xH b g l ∧ r = some (.int (-1))) := by
  refine xT.of rfl (Nat.le_of_ble_eq_true rfl) ?_
  change xS _ _ 0 [(0, .ref 73), (1, .int x), (2, .int y)] [] _ _
  refine xS.s1 rfl rfl ?_
  try dsimp only [Nat.reduceAdd]
  refine xS.s1 rfl rfl ?_
  try dsimp only [Nat.reduceAdd]
  -- 2 yX12_isGlass
  refine xS.cv rfl rfl rfl rfl rfl rfl ⟨by decide, rfl, rfl⟩ (c_X12_isGlass hR.1.1 hR.1.2) (fun v M1 hv => ?_)
  rw [hv.1, hv.2]
  clear hv M1 v
  try dsimp only [Nat.reduceAdd, Option.toList, List.cons_append, List.nil_append, List.drop]
  refine xS.br0 (c := .eq) (off := 10) (l := 3) rfl rfl (fun h5 => ?_) (fun h5 => ?_)
  · have g5 := xt_eq h5
    refine xS.s1 rfl rfl ?_
    try dsimp only [Nat.reduceAdd, xi_m1]
    refine xS.ret rfl rfl rfl (fun _ _ => rfl) ?_
    exact ⟨rfl, rfl⟩
  · have g5 := xf_eq h5
    refine xS.s1 rfl rfl ?_
    try dsimp only [Nat.reduceAdd]
    -- 9 yX12_isStep
    refine xS.callS rfl rfl rfl ⟨Nat.le_of_ble_eq_true rfl, rfl⟩ c_X12_isStep (fun v M1 hv => ?_)
    rw [hv.1, hv.2]
    clear hv M1 v
    try dsimp only [Nat.reduceAdd, Option.toList, List.cons_append, List.nil_append, List.drop]
    refine xS.br0 (c := .ne) (off := 5) (l := 3) rfl rfl (fun h12 => ?_) (fun h12 => ?_)
    · have g12 := xt_ne h12
      exact absurd ⟨xif1 g5, xif1 g12⟩ hx
    · have g12 := xf_ne h12
      refine xS.s1 rfl rfl ?_
      try dsimp only [Nat.reduceAdd, xi_m1]
      refine xS.ret rfl rfl rfl (fun _ _ => rfl) ?_
      exact ⟨rfl, rfl⟩

set_option maxRecDepth 10000 in
theorem c_X12_step_full (hR : xRr g h tx G T Lw) (hs : g 73 14 = nI 40) (hk : t < G) (hs6 : s < 6) : xT (k + 6) 192 [.ref 73, .int (nI t), .int (nI s)] (xH b g l) (fun r M' => M' = xH b g l ∧ r = some (.int (-2))) := by
  refine xT.of rfl (Nat.le_of_ble_eq_true rfl) ?_
  change xS _ _ 0 [(0, .ref 73), (1, .int (nI t)), (2, .int (nI s))] [] _ _
  refine xS.s1 rfl rfl ?_
  try dsimp only [Nat.reduceAdd]
  refine xS.s1 rfl rfl ?_
  try dsimp only [Nat.reduceAdd]
  -- 2 yX12_isGlass
  refine xS.cv rfl rfl rfl rfl rfl rfl ⟨by decide, rfl, rfl⟩ (c_X12_isGlass_in hR.1.1 hR.1.2 hk) (fun v M1 hv => ?_)
  rw [hv.1, hv.2]
  clear hv M1 v
  try dsimp only [Nat.reduceAdd, Option.toList, List.cons_append, List.nil_append, List.drop]
  refine xS.br0 (c := .eq) (off := 10) (l := 3) rfl rfl (fun h5 => ?_) (fun h5 => ?_)
  · have g5 := xt_eq h5
    exfalso; first | exact absurd g5 (by decide) | (simp (disch := omega) only [Int32.lt_iff_toInt_lt, Int32.le_iff_toInt_le, nI_toInt, Int32.reduceToInt] at g5 <;> omega)
  · have g5 := xf_eq h5
    refine xS.s1 rfl rfl ?_
    try dsimp only [Nat.reduceAdd]
    -- 9 yX12_isStep
    refine xS.callS rfl rfl rfl ⟨Nat.le_of_ble_eq_true rfl, rfl⟩ (c_X12_isStep_in hs6) (fun v M1 hv => ?_)
    rw [hv.1, hv.2]
    clear hv M1 v
    try dsimp only [Nat.reduceAdd, Option.toList, List.cons_append, List.nil_append, List.drop]
    refine xS.br0 (c := .ne) (off := 5) (l := 3) rfl rfl (fun h12 => ?_) (fun h12 => ?_)
    · have g12 := xt_ne h12
      refine xS.s1 rfl rfl ?_
      try dsimp only [Nat.reduceAdd]
      refine xS.gI rfl rfl rfl ⟨by decide, rfl⟩ rfl ?_
      try dsimp only [Nat.reduceAdd]
      refine xS.s1 rfl rfl ?_
      try dsimp only [Nat.reduceAdd, xj_40]
      refine xS.br (c := .ne) (off := 8) (l := 3) rfl rfl (fun h23 => ?_) (fun h23 => ?_)
      · have g23 := xt_ne h23
        exfalso; rw [hs] at g23; exact g23 rfl
      · have g23 := xf_ne h23
        refine xS.s1 rfl rfl ?_
        try dsimp only [Nat.reduceAdd, xj_m2]
        refine xS.s1 rfl rfl ?_
        try dsimp only [Nat.reduceAdd]
        refine xS.ret rfl rfl rfl (fun _ _ => rfl) ?_
        exact ⟨rfl, rfl⟩
    · have g12 := xf_ne h12
      exfalso; first | exact absurd g12 (by decide) | (simp (disch := omega) only [Int32.lt_iff_toInt_lt, Int32.le_iff_toInt_le, nI_toInt, Int32.reduceToInt] at g12 <;> omega)

set_option maxRecDepth 10000 in
theorem c_X12_step_ok (hR : xRr g h tx G T Lw) (hs : g 73 14 = nI m) (hm : m < 40) (hD : xDr g h tx T G Lw F4 m) (hk : t < G) (hs6 : s < 6) : xT (k + 6) 192 [.ref 73, .int (nI t), .int (nI s)] (xH b g l) (fun r M' => M' = xH b (up (up (up g 84 m (nI s)) 85 m (nI t)) 73 14 (nI (m + 1))) l ∧ r = some (.int (xshw h (Lw t / 4) (Lw t % 4) (fun i => if i = m then s else xN (F4 (4 * i))) m))) := by
  refine xT.of rfl (Nat.le_of_ble_eq_true rfl) ?_
  change xS _ _ 0 [(0, .ref 73), (1, .int (nI t)), (2, .int (nI s))] [] _ _
  refine xS.s1 rfl rfl ?_
  try dsimp only [Nat.reduceAdd]
  refine xS.s1 rfl rfl ?_
  try dsimp only [Nat.reduceAdd]
  -- 2 yX12_isGlass
  refine xS.cv rfl rfl rfl rfl rfl rfl ⟨by decide, rfl, rfl⟩ (c_X12_isGlass_in hR.1.1 hR.1.2 hk) (fun v M1 hv => ?_)
  rw [hv.1, hv.2]
  clear hv M1 v
  try dsimp only [Nat.reduceAdd, Option.toList, List.cons_append, List.nil_append, List.drop]
  refine xS.br0 (c := .eq) (off := 10) (l := 3) rfl rfl (fun h5 => ?_) (fun h5 => ?_)
  · have g5 := xt_eq h5
    exfalso; first | exact absurd g5 (by decide) | (simp (disch := omega) only [Int32.lt_iff_toInt_lt, Int32.le_iff_toInt_le, nI_toInt, Int32.reduceToInt] at g5 <;> omega)
  · have g5 := xf_eq h5
    refine xS.s1 rfl rfl ?_
    try dsimp only [Nat.reduceAdd]
    -- 9 yX12_isStep
    refine xS.callS rfl rfl rfl ⟨Nat.le_of_ble_eq_true rfl, rfl⟩ (c_X12_isStep_in hs6) (fun v M1 hv => ?_)
    rw [hv.1, hv.2]
    clear hv M1 v
    try dsimp only [Nat.reduceAdd, Option.toList, List.cons_append, List.nil_append, List.drop]
    refine xS.br0 (c := .ne) (off := 5) (l := 3) rfl rfl (fun h12 => ?_) (fun h12 => ?_)
    · have g12 := xt_ne h12
      refine xS.s1 rfl rfl ?_
      try dsimp only [Nat.reduceAdd]
      refine xS.gI rfl rfl rfl ⟨by decide, rfl⟩ rfl ?_
      try dsimp only [Nat.reduceAdd]
      refine xS.s1 rfl rfl ?_
      try dsimp only [Nat.reduceAdd, xj_40]
      refine xS.br (c := .ne) (off := 8) (l := 3) rfl rfl (fun h23 => ?_) (fun h23 => ?_)
      · have g23 := xt_ne h23
        refine xS.s1 rfl rfl ?_
        try dsimp only [Nat.reduceAdd]
        refine xS.s1 rfl rfl ?_
        try dsimp only [Nat.reduceAdd]
        refine xS.s1 rfl rfl ?_
        try dsimp only [Nat.reduceAdd]
        -- 34 yX12_doStep
        refine xS.cv rfl rfl rfl rfl rfl rfl ⟨by decide, rfl, rfl⟩ (c_X12_doStep hR hs hm hD hk hs6) (fun v M1 hv => ?_)
        rw [hv.1, hv.2]
        clear hv M1 v
        try dsimp only [Nat.reduceAdd, Option.toList, List.cons_append, List.nil_append, List.drop]
        refine xS.ret rfl rfl rfl (fun _ _ => rfl) ?_
        exact ⟨rfl, rfl⟩
      · have g23 := xf_ne h23
        exfalso; rw [hs] at g23; have := (nI_eq (b := 40) (by omega) (by omega)).mp g23; omega
    · have g12 := xf_ne h12
      exfalso; first | exact absurd g12 (by decide) | (simp (disch := omega) only [Int32.lt_iff_toInt_lt, Int32.le_iff_toInt_le, nI_toInt, Int32.reduceToInt] at g12 <;> omega)

set_option maxRecDepth 10000 in
theorem c_X12_deed_bad (hs : g 73 14 = nI m) (hm : m ≤ 40) (hx : ¬ ((0 ≤ x ∧ x < nI m) ∧ 0 ≤ y ∧ y ≤ 3)) : xT (k + 6) 193 [.ref 73, .int x, .int y] (xH b g l) (fun r M' => M' = xH b g l ∧ r = some (.int (-1))) := by
  refine xT.of rfl (Nat.le_of_ble_eq_true rfl) ?_
  change xS _ _ 0 [(0, .ref 73), (1, .int x), (2, .int y)] [] _ _
  refine xS.s1 rfl rfl ?_
  try dsimp only [Nat.reduceAdd]
  refine xS.s1 rfl rfl ?_
  try dsimp only [Nat.reduceAdd, xi_0]
  refine xS.s1 rfl rfl ?_
  try dsimp only [Nat.reduceAdd]
  refine xS.gI rfl rfl rfl ⟨by decide, rfl⟩ rfl ?_
  try dsimp only [Nat.reduceAdd]
  rw [hs]
  refine xS.s1 rfl rfl ?_
  try dsimp only [Nat.reduceAdd, xi_1]
  refine xS.s1 rfl rfl ?_
  try dsimp only [Nat.reduceAdd]
  -- 8 yX12_in
  refine xS.callS rfl rfl rfl ⟨Nat.le_of_ble_eq_true rfl, rfl⟩ (c_in_m (by omega)) (fun v M1 hv => ?_)
  rw [hv.1, hv.2]
  clear hv M1 v
  try dsimp only [Nat.reduceAdd, Option.toList, List.cons_append, List.nil_append, List.drop]
  refine xS.br0 (c := .eq) (off := 12) (l := 3) rfl rfl (fun h11 => ?_) (fun h11 => ?_)
  · have g11 := xt_eq h11
    refine xS.s1 rfl rfl ?_
    try dsimp only [Nat.reduceAdd, xi_m1]
    refine xS.ret rfl rfl rfl (fun _ _ => rfl) ?_
    exact ⟨rfl, rfl⟩
  · have g11 := xf_eq h11
    refine xS.s1 rfl rfl ?_
    try dsimp only [Nat.reduceAdd]
    refine xS.s1 rfl rfl ?_
    try dsimp only [Nat.reduceAdd, xi_0]
    refine xS.s1 rfl rfl ?_
    try dsimp only [Nat.reduceAdd, xi_3]
    -- 17 yX12_in
    refine xS.callS rfl rfl rfl ⟨Nat.le_of_ble_eq_true rfl, rfl⟩ c_in_x (fun v M1 hv => ?_)
    rw [hv.1, hv.2]
    clear hv M1 v
    try dsimp only [Nat.reduceAdd, Option.toList, List.cons_append, List.nil_append, List.drop]
    refine xS.br0 (c := .ne) (off := 5) (l := 3) rfl rfl (fun h20 => ?_) (fun h20 => ?_)
    · have g20 := xt_ne h20
      exact absurd ⟨xif1 g11, xif1 g20⟩ hx
    · have g20 := xf_ne h20
      refine xS.s1 rfl rfl ?_
      try dsimp only [Nat.reduceAdd, xi_m1]
      refine xS.ret rfl rfl rfl (fun _ _ => rfl) ?_
      exact ⟨rfl, rfl⟩

set_option maxRecDepth 10000 in
theorem c_X12_deed_0 (hR : xRr g h tx G T Lw) (hD : xDr g h tx T G Lw F4 m) (hm : m ≤ 40) (hs : g 73 14 = nI m) (hd : d < m) : xT (k + 6) 193 [.ref 73, .int (nI d), .int (nI 0)] (xH b g l) (fun r M' => M' = xH b (up g 73 20 (F4 (4 * d + 0))) l ∧ r = some (.int 1)) := by
  obtain ⟨s9, k9, r1, r2, r3, r4, r5, r6, r7, r8⟩ := hD d hd
  refine xT.of rfl (Nat.le_of_ble_eq_true rfl) ?_
  change xS _ _ 0 [(0, .ref 73), (1, .int (nI d)), (2, .int (nI 0))] [] _ _
  refine xS.s1 rfl rfl ?_
  try dsimp only [Nat.reduceAdd]
  refine xS.s1 rfl rfl ?_
  try dsimp only [Nat.reduceAdd, xi_0]
  refine xS.s1 rfl rfl ?_
  try dsimp only [Nat.reduceAdd]
  refine xS.gI rfl rfl rfl ⟨by decide, rfl⟩ rfl ?_
  try dsimp only [Nat.reduceAdd]
  rw [hs]
  refine xS.s1 rfl rfl ?_
  try dsimp only [Nat.reduceAdd, xi_1]
  refine xS.s1 rfl rfl ?_
  try dsimp only [Nat.reduceAdd]
  -- 8 yX12_in
  refine xS.callS rfl rfl rfl ⟨Nat.le_of_ble_eq_true rfl, rfl⟩ (c_in_m1 (by omega) hd) (fun v M1 hv => ?_)
  rw [hv.1, hv.2]
  clear hv M1 v
  try dsimp only [Nat.reduceAdd, Option.toList, List.cons_append, List.nil_append, List.drop]
  refine xS.br0 (c := .eq) (off := 12) (l := 3) rfl rfl (fun h11 => ?_) (fun h11 => ?_)
  · have g11 := xt_eq h11
    exfalso; first | exact absurd g11 (by decide) | (simp (disch := omega) only [Int32.lt_iff_toInt_lt, Int32.le_iff_toInt_le, nI_toInt, Int32.reduceToInt] at g11 <;> omega)
  · have g11 := xf_eq h11
    refine xS.s1 rfl rfl ?_
    try dsimp only [Nat.reduceAdd]
    refine xS.s1 rfl rfl ?_
    try dsimp only [Nat.reduceAdd, xi_0]
    refine xS.s1 rfl rfl ?_
    try dsimp only [Nat.reduceAdd, xi_3]
    -- 17 yX12_in
    refine xS.callS rfl rfl rfl ⟨Nat.le_of_ble_eq_true rfl, rfl⟩ (c_in_n1 (t := 0) (s := 0) (m := 3) (by decide) (by decide) (by decide)) (fun v M1 hv => ?_)
    rw [hv.1, hv.2]
    clear hv M1 v
    try dsimp only [Nat.reduceAdd, Option.toList, List.cons_append, List.nil_append, List.drop]
    refine xS.br0 (c := .ne) (off := 5) (l := 3) rfl rfl (fun h20 => ?_) (fun h20 => ?_)
    · have g20 := xt_ne h20
      refine xS.s1 rfl rfl ?_
      try dsimp only [Nat.reduceAdd]
      refine xS.s1 rfl rfl ?_
      try dsimp only [Nat.reduceAdd]
      refine xS.br0 (c := .ne) (off := 12) (l := 3) rfl rfl (fun h27 => ?_) (fun h27 => ?_)
      · have g27 := xt_ne h27
        exfalso; first | exact absurd g27 (by decide) | (simp (disch := omega) only [Int32.lt_iff_toInt_lt, Int32.le_iff_toInt_le, nI_toInt, Int32.reduceToInt] at g27 <;> omega)
      · have g27 := xf_ne h27
        refine xS.s1 rfl rfl ?_
        try dsimp only [Nat.reduceAdd]
        refine xS.gR rfl rfl rfl ⟨by decide, rfl⟩ rfl ?_
        try dsimp only [Nat.reduceAdd]
        refine xS.s1 rfl rfl ?_
        try dsimp only [Nat.reduceAdd]
        refine xS.ia rfl xar_84 (by omega) ?_
        try dsimp only [Nat.reduceAdd]
        rw [r7, ← r3]
        refine xS.s1 rfl rfl ?_
        try dsimp only [Nat.reduceAdd]
        -- 71 yX12_tells
        refine xS.cv rfl rfl rfl rfl rfl rfl ⟨by decide, rfl, rfl⟩ c_X12_tells (fun v M1 hv => ?_)
        rw [hv.1, hv.2]
        clear hv M1 v
        try dsimp only [Nat.reduceAdd, Option.toList, List.cons_append, List.nil_append, List.drop]
        refine xS.ret rfl rfl rfl (fun _ _ => rfl) ?_
        exact ⟨rfl, rfl⟩
    · have g20 := xf_ne h20
      exfalso; first | exact absurd g20 (by decide) | (simp (disch := omega) only [Int32.lt_iff_toInt_lt, Int32.le_iff_toInt_le, nI_toInt, Int32.reduceToInt] at g20 <;> omega)

set_option maxRecDepth 10000 in
theorem c_X12_deed_1 (hR : xRr g h tx G T Lw) (hD : xDr g h tx T G Lw F4 m) (hm : m ≤ 40) (hs : g 73 14 = nI m) (hd : d < m) : xT (k + 6) 193 [.ref 73, .int (nI d), .int (nI 1)] (xH b g l) (fun r M' => M' = xH b (up g 73 20 (F4 (4 * d + 1))) l ∧ r = some (.int 1)) := by
  obtain ⟨s9, k9, r1, r2, r3, r4, r5, r6, r7, r8⟩ := hD d hd
  refine xT.of rfl (Nat.le_of_ble_eq_true rfl) ?_
  change xS _ _ 0 [(0, .ref 73), (1, .int (nI d)), (2, .int (nI 1))] [] _ _
  refine xS.s1 rfl rfl ?_
  try dsimp only [Nat.reduceAdd]
  refine xS.s1 rfl rfl ?_
  try dsimp only [Nat.reduceAdd, xi_0]
  refine xS.s1 rfl rfl ?_
  try dsimp only [Nat.reduceAdd]
  refine xS.gI rfl rfl rfl ⟨by decide, rfl⟩ rfl ?_
  try dsimp only [Nat.reduceAdd]
  rw [hs]
  refine xS.s1 rfl rfl ?_
  try dsimp only [Nat.reduceAdd, xi_1]
  refine xS.s1 rfl rfl ?_
  try dsimp only [Nat.reduceAdd]
  -- 8 yX12_in
  refine xS.callS rfl rfl rfl ⟨Nat.le_of_ble_eq_true rfl, rfl⟩ (c_in_m1 (by omega) hd) (fun v M1 hv => ?_)
  rw [hv.1, hv.2]
  clear hv M1 v
  try dsimp only [Nat.reduceAdd, Option.toList, List.cons_append, List.nil_append, List.drop]
  refine xS.br0 (c := .eq) (off := 12) (l := 3) rfl rfl (fun h11 => ?_) (fun h11 => ?_)
  · have g11 := xt_eq h11
    exfalso; first | exact absurd g11 (by decide) | (simp (disch := omega) only [Int32.lt_iff_toInt_lt, Int32.le_iff_toInt_le, nI_toInt, Int32.reduceToInt] at g11 <;> omega)
  · have g11 := xf_eq h11
    refine xS.s1 rfl rfl ?_
    try dsimp only [Nat.reduceAdd]
    refine xS.s1 rfl rfl ?_
    try dsimp only [Nat.reduceAdd, xi_0]
    refine xS.s1 rfl rfl ?_
    try dsimp only [Nat.reduceAdd, xi_3]
    -- 17 yX12_in
    refine xS.callS rfl rfl rfl ⟨Nat.le_of_ble_eq_true rfl, rfl⟩ (c_in_n1 (t := 1) (s := 0) (m := 3) (by decide) (by decide) (by decide)) (fun v M1 hv => ?_)
    rw [hv.1, hv.2]
    clear hv M1 v
    try dsimp only [Nat.reduceAdd, Option.toList, List.cons_append, List.nil_append, List.drop]
    refine xS.br0 (c := .ne) (off := 5) (l := 3) rfl rfl (fun h20 => ?_) (fun h20 => ?_)
    · have g20 := xt_ne h20
      refine xS.s1 rfl rfl ?_
      try dsimp only [Nat.reduceAdd]
      refine xS.s1 rfl rfl ?_
      try dsimp only [Nat.reduceAdd]
      refine xS.br0 (c := .ne) (off := 12) (l := 3) rfl rfl (fun h27 => ?_) (fun h27 => ?_)
      · have g27 := xt_ne h27
        refine xS.s1 rfl rfl ?_
        try dsimp only [Nat.reduceAdd]
        refine xS.s1 rfl rfl ?_
        try dsimp only [Nat.reduceAdd, xi_1]
        refine xS.br (c := .ne) (off := 12) (l := 3) rfl rfl (fun h41 => ?_) (fun h41 => ?_)
        · have g41 := xt_ne h41
          exfalso; first | exact absurd g41 (by decide) | (simp (disch := omega) only [Int32.lt_iff_toInt_lt, Int32.le_iff_toInt_le, nI_toInt, Int32.reduceToInt] at g41 <;> omega)
        · have g41 := xf_ne h41
          refine xS.s1 rfl rfl ?_
          try dsimp only [Nat.reduceAdd]
          refine xS.gR rfl rfl rfl ⟨by decide, rfl⟩ rfl ?_
          try dsimp only [Nat.reduceAdd]
          refine xS.s1 rfl rfl ?_
          try dsimp only [Nat.reduceAdd]
          refine xS.ia rfl xar_85 (by omega) ?_
          try dsimp only [Nat.reduceAdd]
          rw [r8, ← r4]
          refine xS.s1 rfl rfl ?_
          try dsimp only [Nat.reduceAdd]
          -- 71 yX12_tells
          refine xS.cv rfl rfl rfl rfl rfl rfl ⟨by decide, rfl, rfl⟩ c_X12_tells (fun v M1 hv => ?_)
          rw [hv.1, hv.2]
          clear hv M1 v
          try dsimp only [Nat.reduceAdd, Option.toList, List.cons_append, List.nil_append, List.drop]
          refine xS.ret rfl rfl rfl (fun _ _ => rfl) ?_
          exact ⟨rfl, rfl⟩
      · have g27 := xf_ne h27
        exfalso; first | exact absurd g27 (by decide) | (simp (disch := omega) only [Int32.lt_iff_toInt_lt, Int32.le_iff_toInt_le, nI_toInt, Int32.reduceToInt] at g27 <;> omega)
    · have g20 := xf_ne h20
      exfalso; first | exact absurd g20 (by decide) | (simp (disch := omega) only [Int32.lt_iff_toInt_lt, Int32.le_iff_toInt_le, nI_toInt, Int32.reduceToInt] at g20 <;> omega)

set_option maxRecDepth 10000 in
theorem c_X12_deed_2 (hR : xRr g h tx G T Lw) (hD : xDr g h tx T G Lw F4 m) (hm : m ≤ 40) (hs : g 73 14 = nI m) (hd : d < m) : xT (k + 6) 193 [.ref 73, .int (nI d), .int (nI 2)] (xH b g l) (fun r M' => M' = xH b (up g 73 20 (F4 (4 * d + 2))) l ∧ r = some (.int 1)) := by
  obtain ⟨s9, k9, r1, r2, r3, r4, r5, r6, r7, r8⟩ := hD d hd
  refine xT.of rfl (Nat.le_of_ble_eq_true rfl) ?_
  change xS _ _ 0 [(0, .ref 73), (1, .int (nI d)), (2, .int (nI 2))] [] _ _
  refine xS.s1 rfl rfl ?_
  try dsimp only [Nat.reduceAdd]
  refine xS.s1 rfl rfl ?_
  try dsimp only [Nat.reduceAdd, xi_0]
  refine xS.s1 rfl rfl ?_
  try dsimp only [Nat.reduceAdd]
  refine xS.gI rfl rfl rfl ⟨by decide, rfl⟩ rfl ?_
  try dsimp only [Nat.reduceAdd]
  rw [hs]
  refine xS.s1 rfl rfl ?_
  try dsimp only [Nat.reduceAdd, xi_1]
  refine xS.s1 rfl rfl ?_
  try dsimp only [Nat.reduceAdd]
  -- 8 yX12_in
  refine xS.callS rfl rfl rfl ⟨Nat.le_of_ble_eq_true rfl, rfl⟩ (c_in_m1 (by omega) hd) (fun v M1 hv => ?_)
  rw [hv.1, hv.2]
  clear hv M1 v
  try dsimp only [Nat.reduceAdd, Option.toList, List.cons_append, List.nil_append, List.drop]
  refine xS.br0 (c := .eq) (off := 12) (l := 3) rfl rfl (fun h11 => ?_) (fun h11 => ?_)
  · have g11 := xt_eq h11
    exfalso; first | exact absurd g11 (by decide) | (simp (disch := omega) only [Int32.lt_iff_toInt_lt, Int32.le_iff_toInt_le, nI_toInt, Int32.reduceToInt] at g11 <;> omega)
  · have g11 := xf_eq h11
    refine xS.s1 rfl rfl ?_
    try dsimp only [Nat.reduceAdd]
    refine xS.s1 rfl rfl ?_
    try dsimp only [Nat.reduceAdd, xi_0]
    refine xS.s1 rfl rfl ?_
    try dsimp only [Nat.reduceAdd, xi_3]
    -- 17 yX12_in
    refine xS.callS rfl rfl rfl ⟨Nat.le_of_ble_eq_true rfl, rfl⟩ (c_in_n1 (t := 2) (s := 0) (m := 3) (by decide) (by decide) (by decide)) (fun v M1 hv => ?_)
    rw [hv.1, hv.2]
    clear hv M1 v
    try dsimp only [Nat.reduceAdd, Option.toList, List.cons_append, List.nil_append, List.drop]
    refine xS.br0 (c := .ne) (off := 5) (l := 3) rfl rfl (fun h20 => ?_) (fun h20 => ?_)
    · have g20 := xt_ne h20
      refine xS.s1 rfl rfl ?_
      try dsimp only [Nat.reduceAdd]
      refine xS.s1 rfl rfl ?_
      try dsimp only [Nat.reduceAdd]
      refine xS.br0 (c := .ne) (off := 12) (l := 3) rfl rfl (fun h27 => ?_) (fun h27 => ?_)
      · have g27 := xt_ne h27
        refine xS.s1 rfl rfl ?_
        try dsimp only [Nat.reduceAdd]
        refine xS.s1 rfl rfl ?_
        try dsimp only [Nat.reduceAdd, xi_1]
        refine xS.br (c := .ne) (off := 12) (l := 3) rfl rfl (fun h41 => ?_) (fun h41 => ?_)
        · have g41 := xt_ne h41
          refine xS.s1 rfl rfl ?_
          try dsimp only [Nat.reduceAdd]
          refine xS.s1 rfl rfl ?_
          try dsimp only [Nat.reduceAdd, xi_2]
          refine xS.br (c := .ne) (off := 11) (l := 3) rfl rfl (fun h55 => ?_) (fun h55 => ?_)
          · have g55 := xt_ne h55
            exfalso; first | exact absurd g55 (by decide) | (simp (disch := omega) only [Int32.lt_iff_toInt_lt, Int32.le_iff_toInt_le, nI_toInt, Int32.reduceToInt] at g55 <;> omega)
          · have g55 := xf_ne h55
            refine xS.s1 rfl rfl ?_
            try dsimp only [Nat.reduceAdd]
            refine xS.s1 rfl rfl ?_
            try dsimp only [Nat.reduceAdd]
            -- 60 yX12_shownOf
            refine xS.cv rfl rfl rfl rfl rfl rfl ⟨by decide, rfl, rfl⟩ (c_X12_shownOf hR hD hm hd) (fun v M1 hv => ?_)
            rw [hv.1, hv.2]
            clear hv M1 v
            try dsimp only [Nat.reduceAdd, Option.toList, List.cons_append, List.nil_append, List.drop]
            refine xS.s1 rfl rfl ?_
            try dsimp only [Nat.reduceAdd]
            -- 71 yX12_tells
            refine xS.cv rfl rfl rfl rfl rfl rfl ⟨by decide, rfl, rfl⟩ c_X12_tells (fun v M1 hv => ?_)
            rw [hv.1, hv.2]
            clear hv M1 v
            try dsimp only [Nat.reduceAdd, Option.toList, List.cons_append, List.nil_append, List.drop]
            refine xS.ret rfl rfl rfl (fun _ _ => rfl) ?_
            exact ⟨rfl, rfl⟩
        · have g41 := xf_ne h41
          exfalso; first | exact absurd g41 (by decide) | (simp (disch := omega) only [Int32.lt_iff_toInt_lt, Int32.le_iff_toInt_le, nI_toInt, Int32.reduceToInt] at g41 <;> omega)
      · have g27 := xf_ne h27
        exfalso; first | exact absurd g27 (by decide) | (simp (disch := omega) only [Int32.lt_iff_toInt_lt, Int32.le_iff_toInt_le, nI_toInt, Int32.reduceToInt] at g27 <;> omega)
    · have g20 := xf_ne h20
      exfalso; first | exact absurd g20 (by decide) | (simp (disch := omega) only [Int32.lt_iff_toInt_lt, Int32.le_iff_toInt_le, nI_toInt, Int32.reduceToInt] at g20 <;> omega)

set_option maxRecDepth 10000 in
theorem c_X12_deed_3 (hR : xRr g h tx G T Lw) (hD : xDr g h tx T G Lw F4 m) (hm : m ≤ 40) (hs : g 73 14 = nI m) (hd : d < m) : xT (k + 6) 193 [.ref 73, .int (nI d), .int (nI 3)] (xH b g l) (fun r M' => M' = xH b (up g 73 20 (F4 (4 * d + 3))) l ∧ r = some (.int 1)) := by
  obtain ⟨s9, k9, r1, r2, r3, r4, r5, r6, r7, r8⟩ := hD d hd
  refine xT.of rfl (Nat.le_of_ble_eq_true rfl) ?_
  change xS _ _ 0 [(0, .ref 73), (1, .int (nI d)), (2, .int (nI 3))] [] _ _
  refine xS.s1 rfl rfl ?_
  try dsimp only [Nat.reduceAdd]
  refine xS.s1 rfl rfl ?_
  try dsimp only [Nat.reduceAdd, xi_0]
  refine xS.s1 rfl rfl ?_
  try dsimp only [Nat.reduceAdd]
  refine xS.gI rfl rfl rfl ⟨by decide, rfl⟩ rfl ?_
  try dsimp only [Nat.reduceAdd]
  rw [hs]
  refine xS.s1 rfl rfl ?_
  try dsimp only [Nat.reduceAdd, xi_1]
  refine xS.s1 rfl rfl ?_
  try dsimp only [Nat.reduceAdd]
  -- 8 yX12_in
  refine xS.callS rfl rfl rfl ⟨Nat.le_of_ble_eq_true rfl, rfl⟩ (c_in_m1 (by omega) hd) (fun v M1 hv => ?_)
  rw [hv.1, hv.2]
  clear hv M1 v
  try dsimp only [Nat.reduceAdd, Option.toList, List.cons_append, List.nil_append, List.drop]
  refine xS.br0 (c := .eq) (off := 12) (l := 3) rfl rfl (fun h11 => ?_) (fun h11 => ?_)
  · have g11 := xt_eq h11
    exfalso; first | exact absurd g11 (by decide) | (simp (disch := omega) only [Int32.lt_iff_toInt_lt, Int32.le_iff_toInt_le, nI_toInt, Int32.reduceToInt] at g11 <;> omega)
  · have g11 := xf_eq h11
    refine xS.s1 rfl rfl ?_
    try dsimp only [Nat.reduceAdd]
    refine xS.s1 rfl rfl ?_
    try dsimp only [Nat.reduceAdd, xi_0]
    refine xS.s1 rfl rfl ?_
    try dsimp only [Nat.reduceAdd, xi_3]
    -- 17 yX12_in
    refine xS.callS rfl rfl rfl ⟨Nat.le_of_ble_eq_true rfl, rfl⟩ (c_in_n1 (t := 3) (s := 0) (m := 3) (by decide) (by decide) (by decide)) (fun v M1 hv => ?_)
    rw [hv.1, hv.2]
    clear hv M1 v
    try dsimp only [Nat.reduceAdd, Option.toList, List.cons_append, List.nil_append, List.drop]
    refine xS.br0 (c := .ne) (off := 5) (l := 3) rfl rfl (fun h20 => ?_) (fun h20 => ?_)
    · have g20 := xt_ne h20
      refine xS.s1 rfl rfl ?_
      try dsimp only [Nat.reduceAdd]
      refine xS.s1 rfl rfl ?_
      try dsimp only [Nat.reduceAdd]
      refine xS.br0 (c := .ne) (off := 12) (l := 3) rfl rfl (fun h27 => ?_) (fun h27 => ?_)
      · have g27 := xt_ne h27
        refine xS.s1 rfl rfl ?_
        try dsimp only [Nat.reduceAdd]
        refine xS.s1 rfl rfl ?_
        try dsimp only [Nat.reduceAdd, xi_1]
        refine xS.br (c := .ne) (off := 12) (l := 3) rfl rfl (fun h41 => ?_) (fun h41 => ?_)
        · have g41 := xt_ne h41
          refine xS.s1 rfl rfl ?_
          try dsimp only [Nat.reduceAdd]
          refine xS.s1 rfl rfl ?_
          try dsimp only [Nat.reduceAdd, xi_2]
          refine xS.br (c := .ne) (off := 11) (l := 3) rfl rfl (fun h55 => ?_) (fun h55 => ?_)
          · have g55 := xt_ne h55
            refine xS.s1 rfl rfl ?_
            try dsimp only [Nat.reduceAdd]
            refine xS.s1 rfl rfl ?_
            try dsimp only [Nat.reduceAdd]
            -- 68 yX12_brokenBy
            refine xS.cv rfl rfl rfl rfl rfl rfl ⟨by decide, rfl, rfl⟩ (c_X12_brokenBy hR hD hm hd) (fun v M1 hv => ?_)
            rw [hv.1, hv.2]
            clear hv M1 v
            try dsimp only [Nat.reduceAdd, Option.toList, List.cons_append, List.nil_append, List.drop]
            -- 71 yX12_tells
            refine xS.cv rfl rfl rfl rfl rfl rfl ⟨by decide, rfl, rfl⟩ c_X12_tells (fun v M1 hv => ?_)
            rw [hv.1, hv.2]
            clear hv M1 v
            try dsimp only [Nat.reduceAdd, Option.toList, List.cons_append, List.nil_append, List.drop]
            refine xS.ret rfl rfl rfl (fun _ _ => rfl) ?_
            exact ⟨rfl, rfl⟩
          · have g55 := xf_ne h55
            exfalso; first | exact absurd g55 (by decide) | (simp (disch := omega) only [Int32.lt_iff_toInt_lt, Int32.le_iff_toInt_le, nI_toInt, Int32.reduceToInt] at g55 <;> omega)
        · have g41 := xf_ne h41
          exfalso; first | exact absurd g41 (by decide) | (simp (disch := omega) only [Int32.lt_iff_toInt_lt, Int32.le_iff_toInt_le, nI_toInt, Int32.reduceToInt] at g41 <;> omega)
      · have g27 := xf_ne h27
        exfalso; first | exact absurd g27 (by decide) | (simp (disch := omega) only [Int32.lt_iff_toInt_lt, Int32.le_iff_toInt_le, nI_toInt, Int32.reduceToInt] at g27 <;> omega)
    · have g20 := xf_ne h20
      exfalso; first | exact absurd g20 (by decide) | (simp (disch := omega) only [Int32.lt_iff_toInt_lt, Int32.le_iff_toInt_le, nI_toInt, Int32.reduceToInt] at g20 <;> omega)

set_option maxRecDepth 10000 in
theorem c_X12_brokenMany (hR : xRr g h tx G T Lw) (hD : xDr g h tx T G Lw F4 m) (hm : m ≤ 40) (hs : g 73 14 = nI m) : xT (k + 6) 194 [.ref 73] (xH b g l) (fun r M' => M' = xH b g l ∧ r = some (.int (nI (xcnt (fun d => !decide (F4 (4 * d + 3) = -9)) m)))) := by
  refine xT.of rfl (Nat.le_of_ble_eq_true rfl) ?_
  change xS _ _ 0 [(0, .ref 73)] [] _ _
  refine xS.s1 rfl rfl ?_
  try dsimp only [Nat.reduceAdd, xi_0]
  refine xS.s1 rfl rfl ?_
  try dsimp only [Nat.reduceAdd]
  refine xS.s1 rfl rfl ?_
  try dsimp only [Nat.reduceAdd, xi_0]
  refine xS.s1 rfl rfl ?_
  try dsimp only [Nat.reduceAdd]
  refine xS.pick [0, 1, 2] rfl ?_
  refine xS.loop (σ := Unit) (m) (fun j S => [(2, .int (nI j)), (1, .int (nI (xcnt (fun d => !decide (F4 (4 * d + 3) = -9)) j))), (0, .ref 73)]) (fun _ _ => xH b g l) (fun _ _ => True) (()) (rfl) (rfl) (trivial) ?_
  intro j S hj hI ih
  try dsimp only
  refine xS.s1 rfl rfl ?_
  try dsimp only [Nat.reduceAdd]
  refine xS.s1 rfl rfl ?_
  try dsimp only [Nat.reduceAdd]
  refine xS.gI rfl rfl rfl ⟨by decide, rfl⟩ rfl ?_
  try dsimp only [Nat.reduceAdd]
  refine xS.br (c := .ge) (off := 27) (l := 3) rfl rfl (fun h9 => ?_) (fun h9 => ?_)
  · have g9 := xt_ge h9
    rw [hs] at g9
    have e := xnle g9 (by omega) (by omega)
    have e2 : m = j := by omega
    subst e2
    refine xS.s1 rfl rfl ?_
    try dsimp only [Nat.reduceAdd]
    refine xS.ret rfl rfl rfl (fun _ _ => rfl) ?_
    exact ⟨rfl, rfl⟩
  · have g9 := xf_ge h9
    rw [hs] at g9
    have hlt := xnlt g9 (by omega) (by omega)
    refine xS.s1 rfl rfl ?_
    try dsimp only [Nat.reduceAdd]
    refine xS.s1 rfl rfl ?_
    try dsimp only [Nat.reduceAdd]
    refine xS.s1 rfl rfl ?_
    try dsimp only [Nat.reduceAdd]
    -- 15 yX12_brokenBy
    refine xS.cv rfl rfl rfl rfl rfl rfl ⟨by decide, rfl, rfl⟩ (c_X12_brokenBy hR hD hm hlt) (fun v M1 hv => ?_)
    rw [hv.1, hv.2]
    clear hv M1 v
    try dsimp only [Nat.reduceAdd, Option.toList, List.cons_append, List.nil_append, List.drop]
    refine xS.s1 rfl rfl ?_
    try dsimp only [Nat.reduceAdd, xj_m9]
    refine xS.br (c := .ne) (off := 7) (l := 3) rfl rfl (fun h20 => ?_) (fun h20 => ?_)
    · have g20 := xt_ne h20
      refine xS.s1 rfl rfl ?_
      try dsimp only [Nat.reduceAdd, xi_1]
      refine xS.s1 rfl rfl ?_
      try dsimp only [Nat.reduceAdd]
      refine xS.s1 rfl rfl ?_
      try dsimp only [Nat.reduceAdd]
      refine xS.s1 rfl rfl ?_
      try dsimp only [Nat.reduceAdd, xi_1]
      rw [nI_1]
      refine xS.s1 rfl rfl ?_
      try dsimp only [Nat.reduceAdd]
      refine xS.pick [0, 1, 2] rfl ?_
      rw [nI_1]
      have ih2 := ih () (by omega) trivial
      first | (rw [show xcnt (fun d => !decide (F4 (4 * d + 3) = -9)) (j + 1) = xcnt (fun d => !decide (F4 (4 * d + 3) = -9)) j from by simp [xcnt_s, g20]] at ih2; exact ih2) | (rw [show xcnt (fun d => !decide (F4 (4 * d + 3) = -9)) (j + 1) = xcnt (fun d => !decide (F4 (4 * d + 3) = -9)) j + 1 from by simp [xcnt_s, g20]] at ih2; exact ih2)
    · have g20 := xf_ne h20
      refine xS.s1 rfl rfl ?_
      try dsimp only [Nat.reduceAdd, xi_0]
      refine xS.s1 rfl rfl ?_
      try dsimp only [Nat.reduceAdd]
      refine xS.s1 rfl rfl ?_
      try dsimp only [Nat.reduceAdd]
      refine xS.s1 rfl rfl ?_
      try dsimp only [Nat.reduceAdd]
      refine xS.s1 rfl rfl ?_
      try dsimp only [Nat.reduceAdd, xi_1]
      rw [nI_1]
      refine xS.s1 rfl rfl ?_
      try dsimp only [Nat.reduceAdd]
      refine xS.pick [0, 1, 2] rfl ?_
      rw [show nI (xcnt (fun d => !decide (F4 (4 * d + 3) = -9)) j) + 0 = nI (xcnt (fun d => !decide (F4 (4 * d + 3) = -9)) j) from nI_add _ 0]
      have ih2 := ih () (by omega) trivial
      first | (rw [show xcnt (fun d => !decide (F4 (4 * d + 3) = -9)) (j + 1) = xcnt (fun d => !decide (F4 (4 * d + 3) = -9)) j from by simp [xcnt_s, g20]] at ih2; exact ih2) | (rw [show xcnt (fun d => !decide (F4 (4 * d + 3) = -9)) (j + 1) = xcnt (fun d => !decide (F4 (4 * d + 3) = -9)) j + 1 from by simp [xcnt_s, g20]] at ih2; exact ih2)

set_option maxRecDepth 10000 in
theorem c_X12_broken (hR : xRr g h tx G T Lw) (hD : xDr g h tx T G Lw F4 m) (hm : m ≤ 40) (hs : g 73 14 = nI m) : xT (k + 7) 195 [.ref 73] (xH b g l) (fun r M' => M' = xH b (up g 73 20 (xfI (xfst (fun d => !decide (F4 (4 * d + 3) = -9)) m))) l ∧ r = some (.int (nI (xcnt (fun d => !decide (F4 (4 * d + 3) = -9)) m)))) := by
  refine xT.of rfl (Nat.le_of_ble_eq_true rfl) ?_
  change xS _ _ 0 [(0, .ref 73)] [] _ _
  refine xS.s1 rfl rfl ?_
  try dsimp only [Nat.reduceAdd, xj_m9]
  refine xS.s1 rfl rfl ?_
  try dsimp only [Nat.reduceAdd]
  refine xS.s1 rfl rfl ?_
  try dsimp only [Nat.reduceAdd]
  refine xS.gI rfl rfl rfl ⟨by decide, rfl⟩ rfl ?_
  try dsimp only [Nat.reduceAdd]
  rw [hs]
  refine xS.s1 rfl rfl ?_
  try dsimp only [Nat.reduceAdd, xi_1]
  refine xS.s1 rfl rfl ?_
  try dsimp only [Nat.reduceAdd]
  refine xS.s1 rfl rfl ?_
  try dsimp only [Nat.reduceAdd]
  refine xS.pick [0, 1, 2] rfl ?_
  refine xS.loop (σ := Unit) (m) (fun j S => [(2, .int (nI (m - j) - 1)), (1, .int (xfI (xdn1 (fun d => !decide (F4 (4 * d + 3) = -9)) m j))), (0, .ref 73)]) (fun _ _ => xH b g l) (fun _ _ => True) (()) (rfl) (rfl) (trivial) ?_
  intro j S hj hI ih
  try dsimp only
  refine xS.s1 rfl rfl ?_
  try dsimp only [Nat.reduceAdd]
  refine xS.br0 (c := .lt) (off := 25) (l := 3) rfl rfl (fun h11 => ?_) (fun h11 => ?_)
  · have g11 := xt_lt h11
    rw [xdown0 hj (by omega)] at g11
    subst g11
    refine xS.s1 rfl rfl ?_
    try dsimp only [Nat.reduceAdd]
    refine xS.s1 rfl rfl ?_
    try dsimp only [Nat.reduceAdd]
    refine xS.pI rfl rfl rfl ⟨⟨by decide, rfl⟩, rfl, by decide, by decide⟩ rfl ?_
    try dsimp only [Nat.reduceAdd]
    refine xS.s1 rfl rfl ?_
    try dsimp only [Nat.reduceAdd]
    -- 42 yX12_brokenMany
    refine xS.cv rfl rfl rfl rfl rfl rfl ⟨by decide, rfl, rfl⟩ (c_X12_brokenMany (xRr_fr (by rw [up_ne (Or.inr (by decide))]) (by rw [up_ne (Or.inr (by decide))]) (up_na (by decide)) (up_na (by decide)) (up_na (by decide)) hR) (xDr_fr (up_na (by decide)) (up_na (by decide)) hD) hm (by rw [up_ne (Or.inr (by decide))]; exact hs)) (fun v M1 hv => ?_)
    rw [hv.1, hv.2]
    clear hv M1 v
    try dsimp only [Nat.reduceAdd, Option.toList, List.cons_append, List.nil_append, List.drop]
    refine xS.ret rfl rfl rfl (fun _ _ => rfl) ?_
    rw [xdn1_m]
    exact ⟨rfl, rfl⟩
  · have g11 := xf_lt h11
    have hlt : j < m := by
      have := (not_congr (xdown0 hj (by omega))).mp (Int32.not_lt.mpr g11)
      omega
    rw [xdown hlt]
    refine xS.s1 rfl rfl ?_
    try dsimp only [Nat.reduceAdd]
    refine xS.s1 rfl rfl ?_
    try dsimp only [Nat.reduceAdd]
    -- 16 yX12_brokenBy
    refine xS.cv rfl rfl rfl rfl rfl rfl ⟨by decide, rfl, rfl⟩ (c_X12_brokenBy hR hD hm (by omega)) (fun v M1 hv => ?_)
    rw [hv.1, hv.2]
    clear hv M1 v
    try dsimp only [Nat.reduceAdd, Option.toList, List.cons_append, List.nil_append, List.drop]
    refine xS.s1 rfl rfl ?_
    try dsimp only [Nat.reduceAdd, xj_m9]
    refine xS.br (c := .ne) (off := 7) (l := 3) rfl rfl (fun h21 => ?_) (fun h21 => ?_)
    · have g21 := xt_ne h21
      refine xS.s1 rfl rfl ?_
      try dsimp only [Nat.reduceAdd]
      refine xS.s1 rfl rfl ?_
      try dsimp only [Nat.reduceAdd]
      refine xS.s1 rfl rfl ?_
      try dsimp only [Nat.reduceAdd, xi_m1]
      refine xS.s1 rfl rfl ?_
      try dsimp only [Nat.reduceAdd]
      refine xS.pick [0, 1, 2] rfl ?_
      have ih2 := ih () (by omega) trivial
      rw [xdec]
      rw [show xdn1 (fun d => !decide (F4 (4 * d + 3) = -9)) m (j + 1) = some (m - j - 1) from by rw [xdn1_s]; simp [g21]] at ih2
      exact ih2
    · have g21 := xf_ne h21
      refine xS.s1 rfl rfl ?_
      try dsimp only [Nat.reduceAdd]
      refine xS.s1 rfl rfl ?_
      try dsimp only [Nat.reduceAdd]
      refine xS.s1 rfl rfl ?_
      try dsimp only [Nat.reduceAdd]
      refine xS.s1 rfl rfl ?_
      try dsimp only [Nat.reduceAdd, xi_m1]
      refine xS.s1 rfl rfl ?_
      try dsimp only [Nat.reduceAdd]
      refine xS.pick [0, 1, 2] rfl ?_
      have ih2 := ih () (by omega) trivial
      rw [xdec]
      rw [show xdn1 (fun d => !decide (F4 (4 * d + 3) = -9)) m (j + 1) = xdn1 (fun d => !decide (F4 (4 * d + 3) = -9)) m j from by rw [xdn1_s]; simp [g21]] at ih2
      exact ih2

set_option maxRecDepth 10000 in
theorem c_X12_undo_bad (hx : ¬ (0 ≤ x ∧ x ≤ g 73 14)) : xT (k + 2) 196 [.ref 73, .int x] (xH b g l) (fun r M' => M' = xH b g l ∧ r = some (.int (-1))) := by
  refine xT.of rfl (Nat.le_of_ble_eq_true rfl) ?_
  change xS _ _ 0 [(0, .ref 73), (1, .int x)] [] _ _
  refine xS.s1 rfl rfl ?_
  try dsimp only [Nat.reduceAdd]
  refine xS.s1 rfl rfl ?_
  try dsimp only [Nat.reduceAdd, xi_0]
  refine xS.s1 rfl rfl ?_
  try dsimp only [Nat.reduceAdd]
  refine xS.gI rfl rfl rfl ⟨by decide, rfl⟩ rfl ?_
  try dsimp only [Nat.reduceAdd]
  -- 6 yX12_in
  refine xS.callS rfl rfl rfl ⟨Nat.le_of_ble_eq_true rfl, rfl⟩ c_in_x (fun v M1 hv => ?_)
  rw [hv.1, hv.2]
  clear hv M1 v
  try dsimp only [Nat.reduceAdd, Option.toList, List.cons_append, List.nil_append, List.drop]
  refine xS.br0 (c := .ne) (off := 5) (l := 3) rfl rfl (fun h9 => ?_) (fun h9 => ?_)
  · have g9 := xt_ne h9
    exact absurd (xif1 g9) hx
  · have g9 := xf_ne h9
    refine xS.s1 rfl rfl ?_
    try dsimp only [Nat.reduceAdd, xi_m1]
    refine xS.ret rfl rfl rfl (fun _ _ => rfl) ?_
    exact ⟨rfl, rfl⟩

set_option maxRecDepth 10000 in
theorem c_X12_undo_ok (hs : g 73 14 = nI m) (hm : m ≤ 40) (ht : t ≤ m) : xT (k + 2) 196 [.ref 73, .int (nI t)] (xH b g l) (fun r M' => M' = xH b (up g 73 14 (nI t)) l ∧ r = some (.int (nI (m - t)))) := by
  refine xT.of rfl (Nat.le_of_ble_eq_true rfl) ?_
  change xS _ _ 0 [(0, .ref 73), (1, .int (nI t))] [] _ _
  refine xS.s1 rfl rfl ?_
  try dsimp only [Nat.reduceAdd]
  refine xS.s1 rfl rfl ?_
  try dsimp only [Nat.reduceAdd, xi_0]
  refine xS.s1 rfl rfl ?_
  try dsimp only [Nat.reduceAdd]
  refine xS.gI rfl rfl rfl ⟨by decide, rfl⟩ rfl ?_
  try dsimp only [Nat.reduceAdd]
  rw [hs]
  -- 6 yX12_in
  refine xS.callS rfl rfl rfl ⟨Nat.le_of_ble_eq_true rfl, rfl⟩ (c_in_n1 (s := 0) (by omega) ht (by omega)) (fun v M1 hv => ?_)
  rw [hv.1, hv.2]
  clear hv M1 v
  try dsimp only [Nat.reduceAdd, Option.toList, List.cons_append, List.nil_append, List.drop]
  refine xS.br0 (c := .ne) (off := 5) (l := 3) rfl rfl (fun h9 => ?_) (fun h9 => ?_)
  · have g9 := xt_ne h9
    refine xS.s1 rfl rfl ?_
    try dsimp only [Nat.reduceAdd]
    refine xS.gI rfl rfl rfl ⟨by decide, rfl⟩ rfl ?_
    try dsimp only [Nat.reduceAdd]
    rw [hs]
    refine xS.s1 rfl rfl ?_
    try dsimp only [Nat.reduceAdd]
    refine xS.s1 rfl rfl ?_
    try dsimp only [Nat.reduceAdd]
    rw [pk_sub ht]
    refine xS.s1 rfl rfl ?_
    try dsimp only [Nat.reduceAdd]
    refine xS.s1 rfl rfl ?_
    try dsimp only [Nat.reduceAdd]
    refine xS.s1 rfl rfl ?_
    try dsimp only [Nat.reduceAdd]
    refine xS.pI rfl rfl rfl ⟨⟨by decide, rfl⟩, rfl, by decide, by decide⟩ rfl ?_
    try dsimp only [Nat.reduceAdd]
    refine xS.s1 rfl rfl ?_
    try dsimp only [Nat.reduceAdd]
    refine xS.ret rfl rfl rfl (fun _ _ => rfl) ?_
    exact ⟨rfl, rfl⟩
  · have g9 := xf_ne h9
    exfalso; first | exact absurd g9 (by decide) | (simp (disch := omega) only [Int32.lt_iff_toInt_lt, Int32.le_iff_toInt_le, nI_toInt, Int32.reduceToInt] at g9 <;> omega)

theorem xin2 {x : Int32} : (0 ≤ x ∧ x ≤ 2) ↔ (0 ≤ x ∧ x < 3) := by
  simp only [Int32.le_iff_toInt_le, Int32.lt_iff_toInt_lt, Int32.reduceToInt]
  omega

set_option maxRecDepth 10000 in
theorem c_X12_keep_bad (hx : ¬ (0 ≤ x ∧ x < 3)) : xT (k + 2) 197 [.ref 73, .int x] (xH b g l) (fun r M' => M' = xH b g l ∧ r = some (.int (-1))) := by
  refine xT.of rfl (Nat.le_of_ble_eq_true rfl) ?_
  change xS _ _ 0 [(0, .ref 73), (1, .int x)] [] _ _
  refine xS.s1 rfl rfl ?_
  try dsimp only [Nat.reduceAdd]
  refine xS.s1 rfl rfl ?_
  try dsimp only [Nat.reduceAdd, xi_0]
  refine xS.s1 rfl rfl ?_
  try dsimp only [Nat.reduceAdd, xi_2]
  -- 3 yX12_in
  refine xS.callS rfl rfl rfl ⟨Nat.le_of_ble_eq_true rfl, rfl⟩ c_in_x (fun v M1 hv => ?_)
  rw [hv.1, hv.2]
  clear hv M1 v
  try dsimp only [Nat.reduceAdd, Option.toList, List.cons_append, List.nil_append, List.drop]
  refine xS.br0 (c := .ne) (off := 5) (l := 3) rfl rfl (fun h6 => ?_) (fun h6 => ?_)
  · have g6 := xt_ne h6
    exact absurd (xin2.mp (xif1 g6)) hx
  · have g6 := xf_ne h6
    refine xS.s1 rfl rfl ?_
    try dsimp only [Nat.reduceAdd, xi_m1]
    refine xS.ret rfl rfl rfl (fun _ _ => rfl) ?_
    exact ⟨rfl, rfl⟩

set_option maxRecDepth 10000 in
theorem c_X12_keep_state (ht : t < 3) (hg : g 73 10 = 0) : xT (k + 2) 197 [.ref 73, .int (nI t)] (xH b g l) (fun r M' => M' = xH b g l ∧ r = some (.int (-4))) := by
  refine xT.of rfl (Nat.le_of_ble_eq_true rfl) ?_
  change xS _ _ 0 [(0, .ref 73), (1, .int (nI t))] [] _ _
  refine xS.s1 rfl rfl ?_
  try dsimp only [Nat.reduceAdd]
  refine xS.s1 rfl rfl ?_
  try dsimp only [Nat.reduceAdd, xi_0]
  refine xS.s1 rfl rfl ?_
  try dsimp only [Nat.reduceAdd, xi_2]
  -- 3 yX12_in
  refine xS.callS rfl rfl rfl ⟨Nat.le_of_ble_eq_true rfl, rfl⟩ (c_in_n1 (s := 0) (m := 2) (by omega) (by omega) (by decide)) (fun v M1 hv => ?_)
  rw [hv.1, hv.2]
  clear hv M1 v
  try dsimp only [Nat.reduceAdd, Option.toList, List.cons_append, List.nil_append, List.drop]
  refine xS.br0 (c := .ne) (off := 5) (l := 3) rfl rfl (fun h6 => ?_) (fun h6 => ?_)
  · have g6 := xt_ne h6
    refine xS.s1 rfl rfl ?_
    try dsimp only [Nat.reduceAdd]
    refine xS.gI rfl rfl rfl ⟨by decide, rfl⟩ rfl ?_
    try dsimp only [Nat.reduceAdd]
    refine xS.br0 (c := .ne) (off := 6) (l := 3) rfl rfl (fun h15 => ?_) (fun h15 => ?_)
    · have g15 := xt_ne h15
      exact absurd hg g15
    · have g15 := xf_ne h15
      refine xS.s1 rfl rfl ?_
      try dsimp only [Nat.reduceAdd, xj_m4]
      refine xS.ret rfl rfl rfl (fun _ _ => rfl) ?_
      exact ⟨rfl, rfl⟩
  · have g6 := xf_ne h6
    exfalso; first | exact absurd g6 (by decide) | (simp (disch := omega) only [Int32.lt_iff_toInt_lt, Int32.le_iff_toInt_le, nI_toInt, Int32.reduceToInt] at g6 <;> omega)

set_option maxRecDepth 10000 in
theorem c_X12_keep_ok (ht : t < 3) (hg : ¬ g 73 10 = 0) (hs : g 73 14 = nI m) (hm : m ≤ 40) : xT (k + 2) 197 [.ref 73, .int (nI t)] (xH b g l) (fun r M' => M' = xH b (gseg (gseg (up g 86 t (nI m)) 87 (40 * t) m (g 84)) 88 (40 * t) m (g 85)) l ∧ r = some (.int (nI m))) := by
  refine xT.of rfl (Nat.le_of_ble_eq_true rfl) ?_
  change xS _ _ 0 [(0, .ref 73), (1, .int (nI t))] [] _ _
  refine xS.s1 rfl rfl ?_
  try dsimp only [Nat.reduceAdd]
  refine xS.s1 rfl rfl ?_
  try dsimp only [Nat.reduceAdd, xi_0]
  refine xS.s1 rfl rfl ?_
  try dsimp only [Nat.reduceAdd, xi_2]
  -- 3 yX12_in
  refine xS.callS rfl rfl rfl ⟨Nat.le_of_ble_eq_true rfl, rfl⟩ (c_in_n1 (s := 0) (m := 2) (by omega) (by omega) (by decide)) (fun v M1 hv => ?_)
  rw [hv.1, hv.2]
  clear hv M1 v
  try dsimp only [Nat.reduceAdd, Option.toList, List.cons_append, List.nil_append, List.drop]
  refine xS.br0 (c := .ne) (off := 5) (l := 3) rfl rfl (fun h6 => ?_) (fun h6 => ?_)
  · have g6 := xt_ne h6
    refine xS.s1 rfl rfl ?_
    try dsimp only [Nat.reduceAdd]
    refine xS.gI rfl rfl rfl ⟨by decide, rfl⟩ rfl ?_
    try dsimp only [Nat.reduceAdd]
    refine xS.br0 (c := .ne) (off := 6) (l := 3) rfl rfl (fun h15 => ?_) (fun h15 => ?_)
    · have g15 := xt_ne h15
      refine xS.s1 rfl rfl ?_
      try dsimp only [Nat.reduceAdd]
      refine xS.gR rfl rfl rfl ⟨by decide, rfl⟩ rfl ?_
      try dsimp only [Nat.reduceAdd]
      refine xS.s1 rfl rfl ?_
      try dsimp only [Nat.reduceAdd]
      refine xS.s1 rfl rfl ?_
      try dsimp only [Nat.reduceAdd]
      refine xS.gI rfl rfl rfl ⟨by decide, rfl⟩ rfl ?_
      try dsimp only [Nat.reduceAdd]
      rw [hs]
      refine xS.ias rfl xar_86 (by omega) ?_
      try dsimp only [Nat.reduceAdd]
      refine xS.s1 rfl rfl ?_
      try dsimp only [Nat.reduceAdd, xi_0]
      refine xS.s1 rfl rfl ?_
      try dsimp only [Nat.reduceAdd]
      refine xS.pick [0, 1, 2] rfl ?_
      refine xS.loop (σ := Unit) (m) (fun j S => [(2, .int (nI j)), (0, .ref 73), (1, .int (nI t))]) (fun j _ => xH b (gseg (gseg (up g 86 t (nI m)) 87 (40 * t) j (g 84)) 88 (40 * t) j (g 85)) l) (fun _ _ => True) (()) (rfl) (by rw [gseg_0, gseg_0]) (trivial) ?_
      intro j S hj hI ih
      try dsimp only
      have e84 : (gseg (gseg (up g 86 t (nI m)) 87 (40 * t) j (g 84)) 88 (40 * t) j (g 85)) 84 = g 84 := by rw [gseg_na (by decide), gseg_na (by decide), up_na (by decide)]
      have e73 : (gseg (gseg (up g 86 t (nI m)) 87 (40 * t) j (g 84)) 88 (40 * t) j (g 85)) 73 14 = nI m := by rw [gseg_na (by decide), gseg_na (by decide), up_na (by decide)]; exact hs
      refine xS.s1 rfl rfl ?_
      try dsimp only [Nat.reduceAdd]
      refine xS.s1 rfl rfl ?_
      try dsimp only [Nat.reduceAdd]
      refine xS.gI rfl rfl rfl ⟨by decide, rfl⟩ rfl ?_
      try dsimp only [Nat.reduceAdd]
      refine xS.br (c := .ge) (off := 43) (l := 3) rfl rfl (fun h38 => ?_) (fun h38 => ?_)
      · have g38 := xt_ge h38
        rw [e73] at g38
        have e := xnle g38 (by omega) (by omega)
        have e2 : m = j := by omega
        subst e2
        refine xS.s1 rfl rfl ?_
        try dsimp only [Nat.reduceAdd]
        refine xS.gI rfl rfl rfl ⟨by decide, rfl⟩ rfl ?_
        try dsimp only [Nat.reduceAdd]
        refine xS.ret rfl rfl rfl (fun _ _ => rfl) ?_
        rw [e73]
        exact ⟨rfl, rfl⟩
      · have g38 := xf_ge h38
        rw [e73] at g38
        have hlt := xnlt g38 (by omega) (by omega)
        refine xS.s1 rfl rfl ?_
        try dsimp only [Nat.reduceAdd]
        refine xS.gR rfl rfl rfl ⟨by decide, rfl⟩ rfl ?_
        try dsimp only [Nat.reduceAdd]
        refine xS.s1 rfl rfl ?_
        try dsimp only [Nat.reduceAdd, xj_40]
        refine xS.s1 rfl rfl ?_
        try dsimp only [Nat.reduceAdd]
        refine xS.s1 rfl rfl ?_
        try dsimp only [Nat.reduceAdd]
        refine xS.s1 rfl rfl ?_
        try dsimp only [Nat.reduceAdd]
        refine xS.s1 rfl rfl ?_
        try dsimp only [Nat.reduceAdd]
        refine xS.s1 rfl rfl ?_
        try dsimp only [Nat.reduceAdd]
        refine xS.gR rfl rfl rfl ⟨by decide, rfl⟩ rfl ?_
        try dsimp only [Nat.reduceAdd]
        refine xS.s1 rfl rfl ?_
        try dsimp only [Nat.reduceAdd]
        refine xS.ia rfl xar_84 (by omega) ?_
        try dsimp only [Nat.reduceAdd]
        rw [e84]
        rw [show (((40 * nI t) + nI j) : Int32) = nI ((40 * t) + j) from by simp only [← nI_add, ← pk_mul]; rfl]
        refine xS.ias rfl xar_87 (by omega) ?_
        try dsimp only [Nat.reduceAdd]
        rw [gseg_un (by decide), gseg_s]
        refine xS.s1 rfl rfl ?_
        try dsimp only [Nat.reduceAdd]
        refine xS.gR rfl rfl rfl ⟨by decide, rfl⟩ rfl ?_
        try dsimp only [Nat.reduceAdd]
        refine xS.s1 rfl rfl ?_
        try dsimp only [Nat.reduceAdd, xj_40]
        refine xS.s1 rfl rfl ?_
        try dsimp only [Nat.reduceAdd]
        refine xS.s1 rfl rfl ?_
        try dsimp only [Nat.reduceAdd]
        refine xS.s1 rfl rfl ?_
        try dsimp only [Nat.reduceAdd]
        refine xS.s1 rfl rfl ?_
        try dsimp only [Nat.reduceAdd]
        refine xS.s1 rfl rfl ?_
        try dsimp only [Nat.reduceAdd]
        refine xS.gR rfl rfl rfl ⟨by decide, rfl⟩ rfl ?_
        try dsimp only [Nat.reduceAdd]
        refine xS.s1 rfl rfl ?_
        try dsimp only [Nat.reduceAdd]
        refine xS.ia rfl xar_85 (by omega) ?_
        try dsimp only [Nat.reduceAdd]
        rw [gseg_na (by decide), gseg_na (by decide), up_na (by decide)]
        rw [show (((40 * nI t) + nI j) : Int32) = nI ((40 * t) + j) from by simp only [← nI_add, ← pk_mul]; rfl]
        refine xS.ias rfl xar_88 (by omega) ?_
        try dsimp only [Nat.reduceAdd]
        rw [gseg_s]
        refine xS.s1 rfl rfl ?_
        try dsimp only [Nat.reduceAdd, xi_1]
        rw [nI_1]
        refine xS.s1 rfl rfl ?_
        try dsimp only [Nat.reduceAdd]
        refine xS.pick [0, 1, 2] rfl ?_
        exact ih () (by omega) trivial
    · have g15 := xf_ne h15
      exact absurd g15 hg
  · have g6 := xf_ne h6
    exfalso; first | exact absurd g6 (by decide) | (simp (disch := omega) only [Int32.lt_iff_toInt_lt, Int32.le_iff_toInt_le, nI_toInt, Int32.reduceToInt] at g6 <;> omega)

set_option maxRecDepth 10000 in
theorem c_X12_on_bad (hx : ¬ (0 ≤ x ∧ x < 3)) : xT (k + 2) 198 [.ref 73, .int x] (xH b g l) (fun r M' => M' = xH b g l ∧ r = some (.int (-1))) := by
  refine xT.of rfl (Nat.le_of_ble_eq_true rfl) ?_
  change xS _ _ 0 [(0, .ref 73), (1, .int x)] [] _ _
  refine xS.s1 rfl rfl ?_
  try dsimp only [Nat.reduceAdd]
  refine xS.s1 rfl rfl ?_
  try dsimp only [Nat.reduceAdd, xi_0]
  refine xS.s1 rfl rfl ?_
  try dsimp only [Nat.reduceAdd, xi_2]
  -- 3 yX12_in
  refine xS.callS rfl rfl rfl ⟨Nat.le_of_ble_eq_true rfl, rfl⟩ c_in_x (fun v M1 hv => ?_)
  rw [hv.1, hv.2]
  clear hv M1 v
  try dsimp only [Nat.reduceAdd, Option.toList, List.cons_append, List.nil_append, List.drop]
  refine xS.br0 (c := .ne) (off := 5) (l := 3) rfl rfl (fun h6 => ?_) (fun h6 => ?_)
  · have g6 := xt_ne h6
    exact absurd (xin2.mp (xif1 g6)) hx
  · have g6 := xf_ne h6
    refine xS.s1 rfl rfl ?_
    try dsimp only [Nat.reduceAdd, xi_m1]
    refine xS.ret rfl rfl rfl (fun _ _ => rfl) ?_
    exact ⟨rfl, rfl⟩

set_option maxRecDepth 10000 in
theorem c_X12_on_no (ht : t < 3) (hs : g 86 t = -1) : xT (k + 2) 198 [.ref 73, .int (nI t)] (xH b g l) (fun r M' => M' = xH b (xfR g 1) l ∧ r = some (.int (-3))) := by
  refine xT.of rfl (Nat.le_of_ble_eq_true rfl) ?_
  change xS _ _ 0 [(0, .ref 73), (1, .int (nI t))] [] _ _
  refine xS.s1 rfl rfl ?_
  try dsimp only [Nat.reduceAdd]
  refine xS.s1 rfl rfl ?_
  try dsimp only [Nat.reduceAdd, xi_0]
  refine xS.s1 rfl rfl ?_
  try dsimp only [Nat.reduceAdd, xi_2]
  -- 3 yX12_in
  refine xS.callS rfl rfl rfl ⟨Nat.le_of_ble_eq_true rfl, rfl⟩ (c_in_n1 (s := 0) (m := 2) (by omega) (by omega) (by decide)) (fun v M1 hv => ?_)
  rw [hv.1, hv.2]
  clear hv M1 v
  try dsimp only [Nat.reduceAdd, Option.toList, List.cons_append, List.nil_append, List.drop]
  refine xS.br0 (c := .ne) (off := 5) (l := 3) rfl rfl (fun h6 => ?_) (fun h6 => ?_)
  · have g6 := xt_ne h6
    refine xS.s1 rfl rfl ?_
    try dsimp only [Nat.reduceAdd]
    refine xS.gR rfl rfl rfl ⟨by decide, rfl⟩ rfl ?_
    try dsimp only [Nat.reduceAdd]
    refine xS.s1 rfl rfl ?_
    try dsimp only [Nat.reduceAdd]
    refine xS.ia rfl xar_86 (by omega) ?_
    try dsimp only [Nat.reduceAdd]
    refine xS.br0 (c := .ge) (off := 9) (l := 3) rfl rfl (fun h17 => ?_) (fun h17 => ?_)
    · have g17 := xt_ge h17
      exfalso; rw [hs] at g17; exact absurd g17 (by decide)
    · have g17 := xf_ge h17
      refine xS.s1 rfl rfl ?_
      try dsimp only [Nat.reduceAdd]
      refine xS.s1 rfl rfl ?_
      try dsimp only [Nat.reduceAdd, xi_1]
      -- 22 yX12_finds
      refine xS.cv rfl rfl rfl rfl rfl rfl ⟨by decide, rfl, rfl⟩ (c_X12_finds (t := 1) (by decide)) (fun v M1 hv => ?_)
      rw [hv.1, hv.2]
      clear hv M1 v
      try dsimp only [Nat.reduceAdd, Option.toList, List.cons_append, List.nil_append, List.drop]
      refine xS.ret rfl rfl rfl (fun _ _ => rfl) ?_
      exact ⟨rfl, rfl⟩
  · have g6 := xf_ne h6
    exfalso; first | exact absurd g6 (by decide) | (simp (disch := omega) only [Int32.lt_iff_toInt_lt, Int32.le_iff_toInt_le, nI_toInt, Int32.reduceToInt] at g6 <;> omega)

set_option maxRecDepth 10000 in
theorem c_X12_on_ok (ht : t < 3) (hs : g 86 t = nI m) (hm : m ≤ 40) : xT (k + 2) 198 [.ref 73, .int (nI t)] (xH b g l) (fun r M' => M' = xH b (gset (gset (up g 73 14 (nI m)) 84 m (fun d => g 87 (40 * t + d))) 85 m (fun d => g 88 (40 * t + d))) l ∧ r = some (.int (nI m))) := by
  refine xT.of rfl (Nat.le_of_ble_eq_true rfl) ?_
  change xS _ _ 0 [(0, .ref 73), (1, .int (nI t))] [] _ _
  refine xS.s1 rfl rfl ?_
  try dsimp only [Nat.reduceAdd]
  refine xS.s1 rfl rfl ?_
  try dsimp only [Nat.reduceAdd, xi_0]
  refine xS.s1 rfl rfl ?_
  try dsimp only [Nat.reduceAdd, xi_2]
  -- 3 yX12_in
  refine xS.callS rfl rfl rfl ⟨Nat.le_of_ble_eq_true rfl, rfl⟩ (c_in_n1 (s := 0) (m := 2) (by omega) (by omega) (by decide)) (fun v M1 hv => ?_)
  rw [hv.1, hv.2]
  clear hv M1 v
  try dsimp only [Nat.reduceAdd, Option.toList, List.cons_append, List.nil_append, List.drop]
  refine xS.br0 (c := .ne) (off := 5) (l := 3) rfl rfl (fun h6 => ?_) (fun h6 => ?_)
  · have g6 := xt_ne h6
    refine xS.s1 rfl rfl ?_
    try dsimp only [Nat.reduceAdd]
    refine xS.gR rfl rfl rfl ⟨by decide, rfl⟩ rfl ?_
    try dsimp only [Nat.reduceAdd]
    refine xS.s1 rfl rfl ?_
    try dsimp only [Nat.reduceAdd]
    refine xS.ia rfl xar_86 (by omega) ?_
    try dsimp only [Nat.reduceAdd]
    refine xS.br0 (c := .ge) (off := 9) (l := 3) rfl rfl (fun h17 => ?_) (fun h17 => ?_)
    · have g17 := xt_ge h17
      refine xS.s1 rfl rfl ?_
      try dsimp only [Nat.reduceAdd]
      refine xS.s1 rfl rfl ?_
      try dsimp only [Nat.reduceAdd]
      refine xS.gR rfl rfl rfl ⟨by decide, rfl⟩ rfl ?_
      try dsimp only [Nat.reduceAdd]
      refine xS.s1 rfl rfl ?_
      try dsimp only [Nat.reduceAdd]
      refine xS.ia rfl xar_86 (by omega) ?_
      try dsimp only [Nat.reduceAdd]
      rw [hs]
      refine xS.pI rfl rfl rfl ⟨⟨by decide, rfl⟩, rfl, by decide, by decide⟩ rfl ?_
      try dsimp only [Nat.reduceAdd]
      refine xS.s1 rfl rfl ?_
      try dsimp only [Nat.reduceAdd, xi_0]
      refine xS.s1 rfl rfl ?_
      try dsimp only [Nat.reduceAdd]
      refine xS.pick [0, 1, 2] rfl ?_
      refine xS.loop (σ := Unit) (m) (fun j S => [(2, .int (nI j)), (0, .ref 73), (1, .int (nI t))]) (fun j _ => xH b (gset (gset (up g 73 14 (nI m)) 84 j (fun d => g 87 (40 * t + d))) 85 j (fun d => g 88 (40 * t + d))) l) (fun _ _ => True) (()) (rfl) (by rw [gset_0, gset_0]) (trivial) ?_
      intro j S hj hI ih
      try dsimp only
      have e87 : (gset (gset (up g 73 14 (nI m)) 84 j (fun d => g 87 (40 * t + d))) 85 j (fun d => g 88 (40 * t + d))) 87 = g 87 := by rw [gset_na (by decide), gset_na (by decide), up_na (by decide)]
      have e73 : (gset (gset (up g 73 14 (nI m)) 84 j (fun d => g 87 (40 * t + d))) 85 j (fun d => g 88 (40 * t + d))) 73 14 = nI m := by rw [gset_na (by decide), gset_na (by decide), up_same]
      refine xS.s1 rfl rfl ?_
      try dsimp only [Nat.reduceAdd]
      refine xS.s1 rfl rfl ?_
      try dsimp only [Nat.reduceAdd]
      refine xS.gI rfl rfl rfl ⟨by decide, rfl⟩ rfl ?_
      try dsimp only [Nat.reduceAdd]
      refine xS.br (c := .ge) (off := 43) (l := 3) rfl rfl (fun h43 => ?_) (fun h43 => ?_)
      · have g43 := xt_ge h43
        rw [e73] at g43
        have e := xnle g43 (by omega) (by omega)
        have e2 : m = j := by omega
        subst e2
        refine xS.s1 rfl rfl ?_
        try dsimp only [Nat.reduceAdd]
        refine xS.gI rfl rfl rfl ⟨by decide, rfl⟩ rfl ?_
        try dsimp only [Nat.reduceAdd]
        refine xS.ret rfl rfl rfl (fun _ _ => rfl) ?_
        rw [e73]
        exact ⟨rfl, rfl⟩
      · have g43 := xf_ge h43
        rw [e73] at g43
        have hlt := xnlt g43 (by omega) (by omega)
        refine xS.s1 rfl rfl ?_
        try dsimp only [Nat.reduceAdd]
        refine xS.gR rfl rfl rfl ⟨by decide, rfl⟩ rfl ?_
        try dsimp only [Nat.reduceAdd]
        refine xS.s1 rfl rfl ?_
        try dsimp only [Nat.reduceAdd]
        refine xS.s1 rfl rfl ?_
        try dsimp only [Nat.reduceAdd]
        refine xS.gR rfl rfl rfl ⟨by decide, rfl⟩ rfl ?_
        try dsimp only [Nat.reduceAdd]
        refine xS.s1 rfl rfl ?_
        try dsimp only [Nat.reduceAdd, xj_40]
        refine xS.s1 rfl rfl ?_
        try dsimp only [Nat.reduceAdd]
        refine xS.s1 rfl rfl ?_
        try dsimp only [Nat.reduceAdd]
        refine xS.s1 rfl rfl ?_
        try dsimp only [Nat.reduceAdd]
        refine xS.s1 rfl rfl ?_
        try dsimp only [Nat.reduceAdd]
        rw [show (((40 * nI t) + nI j) : Int32) = nI ((40 * t) + j) from by simp only [← nI_add, ← pk_mul]; rfl]
        refine xS.ia rfl xar_87 (by omega) ?_
        try dsimp only [Nat.reduceAdd]
        rw [e87]
        refine xS.ias rfl xar_84 (by omega) ?_
        try dsimp only [Nat.reduceAdd]
        rw [gset_un (by decide), gset_s (S := fun d => g 87 (40 * t + d))]
        refine xS.s1 rfl rfl ?_
        try dsimp only [Nat.reduceAdd]
        refine xS.gR rfl rfl rfl ⟨by decide, rfl⟩ rfl ?_
        try dsimp only [Nat.reduceAdd]
        refine xS.s1 rfl rfl ?_
        try dsimp only [Nat.reduceAdd]
        refine xS.s1 rfl rfl ?_
        try dsimp only [Nat.reduceAdd]
        refine xS.gR rfl rfl rfl ⟨by decide, rfl⟩ rfl ?_
        try dsimp only [Nat.reduceAdd]
        refine xS.s1 rfl rfl ?_
        try dsimp only [Nat.reduceAdd, xj_40]
        refine xS.s1 rfl rfl ?_
        try dsimp only [Nat.reduceAdd]
        refine xS.s1 rfl rfl ?_
        try dsimp only [Nat.reduceAdd]
        refine xS.s1 rfl rfl ?_
        try dsimp only [Nat.reduceAdd]
        refine xS.s1 rfl rfl ?_
        try dsimp only [Nat.reduceAdd]
        rw [show (((40 * nI t) + nI j) : Int32) = nI ((40 * t) + j) from by simp only [← nI_add, ← pk_mul]; rfl]
        refine xS.ia rfl xar_88 (by omega) ?_
        try dsimp only [Nat.reduceAdd]
        rw [gset_na (by decide), gset_na (by decide), up_na (by decide)]
        refine xS.ias rfl xar_85 (by omega) ?_
        try dsimp only [Nat.reduceAdd]
        rw [gset_s (S := fun d => g 88 (40 * t + d))]
        refine xS.s1 rfl rfl ?_
        try dsimp only [Nat.reduceAdd, xi_1]
        rw [nI_1]
        refine xS.s1 rfl rfl ?_
        try dsimp only [Nat.reduceAdd]
        refine xS.pick [0, 1, 2] rfl ?_
        exact ih () (by omega) trivial
    · have g17 := xf_ge h17
      exfalso; rw [hs] at g17; exact absurd g17 (nI_pos (by omega))
  · have g6 := xf_ne h6
    exfalso; first | exact absurd g6 (by decide) | (simp (disch := omega) only [Int32.lt_iff_toInt_lt, Int32.le_iff_toInt_le, nI_toInt, Int32.reduceToInt] at g6 <;> omega)

set_option maxRecDepth 10000 in
theorem c_X12_layRow (hA : xar a n) (ha : a ≠ 75) (ha2 : a ≠ 74) (hp1 : p < 6) (hm : m ≤ 12) (hmn : m ≤ n) : xT (k + 1) 201 [.ref 73, .int (nI p), .int (nI m), .ref a] (xH b g l) (fun r M' => M' = xH b (gseg (up g 74 p (nI m)) 75 (40 * p) m (g a)) l ∧ r = some (.int (nI m))) := by
  refine xT.of rfl (Nat.le_of_ble_eq_true rfl) ?_
  change xS _ _ 0 [(0, .ref 73), (1, .int (nI p)), (2, .int (nI m)), (3, .ref a)] [] _ _
  refine xS.s1 rfl rfl ?_
  try dsimp only [Nat.reduceAdd]
  refine xS.gR rfl rfl rfl ⟨by decide, rfl⟩ rfl ?_
  try dsimp only [Nat.reduceAdd]
  refine xS.s1 rfl rfl ?_
  try dsimp only [Nat.reduceAdd]
  refine xS.s1 rfl rfl ?_
  try dsimp only [Nat.reduceAdd]
  refine xS.ias rfl xar_74 (by omega) ?_
  try dsimp only [Nat.reduceAdd]
  refine xS.s1 rfl rfl ?_
  try dsimp only [Nat.reduceAdd, xi_0]
  refine xS.s1 rfl rfl ?_
  try dsimp only [Nat.reduceAdd]
  refine xS.pick [0, 1, 2, 3, 4] rfl ?_
  refine xS.loop (σ := Unit) (m) (fun j S => [(4, .int (nI j)), (0, .ref 73), (1, .int (nI p)), (2, .int (nI m)), (3, .ref a)]) (fun j _ => xH b (gseg (up g 74 p (nI m)) 75 (40 * p) j (g a)) l) (fun _ _ => True) (()) (rfl) (by rw [gseg_0]) (trivial) ?_
  intro j S hj hI ih
  try dsimp only
  refine xS.s1 rfl rfl ?_
  try dsimp only [Nat.reduceAdd]
  refine xS.s1 rfl rfl ?_
  try dsimp only [Nat.reduceAdd]
  refine xS.br (c := .ge) (off := 25) (l := 3) rfl rfl (fun h13 => ?_) (fun h13 => ?_)
  · have g13 := xt_ge h13
    have e := xnle g13 (by omega) (by omega)
    have e2 : m = j := by omega
    subst e2
    refine xS.s1 rfl rfl ?_
    try dsimp only [Nat.reduceAdd]
    refine xS.ret rfl rfl rfl (fun _ _ => rfl) ?_
    exact ⟨rfl, rfl⟩
  · have g13 := xf_ge h13
    have hlt := xnlt g13 (by omega) (by omega)
    refine xS.s1 rfl rfl ?_
    try dsimp only [Nat.reduceAdd]
    refine xS.gR rfl rfl rfl ⟨by decide, rfl⟩ rfl ?_
    try dsimp only [Nat.reduceAdd]
    refine xS.s1 rfl rfl ?_
    try dsimp only [Nat.reduceAdd, xj_40]
    refine xS.s1 rfl rfl ?_
    try dsimp only [Nat.reduceAdd]
    refine xS.s1 rfl rfl ?_
    try dsimp only [Nat.reduceAdd]
    refine xS.s1 rfl rfl ?_
    try dsimp only [Nat.reduceAdd]
    refine xS.s1 rfl rfl ?_
    try dsimp only [Nat.reduceAdd]
    refine xS.s1 rfl rfl ?_
    try dsimp only [Nat.reduceAdd]
    refine xS.s1 rfl rfl ?_
    try dsimp only [Nat.reduceAdd]
    refine xS.ia rfl hA (by omega) ?_
    try dsimp only [Nat.reduceAdd]
    rw [gseg_na ha, up_na ha2]
    rw [show (((40 * nI p) + nI j) : Int32) = nI ((40 * p) + j) from by simp only [← nI_add, ← pk_mul]; rfl]
    refine xS.ias rfl xar_75 (by omega) ?_
    try dsimp only [Nat.reduceAdd]
    rw [gseg_s]
    refine xS.s1 rfl rfl ?_
    try dsimp only [Nat.reduceAdd, xi_1]
    rw [nI_1]
    refine xS.s1 rfl rfl ?_
    try dsimp only [Nat.reduceAdd]
    refine xS.pick [0, 1, 2, 3, 4] rfl ?_
    exact ih () (by omega) trivial

set_option maxRecDepth 10000 in
theorem c_X12_takeOut_no (hA : xar a n) (ha : a ≠ 75) (ha2 : a ≠ 74) (hp1 : p < 6) (hs : g 74 p = -1) : xT (k + 3) 199 [.ref 73, .int (nI p), .int (nI t), .ref a] (xH b g l) (fun r M' => M' = xH b (xfR g 1) l ∧ r = some (.int (-3))) := by
  refine xT.of rfl (Nat.le_of_ble_eq_true rfl) ?_
  change xS _ _ 0 [(0, .ref 73), (1, .int (nI p)), (2, .int (nI t)), (3, .ref a)] [] _ _
  refine xS.s1 rfl rfl ?_
  try dsimp only [Nat.reduceAdd]
  refine xS.gR rfl rfl rfl ⟨by decide, rfl⟩ rfl ?_
  try dsimp only [Nat.reduceAdd]
  refine xS.s1 rfl rfl ?_
  try dsimp only [Nat.reduceAdd]
  refine xS.ia rfl xar_74 (by omega) ?_
  try dsimp only [Nat.reduceAdd]
  refine xS.br0 (c := .ge) (off := 9) (l := 3) rfl rfl (fun h6 => ?_) (fun h6 => ?_)
  · have g6 := xt_ge h6
    exfalso; rw [hs] at g6; exact absurd g6 (by decide)
  · have g6 := xf_ge h6
    refine xS.s1 rfl rfl ?_
    try dsimp only [Nat.reduceAdd]
    refine xS.s1 rfl rfl ?_
    try dsimp only [Nat.reduceAdd, xi_1]
    -- 11 yX12_finds
    refine xS.cv rfl rfl rfl rfl rfl rfl ⟨by decide, rfl, rfl⟩ (c_X12_finds (t := 1) (by decide)) (fun v M1 hv => ?_)
    rw [hv.1, hv.2]
    clear hv M1 v
    try dsimp only [Nat.reduceAdd, Option.toList, List.cons_append, List.nil_append, List.drop]
    refine xS.ret rfl rfl rfl (fun _ _ => rfl) ?_
    exact ⟨rfl, rfl⟩

set_option maxRecDepth 10000 in
theorem c_X12_takeOut_big (hA : xar a n) (ha : a ≠ 75) (ha2 : a ≠ 74) (hp1 : p < 6) (hs : g 74 p = nI m) (hm : m ≤ 40) (ht : t < m) : xT (k + 3) 199 [.ref 73, .int (nI p), .int (nI t), .ref a] (xH b g l) (fun r M' => M' = xH b (xfR g 5) l ∧ r = some (.int (-3))) := by
  refine xT.of rfl (Nat.le_of_ble_eq_true rfl) ?_
  change xS _ _ 0 [(0, .ref 73), (1, .int (nI p)), (2, .int (nI t)), (3, .ref a)] [] _ _
  refine xS.s1 rfl rfl ?_
  try dsimp only [Nat.reduceAdd]
  refine xS.gR rfl rfl rfl ⟨by decide, rfl⟩ rfl ?_
  try dsimp only [Nat.reduceAdd]
  refine xS.s1 rfl rfl ?_
  try dsimp only [Nat.reduceAdd]
  refine xS.ia rfl xar_74 (by omega) ?_
  try dsimp only [Nat.reduceAdd]
  refine xS.br0 (c := .ge) (off := 9) (l := 3) rfl rfl (fun h6 => ?_) (fun h6 => ?_)
  · have g6 := xt_ge h6
    refine xS.s1 rfl rfl ?_
    try dsimp only [Nat.reduceAdd]
    refine xS.gR rfl rfl rfl ⟨by decide, rfl⟩ rfl ?_
    try dsimp only [Nat.reduceAdd]
    refine xS.s1 rfl rfl ?_
    try dsimp only [Nat.reduceAdd]
    refine xS.ia rfl xar_74 (by omega) ?_
    try dsimp only [Nat.reduceAdd]
    refine xS.s1 rfl rfl ?_
    try dsimp only [Nat.reduceAdd]
    refine xS.br (c := .le) (off := 9) (l := 3) rfl rfl (fun h22 => ?_) (fun h22 => ?_)
    · have g22 := xt_le h22
      exfalso; rw [hs] at g22; have := (nI_leI (by omega) (by omega)).mp g22; omega
    · have g22 := xf_le h22
      refine xS.s1 rfl rfl ?_
      try dsimp only [Nat.reduceAdd]
      refine xS.s1 rfl rfl ?_
      try dsimp only [Nat.reduceAdd, xi_5]
      -- 27 yX12_finds
      refine xS.cv rfl rfl rfl rfl rfl rfl ⟨by decide, rfl, rfl⟩ (c_X12_finds (t := 5) (by decide)) (fun v M1 hv => ?_)
      rw [hv.1, hv.2]
      clear hv M1 v
      try dsimp only [Nat.reduceAdd, Option.toList, List.cons_append, List.nil_append, List.drop]
      refine xS.ret rfl rfl rfl (fun _ _ => rfl) ?_
      exact ⟨rfl, rfl⟩
  · have g6 := xf_ge h6
    exfalso; rw [hs] at g6; exact absurd g6 (nI_pos (by omega))

set_option maxRecDepth 10000 in
theorem c_X12_takeOut_ok (hA : xar a n) (ha : a ≠ 75) (ha2 : a ≠ 74) (hp1 : p < 6) (hs : g 74 p = nI m) (hm : m ≤ 40) (ht : m ≤ t) (hmn : m ≤ n) (ht31 : t < 2 ^ 31) (hx : xfst (xnst (fun i => g 75 (40 * p + i))) m = none) : xT (k + 3) 199 [.ref 73, .int (nI p), .int (nI t), .ref a] (xH b g l) (fun r M' => M' = xH b (gset g a m (fun i => g 75 (40 * p + i))) l ∧ r = some (.int 0)) := by
  refine xT.of rfl (Nat.le_of_ble_eq_true rfl) ?_
  change xS _ _ 0 [(0, .ref 73), (1, .int (nI p)), (2, .int (nI t)), (3, .ref a)] [] _ _
  refine xS.s1 rfl rfl ?_
  try dsimp only [Nat.reduceAdd]
  refine xS.gR rfl rfl rfl ⟨by decide, rfl⟩ rfl ?_
  try dsimp only [Nat.reduceAdd]
  refine xS.s1 rfl rfl ?_
  try dsimp only [Nat.reduceAdd]
  refine xS.ia rfl xar_74 (by omega) ?_
  try dsimp only [Nat.reduceAdd]
  refine xS.br0 (c := .ge) (off := 9) (l := 3) rfl rfl (fun h6 => ?_) (fun h6 => ?_)
  · have g6 := xt_ge h6
    refine xS.s1 rfl rfl ?_
    try dsimp only [Nat.reduceAdd]
    refine xS.gR rfl rfl rfl ⟨by decide, rfl⟩ rfl ?_
    try dsimp only [Nat.reduceAdd]
    refine xS.s1 rfl rfl ?_
    try dsimp only [Nat.reduceAdd]
    refine xS.ia rfl xar_74 (by omega) ?_
    try dsimp only [Nat.reduceAdd]
    refine xS.s1 rfl rfl ?_
    try dsimp only [Nat.reduceAdd]
    refine xS.br (c := .le) (off := 9) (l := 3) rfl rfl (fun h22 => ?_) (fun h22 => ?_)
    · have g22 := xt_le h22
      refine xS.s1 rfl rfl ?_
      try dsimp only [Nat.reduceAdd, xi_1]
      refine xS.s1 rfl rfl ?_
      try dsimp only [Nat.reduceAdd]
      refine xS.s1 rfl rfl ?_
      try dsimp only [Nat.reduceAdd, xi_0]
      refine xS.s1 rfl rfl ?_
      try dsimp only [Nat.reduceAdd]
      refine xS.pick [0, 1, 2, 3, 5] rfl ?_
      refine xS.loop (σ := Unit) (m) (fun j S => [(5, .int (nI j)), (4, .int (if xfst (xnst (fun i => g 75 (40 * p + i))) j = none then 1 else 0)), (0, .ref 73), (1, .int (nI p)), (3, .ref a)]) (fun j _ => xH b (gset g a j (fun i => g 75 (40 * p + i))) l) (fun _ _ => True) (()) (rfl) (by rw [gset_0]) (trivial) ?_
      intro j S hj hI ih
      try dsimp only
      have e74 : (gset g a j (fun i => g 75 (40 * p + i))) 74 p = nI m := by rw [gset_na (Ne.symm ha2)]; exact hs
      have e75 : (gset g a j (fun i => g 75 (40 * p + i))) 75 = g 75 := gset_na (Ne.symm ha)
      refine xS.s1 rfl rfl ?_
      try dsimp only [Nat.reduceAdd]
      refine xS.s1 rfl rfl ?_
      try dsimp only [Nat.reduceAdd]
      refine xS.gR rfl rfl rfl ⟨by decide, rfl⟩ rfl ?_
      try dsimp only [Nat.reduceAdd]
      refine xS.s1 rfl rfl ?_
      try dsimp only [Nat.reduceAdd]
      refine xS.ia rfl xar_74 (by omega) ?_
      try dsimp only [Nat.reduceAdd]
      refine xS.br (c := .ge) (off := 47) (l := 3) rfl rfl (fun h45 => ?_) (fun h45 => ?_)
      · have g45 := xt_ge h45
        rw [e74] at g45
        have e := xnle g45 (by omega) (by omega)
        have e2 : m = j := by omega
        subst e2
        refine xS.s1 rfl rfl ?_
        try dsimp only [Nat.reduceAdd]
        refine xS.br0 (c := .eq) (off := 7) (l := 3) rfl rfl (fun h94 => ?_) (fun h94 => ?_)
        · have g94 := xt_eq h94
          exact absurd hx (xif0 g94)
        · have g94 := xf_eq h94
          refine xS.s1 rfl rfl ?_
          try dsimp only [Nat.reduceAdd, xi_0]
          refine xS.s1 rfl rfl ?_
          try dsimp only [Nat.reduceAdd]
          refine xS.ret rfl rfl rfl (fun _ _ => rfl) ?_
          exact ⟨rfl, rfl⟩
      · have g45 := xf_ge h45
        rw [e74] at g45
        have hlt := xnlt g45 (by omega) (by omega)
        refine xS.s1 rfl rfl ?_
        try dsimp only [Nat.reduceAdd]
        refine xS.s1 rfl rfl ?_
        try dsimp only [Nat.reduceAdd]
        refine xS.s1 rfl rfl ?_
        try dsimp only [Nat.reduceAdd]
        refine xS.gR rfl rfl rfl ⟨by decide, rfl⟩ rfl ?_
        try dsimp only [Nat.reduceAdd]
        refine xS.s1 rfl rfl ?_
        try dsimp only [Nat.reduceAdd, xj_40]
        refine xS.s1 rfl rfl ?_
        try dsimp only [Nat.reduceAdd]
        refine xS.s1 rfl rfl ?_
        try dsimp only [Nat.reduceAdd]
        refine xS.s1 rfl rfl ?_
        try dsimp only [Nat.reduceAdd]
        refine xS.s1 rfl rfl ?_
        try dsimp only [Nat.reduceAdd]
        rw [show (((40 * nI p) + nI j) : Int32) = nI ((40 * p) + j) from by simp only [← nI_add, ← pk_mul]; rfl]
        refine xS.ia rfl xar_75 (by omega) ?_
        try dsimp only [Nat.reduceAdd]
        rw [e75]
        refine xS.ias rfl hA (by omega) ?_
        try dsimp only [Nat.reduceAdd]
        rw [gset_s (S := (fun i => g 75 (40 * p + i)))]
        refine xS.s1 rfl rfl ?_
        try dsimp only [Nat.reduceAdd]
        refine xS.br0 (c := .eq) (off := 17) (l := 3) rfl rfl (fun h66 => ?_) (fun h66 => ?_)
        · have g66 := xt_eq h66
          refine xS.s1 rfl rfl ?_
          try dsimp only [Nat.reduceAdd, xi_0]
          refine xS.s1 rfl rfl ?_
          try dsimp only [Nat.reduceAdd]
          refine xS.s1 rfl rfl ?_
          try dsimp only [Nat.reduceAdd, xi_1]
          rw [nI_1]
          refine xS.s1 rfl rfl ?_
          try dsimp only [Nat.reduceAdd]
          refine xS.pick [0, 1, 2, 3, 4] rfl ?_
          have ih2 := ih () (by omega) trivial
          have e66 := xif0 g66
          rw [if_neg (by rw [xfst_k e66]; exact e66)] at ih2
          exact ih2
        · have g66 := xf_eq h66
          refine xS.s1 rfl rfl ?_
          try dsimp only [Nat.reduceAdd]
          refine xS.s1 rfl rfl ?_
          try dsimp only [Nat.reduceAdd]
          refine xS.ia rfl hA (by omega) ?_
          try dsimp only [Nat.reduceAdd]
          rw [gset_in (by omega)]
          -- 73 yX12_isStep
          refine xS.callS rfl rfl rfl ⟨Nat.le_of_ble_eq_true rfl, rfl⟩ c_X12_isStep (fun v M1 hv => ?_)
          rw [hv.1, hv.2]
          clear hv M1 v
          try dsimp only [Nat.reduceAdd, Option.toList, List.cons_append, List.nil_append, List.drop]
          refine xS.br0 (c := .eq) (off := 7) (l := 3) rfl rfl (fun h76 => ?_) (fun h76 => ?_)
          · have g76 := xt_eq h76
            refine xS.s1 rfl rfl ?_
            try dsimp only [Nat.reduceAdd, xi_0]
            refine xS.s1 rfl rfl ?_
            try dsimp only [Nat.reduceAdd]
            refine xS.s1 rfl rfl ?_
            try dsimp only [Nat.reduceAdd, xi_1]
            rw [nI_1]
            refine xS.s1 rfl rfl ?_
            try dsimp only [Nat.reduceAdd]
            refine xS.pick [0, 1, 2, 3, 4] rfl ?_
            have ih2 := ih () (by omega) trivial
            have e66 := xif1 g66
            rw [if_neg (by rw [xfst_c e66 (by simp [xnst, xif0 g76])]; exact fun z => by cases z)] at ih2
            exact ih2
          · have g76 := xf_eq h76
            refine xS.s1 rfl rfl ?_
            try dsimp only [Nat.reduceAdd, xi_1]
            refine xS.s1 rfl rfl ?_
            try dsimp only [Nat.reduceAdd]
            refine xS.s1 rfl rfl ?_
            try dsimp only [Nat.reduceAdd]
            refine xS.s1 rfl rfl ?_
            try dsimp only [Nat.reduceAdd, xi_1]
            rw [nI_1]
            refine xS.s1 rfl rfl ?_
            try dsimp only [Nat.reduceAdd]
            refine xS.pick [0, 1, 2, 3, 4] rfl ?_
            have ih2 := ih () (by omega) trivial
            have e66 := xif1 g66
            rw [if_pos (xfst_n e66 (by simp [xnst, xif1 g76]))] at ih2
            exact ih2
    · have g22 := xf_le h22
      exfalso; rw [hs] at g22; have := (nI_ltI (by omega) (by omega)).mp g22; omega
  · have g6 := xf_ge h6
    exfalso; rw [hs] at g6; exact absurd g6 (nI_pos (by omega))

set_option maxRecDepth 10000 in
theorem c_X12_takeOut_unl (hA : xar a n) (ha : a ≠ 75) (ha2 : a ≠ 74) (hp1 : p < 6) (hs : g 74 p = nI m) (hm : m ≤ 40) (ht : m ≤ t) (hmn : m ≤ n) (ht31 : t < 2 ^ 31) (hx : ¬ xfst (xnst (fun i => g 75 (40 * p + i))) m = none) : xT (k + 3) 199 [.ref 73, .int (nI p), .int (nI t), .ref a] (xH b g l) (fun r M' => M' = xH b (xfR (gset g a m (fun i => g 75 (40 * p + i))) 3) l ∧ r = some (.int (-3))) := by
  refine xT.of rfl (Nat.le_of_ble_eq_true rfl) ?_
  change xS _ _ 0 [(0, .ref 73), (1, .int (nI p)), (2, .int (nI t)), (3, .ref a)] [] _ _
  refine xS.s1 rfl rfl ?_
  try dsimp only [Nat.reduceAdd]
  refine xS.gR rfl rfl rfl ⟨by decide, rfl⟩ rfl ?_
  try dsimp only [Nat.reduceAdd]
  refine xS.s1 rfl rfl ?_
  try dsimp only [Nat.reduceAdd]
  refine xS.ia rfl xar_74 (by omega) ?_
  try dsimp only [Nat.reduceAdd]
  refine xS.br0 (c := .ge) (off := 9) (l := 3) rfl rfl (fun h6 => ?_) (fun h6 => ?_)
  · have g6 := xt_ge h6
    refine xS.s1 rfl rfl ?_
    try dsimp only [Nat.reduceAdd]
    refine xS.gR rfl rfl rfl ⟨by decide, rfl⟩ rfl ?_
    try dsimp only [Nat.reduceAdd]
    refine xS.s1 rfl rfl ?_
    try dsimp only [Nat.reduceAdd]
    refine xS.ia rfl xar_74 (by omega) ?_
    try dsimp only [Nat.reduceAdd]
    refine xS.s1 rfl rfl ?_
    try dsimp only [Nat.reduceAdd]
    refine xS.br (c := .le) (off := 9) (l := 3) rfl rfl (fun h22 => ?_) (fun h22 => ?_)
    · have g22 := xt_le h22
      refine xS.s1 rfl rfl ?_
      try dsimp only [Nat.reduceAdd, xi_1]
      refine xS.s1 rfl rfl ?_
      try dsimp only [Nat.reduceAdd]
      refine xS.s1 rfl rfl ?_
      try dsimp only [Nat.reduceAdd, xi_0]
      refine xS.s1 rfl rfl ?_
      try dsimp only [Nat.reduceAdd]
      refine xS.pick [0, 1, 2, 3, 5] rfl ?_
      refine xS.loop (σ := Unit) (m) (fun j S => [(5, .int (nI j)), (4, .int (if xfst (xnst (fun i => g 75 (40 * p + i))) j = none then 1 else 0)), (0, .ref 73), (1, .int (nI p)), (3, .ref a)]) (fun j _ => xH b (gset g a j (fun i => g 75 (40 * p + i))) l) (fun _ _ => True) (()) (rfl) (by rw [gset_0]) (trivial) ?_
      intro j S hj hI ih
      try dsimp only
      have e74 : (gset g a j (fun i => g 75 (40 * p + i))) 74 p = nI m := by rw [gset_na (Ne.symm ha2)]; exact hs
      have e75 : (gset g a j (fun i => g 75 (40 * p + i))) 75 = g 75 := gset_na (Ne.symm ha)
      refine xS.s1 rfl rfl ?_
      try dsimp only [Nat.reduceAdd]
      refine xS.s1 rfl rfl ?_
      try dsimp only [Nat.reduceAdd]
      refine xS.gR rfl rfl rfl ⟨by decide, rfl⟩ rfl ?_
      try dsimp only [Nat.reduceAdd]
      refine xS.s1 rfl rfl ?_
      try dsimp only [Nat.reduceAdd]
      refine xS.ia rfl xar_74 (by omega) ?_
      try dsimp only [Nat.reduceAdd]
      refine xS.br (c := .ge) (off := 47) (l := 3) rfl rfl (fun h45 => ?_) (fun h45 => ?_)
      · have g45 := xt_ge h45
        rw [e74] at g45
        have e := xnle g45 (by omega) (by omega)
        have e2 : m = j := by omega
        subst e2
        refine xS.s1 rfl rfl ?_
        try dsimp only [Nat.reduceAdd]
        refine xS.br0 (c := .eq) (off := 7) (l := 3) rfl rfl (fun h94 => ?_) (fun h94 => ?_)
        · have g94 := xt_eq h94
          refine xS.s1 rfl rfl ?_
          try dsimp only [Nat.reduceAdd]
          refine xS.s1 rfl rfl ?_
          try dsimp only [Nat.reduceAdd, xi_3]
          -- 103 yX12_finds
          refine xS.cv rfl rfl rfl rfl rfl rfl ⟨by decide, rfl, rfl⟩ (c_X12_finds (t := 3) (by decide)) (fun v M1 hv => ?_)
          rw [hv.1, hv.2]
          clear hv M1 v
          try dsimp only [Nat.reduceAdd, Option.toList, List.cons_append, List.nil_append, List.drop]
          refine xS.ret rfl rfl rfl (fun _ _ => rfl) ?_
          exact ⟨rfl, rfl⟩
        · have g94 := xf_eq h94
          exact absurd (xif1 g94) hx
      · have g45 := xf_ge h45
        rw [e74] at g45
        have hlt := xnlt g45 (by omega) (by omega)
        refine xS.s1 rfl rfl ?_
        try dsimp only [Nat.reduceAdd]
        refine xS.s1 rfl rfl ?_
        try dsimp only [Nat.reduceAdd]
        refine xS.s1 rfl rfl ?_
        try dsimp only [Nat.reduceAdd]
        refine xS.gR rfl rfl rfl ⟨by decide, rfl⟩ rfl ?_
        try dsimp only [Nat.reduceAdd]
        refine xS.s1 rfl rfl ?_
        try dsimp only [Nat.reduceAdd, xj_40]
        refine xS.s1 rfl rfl ?_
        try dsimp only [Nat.reduceAdd]
        refine xS.s1 rfl rfl ?_
        try dsimp only [Nat.reduceAdd]
        refine xS.s1 rfl rfl ?_
        try dsimp only [Nat.reduceAdd]
        refine xS.s1 rfl rfl ?_
        try dsimp only [Nat.reduceAdd]
        rw [show (((40 * nI p) + nI j) : Int32) = nI ((40 * p) + j) from by simp only [← nI_add, ← pk_mul]; rfl]
        refine xS.ia rfl xar_75 (by omega) ?_
        try dsimp only [Nat.reduceAdd]
        rw [e75]
        refine xS.ias rfl hA (by omega) ?_
        try dsimp only [Nat.reduceAdd]
        rw [gset_s (S := (fun i => g 75 (40 * p + i)))]
        refine xS.s1 rfl rfl ?_
        try dsimp only [Nat.reduceAdd]
        refine xS.br0 (c := .eq) (off := 17) (l := 3) rfl rfl (fun h66 => ?_) (fun h66 => ?_)
        · have g66 := xt_eq h66
          refine xS.s1 rfl rfl ?_
          try dsimp only [Nat.reduceAdd, xi_0]
          refine xS.s1 rfl rfl ?_
          try dsimp only [Nat.reduceAdd]
          refine xS.s1 rfl rfl ?_
          try dsimp only [Nat.reduceAdd, xi_1]
          rw [nI_1]
          refine xS.s1 rfl rfl ?_
          try dsimp only [Nat.reduceAdd]
          refine xS.pick [0, 1, 2, 3, 4] rfl ?_
          have ih2 := ih () (by omega) trivial
          have e66 := xif0 g66
          rw [if_neg (by rw [xfst_k e66]; exact e66)] at ih2
          exact ih2
        · have g66 := xf_eq h66
          refine xS.s1 rfl rfl ?_
          try dsimp only [Nat.reduceAdd]
          refine xS.s1 rfl rfl ?_
          try dsimp only [Nat.reduceAdd]
          refine xS.ia rfl hA (by omega) ?_
          try dsimp only [Nat.reduceAdd]
          rw [gset_in (by omega)]
          -- 73 yX12_isStep
          refine xS.callS rfl rfl rfl ⟨Nat.le_of_ble_eq_true rfl, rfl⟩ c_X12_isStep (fun v M1 hv => ?_)
          rw [hv.1, hv.2]
          clear hv M1 v
          try dsimp only [Nat.reduceAdd, Option.toList, List.cons_append, List.nil_append, List.drop]
          refine xS.br0 (c := .eq) (off := 7) (l := 3) rfl rfl (fun h76 => ?_) (fun h76 => ?_)
          · have g76 := xt_eq h76
            refine xS.s1 rfl rfl ?_
            try dsimp only [Nat.reduceAdd, xi_0]
            refine xS.s1 rfl rfl ?_
            try dsimp only [Nat.reduceAdd]
            refine xS.s1 rfl rfl ?_
            try dsimp only [Nat.reduceAdd, xi_1]
            rw [nI_1]
            refine xS.s1 rfl rfl ?_
            try dsimp only [Nat.reduceAdd]
            refine xS.pick [0, 1, 2, 3, 4] rfl ?_
            have ih2 := ih () (by omega) trivial
            have e66 := xif1 g66
            rw [if_neg (by rw [xfst_c e66 (by simp [xnst, xif0 g76])]; exact fun z => by cases z)] at ih2
            exact ih2
          · have g76 := xf_eq h76
            refine xS.s1 rfl rfl ?_
            try dsimp only [Nat.reduceAdd, xi_1]
            refine xS.s1 rfl rfl ?_
            try dsimp only [Nat.reduceAdd]
            refine xS.s1 rfl rfl ?_
            try dsimp only [Nat.reduceAdd]
            refine xS.s1 rfl rfl ?_
            try dsimp only [Nat.reduceAdd, xi_1]
            rw [nI_1]
            refine xS.s1 rfl rfl ?_
            try dsimp only [Nat.reduceAdd]
            refine xS.pick [0, 1, 2, 3, 4] rfl ?_
            have ih2 := ih () (by omega) trivial
            have e66 := xif1 g66
            rw [if_pos (xfst_n e66 (by simp [xnst, xif1 g76]))] at ih2
            exact ih2
    · have g22 := xf_le h22
      exfalso; rw [hs] at g22; have := (nI_ltI (by omega) (by omega)).mp g22; omega
  · have g6 := xf_ge h6
    exfalso; rw [hs] at g6; exact absurd g6 (nI_pos (by omega))

end
end
