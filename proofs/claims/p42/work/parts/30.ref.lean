/-! LimpMirrorModel: rows and texts, what is shown -/
def xfR (g : Nat → Nat → Int32) (t : Nat) : Nat → Nat → Int32 := up (up g 73 23 (nI t)) 89 t (g 89 t + 1)
def gseg (g : Nat → Nat → Int32) (a o n : Nat) (S : Nat → Int32) : Nat → Nat → Int32 := fun a' i' => if a' = a ∧ o ≤ i' ∧ i' < o + n then S (i' - o) else g a' i'
theorem gseg_0 {g : Nat → Nat → Int32} {a o : Nat} {S : Nat → Int32} : gseg g a o 0 S = g := by
  funext a' i'
  exact if_neg (fun h => absurd h.2 (by omega))
theorem gseg_s {g : Nat → Nat → Int32} {a o j : Nat} {S : Nat → Int32} : up (gseg g a o j S) a (o + j) (S j) = gseg g a o (j + 1) S := by
  funext a' i'
  unfold up gseg
  by_cases e : a' = a
  · subst e
    by_cases e2 : i' = o + j
    · subst e2
      rw [if_pos ⟨rfl, rfl⟩, if_pos ⟨rfl, by omega, by omega⟩]
      congr 1
      omega
    · rw [if_neg (fun z => e2 z.2)]
      by_cases e3 : o ≤ i' ∧ i' < o + j
      · rw [if_pos ⟨rfl, e3⟩, if_pos ⟨rfl, by omega, by omega⟩]
      · rw [if_neg (fun z => e3 z.2), if_neg (fun z => e3 ⟨z.2.1, by omega⟩)]
  · rw [if_neg (fun z => e z.1), if_neg (fun z => e z.1), if_neg (fun z => e z.1)]
theorem gseg_na {g : Nat → Nat → Int32} {a o n a' : Nat} {S : Nat → Int32} (h : a' ≠ a) : gseg g a o n S a' = g a' := funext (fun _ => if_neg (fun z => h z.1))
theorem gseg_in {g : Nat → Nat → Int32} {a o n i : Nat} {S : Nat → Int32} (h : i < n) : gseg g a o n S a (o + i) = S i := by
  unfold gseg
  rw [if_pos ⟨rfl, by omega, by omega⟩]
  congr 1
  omega
theorem gseg_out {g : Nat → Nat → Int32} {a o n i : Nat} {S : Nat → Int32} (h : i < o ∨ o + n ≤ i) : gseg g a o n S a i = g a i := if_neg (fun z => by omega)
theorem xinb {x : Int32} {m : Nat} (hm : m < 2 ^ 31) : (0 ≤ x ∧ x ≤ nI m - 1) ↔ (0 ≤ x ∧ x < nI m) := by
  cases m with
  | zero =>
    constructor
    · rintro ⟨h1, h2⟩
      exfalso
      have : nI 0 - 1 = (-1 : Int32) := rfl
      rw [this] at h2
      simp only [Int32.le_iff_toInt_le, Int32.reduceToInt] at h1 h2
      omega
    · rintro ⟨h1, h2⟩
      exfalso
      have : nI 0 = (0 : Int32) := rfl
      rw [this] at h2
      simp only [Int32.le_iff_toInt_le, Int32.lt_iff_toInt_lt, Int32.reduceToInt] at h1 h2
      omega
  | succ m =>
    rw [nI_pred]
    constructor
    · rintro ⟨h1, h2⟩
      obtain ⟨j, hj, rfl⟩ := nI_of (x := x) (Int32.not_lt.mpr h1)
      exact ⟨h1, nI_lt (by have := (nI_leI hj (by omega)).mp h2; omega) hm⟩
    · rintro ⟨h1, h2⟩
      obtain ⟨j, hj, rfl⟩ := nI_of (x := x) (Int32.not_lt.mpr h1)
      exact ⟨h1, nI_le (by have := (nI_ltI hj hm).mp h2; omega) (by omega)⟩
def xRr (g : Nat → Nat → Int32) (h tx : Nat → Int32) (G T : Nat) (Lw : Nat → Nat) : Prop := (g 73 10 = nI G ∧ G ≤ 6) ∧ (g 73 12 = nI T ∧ T ≤ 8) ∧ (∀ k, k < G → g 82 (2 * k) = nI (Lw k / 4) ∧ g 82 (2 * k + 1) = nI (Lw k % 4) ∧ Lw k < 24) ∧ (∀ s, s < 6 → g 81 s = h s ∧ xstp (h s)) ∧ (∀ i, i < 2 * T → g 83 i = tx i)
theorem xRr_fr {g g' : Nat → Nat → Int32} {h tx : Nat → Int32} {G T : Nat} {Lw : Nat → Nat} (h10 : g' 73 10 = g 73 10) (h12 : g' 73 12 = g 73 12) (h81 : g' 81 = g 81) (h82 : g' 82 = g 82) (h83 : g' 83 = g 83) (hR : xRr g h tx G T Lw) : xRr g' h tx G T Lw := by
  unfold xRr at hR ⊢
  rw [h10, h12, h81, h82, h83]
  exact hR
theorem xrem2 {t : Nat} (h : t < 2 ^ 31) : nI t - nI t / 2 * 2 = nI (t % 2) := pk_rem (d := 2) h (by omega) (by omega)

section
variable {k a c n n2 m t p s d i1 j1 : Nat} {b : Nat × Nat} {g : Nat → Nat → Int32} {l : Nat → Nat → Int64} {i j x y z v w : Int32} {u w1 w2 : Int64}
variable {L G T e1 q1 κ δ : Nat} {Lw f : Nat → Nat} {h tx : Nat → Int32}
set_option maxRecDepth 10000 in
theorem c_X12_in  : xT (k + 1) 151 [.int x, .int y, .int z] (xH b g l) (fun r M' => M' = xH b g l ∧ r = some (.int (if y ≤ x ∧ x ≤ z then 1 else 0))) := by
  refine xT.of rfl (Nat.le_of_ble_eq_true rfl) ?_
  change xS _ _ 0 [(0, .int x), (1, .int y), (2, .int z)] [] _ _
  refine xS.s1 rfl rfl ?_
  try dsimp only [Nat.reduceAdd]
  refine xS.s1 rfl rfl ?_
  try dsimp only [Nat.reduceAdd]
  refine xS.br (c := .lt) (off := 12) (l := 3) rfl rfl (fun h2 => ?_) (fun h2 => ?_)
  · have g2 := xt_lt h2
    refine xS.s1 rfl rfl ?_
    try dsimp only [Nat.reduceAdd, xi_0]
    refine xS.ret rfl rfl rfl (fun _ _ => rfl) ?_
    exact ⟨rfl, by split <;> first | rfl | (exfalso; simp only [Int32.le_iff_toInt_le, Int32.lt_iff_toInt_lt, Int32.reduceToInt] at *; omega)⟩
  · have g2 := xf_lt h2
    refine xS.s1 rfl rfl ?_
    try dsimp only [Nat.reduceAdd]
    refine xS.s1 rfl rfl ?_
    try dsimp only [Nat.reduceAdd]
    refine xS.br (c := .gt) (off := 7) (l := 3) rfl rfl (fun h7 => ?_) (fun h7 => ?_)
    · have g7 := xt_gt h7
      refine xS.s1 rfl rfl ?_
      try dsimp only [Nat.reduceAdd, xi_0]
      refine xS.ret rfl rfl rfl (fun _ _ => rfl) ?_
      exact ⟨rfl, by split <;> first | rfl | (exfalso; simp only [Int32.le_iff_toInt_le, Int32.lt_iff_toInt_lt, Int32.reduceToInt] at *; omega)⟩
    · have g7 := xf_gt h7
      refine xS.s1 rfl rfl ?_
      try dsimp only [Nat.reduceAdd, xi_1]
      refine xS.s1 rfl rfl ?_
      try dsimp only [Nat.reduceAdd]
      refine xS.ret rfl rfl rfl (fun _ _ => rfl) ?_
      exact ⟨rfl, by split <;> first | rfl | (exfalso; simp only [Int32.le_iff_toInt_le, Int32.lt_iff_toInt_lt, Int32.reduceToInt] at *; omega)⟩

theorem c_in_m (hm : m < 2 ^ 31) : xT (k + 1) 151 [.int x, .int 0, .int (nI m - 1)] (xH b g l) (fun r M' => M' = xH b g l ∧ r = some (.int (if 0 ≤ x ∧ x < nI m then 1 else 0))) :=
  c_X12_in.weak (fun r M' hr => ⟨hr.1, by rw [hr.2]; simp only [xinb hm]⟩)

theorem c_in_m1 (hm : m < 2 ^ 31) (ht : t < m) : xT (k + 1) 151 [.int (nI t), .int 0, .int (nI m - 1)] (xH b g l) (fun r M' => M' = xH b g l ∧ r = some (.int (1))) :=
  c_X12_in.weak (fun r M' hr => ⟨hr.1, by rw [hr.2]; rw [if_pos ((xinb hm).mpr ⟨nI_pos' (by omega), nI_lt ht hm⟩)]⟩)

theorem c_in_n1 (hs : s ≤ t) (ht : t ≤ m) (hm : m < 2 ^ 31) : xT (k + 1) 151 [.int (nI t), .int (nI s), .int (nI m)] (xH b g l) (fun r M' => M' = xH b g l ∧ r = some (.int (1))) :=
  c_X12_in.weak (fun r M' hr => ⟨hr.1, by rw [hr.2]; rw [if_pos ⟨nI_le hs (by omega), nI_le ht (by omega)⟩]⟩)

theorem xin5 {x : Int32} : (0 ≤ x ∧ x ≤ 5) ↔ (0 ≤ x ∧ x < 6) := by
  simp only [Int32.le_iff_toInt_le, Int32.lt_iff_toInt_lt, Int32.reduceToInt]
  omega
theorem xin3 {x : Int32} : (0 ≤ x ∧ x ≤ 3) ↔ (0 ≤ x ∧ x < 4) := by
  simp only [Int32.le_iff_toInt_le, Int32.lt_iff_toInt_lt, Int32.reduceToInt]
  omega

set_option maxRecDepth 10000 in
theorem c_X12_isRow  : xT (k + 2) 156 [.int x] (xH b g l) (fun r M' => M' = xH b g l ∧ r = some (.int (if 0 ≤ x ∧ x < 6 then 1 else 0))) := by
  refine xT.of rfl (Nat.le_of_ble_eq_true rfl) ?_
  change xS _ _ 0 [(0, .int x)] [] _ _
  refine xS.s1 rfl rfl ?_
  try dsimp only [Nat.reduceAdd]
  refine xS.s1 rfl rfl ?_
  try dsimp only [Nat.reduceAdd, xi_0]
  refine xS.s1 rfl rfl ?_
  try dsimp only [Nat.reduceAdd, xi_5]
  -- 3 yX12_in
  refine xS.callS rfl rfl rfl ⟨Nat.le_of_ble_eq_true rfl, rfl⟩ c_X12_in (fun v M1 hv => ?_)
  rw [hv.1, hv.2]
  clear hv M1 v
  try dsimp only [Nat.reduceAdd, Option.toList, List.cons_append, List.nil_append, List.drop]
  refine xS.retB rfl rfl ?_
  exact ⟨rfl, by simp only [xin5]⟩

theorem c_X12_isRow_in (ht : t < 6) : xT (k + 2) 156 [.int (nI t)] (xH b g l) (fun r M' => M' = xH b g l ∧ r = some (.int 1)) :=
  (c_X12_isRow).weak (fun r M' h => ⟨h.1, by rw [h.2, if_pos ⟨nI_pos' (by omega), nI_lt (b := 6) ht (by omega)⟩]⟩)

set_option maxRecDepth 10000 in
theorem c_X12_isText  : xT (k + 2) 157 [.int x] (xH b g l) (fun r M' => M' = xH b g l ∧ r = some (.int (if 0 ≤ x ∧ x < 4 then 1 else 0))) := by
  refine xT.of rfl (Nat.le_of_ble_eq_true rfl) ?_
  change xS _ _ 0 [(0, .int x)] [] _ _
  refine xS.s1 rfl rfl ?_
  try dsimp only [Nat.reduceAdd]
  refine xS.s1 rfl rfl ?_
  try dsimp only [Nat.reduceAdd, xi_0]
  refine xS.s1 rfl rfl ?_
  try dsimp only [Nat.reduceAdd, xi_3]
  -- 3 yX12_in
  refine xS.callS rfl rfl rfl ⟨Nat.le_of_ble_eq_true rfl, rfl⟩ c_X12_in (fun v M1 hv => ?_)
  rw [hv.1, hv.2]
  clear hv M1 v
  try dsimp only [Nat.reduceAdd, Option.toList, List.cons_append, List.nil_append, List.drop]
  refine xS.retB rfl rfl ?_
  exact ⟨rfl, by simp only [xin3]⟩

theorem c_X12_isText_in (ht : t < 4) : xT (k + 2) 157 [.int (nI t)] (xH b g l) (fun r M' => M' = xH b g l ∧ r = some (.int 1)) :=
  (c_X12_isText).weak (fun r M' h => ⟨h.1, by rw [h.2, if_pos ⟨nI_pos' (by omega), nI_lt (b := 4) ht (by omega)⟩]⟩)

set_option maxRecDepth 10000 in
theorem c_X12_isStep  : xT (k + 2) 179 [.int x] (xH b g l) (fun r M' => M' = xH b g l ∧ r = some (.int (if 0 ≤ x ∧ x < 6 then 1 else 0))) := by
  refine xT.of rfl (Nat.le_of_ble_eq_true rfl) ?_
  change xS _ _ 0 [(0, .int x)] [] _ _
  refine xS.s1 rfl rfl ?_
  try dsimp only [Nat.reduceAdd]
  refine xS.s1 rfl rfl ?_
  try dsimp only [Nat.reduceAdd, xi_0]
  refine xS.s1 rfl rfl ?_
  try dsimp only [Nat.reduceAdd, xi_5]
  -- 3 yX12_in
  refine xS.callS rfl rfl rfl ⟨Nat.le_of_ble_eq_true rfl, rfl⟩ c_X12_in (fun v M1 hv => ?_)
  rw [hv.1, hv.2]
  clear hv M1 v
  try dsimp only [Nat.reduceAdd, Option.toList, List.cons_append, List.nil_append, List.drop]
  refine xS.retB rfl rfl ?_
  exact ⟨rfl, by simp only [xin5]⟩

theorem c_X12_isStep_in (ht : t < 6) : xT (k + 2) 179 [.int (nI t)] (xH b g l) (fun r M' => M' = xH b g l ∧ r = some (.int 1)) :=
  (c_X12_isStep).weak (fun r M' h => ⟨h.1, by rw [h.2, if_pos ⟨nI_pos' (by omega), nI_lt (b := 6) ht (by omega)⟩]⟩)

set_option maxRecDepth 10000 in
theorem c_X12_isGlass (hG : g 73 10 = nI G) (hG6 : G ≤ 6) : xT (k + 2) 178 [.ref 73, .int x] (xH b g l) (fun r M' => M' = xH b g l ∧ r = some (.int (if 0 ≤ x ∧ x < nI G then 1 else 0))) := by
  refine xT.of rfl (Nat.le_of_ble_eq_true rfl) ?_
  change xS _ _ 0 [(0, .ref 73), (1, .int x)] [] _ _
  refine xS.s1 rfl rfl ?_
  try dsimp only [Nat.reduceAdd]
  refine xS.s1 rfl rfl ?_
  try dsimp only [Nat.reduceAdd, xi_0]
  refine xS.s1 rfl rfl ?_
  try dsimp only [Nat.reduceAdd]
  refine xS.gI rfl rfl rfl ⟨by decide, rfl⟩ rfl ?_
  try dsimp only [Nat.reduceAdd]
  rw [hG]
  refine xS.s1 rfl rfl ?_
  try dsimp only [Nat.reduceAdd, xi_1]
  refine xS.s1 rfl rfl ?_
  try dsimp only [Nat.reduceAdd]
  -- 8 yX12_in
  refine xS.callS rfl rfl rfl ⟨Nat.le_of_ble_eq_true rfl, rfl⟩ (c_in_m (by omega)) (fun v M1 hv => ?_)
  rw [hv.1, hv.2]
  clear hv M1 v
  try dsimp only [Nat.reduceAdd, Option.toList, List.cons_append, List.nil_append, List.drop]
  refine xS.retB rfl rfl ?_
  exact ⟨rfl, rfl⟩

theorem c_X12_isGlass_in (hG : g 73 10 = nI G) (hG6 : G ≤ 6) (ht : t < G) : xT (k + 2) 178 [.ref 73, .int (nI t)] (xH b g l) (fun r M' => M' = xH b g l ∧ r = some (.int 1)) :=
  (c_X12_isGlass hG hG6).weak (fun r M' h => ⟨h.1, by rw [h.2, if_pos ⟨nI_pos' (by omega), nI_lt ht (by omega)⟩]⟩)

set_option maxRecDepth 10000 in
theorem c_X12_finds (ht : t < 6) : xT (k + 1) 153 [.ref 73, .int (nI t)] (xH b g l) (fun r M' => M' = xH b (xfR g t) l ∧ r = some (.int (-3))) := by
  refine xT.of rfl (Nat.le_of_ble_eq_true rfl) ?_
  change xS _ _ 0 [(0, .ref 73), (1, .int (nI t))] [] _ _
  refine xS.s1 rfl rfl ?_
  try dsimp only [Nat.reduceAdd]
  refine xS.s1 rfl rfl ?_
  try dsimp only [Nat.reduceAdd]
  refine xS.pI rfl rfl rfl ⟨⟨by decide, rfl⟩, rfl, by decide, by decide⟩ rfl ?_
  try dsimp only [Nat.reduceAdd]
  refine xS.s1 rfl rfl ?_
  try dsimp only [Nat.reduceAdd]
  refine xS.gR rfl rfl rfl ⟨by decide, rfl⟩ rfl ?_
  try dsimp only [Nat.reduceAdd]
  refine xS.s1 rfl rfl ?_
  try dsimp only [Nat.reduceAdd]
  refine xS.s1 rfl rfl ?_
  try dsimp only [Nat.reduceAdd]
  refine xS.ia rfl xar_89 (by omega) ?_
  try dsimp only [Nat.reduceAdd]
  rw [up_ne (Or.inl (by decide))]
  refine xS.s1 rfl rfl ?_
  try dsimp only [Nat.reduceAdd, xi_1]
  refine xS.s1 rfl rfl ?_
  try dsimp only [Nat.reduceAdd]
  refine xS.ias rfl xar_89 (by omega) ?_
  try dsimp only [Nat.reduceAdd]
  refine xS.s1 rfl rfl ?_
  try dsimp only [Nat.reduceAdd, xj_m3]
  refine xS.ret rfl rfl rfl (fun _ _ => rfl) ?_
  exact ⟨rfl, rfl⟩

set_option maxRecDepth 10000 in
theorem c_X12_tells  : xT (k + 1) 154 [.ref 73, .int x] (xH b g l) (fun r M' => M' = xH b (up g 73 20 x) l ∧ r = some (.int 1)) := by
  refine xT.of rfl (Nat.le_of_ble_eq_true rfl) ?_
  change xS _ _ 0 [(0, .ref 73), (1, .int x)] [] _ _
  refine xS.s1 rfl rfl ?_
  try dsimp only [Nat.reduceAdd]
  refine xS.s1 rfl rfl ?_
  try dsimp only [Nat.reduceAdd]
  refine xS.pI rfl rfl rfl ⟨⟨by decide, rfl⟩, rfl, by decide, by decide⟩ rfl ?_
  try dsimp only [Nat.reduceAdd]
  refine xS.s1 rfl rfl ?_
  try dsimp only [Nat.reduceAdd, xi_1]
  refine xS.ret rfl rfl rfl (fun _ _ => rfl) ?_
  exact ⟨rfl, rfl⟩

set_option maxRecDepth 10000 in
theorem c_X12_row_bad (hx : ¬ ((0 ≤ x ∧ x < 6) ∧ y ≤ 40)) : xT (k + 3) 158 [.ref 73, .int x, .int y] (xH b g l) (fun r M' => M' = xH b g l ∧ r = some (.int (-1))) := by
  refine xT.of rfl (Nat.le_of_ble_eq_true rfl) ?_
  change xS _ _ 0 [(0, .ref 73), (1, .int x), (2, .int y)] [] _ _
  refine xS.s1 rfl rfl ?_
  try dsimp only [Nat.reduceAdd]
  -- 1 yX12_isRow
  refine xS.callS rfl rfl rfl ⟨Nat.le_of_ble_eq_true rfl, rfl⟩ c_X12_isRow (fun v M1 hv => ?_)
  rw [hv.1, hv.2]
  clear hv M1 v
  try dsimp only [Nat.reduceAdd, Option.toList, List.cons_append, List.nil_append, List.drop]
  refine xS.br0 (c := .eq) (off := 9) (l := 3) rfl rfl (fun h4 => ?_) (fun h4 => ?_)
  · have g4 := xt_eq h4
    refine xS.s1 rfl rfl ?_
    try dsimp only [Nat.reduceAdd, xi_m1]
    refine xS.ret rfl rfl rfl (fun _ _ => rfl) ?_
    exact ⟨rfl, rfl⟩
  · have g4 := xf_eq h4
    refine xS.s1 rfl rfl ?_
    try dsimp only [Nat.reduceAdd]
    refine xS.s1 rfl rfl ?_
    try dsimp only [Nat.reduceAdd, xj_40]
    refine xS.br (c := .le) (off := 5) (l := 3) rfl rfl (fun h10 => ?_) (fun h10 => ?_)
    · have g10 := xt_le h10
      exact absurd ⟨xif1 g4, g10⟩ hx
    · have g10 := xf_le h10
      refine xS.s1 rfl rfl ?_
      try dsimp only [Nat.reduceAdd, xi_m1]
      refine xS.ret rfl rfl rfl (fun _ _ => rfl) ?_
      exact ⟨rfl, rfl⟩

set_option maxRecDepth 10000 in
theorem c_X12_row_neg (ht : t < 6) (hy : y < 0) : xT (k + 3) 158 [.ref 73, .int (nI t), .int y] (xH b g l) (fun r M' => M' = xH b (xfR g 5) l ∧ r = some (.int (-3))) := by
  refine xT.of rfl (Nat.le_of_ble_eq_true rfl) ?_
  change xS _ _ 0 [(0, .ref 73), (1, .int (nI t)), (2, .int y)] [] _ _
  refine xS.s1 rfl rfl ?_
  try dsimp only [Nat.reduceAdd]
  -- 1 yX12_isRow
  refine xS.callS rfl rfl rfl ⟨Nat.le_of_ble_eq_true rfl, rfl⟩ (c_X12_isRow_in ht) (fun v M1 hv => ?_)
  rw [hv.1, hv.2]
  clear hv M1 v
  try dsimp only [Nat.reduceAdd, Option.toList, List.cons_append, List.nil_append, List.drop]
  refine xS.br0 (c := .eq) (off := 9) (l := 3) rfl rfl (fun h4 => ?_) (fun h4 => ?_)
  · have g4 := xt_eq h4
    exfalso; first | exact absurd g4 (by decide) | (simp (disch := omega) only [Int32.lt_iff_toInt_lt, Int32.le_iff_toInt_le, nI_toInt, Int32.reduceToInt] at g4 <;> omega)
  · have g4 := xf_eq h4
    refine xS.s1 rfl rfl ?_
    try dsimp only [Nat.reduceAdd]
    refine xS.s1 rfl rfl ?_
    try dsimp only [Nat.reduceAdd, xj_40]
    refine xS.br (c := .le) (off := 5) (l := 3) rfl rfl (fun h10 => ?_) (fun h10 => ?_)
    · have g10 := xt_le h10
      refine xS.s1 rfl rfl ?_
      try dsimp only [Nat.reduceAdd]
      refine xS.br0 (c := .ge) (off := 9) (l := 3) rfl rfl (fun h16 => ?_) (fun h16 => ?_)
      · have g16 := xt_ge h16
        exact absurd hy (Int32.not_lt.mpr g16)
      · have g16 := xf_ge h16
        refine xS.s1 rfl rfl ?_
        try dsimp only [Nat.reduceAdd]
        refine xS.s1 rfl rfl ?_
        try dsimp only [Nat.reduceAdd, xi_5]
        -- 21 yX12_finds
        refine xS.cv rfl rfl rfl rfl rfl rfl ⟨by decide, rfl, rfl⟩ (c_X12_finds (t := 5) (by decide)) (fun v M1 hv => ?_)
        rw [hv.1, hv.2]
        clear hv M1 v
        try dsimp only [Nat.reduceAdd, Option.toList, List.cons_append, List.nil_append, List.drop]
        refine xS.ret rfl rfl rfl (fun _ _ => rfl) ?_
        exact ⟨rfl, rfl⟩
    · have g10 := xf_le h10
      exfalso; simp only [Int32.lt_iff_toInt_lt, Int32.le_iff_toInt_le, Int32.reduceToInt] at g10 hy; omega

set_option maxRecDepth 10000 in
theorem c_X12_row_ok (ht : t < 6) (hm : m ≤ 40) : xT (k + 3) 158 [.ref 73, .int (nI t), .int (nI m)] (xH b g l) (fun r M' => M' = xH b (gseg (up g 74 t (nI m)) 75 (40 * t) m (fun _ => 0)) l ∧ r = some (.int (nI m))) := by
  refine xT.of rfl (Nat.le_of_ble_eq_true rfl) ?_
  change xS _ _ 0 [(0, .ref 73), (1, .int (nI t)), (2, .int (nI m))] [] _ _
  refine xS.s1 rfl rfl ?_
  try dsimp only [Nat.reduceAdd]
  -- 1 yX12_isRow
  refine xS.callS rfl rfl rfl ⟨Nat.le_of_ble_eq_true rfl, rfl⟩ (c_X12_isRow_in ht) (fun v M1 hv => ?_)
  rw [hv.1, hv.2]
  clear hv M1 v
  try dsimp only [Nat.reduceAdd, Option.toList, List.cons_append, List.nil_append, List.drop]
  refine xS.br0 (c := .eq) (off := 9) (l := 3) rfl rfl (fun h4 => ?_) (fun h4 => ?_)
  · have g4 := xt_eq h4
    exfalso; first | exact absurd g4 (by decide) | (simp (disch := omega) only [Int32.lt_iff_toInt_lt, Int32.le_iff_toInt_le, nI_toInt, Int32.reduceToInt] at g4 <;> omega)
  · have g4 := xf_eq h4
    refine xS.s1 rfl rfl ?_
    try dsimp only [Nat.reduceAdd]
    refine xS.s1 rfl rfl ?_
    try dsimp only [Nat.reduceAdd, xj_40]
    refine xS.br (c := .le) (off := 5) (l := 3) rfl rfl (fun h10 => ?_) (fun h10 => ?_)
    · have g10 := xt_le h10
      refine xS.s1 rfl rfl ?_
      try dsimp only [Nat.reduceAdd]
      refine xS.br0 (c := .ge) (off := 9) (l := 3) rfl rfl (fun h16 => ?_) (fun h16 => ?_)
      · have g16 := xt_ge h16
        refine xS.s1 rfl rfl ?_
        try dsimp only [Nat.reduceAdd]
        refine xS.gR rfl rfl rfl ⟨by decide, rfl⟩ rfl ?_
        try dsimp only [Nat.reduceAdd]
        refine xS.s1 rfl rfl ?_
        try dsimp only [Nat.reduceAdd]
        refine xS.s1 rfl rfl ?_
        try dsimp only [Nat.reduceAdd]
        refine xS.ias rfl xar_74 (by omega) ?_
        try dsimp only [Nat.reduceAdd]
        refine xS.s1 rfl rfl ?_
        try dsimp only [Nat.reduceAdd, xi_0]
        refine xS.s1 rfl rfl ?_
        try dsimp only [Nat.reduceAdd]
        refine xS.pick [0, 1, 2, 3] rfl ?_
        refine xS.loop (σ := Unit) (m) (fun j S => [(3, .int (nI j)), (0, .ref 73), (1, .int (nI t)), (2, .int (nI m))]) (fun j _ => xH b (gseg (up g 74 t (nI m)) 75 (40 * t) j (fun _ => 0)) l) (fun _ _ => True) (()) (rfl) (by rw [gseg_0]) (trivial) ?_
        intro j S hj hI ih
        try dsimp only
        refine xS.s1 rfl rfl ?_
        try dsimp only [Nat.reduceAdd]
        refine xS.s1 rfl rfl ?_
        try dsimp only [Nat.reduceAdd]
        refine xS.br (c := .ge) (off := 21) (l := 3) rfl rfl (fun h36 => ?_) (fun h36 => ?_)
        · have g36 := xt_ge h36
          have e := xnle g36 (by omega) (by omega)
          have e2 : m = j := by omega
          subst e2
          refine xS.s1 rfl rfl ?_
          try dsimp only [Nat.reduceAdd]
          refine xS.ret rfl rfl rfl (fun _ _ => rfl) ?_
          exact ⟨rfl, rfl⟩
        · have g36 := xf_ge h36
          have hlt := xnlt g36 (by omega) (by omega)
          refine xS.s1 rfl rfl ?_
          try dsimp only [Nat.reduceAdd]
          refine xS.gR rfl rfl rfl ⟨by decide, rfl⟩ rfl ?_
          try dsimp only [Nat.reduceAdd]
          refine xS.s1 rfl rfl ?_
          try dsimp only [Nat.reduceAdd, xj_40]
          refine xS.s1 rfl rfl ?_
          try dsimp only [Nat.reduceAdd]
          refine xS.s1 rfl rfl ?_
          try dsimp only [Nat.reduceAdd]
          refine xS.s1 rfl rfl ?_
          try dsimp only [Nat.reduceAdd]
          refine xS.s1 rfl rfl ?_
          try dsimp only [Nat.reduceAdd]
          refine xS.s1 rfl rfl ?_
          try dsimp only [Nat.reduceAdd, xi_0]
          rw [show (((40 * nI t) + nI j) : Int32) = nI ((40 * t) + j) from by simp only [← nI_add, ← pk_mul]; rfl]
          refine xS.ias rfl xar_75 (by omega) ?_
          try dsimp only [Nat.reduceAdd]
          refine xS.s1 rfl rfl ?_
          try dsimp only [Nat.reduceAdd, xi_1]
          rw [nI_1]
          refine xS.s1 rfl rfl ?_
          try dsimp only [Nat.reduceAdd]
          refine xS.pick [0, 1, 2, 3] rfl ?_
          rw [gseg_s (S := fun _ => 0)]
          exact ih () (by omega) trivial
      · have g16 := xf_ge h16
        exfalso; first | exact absurd g16 (by decide) | (simp (disch := omega) only [Int32.lt_iff_toInt_lt, Int32.le_iff_toInt_le, nI_toInt, Int32.reduceToInt] at g16 <;> omega)
    · have g10 := xf_le h10
      exfalso; first | exact absurd g10 (by decide) | (simp (disch := omega) only [Int32.lt_iff_toInt_lt, Int32.le_iff_toInt_le, nI_toInt, Int32.reduceToInt] at g10 <;> omega)

set_option maxRecDepth 10000 in
theorem c_X12_text_bad (hx : ¬ ((0 ≤ x ∧ x < 4) ∧ y ≤ 60)) : xT (k + 3) 166 [.ref 73, .int x, .int y] (xH b g l) (fun r M' => M' = xH b g l ∧ r = some (.int (-1))) := by
  refine xT.of rfl (Nat.le_of_ble_eq_true rfl) ?_
  change xS _ _ 0 [(0, .ref 73), (1, .int x), (2, .int y)] [] _ _
  refine xS.s1 rfl rfl ?_
  try dsimp only [Nat.reduceAdd]
  -- 1 yX12_isText
  refine xS.callS rfl rfl rfl ⟨Nat.le_of_ble_eq_true rfl, rfl⟩ c_X12_isText (fun v M1 hv => ?_)
  rw [hv.1, hv.2]
  clear hv M1 v
  try dsimp only [Nat.reduceAdd, Option.toList, List.cons_append, List.nil_append, List.drop]
  refine xS.br0 (c := .eq) (off := 9) (l := 3) rfl rfl (fun h4 => ?_) (fun h4 => ?_)
  · have g4 := xt_eq h4
    refine xS.s1 rfl rfl ?_
    try dsimp only [Nat.reduceAdd, xi_m1]
    refine xS.ret rfl rfl rfl (fun _ _ => rfl) ?_
    exact ⟨rfl, rfl⟩
  · have g4 := xf_eq h4
    refine xS.s1 rfl rfl ?_
    try dsimp only [Nat.reduceAdd]
    refine xS.s1 rfl rfl ?_
    try dsimp only [Nat.reduceAdd, xj_60]
    refine xS.br (c := .le) (off := 5) (l := 3) rfl rfl (fun h10 => ?_) (fun h10 => ?_)
    · have g10 := xt_le h10
      exact absurd ⟨xif1 g4, g10⟩ hx
    · have g10 := xf_le h10
      refine xS.s1 rfl rfl ?_
      try dsimp only [Nat.reduceAdd, xi_m1]
      refine xS.ret rfl rfl rfl (fun _ _ => rfl) ?_
      exact ⟨rfl, rfl⟩

set_option maxRecDepth 10000 in
theorem c_X12_text_neg (ht : t < 4) (hy : y < 0) : xT (k + 3) 166 [.ref 73, .int (nI t), .int y] (xH b g l) (fun r M' => M' = xH b (xfR g 5) l ∧ r = some (.int (-3))) := by
  refine xT.of rfl (Nat.le_of_ble_eq_true rfl) ?_
  change xS _ _ 0 [(0, .ref 73), (1, .int (nI t)), (2, .int y)] [] _ _
  refine xS.s1 rfl rfl ?_
  try dsimp only [Nat.reduceAdd]
  -- 1 yX12_isText
  refine xS.callS rfl rfl rfl ⟨Nat.le_of_ble_eq_true rfl, rfl⟩ (c_X12_isText_in ht) (fun v M1 hv => ?_)
  rw [hv.1, hv.2]
  clear hv M1 v
  try dsimp only [Nat.reduceAdd, Option.toList, List.cons_append, List.nil_append, List.drop]
  refine xS.br0 (c := .eq) (off := 9) (l := 3) rfl rfl (fun h4 => ?_) (fun h4 => ?_)
  · have g4 := xt_eq h4
    exfalso; first | exact absurd g4 (by decide) | (simp (disch := omega) only [Int32.lt_iff_toInt_lt, Int32.le_iff_toInt_le, nI_toInt, Int32.reduceToInt] at g4 <;> omega)
  · have g4 := xf_eq h4
    refine xS.s1 rfl rfl ?_
    try dsimp only [Nat.reduceAdd]
    refine xS.s1 rfl rfl ?_
    try dsimp only [Nat.reduceAdd, xj_60]
    refine xS.br (c := .le) (off := 5) (l := 3) rfl rfl (fun h10 => ?_) (fun h10 => ?_)
    · have g10 := xt_le h10
      refine xS.s1 rfl rfl ?_
      try dsimp only [Nat.reduceAdd]
      refine xS.br0 (c := .ge) (off := 9) (l := 3) rfl rfl (fun h16 => ?_) (fun h16 => ?_)
      · have g16 := xt_ge h16
        exact absurd hy (Int32.not_lt.mpr g16)
      · have g16 := xf_ge h16
        refine xS.s1 rfl rfl ?_
        try dsimp only [Nat.reduceAdd]
        refine xS.s1 rfl rfl ?_
        try dsimp only [Nat.reduceAdd, xi_5]
        -- 21 yX12_finds
        refine xS.cv rfl rfl rfl rfl rfl rfl ⟨by decide, rfl, rfl⟩ (c_X12_finds (t := 5) (by decide)) (fun v M1 hv => ?_)
        rw [hv.1, hv.2]
        clear hv M1 v
        try dsimp only [Nat.reduceAdd, Option.toList, List.cons_append, List.nil_append, List.drop]
        refine xS.ret rfl rfl rfl (fun _ _ => rfl) ?_
        exact ⟨rfl, rfl⟩
    · have g10 := xf_le h10
      exfalso; simp only [Int32.lt_iff_toInt_lt, Int32.le_iff_toInt_le, Int32.reduceToInt] at g10 hy; omega

set_option maxRecDepth 10000 in
theorem c_X12_text_ok (ht : t < 4) (hm : m ≤ 60) : xT (k + 3) 166 [.ref 73, .int (nI t), .int (nI m)] (xH b g l) (fun r M' => M' = xH b (gseg (up g 76 t (nI m)) 77 (60 * t) m (fun _ => 32)) l ∧ r = some (.int (nI m))) := by
  refine xT.of rfl (Nat.le_of_ble_eq_true rfl) ?_
  change xS _ _ 0 [(0, .ref 73), (1, .int (nI t)), (2, .int (nI m))] [] _ _
  refine xS.s1 rfl rfl ?_
  try dsimp only [Nat.reduceAdd]
  -- 1 yX12_isText
  refine xS.callS rfl rfl rfl ⟨Nat.le_of_ble_eq_true rfl, rfl⟩ (c_X12_isText_in ht) (fun v M1 hv => ?_)
  rw [hv.1, hv.2]
  clear hv M1 v
  try dsimp only [Nat.reduceAdd, Option.toList, List.cons_append, List.nil_append, List.drop]
  refine xS.br0 (c := .eq) (off := 9) (l := 3) rfl rfl (fun h4 => ?_) (fun h4 => ?_)
  · have g4 := xt_eq h4
    exfalso; first | exact absurd g4 (by decide) | (simp (disch := omega) only [Int32.lt_iff_toInt_lt, Int32.le_iff_toInt_le, nI_toInt, Int32.reduceToInt] at g4 <;> omega)
  · have g4 := xf_eq h4
    refine xS.s1 rfl rfl ?_
    try dsimp only [Nat.reduceAdd]
    refine xS.s1 rfl rfl ?_
    try dsimp only [Nat.reduceAdd, xj_60]
    refine xS.br (c := .le) (off := 5) (l := 3) rfl rfl (fun h10 => ?_) (fun h10 => ?_)
    · have g10 := xt_le h10
      refine xS.s1 rfl rfl ?_
      try dsimp only [Nat.reduceAdd]
      refine xS.br0 (c := .ge) (off := 9) (l := 3) rfl rfl (fun h16 => ?_) (fun h16 => ?_)
      · have g16 := xt_ge h16
        refine xS.s1 rfl rfl ?_
        try dsimp only [Nat.reduceAdd]
        refine xS.gR rfl rfl rfl ⟨by decide, rfl⟩ rfl ?_
        try dsimp only [Nat.reduceAdd]
        refine xS.s1 rfl rfl ?_
        try dsimp only [Nat.reduceAdd]
        refine xS.s1 rfl rfl ?_
        try dsimp only [Nat.reduceAdd]
        refine xS.ias rfl xar_76 (by omega) ?_
        try dsimp only [Nat.reduceAdd]
        refine xS.s1 rfl rfl ?_
        try dsimp only [Nat.reduceAdd, xi_0]
        refine xS.s1 rfl rfl ?_
        try dsimp only [Nat.reduceAdd]
        refine xS.pick [0, 1, 2, 3] rfl ?_
        refine xS.loop (σ := Unit) (m) (fun j S => [(3, .int (nI j)), (0, .ref 73), (1, .int (nI t)), (2, .int (nI m))]) (fun j _ => xH b (gseg (up g 76 t (nI m)) 77 (60 * t) j (fun _ => 32)) l) (fun _ _ => True) (()) (rfl) (by rw [gseg_0]) (trivial) ?_
        intro j S hj hI ih
        try dsimp only
        refine xS.s1 rfl rfl ?_
        try dsimp only [Nat.reduceAdd]
        refine xS.s1 rfl rfl ?_
        try dsimp only [Nat.reduceAdd]
        refine xS.br (c := .ge) (off := 22) (l := 3) rfl rfl (fun h36 => ?_) (fun h36 => ?_)
        · have g36 := xt_ge h36
          have e := xnle g36 (by omega) (by omega)
          have e2 : m = j := by omega
          subst e2
          refine xS.s1 rfl rfl ?_
          try dsimp only [Nat.reduceAdd]
          refine xS.ret rfl rfl rfl (fun _ _ => rfl) ?_
          exact ⟨rfl, rfl⟩
        · have g36 := xf_ge h36
          have hlt := xnlt g36 (by omega) (by omega)
          refine xS.s1 rfl rfl ?_
          try dsimp only [Nat.reduceAdd]
          refine xS.gR rfl rfl rfl ⟨by decide, rfl⟩ rfl ?_
          try dsimp only [Nat.reduceAdd]
          refine xS.s1 rfl rfl ?_
          try dsimp only [Nat.reduceAdd, xj_60]
          refine xS.s1 rfl rfl ?_
          try dsimp only [Nat.reduceAdd]
          refine xS.s1 rfl rfl ?_
          try dsimp only [Nat.reduceAdd]
          refine xS.s1 rfl rfl ?_
          try dsimp only [Nat.reduceAdd]
          refine xS.s1 rfl rfl ?_
          try dsimp only [Nat.reduceAdd]
          refine xS.s1 rfl rfl ?_
          try dsimp only [Nat.reduceAdd, xj_32]
          rw [show (((60 * nI t) + nI j) : Int32) = nI ((60 * t) + j) from by simp only [← nI_add, ← pk_mul]; rfl]
          refine xS.ias rfl xar_77 (by omega) ?_
          try dsimp only [Nat.reduceAdd]
          refine xS.s1 rfl rfl ?_
          try dsimp only [Nat.reduceAdd, xi_1]
          rw [nI_1]
          refine xS.s1 rfl rfl ?_
          try dsimp only [Nat.reduceAdd]
          refine xS.pick [0, 1, 2, 3] rfl ?_
          rw [gseg_s (S := fun _ => 32)]
          exact ih () (by omega) trivial
      · have g16 := xf_ge h16
        exfalso; first | exact absurd g16 (by decide) | (simp (disch := omega) only [Int32.lt_iff_toInt_lt, Int32.le_iff_toInt_le, nI_toInt, Int32.reduceToInt] at g16 <;> omega)
    · have g10 := xf_le h10
      exfalso; first | exact absurd g10 (by decide) | (simp (disch := omega) only [Int32.lt_iff_toInt_lt, Int32.le_iff_toInt_le, nI_toInt, Int32.reduceToInt] at g10 <;> omega)

set_option maxRecDepth 10000 in
theorem c_X12_wrongAt_bad (hx : ¬ (0 ≤ x ∧ x < 6)) : xT (k + 3) 159 [.ref 73, .int x, .int i] (xH b g l) (fun r M' => M' = xH b g l ∧ r = some (.int (-1))) := by
  refine xT.of rfl (Nat.le_of_ble_eq_true rfl) ?_
  change xS _ _ 0 [(0, .ref 73), (1, .int x), (2, .int i)] [] _ _
  refine xS.s1 rfl rfl ?_
  try dsimp only [Nat.reduceAdd]
  -- 1 yX12_isRow
  refine xS.callS rfl rfl rfl ⟨Nat.le_of_ble_eq_true rfl, rfl⟩ c_X12_isRow (fun v M1 hv => ?_)
  rw [hv.1, hv.2]
  clear hv M1 v
  try dsimp only [Nat.reduceAdd, Option.toList, List.cons_append, List.nil_append, List.drop]
  refine xS.br0 (c := .ne) (off := 5) (l := 3) rfl rfl (fun h4 => ?_) (fun h4 => ?_)
  · have g4 := xt_ne h4
    exact absurd (xif1 g4) hx
  · have g4 := xf_ne h4
    refine xS.s1 rfl rfl ?_
    try dsimp only [Nat.reduceAdd, xi_m1]
    refine xS.ret rfl rfl rfl (fun _ _ => rfl) ?_
    exact ⟨rfl, rfl⟩

set_option maxRecDepth 10000 in
theorem c_X12_wrongAt_no (hp1 : p < 6) (hs : g 74 p = -1) : xT (k + 3) 159 [.ref 73, .int (nI p), .int i] (xH b g l) (fun r M' => M' = xH b (xfR g 1) l ∧ r = some (.int (-3))) := by
  refine xT.of rfl (Nat.le_of_ble_eq_true rfl) ?_
  change xS _ _ 0 [(0, .ref 73), (1, .int (nI p)), (2, .int i)] [] _ _
  refine xS.s1 rfl rfl ?_
  try dsimp only [Nat.reduceAdd]
  -- 1 yX12_isRow
  refine xS.callS rfl rfl rfl ⟨Nat.le_of_ble_eq_true rfl, rfl⟩ (c_X12_isRow_in hp1) (fun v M1 hv => ?_)
  rw [hv.1, hv.2]
  clear hv M1 v
  try dsimp only [Nat.reduceAdd, Option.toList, List.cons_append, List.nil_append, List.drop]
  refine xS.br0 (c := .ne) (off := 5) (l := 3) rfl rfl (fun h4 => ?_) (fun h4 => ?_)
  · have g4 := xt_ne h4
    refine xS.s1 rfl rfl ?_
    try dsimp only [Nat.reduceAdd]
    refine xS.gR rfl rfl rfl ⟨by decide, rfl⟩ rfl ?_
    try dsimp only [Nat.reduceAdd]
    refine xS.s1 rfl rfl ?_
    try dsimp only [Nat.reduceAdd]
    refine xS.ia rfl xar_74 (by omega) ?_
    try dsimp only [Nat.reduceAdd]
    refine xS.br0 (c := .ge) (off := 9) (l := 3) rfl rfl (fun h15 => ?_) (fun h15 => ?_)
    · have g15 := xt_ge h15
      exfalso; rw [hs] at g15; exact absurd g15 (by decide)
    · have g15 := xf_ge h15
      refine xS.s1 rfl rfl ?_
      try dsimp only [Nat.reduceAdd]
      refine xS.s1 rfl rfl ?_
      try dsimp only [Nat.reduceAdd, xi_1]
      -- 20 yX12_finds
      refine xS.cv rfl rfl rfl rfl rfl rfl ⟨by decide, rfl, rfl⟩ (c_X12_finds (t := 1) (by decide)) (fun v M1 hv => ?_)
      rw [hv.1, hv.2]
      clear hv M1 v
      try dsimp only [Nat.reduceAdd, Option.toList, List.cons_append, List.nil_append, List.drop]
      refine xS.ret rfl rfl rfl (fun _ _ => rfl) ?_
      exact ⟨rfl, rfl⟩
  · have g4 := xf_ne h4
    exfalso; first | exact absurd g4 (by decide) | (simp (disch := omega) only [Int32.lt_iff_toInt_lt, Int32.le_iff_toInt_le, nI_toInt, Int32.reduceToInt] at g4 <;> omega)

set_option maxRecDepth 10000 in
theorem c_X12_wrongAt_bey (hp1 : p < 6) (hs : g 74 p = nI m) (hm : m ≤ 40) (hi : ¬ (0 ≤ i ∧ i < nI m)) : xT (k + 3) 159 [.ref 73, .int (nI p), .int i] (xH b g l) (fun r M' => M' = xH b (xfR g 2) l ∧ r = some (.int (-3))) := by
  refine xT.of rfl (Nat.le_of_ble_eq_true rfl) ?_
  change xS _ _ 0 [(0, .ref 73), (1, .int (nI p)), (2, .int i)] [] _ _
  refine xS.s1 rfl rfl ?_
  try dsimp only [Nat.reduceAdd]
  -- 1 yX12_isRow
  refine xS.callS rfl rfl rfl ⟨Nat.le_of_ble_eq_true rfl, rfl⟩ (c_X12_isRow_in hp1) (fun v M1 hv => ?_)
  rw [hv.1, hv.2]
  clear hv M1 v
  try dsimp only [Nat.reduceAdd, Option.toList, List.cons_append, List.nil_append, List.drop]
  refine xS.br0 (c := .ne) (off := 5) (l := 3) rfl rfl (fun h4 => ?_) (fun h4 => ?_)
  · have g4 := xt_ne h4
    refine xS.s1 rfl rfl ?_
    try dsimp only [Nat.reduceAdd]
    refine xS.gR rfl rfl rfl ⟨by decide, rfl⟩ rfl ?_
    try dsimp only [Nat.reduceAdd]
    refine xS.s1 rfl rfl ?_
    try dsimp only [Nat.reduceAdd]
    refine xS.ia rfl xar_74 (by omega) ?_
    try dsimp only [Nat.reduceAdd]
    refine xS.br0 (c := .ge) (off := 9) (l := 3) rfl rfl (fun h15 => ?_) (fun h15 => ?_)
    · have g15 := xt_ge h15
      refine xS.s1 rfl rfl ?_
      try dsimp only [Nat.reduceAdd]
      refine xS.s1 rfl rfl ?_
      try dsimp only [Nat.reduceAdd, xi_0]
      refine xS.s1 rfl rfl ?_
      try dsimp only [Nat.reduceAdd]
      refine xS.gR rfl rfl rfl ⟨by decide, rfl⟩ rfl ?_
      try dsimp only [Nat.reduceAdd]
      refine xS.s1 rfl rfl ?_
      try dsimp only [Nat.reduceAdd]
      refine xS.ia rfl xar_74 (by omega) ?_
      try dsimp only [Nat.reduceAdd]
      rw [hs]
      refine xS.s1 rfl rfl ?_
      try dsimp only [Nat.reduceAdd, xi_1]
      refine xS.s1 rfl rfl ?_
      try dsimp only [Nat.reduceAdd]
      -- 34 yX12_in
      refine xS.callS rfl rfl rfl ⟨Nat.le_of_ble_eq_true rfl, rfl⟩ (c_in_m (by omega)) (fun v M1 hv => ?_)
      rw [hv.1, hv.2]
      clear hv M1 v
      try dsimp only [Nat.reduceAdd, Option.toList, List.cons_append, List.nil_append, List.drop]
      refine xS.br0 (c := .eq) (off := 7) (l := 3) rfl rfl (fun h37 => ?_) (fun h37 => ?_)
      · have g37 := xt_eq h37
        refine xS.s1 rfl rfl ?_
        try dsimp only [Nat.reduceAdd]
        refine xS.s1 rfl rfl ?_
        try dsimp only [Nat.reduceAdd, xi_2]
        -- 46 yX12_finds
        refine xS.cv rfl rfl rfl rfl rfl rfl ⟨by decide, rfl, rfl⟩ (c_X12_finds (t := 2) (by decide)) (fun v M1 hv => ?_)
        rw [hv.1, hv.2]
        clear hv M1 v
        try dsimp only [Nat.reduceAdd, Option.toList, List.cons_append, List.nil_append, List.drop]
        refine xS.ret rfl rfl rfl (fun _ _ => rfl) ?_
        exact ⟨rfl, rfl⟩
      · have g37 := xf_eq h37
        exact absurd (xif1 g37) hi
    · have g15 := xf_ge h15
      exfalso; rw [hs] at g15; exact absurd g15 (nI_pos (by omega))
  · have g4 := xf_ne h4
    exfalso; first | exact absurd g4 (by decide) | (simp (disch := omega) only [Int32.lt_iff_toInt_lt, Int32.le_iff_toInt_le, nI_toInt, Int32.reduceToInt] at g4 <;> omega)

set_option maxRecDepth 10000 in
theorem c_X12_wrongAt_ok (hp1 : p < 6) (hs : g 74 p = nI m) (hm : m ≤ 40) (hi : t < m) : xT (k + 3) 159 [.ref 73, .int (nI p), .int (nI t)] (xH b g l) (fun r M' => M' = xH b g l ∧ r = some (.int (0))) := by
  refine xT.of rfl (Nat.le_of_ble_eq_true rfl) ?_
  change xS _ _ 0 [(0, .ref 73), (1, .int (nI p)), (2, .int (nI t))] [] _ _
  refine xS.s1 rfl rfl ?_
  try dsimp only [Nat.reduceAdd]
  -- 1 yX12_isRow
  refine xS.callS rfl rfl rfl ⟨Nat.le_of_ble_eq_true rfl, rfl⟩ (c_X12_isRow_in hp1) (fun v M1 hv => ?_)
  rw [hv.1, hv.2]
  clear hv M1 v
  try dsimp only [Nat.reduceAdd, Option.toList, List.cons_append, List.nil_append, List.drop]
  refine xS.br0 (c := .ne) (off := 5) (l := 3) rfl rfl (fun h4 => ?_) (fun h4 => ?_)
  · have g4 := xt_ne h4
    refine xS.s1 rfl rfl ?_
    try dsimp only [Nat.reduceAdd]
    refine xS.gR rfl rfl rfl ⟨by decide, rfl⟩ rfl ?_
    try dsimp only [Nat.reduceAdd]
    refine xS.s1 rfl rfl ?_
    try dsimp only [Nat.reduceAdd]
    refine xS.ia rfl xar_74 (by omega) ?_
    try dsimp only [Nat.reduceAdd]
    refine xS.br0 (c := .ge) (off := 9) (l := 3) rfl rfl (fun h15 => ?_) (fun h15 => ?_)
    · have g15 := xt_ge h15
      refine xS.s1 rfl rfl ?_
      try dsimp only [Nat.reduceAdd]
      refine xS.s1 rfl rfl ?_
      try dsimp only [Nat.reduceAdd, xi_0]
      refine xS.s1 rfl rfl ?_
      try dsimp only [Nat.reduceAdd]
      refine xS.gR rfl rfl rfl ⟨by decide, rfl⟩ rfl ?_
      try dsimp only [Nat.reduceAdd]
      refine xS.s1 rfl rfl ?_
      try dsimp only [Nat.reduceAdd]
      refine xS.ia rfl xar_74 (by omega) ?_
      try dsimp only [Nat.reduceAdd]
      rw [hs]
      refine xS.s1 rfl rfl ?_
      try dsimp only [Nat.reduceAdd, xi_1]
      refine xS.s1 rfl rfl ?_
      try dsimp only [Nat.reduceAdd]
      -- 34 yX12_in
      refine xS.callS rfl rfl rfl ⟨Nat.le_of_ble_eq_true rfl, rfl⟩ (c_in_m1 (by omega) hi) (fun v M1 hv => ?_)
      rw [hv.1, hv.2]
      clear hv M1 v
      try dsimp only [Nat.reduceAdd, Option.toList, List.cons_append, List.nil_append, List.drop]
      refine xS.br0 (c := .eq) (off := 7) (l := 3) rfl rfl (fun h37 => ?_) (fun h37 => ?_)
      · have g37 := xt_eq h37
        exfalso; first | exact absurd g37 (by decide) | (simp (disch := omega) only [Int32.lt_iff_toInt_lt, Int32.le_iff_toInt_le, nI_toInt, Int32.reduceToInt] at g37 <;> omega)
      · have g37 := xf_eq h37
        refine xS.s1 rfl rfl ?_
        try dsimp only [Nat.reduceAdd, xi_0]
        refine xS.s1 rfl rfl ?_
        try dsimp only [Nat.reduceAdd]
        refine xS.ret rfl rfl rfl (fun _ _ => rfl) ?_
        exact ⟨rfl, rfl⟩
    · have g15 := xf_ge h15
      exfalso; rw [hs] at g15; exact absurd g15 (nI_pos (by omega))
  · have g4 := xf_ne h4
    exfalso; first | exact absurd g4 (by decide) | (simp (disch := omega) only [Int32.lt_iff_toInt_lt, Int32.le_iff_toInt_le, nI_toInt, Int32.reduceToInt] at g4 <;> omega)

set_option maxRecDepth 10000 in
theorem c_X12_lay_bad (hx : ¬ (0 ≤ x ∧ x < 6)) : xT (k + 4) 160 [.ref 73, .int x, .int i, .int v] (xH b g l) (fun r M' => M' = xH b g l ∧ r = some (.int (-1))) := by
  refine xT.of rfl (Nat.le_of_ble_eq_true rfl) ?_
  change xS _ _ 0 [(0, .ref 73), (1, .int x), (2, .int i), (3, .int v)] [] _ _
  refine xS.s1 rfl rfl ?_
  try dsimp only [Nat.reduceAdd]
  refine xS.s1 rfl rfl ?_
  try dsimp only [Nat.reduceAdd]
  refine xS.s1 rfl rfl ?_
  try dsimp only [Nat.reduceAdd]
  -- 3 yX12_wrongAt
  refine xS.cv rfl rfl rfl rfl rfl rfl ⟨by decide, rfl, rfl⟩ (c_X12_wrongAt_bad hx) (fun v M1 hv => ?_)
  rw [hv.1, hv.2]
  clear hv M1 v
  try dsimp only [Nat.reduceAdd, Option.toList, List.cons_append, List.nil_append, List.drop]
  refine xS.s1 rfl rfl ?_
  try dsimp only [Nat.reduceAdd]
  refine xS.s1 rfl rfl ?_
  try dsimp only [Nat.reduceAdd]
  refine xS.br0 (c := .ge) (off := 6) (l := 3) rfl rfl (fun h10 => ?_) (fun h10 => ?_)
  · have g10 := xt_ge h10
    exfalso; first | exact absurd g10 (by decide) | (simp (disch := omega) only [Int32.lt_iff_toInt_lt, Int32.le_iff_toInt_le, nI_toInt, Int32.reduceToInt] at g10 <;> omega)
  · have g10 := xf_ge h10
    refine xS.s1 rfl rfl ?_
    try dsimp only [Nat.reduceAdd]
    refine xS.ret rfl rfl rfl (fun _ _ => rfl) ?_
    exact ⟨rfl, rfl⟩

set_option maxRecDepth 10000 in
theorem c_X12_lay_no (hp1 : p < 6) (hs : g 74 p = -1) : xT (k + 4) 160 [.ref 73, .int (nI p), .int i, .int v] (xH b g l) (fun r M' => M' = xH b (xfR g 1) l ∧ r = some (.int (-3))) := by
  refine xT.of rfl (Nat.le_of_ble_eq_true rfl) ?_
  change xS _ _ 0 [(0, .ref 73), (1, .int (nI p)), (2, .int i), (3, .int v)] [] _ _
  refine xS.s1 rfl rfl ?_
  try dsimp only [Nat.reduceAdd]
  refine xS.s1 rfl rfl ?_
  try dsimp only [Nat.reduceAdd]
  refine xS.s1 rfl rfl ?_
  try dsimp only [Nat.reduceAdd]
  -- 3 yX12_wrongAt
  refine xS.cv rfl rfl rfl rfl rfl rfl ⟨by decide, rfl, rfl⟩ (c_X12_wrongAt_no hp1 hs) (fun v M1 hv => ?_)
  rw [hv.1, hv.2]
  clear hv M1 v
  try dsimp only [Nat.reduceAdd, Option.toList, List.cons_append, List.nil_append, List.drop]
  refine xS.s1 rfl rfl ?_
  try dsimp only [Nat.reduceAdd]
  refine xS.s1 rfl rfl ?_
  try dsimp only [Nat.reduceAdd]
  refine xS.br0 (c := .ge) (off := 6) (l := 3) rfl rfl (fun h10 => ?_) (fun h10 => ?_)
  · have g10 := xt_ge h10
    exfalso; first | exact absurd g10 (by decide) | (simp (disch := omega) only [Int32.lt_iff_toInt_lt, Int32.le_iff_toInt_le, nI_toInt, Int32.reduceToInt] at g10 <;> omega)
  · have g10 := xf_ge h10
    refine xS.s1 rfl rfl ?_
    try dsimp only [Nat.reduceAdd]
    refine xS.ret rfl rfl rfl (fun _ _ => rfl) ?_
    exact ⟨rfl, rfl⟩

set_option maxRecDepth 10000 in
theorem c_X12_lay_bey (hp1 : p < 6) (hs : g 74 p = nI m) (hm : m ≤ 40) (hi : ¬ (0 ≤ i ∧ i < nI m)) : xT (k + 4) 160 [.ref 73, .int (nI p), .int i, .int v] (xH b g l) (fun r M' => M' = xH b (xfR g 2) l ∧ r = some (.int (-3))) := by
  refine xT.of rfl (Nat.le_of_ble_eq_true rfl) ?_
  change xS _ _ 0 [(0, .ref 73), (1, .int (nI p)), (2, .int i), (3, .int v)] [] _ _
  refine xS.s1 rfl rfl ?_
  try dsimp only [Nat.reduceAdd]
  refine xS.s1 rfl rfl ?_
  try dsimp only [Nat.reduceAdd]
  refine xS.s1 rfl rfl ?_
  try dsimp only [Nat.reduceAdd]
  -- 3 yX12_wrongAt
  refine xS.cv rfl rfl rfl rfl rfl rfl ⟨by decide, rfl, rfl⟩ (c_X12_wrongAt_bey hp1 hs hm hi) (fun v M1 hv => ?_)
  rw [hv.1, hv.2]
  clear hv M1 v
  try dsimp only [Nat.reduceAdd, Option.toList, List.cons_append, List.nil_append, List.drop]
  refine xS.s1 rfl rfl ?_
  try dsimp only [Nat.reduceAdd]
  refine xS.s1 rfl rfl ?_
  try dsimp only [Nat.reduceAdd]
  refine xS.br0 (c := .ge) (off := 6) (l := 3) rfl rfl (fun h10 => ?_) (fun h10 => ?_)
  · have g10 := xt_ge h10
    exfalso; first | exact absurd g10 (by decide) | (simp (disch := omega) only [Int32.lt_iff_toInt_lt, Int32.le_iff_toInt_le, nI_toInt, Int32.reduceToInt] at g10 <;> omega)
  · have g10 := xf_ge h10
    refine xS.s1 rfl rfl ?_
    try dsimp only [Nat.reduceAdd]
    refine xS.ret rfl rfl rfl (fun _ _ => rfl) ?_
    exact ⟨rfl, rfl⟩

set_option maxRecDepth 10000 in
theorem c_X12_lay_ok (hp1 : p < 6) (hs : g 74 p = nI m) (hm : m ≤ 40) (hi : t < m) : xT (k + 4) 160 [.ref 73, .int (nI p), .int (nI t), .int v] (xH b g l) (fun r M' => M' = xH b (up (up g 75 (40 * p + t) v) 73 20 (g 75 (40 * p + t))) l ∧ r = some (.int 1)) := by
  refine xT.of rfl (Nat.le_of_ble_eq_true rfl) ?_
  change xS _ _ 0 [(0, .ref 73), (1, .int (nI p)), (2, .int (nI t)), (3, .int v)] [] _ _
  refine xS.s1 rfl rfl ?_
  try dsimp only [Nat.reduceAdd]
  refine xS.s1 rfl rfl ?_
  try dsimp only [Nat.reduceAdd]
  refine xS.s1 rfl rfl ?_
  try dsimp only [Nat.reduceAdd]
  -- 3 yX12_wrongAt
  refine xS.cv rfl rfl rfl rfl rfl rfl ⟨by decide, rfl, rfl⟩ (c_X12_wrongAt_ok hp1 hs hm hi) (fun v M1 hv => ?_)
  rw [hv.1, hv.2]
  clear hv M1 v
  try dsimp only [Nat.reduceAdd, Option.toList, List.cons_append, List.nil_append, List.drop]
  refine xS.s1 rfl rfl ?_
  try dsimp only [Nat.reduceAdd]
  refine xS.s1 rfl rfl ?_
  try dsimp only [Nat.reduceAdd]
  refine xS.br0 (c := .ge) (off := 6) (l := 3) rfl rfl (fun h10 => ?_) (fun h10 => ?_)
  · have g10 := xt_ge h10
    refine xS.s1 rfl rfl ?_
    try dsimp only [Nat.reduceAdd]
    refine xS.gR rfl rfl rfl ⟨by decide, rfl⟩ rfl ?_
    try dsimp only [Nat.reduceAdd]
    refine xS.s1 rfl rfl ?_
    try dsimp only [Nat.reduceAdd, xj_40]
    refine xS.s1 rfl rfl ?_
    try dsimp only [Nat.reduceAdd]
    refine xS.s1 rfl rfl ?_
    try dsimp only [Nat.reduceAdd]
    refine xS.s1 rfl rfl ?_
    try dsimp only [Nat.reduceAdd]
    refine xS.s1 rfl rfl ?_
    try dsimp only [Nat.reduceAdd]
    rw [show (((40 * nI p) + nI t) : Int32) = nI ((40 * p) + t) from by simp only [← nI_add, ← pk_mul]; rfl]
    refine xS.ia rfl xar_75 (by omega) ?_
    try dsimp only [Nat.reduceAdd]
    refine xS.s1 rfl rfl ?_
    try dsimp only [Nat.reduceAdd]
    refine xS.s1 rfl rfl ?_
    try dsimp only [Nat.reduceAdd]
    refine xS.gR rfl rfl rfl ⟨by decide, rfl⟩ rfl ?_
    try dsimp only [Nat.reduceAdd]
    refine xS.s1 rfl rfl ?_
    try dsimp only [Nat.reduceAdd, xj_40]
    refine xS.s1 rfl rfl ?_
    try dsimp only [Nat.reduceAdd]
    refine xS.s1 rfl rfl ?_
    try dsimp only [Nat.reduceAdd]
    refine xS.s1 rfl rfl ?_
    try dsimp only [Nat.reduceAdd]
    refine xS.s1 rfl rfl ?_
    try dsimp only [Nat.reduceAdd]
    refine xS.s1 rfl rfl ?_
    try dsimp only [Nat.reduceAdd]
    rw [show (((40 * nI p) + nI t) : Int32) = nI ((40 * p) + t) from by simp only [← nI_add, ← pk_mul]; rfl]
    refine xS.ias rfl xar_75 (by omega) ?_
    try dsimp only [Nat.reduceAdd]
    refine xS.s1 rfl rfl ?_
    try dsimp only [Nat.reduceAdd]
    refine xS.s1 rfl rfl ?_
    try dsimp only [Nat.reduceAdd]
    -- 44 yX12_tells
    refine xS.cv rfl rfl rfl rfl rfl rfl ⟨by decide, rfl, rfl⟩ c_X12_tells (fun v M1 hv => ?_)
    rw [hv.1, hv.2]
    clear hv M1 v
    try dsimp only [Nat.reduceAdd, Option.toList, List.cons_append, List.nil_append, List.drop]
    refine xS.ret rfl rfl rfl (fun _ _ => rfl) ?_
    exact ⟨rfl, rfl⟩
  · have g10 := xf_ge h10
    exfalso; first | exact absurd g10 (by decide) | (simp (disch := omega) only [Int32.lt_iff_toInt_lt, Int32.le_iff_toInt_le, nI_toInt, Int32.reduceToInt] at g10 <;> omega)

set_option maxRecDepth 10000 in
theorem c_X12_at_bad (hx : ¬ (0 ≤ x ∧ x < 6)) : xT (k + 4) 161 [.ref 73, .int x, .int i] (xH b g l) (fun r M' => M' = xH b g l ∧ r = some (.int (-1))) := by
  refine xT.of rfl (Nat.le_of_ble_eq_true rfl) ?_
  change xS _ _ 0 [(0, .ref 73), (1, .int x), (2, .int i)] [] _ _
  refine xS.s1 rfl rfl ?_
  try dsimp only [Nat.reduceAdd]
  refine xS.s1 rfl rfl ?_
  try dsimp only [Nat.reduceAdd]
  refine xS.s1 rfl rfl ?_
  try dsimp only [Nat.reduceAdd]
  -- 3 yX12_wrongAt
  refine xS.cv rfl rfl rfl rfl rfl rfl ⟨by decide, rfl, rfl⟩ (c_X12_wrongAt_bad hx) (fun v M1 hv => ?_)
  rw [hv.1, hv.2]
  clear hv M1 v
  try dsimp only [Nat.reduceAdd, Option.toList, List.cons_append, List.nil_append, List.drop]
  refine xS.s1 rfl rfl ?_
  try dsimp only [Nat.reduceAdd]
  refine xS.s1 rfl rfl ?_
  try dsimp only [Nat.reduceAdd]
  refine xS.br0 (c := .ge) (off := 7) (l := 3) rfl rfl (fun h8 => ?_) (fun h8 => ?_)
  · have g8 := xt_ge h8
    exfalso; first | exact absurd g8 (by decide) | (simp (disch := omega) only [Int32.lt_iff_toInt_lt, Int32.le_iff_toInt_le, nI_toInt, Int32.reduceToInt] at g8 <;> omega)
  · have g8 := xf_ge h8
    refine xS.s1 rfl rfl ?_
    try dsimp only [Nat.reduceAdd]
    refine xS.s1 rfl rfl ?_
    try dsimp only [Nat.reduceAdd]
    refine xS.ret rfl rfl rfl (fun _ _ => rfl) ?_
    exact ⟨rfl, rfl⟩

set_option maxRecDepth 10000 in
theorem c_X12_at_no (hp1 : p < 6) (hs : g 74 p = -1) : xT (k + 4) 161 [.ref 73, .int (nI p), .int i] (xH b g l) (fun r M' => M' = xH b (xfR g 1) l ∧ r = some (.int (-3))) := by
  refine xT.of rfl (Nat.le_of_ble_eq_true rfl) ?_
  change xS _ _ 0 [(0, .ref 73), (1, .int (nI p)), (2, .int i)] [] _ _
  refine xS.s1 rfl rfl ?_
  try dsimp only [Nat.reduceAdd]
  refine xS.s1 rfl rfl ?_
  try dsimp only [Nat.reduceAdd]
  refine xS.s1 rfl rfl ?_
  try dsimp only [Nat.reduceAdd]
  -- 3 yX12_wrongAt
  refine xS.cv rfl rfl rfl rfl rfl rfl ⟨by decide, rfl, rfl⟩ (c_X12_wrongAt_no hp1 hs) (fun v M1 hv => ?_)
  rw [hv.1, hv.2]
  clear hv M1 v
  try dsimp only [Nat.reduceAdd, Option.toList, List.cons_append, List.nil_append, List.drop]
  refine xS.s1 rfl rfl ?_
  try dsimp only [Nat.reduceAdd]
  refine xS.s1 rfl rfl ?_
  try dsimp only [Nat.reduceAdd]
  refine xS.br0 (c := .ge) (off := 7) (l := 3) rfl rfl (fun h8 => ?_) (fun h8 => ?_)
  · have g8 := xt_ge h8
    exfalso; first | exact absurd g8 (by decide) | (simp (disch := omega) only [Int32.lt_iff_toInt_lt, Int32.le_iff_toInt_le, nI_toInt, Int32.reduceToInt] at g8 <;> omega)
  · have g8 := xf_ge h8
    refine xS.s1 rfl rfl ?_
    try dsimp only [Nat.reduceAdd]
    refine xS.s1 rfl rfl ?_
    try dsimp only [Nat.reduceAdd]
    refine xS.ret rfl rfl rfl (fun _ _ => rfl) ?_
    exact ⟨rfl, rfl⟩

set_option maxRecDepth 10000 in
theorem c_X12_at_bey (hp1 : p < 6) (hs : g 74 p = nI m) (hm : m ≤ 40) (hi : ¬ (0 ≤ i ∧ i < nI m)) : xT (k + 4) 161 [.ref 73, .int (nI p), .int i] (xH b g l) (fun r M' => M' = xH b (xfR g 2) l ∧ r = some (.int (-3))) := by
  refine xT.of rfl (Nat.le_of_ble_eq_true rfl) ?_
  change xS _ _ 0 [(0, .ref 73), (1, .int (nI p)), (2, .int i)] [] _ _
  refine xS.s1 rfl rfl ?_
  try dsimp only [Nat.reduceAdd]
  refine xS.s1 rfl rfl ?_
  try dsimp only [Nat.reduceAdd]
  refine xS.s1 rfl rfl ?_
  try dsimp only [Nat.reduceAdd]
  -- 3 yX12_wrongAt
  refine xS.cv rfl rfl rfl rfl rfl rfl ⟨by decide, rfl, rfl⟩ (c_X12_wrongAt_bey hp1 hs hm hi) (fun v M1 hv => ?_)
  rw [hv.1, hv.2]
  clear hv M1 v
  try dsimp only [Nat.reduceAdd, Option.toList, List.cons_append, List.nil_append, List.drop]
  refine xS.s1 rfl rfl ?_
  try dsimp only [Nat.reduceAdd]
  refine xS.s1 rfl rfl ?_
  try dsimp only [Nat.reduceAdd]
  refine xS.br0 (c := .ge) (off := 7) (l := 3) rfl rfl (fun h8 => ?_) (fun h8 => ?_)
  · have g8 := xt_ge h8
    exfalso; first | exact absurd g8 (by decide) | (simp (disch := omega) only [Int32.lt_iff_toInt_lt, Int32.le_iff_toInt_le, nI_toInt, Int32.reduceToInt] at g8 <;> omega)
  · have g8 := xf_ge h8
    refine xS.s1 rfl rfl ?_
    try dsimp only [Nat.reduceAdd]
    refine xS.s1 rfl rfl ?_
    try dsimp only [Nat.reduceAdd]
    refine xS.ret rfl rfl rfl (fun _ _ => rfl) ?_
    exact ⟨rfl, rfl⟩

set_option maxRecDepth 10000 in
theorem c_X12_at_ok (hp1 : p < 6) (hs : g 74 p = nI m) (hm : m ≤ 40) (hi : t < m) : xT (k + 4) 161 [.ref 73, .int (nI p), .int (nI t)] (xH b g l) (fun r M' => M' = xH b (up g 73 20 (g 75 (40 * p + t))) l ∧ r = some (.int 1)) := by
  refine xT.of rfl (Nat.le_of_ble_eq_true rfl) ?_
  change xS _ _ 0 [(0, .ref 73), (1, .int (nI p)), (2, .int (nI t))] [] _ _
  refine xS.s1 rfl rfl ?_
  try dsimp only [Nat.reduceAdd]
  refine xS.s1 rfl rfl ?_
  try dsimp only [Nat.reduceAdd]
  refine xS.s1 rfl rfl ?_
  try dsimp only [Nat.reduceAdd]
  -- 3 yX12_wrongAt
  refine xS.cv rfl rfl rfl rfl rfl rfl ⟨by decide, rfl, rfl⟩ (c_X12_wrongAt_ok hp1 hs hm hi) (fun v M1 hv => ?_)
  rw [hv.1, hv.2]
  clear hv M1 v
  try dsimp only [Nat.reduceAdd, Option.toList, List.cons_append, List.nil_append, List.drop]
  refine xS.s1 rfl rfl ?_
  try dsimp only [Nat.reduceAdd]
  refine xS.s1 rfl rfl ?_
  try dsimp only [Nat.reduceAdd]
  refine xS.br0 (c := .ge) (off := 7) (l := 3) rfl rfl (fun h8 => ?_) (fun h8 => ?_)
  · have g8 := xt_ge h8
    refine xS.s1 rfl rfl ?_
    try dsimp only [Nat.reduceAdd]
    refine xS.s1 rfl rfl ?_
    try dsimp only [Nat.reduceAdd]
    refine xS.gR rfl rfl rfl ⟨by decide, rfl⟩ rfl ?_
    try dsimp only [Nat.reduceAdd]
    refine xS.s1 rfl rfl ?_
    try dsimp only [Nat.reduceAdd, xj_40]
    refine xS.s1 rfl rfl ?_
    try dsimp only [Nat.reduceAdd]
    refine xS.s1 rfl rfl ?_
    try dsimp only [Nat.reduceAdd]
    refine xS.s1 rfl rfl ?_
    try dsimp only [Nat.reduceAdd]
    refine xS.s1 rfl rfl ?_
    try dsimp only [Nat.reduceAdd]
    rw [show (((40 * nI p) + nI t) : Int32) = nI ((40 * p) + t) from by simp only [← nI_add, ← pk_mul]; rfl]
    refine xS.ia rfl xar_75 (by omega) ?_
    try dsimp only [Nat.reduceAdd]
    -- 27 yX12_tells
    refine xS.cv rfl rfl rfl rfl rfl rfl ⟨by decide, rfl, rfl⟩ c_X12_tells (fun v M1 hv => ?_)
    rw [hv.1, hv.2]
    clear hv M1 v
    try dsimp only [Nat.reduceAdd, Option.toList, List.cons_append, List.nil_append, List.drop]
    refine xS.ret rfl rfl rfl (fun _ _ => rfl) ?_
    exact ⟨rfl, rfl⟩
  · have g8 := xf_ge h8
    exfalso; first | exact absurd g8 (by decide) | (simp (disch := omega) only [Int32.lt_iff_toInt_lt, Int32.le_iff_toInt_le, nI_toInt, Int32.reduceToInt] at g8 <;> omega)

set_option maxRecDepth 10000 in
theorem c_X12_tear_bad (hx : ¬ (0 ≤ x ∧ x < 6)) : xT (k + 3) 162 [.ref 73, .int x] (xH b g l) (fun r M' => M' = xH b g l ∧ r = some (.int (-1))) := by
  refine xT.of rfl (Nat.le_of_ble_eq_true rfl) ?_
  change xS _ _ 0 [(0, .ref 73), (1, .int x)] [] _ _
  refine xS.s1 rfl rfl ?_
  try dsimp only [Nat.reduceAdd]
  -- 1 yX12_isRow
  refine xS.callS rfl rfl rfl ⟨Nat.le_of_ble_eq_true rfl, rfl⟩ c_X12_isRow (fun v M1 hv => ?_)
  rw [hv.1, hv.2]
  clear hv M1 v
  try dsimp only [Nat.reduceAdd, Option.toList, List.cons_append, List.nil_append, List.drop]
  refine xS.br0 (c := .ne) (off := 5) (l := 3) rfl rfl (fun h4 => ?_) (fun h4 => ?_)
  · have g4 := xt_ne h4
    exact absurd (xif1 g4) hx
  · have g4 := xf_ne h4
    refine xS.s1 rfl rfl ?_
    try dsimp only [Nat.reduceAdd, xi_m1]
    refine xS.ret rfl rfl rfl (fun _ _ => rfl) ?_
    exact ⟨rfl, rfl⟩

set_option maxRecDepth 10000 in
theorem c_X12_tear_no (hp1 : p < 6) (hs : g 74 p = -1) : xT (k + 3) 162 [.ref 73, .int (nI p)] (xH b g l) (fun r M' => M' = xH b (xfR g 1) l ∧ r = some (.int (-3))) := by
  refine xT.of rfl (Nat.le_of_ble_eq_true rfl) ?_
  change xS _ _ 0 [(0, .ref 73), (1, .int (nI p))] [] _ _
  refine xS.s1 rfl rfl ?_
  try dsimp only [Nat.reduceAdd]
  -- 1 yX12_isRow
  refine xS.callS rfl rfl rfl ⟨Nat.le_of_ble_eq_true rfl, rfl⟩ (c_X12_isRow_in hp1) (fun v M1 hv => ?_)
  rw [hv.1, hv.2]
  clear hv M1 v
  try dsimp only [Nat.reduceAdd, Option.toList, List.cons_append, List.nil_append, List.drop]
  refine xS.br0 (c := .ne) (off := 5) (l := 3) rfl rfl (fun h4 => ?_) (fun h4 => ?_)
  · have g4 := xt_ne h4
    refine xS.s1 rfl rfl ?_
    try dsimp only [Nat.reduceAdd]
    refine xS.gR rfl rfl rfl ⟨by decide, rfl⟩ rfl ?_
    try dsimp only [Nat.reduceAdd]
    refine xS.s1 rfl rfl ?_
    try dsimp only [Nat.reduceAdd]
    refine xS.ia rfl xar_74 (by omega) ?_
    try dsimp only [Nat.reduceAdd]
    refine xS.br0 (c := .ge) (off := 9) (l := 3) rfl rfl (fun h15 => ?_) (fun h15 => ?_)
    · have g15 := xt_ge h15
      exfalso; rw [hs] at g15; exact absurd g15 (by decide)
    · have g15 := xf_ge h15
      refine xS.s1 rfl rfl ?_
      try dsimp only [Nat.reduceAdd]
      refine xS.s1 rfl rfl ?_
      try dsimp only [Nat.reduceAdd, xi_1]
      -- 20 yX12_finds
      refine xS.cv rfl rfl rfl rfl rfl rfl ⟨by decide, rfl, rfl⟩ (c_X12_finds (t := 1) (by decide)) (fun v M1 hv => ?_)
      rw [hv.1, hv.2]
      clear hv M1 v
      try dsimp only [Nat.reduceAdd, Option.toList, List.cons_append, List.nil_append, List.drop]
      refine xS.ret rfl rfl rfl (fun _ _ => rfl) ?_
      exact ⟨rfl, rfl⟩
  · have g4 := xf_ne h4
    exfalso; first | exact absurd g4 (by decide) | (simp (disch := omega) only [Int32.lt_iff_toInt_lt, Int32.le_iff_toInt_le, nI_toInt, Int32.reduceToInt] at g4 <;> omega)

set_option maxRecDepth 10000 in
theorem c_X12_tear_ok (hp1 : p < 6) (hs : g 74 p = nI m) (hm : m ≤ 40) : xT (k + 3) 162 [.ref 73, .int (nI p)] (xH b g l) (fun r M' => M' = xH b (up g 74 p (-1)) l ∧ r = some (.int 1)) := by
  refine xT.of rfl (Nat.le_of_ble_eq_true rfl) ?_
  change xS _ _ 0 [(0, .ref 73), (1, .int (nI p))] [] _ _
  refine xS.s1 rfl rfl ?_
  try dsimp only [Nat.reduceAdd]
  -- 1 yX12_isRow
  refine xS.callS rfl rfl rfl ⟨Nat.le_of_ble_eq_true rfl, rfl⟩ (c_X12_isRow_in hp1) (fun v M1 hv => ?_)
  rw [hv.1, hv.2]
  clear hv M1 v
  try dsimp only [Nat.reduceAdd, Option.toList, List.cons_append, List.nil_append, List.drop]
  refine xS.br0 (c := .ne) (off := 5) (l := 3) rfl rfl (fun h4 => ?_) (fun h4 => ?_)
  · have g4 := xt_ne h4
    refine xS.s1 rfl rfl ?_
    try dsimp only [Nat.reduceAdd]
    refine xS.gR rfl rfl rfl ⟨by decide, rfl⟩ rfl ?_
    try dsimp only [Nat.reduceAdd]
    refine xS.s1 rfl rfl ?_
    try dsimp only [Nat.reduceAdd]
    refine xS.ia rfl xar_74 (by omega) ?_
    try dsimp only [Nat.reduceAdd]
    refine xS.br0 (c := .ge) (off := 9) (l := 3) rfl rfl (fun h15 => ?_) (fun h15 => ?_)
    · have g15 := xt_ge h15
      refine xS.s1 rfl rfl ?_
      try dsimp only [Nat.reduceAdd]
      refine xS.gR rfl rfl rfl ⟨by decide, rfl⟩ rfl ?_
      try dsimp only [Nat.reduceAdd]
      refine xS.s1 rfl rfl ?_
      try dsimp only [Nat.reduceAdd]
      refine xS.s1 rfl rfl ?_
      try dsimp only [Nat.reduceAdd, xi_m1]
      refine xS.ias rfl xar_74 (by omega) ?_
      try dsimp only [Nat.reduceAdd]
      refine xS.s1 rfl rfl ?_
      try dsimp only [Nat.reduceAdd, xi_1]
      refine xS.ret rfl rfl rfl (fun _ _ => rfl) ?_
      exact ⟨rfl, rfl⟩
    · have g15 := xf_ge h15
      exfalso; rw [hs] at g15; exact absurd g15 (nI_pos (by omega))
  · have g4 := xf_ne h4
    exfalso; first | exact absurd g4 (by decide) | (simp (disch := omega) only [Int32.lt_iff_toInt_lt, Int32.le_iff_toInt_le, nI_toInt, Int32.reduceToInt] at g4 <;> omega)

set_option maxRecDepth 10000 in
theorem c_X12_put_bad (hx : ¬ (0 ≤ x ∧ x < 4)) : xT (k + 3) 167 [.ref 73, .int x, .int i, .int v] (xH b g l) (fun r M' => M' = xH b g l ∧ r = some (.int (-1))) := by
  refine xT.of rfl (Nat.le_of_ble_eq_true rfl) ?_
  change xS _ _ 0 [(0, .ref 73), (1, .int x), (2, .int i), (3, .int v)] [] _ _
  refine xS.s1 rfl rfl ?_
  try dsimp only [Nat.reduceAdd]
  -- 1 yX12_isText
  refine xS.callS rfl rfl rfl ⟨Nat.le_of_ble_eq_true rfl, rfl⟩ c_X12_isText (fun v M1 hv => ?_)
  rw [hv.1, hv.2]
  clear hv M1 v
  try dsimp only [Nat.reduceAdd, Option.toList, List.cons_append, List.nil_append, List.drop]
  refine xS.br0 (c := .ne) (off := 5) (l := 3) rfl rfl (fun h4 => ?_) (fun h4 => ?_)
  · have g4 := xt_ne h4
    exact absurd (xif1 g4) hx
  · have g4 := xf_ne h4
    refine xS.s1 rfl rfl ?_
    try dsimp only [Nat.reduceAdd, xi_m1]
    refine xS.ret rfl rfl rfl (fun _ _ => rfl) ?_
    exact ⟨rfl, rfl⟩

set_option maxRecDepth 10000 in
theorem c_X12_put_no (hp1 : p < 4) (hs : g 76 p = -1) : xT (k + 3) 167 [.ref 73, .int (nI p), .int i, .int v] (xH b g l) (fun r M' => M' = xH b (xfR g 1) l ∧ r = some (.int (-3))) := by
  refine xT.of rfl (Nat.le_of_ble_eq_true rfl) ?_
  change xS _ _ 0 [(0, .ref 73), (1, .int (nI p)), (2, .int i), (3, .int v)] [] _ _
  refine xS.s1 rfl rfl ?_
  try dsimp only [Nat.reduceAdd]
  -- 1 yX12_isText
  refine xS.callS rfl rfl rfl ⟨Nat.le_of_ble_eq_true rfl, rfl⟩ (c_X12_isText_in hp1) (fun v M1 hv => ?_)
  rw [hv.1, hv.2]
  clear hv M1 v
  try dsimp only [Nat.reduceAdd, Option.toList, List.cons_append, List.nil_append, List.drop]
  refine xS.br0 (c := .ne) (off := 5) (l := 3) rfl rfl (fun h4 => ?_) (fun h4 => ?_)
  · have g4 := xt_ne h4
    refine xS.s1 rfl rfl ?_
    try dsimp only [Nat.reduceAdd]
    refine xS.gR rfl rfl rfl ⟨by decide, rfl⟩ rfl ?_
    try dsimp only [Nat.reduceAdd]
    refine xS.s1 rfl rfl ?_
    try dsimp only [Nat.reduceAdd]
    refine xS.ia rfl xar_76 (by omega) ?_
    try dsimp only [Nat.reduceAdd]
    refine xS.br0 (c := .ge) (off := 9) (l := 3) rfl rfl (fun h15 => ?_) (fun h15 => ?_)
    · have g15 := xt_ge h15
      exfalso; rw [hs] at g15; exact absurd g15 (by decide)
    · have g15 := xf_ge h15
      refine xS.s1 rfl rfl ?_
      try dsimp only [Nat.reduceAdd]
      refine xS.s1 rfl rfl ?_
      try dsimp only [Nat.reduceAdd, xi_1]
      -- 20 yX12_finds
      refine xS.cv rfl rfl rfl rfl rfl rfl ⟨by decide, rfl, rfl⟩ (c_X12_finds (t := 1) (by decide)) (fun v M1 hv => ?_)
      rw [hv.1, hv.2]
      clear hv M1 v
      try dsimp only [Nat.reduceAdd, Option.toList, List.cons_append, List.nil_append, List.drop]
      refine xS.ret rfl rfl rfl (fun _ _ => rfl) ?_
      exact ⟨rfl, rfl⟩
  · have g4 := xf_ne h4
    exfalso; first | exact absurd g4 (by decide) | (simp (disch := omega) only [Int32.lt_iff_toInt_lt, Int32.le_iff_toInt_le, nI_toInt, Int32.reduceToInt] at g4 <;> omega)

set_option maxRecDepth 10000 in
theorem c_X12_put_bey (hp1 : p < 4) (hs : g 76 p = nI m) (hm : m ≤ 60) (hi : ¬ (0 ≤ i ∧ i < nI m)) : xT (k + 3) 167 [.ref 73, .int (nI p), .int i, .int v] (xH b g l) (fun r M' => M' = xH b (xfR g 2) l ∧ r = some (.int (-3))) := by
  refine xT.of rfl (Nat.le_of_ble_eq_true rfl) ?_
  change xS _ _ 0 [(0, .ref 73), (1, .int (nI p)), (2, .int i), (3, .int v)] [] _ _
  refine xS.s1 rfl rfl ?_
  try dsimp only [Nat.reduceAdd]
  -- 1 yX12_isText
  refine xS.callS rfl rfl rfl ⟨Nat.le_of_ble_eq_true rfl, rfl⟩ (c_X12_isText_in hp1) (fun v M1 hv => ?_)
  rw [hv.1, hv.2]
  clear hv M1 v
  try dsimp only [Nat.reduceAdd, Option.toList, List.cons_append, List.nil_append, List.drop]
  refine xS.br0 (c := .ne) (off := 5) (l := 3) rfl rfl (fun h4 => ?_) (fun h4 => ?_)
  · have g4 := xt_ne h4
    refine xS.s1 rfl rfl ?_
    try dsimp only [Nat.reduceAdd]
    refine xS.gR rfl rfl rfl ⟨by decide, rfl⟩ rfl ?_
    try dsimp only [Nat.reduceAdd]
    refine xS.s1 rfl rfl ?_
    try dsimp only [Nat.reduceAdd]
    refine xS.ia rfl xar_76 (by omega) ?_
    try dsimp only [Nat.reduceAdd]
    refine xS.br0 (c := .ge) (off := 9) (l := 3) rfl rfl (fun h15 => ?_) (fun h15 => ?_)
    · have g15 := xt_ge h15
      refine xS.s1 rfl rfl ?_
      try dsimp only [Nat.reduceAdd]
      refine xS.s1 rfl rfl ?_
      try dsimp only [Nat.reduceAdd, xi_0]
      refine xS.s1 rfl rfl ?_
      try dsimp only [Nat.reduceAdd]
      refine xS.gR rfl rfl rfl ⟨by decide, rfl⟩ rfl ?_
      try dsimp only [Nat.reduceAdd]
      refine xS.s1 rfl rfl ?_
      try dsimp only [Nat.reduceAdd]
      refine xS.ia rfl xar_76 (by omega) ?_
      try dsimp only [Nat.reduceAdd]
      rw [hs]
      refine xS.s1 rfl rfl ?_
      try dsimp only [Nat.reduceAdd, xi_1]
      refine xS.s1 rfl rfl ?_
      try dsimp only [Nat.reduceAdd]
      -- 34 yX12_in
      refine xS.callS rfl rfl rfl ⟨Nat.le_of_ble_eq_true rfl, rfl⟩ (c_in_m (by omega)) (fun v M1 hv => ?_)
      rw [hv.1, hv.2]
      clear hv M1 v
      try dsimp only [Nat.reduceAdd, Option.toList, List.cons_append, List.nil_append, List.drop]
      refine xS.br0 (c := .ne) (off := 9) (l := 3) rfl rfl (fun h37 => ?_) (fun h37 => ?_)
      · have g37 := xt_ne h37
        exact absurd (xif1 g37) hi
      · have g37 := xf_ne h37
        refine xS.s1 rfl rfl ?_
        try dsimp only [Nat.reduceAdd]
        refine xS.s1 rfl rfl ?_
        try dsimp only [Nat.reduceAdd, xi_2]
        -- 42 yX12_finds
        refine xS.cv rfl rfl rfl rfl rfl rfl ⟨by decide, rfl, rfl⟩ (c_X12_finds (t := 2) (by decide)) (fun v M1 hv => ?_)
        rw [hv.1, hv.2]
        clear hv M1 v
        try dsimp only [Nat.reduceAdd, Option.toList, List.cons_append, List.nil_append, List.drop]
        refine xS.ret rfl rfl rfl (fun _ _ => rfl) ?_
        exact ⟨rfl, rfl⟩
    · have g15 := xf_ge h15
      exfalso; rw [hs] at g15; exact absurd g15 (nI_pos (by omega))
  · have g4 := xf_ne h4
    exfalso; first | exact absurd g4 (by decide) | (simp (disch := omega) only [Int32.lt_iff_toInt_lt, Int32.le_iff_toInt_le, nI_toInt, Int32.reduceToInt] at g4 <;> omega)

set_option maxRecDepth 10000 in
theorem c_X12_put_ok (hp1 : p < 4) (hs : g 76 p = nI m) (hm : m ≤ 60) (hi : t < m) : xT (k + 3) 167 [.ref 73, .int (nI p), .int (nI t), .int v] (xH b g l) (fun r M' => M' = xH b (up g 77 (60 * p + t) v.toInt8.toInt32) l ∧ r = some (.int (g 77 (60 * p + t) + 1000))) := by
  refine xT.of rfl (Nat.le_of_ble_eq_true rfl) ?_
  change xS _ _ 0 [(0, .ref 73), (1, .int (nI p)), (2, .int (nI t)), (3, .int v)] [] _ _
  refine xS.s1 rfl rfl ?_
  try dsimp only [Nat.reduceAdd]
  -- 1 yX12_isText
  refine xS.callS rfl rfl rfl ⟨Nat.le_of_ble_eq_true rfl, rfl⟩ (c_X12_isText_in hp1) (fun v M1 hv => ?_)
  rw [hv.1, hv.2]
  clear hv M1 v
  try dsimp only [Nat.reduceAdd, Option.toList, List.cons_append, List.nil_append, List.drop]
  refine xS.br0 (c := .ne) (off := 5) (l := 3) rfl rfl (fun h4 => ?_) (fun h4 => ?_)
  · have g4 := xt_ne h4
    refine xS.s1 rfl rfl ?_
    try dsimp only [Nat.reduceAdd]
    refine xS.gR rfl rfl rfl ⟨by decide, rfl⟩ rfl ?_
    try dsimp only [Nat.reduceAdd]
    refine xS.s1 rfl rfl ?_
    try dsimp only [Nat.reduceAdd]
    refine xS.ia rfl xar_76 (by omega) ?_
    try dsimp only [Nat.reduceAdd]
    refine xS.br0 (c := .ge) (off := 9) (l := 3) rfl rfl (fun h15 => ?_) (fun h15 => ?_)
    · have g15 := xt_ge h15
      refine xS.s1 rfl rfl ?_
      try dsimp only [Nat.reduceAdd]
      refine xS.s1 rfl rfl ?_
      try dsimp only [Nat.reduceAdd, xi_0]
      refine xS.s1 rfl rfl ?_
      try dsimp only [Nat.reduceAdd]
      refine xS.gR rfl rfl rfl ⟨by decide, rfl⟩ rfl ?_
      try dsimp only [Nat.reduceAdd]
      refine xS.s1 rfl rfl ?_
      try dsimp only [Nat.reduceAdd]
      refine xS.ia rfl xar_76 (by omega) ?_
      try dsimp only [Nat.reduceAdd]
      rw [hs]
      refine xS.s1 rfl rfl ?_
      try dsimp only [Nat.reduceAdd, xi_1]
      refine xS.s1 rfl rfl ?_
      try dsimp only [Nat.reduceAdd]
      -- 34 yX12_in
      refine xS.callS rfl rfl rfl ⟨Nat.le_of_ble_eq_true rfl, rfl⟩ (c_in_m1 (by omega) hi) (fun v M1 hv => ?_)
      rw [hv.1, hv.2]
      clear hv M1 v
      try dsimp only [Nat.reduceAdd, Option.toList, List.cons_append, List.nil_append, List.drop]
      refine xS.br0 (c := .ne) (off := 9) (l := 3) rfl rfl (fun h37 => ?_) (fun h37 => ?_)
      · have g37 := xt_ne h37
        refine xS.s1 rfl rfl ?_
        try dsimp only [Nat.reduceAdd]
        refine xS.gR rfl rfl rfl ⟨by decide, rfl⟩ rfl ?_
        try dsimp only [Nat.reduceAdd]
        refine xS.s1 rfl rfl ?_
        try dsimp only [Nat.reduceAdd, xj_60]
        refine xS.s1 rfl rfl ?_
        try dsimp only [Nat.reduceAdd]
        refine xS.s1 rfl rfl ?_
        try dsimp only [Nat.reduceAdd]
        refine xS.s1 rfl rfl ?_
        try dsimp only [Nat.reduceAdd]
        refine xS.s1 rfl rfl ?_
        try dsimp only [Nat.reduceAdd]
        rw [show (((60 * nI p) + nI t) : Int32) = nI ((60 * p) + t) from by simp only [← nI_add, ← pk_mul]; rfl]
        refine xS.ia rfl xar_77 (by omega) ?_
        try dsimp only [Nat.reduceAdd]
        refine xS.s1 rfl rfl ?_
        try dsimp only [Nat.reduceAdd]
        refine xS.s1 rfl rfl ?_
        try dsimp only [Nat.reduceAdd]
        refine xS.gR rfl rfl rfl ⟨by decide, rfl⟩ rfl ?_
        try dsimp only [Nat.reduceAdd]
        refine xS.s1 rfl rfl ?_
        try dsimp only [Nat.reduceAdd, xj_60]
        refine xS.s1 rfl rfl ?_
        try dsimp only [Nat.reduceAdd]
        refine xS.s1 rfl rfl ?_
        try dsimp only [Nat.reduceAdd]
        refine xS.s1 rfl rfl ?_
        try dsimp only [Nat.reduceAdd]
        refine xS.s1 rfl rfl ?_
        try dsimp only [Nat.reduceAdd]
        refine xS.s1 rfl rfl ?_
        try dsimp only [Nat.reduceAdd]
        refine xS.s1 rfl rfl ?_
        try dsimp only [Nat.reduceAdd]
        rw [show (((60 * nI p) + nI t) : Int32) = nI ((60 * p) + t) from by simp only [← nI_add, ← pk_mul]; rfl]
        refine xS.ias rfl xar_77 (by omega) ?_
        try dsimp only [Nat.reduceAdd]
        refine xS.s1 rfl rfl ?_
        try dsimp only [Nat.reduceAdd]
        refine xS.s1 rfl rfl ?_
        try dsimp only [Nat.reduceAdd, xk_1000]
        refine xS.s1 rfl rfl ?_
        try dsimp only [Nat.reduceAdd]
        refine xS.ret rfl rfl rfl (fun _ _ => rfl) ?_
        exact ⟨rfl, rfl⟩
      · have g37 := xf_ne h37
        exfalso; first | exact absurd g37 (by decide) | (simp (disch := omega) only [Int32.lt_iff_toInt_lt, Int32.le_iff_toInt_le, nI_toInt, Int32.reduceToInt] at g37 <;> omega)
    · have g15 := xf_ge h15
      exfalso; rw [hs] at g15; exact absurd g15 (nI_pos (by omega))
  · have g4 := xf_ne h4
    exfalso; first | exact absurd g4 (by decide) | (simp (disch := omega) only [Int32.lt_iff_toInt_lt, Int32.le_iff_toInt_le, nI_toInt, Int32.reduceToInt] at g4 <;> omega)

set_option maxRecDepth 10000 in
theorem c_X12_mean_bad (hx : ¬ (0 ≤ x ∧ x < 6)) : xT (k + 3) 165 [.ref 73, .int x] (xH b g l) (fun r M' => M' = xH b g l ∧ r = some (.int (-1))) := by
  refine xT.of rfl (Nat.le_of_ble_eq_true rfl) ?_
  change xS _ _ 0 [(0, .ref 73), (1, .int x)] [] _ _
  refine xS.s1 rfl rfl ?_
  try dsimp only [Nat.reduceAdd]
  -- 1 yX12_isRow
  refine xS.callS rfl rfl rfl ⟨Nat.le_of_ble_eq_true rfl, rfl⟩ c_X12_isRow (fun v M1 hv => ?_)
  rw [hv.1, hv.2]
  clear hv M1 v
  try dsimp only [Nat.reduceAdd, Option.toList, List.cons_append, List.nil_append, List.drop]
  refine xS.br0 (c := .ne) (off := 5) (l := 3) rfl rfl (fun h4 => ?_) (fun h4 => ?_)
  · have g4 := xt_ne h4
    exact absurd (xif1 g4) hx
  · have g4 := xf_ne h4
    refine xS.s1 rfl rfl ?_
    try dsimp only [Nat.reduceAdd, xi_m1]
    refine xS.ret rfl rfl rfl (fun _ _ => rfl) ?_
    exact ⟨rfl, rfl⟩

set_option maxRecDepth 10000 in
theorem c_X12_mean_no (hp1 : p < 6) (hs : g 74 p = -1) : xT (k + 3) 165 [.ref 73, .int (nI p)] (xH b g l) (fun r M' => M' = xH b (xfR g 1) l ∧ r = some (.int (-3))) := by
  refine xT.of rfl (Nat.le_of_ble_eq_true rfl) ?_
  change xS _ _ 0 [(0, .ref 73), (1, .int (nI p))] [] _ _
  refine xS.s1 rfl rfl ?_
  try dsimp only [Nat.reduceAdd]
  -- 1 yX12_isRow
  refine xS.callS rfl rfl rfl ⟨Nat.le_of_ble_eq_true rfl, rfl⟩ (c_X12_isRow_in hp1) (fun v M1 hv => ?_)
  rw [hv.1, hv.2]
  clear hv M1 v
  try dsimp only [Nat.reduceAdd, Option.toList, List.cons_append, List.nil_append, List.drop]
  refine xS.br0 (c := .ne) (off := 5) (l := 3) rfl rfl (fun h4 => ?_) (fun h4 => ?_)
  · have g4 := xt_ne h4
    refine xS.s1 rfl rfl ?_
    try dsimp only [Nat.reduceAdd]
    refine xS.gR rfl rfl rfl ⟨by decide, rfl⟩ rfl ?_
    try dsimp only [Nat.reduceAdd]
    refine xS.s1 rfl rfl ?_
    try dsimp only [Nat.reduceAdd]
    refine xS.ia rfl xar_74 (by omega) ?_
    try dsimp only [Nat.reduceAdd]
    refine xS.br0 (c := .ge) (off := 9) (l := 3) rfl rfl (fun h15 => ?_) (fun h15 => ?_)
    · have g15 := xt_ge h15
      exfalso; rw [hs] at g15; exact absurd g15 (by decide)
    · have g15 := xf_ge h15
      refine xS.s1 rfl rfl ?_
      try dsimp only [Nat.reduceAdd]
      refine xS.s1 rfl rfl ?_
      try dsimp only [Nat.reduceAdd, xi_1]
      -- 20 yX12_finds
      refine xS.cv rfl rfl rfl rfl rfl rfl ⟨by decide, rfl, rfl⟩ (c_X12_finds (t := 1) (by decide)) (fun v M1 hv => ?_)
      rw [hv.1, hv.2]
      clear hv M1 v
      try dsimp only [Nat.reduceAdd, Option.toList, List.cons_append, List.nil_append, List.drop]
      refine xS.ret rfl rfl rfl (fun _ _ => rfl) ?_
      exact ⟨rfl, rfl⟩
  · have g4 := xf_ne h4
    exfalso; first | exact absurd g4 (by decide) | (simp (disch := omega) only [Int32.lt_iff_toInt_lt, Int32.le_iff_toInt_le, nI_toInt, Int32.reduceToInt] at g4 <;> omega)

set_option maxRecDepth 10000 in
theorem c_X12_mean_nought (hp1 : p < 6) (hs : g 74 p = nI 0) : xT (k + 3) 165 [.ref 73, .int (nI p)] (xH b g l) (fun r M' => M' = xH b (xfR g 4) l ∧ r = some (.int (-3))) := by
  refine xT.of rfl (Nat.le_of_ble_eq_true rfl) ?_
  change xS _ _ 0 [(0, .ref 73), (1, .int (nI p))] [] _ _
  refine xS.s1 rfl rfl ?_
  try dsimp only [Nat.reduceAdd]
  -- 1 yX12_isRow
  refine xS.callS rfl rfl rfl ⟨Nat.le_of_ble_eq_true rfl, rfl⟩ (c_X12_isRow_in hp1) (fun v M1 hv => ?_)
  rw [hv.1, hv.2]
  clear hv M1 v
  try dsimp only [Nat.reduceAdd, Option.toList, List.cons_append, List.nil_append, List.drop]
  refine xS.br0 (c := .ne) (off := 5) (l := 3) rfl rfl (fun h4 => ?_) (fun h4 => ?_)
  · have g4 := xt_ne h4
    refine xS.s1 rfl rfl ?_
    try dsimp only [Nat.reduceAdd]
    refine xS.gR rfl rfl rfl ⟨by decide, rfl⟩ rfl ?_
    try dsimp only [Nat.reduceAdd]
    refine xS.s1 rfl rfl ?_
    try dsimp only [Nat.reduceAdd]
    refine xS.ia rfl xar_74 (by omega) ?_
    try dsimp only [Nat.reduceAdd]
    refine xS.br0 (c := .ge) (off := 9) (l := 3) rfl rfl (fun h15 => ?_) (fun h15 => ?_)
    · have g15 := xt_ge h15
      refine xS.s1 rfl rfl ?_
      try dsimp only [Nat.reduceAdd]
      refine xS.gR rfl rfl rfl ⟨by decide, rfl⟩ rfl ?_
      try dsimp only [Nat.reduceAdd]
      refine xS.s1 rfl rfl ?_
      try dsimp only [Nat.reduceAdd]
      refine xS.ia rfl xar_74 (by omega) ?_
      try dsimp only [Nat.reduceAdd]
      refine xS.br0 (c := .ne) (off := 9) (l := 3) rfl rfl (fun h30 => ?_) (fun h30 => ?_)
      · have g30 := xt_ne h30
        exfalso; rw [hs] at g30; exact absurd g30 (by decide)
      · have g30 := xf_ne h30
        refine xS.s1 rfl rfl ?_
        try dsimp only [Nat.reduceAdd]
        refine xS.s1 rfl rfl ?_
        try dsimp only [Nat.reduceAdd, xi_4]
        -- 35 yX12_finds
        refine xS.cv rfl rfl rfl rfl rfl rfl ⟨by decide, rfl, rfl⟩ (c_X12_finds (t := 4) (by decide)) (fun v M1 hv => ?_)
        rw [hv.1, hv.2]
        clear hv M1 v
        try dsimp only [Nat.reduceAdd, Option.toList, List.cons_append, List.nil_append, List.drop]
        refine xS.ret rfl rfl rfl (fun _ _ => rfl) ?_
        exact ⟨rfl, rfl⟩
    · have g15 := xf_ge h15
      exfalso; rw [hs] at g15; exact absurd g15 (by decide)
  · have g4 := xf_ne h4
    exfalso; first | exact absurd g4 (by decide) | (simp (disch := omega) only [Int32.lt_iff_toInt_lt, Int32.le_iff_toInt_le, nI_toInt, Int32.reduceToInt] at g4 <;> omega)

set_option maxRecDepth 10000 in
theorem c_X12_mean_ok (hp1 : p < 6) (hs : g 74 p = nI m) (hm : m ≤ 40) (hm0 : 0 < m) : xT (k + 3) 165 [.ref 73, .int (nI p)] (xH b g l) (fun r M' => M' = xH b (up g 73 20 (xmean (fun i => g 75 (40 * p + i)) m)) l ∧ r = some (.int 1)) := by
  refine xT.of rfl (Nat.le_of_ble_eq_true rfl) ?_
  change xS _ _ 0 [(0, .ref 73), (1, .int (nI p))] [] _ _
  refine xS.s1 rfl rfl ?_
  try dsimp only [Nat.reduceAdd]
  -- 1 yX12_isRow
  refine xS.callS rfl rfl rfl ⟨Nat.le_of_ble_eq_true rfl, rfl⟩ (c_X12_isRow_in hp1) (fun v M1 hv => ?_)
  rw [hv.1, hv.2]
  clear hv M1 v
  try dsimp only [Nat.reduceAdd, Option.toList, List.cons_append, List.nil_append, List.drop]
  refine xS.br0 (c := .ne) (off := 5) (l := 3) rfl rfl (fun h4 => ?_) (fun h4 => ?_)
  · have g4 := xt_ne h4
    refine xS.s1 rfl rfl ?_
    try dsimp only [Nat.reduceAdd]
    refine xS.gR rfl rfl rfl ⟨by decide, rfl⟩ rfl ?_
    try dsimp only [Nat.reduceAdd]
    refine xS.s1 rfl rfl ?_
    try dsimp only [Nat.reduceAdd]
    refine xS.ia rfl xar_74 (by omega) ?_
    try dsimp only [Nat.reduceAdd]
    refine xS.br0 (c := .ge) (off := 9) (l := 3) rfl rfl (fun h15 => ?_) (fun h15 => ?_)
    · have g15 := xt_ge h15
      refine xS.s1 rfl rfl ?_
      try dsimp only [Nat.reduceAdd]
      refine xS.gR rfl rfl rfl ⟨by decide, rfl⟩ rfl ?_
      try dsimp only [Nat.reduceAdd]
      refine xS.s1 rfl rfl ?_
      try dsimp only [Nat.reduceAdd]
      refine xS.ia rfl xar_74 (by omega) ?_
      try dsimp only [Nat.reduceAdd]
      refine xS.br0 (c := .ne) (off := 9) (l := 3) rfl rfl (fun h30 => ?_) (fun h30 => ?_)
      · have g30 := xt_ne h30
        refine xS.s1 rfl rfl ?_
        try dsimp only [Nat.reduceAdd]
        refine xS.s1 rfl rfl ?_
        try dsimp only [Nat.reduceAdd]
        refine xS.s1 rfl rfl ?_
        try dsimp only [Nat.reduceAdd, xi_0]
        refine xS.s1 rfl rfl ?_
        try dsimp only [Nat.reduceAdd]
        refine xS.pick [0, 1, 2, 3] rfl ?_
        refine xS.loop (σ := Unit) (m) (fun j S => [(4, .int (nI j)), (2, .long (xsum (fun i => g 75 (40 * p + i)) j)), (0, .ref 73), (1, .int (nI p))]) (fun _ _ => xH b g l) (fun _ _ => True) (()) (rfl) (rfl) (trivial) ?_
        intro j S hj hI ih
        try dsimp only
        refine xS.s1 rfl rfl ?_
        try dsimp only [Nat.reduceAdd]
        refine xS.s1 rfl rfl ?_
        try dsimp only [Nat.reduceAdd]
        refine xS.gR rfl rfl rfl ⟨by decide, rfl⟩ rfl ?_
        try dsimp only [Nat.reduceAdd]
        refine xS.s1 rfl rfl ?_
        try dsimp only [Nat.reduceAdd]
        refine xS.ia rfl xar_74 (by omega) ?_
        try dsimp only [Nat.reduceAdd]
        refine xS.br (c := .ge) (off := 25) (l := 3) rfl rfl (fun h52 => ?_) (fun h52 => ?_)
        · have g52 := xt_ge h52
          rw [hs] at g52
          have e := xnle g52 (by omega) (by omega)
          have e2 : m = j := by omega
          subst e2
          refine xS.s1 rfl rfl ?_
          try dsimp only [Nat.reduceAdd]
          refine xS.s1 rfl rfl ?_
          try dsimp only [Nat.reduceAdd]
          refine xS.s1 rfl rfl ?_
          try dsimp only [Nat.reduceAdd]
          refine xS.gR rfl rfl rfl ⟨by decide, rfl⟩ rfl ?_
          try dsimp only [Nat.reduceAdd]
          refine xS.s1 rfl rfl ?_
          try dsimp only [Nat.reduceAdd]
          refine xS.ia rfl xar_74 (by omega) ?_
          try dsimp only [Nat.reduceAdd]
          rw [hs]
          refine xS.s1 rfl rfl ?_
          try dsimp only [Nat.reduceAdd]
          refine xS.ldiv rfl (nI_l0 hm0 (by omega)) ?_
          try dsimp only [Nat.reduceAdd]
          refine xS.s1 rfl rfl ?_
          try dsimp only [Nat.reduceAdd]
          -- 88 yX12_tells
          refine xS.cv rfl rfl rfl rfl rfl rfl ⟨by decide, rfl, rfl⟩ c_X12_tells (fun v M1 hv => ?_)
          rw [hv.1, hv.2]
          clear hv M1 v
          try dsimp only [Nat.reduceAdd, Option.toList, List.cons_append, List.nil_append, List.drop]
          refine xS.ret rfl rfl rfl (fun _ _ => rfl) ?_
          exact ⟨rfl, rfl⟩
        · have g52 := xf_ge h52
          rw [hs] at g52
          have hlt := xnlt g52 (by omega) (by omega)
          refine xS.s1 rfl rfl ?_
          try dsimp only [Nat.reduceAdd]
          refine xS.s1 rfl rfl ?_
          try dsimp only [Nat.reduceAdd]
          refine xS.gR rfl rfl rfl ⟨by decide, rfl⟩ rfl ?_
          try dsimp only [Nat.reduceAdd]
          refine xS.s1 rfl rfl ?_
          try dsimp only [Nat.reduceAdd, xj_40]
          refine xS.s1 rfl rfl ?_
          try dsimp only [Nat.reduceAdd]
          refine xS.s1 rfl rfl ?_
          try dsimp only [Nat.reduceAdd]
          refine xS.s1 rfl rfl ?_
          try dsimp only [Nat.reduceAdd]
          refine xS.s1 rfl rfl ?_
          try dsimp only [Nat.reduceAdd]
          rw [show (((40 * nI p) + nI j) : Int32) = nI ((40 * p) + j) from by simp only [← nI_add, ← pk_mul]; rfl]
          refine xS.ia rfl xar_75 (by omega) ?_
          try dsimp only [Nat.reduceAdd]
          refine xS.s1 rfl rfl ?_
          try dsimp only [Nat.reduceAdd]
          refine xS.s1 rfl rfl ?_
          try dsimp only [Nat.reduceAdd]
          refine xS.s1 rfl rfl ?_
          try dsimp only [Nat.reduceAdd]
          refine xS.s1 rfl rfl ?_
          try dsimp only [Nat.reduceAdd, xi_1]
          rw [nI_1]
          refine xS.s1 rfl rfl ?_
          try dsimp only [Nat.reduceAdd]
          refine xS.pick [0, 1, 2, 3] rfl ?_
          exact ih () (by omega) trivial
      · have g30 := xf_ne h30
        exfalso; rw [hs] at g30; exact nI_ne0 hm0 (by omega) g30
    · have g15 := xf_ge h15
      exfalso; rw [hs] at g15; exact absurd g15 (nI_pos (by omega))
  · have g4 := xf_ne h4
    exfalso; first | exact absurd g4 (by decide) | (simp (disch := omega) only [Int32.lt_iff_toInt_lt, Int32.le_iff_toInt_le, nI_toInt, Int32.reduceToInt] at g4 <;> omega)

set_option maxRecDepth 10000 in
theorem c_X12_mirrored  : xT (k + 1) 180 [.int x] (xH b g l) (fun r M' => M' = xH b g l ∧ r = some (.int (xmir x))) := by
  refine xT.of rfl (Nat.le_of_ble_eq_true rfl) ?_
  change xS _ _ 0 [(0, .int x)] [] _ _
  refine xS.s1 rfl rfl ?_
  try dsimp only [Nat.reduceAdd]
  refine xS.s1 rfl rfl ?_
  try dsimp only [Nat.reduceAdd, xi_1]
  refine xS.br (c := .ne) (off := 7) (l := 3) rfl rfl (fun h2 => ?_) (fun h2 => ?_)
  · have g2 := xt_ne h2
    refine xS.s1 rfl rfl ?_
    try dsimp only [Nat.reduceAdd]
    refine xS.s1 rfl rfl ?_
    try dsimp only [Nat.reduceAdd, xi_2]
    refine xS.br (c := .ne) (off := 7) (l := 3) rfl rfl (fun h11 => ?_) (fun h11 => ?_)
    · have g11 := xt_ne h11
      refine xS.s1 rfl rfl ?_
      try dsimp only [Nat.reduceAdd]
      refine xS.ret rfl rfl rfl (fun _ _ => rfl) ?_
      refine ⟨rfl, ?_⟩
      unfold xmir
      first | (simp [g2, g11]; done) | (simp [g2, g11]; decide)
    · have g11 := xf_ne h11
      refine xS.s1 rfl rfl ?_
      try dsimp only [Nat.reduceAdd, xi_1]
      refine xS.s1 rfl rfl ?_
      try dsimp only [Nat.reduceAdd]
      refine xS.ret rfl rfl rfl (fun _ _ => rfl) ?_
      refine ⟨rfl, ?_⟩
      unfold xmir
      first | (simp [g2, g11]; done) | (simp [g2, g11]; decide)
  · have g2 := xf_ne h2
    refine xS.s1 rfl rfl ?_
    try dsimp only [Nat.reduceAdd, xi_2]
    refine xS.s1 rfl rfl ?_
    try dsimp only [Nat.reduceAdd]
    refine xS.ret rfl rfl rfl (fun _ _ => rfl) ?_
    refine ⟨rfl, ?_⟩
    unfold xmir
    first | (simp [g2]; done) | (simp [g2]; decide)

set_option maxRecDepth 10000 in
theorem c_X12_showsBy_0 (hA : xar a n) (hR : xRr g h tx G T Lw) (ht : t < 2 ^ 30) (hd4 : d < 4) (hn : t < n) (hf : g a t = nI (f t)) (hf6 : f t < 6) : xT (k + 2) 181 [.ref 73, .int (nI 0), .int (nI d), .ref a, .int (nI t)] (xH b g l) (fun r M' => M' = xH b g l ∧ r = some (.int (xshw h 0 d f t))) := by
  refine xT.of rfl (Nat.le_of_ble_eq_true rfl) ?_
  change xS _ _ 0 [(0, .ref 73), (1, .int (nI 0)), (2, .int (nI d)), (3, .ref a), (4, .int (nI t))] [] _ _
  refine xS.s1 rfl rfl ?_
  try dsimp only [Nat.reduceAdd]
  refine xS.s1 rfl rfl ?_
  try dsimp only [Nat.reduceAdd, xi_1]
  refine xS.br (c := .eq) (off := 8) (l := 3) rfl rfl (fun h2 => ?_) (fun h2 => ?_)
  · have g2 := xt_eq h2
    exfalso; first | exact absurd g2 (by decide) | (simp (disch := omega) only [Int32.lt_iff_toInt_lt, Int32.le_iff_toInt_le, nI_toInt, Int32.reduceToInt] at g2 <;> omega)
  · have g2 := xf_eq h2
    refine xS.s1 rfl rfl ?_
    try dsimp only [Nat.reduceAdd]
    refine xS.s1 rfl rfl ?_
    try dsimp only [Nat.reduceAdd, xi_4]
    refine xS.br (c := .ne) (off := 7) (l := 3) rfl rfl (fun h7 => ?_) (fun h7 => ?_)
    · have g7 := xt_ne h7
      refine xS.s1 rfl rfl ?_
      try dsimp only [Nat.reduceAdd, xi_0]
      refine xS.s1 rfl rfl ?_
      try dsimp only [Nat.reduceAdd]
      refine xS.s1 rfl rfl ?_
      try dsimp only [Nat.reduceAdd]
      refine xS.br0 (c := .eq) (off := 10) (l := 3) rfl rfl (fun h19 => ?_) (fun h19 => ?_)
      · have g19 := xt_eq h19
        refine xS.s1 rfl rfl ?_
        try dsimp only [Nat.reduceAdd]
        refine xS.s1 rfl rfl ?_
        try dsimp only [Nat.reduceAdd]
        refine xS.s1 rfl rfl ?_
        try dsimp only [Nat.reduceAdd]
        refine xS.br0 (c := .ge) (off := 7) (l := 3) rfl rfl (fun h35 => ?_) (fun h35 => ?_)
        · have g35 := xt_ge h35
          refine xS.s1 rfl rfl ?_
          try dsimp only [Nat.reduceAdd]
          refine xS.s1 rfl rfl ?_
          try dsimp only [Nat.reduceAdd]
          refine xS.ia rfl hA (by omega) ?_
          try dsimp only [Nat.reduceAdd]
          rw [hf]
          refine xS.s1 rfl rfl ?_
          try dsimp only [Nat.reduceAdd]
          refine xS.s1 rfl rfl ?_
          try dsimp only [Nat.reduceAdd]
          refine xS.s1 rfl rfl ?_
          try dsimp only [Nat.reduceAdd, xi_4]
          refine xS.br (c := .ne) (off := 11) (l := 3) rfl rfl (fun h50 => ?_) (fun h50 => ?_)
          · have g50 := xt_ne h50
            refine xS.s1 rfl rfl ?_
            try dsimp only [Nat.reduceAdd]
            refine xS.s1 rfl rfl ?_
            try dsimp only [Nat.reduceAdd, xi_2]
            refine xS.br (c := .ne) (off := 13) (l := 3) rfl rfl (fun h63 => ?_) (fun h63 => ?_)
            · have g63 := xt_ne h63
              refine xS.s1 rfl rfl ?_
              try dsimp only [Nat.reduceAdd]
              refine xS.s1 rfl rfl ?_
              try dsimp only [Nat.reduceAdd, xi_3]
              refine xS.br (c := .eq) (off := 16) (l := 3) rfl rfl (fun h78 => ?_) (fun h78 => ?_)
              · have g78 := xt_eq h78
                exfalso; first | exact absurd g78 (by decide) | (simp (disch := omega) only [Int32.lt_iff_toInt_lt, Int32.le_iff_toInt_le, nI_toInt, Int32.reduceToInt] at g78 <;> omega)
              · have g78 := xf_eq h78
                refine xS.s1 rfl rfl ?_
                try dsimp only [Nat.reduceAdd]
                refine xS.s1 rfl rfl ?_
                try dsimp only [Nat.reduceAdd, xi_5]
                refine xS.br (c := .ne) (off := 15) (l := 3) rfl rfl (fun h83 => ?_) (fun h83 => ?_)
                · have g83 := xt_ne h83
                  refine xS.s1 rfl rfl ?_
                  try dsimp only [Nat.reduceAdd, xi_0]
                  refine xS.s1 rfl rfl ?_
                  try dsimp only [Nat.reduceAdd]
                  refine xS.s1 rfl rfl ?_
                  try dsimp only [Nat.reduceAdd]
                  refine xS.br0 (c := .eq) (off := 13) (l := 3) rfl rfl (fun h103 => ?_) (fun h103 => ?_)
                  · have g103 := xt_eq h103
                    refine xS.s1 rfl rfl ?_
                    try dsimp only [Nat.reduceAdd]
                    -- 118 yX12_mirrored
                    refine xS.callS rfl rfl rfl ⟨Nat.le_of_ble_eq_true rfl, rfl⟩ c_X12_mirrored (fun v M1 hv => ?_)
                    rw [hv.1, hv.2]
                    clear hv M1 v
                    try dsimp only [Nat.reduceAdd, Option.toList, List.cons_append, List.nil_append, List.drop]
                    refine xS.ret rfl rfl rfl (fun _ _ => rfl) ?_
                    refine ⟨rfl, ?_⟩
                    simp [xshw, xsrc, xseen, xth]
                    try rfl
                  · have g103 := xf_eq h103
                    exfalso; first | exact absurd g103 (by decide) | (simp (disch := omega) only [Int32.lt_iff_toInt_lt, Int32.le_iff_toInt_le, nI_toInt, Int32.reduceToInt] at g103 <;> omega)
                · have g83 := xf_ne h83
                  exfalso; first | exact absurd g83 (by decide) | (simp (disch := omega) only [Int32.lt_iff_toInt_lt, Int32.le_iff_toInt_le, nI_toInt, Int32.reduceToInt] at g83 <;> omega)
            · have g63 := xf_ne h63
              exfalso; first | exact absurd g63 (by decide) | (simp (disch := omega) only [Int32.lt_iff_toInt_lt, Int32.le_iff_toInt_le, nI_toInt, Int32.reduceToInt] at g63 <;> omega)
          · have g50 := xf_ne h50
            exfalso; first | exact absurd g50 (by decide) | (simp (disch := omega) only [Int32.lt_iff_toInt_lt, Int32.le_iff_toInt_le, nI_toInt, Int32.reduceToInt] at g50 <;> omega)
        · have g35 := xf_ge h35
          exact absurd g35 (nI_pos (by omega))
      · have g19 := xf_eq h19
        exfalso; first | exact absurd g19 (by decide) | (simp (disch := omega) only [Int32.lt_iff_toInt_lt, Int32.le_iff_toInt_le, nI_toInt, Int32.reduceToInt] at g19 <;> omega)
    · have g7 := xf_ne h7
      exfalso; first | exact absurd g7 (by decide) | (simp (disch := omega) only [Int32.lt_iff_toInt_lt, Int32.le_iff_toInt_le, nI_toInt, Int32.reduceToInt] at g7 <;> omega)

set_option maxRecDepth 10000 in
theorem c_X12_showsBy_1a (hA : xar a n) (hR : xRr g h tx G T Lw) (ht : t < 2 ^ 30) (hd4 : d < 4) (hdt : t < d) : xT (k + 2) 181 [.ref 73, .int (nI 1), .int (nI d), .ref a, .int (nI t)] (xH b g l) (fun r M' => M' = xH b g l ∧ r = some (.int (xshw h 1 d f t))) := by
  refine xT.of rfl (Nat.le_of_ble_eq_true rfl) ?_
  change xS _ _ 0 [(0, .ref 73), (1, .int (nI 1)), (2, .int (nI d)), (3, .ref a), (4, .int (nI t))] [] _ _
  refine xS.s1 rfl rfl ?_
  try dsimp only [Nat.reduceAdd]
  refine xS.s1 rfl rfl ?_
  try dsimp only [Nat.reduceAdd, xi_1]
  refine xS.br (c := .eq) (off := 8) (l := 3) rfl rfl (fun h2 => ?_) (fun h2 => ?_)
  · have g2 := xt_eq h2
    refine xS.s1 rfl rfl ?_
    try dsimp only [Nat.reduceAdd, xi_1]
    refine xS.s1 rfl rfl ?_
    try dsimp only [Nat.reduceAdd]
    refine xS.s1 rfl rfl ?_
    try dsimp only [Nat.reduceAdd]
    refine xS.s1 rfl rfl ?_
    try dsimp only [Nat.reduceAdd]
    refine xS.br0 (c := .eq) (off := 10) (l := 3) rfl rfl (fun h19 => ?_) (fun h19 => ?_)
    · have g19 := xt_eq h19
      exfalso; first | exact absurd g19 (by decide) | (simp (disch := omega) only [Int32.lt_iff_toInt_lt, Int32.le_iff_toInt_le, nI_toInt, Int32.reduceToInt] at g19 <;> omega)
    · have g19 := xf_eq h19
      refine xS.s1 rfl rfl ?_
      try dsimp only [Nat.reduceAdd]
      refine xS.s1 rfl rfl ?_
      try dsimp only [Nat.reduceAdd]
      refine xS.s1 rfl rfl ?_
      try dsimp only [Nat.reduceAdd]
      refine xS.s1 rfl rfl ?_
      try dsimp only [Nat.reduceAdd]
      refine xS.s1 rfl rfl ?_
      try dsimp only [Nat.reduceAdd]
      refine xS.s1 rfl rfl ?_
      try dsimp only [Nat.reduceAdd]
      refine xS.br0 (c := .ge) (off := 7) (l := 3) rfl rfl (fun h35 => ?_) (fun h35 => ?_)
      · have g35 := xt_ge h35
        exact absurd (pk_sneg (by omega) hdt) (Int32.not_lt.mpr g35)
      · have g35 := xf_ge h35
        refine xS.s1 rfl rfl ?_
        try dsimp only [Nat.reduceAdd, xi_0]
        refine xS.s1 rfl rfl ?_
        try dsimp only [Nat.reduceAdd]
        refine xS.s1 rfl rfl ?_
        try dsimp only [Nat.reduceAdd]
        refine xS.s1 rfl rfl ?_
        try dsimp only [Nat.reduceAdd]
        refine xS.s1 rfl rfl ?_
        try dsimp only [Nat.reduceAdd, xi_4]
        refine xS.br (c := .ne) (off := 11) (l := 3) rfl rfl (fun h50 => ?_) (fun h50 => ?_)
        · have g50 := xt_ne h50
          refine xS.s1 rfl rfl ?_
          try dsimp only [Nat.reduceAdd]
          refine xS.s1 rfl rfl ?_
          try dsimp only [Nat.reduceAdd, xi_2]
          refine xS.br (c := .ne) (off := 13) (l := 3) rfl rfl (fun h63 => ?_) (fun h63 => ?_)
          · have g63 := xt_ne h63
            refine xS.s1 rfl rfl ?_
            try dsimp only [Nat.reduceAdd]
            refine xS.s1 rfl rfl ?_
            try dsimp only [Nat.reduceAdd, xi_3]
            refine xS.br (c := .eq) (off := 16) (l := 3) rfl rfl (fun h78 => ?_) (fun h78 => ?_)
            · have g78 := xt_eq h78
              exfalso; first | exact absurd g78 (by decide) | (simp (disch := omega) only [Int32.lt_iff_toInt_lt, Int32.le_iff_toInt_le, nI_toInt, Int32.reduceToInt] at g78 <;> omega)
            · have g78 := xf_eq h78
              refine xS.s1 rfl rfl ?_
              try dsimp only [Nat.reduceAdd]
              refine xS.s1 rfl rfl ?_
              try dsimp only [Nat.reduceAdd, xi_5]
              refine xS.br (c := .ne) (off := 15) (l := 3) rfl rfl (fun h83 => ?_) (fun h83 => ?_)
              · have g83 := xt_ne h83
                refine xS.s1 rfl rfl ?_
                try dsimp only [Nat.reduceAdd, xi_0]
                refine xS.s1 rfl rfl ?_
                try dsimp only [Nat.reduceAdd]
                refine xS.s1 rfl rfl ?_
                try dsimp only [Nat.reduceAdd]
                refine xS.br0 (c := .eq) (off := 13) (l := 3) rfl rfl (fun h103 => ?_) (fun h103 => ?_)
                · have g103 := xt_eq h103
                  refine xS.s1 rfl rfl ?_
                  try dsimp only [Nat.reduceAdd]
                  -- 118 yX12_mirrored
                  refine xS.callS rfl rfl rfl ⟨Nat.le_of_ble_eq_true rfl, rfl⟩ c_X12_mirrored (fun v M1 hv => ?_)
                  rw [hv.1, hv.2]
                  clear hv M1 v
                  try dsimp only [Nat.reduceAdd, Option.toList, List.cons_append, List.nil_append, List.drop]
                  refine xS.ret rfl rfl rfl (fun _ _ => rfl) ?_
                  refine ⟨rfl, ?_⟩
                  simp [xshw, xsrc, xseen, xth, hdt]
                  try rfl
                · have g103 := xf_eq h103
                  exfalso; first | exact absurd g103 (by decide) | (simp (disch := omega) only [Int32.lt_iff_toInt_lt, Int32.le_iff_toInt_le, nI_toInt, Int32.reduceToInt] at g103 <;> omega)
              · have g83 := xf_ne h83
                exfalso; first | exact absurd g83 (by decide) | (simp (disch := omega) only [Int32.lt_iff_toInt_lt, Int32.le_iff_toInt_le, nI_toInt, Int32.reduceToInt] at g83 <;> omega)
          · have g63 := xf_ne h63
            exfalso; first | exact absurd g63 (by decide) | (simp (disch := omega) only [Int32.lt_iff_toInt_lt, Int32.le_iff_toInt_le, nI_toInt, Int32.reduceToInt] at g63 <;> omega)
        · have g50 := xf_ne h50
          exfalso; first | exact absurd g50 (by decide) | (simp (disch := omega) only [Int32.lt_iff_toInt_lt, Int32.le_iff_toInt_le, nI_toInt, Int32.reduceToInt] at g50 <;> omega)
  · have g2 := xf_eq h2
    exfalso; first | exact absurd g2 (by decide) | (simp (disch := omega) only [Int32.lt_iff_toInt_lt, Int32.le_iff_toInt_le, nI_toInt, Int32.reduceToInt] at g2 <;> omega)

set_option maxRecDepth 10000 in
theorem c_X12_showsBy_1b (hA : xar a n) (hR : xRr g h tx G T Lw) (ht : t < 2 ^ 30) (hd4 : d < 4) (hdt : d ≤ t) (hn : t - d < n) (hf : g a (t - d) = nI (f (t - d))) (hf6 : f (t - d) < 6) : xT (k + 2) 181 [.ref 73, .int (nI 1), .int (nI d), .ref a, .int (nI t)] (xH b g l) (fun r M' => M' = xH b g l ∧ r = some (.int (xshw h 1 d f t))) := by
  refine xT.of rfl (Nat.le_of_ble_eq_true rfl) ?_
  change xS _ _ 0 [(0, .ref 73), (1, .int (nI 1)), (2, .int (nI d)), (3, .ref a), (4, .int (nI t))] [] _ _
  refine xS.s1 rfl rfl ?_
  try dsimp only [Nat.reduceAdd]
  refine xS.s1 rfl rfl ?_
  try dsimp only [Nat.reduceAdd, xi_1]
  refine xS.br (c := .eq) (off := 8) (l := 3) rfl rfl (fun h2 => ?_) (fun h2 => ?_)
  · have g2 := xt_eq h2
    refine xS.s1 rfl rfl ?_
    try dsimp only [Nat.reduceAdd, xi_1]
    refine xS.s1 rfl rfl ?_
    try dsimp only [Nat.reduceAdd]
    refine xS.s1 rfl rfl ?_
    try dsimp only [Nat.reduceAdd]
    refine xS.s1 rfl rfl ?_
    try dsimp only [Nat.reduceAdd]
    refine xS.br0 (c := .eq) (off := 10) (l := 3) rfl rfl (fun h19 => ?_) (fun h19 => ?_)
    · have g19 := xt_eq h19
      exfalso; first | exact absurd g19 (by decide) | (simp (disch := omega) only [Int32.lt_iff_toInt_lt, Int32.le_iff_toInt_le, nI_toInt, Int32.reduceToInt] at g19 <;> omega)
    · have g19 := xf_eq h19
      refine xS.s1 rfl rfl ?_
      try dsimp only [Nat.reduceAdd]
      refine xS.s1 rfl rfl ?_
      try dsimp only [Nat.reduceAdd]
      refine xS.s1 rfl rfl ?_
      try dsimp only [Nat.reduceAdd]
      rw [pk_sub hdt]
      refine xS.s1 rfl rfl ?_
      try dsimp only [Nat.reduceAdd]
      refine xS.s1 rfl rfl ?_
      try dsimp only [Nat.reduceAdd]
      refine xS.s1 rfl rfl ?_
      try dsimp only [Nat.reduceAdd]
      refine xS.br0 (c := .ge) (off := 7) (l := 3) rfl rfl (fun h35 => ?_) (fun h35 => ?_)
      · have g35 := xt_ge h35
        refine xS.s1 rfl rfl ?_
        try dsimp only [Nat.reduceAdd]
        refine xS.s1 rfl rfl ?_
        try dsimp only [Nat.reduceAdd]
        refine xS.ia rfl hA (by omega) ?_
        try dsimp only [Nat.reduceAdd]
        rw [hf]
        refine xS.s1 rfl rfl ?_
        try dsimp only [Nat.reduceAdd]
        refine xS.s1 rfl rfl ?_
        try dsimp only [Nat.reduceAdd]
        refine xS.s1 rfl rfl ?_
        try dsimp only [Nat.reduceAdd, xi_4]
        refine xS.br (c := .ne) (off := 11) (l := 3) rfl rfl (fun h50 => ?_) (fun h50 => ?_)
        · have g50 := xt_ne h50
          refine xS.s1 rfl rfl ?_
          try dsimp only [Nat.reduceAdd]
          refine xS.s1 rfl rfl ?_
          try dsimp only [Nat.reduceAdd, xi_2]
          refine xS.br (c := .ne) (off := 13) (l := 3) rfl rfl (fun h63 => ?_) (fun h63 => ?_)
          · have g63 := xt_ne h63
            refine xS.s1 rfl rfl ?_
            try dsimp only [Nat.reduceAdd]
            refine xS.s1 rfl rfl ?_
            try dsimp only [Nat.reduceAdd, xi_3]
            refine xS.br (c := .eq) (off := 16) (l := 3) rfl rfl (fun h78 => ?_) (fun h78 => ?_)
            · have g78 := xt_eq h78
              exfalso; first | exact absurd g78 (by decide) | (simp (disch := omega) only [Int32.lt_iff_toInt_lt, Int32.le_iff_toInt_le, nI_toInt, Int32.reduceToInt] at g78 <;> omega)
            · have g78 := xf_eq h78
              refine xS.s1 rfl rfl ?_
              try dsimp only [Nat.reduceAdd]
              refine xS.s1 rfl rfl ?_
              try dsimp only [Nat.reduceAdd, xi_5]
              refine xS.br (c := .ne) (off := 15) (l := 3) rfl rfl (fun h83 => ?_) (fun h83 => ?_)
              · have g83 := xt_ne h83
                refine xS.s1 rfl rfl ?_
                try dsimp only [Nat.reduceAdd, xi_0]
                refine xS.s1 rfl rfl ?_
                try dsimp only [Nat.reduceAdd]
                refine xS.s1 rfl rfl ?_
                try dsimp only [Nat.reduceAdd]
                refine xS.br0 (c := .eq) (off := 13) (l := 3) rfl rfl (fun h103 => ?_) (fun h103 => ?_)
                · have g103 := xt_eq h103
                  refine xS.s1 rfl rfl ?_
                  try dsimp only [Nat.reduceAdd]
                  -- 118 yX12_mirrored
                  refine xS.callS rfl rfl rfl ⟨Nat.le_of_ble_eq_true rfl, rfl⟩ c_X12_mirrored (fun v M1 hv => ?_)
                  rw [hv.1, hv.2]
                  clear hv M1 v
                  try dsimp only [Nat.reduceAdd, Option.toList, List.cons_append, List.nil_append, List.drop]
                  refine xS.ret rfl rfl rfl (fun _ _ => rfl) ?_
                  refine ⟨rfl, ?_⟩
                  simp [xshw, xsrc, xseen, xth, Nat.not_lt.mpr hdt]
                  try rfl
                · have g103 := xf_eq h103
                  exfalso; first | exact absurd g103 (by decide) | (simp (disch := omega) only [Int32.lt_iff_toInt_lt, Int32.le_iff_toInt_le, nI_toInt, Int32.reduceToInt] at g103 <;> omega)
              · have g83 := xf_ne h83
                exfalso; first | exact absurd g83 (by decide) | (simp (disch := omega) only [Int32.lt_iff_toInt_lt, Int32.le_iff_toInt_le, nI_toInt, Int32.reduceToInt] at g83 <;> omega)
          · have g63 := xf_ne h63
            exfalso; first | exact absurd g63 (by decide) | (simp (disch := omega) only [Int32.lt_iff_toInt_lt, Int32.le_iff_toInt_le, nI_toInt, Int32.reduceToInt] at g63 <;> omega)
        · have g50 := xf_ne h50
          exfalso; first | exact absurd g50 (by decide) | (simp (disch := omega) only [Int32.lt_iff_toInt_lt, Int32.le_iff_toInt_le, nI_toInt, Int32.reduceToInt] at g50 <;> omega)
      · have g35 := xf_ge h35
        exact absurd g35 (nI_pos (by omega))
  · have g2 := xf_eq h2
    exfalso; first | exact absurd g2 (by decide) | (simp (disch := omega) only [Int32.lt_iff_toInt_lt, Int32.le_iff_toInt_le, nI_toInt, Int32.reduceToInt] at g2 <;> omega)

set_option maxRecDepth 10000 in
theorem c_X12_showsBy_2 (hA : xar a n) (hR : xRr g h tx G T Lw) (ht : t < 2 ^ 30) (hd4 : d < 4) (hn : t < n) (hf : g a t = nI (f t)) (hf6 : f t < 6) : xT (k + 2) 181 [.ref 73, .int (nI 2), .int (nI d), .ref a, .int (nI t)] (xH b g l) (fun r M' => M' = xH b g l ∧ r = some (.int (xshw h 2 d f t))) := by
  refine xT.of rfl (Nat.le_of_ble_eq_true rfl) ?_
  change xS _ _ 0 [(0, .ref 73), (1, .int (nI 2)), (2, .int (nI d)), (3, .ref a), (4, .int (nI t))] [] _ _
  refine xS.s1 rfl rfl ?_
  try dsimp only [Nat.reduceAdd]
  refine xS.s1 rfl rfl ?_
  try dsimp only [Nat.reduceAdd, xi_1]
  refine xS.br (c := .eq) (off := 8) (l := 3) rfl rfl (fun h2 => ?_) (fun h2 => ?_)
  · have g2 := xt_eq h2
    exfalso; first | exact absurd g2 (by decide) | (simp (disch := omega) only [Int32.lt_iff_toInt_lt, Int32.le_iff_toInt_le, nI_toInt, Int32.reduceToInt] at g2 <;> omega)
  · have g2 := xf_eq h2
    refine xS.s1 rfl rfl ?_
    try dsimp only [Nat.reduceAdd]
    refine xS.s1 rfl rfl ?_
    try dsimp only [Nat.reduceAdd, xi_4]
    refine xS.br (c := .ne) (off := 7) (l := 3) rfl rfl (fun h7 => ?_) (fun h7 => ?_)
    · have g7 := xt_ne h7
      refine xS.s1 rfl rfl ?_
      try dsimp only [Nat.reduceAdd, xi_0]
      refine xS.s1 rfl rfl ?_
      try dsimp only [Nat.reduceAdd]
      refine xS.s1 rfl rfl ?_
      try dsimp only [Nat.reduceAdd]
      refine xS.br0 (c := .eq) (off := 10) (l := 3) rfl rfl (fun h19 => ?_) (fun h19 => ?_)
      · have g19 := xt_eq h19
        refine xS.s1 rfl rfl ?_
        try dsimp only [Nat.reduceAdd]
        refine xS.s1 rfl rfl ?_
        try dsimp only [Nat.reduceAdd]
        refine xS.s1 rfl rfl ?_
        try dsimp only [Nat.reduceAdd]
        refine xS.br0 (c := .ge) (off := 7) (l := 3) rfl rfl (fun h35 => ?_) (fun h35 => ?_)
        · have g35 := xt_ge h35
          refine xS.s1 rfl rfl ?_
          try dsimp only [Nat.reduceAdd]
          refine xS.s1 rfl rfl ?_
          try dsimp only [Nat.reduceAdd]
          refine xS.ia rfl hA (by omega) ?_
          try dsimp only [Nat.reduceAdd]
          rw [hf]
          refine xS.s1 rfl rfl ?_
          try dsimp only [Nat.reduceAdd]
          refine xS.s1 rfl rfl ?_
          try dsimp only [Nat.reduceAdd]
          refine xS.s1 rfl rfl ?_
          try dsimp only [Nat.reduceAdd, xi_4]
          refine xS.br (c := .ne) (off := 11) (l := 3) rfl rfl (fun h50 => ?_) (fun h50 => ?_)
          · have g50 := xt_ne h50
            refine xS.s1 rfl rfl ?_
            try dsimp only [Nat.reduceAdd]
            refine xS.s1 rfl rfl ?_
            try dsimp only [Nat.reduceAdd, xi_2]
            refine xS.br (c := .ne) (off := 13) (l := 3) rfl rfl (fun h63 => ?_) (fun h63 => ?_)
            · have g63 := xt_ne h63
              exfalso; first | exact absurd g63 (by decide) | (simp (disch := omega) only [Int32.lt_iff_toInt_lt, Int32.le_iff_toInt_le, nI_toInt, Int32.reduceToInt] at g63 <;> omega)
            · have g63 := xf_ne h63
              refine xS.s1 rfl rfl ?_
              try dsimp only [Nat.reduceAdd]
              refine xS.s1 rfl rfl ?_
              try dsimp only [Nat.reduceAdd, xi_2]
              refine xS.s1 rfl rfl ?_
              try dsimp only [Nat.reduceAdd]
              rw [xrem2 (by omega)]
              refine xS.s1 rfl rfl ?_
              try dsimp only [Nat.reduceAdd, xi_1]
              refine xS.br (c := .ne) (off := 5) (l := 3) rfl rfl (fun h71 => ?_) (fun h71 => ?_)
              · have g71 := xt_ne h71
                have e71 : ¬ t % 2 = 1 := fun z => g71 (by rw [z]; rfl)
                refine xS.s1 rfl rfl ?_
                try dsimp only [Nat.reduceAdd]
                refine xS.s1 rfl rfl ?_
                try dsimp only [Nat.reduceAdd, xi_3]
                refine xS.br (c := .eq) (off := 16) (l := 3) rfl rfl (fun h78 => ?_) (fun h78 => ?_)
                · have g78 := xt_eq h78
                  exfalso; first | exact absurd g78 (by decide) | (simp (disch := omega) only [Int32.lt_iff_toInt_lt, Int32.le_iff_toInt_le, nI_toInt, Int32.reduceToInt] at g78 <;> omega)
                · have g78 := xf_eq h78
                  refine xS.s1 rfl rfl ?_
                  try dsimp only [Nat.reduceAdd]
                  refine xS.s1 rfl rfl ?_
                  try dsimp only [Nat.reduceAdd, xi_5]
                  refine xS.br (c := .ne) (off := 15) (l := 3) rfl rfl (fun h83 => ?_) (fun h83 => ?_)
                  · have g83 := xt_ne h83
                    refine xS.s1 rfl rfl ?_
                    try dsimp only [Nat.reduceAdd, xi_0]
                    refine xS.s1 rfl rfl ?_
                    try dsimp only [Nat.reduceAdd]
                    refine xS.s1 rfl rfl ?_
                    try dsimp only [Nat.reduceAdd]
                    refine xS.br0 (c := .eq) (off := 13) (l := 3) rfl rfl (fun h103 => ?_) (fun h103 => ?_)
                    · have g103 := xt_eq h103
                      refine xS.s1 rfl rfl ?_
                      try dsimp only [Nat.reduceAdd]
                      -- 118 yX12_mirrored
                      refine xS.callS rfl rfl rfl ⟨Nat.le_of_ble_eq_true rfl, rfl⟩ c_X12_mirrored (fun v M1 hv => ?_)
                      rw [hv.1, hv.2]
                      clear hv M1 v
                      try dsimp only [Nat.reduceAdd, Option.toList, List.cons_append, List.nil_append, List.drop]
                      refine xS.ret rfl rfl rfl (fun _ _ => rfl) ?_
                      refine ⟨rfl, ?_⟩
                      simp [xshw, xsrc, xseen, xth, e71]
                      try rfl
                    · have g103 := xf_eq h103
                      exfalso; first | exact absurd g103 (by decide) | (simp (disch := omega) only [Int32.lt_iff_toInt_lt, Int32.le_iff_toInt_le, nI_toInt, Int32.reduceToInt] at g103 <;> omega)
                  · have g83 := xf_ne h83
                    exfalso; first | exact absurd g83 (by decide) | (simp (disch := omega) only [Int32.lt_iff_toInt_lt, Int32.le_iff_toInt_le, nI_toInt, Int32.reduceToInt] at g83 <;> omega)
              · have g71 := xf_ne h71
                have e71 : t % 2 = 1 := (nI_eq (b := 1) (by omega) (by omega)).mp g71
                refine xS.s1 rfl rfl ?_
                try dsimp only [Nat.reduceAdd, xi_0]
                refine xS.ret rfl rfl rfl (fun _ _ => rfl) ?_
                refine ⟨rfl, ?_⟩
                simp [xshw, xsrc, xseen, xth, e71]
                try rfl
          · have g50 := xf_ne h50
            exfalso; first | exact absurd g50 (by decide) | (simp (disch := omega) only [Int32.lt_iff_toInt_lt, Int32.le_iff_toInt_le, nI_toInt, Int32.reduceToInt] at g50 <;> omega)
        · have g35 := xf_ge h35
          exact absurd g35 (nI_pos (by omega))
      · have g19 := xf_eq h19
        exfalso; first | exact absurd g19 (by decide) | (simp (disch := omega) only [Int32.lt_iff_toInt_lt, Int32.le_iff_toInt_le, nI_toInt, Int32.reduceToInt] at g19 <;> omega)
    · have g7 := xf_ne h7
      exfalso; first | exact absurd g7 (by decide) | (simp (disch := omega) only [Int32.lt_iff_toInt_lt, Int32.le_iff_toInt_le, nI_toInt, Int32.reduceToInt] at g7 <;> omega)

set_option maxRecDepth 10000 in
theorem c_X12_showsBy_3 (hA : xar a n) (hR : xRr g h tx G T Lw) (ht : t < 2 ^ 30) (hd4 : d < 4) (hn : t < n) (hf : g a t = nI (f t)) (hf6 : f t < 6) : xT (k + 2) 181 [.ref 73, .int (nI 3), .int (nI d), .ref a, .int (nI t)] (xH b g l) (fun r M' => M' = xH b g l ∧ r = some (.int (xshw h 3 d f t))) := by
  refine xT.of rfl (Nat.le_of_ble_eq_true rfl) ?_
  change xS _ _ 0 [(0, .ref 73), (1, .int (nI 3)), (2, .int (nI d)), (3, .ref a), (4, .int (nI t))] [] _ _
  refine xS.s1 rfl rfl ?_
  try dsimp only [Nat.reduceAdd]
  refine xS.s1 rfl rfl ?_
  try dsimp only [Nat.reduceAdd, xi_1]
  refine xS.br (c := .eq) (off := 8) (l := 3) rfl rfl (fun h2 => ?_) (fun h2 => ?_)
  · have g2 := xt_eq h2
    exfalso; first | exact absurd g2 (by decide) | (simp (disch := omega) only [Int32.lt_iff_toInt_lt, Int32.le_iff_toInt_le, nI_toInt, Int32.reduceToInt] at g2 <;> omega)
  · have g2 := xf_eq h2
    refine xS.s1 rfl rfl ?_
    try dsimp only [Nat.reduceAdd]
    refine xS.s1 rfl rfl ?_
    try dsimp only [Nat.reduceAdd, xi_4]
    refine xS.br (c := .ne) (off := 7) (l := 3) rfl rfl (fun h7 => ?_) (fun h7 => ?_)
    · have g7 := xt_ne h7
      refine xS.s1 rfl rfl ?_
      try dsimp only [Nat.reduceAdd, xi_0]
      refine xS.s1 rfl rfl ?_
      try dsimp only [Nat.reduceAdd]
      refine xS.s1 rfl rfl ?_
      try dsimp only [Nat.reduceAdd]
      refine xS.br0 (c := .eq) (off := 10) (l := 3) rfl rfl (fun h19 => ?_) (fun h19 => ?_)
      · have g19 := xt_eq h19
        refine xS.s1 rfl rfl ?_
        try dsimp only [Nat.reduceAdd]
        refine xS.s1 rfl rfl ?_
        try dsimp only [Nat.reduceAdd]
        refine xS.s1 rfl rfl ?_
        try dsimp only [Nat.reduceAdd]
        refine xS.br0 (c := .ge) (off := 7) (l := 3) rfl rfl (fun h35 => ?_) (fun h35 => ?_)
        · have g35 := xt_ge h35
          refine xS.s1 rfl rfl ?_
          try dsimp only [Nat.reduceAdd]
          refine xS.s1 rfl rfl ?_
          try dsimp only [Nat.reduceAdd]
          refine xS.ia rfl hA (by omega) ?_
          try dsimp only [Nat.reduceAdd]
          rw [hf]
          refine xS.s1 rfl rfl ?_
          try dsimp only [Nat.reduceAdd]
          refine xS.s1 rfl rfl ?_
          try dsimp only [Nat.reduceAdd]
          refine xS.s1 rfl rfl ?_
          try dsimp only [Nat.reduceAdd, xi_4]
          refine xS.br (c := .ne) (off := 11) (l := 3) rfl rfl (fun h50 => ?_) (fun h50 => ?_)
          · have g50 := xt_ne h50
            refine xS.s1 rfl rfl ?_
            try dsimp only [Nat.reduceAdd]
            refine xS.s1 rfl rfl ?_
            try dsimp only [Nat.reduceAdd, xi_2]
            refine xS.br (c := .ne) (off := 13) (l := 3) rfl rfl (fun h63 => ?_) (fun h63 => ?_)
            · have g63 := xt_ne h63
              refine xS.s1 rfl rfl ?_
              try dsimp only [Nat.reduceAdd]
              refine xS.s1 rfl rfl ?_
              try dsimp only [Nat.reduceAdd, xi_3]
              refine xS.br (c := .eq) (off := 16) (l := 3) rfl rfl (fun h78 => ?_) (fun h78 => ?_)
              · have g78 := xt_eq h78
                refine xS.s1 rfl rfl ?_
                try dsimp only [Nat.reduceAdd, xi_1]
                refine xS.s1 rfl rfl ?_
                try dsimp only [Nat.reduceAdd]
                refine xS.s1 rfl rfl ?_
                try dsimp only [Nat.reduceAdd]
                refine xS.s1 rfl rfl ?_
                try dsimp only [Nat.reduceAdd]
                refine xS.br0 (c := .eq) (off := 13) (l := 3) rfl rfl (fun h103 => ?_) (fun h103 => ?_)
                · have g103 := xt_eq h103
                  exfalso; first | exact absurd g103 (by decide) | (simp (disch := omega) only [Int32.lt_iff_toInt_lt, Int32.le_iff_toInt_le, nI_toInt, Int32.reduceToInt] at g103 <;> omega)
                · have g103 := xf_eq h103
                  refine xS.s1 rfl rfl ?_
                  try dsimp only [Nat.reduceAdd]
                  refine xS.gR rfl rfl rfl ⟨by decide, rfl⟩ rfl ?_
                  try dsimp only [Nat.reduceAdd]
                  refine xS.s1 rfl rfl ?_
                  try dsimp only [Nat.reduceAdd]
                  refine xS.ia rfl xar_81 hf6 ?_
                  try dsimp only [Nat.reduceAdd]
                  rw [(hR.2.2.2.1 _ hf6).1]
                  refine xS.s1 rfl rfl ?_
                  try dsimp only [Nat.reduceAdd]
                  -- 118 yX12_mirrored
                  refine xS.callS rfl rfl rfl ⟨Nat.le_of_ble_eq_true rfl, rfl⟩ c_X12_mirrored (fun v M1 hv => ?_)
                  rw [hv.1, hv.2]
                  clear hv M1 v
                  try dsimp only [Nat.reduceAdd, Option.toList, List.cons_append, List.nil_append, List.drop]
                  refine xS.ret rfl rfl rfl (fun _ _ => rfl) ?_
                  refine ⟨rfl, ?_⟩
                  simp [xshw, xsrc, xseen, xth]
                  try rfl
              · have g78 := xf_eq h78
                exfalso; first | exact absurd g78 (by decide) | (simp (disch := omega) only [Int32.lt_iff_toInt_lt, Int32.le_iff_toInt_le, nI_toInt, Int32.reduceToInt] at g78 <;> omega)
            · have g63 := xf_ne h63
              exfalso; first | exact absurd g63 (by decide) | (simp (disch := omega) only [Int32.lt_iff_toInt_lt, Int32.le_iff_toInt_le, nI_toInt, Int32.reduceToInt] at g63 <;> omega)
          · have g50 := xf_ne h50
            exfalso; first | exact absurd g50 (by decide) | (simp (disch := omega) only [Int32.lt_iff_toInt_lt, Int32.le_iff_toInt_le, nI_toInt, Int32.reduceToInt] at g50 <;> omega)
        · have g35 := xf_ge h35
          exact absurd g35 (nI_pos (by omega))
      · have g19 := xf_eq h19
        exfalso; first | exact absurd g19 (by decide) | (simp (disch := omega) only [Int32.lt_iff_toInt_lt, Int32.le_iff_toInt_le, nI_toInt, Int32.reduceToInt] at g19 <;> omega)
    · have g7 := xf_ne h7
      exfalso; first | exact absurd g7 (by decide) | (simp (disch := omega) only [Int32.lt_iff_toInt_lt, Int32.le_iff_toInt_le, nI_toInt, Int32.reduceToInt] at g7 <;> omega)

set_option maxRecDepth 10000 in
theorem c_X12_showsBy_4a (hA : xar a n) (hR : xRr g h tx G T Lw) (ht : t < 2 ^ 30) (hd4 : d < 4) (hdt : t < d) : xT (k + 2) 181 [.ref 73, .int (nI 4), .int (nI d), .ref a, .int (nI t)] (xH b g l) (fun r M' => M' = xH b g l ∧ r = some (.int (xshw h 4 d f t))) := by
  refine xT.of rfl (Nat.le_of_ble_eq_true rfl) ?_
  change xS _ _ 0 [(0, .ref 73), (1, .int (nI 4)), (2, .int (nI d)), (3, .ref a), (4, .int (nI t))] [] _ _
  refine xS.s1 rfl rfl ?_
  try dsimp only [Nat.reduceAdd]
  refine xS.s1 rfl rfl ?_
  try dsimp only [Nat.reduceAdd, xi_1]
  refine xS.br (c := .eq) (off := 8) (l := 3) rfl rfl (fun h2 => ?_) (fun h2 => ?_)
  · have g2 := xt_eq h2
    exfalso; first | exact absurd g2 (by decide) | (simp (disch := omega) only [Int32.lt_iff_toInt_lt, Int32.le_iff_toInt_le, nI_toInt, Int32.reduceToInt] at g2 <;> omega)
  · have g2 := xf_eq h2
    refine xS.s1 rfl rfl ?_
    try dsimp only [Nat.reduceAdd]
    refine xS.s1 rfl rfl ?_
    try dsimp only [Nat.reduceAdd, xi_4]
    refine xS.br (c := .ne) (off := 7) (l := 3) rfl rfl (fun h7 => ?_) (fun h7 => ?_)
    · have g7 := xt_ne h7
      exfalso; first | exact absurd g7 (by decide) | (simp (disch := omega) only [Int32.lt_iff_toInt_lt, Int32.le_iff_toInt_le, nI_toInt, Int32.reduceToInt] at g7 <;> omega)
    · have g7 := xf_ne h7
      refine xS.s1 rfl rfl ?_
      try dsimp only [Nat.reduceAdd, xi_1]
      refine xS.s1 rfl rfl ?_
      try dsimp only [Nat.reduceAdd]
      refine xS.s1 rfl rfl ?_
      try dsimp only [Nat.reduceAdd]
      refine xS.s1 rfl rfl ?_
      try dsimp only [Nat.reduceAdd]
      refine xS.br0 (c := .eq) (off := 10) (l := 3) rfl rfl (fun h19 => ?_) (fun h19 => ?_)
      · have g19 := xt_eq h19
        exfalso; first | exact absurd g19 (by decide) | (simp (disch := omega) only [Int32.lt_iff_toInt_lt, Int32.le_iff_toInt_le, nI_toInt, Int32.reduceToInt] at g19 <;> omega)
      · have g19 := xf_eq h19
        refine xS.s1 rfl rfl ?_
        try dsimp only [Nat.reduceAdd]
        refine xS.s1 rfl rfl ?_
        try dsimp only [Nat.reduceAdd]
        refine xS.s1 rfl rfl ?_
        try dsimp only [Nat.reduceAdd]
        refine xS.s1 rfl rfl ?_
        try dsimp only [Nat.reduceAdd]
        refine xS.s1 rfl rfl ?_
        try dsimp only [Nat.reduceAdd]
        refine xS.s1 rfl rfl ?_
        try dsimp only [Nat.reduceAdd]
        refine xS.br0 (c := .ge) (off := 7) (l := 3) rfl rfl (fun h35 => ?_) (fun h35 => ?_)
        · have g35 := xt_ge h35
          exact absurd (pk_sneg (by omega) hdt) (Int32.not_lt.mpr g35)
        · have g35 := xf_ge h35
          refine xS.s1 rfl rfl ?_
          try dsimp only [Nat.reduceAdd, xi_0]
          refine xS.s1 rfl rfl ?_
          try dsimp only [Nat.reduceAdd]
          refine xS.s1 rfl rfl ?_
          try dsimp only [Nat.reduceAdd]
          refine xS.s1 rfl rfl ?_
          try dsimp only [Nat.reduceAdd]
          refine xS.s1 rfl rfl ?_
          try dsimp only [Nat.reduceAdd, xi_4]
          refine xS.br (c := .ne) (off := 11) (l := 3) rfl rfl (fun h50 => ?_) (fun h50 => ?_)
          · have g50 := xt_ne h50
            exfalso; first | exact absurd g50 (by decide) | (simp (disch := omega) only [Int32.lt_iff_toInt_lt, Int32.le_iff_toInt_le, nI_toInt, Int32.reduceToInt] at g50 <;> omega)
          · have g50 := xf_ne h50
            refine xS.s1 rfl rfl ?_
            try dsimp only [Nat.reduceAdd]
            refine xS.s1 rfl rfl ?_
            try dsimp only [Nat.reduceAdd, xi_3]
            refine xS.s1 rfl rfl ?_
            try dsimp only [Nat.reduceAdd]
            rw [xrem3 (by omega)]
            refine xS.s1 rfl rfl ?_
            try dsimp only [Nat.reduceAdd, xi_2]
            refine xS.br (c := .eq) (off := 16) (l := 3) rfl rfl (fun h58 => ?_) (fun h58 => ?_)
            · have g58 := xt_eq h58
              have e58 : t % 3 = 2 := (nI_eq (b := 2) (by omega) (by omega)).mp g58
              refine xS.s1 rfl rfl ?_
              try dsimp only [Nat.reduceAdd, xi_0]
              refine xS.ret rfl rfl rfl (fun _ _ => rfl) ?_
              refine ⟨rfl, ?_⟩
              simp [xshw, xsrc, xseen, xth, hdt, e58]
              try rfl
            · have g58 := xf_eq h58
              have e58 : ¬ t % 3 = 2 := fun z => g58 (by rw [z]; rfl)
              refine xS.s1 rfl rfl ?_
              try dsimp only [Nat.reduceAdd]
              refine xS.s1 rfl rfl ?_
              try dsimp only [Nat.reduceAdd, xi_2]
              refine xS.br (c := .ne) (off := 13) (l := 3) rfl rfl (fun h63 => ?_) (fun h63 => ?_)
              · have g63 := xt_ne h63
                refine xS.s1 rfl rfl ?_
                try dsimp only [Nat.reduceAdd]
                refine xS.s1 rfl rfl ?_
                try dsimp only [Nat.reduceAdd, xi_3]
                refine xS.br (c := .eq) (off := 16) (l := 3) rfl rfl (fun h78 => ?_) (fun h78 => ?_)
                · have g78 := xt_eq h78
                  exfalso; first | exact absurd g78 (by decide) | (simp (disch := omega) only [Int32.lt_iff_toInt_lt, Int32.le_iff_toInt_le, nI_toInt, Int32.reduceToInt] at g78 <;> omega)
                · have g78 := xf_eq h78
                  refine xS.s1 rfl rfl ?_
                  try dsimp only [Nat.reduceAdd]
                  refine xS.s1 rfl rfl ?_
                  try dsimp only [Nat.reduceAdd, xi_5]
                  refine xS.br (c := .ne) (off := 15) (l := 3) rfl rfl (fun h83 => ?_) (fun h83 => ?_)
                  · have g83 := xt_ne h83
                    refine xS.s1 rfl rfl ?_
                    try dsimp only [Nat.reduceAdd, xi_0]
                    refine xS.s1 rfl rfl ?_
                    try dsimp only [Nat.reduceAdd]
                    refine xS.s1 rfl rfl ?_
                    try dsimp only [Nat.reduceAdd]
                    refine xS.br0 (c := .eq) (off := 13) (l := 3) rfl rfl (fun h103 => ?_) (fun h103 => ?_)
                    · have g103 := xt_eq h103
                      refine xS.s1 rfl rfl ?_
                      try dsimp only [Nat.reduceAdd]
                      -- 118 yX12_mirrored
                      refine xS.callS rfl rfl rfl ⟨Nat.le_of_ble_eq_true rfl, rfl⟩ c_X12_mirrored (fun v M1 hv => ?_)
                      rw [hv.1, hv.2]
                      clear hv M1 v
                      try dsimp only [Nat.reduceAdd, Option.toList, List.cons_append, List.nil_append, List.drop]
                      refine xS.ret rfl rfl rfl (fun _ _ => rfl) ?_
                      refine ⟨rfl, ?_⟩
                      simp [xshw, xsrc, xseen, xth, hdt, e58]
                      try rfl
                    · have g103 := xf_eq h103
                      exfalso; first | exact absurd g103 (by decide) | (simp (disch := omega) only [Int32.lt_iff_toInt_lt, Int32.le_iff_toInt_le, nI_toInt, Int32.reduceToInt] at g103 <;> omega)
                  · have g83 := xf_ne h83
                    exfalso; first | exact absurd g83 (by decide) | (simp (disch := omega) only [Int32.lt_iff_toInt_lt, Int32.le_iff_toInt_le, nI_toInt, Int32.reduceToInt] at g83 <;> omega)
              · have g63 := xf_ne h63
                exfalso; first | exact absurd g63 (by decide) | (simp (disch := omega) only [Int32.lt_iff_toInt_lt, Int32.le_iff_toInt_le, nI_toInt, Int32.reduceToInt] at g63 <;> omega)

set_option maxRecDepth 10000 in
theorem c_X12_showsBy_4b (hA : xar a n) (hR : xRr g h tx G T Lw) (ht : t < 2 ^ 30) (hd4 : d < 4) (hdt : d ≤ t) (hn : t - d < n) (hf : g a (t - d) = nI (f (t - d))) (hf6 : f (t - d) < 6) : xT (k + 2) 181 [.ref 73, .int (nI 4), .int (nI d), .ref a, .int (nI t)] (xH b g l) (fun r M' => M' = xH b g l ∧ r = some (.int (xshw h 4 d f t))) := by
  refine xT.of rfl (Nat.le_of_ble_eq_true rfl) ?_
  change xS _ _ 0 [(0, .ref 73), (1, .int (nI 4)), (2, .int (nI d)), (3, .ref a), (4, .int (nI t))] [] _ _
  refine xS.s1 rfl rfl ?_
  try dsimp only [Nat.reduceAdd]
  refine xS.s1 rfl rfl ?_
  try dsimp only [Nat.reduceAdd, xi_1]
  refine xS.br (c := .eq) (off := 8) (l := 3) rfl rfl (fun h2 => ?_) (fun h2 => ?_)
  · have g2 := xt_eq h2
    exfalso; first | exact absurd g2 (by decide) | (simp (disch := omega) only [Int32.lt_iff_toInt_lt, Int32.le_iff_toInt_le, nI_toInt, Int32.reduceToInt] at g2 <;> omega)
  · have g2 := xf_eq h2
    refine xS.s1 rfl rfl ?_
    try dsimp only [Nat.reduceAdd]
    refine xS.s1 rfl rfl ?_
    try dsimp only [Nat.reduceAdd, xi_4]
    refine xS.br (c := .ne) (off := 7) (l := 3) rfl rfl (fun h7 => ?_) (fun h7 => ?_)
    · have g7 := xt_ne h7
      exfalso; first | exact absurd g7 (by decide) | (simp (disch := omega) only [Int32.lt_iff_toInt_lt, Int32.le_iff_toInt_le, nI_toInt, Int32.reduceToInt] at g7 <;> omega)
    · have g7 := xf_ne h7
      refine xS.s1 rfl rfl ?_
      try dsimp only [Nat.reduceAdd, xi_1]
      refine xS.s1 rfl rfl ?_
      try dsimp only [Nat.reduceAdd]
      refine xS.s1 rfl rfl ?_
      try dsimp only [Nat.reduceAdd]
      refine xS.s1 rfl rfl ?_
      try dsimp only [Nat.reduceAdd]
      refine xS.br0 (c := .eq) (off := 10) (l := 3) rfl rfl (fun h19 => ?_) (fun h19 => ?_)
      · have g19 := xt_eq h19
        exfalso; first | exact absurd g19 (by decide) | (simp (disch := omega) only [Int32.lt_iff_toInt_lt, Int32.le_iff_toInt_le, nI_toInt, Int32.reduceToInt] at g19 <;> omega)
      · have g19 := xf_eq h19
        refine xS.s1 rfl rfl ?_
        try dsimp only [Nat.reduceAdd]
        refine xS.s1 rfl rfl ?_
        try dsimp only [Nat.reduceAdd]
        refine xS.s1 rfl rfl ?_
        try dsimp only [Nat.reduceAdd]
        rw [pk_sub hdt]
        refine xS.s1 rfl rfl ?_
        try dsimp only [Nat.reduceAdd]
        refine xS.s1 rfl rfl ?_
        try dsimp only [Nat.reduceAdd]
        refine xS.s1 rfl rfl ?_
        try dsimp only [Nat.reduceAdd]
        refine xS.br0 (c := .ge) (off := 7) (l := 3) rfl rfl (fun h35 => ?_) (fun h35 => ?_)
        · have g35 := xt_ge h35
          refine xS.s1 rfl rfl ?_
          try dsimp only [Nat.reduceAdd]
          refine xS.s1 rfl rfl ?_
          try dsimp only [Nat.reduceAdd]
          refine xS.ia rfl hA (by omega) ?_
          try dsimp only [Nat.reduceAdd]
          rw [hf]
          refine xS.s1 rfl rfl ?_
          try dsimp only [Nat.reduceAdd]
          refine xS.s1 rfl rfl ?_
          try dsimp only [Nat.reduceAdd]
          refine xS.s1 rfl rfl ?_
          try dsimp only [Nat.reduceAdd, xi_4]
          refine xS.br (c := .ne) (off := 11) (l := 3) rfl rfl (fun h50 => ?_) (fun h50 => ?_)
          · have g50 := xt_ne h50
            exfalso; first | exact absurd g50 (by decide) | (simp (disch := omega) only [Int32.lt_iff_toInt_lt, Int32.le_iff_toInt_le, nI_toInt, Int32.reduceToInt] at g50 <;> omega)
          · have g50 := xf_ne h50
            refine xS.s1 rfl rfl ?_
            try dsimp only [Nat.reduceAdd]
            refine xS.s1 rfl rfl ?_
            try dsimp only [Nat.reduceAdd, xi_3]
            refine xS.s1 rfl rfl ?_
            try dsimp only [Nat.reduceAdd]
            rw [xrem3 (by omega)]
            refine xS.s1 rfl rfl ?_
            try dsimp only [Nat.reduceAdd, xi_2]
            refine xS.br (c := .eq) (off := 16) (l := 3) rfl rfl (fun h58 => ?_) (fun h58 => ?_)
            · have g58 := xt_eq h58
              have e58 : t % 3 = 2 := (nI_eq (b := 2) (by omega) (by omega)).mp g58
              refine xS.s1 rfl rfl ?_
              try dsimp only [Nat.reduceAdd, xi_0]
              refine xS.ret rfl rfl rfl (fun _ _ => rfl) ?_
              refine ⟨rfl, ?_⟩
              simp [xshw, xsrc, xseen, xth, Nat.not_lt.mpr hdt, e58]
              try rfl
            · have g58 := xf_eq h58
              have e58 : ¬ t % 3 = 2 := fun z => g58 (by rw [z]; rfl)
              refine xS.s1 rfl rfl ?_
              try dsimp only [Nat.reduceAdd]
              refine xS.s1 rfl rfl ?_
              try dsimp only [Nat.reduceAdd, xi_2]
              refine xS.br (c := .ne) (off := 13) (l := 3) rfl rfl (fun h63 => ?_) (fun h63 => ?_)
              · have g63 := xt_ne h63
                refine xS.s1 rfl rfl ?_
                try dsimp only [Nat.reduceAdd]
                refine xS.s1 rfl rfl ?_
                try dsimp only [Nat.reduceAdd, xi_3]
                refine xS.br (c := .eq) (off := 16) (l := 3) rfl rfl (fun h78 => ?_) (fun h78 => ?_)
                · have g78 := xt_eq h78
                  exfalso; first | exact absurd g78 (by decide) | (simp (disch := omega) only [Int32.lt_iff_toInt_lt, Int32.le_iff_toInt_le, nI_toInt, Int32.reduceToInt] at g78 <;> omega)
                · have g78 := xf_eq h78
                  refine xS.s1 rfl rfl ?_
                  try dsimp only [Nat.reduceAdd]
                  refine xS.s1 rfl rfl ?_
                  try dsimp only [Nat.reduceAdd, xi_5]
                  refine xS.br (c := .ne) (off := 15) (l := 3) rfl rfl (fun h83 => ?_) (fun h83 => ?_)
                  · have g83 := xt_ne h83
                    refine xS.s1 rfl rfl ?_
                    try dsimp only [Nat.reduceAdd, xi_0]
                    refine xS.s1 rfl rfl ?_
                    try dsimp only [Nat.reduceAdd]
                    refine xS.s1 rfl rfl ?_
                    try dsimp only [Nat.reduceAdd]
                    refine xS.br0 (c := .eq) (off := 13) (l := 3) rfl rfl (fun h103 => ?_) (fun h103 => ?_)
                    · have g103 := xt_eq h103
                      refine xS.s1 rfl rfl ?_
                      try dsimp only [Nat.reduceAdd]
                      -- 118 yX12_mirrored
                      refine xS.callS rfl rfl rfl ⟨Nat.le_of_ble_eq_true rfl, rfl⟩ c_X12_mirrored (fun v M1 hv => ?_)
                      rw [hv.1, hv.2]
                      clear hv M1 v
                      try dsimp only [Nat.reduceAdd, Option.toList, List.cons_append, List.nil_append, List.drop]
                      refine xS.ret rfl rfl rfl (fun _ _ => rfl) ?_
                      refine ⟨rfl, ?_⟩
                      simp [xshw, xsrc, xseen, xth, Nat.not_lt.mpr hdt, e58]
                      try rfl
                    · have g103 := xf_eq h103
                      exfalso; first | exact absurd g103 (by decide) | (simp (disch := omega) only [Int32.lt_iff_toInt_lt, Int32.le_iff_toInt_le, nI_toInt, Int32.reduceToInt] at g103 <;> omega)
                  · have g83 := xf_ne h83
                    exfalso; first | exact absurd g83 (by decide) | (simp (disch := omega) only [Int32.lt_iff_toInt_lt, Int32.le_iff_toInt_le, nI_toInt, Int32.reduceToInt] at g83 <;> omega)
              · have g63 := xf_ne h63
                exfalso; first | exact absurd g63 (by decide) | (simp (disch := omega) only [Int32.lt_iff_toInt_lt, Int32.le_iff_toInt_le, nI_toInt, Int32.reduceToInt] at g63 <;> omega)
        · have g35 := xf_ge h35
          exact absurd g35 (nI_pos (by omega))

set_option maxRecDepth 10000 in
theorem c_X12_showsBy_5 (hA : xar a n) (hR : xRr g h tx G T Lw) (ht : t < 2 ^ 30) (hd4 : d < 4) (hn : t < n) (hf : g a t = nI (f t)) (hf6 : f t < 6) : xT (k + 2) 181 [.ref 73, .int (nI 5), .int (nI d), .ref a, .int (nI t)] (xH b g l) (fun r M' => M' = xH b g l ∧ r = some (.int (xshw h 5 d f t))) := by
  refine xT.of rfl (Nat.le_of_ble_eq_true rfl) ?_
  change xS _ _ 0 [(0, .ref 73), (1, .int (nI 5)), (2, .int (nI d)), (3, .ref a), (4, .int (nI t))] [] _ _
  refine xS.s1 rfl rfl ?_
  try dsimp only [Nat.reduceAdd]
  refine xS.s1 rfl rfl ?_
  try dsimp only [Nat.reduceAdd, xi_1]
  refine xS.br (c := .eq) (off := 8) (l := 3) rfl rfl (fun h2 => ?_) (fun h2 => ?_)
  · have g2 := xt_eq h2
    exfalso; first | exact absurd g2 (by decide) | (simp (disch := omega) only [Int32.lt_iff_toInt_lt, Int32.le_iff_toInt_le, nI_toInt, Int32.reduceToInt] at g2 <;> omega)
  · have g2 := xf_eq h2
    refine xS.s1 rfl rfl ?_
    try dsimp only [Nat.reduceAdd]
    refine xS.s1 rfl rfl ?_
    try dsimp only [Nat.reduceAdd, xi_4]
    refine xS.br (c := .ne) (off := 7) (l := 3) rfl rfl (fun h7 => ?_) (fun h7 => ?_)
    · have g7 := xt_ne h7
      refine xS.s1 rfl rfl ?_
      try dsimp only [Nat.reduceAdd, xi_0]
      refine xS.s1 rfl rfl ?_
      try dsimp only [Nat.reduceAdd]
      refine xS.s1 rfl rfl ?_
      try dsimp only [Nat.reduceAdd]
      refine xS.br0 (c := .eq) (off := 10) (l := 3) rfl rfl (fun h19 => ?_) (fun h19 => ?_)
      · have g19 := xt_eq h19
        refine xS.s1 rfl rfl ?_
        try dsimp only [Nat.reduceAdd]
        refine xS.s1 rfl rfl ?_
        try dsimp only [Nat.reduceAdd]
        refine xS.s1 rfl rfl ?_
        try dsimp only [Nat.reduceAdd]
        refine xS.br0 (c := .ge) (off := 7) (l := 3) rfl rfl (fun h35 => ?_) (fun h35 => ?_)
        · have g35 := xt_ge h35
          refine xS.s1 rfl rfl ?_
          try dsimp only [Nat.reduceAdd]
          refine xS.s1 rfl rfl ?_
          try dsimp only [Nat.reduceAdd]
          refine xS.ia rfl hA (by omega) ?_
          try dsimp only [Nat.reduceAdd]
          rw [hf]
          refine xS.s1 rfl rfl ?_
          try dsimp only [Nat.reduceAdd]
          refine xS.s1 rfl rfl ?_
          try dsimp only [Nat.reduceAdd]
          refine xS.s1 rfl rfl ?_
          try dsimp only [Nat.reduceAdd, xi_4]
          refine xS.br (c := .ne) (off := 11) (l := 3) rfl rfl (fun h50 => ?_) (fun h50 => ?_)
          · have g50 := xt_ne h50
            refine xS.s1 rfl rfl ?_
            try dsimp only [Nat.reduceAdd]
            refine xS.s1 rfl rfl ?_
            try dsimp only [Nat.reduceAdd, xi_2]
            refine xS.br (c := .ne) (off := 13) (l := 3) rfl rfl (fun h63 => ?_) (fun h63 => ?_)
            · have g63 := xt_ne h63
              refine xS.s1 rfl rfl ?_
              try dsimp only [Nat.reduceAdd]
              refine xS.s1 rfl rfl ?_
              try dsimp only [Nat.reduceAdd, xi_3]
              refine xS.br (c := .eq) (off := 16) (l := 3) rfl rfl (fun h78 => ?_) (fun h78 => ?_)
              · have g78 := xt_eq h78
                exfalso; first | exact absurd g78 (by decide) | (simp (disch := omega) only [Int32.lt_iff_toInt_lt, Int32.le_iff_toInt_le, nI_toInt, Int32.reduceToInt] at g78 <;> omega)
              · have g78 := xf_eq h78
                refine xS.s1 rfl rfl ?_
                try dsimp only [Nat.reduceAdd]
                refine xS.s1 rfl rfl ?_
                try dsimp only [Nat.reduceAdd, xi_5]
                refine xS.br (c := .ne) (off := 15) (l := 3) rfl rfl (fun h83 => ?_) (fun h83 => ?_)
                · have g83 := xt_ne h83
                  exfalso; first | exact absurd g83 (by decide) | (simp (disch := omega) only [Int32.lt_iff_toInt_lt, Int32.le_iff_toInt_le, nI_toInt, Int32.reduceToInt] at g83 <;> omega)
                · have g83 := xf_ne h83
                  refine xS.s1 rfl rfl ?_
                  try dsimp only [Nat.reduceAdd]
                  refine xS.s1 rfl rfl ?_
                  try dsimp only [Nat.reduceAdd, xi_2]
                  refine xS.s1 rfl rfl ?_
                  try dsimp only [Nat.reduceAdd]
                  rw [xrem2 (by omega)]
                  refine xS.s1 rfl rfl ?_
                  try dsimp only [Nat.reduceAdd, xi_1]
                  refine xS.br (c := .ne) (off := 7) (l := 3) rfl rfl (fun h91 => ?_) (fun h91 => ?_)
                  · have g91 := xt_ne h91
                    have e91 : ¬ t % 2 = 1 := fun z => g91 (by rw [z]; rfl)
                    refine xS.s1 rfl rfl ?_
                    try dsimp only [Nat.reduceAdd, xi_0]
                    refine xS.s1 rfl rfl ?_
                    try dsimp only [Nat.reduceAdd]
                    refine xS.s1 rfl rfl ?_
                    try dsimp only [Nat.reduceAdd]
                    refine xS.br0 (c := .eq) (off := 13) (l := 3) rfl rfl (fun h103 => ?_) (fun h103 => ?_)
                    · have g103 := xt_eq h103
                      refine xS.s1 rfl rfl ?_
                      try dsimp only [Nat.reduceAdd]
                      -- 118 yX12_mirrored
                      refine xS.callS rfl rfl rfl ⟨Nat.le_of_ble_eq_true rfl, rfl⟩ c_X12_mirrored (fun v M1 hv => ?_)
                      rw [hv.1, hv.2]
                      clear hv M1 v
                      try dsimp only [Nat.reduceAdd, Option.toList, List.cons_append, List.nil_append, List.drop]
                      refine xS.ret rfl rfl rfl (fun _ _ => rfl) ?_
                      refine ⟨rfl, ?_⟩
                      simp [xshw, xsrc, xseen, xth, e91]
                      try rfl
                    · have g103 := xf_eq h103
                      refine xS.s1 rfl rfl ?_
                      try dsimp only [Nat.reduceAdd]
                      refine xS.gR rfl rfl rfl ⟨by decide, rfl⟩ rfl ?_
                      try dsimp only [Nat.reduceAdd]
                      refine xS.s1 rfl rfl ?_
                      try dsimp only [Nat.reduceAdd]
                      refine xS.ia rfl xar_81 hf6 ?_
                      try dsimp only [Nat.reduceAdd]
                      rw [(hR.2.2.2.1 _ hf6).1]
                      refine xS.s1 rfl rfl ?_
                      try dsimp only [Nat.reduceAdd]
                      -- 118 yX12_mirrored
                      refine xS.callS rfl rfl rfl ⟨Nat.le_of_ble_eq_true rfl, rfl⟩ c_X12_mirrored (fun v M1 hv => ?_)
                      rw [hv.1, hv.2]
                      clear hv M1 v
                      try dsimp only [Nat.reduceAdd, Option.toList, List.cons_append, List.nil_append, List.drop]
                      refine xS.ret rfl rfl rfl (fun _ _ => rfl) ?_
                      exact absurd g103 (by decide)
                  · have g91 := xf_ne h91
                    have e91 : t % 2 = 1 := (nI_eq (b := 1) (by omega) (by omega)).mp g91
                    refine xS.s1 rfl rfl ?_
                    try dsimp only [Nat.reduceAdd, xi_1]
                    refine xS.s1 rfl rfl ?_
                    try dsimp only [Nat.reduceAdd]
                    refine xS.s1 rfl rfl ?_
                    try dsimp only [Nat.reduceAdd]
                    refine xS.s1 rfl rfl ?_
                    try dsimp only [Nat.reduceAdd]
                    refine xS.br0 (c := .eq) (off := 13) (l := 3) rfl rfl (fun h103 => ?_) (fun h103 => ?_)
                    · have g103 := xt_eq h103
                      refine xS.s1 rfl rfl ?_
                      try dsimp only [Nat.reduceAdd]
                      -- 118 yX12_mirrored
                      refine xS.callS rfl rfl rfl ⟨Nat.le_of_ble_eq_true rfl, rfl⟩ c_X12_mirrored (fun v M1 hv => ?_)
                      rw [hv.1, hv.2]
                      clear hv M1 v
                      try dsimp only [Nat.reduceAdd, Option.toList, List.cons_append, List.nil_append, List.drop]
                      refine xS.ret rfl rfl rfl (fun _ _ => rfl) ?_
                      exact absurd g103 (by decide)
                    · have g103 := xf_eq h103
                      refine xS.s1 rfl rfl ?_
                      try dsimp only [Nat.reduceAdd]
                      refine xS.gR rfl rfl rfl ⟨by decide, rfl⟩ rfl ?_
                      try dsimp only [Nat.reduceAdd]
                      refine xS.s1 rfl rfl ?_
                      try dsimp only [Nat.reduceAdd]
                      refine xS.ia rfl xar_81 hf6 ?_
                      try dsimp only [Nat.reduceAdd]
                      rw [(hR.2.2.2.1 _ hf6).1]
                      refine xS.s1 rfl rfl ?_
                      try dsimp only [Nat.reduceAdd]
                      -- 118 yX12_mirrored
                      refine xS.callS rfl rfl rfl ⟨Nat.le_of_ble_eq_true rfl, rfl⟩ c_X12_mirrored (fun v M1 hv => ?_)
                      rw [hv.1, hv.2]
                      clear hv M1 v
                      try dsimp only [Nat.reduceAdd, Option.toList, List.cons_append, List.nil_append, List.drop]
                      refine xS.ret rfl rfl rfl (fun _ _ => rfl) ?_
                      refine ⟨rfl, ?_⟩
                      simp [xshw, xsrc, xseen, xth, e91]
                      try rfl
            · have g63 := xf_ne h63
              exfalso; first | exact absurd g63 (by decide) | (simp (disch := omega) only [Int32.lt_iff_toInt_lt, Int32.le_iff_toInt_le, nI_toInt, Int32.reduceToInt] at g63 <;> omega)
          · have g50 := xf_ne h50
            exfalso; first | exact absurd g50 (by decide) | (simp (disch := omega) only [Int32.lt_iff_toInt_lt, Int32.le_iff_toInt_le, nI_toInt, Int32.reduceToInt] at g50 <;> omega)
        · have g35 := xf_ge h35
          exact absurd g35 (nI_pos (by omega))
      · have g19 := xf_eq h19
        exfalso; first | exact absurd g19 (by decide) | (simp (disch := omega) only [Int32.lt_iff_toInt_lt, Int32.le_iff_toInt_le, nI_toInt, Int32.reduceToInt] at g19 <;> omega)
    · have g7 := xf_ne h7
      exfalso; first | exact absurd g7 (by decide) | (simp (disch := omega) only [Int32.lt_iff_toInt_lt, Int32.le_iff_toInt_le, nI_toInt, Int32.reduceToInt] at g7 <;> omega)

end
