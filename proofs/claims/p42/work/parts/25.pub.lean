/-! LimpMirror: public methods, rows to rooms -/
section
variable {k a c n n2 m t p s d i1 j1 : Nat} {b : Nat × Nat} {g : Nat → Nat → Int32} {l : Nat → Nat → Int64} {i j x y z v w : Int32} {u w1 w2 : Int64}
variable {L G T : Nat} {Lw : Nat → Nat}
set_option maxRecDepth 10000 in
theorem c_X11_row_bad (hx : ¬ ((0 ≤ x ∧ x < 6) ∧ y ≤ 40)) : xT (k + 2) 78 [.ref 0, .int x, .int y] (xH b g l) (fun r M' => M' = xH b g l ∧ r = some (.int (-1))) := by
  refine xT.of rfl (Nat.le_of_ble_eq_true rfl) ?_
  change xS _ _ 0 [(0, .ref 0), (1, .int x), (2, .int y)] [] _ _
  refine xS.s1 rfl rfl ?_
  try dsimp only [Nat.reduceAdd]
  -- 1 yX11_isRow
  refine xS.callS rfl rfl rfl ⟨Nat.le_of_ble_eq_true rfl, rfl⟩ c_X11_isRow (fun v M1 hv => ?_)
  rw [hv.1, hv.2]
  clear hv M1 v
  try dsimp only [Nat.reduceAdd, Option.toList, List.cons_append, List.nil_append, List.drop]
  refine xS.br0 (c := .eq) (off := 9) (l := 3) rfl rfl (fun h4 => ?_) (fun h4 => ?_)
  · have g4 := xt_eq h4
    refine xS.s1 rfl rfl ?_
    try dsimp only [Nat.reduceAdd, xi_m1]
    refine xS.ret rfl rfl rfl (fun _ _ => rfl) ?_
    exact ⟨rfl, rfl⟩
  · have g4 := xf_eq h4
    refine xS.s1 rfl rfl ?_
    try dsimp only [Nat.reduceAdd]
    refine xS.s1 rfl rfl ?_
    try dsimp only [Nat.reduceAdd, xj_40]
    refine xS.br (c := .le) (off := 5) (l := 3) rfl rfl (fun h10 => ?_) (fun h10 => ?_)
    · have g10 := xt_le h10
      exact absurd ⟨xif1 g4, g10⟩ hx
    · have g10 := xf_le h10
      refine xS.s1 rfl rfl ?_
      try dsimp only [Nat.reduceAdd, xi_m1]
      refine xS.ret rfl rfl rfl (fun _ _ => rfl) ?_
      exact ⟨rfl, rfl⟩

set_option maxRecDepth 10000 in
theorem c_X11_row_neg (ht : t < 6) (hy : y < 0) : xT (k + 2) 78 [.ref 0, .int (nI t), .int y] (xH b g l) (fun r M' => M' = xH b (xfC g 5) l ∧ r = some (.int (-3))) := by
  refine xT.of rfl (Nat.le_of_ble_eq_true rfl) ?_
  change xS _ _ 0 [(0, .ref 0), (1, .int (nI t)), (2, .int y)] [] _ _
  refine xS.s1 rfl rfl ?_
  try dsimp only [Nat.reduceAdd]
  -- 1 yX11_isRow
  refine xS.callS rfl rfl rfl ⟨Nat.le_of_ble_eq_true rfl, rfl⟩ (c_X11_isRow_in ht) (fun v M1 hv => ?_)
  rw [hv.1, hv.2]
  clear hv M1 v
  try dsimp only [Nat.reduceAdd, Option.toList, List.cons_append, List.nil_append, List.drop]
  refine xS.br0 (c := .eq) (off := 9) (l := 3) rfl rfl (fun h4 => ?_) (fun h4 => ?_)
  · have g4 := xt_eq h4
    exfalso; first | exact absurd g4 (by decide) | (simp (disch := omega) only [Int32.lt_iff_toInt_lt, Int32.le_iff_toInt_le, nI_toInt, Int32.reduceToInt] at g4 <;> omega)
  · have g4 := xf_eq h4
    refine xS.s1 rfl rfl ?_
    try dsimp only [Nat.reduceAdd]
    refine xS.s1 rfl rfl ?_
    try dsimp only [Nat.reduceAdd, xj_40]
    refine xS.br (c := .le) (off := 5) (l := 3) rfl rfl (fun h10 => ?_) (fun h10 => ?_)
    · have g10 := xt_le h10
      refine xS.s1 rfl rfl ?_
      try dsimp only [Nat.reduceAdd]
      refine xS.br0 (c := .ge) (off := 9) (l := 3) rfl rfl (fun h16 => ?_) (fun h16 => ?_)
      · have g16 := xt_ge h16
        exact absurd hy (Int32.not_lt.mpr g16)
      · have g16 := xf_ge h16
        refine xS.s1 rfl rfl ?_
        try dsimp only [Nat.reduceAdd]
        refine xS.s1 rfl rfl ?_
        try dsimp only [Nat.reduceAdd, xi_5]
        -- 21 yX11_refuse
        refine xS.cv rfl rfl rfl rfl rfl rfl ⟨by decide, rfl, rfl⟩ (c_X11_refuse (t := 5) (by decide) (by decide)) (fun v M1 hv => ?_)
        rw [hv.1, hv.2]
        clear hv M1 v
        try dsimp only [Nat.reduceAdd, Option.toList, List.cons_append, List.nil_append, List.drop]
        refine xS.ret rfl rfl rfl (fun _ _ => rfl) ?_
        exact ⟨rfl, rfl⟩
    · have g10 := xf_le h10
      exfalso; simp only [Int32.lt_iff_toInt_lt, Int32.le_iff_toInt_le, Int32.reduceToInt] at g10 hy; omega

set_option maxRecDepth 10000 in
theorem c_X11_row_ok (ht : t < 6) (hm : m ≤ 40) : xT (k + 2) 78 [.ref 0, .int (nI t), .int (nI m)] (xH b g l) (fun r M' => M' = xH b (gfill (up g (23 + 2 * t) 1 (nI m)) (23 + 2 * t + 1) m 0) l ∧ r = some (.int (nI m))) := by
  refine xT.of rfl (Nat.le_of_ble_eq_true rfl) ?_
  change xS _ _ 0 [(0, .ref 0), (1, .int (nI t)), (2, .int (nI m))] [] _ _
  refine xS.s1 rfl rfl ?_
  try dsimp only [Nat.reduceAdd]
  -- 1 yX11_isRow
  refine xS.callS rfl rfl rfl ⟨Nat.le_of_ble_eq_true rfl, rfl⟩ (c_X11_isRow_in ht) (fun v M1 hv => ?_)
  rw [hv.1, hv.2]
  clear hv M1 v
  try dsimp only [Nat.reduceAdd, Option.toList, List.cons_append, List.nil_append, List.drop]
  refine xS.br0 (c := .eq) (off := 9) (l := 3) rfl rfl (fun h4 => ?_) (fun h4 => ?_)
  · have g4 := xt_eq h4
    exfalso; first | exact absurd g4 (by decide) | (simp (disch := omega) only [Int32.lt_iff_toInt_lt, Int32.le_iff_toInt_le, nI_toInt, Int32.reduceToInt] at g4 <;> omega)
  · have g4 := xf_eq h4
    refine xS.s1 rfl rfl ?_
    try dsimp only [Nat.reduceAdd]
    refine xS.s1 rfl rfl ?_
    try dsimp only [Nat.reduceAdd, xj_40]
    refine xS.br (c := .le) (off := 5) (l := 3) rfl rfl (fun h10 => ?_) (fun h10 => ?_)
    · have g10 := xt_le h10
      refine xS.s1 rfl rfl ?_
      try dsimp only [Nat.reduceAdd]
      refine xS.br0 (c := .ge) (off := 9) (l := 3) rfl rfl (fun h16 => ?_) (fun h16 => ?_)
      · have g16 := xt_ge h16
        refine xS.s1 rfl rfl ?_
        try dsimp only [Nat.reduceAdd]
        refine xS.gR rfl rfl rfl ⟨by decide, rfl⟩ rfl ?_
        try dsimp only [Nat.reduceAdd]
        refine xS.s1 rfl rfl ?_
        try dsimp only [Nat.reduceAdd]
        refine xS.aR rfl rfl (by decide) (by omega) (xsh1_get (by omega)) ?_
        try dsimp only [Nat.reduceAdd]
        refine xS.s1 rfl rfl ?_
        try dsimp only [Nat.reduceAdd]
        refine xS.s1 rfl rfl ?_
        try dsimp only [Nat.reduceAdd, xi_0]
        -- 33 yX0_open
        refine xS.cv rfl rfl rfl ((xce_row (r := t) (by omega)).1 _) rfl rfl ⟨by decide, rfl, rfl⟩ (c_X0_open (xce_row ht) hm) (fun v M1 hv => ?_)
        rw [hv.1, hv.2]
        clear hv M1 v
        try dsimp only [Nat.reduceAdd, Option.toList, List.cons_append, List.nil_append, List.drop]
        refine xS.s1 rfl rfl ?_
        try dsimp only [Nat.reduceAdd]
        refine xS.ret rfl rfl rfl (fun _ _ => rfl) ?_
        exact ⟨rfl, rfl⟩
      · have g16 := xf_ge h16
        exfalso; first | exact absurd g16 (by decide) | (simp (disch := omega) only [Int32.lt_iff_toInt_lt, Int32.le_iff_toInt_le, nI_toInt, Int32.reduceToInt] at g16 <;> omega)
    · have g10 := xf_le h10
      exfalso; first | exact absurd g10 (by decide) | (simp (disch := omega) only [Int32.lt_iff_toInt_lt, Int32.le_iff_toInt_le, nI_toInt, Int32.reduceToInt] at g10 <;> omega)

set_option maxRecDepth 10000 in
theorem c_X11_text_bad (hx : ¬ ((0 ≤ x ∧ x < 4) ∧ y ≤ 60)) : xT (k + 2) 84 [.ref 0, .int x, .int y] (xH b g l) (fun r M' => M' = xH b g l ∧ r = some (.int (-1))) := by
  refine xT.of rfl (Nat.le_of_ble_eq_true rfl) ?_
  change xS _ _ 0 [(0, .ref 0), (1, .int x), (2, .int y)] [] _ _
  refine xS.s1 rfl rfl ?_
  try dsimp only [Nat.reduceAdd]
  -- 1 yX11_isText
  refine xS.callS rfl rfl rfl ⟨Nat.le_of_ble_eq_true rfl, rfl⟩ c_X11_isText (fun v M1 hv => ?_)
  rw [hv.1, hv.2]
  clear hv M1 v
  try dsimp only [Nat.reduceAdd, Option.toList, List.cons_append, List.nil_append, List.drop]
  refine xS.br0 (c := .eq) (off := 9) (l := 3) rfl rfl (fun h4 => ?_) (fun h4 => ?_)
  · have g4 := xt_eq h4
    refine xS.s1 rfl rfl ?_
    try dsimp only [Nat.reduceAdd, xi_m1]
    refine xS.ret rfl rfl rfl (fun _ _ => rfl) ?_
    exact ⟨rfl, rfl⟩
  · have g4 := xf_eq h4
    refine xS.s1 rfl rfl ?_
    try dsimp only [Nat.reduceAdd]
    refine xS.s1 rfl rfl ?_
    try dsimp only [Nat.reduceAdd, xj_60]
    refine xS.br (c := .le) (off := 5) (l := 3) rfl rfl (fun h10 => ?_) (fun h10 => ?_)
    · have g10 := xt_le h10
      exact absurd ⟨xif1 g4, g10⟩ hx
    · have g10 := xf_le h10
      refine xS.s1 rfl rfl ?_
      try dsimp only [Nat.reduceAdd, xi_m1]
      refine xS.ret rfl rfl rfl (fun _ _ => rfl) ?_
      exact ⟨rfl, rfl⟩

set_option maxRecDepth 10000 in
theorem c_X11_text_neg (ht : t < 4) (hy : y < 0) : xT (k + 2) 84 [.ref 0, .int (nI t), .int y] (xH b g l) (fun r M' => M' = xH b (xfC g 5) l ∧ r = some (.int (-3))) := by
  refine xT.of rfl (Nat.le_of_ble_eq_true rfl) ?_
  change xS _ _ 0 [(0, .ref 0), (1, .int (nI t)), (2, .int y)] [] _ _
  refine xS.s1 rfl rfl ?_
  try dsimp only [Nat.reduceAdd]
  -- 1 yX11_isText
  refine xS.callS rfl rfl rfl ⟨Nat.le_of_ble_eq_true rfl, rfl⟩ (c_X11_isText_in ht) (fun v M1 hv => ?_)
  rw [hv.1, hv.2]
  clear hv M1 v
  try dsimp only [Nat.reduceAdd, Option.toList, List.cons_append, List.nil_append, List.drop]
  refine xS.br0 (c := .eq) (off := 9) (l := 3) rfl rfl (fun h4 => ?_) (fun h4 => ?_)
  · have g4 := xt_eq h4
    exfalso; first | exact absurd g4 (by decide) | (simp (disch := omega) only [Int32.lt_iff_toInt_lt, Int32.le_iff_toInt_le, nI_toInt, Int32.reduceToInt] at g4 <;> omega)
  · have g4 := xf_eq h4
    refine xS.s1 rfl rfl ?_
    try dsimp only [Nat.reduceAdd]
    refine xS.s1 rfl rfl ?_
    try dsimp only [Nat.reduceAdd, xj_60]
    refine xS.br (c := .le) (off := 5) (l := 3) rfl rfl (fun h10 => ?_) (fun h10 => ?_)
    · have g10 := xt_le h10
      refine xS.s1 rfl rfl ?_
      try dsimp only [Nat.reduceAdd]
      refine xS.br0 (c := .ge) (off := 9) (l := 3) rfl rfl (fun h16 => ?_) (fun h16 => ?_)
      · have g16 := xt_ge h16
        exact absurd hy (Int32.not_lt.mpr g16)
      · have g16 := xf_ge h16
        refine xS.s1 rfl rfl ?_
        try dsimp only [Nat.reduceAdd]
        refine xS.s1 rfl rfl ?_
        try dsimp only [Nat.reduceAdd, xi_5]
        -- 21 yX11_refuse
        refine xS.cv rfl rfl rfl rfl rfl rfl ⟨by decide, rfl, rfl⟩ (c_X11_refuse (t := 5) (by decide) (by decide)) (fun v M1 hv => ?_)
        rw [hv.1, hv.2]
        clear hv M1 v
        try dsimp only [Nat.reduceAdd, Option.toList, List.cons_append, List.nil_append, List.drop]
        refine xS.ret rfl rfl rfl (fun _ _ => rfl) ?_
        exact ⟨rfl, rfl⟩
    · have g10 := xf_le h10
      exfalso; simp only [Int32.lt_iff_toInt_lt, Int32.le_iff_toInt_le, Int32.reduceToInt] at g10 hy; omega

set_option maxRecDepth 10000 in
theorem c_X11_text_ok (ht : t < 4) (hm : m ≤ 60) : xT (k + 2) 84 [.ref 0, .int (nI t), .int (nI m)] (xH b g l) (fun r M' => M' = xH b (gfill (up g (35 + 2 * t) 1 (nI m)) (35 + 2 * t + 1) m 32) l ∧ r = some (.int (nI m))) := by
  refine xT.of rfl (Nat.le_of_ble_eq_true rfl) ?_
  change xS _ _ 0 [(0, .ref 0), (1, .int (nI t)), (2, .int (nI m))] [] _ _
  refine xS.s1 rfl rfl ?_
  try dsimp only [Nat.reduceAdd]
  -- 1 yX11_isText
  refine xS.callS rfl rfl rfl ⟨Nat.le_of_ble_eq_true rfl, rfl⟩ (c_X11_isText_in ht) (fun v M1 hv => ?_)
  rw [hv.1, hv.2]
  clear hv M1 v
  try dsimp only [Nat.reduceAdd, Option.toList, List.cons_append, List.nil_append, List.drop]
  refine xS.br0 (c := .eq) (off := 9) (l := 3) rfl rfl (fun h4 => ?_) (fun h4 => ?_)
  · have g4 := xt_eq h4
    exfalso; first | exact absurd g4 (by decide) | (simp (disch := omega) only [Int32.lt_iff_toInt_lt, Int32.le_iff_toInt_le, nI_toInt, Int32.reduceToInt] at g4 <;> omega)
  · have g4 := xf_eq h4
    refine xS.s1 rfl rfl ?_
    try dsimp only [Nat.reduceAdd]
    refine xS.s1 rfl rfl ?_
    try dsimp only [Nat.reduceAdd, xj_60]
    refine xS.br (c := .le) (off := 5) (l := 3) rfl rfl (fun h10 => ?_) (fun h10 => ?_)
    · have g10 := xt_le h10
      refine xS.s1 rfl rfl ?_
      try dsimp only [Nat.reduceAdd]
      refine xS.br0 (c := .ge) (off := 9) (l := 3) rfl rfl (fun h16 => ?_) (fun h16 => ?_)
      · have g16 := xt_ge h16
        refine xS.s1 rfl rfl ?_
        try dsimp only [Nat.reduceAdd]
        refine xS.gR rfl rfl rfl ⟨by decide, rfl⟩ rfl ?_
        try dsimp only [Nat.reduceAdd]
        refine xS.s1 rfl rfl ?_
        try dsimp only [Nat.reduceAdd]
        refine xS.aR rfl rfl (by decide) (by omega) (xsh2_get (by omega)) ?_
        try dsimp only [Nat.reduceAdd]
        refine xS.s1 rfl rfl ?_
        try dsimp only [Nat.reduceAdd]
        refine xS.s1 rfl rfl ?_
        try dsimp only [Nat.reduceAdd, xj_32]
        -- 34 yX0_open
        refine xS.cv rfl rfl rfl ((xce_text (r := t) (by omega)).1 _) rfl rfl ⟨by decide, rfl, rfl⟩ (c_X0_open (xce_text ht) hm) (fun v M1 hv => ?_)
        rw [hv.1, hv.2]
        clear hv M1 v
        try dsimp only [Nat.reduceAdd, Option.toList, List.cons_append, List.nil_append, List.drop]
        refine xS.s1 rfl rfl ?_
        try dsimp only [Nat.reduceAdd]
        refine xS.ret rfl rfl rfl (fun _ _ => rfl) ?_
        exact ⟨rfl, rfl⟩
      · have g16 := xf_ge h16
        exfalso; first | exact absurd g16 (by decide) | (simp (disch := omega) only [Int32.lt_iff_toInt_lt, Int32.le_iff_toInt_le, nI_toInt, Int32.reduceToInt] at g16 <;> omega)
    · have g10 := xf_le h10
      exfalso; first | exact absurd g10 (by decide) | (simp (disch := omega) only [Int32.lt_iff_toInt_lt, Int32.le_iff_toInt_le, nI_toInt, Int32.reduceToInt] at g10 <;> omega)

theorem c_fop_no (hC : xce a n) (hs : g a 1 = -1) : xT (k + 2) 128 [.ref a, .int i] (xH b g l) (fun r M' => M' = xH b g l ∧ r = some (.int (nI 1))) :=
  (c_X11_findingOfPlace hC).weak (fun r M' h => ⟨h.1, by rw [h.2, if_pos hs]; rfl⟩)
theorem c_fop_bey (hC : xce a n) (hs : g a 1 = nI m) (hm : m ≤ n) (hi : ¬ (0 ≤ i ∧ i < nI m)) : xT (k + 2) 128 [.ref a, .int i] (xH b g l) (fun r M' => M' = xH b g l ∧ r = some (.int (nI 2))) :=
  (c_X11_findingOfPlace hC).weak (fun r M' h => ⟨h.1, by rw [h.2, hs, if_neg (nI_nm1 (by have := hC.2.2; omega)), if_neg (fun z => hi ⟨z.1, z.2.1⟩)]; rfl⟩)
theorem c_fop_ok (hC : xce a n) (hs : g a 1 = nI m) (hm : m ≤ n) (hi : t < m) : xT (k + 2) 128 [.ref a, .int (nI t)] (xH b g l) (fun r M' => M' = xH b g l ∧ r = some (.int 0)) :=
  (c_X11_findingOfPlace hC).weak (fun r M' h => ⟨h.1, by have := hC.2.2; rw [h.2, hs, if_neg (nI_nm1 (by omega)), if_pos ⟨nI_pos' (by omega), nI_lt hi (by omega), nI_lt (by omega) (by omega)⟩]⟩)

set_option maxRecDepth 10000 in
theorem c_X11_lay_bad (hx : ¬ (0 ≤ x ∧ x < 6)) : xT (k + 3) 79 [.ref 0, .int x, .int i, .int v] (xH b g l) (fun r M' => M' = xH b g l ∧ r = some (.int (-1))) := by
  refine xT.of rfl (Nat.le_of_ble_eq_true rfl) ?_
  change xS _ _ 0 [(0, .ref 0), (1, .int x), (2, .int i), (3, .int v)] [] _ _
  refine xS.s1 rfl rfl ?_
  try dsimp only [Nat.reduceAdd]
  -- 1 yX11_isRow
  refine xS.callS rfl rfl rfl ⟨Nat.le_of_ble_eq_true rfl, rfl⟩ c_X11_isRow (fun v M1 hv => ?_)
  rw [hv.1, hv.2]
  clear hv M1 v
  try dsimp only [Nat.reduceAdd, Option.toList, List.cons_append, List.nil_append, List.drop]
  refine xS.br0 (c := .ne) (off := 5) (l := 3) rfl rfl (fun h4 => ?_) (fun h4 => ?_)
  · have g4 := xt_ne h4
    exact absurd (xif1 g4) hx
  · have g4 := xf_ne h4
    refine xS.s1 rfl rfl ?_
    try dsimp only [Nat.reduceAdd, xi_m1]
    refine xS.ret rfl rfl rfl (fun _ _ => rfl) ?_
    exact ⟨rfl, rfl⟩

set_option maxRecDepth 10000 in
theorem c_X11_lay_no (hp1 : p < 6) (hs : g (23 + 2 * p) 1 = -1) : xT (k + 3) 79 [.ref 0, .int (nI p), .int i, .int v] (xH b g l) (fun r M' => M' = xH b (xfC g 1) l ∧ r = some (.int (-3))) := by
  refine xT.of rfl (Nat.le_of_ble_eq_true rfl) ?_
  change xS _ _ 0 [(0, .ref 0), (1, .int (nI p)), (2, .int i), (3, .int v)] [] _ _
  refine xS.s1 rfl rfl ?_
  try dsimp only [Nat.reduceAdd]
  -- 1 yX11_isRow
  refine xS.callS rfl rfl rfl ⟨Nat.le_of_ble_eq_true rfl, rfl⟩ (c_X11_isRow_in hp1) (fun v M1 hv => ?_)
  rw [hv.1, hv.2]
  clear hv M1 v
  try dsimp only [Nat.reduceAdd, Option.toList, List.cons_append, List.nil_append, List.drop]
  refine xS.br0 (c := .ne) (off := 5) (l := 3) rfl rfl (fun h4 => ?_) (fun h4 => ?_)
  · have g4 := xt_ne h4
    refine xS.s1 rfl rfl ?_
    try dsimp only [Nat.reduceAdd]
    refine xS.gR rfl rfl rfl ⟨by decide, rfl⟩ rfl ?_
    try dsimp only [Nat.reduceAdd]
    refine xS.s1 rfl rfl ?_
    try dsimp only [Nat.reduceAdd]
    refine xS.aR rfl rfl (by decide) (by omega) (xsh1_get (by omega)) ?_
    try dsimp only [Nat.reduceAdd]
    refine xS.s1 rfl rfl ?_
    try dsimp only [Nat.reduceAdd]
    -- 16 yX11_findingOfPlace
    refine xS.callS rfl rfl rfl ⟨Nat.le_of_ble_eq_true rfl, rfl⟩ (c_fop_no (xce_row hp1) hs) (fun v M1 hv => ?_)
    rw [hv.1, hv.2]
    clear hv M1 v
    try dsimp only [Nat.reduceAdd, Option.toList, List.cons_append, List.nil_append, List.drop]
    refine xS.s1 rfl rfl ?_
    try dsimp only [Nat.reduceAdd]
    refine xS.s1 rfl rfl ?_
    try dsimp only [Nat.reduceAdd]
    refine xS.br0 (c := .eq) (off := 10) (l := 3) rfl rfl (fun h23 => ?_) (fun h23 => ?_)
    · have g23 := xt_eq h23
      exfalso; first | exact absurd g23 (by decide) | (simp (disch := omega) only [Int32.lt_iff_toInt_lt, Int32.le_iff_toInt_le, nI_toInt, Int32.reduceToInt] at g23 <;> omega)
    · have g23 := xf_eq h23
      refine xS.s1 rfl rfl ?_
      try dsimp only [Nat.reduceAdd]
      refine xS.s1 rfl rfl ?_
      try dsimp only [Nat.reduceAdd]
      -- 29 yX11_refuse
      refine xS.cv rfl rfl rfl rfl rfl rfl ⟨by decide, rfl, rfl⟩ (c_X11_refuse (t := 1) (by decide) (by decide)) (fun v M1 hv => ?_)
      rw [hv.1, hv.2]
      clear hv M1 v
      try dsimp only [Nat.reduceAdd, Option.toList, List.cons_append, List.nil_append, List.drop]
      refine xS.ret rfl rfl rfl (fun _ _ => rfl) ?_
      exact ⟨rfl, rfl⟩
  · have g4 := xf_ne h4
    exfalso; first | exact absurd g4 (by decide) | (simp (disch := omega) only [Int32.lt_iff_toInt_lt, Int32.le_iff_toInt_le, nI_toInt, Int32.reduceToInt] at g4 <;> omega)

set_option maxRecDepth 10000 in
theorem c_X11_lay_bey (hp1 : p < 6) (hs : g (23 + 2 * p) 1 = nI m) (hm : m ≤ 40) (hi : ¬ (0 ≤ i ∧ i < nI m)) : xT (k + 3) 79 [.ref 0, .int (nI p), .int i, .int v] (xH b g l) (fun r M' => M' = xH b (xfC g 2) l ∧ r = some (.int (-3))) := by
  refine xT.of rfl (Nat.le_of_ble_eq_true rfl) ?_
  change xS _ _ 0 [(0, .ref 0), (1, .int (nI p)), (2, .int i), (3, .int v)] [] _ _
  refine xS.s1 rfl rfl ?_
  try dsimp only [Nat.reduceAdd]
  -- 1 yX11_isRow
  refine xS.callS rfl rfl rfl ⟨Nat.le_of_ble_eq_true rfl, rfl⟩ (c_X11_isRow_in hp1) (fun v M1 hv => ?_)
  rw [hv.1, hv.2]
  clear hv M1 v
  try dsimp only [Nat.reduceAdd, Option.toList, List.cons_append, List.nil_append, List.drop]
  refine xS.br0 (c := .ne) (off := 5) (l := 3) rfl rfl (fun h4 => ?_) (fun h4 => ?_)
  · have g4 := xt_ne h4
    refine xS.s1 rfl rfl ?_
    try dsimp only [Nat.reduceAdd]
    refine xS.gR rfl rfl rfl ⟨by decide, rfl⟩ rfl ?_
    try dsimp only [Nat.reduceAdd]
    refine xS.s1 rfl rfl ?_
    try dsimp only [Nat.reduceAdd]
    refine xS.aR rfl rfl (by decide) (by omega) (xsh1_get (by omega)) ?_
    try dsimp only [Nat.reduceAdd]
    refine xS.s1 rfl rfl ?_
    try dsimp only [Nat.reduceAdd]
    -- 16 yX11_findingOfPlace
    refine xS.callS rfl rfl rfl ⟨Nat.le_of_ble_eq_true rfl, rfl⟩ (c_fop_bey (xce_row hp1) hs hm hi) (fun v M1 hv => ?_)
    rw [hv.1, hv.2]
    clear hv M1 v
    try dsimp only [Nat.reduceAdd, Option.toList, List.cons_append, List.nil_append, List.drop]
    refine xS.s1 rfl rfl ?_
    try dsimp only [Nat.reduceAdd]
    refine xS.s1 rfl rfl ?_
    try dsimp only [Nat.reduceAdd]
    refine xS.br0 (c := .eq) (off := 10) (l := 3) rfl rfl (fun h23 => ?_) (fun h23 => ?_)
    · have g23 := xt_eq h23
      exfalso; first | exact absurd g23 (by decide) | (simp (disch := omega) only [Int32.lt_iff_toInt_lt, Int32.le_iff_toInt_le, nI_toInt, Int32.reduceToInt] at g23 <;> omega)
    · have g23 := xf_eq h23
      refine xS.s1 rfl rfl ?_
      try dsimp only [Nat.reduceAdd]
      refine xS.s1 rfl rfl ?_
      try dsimp only [Nat.reduceAdd]
      -- 29 yX11_refuse
      refine xS.cv rfl rfl rfl rfl rfl rfl ⟨by decide, rfl, rfl⟩ (c_X11_refuse (t := 2) (by decide) (by decide)) (fun v M1 hv => ?_)
      rw [hv.1, hv.2]
      clear hv M1 v
      try dsimp only [Nat.reduceAdd, Option.toList, List.cons_append, List.nil_append, List.drop]
      refine xS.ret rfl rfl rfl (fun _ _ => rfl) ?_
      exact ⟨rfl, rfl⟩
  · have g4 := xf_ne h4
    exfalso; first | exact absurd g4 (by decide) | (simp (disch := omega) only [Int32.lt_iff_toInt_lt, Int32.le_iff_toInt_le, nI_toInt, Int32.reduceToInt] at g4 <;> omega)

set_option maxRecDepth 10000 in
theorem c_X11_lay_ok (hp1 : p < 6) (hs : g (23 + 2 * p) 1 = nI m) (hm : m ≤ 40) (hi : t < m) : xT (k + 3) 79 [.ref 0, .int (nI p), .int (nI t), .int v] (xH b g l) (fun r M' => M' = xH b (up (up g 0 11 (g ((23 + 2 * p) + 1) t)) ((23 + 2 * p) + 1) t v) l ∧ r = some (.int 1)) := by
  refine xT.of rfl (Nat.le_of_ble_eq_true rfl) ?_
  change xS _ _ 0 [(0, .ref 0), (1, .int (nI p)), (2, .int (nI t)), (3, .int v)] [] _ _
  refine xS.s1 rfl rfl ?_
  try dsimp only [Nat.reduceAdd]
  -- 1 yX11_isRow
  refine xS.callS rfl rfl rfl ⟨Nat.le_of_ble_eq_true rfl, rfl⟩ (c_X11_isRow_in hp1) (fun v M1 hv => ?_)
  rw [hv.1, hv.2]
  clear hv M1 v
  try dsimp only [Nat.reduceAdd, Option.toList, List.cons_append, List.nil_append, List.drop]
  refine xS.br0 (c := .ne) (off := 5) (l := 3) rfl rfl (fun h4 => ?_) (fun h4 => ?_)
  · have g4 := xt_ne h4
    refine xS.s1 rfl rfl ?_
    try dsimp only [Nat.reduceAdd]
    refine xS.gR rfl rfl rfl ⟨by decide, rfl⟩ rfl ?_
    try dsimp only [Nat.reduceAdd]
    refine xS.s1 rfl rfl ?_
    try dsimp only [Nat.reduceAdd]
    refine xS.aR rfl rfl (by decide) (by omega) (xsh1_get (by omega)) ?_
    try dsimp only [Nat.reduceAdd]
    refine xS.s1 rfl rfl ?_
    try dsimp only [Nat.reduceAdd]
    -- 16 yX11_findingOfPlace
    refine xS.callS rfl rfl rfl ⟨Nat.le_of_ble_eq_true rfl, rfl⟩ (c_fop_ok (xce_row hp1) hs hm hi) (fun v M1 hv => ?_)
    rw [hv.1, hv.2]
    clear hv M1 v
    try dsimp only [Nat.reduceAdd, Option.toList, List.cons_append, List.nil_append, List.drop]
    refine xS.s1 rfl rfl ?_
    try dsimp only [Nat.reduceAdd]
    refine xS.s1 rfl rfl ?_
    try dsimp only [Nat.reduceAdd]
    refine xS.br0 (c := .eq) (off := 10) (l := 3) rfl rfl (fun h23 => ?_) (fun h23 => ?_)
    · have g23 := xt_eq h23
      refine xS.s1 rfl rfl ?_
      try dsimp only [Nat.reduceAdd]
      refine xS.s1 rfl rfl ?_
      try dsimp only [Nat.reduceAdd]
      refine xS.gR rfl rfl rfl ⟨by decide, rfl⟩ rfl ?_
      try dsimp only [Nat.reduceAdd]
      refine xS.s1 rfl rfl ?_
      try dsimp only [Nat.reduceAdd]
      refine xS.aR rfl rfl (by decide) (by omega) (xsh1_get (by omega)) ?_
      try dsimp only [Nat.reduceAdd]
      refine xS.s1 rfl rfl ?_
      try dsimp only [Nat.reduceAdd]
      -- 41 yX0_get
      refine xS.cv rfl rfl rfl ((xce_row (r := p) (by omega)).1 _) rfl rfl ⟨by decide, rfl, rfl⟩ (c_X0_get (xce_row hp1) hs hm hi) (fun v M1 hv => ?_)
      rw [hv.1, hv.2]
      clear hv M1 v
      try dsimp only [Nat.reduceAdd, Option.toList, List.cons_append, List.nil_append, List.drop]
      refine xS.pI rfl rfl rfl ⟨⟨by decide, rfl⟩, rfl, by decide, by decide⟩ rfl ?_
      try dsimp only [Nat.reduceAdd]
      refine xS.s1 rfl rfl ?_
      try dsimp only [Nat.reduceAdd]
      refine xS.gR rfl rfl rfl ⟨by decide, rfl⟩ rfl ?_
      try dsimp only [Nat.reduceAdd]
      refine xS.s1 rfl rfl ?_
      try dsimp only [Nat.reduceAdd]
      refine xS.aR rfl rfl (by decide) (by omega) (xsh1_get (by omega)) ?_
      try dsimp only [Nat.reduceAdd]
      refine xS.s1 rfl rfl ?_
      try dsimp only [Nat.reduceAdd]
      refine xS.s1 rfl rfl ?_
      try dsimp only [Nat.reduceAdd]
      -- 55 yX0_set
      refine xS.cv rfl rfl rfl ((xce_row (r := p) (by omega)).1 _) rfl rfl ⟨by decide, rfl, rfl⟩ (c_X0_set (xce_row hp1) (m := m) (by rw [up_na (by omega)]; exact hs) hm hi) (fun v M1 hv => ?_)
      rw [hv.1, hv.2]
      clear hv M1 v
      try dsimp only [Nat.reduceAdd, Option.toList, List.cons_append, List.nil_append, List.drop]
      refine xS.s1 rfl rfl ?_
      try dsimp only [Nat.reduceAdd, xi_1]
      refine xS.ret rfl rfl rfl (fun _ _ => rfl) ?_
      exact ⟨rfl, rfl⟩
    · have g23 := xf_eq h23
      exfalso; first | exact absurd g23 (by decide) | (simp (disch := omega) only [Int32.lt_iff_toInt_lt, Int32.le_iff_toInt_le, nI_toInt, Int32.reduceToInt] at g23 <;> omega)
  · have g4 := xf_ne h4
    exfalso; first | exact absurd g4 (by decide) | (simp (disch := omega) only [Int32.lt_iff_toInt_lt, Int32.le_iff_toInt_le, nI_toInt, Int32.reduceToInt] at g4 <;> omega)

set_option maxRecDepth 10000 in
theorem c_X11_at_bad (hx : ¬ (0 ≤ x ∧ x < 6)) : xT (k + 3) 80 [.ref 0, .int x, .int i] (xH b g l) (fun r M' => M' = xH b g l ∧ r = some (.int (-1))) := by
  refine xT.of rfl (Nat.le_of_ble_eq_true rfl) ?_
  change xS _ _ 0 [(0, .ref 0), (1, .int x), (2, .int i)] [] _ _
  refine xS.s1 rfl rfl ?_
  try dsimp only [Nat.reduceAdd]
  -- 1 yX11_isRow
  refine xS.callS rfl rfl rfl ⟨Nat.le_of_ble_eq_true rfl, rfl⟩ c_X11_isRow (fun v M1 hv => ?_)
  rw [hv.1, hv.2]
  clear hv M1 v
  try dsimp only [Nat.reduceAdd, Option.toList, List.cons_append, List.nil_append, List.drop]
  refine xS.br0 (c := .ne) (off := 5) (l := 3) rfl rfl (fun h4 => ?_) (fun h4 => ?_)
  · have g4 := xt_ne h4
    exact absurd (xif1 g4) hx
  · have g4 := xf_ne h4
    refine xS.s1 rfl rfl ?_
    try dsimp only [Nat.reduceAdd, xi_m1]
    refine xS.ret rfl rfl rfl (fun _ _ => rfl) ?_
    exact ⟨rfl, rfl⟩

set_option maxRecDepth 10000 in
theorem c_X11_at_no (hp1 : p < 6) (hs : g (23 + 2 * p) 1 = -1) : xT (k + 3) 80 [.ref 0, .int (nI p), .int i] (xH b g l) (fun r M' => M' = xH b (xfC g 1) l ∧ r = some (.int (-3))) := by
  refine xT.of rfl (Nat.le_of_ble_eq_true rfl) ?_
  change xS _ _ 0 [(0, .ref 0), (1, .int (nI p)), (2, .int i)] [] _ _
  refine xS.s1 rfl rfl ?_
  try dsimp only [Nat.reduceAdd]
  -- 1 yX11_isRow
  refine xS.callS rfl rfl rfl ⟨Nat.le_of_ble_eq_true rfl, rfl⟩ (c_X11_isRow_in hp1) (fun v M1 hv => ?_)
  rw [hv.1, hv.2]
  clear hv M1 v
  try dsimp only [Nat.reduceAdd, Option.toList, List.cons_append, List.nil_append, List.drop]
  refine xS.br0 (c := .ne) (off := 5) (l := 3) rfl rfl (fun h4 => ?_) (fun h4 => ?_)
  · have g4 := xt_ne h4
    refine xS.s1 rfl rfl ?_
    try dsimp only [Nat.reduceAdd]
    refine xS.gR rfl rfl rfl ⟨by decide, rfl⟩ rfl ?_
    try dsimp only [Nat.reduceAdd]
    refine xS.s1 rfl rfl ?_
    try dsimp only [Nat.reduceAdd]
    refine xS.aR rfl rfl (by decide) (by omega) (xsh1_get (by omega)) ?_
    try dsimp only [Nat.reduceAdd]
    refine xS.s1 rfl rfl ?_
    try dsimp only [Nat.reduceAdd]
    -- 16 yX11_findingOfPlace
    refine xS.callS rfl rfl rfl ⟨Nat.le_of_ble_eq_true rfl, rfl⟩ (c_fop_no (xce_row hp1) hs) (fun v M1 hv => ?_)
    rw [hv.1, hv.2]
    clear hv M1 v
    try dsimp only [Nat.reduceAdd, Option.toList, List.cons_append, List.nil_append, List.drop]
    refine xS.s1 rfl rfl ?_
    try dsimp only [Nat.reduceAdd]
    refine xS.s1 rfl rfl ?_
    try dsimp only [Nat.reduceAdd]
    refine xS.br0 (c := .eq) (off := 9) (l := 3) rfl rfl (fun h21 => ?_) (fun h21 => ?_)
    · have g21 := xt_eq h21
      exfalso; first | exact absurd g21 (by decide) | (simp (disch := omega) only [Int32.lt_iff_toInt_lt, Int32.le_iff_toInt_le, nI_toInt, Int32.reduceToInt] at g21 <;> omega)
    · have g21 := xf_eq h21
      refine xS.s1 rfl rfl ?_
      try dsimp only [Nat.reduceAdd]
      refine xS.s1 rfl rfl ?_
      try dsimp only [Nat.reduceAdd]
      -- 26 yX11_refuse
      refine xS.cv rfl rfl rfl rfl rfl rfl ⟨by decide, rfl, rfl⟩ (c_X11_refuse (t := 1) (by decide) (by decide)) (fun v M1 hv => ?_)
      rw [hv.1, hv.2]
      clear hv M1 v
      try dsimp only [Nat.reduceAdd, Option.toList, List.cons_append, List.nil_append, List.drop]
      refine xS.ret rfl rfl rfl (fun _ _ => rfl) ?_
      exact ⟨rfl, rfl⟩
  · have g4 := xf_ne h4
    exfalso; first | exact absurd g4 (by decide) | (simp (disch := omega) only [Int32.lt_iff_toInt_lt, Int32.le_iff_toInt_le, nI_toInt, Int32.reduceToInt] at g4 <;> omega)

set_option maxRecDepth 10000 in
theorem c_X11_at_bey (hp1 : p < 6) (hs : g (23 + 2 * p) 1 = nI m) (hm : m ≤ 40) (hi : ¬ (0 ≤ i ∧ i < nI m)) : xT (k + 3) 80 [.ref 0, .int (nI p), .int i] (xH b g l) (fun r M' => M' = xH b (xfC g 2) l ∧ r = some (.int (-3))) := by
  refine xT.of rfl (Nat.le_of_ble_eq_true rfl) ?_
  change xS _ _ 0 [(0, .ref 0), (1, .int (nI p)), (2, .int i)] [] _ _
  refine xS.s1 rfl rfl ?_
  try dsimp only [Nat.reduceAdd]
  -- 1 yX11_isRow
  refine xS.callS rfl rfl rfl ⟨Nat.le_of_ble_eq_true rfl, rfl⟩ (c_X11_isRow_in hp1) (fun v M1 hv => ?_)
  rw [hv.1, hv.2]
  clear hv M1 v
  try dsimp only [Nat.reduceAdd, Option.toList, List.cons_append, List.nil_append, List.drop]
  refine xS.br0 (c := .ne) (off := 5) (l := 3) rfl rfl (fun h4 => ?_) (fun h4 => ?_)
  · have g4 := xt_ne h4
    refine xS.s1 rfl rfl ?_
    try dsimp only [Nat.reduceAdd]
    refine xS.gR rfl rfl rfl ⟨by decide, rfl⟩ rfl ?_
    try dsimp only [Nat.reduceAdd]
    refine xS.s1 rfl rfl ?_
    try dsimp only [Nat.reduceAdd]
    refine xS.aR rfl rfl (by decide) (by omega) (xsh1_get (by omega)) ?_
    try dsimp only [Nat.reduceAdd]
    refine xS.s1 rfl rfl ?_
    try dsimp only [Nat.reduceAdd]
    -- 16 yX11_findingOfPlace
    refine xS.callS rfl rfl rfl ⟨Nat.le_of_ble_eq_true rfl, rfl⟩ (c_fop_bey (xce_row hp1) hs hm hi) (fun v M1 hv => ?_)
    rw [hv.1, hv.2]
    clear hv M1 v
    try dsimp only [Nat.reduceAdd, Option.toList, List.cons_append, List.nil_append, List.drop]
    refine xS.s1 rfl rfl ?_
    try dsimp only [Nat.reduceAdd]
    refine xS.s1 rfl rfl ?_
    try dsimp only [Nat.reduceAdd]
    refine xS.br0 (c := .eq) (off := 9) (l := 3) rfl rfl (fun h21 => ?_) (fun h21 => ?_)
    · have g21 := xt_eq h21
      exfalso; first | exact absurd g21 (by decide) | (simp (disch := omega) only [Int32.lt_iff_toInt_lt, Int32.le_iff_toInt_le, nI_toInt, Int32.reduceToInt] at g21 <;> omega)
    · have g21 := xf_eq h21
      refine xS.s1 rfl rfl ?_
      try dsimp only [Nat.reduceAdd]
      refine xS.s1 rfl rfl ?_
      try dsimp only [Nat.reduceAdd]
      -- 26 yX11_refuse
      refine xS.cv rfl rfl rfl rfl rfl rfl ⟨by decide, rfl, rfl⟩ (c_X11_refuse (t := 2) (by decide) (by decide)) (fun v M1 hv => ?_)
      rw [hv.1, hv.2]
      clear hv M1 v
      try dsimp only [Nat.reduceAdd, Option.toList, List.cons_append, List.nil_append, List.drop]
      refine xS.ret rfl rfl rfl (fun _ _ => rfl) ?_
      exact ⟨rfl, rfl⟩
  · have g4 := xf_ne h4
    exfalso; first | exact absurd g4 (by decide) | (simp (disch := omega) only [Int32.lt_iff_toInt_lt, Int32.le_iff_toInt_le, nI_toInt, Int32.reduceToInt] at g4 <;> omega)

set_option maxRecDepth 10000 in
theorem c_X11_at_ok (hp1 : p < 6) (hs : g (23 + 2 * p) 1 = nI m) (hm : m ≤ 40) (hi : t < m) : xT (k + 3) 80 [.ref 0, .int (nI p), .int (nI t)] (xH b g l) (fun r M' => M' = xH b (up g 0 11 (g ((23 + 2 * p) + 1) t)) l ∧ r = some (.int 1)) := by
  refine xT.of rfl (Nat.le_of_ble_eq_true rfl) ?_
  change xS _ _ 0 [(0, .ref 0), (1, .int (nI p)), (2, .int (nI t))] [] _ _
  refine xS.s1 rfl rfl ?_
  try dsimp only [Nat.reduceAdd]
  -- 1 yX11_isRow
  refine xS.callS rfl rfl rfl ⟨Nat.le_of_ble_eq_true rfl, rfl⟩ (c_X11_isRow_in hp1) (fun v M1 hv => ?_)
  rw [hv.1, hv.2]
  clear hv M1 v
  try dsimp only [Nat.reduceAdd, Option.toList, List.cons_append, List.nil_append, List.drop]
  refine xS.br0 (c := .ne) (off := 5) (l := 3) rfl rfl (fun h4 => ?_) (fun h4 => ?_)
  · have g4 := xt_ne h4
    refine xS.s1 rfl rfl ?_
    try dsimp only [Nat.reduceAdd]
    refine xS.gR rfl rfl rfl ⟨by decide, rfl⟩ rfl ?_
    try dsimp only [Nat.reduceAdd]
    refine xS.s1 rfl rfl ?_
    try dsimp only [Nat.reduceAdd]
    refine xS.aR rfl rfl (by decide) (by omega) (xsh1_get (by omega)) ?_
    try dsimp only [Nat.reduceAdd]
    refine xS.s1 rfl rfl ?_
    try dsimp only [Nat.reduceAdd]
    -- 16 yX11_findingOfPlace
    refine xS.callS rfl rfl rfl ⟨Nat.le_of_ble_eq_true rfl, rfl⟩ (c_fop_ok (xce_row hp1) hs hm hi) (fun v M1 hv => ?_)
    rw [hv.1, hv.2]
    clear hv M1 v
    try dsimp only [Nat.reduceAdd, Option.toList, List.cons_append, List.nil_append, List.drop]
    refine xS.s1 rfl rfl ?_
    try dsimp only [Nat.reduceAdd]
    refine xS.s1 rfl rfl ?_
    try dsimp only [Nat.reduceAdd]
    refine xS.br0 (c := .eq) (off := 9) (l := 3) rfl rfl (fun h21 => ?_) (fun h21 => ?_)
    · have g21 := xt_eq h21
      refine xS.s1 rfl rfl ?_
      try dsimp only [Nat.reduceAdd]
      refine xS.s1 rfl rfl ?_
      try dsimp only [Nat.reduceAdd]
      refine xS.gR rfl rfl rfl ⟨by decide, rfl⟩ rfl ?_
      try dsimp only [Nat.reduceAdd]
      refine xS.s1 rfl rfl ?_
      try dsimp only [Nat.reduceAdd]
      refine xS.aR rfl rfl (by decide) (by omega) (xsh1_get (by omega)) ?_
      try dsimp only [Nat.reduceAdd]
      refine xS.s1 rfl rfl ?_
      try dsimp only [Nat.reduceAdd]
      -- 38 yX0_get
      refine xS.cv rfl rfl rfl ((xce_row (r := p) (by omega)).1 _) rfl rfl ⟨by decide, rfl, rfl⟩ (c_X0_get (xce_row hp1) hs hm hi) (fun v M1 hv => ?_)
      rw [hv.1, hv.2]
      clear hv M1 v
      try dsimp only [Nat.reduceAdd, Option.toList, List.cons_append, List.nil_append, List.drop]
      refine xS.pI rfl rfl rfl ⟨⟨by decide, rfl⟩, rfl, by decide, by decide⟩ rfl ?_
      try dsimp only [Nat.reduceAdd]
      refine xS.s1 rfl rfl ?_
      try dsimp only [Nat.reduceAdd, xi_1]
      refine xS.ret rfl rfl rfl (fun _ _ => rfl) ?_
      exact ⟨rfl, rfl⟩
    · have g21 := xf_eq h21
      exfalso; first | exact absurd g21 (by decide) | (simp (disch := omega) only [Int32.lt_iff_toInt_lt, Int32.le_iff_toInt_le, nI_toInt, Int32.reduceToInt] at g21 <;> omega)
  · have g4 := xf_ne h4
    exfalso; first | exact absurd g4 (by decide) | (simp (disch := omega) only [Int32.lt_iff_toInt_lt, Int32.le_iff_toInt_le, nI_toInt, Int32.reduceToInt] at g4 <;> omega)

set_option maxRecDepth 10000 in
theorem c_X11_put_bad (hx : ¬ (0 ≤ x ∧ x < 4)) : xT (k + 3) 85 [.ref 0, .int x, .int i, .int v] (xH b g l) (fun r M' => M' = xH b g l ∧ r = some (.int (-1))) := by
  refine xT.of rfl (Nat.le_of_ble_eq_true rfl) ?_
  change xS _ _ 0 [(0, .ref 0), (1, .int x), (2, .int i), (3, .int v)] [] _ _
  refine xS.s1 rfl rfl ?_
  try dsimp only [Nat.reduceAdd]
  -- 1 yX11_isText
  refine xS.callS rfl rfl rfl ⟨Nat.le_of_ble_eq_true rfl, rfl⟩ c_X11_isText (fun v M1 hv => ?_)
  rw [hv.1, hv.2]
  clear hv M1 v
  try dsimp only [Nat.reduceAdd, Option.toList, List.cons_append, List.nil_append, List.drop]
  refine xS.br0 (c := .ne) (off := 5) (l := 3) rfl rfl (fun h4 => ?_) (fun h4 => ?_)
  · have g4 := xt_ne h4
    exact absurd (xif1 g4) hx
  · have g4 := xf_ne h4
    refine xS.s1 rfl rfl ?_
    try dsimp only [Nat.reduceAdd, xi_m1]
    refine xS.ret rfl rfl rfl (fun _ _ => rfl) ?_
    exact ⟨rfl, rfl⟩

set_option maxRecDepth 10000 in
theorem c_X11_put_no (hp1 : p < 4) (hs : g (35 + 2 * p) 1 = -1) : xT (k + 3) 85 [.ref 0, .int (nI p), .int i, .int v] (xH b g l) (fun r M' => M' = xH b (xfC g 1) l ∧ r = some (.int (-3))) := by
  refine xT.of rfl (Nat.le_of_ble_eq_true rfl) ?_
  change xS _ _ 0 [(0, .ref 0), (1, .int (nI p)), (2, .int i), (3, .int v)] [] _ _
  refine xS.s1 rfl rfl ?_
  try dsimp only [Nat.reduceAdd]
  -- 1 yX11_isText
  refine xS.callS rfl rfl rfl ⟨Nat.le_of_ble_eq_true rfl, rfl⟩ (c_X11_isText_in hp1) (fun v M1 hv => ?_)
  rw [hv.1, hv.2]
  clear hv M1 v
  try dsimp only [Nat.reduceAdd, Option.toList, List.cons_append, List.nil_append, List.drop]
  refine xS.br0 (c := .ne) (off := 5) (l := 3) rfl rfl (fun h4 => ?_) (fun h4 => ?_)
  · have g4 := xt_ne h4
    refine xS.s1 rfl rfl ?_
    try dsimp only [Nat.reduceAdd]
    refine xS.gR rfl rfl rfl ⟨by decide, rfl⟩ rfl ?_
    try dsimp only [Nat.reduceAdd]
    refine xS.s1 rfl rfl ?_
    try dsimp only [Nat.reduceAdd]
    refine xS.aR rfl rfl (by decide) (by omega) (xsh2_get (by omega)) ?_
    try dsimp only [Nat.reduceAdd]
    refine xS.s1 rfl rfl ?_
    try dsimp only [Nat.reduceAdd]
    -- 16 yX11_findingOfPlace
    refine xS.callS rfl rfl rfl ⟨Nat.le_of_ble_eq_true rfl, rfl⟩ (c_fop_no (xce_text hp1) hs) (fun v M1 hv => ?_)
    rw [hv.1, hv.2]
    clear hv M1 v
    try dsimp only [Nat.reduceAdd, Option.toList, List.cons_append, List.nil_append, List.drop]
    refine xS.s1 rfl rfl ?_
    try dsimp only [Nat.reduceAdd]
    refine xS.s1 rfl rfl ?_
    try dsimp only [Nat.reduceAdd]
    refine xS.br0 (c := .eq) (off := 10) (l := 3) rfl rfl (fun h23 => ?_) (fun h23 => ?_)
    · have g23 := xt_eq h23
      exfalso; first | exact absurd g23 (by decide) | (simp (disch := omega) only [Int32.lt_iff_toInt_lt, Int32.le_iff_toInt_le, nI_toInt, Int32.reduceToInt] at g23 <;> omega)
    · have g23 := xf_eq h23
      refine xS.s1 rfl rfl ?_
      try dsimp only [Nat.reduceAdd]
      refine xS.s1 rfl rfl ?_
      try dsimp only [Nat.reduceAdd]
      -- 29 yX11_refuse
      refine xS.cv rfl rfl rfl rfl rfl rfl ⟨by decide, rfl, rfl⟩ (c_X11_refuse (t := 1) (by decide) (by decide)) (fun v M1 hv => ?_)
      rw [hv.1, hv.2]
      clear hv M1 v
      try dsimp only [Nat.reduceAdd, Option.toList, List.cons_append, List.nil_append, List.drop]
      refine xS.ret rfl rfl rfl (fun _ _ => rfl) ?_
      exact ⟨rfl, rfl⟩
  · have g4 := xf_ne h4
    exfalso; first | exact absurd g4 (by decide) | (simp (disch := omega) only [Int32.lt_iff_toInt_lt, Int32.le_iff_toInt_le, nI_toInt, Int32.reduceToInt] at g4 <;> omega)

set_option maxRecDepth 10000 in
theorem c_X11_put_bey (hp1 : p < 4) (hs : g (35 + 2 * p) 1 = nI m) (hm : m ≤ 60) (hi : ¬ (0 ≤ i ∧ i < nI m)) : xT (k + 3) 85 [.ref 0, .int (nI p), .int i, .int v] (xH b g l) (fun r M' => M' = xH b (xfC g 2) l ∧ r = some (.int (-3))) := by
  refine xT.of rfl (Nat.le_of_ble_eq_true rfl) ?_
  change xS _ _ 0 [(0, .ref 0), (1, .int (nI p)), (2, .int i), (3, .int v)] [] _ _
  refine xS.s1 rfl rfl ?_
  try dsimp only [Nat.reduceAdd]
  -- 1 yX11_isText
  refine xS.callS rfl rfl rfl ⟨Nat.le_of_ble_eq_true rfl, rfl⟩ (c_X11_isText_in hp1) (fun v M1 hv => ?_)
  rw [hv.1, hv.2]
  clear hv M1 v
  try dsimp only [Nat.reduceAdd, Option.toList, List.cons_append, List.nil_append, List.drop]
  refine xS.br0 (c := .ne) (off := 5) (l := 3) rfl rfl (fun h4 => ?_) (fun h4 => ?_)
  · have g4 := xt_ne h4
    refine xS.s1 rfl rfl ?_
    try dsimp only [Nat.reduceAdd]
    refine xS.gR rfl rfl rfl ⟨by decide, rfl⟩ rfl ?_
    try dsimp only [Nat.reduceAdd]
    refine xS.s1 rfl rfl ?_
    try dsimp only [Nat.reduceAdd]
    refine xS.aR rfl rfl (by decide) (by omega) (xsh2_get (by omega)) ?_
    try dsimp only [Nat.reduceAdd]
    refine xS.s1 rfl rfl ?_
    try dsimp only [Nat.reduceAdd]
    -- 16 yX11_findingOfPlace
    refine xS.callS rfl rfl rfl ⟨Nat.le_of_ble_eq_true rfl, rfl⟩ (c_fop_bey (xce_text hp1) hs hm hi) (fun v M1 hv => ?_)
    rw [hv.1, hv.2]
    clear hv M1 v
    try dsimp only [Nat.reduceAdd, Option.toList, List.cons_append, List.nil_append, List.drop]
    refine xS.s1 rfl rfl ?_
    try dsimp only [Nat.reduceAdd]
    refine xS.s1 rfl rfl ?_
    try dsimp only [Nat.reduceAdd]
    refine xS.br0 (c := .eq) (off := 10) (l := 3) rfl rfl (fun h23 => ?_) (fun h23 => ?_)
    · have g23 := xt_eq h23
      exfalso; first | exact absurd g23 (by decide) | (simp (disch := omega) only [Int32.lt_iff_toInt_lt, Int32.le_iff_toInt_le, nI_toInt, Int32.reduceToInt] at g23 <;> omega)
    · have g23 := xf_eq h23
      refine xS.s1 rfl rfl ?_
      try dsimp only [Nat.reduceAdd]
      refine xS.s1 rfl rfl ?_
      try dsimp only [Nat.reduceAdd]
      -- 29 yX11_refuse
      refine xS.cv rfl rfl rfl rfl rfl rfl ⟨by decide, rfl, rfl⟩ (c_X11_refuse (t := 2) (by decide) (by decide)) (fun v M1 hv => ?_)
      rw [hv.1, hv.2]
      clear hv M1 v
      try dsimp only [Nat.reduceAdd, Option.toList, List.cons_append, List.nil_append, List.drop]
      refine xS.ret rfl rfl rfl (fun _ _ => rfl) ?_
      exact ⟨rfl, rfl⟩
  · have g4 := xf_ne h4
    exfalso; first | exact absurd g4 (by decide) | (simp (disch := omega) only [Int32.lt_iff_toInt_lt, Int32.le_iff_toInt_le, nI_toInt, Int32.reduceToInt] at g4 <;> omega)

set_option maxRecDepth 10000 in
theorem c_X11_put_ok (hp1 : p < 4) (hs : g (35 + 2 * p) 1 = nI m) (hm : m ≤ 60) (hi : t < m) : xT (k + 3) 85 [.ref 0, .int (nI p), .int (nI t), .int v] (xH b g l) (fun r M' => M' = xH b (up g ((35 + 2 * p) + 1) t v.toInt8.toInt32) l ∧ r = some (.int (g ((35 + 2 * p) + 1) t + 1000))) := by
  refine xT.of rfl (Nat.le_of_ble_eq_true rfl) ?_
  change xS _ _ 0 [(0, .ref 0), (1, .int (nI p)), (2, .int (nI t)), (3, .int v)] [] _ _
  refine xS.s1 rfl rfl ?_
  try dsimp only [Nat.reduceAdd]
  -- 1 yX11_isText
  refine xS.callS rfl rfl rfl ⟨Nat.le_of_ble_eq_true rfl, rfl⟩ (c_X11_isText_in hp1) (fun v M1 hv => ?_)
  rw [hv.1, hv.2]
  clear hv M1 v
  try dsimp only [Nat.reduceAdd, Option.toList, List.cons_append, List.nil_append, List.drop]
  refine xS.br0 (c := .ne) (off := 5) (l := 3) rfl rfl (fun h4 => ?_) (fun h4 => ?_)
  · have g4 := xt_ne h4
    refine xS.s1 rfl rfl ?_
    try dsimp only [Nat.reduceAdd]
    refine xS.gR rfl rfl rfl ⟨by decide, rfl⟩ rfl ?_
    try dsimp only [Nat.reduceAdd]
    refine xS.s1 rfl rfl ?_
    try dsimp only [Nat.reduceAdd]
    refine xS.aR rfl rfl (by decide) (by omega) (xsh2_get (by omega)) ?_
    try dsimp only [Nat.reduceAdd]
    refine xS.s1 rfl rfl ?_
    try dsimp only [Nat.reduceAdd]
    -- 16 yX11_findingOfPlace
    refine xS.callS rfl rfl rfl ⟨Nat.le_of_ble_eq_true rfl, rfl⟩ (c_fop_ok (xce_text hp1) hs hm hi) (fun v M1 hv => ?_)
    rw [hv.1, hv.2]
    clear hv M1 v
    try dsimp only [Nat.reduceAdd, Option.toList, List.cons_append, List.nil_append, List.drop]
    refine xS.s1 rfl rfl ?_
    try dsimp only [Nat.reduceAdd]
    refine xS.s1 rfl rfl ?_
    try dsimp only [Nat.reduceAdd]
    refine xS.br0 (c := .eq) (off := 10) (l := 3) rfl rfl (fun h23 => ?_) (fun h23 => ?_)
    · have g23 := xt_eq h23
      refine xS.s1 rfl rfl ?_
      try dsimp only [Nat.reduceAdd]
      refine xS.gR rfl rfl rfl ⟨by decide, rfl⟩ rfl ?_
      try dsimp only [Nat.reduceAdd]
      refine xS.s1 rfl rfl ?_
      try dsimp only [Nat.reduceAdd]
      refine xS.aR rfl rfl (by decide) (by omega) (xsh2_get (by omega)) ?_
      try dsimp only [Nat.reduceAdd]
      refine xS.s1 rfl rfl ?_
      try dsimp only [Nat.reduceAdd]
      -- 40 yX0_get
      refine xS.cv rfl rfl rfl ((xce_text (r := p) (by omega)).1 _) rfl rfl ⟨by decide, rfl, rfl⟩ (c_X0_get (xce_text hp1) hs hm hi) (fun v M1 hv => ?_)
      rw [hv.1, hv.2]
      clear hv M1 v
      try dsimp only [Nat.reduceAdd, Option.toList, List.cons_append, List.nil_append, List.drop]
      refine xS.s1 rfl rfl ?_
      try dsimp only [Nat.reduceAdd]
      refine xS.s1 rfl rfl ?_
      try dsimp only [Nat.reduceAdd]
      refine xS.gR rfl rfl rfl ⟨by decide, rfl⟩ rfl ?_
      try dsimp only [Nat.reduceAdd]
      refine xS.s1 rfl rfl ?_
      try dsimp only [Nat.reduceAdd]
      refine xS.aR rfl rfl (by decide) (by omega) (xsh2_get (by omega)) ?_
      try dsimp only [Nat.reduceAdd]
      refine xS.s1 rfl rfl ?_
      try dsimp only [Nat.reduceAdd]
      refine xS.s1 rfl rfl ?_
      try dsimp only [Nat.reduceAdd]
      refine xS.s1 rfl rfl ?_
      try dsimp only [Nat.reduceAdd]
      -- 54 yX0_set
      refine xS.cv rfl rfl rfl ((xce_text (r := p) (by omega)).1 _) rfl rfl ⟨by decide, rfl, rfl⟩ (c_X0_set (xce_text hp1) (m := m) hs hm hi) (fun v M1 hv => ?_)
      rw [hv.1, hv.2]
      clear hv M1 v
      try dsimp only [Nat.reduceAdd, Option.toList, List.cons_append, List.nil_append, List.drop]
      refine xS.s1 rfl rfl ?_
      try dsimp only [Nat.reduceAdd]
      refine xS.s1 rfl rfl ?_
      try dsimp only [Nat.reduceAdd, xk_1000]
      refine xS.s1 rfl rfl ?_
      try dsimp only [Nat.reduceAdd]
      refine xS.ret rfl rfl rfl (fun _ _ => rfl) ?_
      exact ⟨rfl, rfl⟩
    · have g23 := xf_eq h23
      exfalso; first | exact absurd g23 (by decide) | (simp (disch := omega) only [Int32.lt_iff_toInt_lt, Int32.le_iff_toInt_le, nI_toInt, Int32.reduceToInt] at g23 <;> omega)
  · have g4 := xf_ne h4
    exfalso; first | exact absurd g4 (by decide) | (simp (disch := omega) only [Int32.lt_iff_toInt_lt, Int32.le_iff_toInt_le, nI_toInt, Int32.reduceToInt] at g4 <;> omega)

set_option maxRecDepth 10000 in
theorem c_X11_tear_bad (hx : ¬ (0 ≤ x ∧ x < 6)) : xT (k + 2) 81 [.ref 0, .int x] (xH b g l) (fun r M' => M' = xH b g l ∧ r = some (.int (-1))) := by
  refine xT.of rfl (Nat.le_of_ble_eq_true rfl) ?_
  change xS _ _ 0 [(0, .ref 0), (1, .int x)] [] _ _
  refine xS.s1 rfl rfl ?_
  try dsimp only [Nat.reduceAdd]
  -- 1 yX11_isRow
  refine xS.callS rfl rfl rfl ⟨Nat.le_of_ble_eq_true rfl, rfl⟩ c_X11_isRow (fun v M1 hv => ?_)
  rw [hv.1, hv.2]
  clear hv M1 v
  try dsimp only [Nat.reduceAdd, Option.toList, List.cons_append, List.nil_append, List.drop]
  refine xS.br0 (c := .ne) (off := 5) (l := 3) rfl rfl (fun h4 => ?_) (fun h4 => ?_)
  · have g4 := xt_ne h4
    exact absurd (xif1 g4) hx
  · have g4 := xf_ne h4
    refine xS.s1 rfl rfl ?_
    try dsimp only [Nat.reduceAdd, xi_m1]
    refine xS.ret rfl rfl rfl (fun _ _ => rfl) ?_
    exact ⟨rfl, rfl⟩

set_option maxRecDepth 10000 in
theorem c_X11_tear_no (hp1 : p < 6) (hs : g (23 + 2 * p) 1 = -1) : xT (k + 2) 81 [.ref 0, .int (nI p)] (xH b g l) (fun r M' => M' = xH b (xfC g 1) l ∧ r = some (.int (-3))) := by
  refine xT.of rfl (Nat.le_of_ble_eq_true rfl) ?_
  change xS _ _ 0 [(0, .ref 0), (1, .int (nI p))] [] _ _
  refine xS.s1 rfl rfl ?_
  try dsimp only [Nat.reduceAdd]
  -- 1 yX11_isRow
  refine xS.callS rfl rfl rfl ⟨Nat.le_of_ble_eq_true rfl, rfl⟩ (c_X11_isRow_in hp1) (fun v M1 hv => ?_)
  rw [hv.1, hv.2]
  clear hv M1 v
  try dsimp only [Nat.reduceAdd, Option.toList, List.cons_append, List.nil_append, List.drop]
  refine xS.br0 (c := .ne) (off := 5) (l := 3) rfl rfl (fun h4 => ?_) (fun h4 => ?_)
  · have g4 := xt_ne h4
    refine xS.s1 rfl rfl ?_
    try dsimp only [Nat.reduceAdd]
    refine xS.gR rfl rfl rfl ⟨by decide, rfl⟩ rfl ?_
    try dsimp only [Nat.reduceAdd]
    refine xS.s1 rfl rfl ?_
    try dsimp only [Nat.reduceAdd]
    refine xS.aR rfl rfl (by decide) (by omega) (xsh1_get (by omega)) ?_
    try dsimp only [Nat.reduceAdd]
    -- 15 yX0_isMissing
    refine xS.cv rfl rfl rfl ((xce_row (r := p) (by omega)).1 _) rfl rfl ⟨by decide, rfl, rfl⟩ (c_X0_isMissing (xce_row (r := p) (by omega))) (fun v M1 hv => ?_)
    rw [hv.1, hv.2]
    clear hv M1 v
    try dsimp only [Nat.reduceAdd, Option.toList, List.cons_append, List.nil_append, List.drop]
    refine xS.br0 (c := .eq) (off := 9) (l := 3) rfl rfl (fun h18 => ?_) (fun h18 => ?_)
    · have g18 := xt_eq h18
      exact absurd hs (xif0 g18)
    · have g18 := xf_eq h18
      refine xS.s1 rfl rfl ?_
      try dsimp only [Nat.reduceAdd]
      refine xS.s1 rfl rfl ?_
      try dsimp only [Nat.reduceAdd, xi_1]
      -- 23 yX11_refuse
      refine xS.cv rfl rfl rfl rfl rfl rfl ⟨by decide, rfl, rfl⟩ (c_X11_refuse (t := 1) (by decide) (by decide)) (fun v M1 hv => ?_)
      rw [hv.1, hv.2]
      clear hv M1 v
      try dsimp only [Nat.reduceAdd, Option.toList, List.cons_append, List.nil_append, List.drop]
      refine xS.ret rfl rfl rfl (fun _ _ => rfl) ?_
      exact ⟨rfl, rfl⟩
  · have g4 := xf_ne h4
    exfalso; first | exact absurd g4 (by decide) | (simp (disch := omega) only [Int32.lt_iff_toInt_lt, Int32.le_iff_toInt_le, nI_toInt, Int32.reduceToInt] at g4 <;> omega)

set_option maxRecDepth 10000 in
theorem c_X11_tear_ok (hp1 : p < 6) (hs : ¬ g (23 + 2 * p) 1 = -1) : xT (k + 2) 81 [.ref 0, .int (nI p)] (xH b g l) (fun r M' => M' = xH b (up g (23 + 2 * p) 1 (-1)) l ∧ r = some (.int 1)) := by
  refine xT.of rfl (Nat.le_of_ble_eq_true rfl) ?_
  change xS _ _ 0 [(0, .ref 0), (1, .int (nI p))] [] _ _
  refine xS.s1 rfl rfl ?_
  try dsimp only [Nat.reduceAdd]
  -- 1 yX11_isRow
  refine xS.callS rfl rfl rfl ⟨Nat.le_of_ble_eq_true rfl, rfl⟩ (c_X11_isRow_in hp1) (fun v M1 hv => ?_)
  rw [hv.1, hv.2]
  clear hv M1 v
  try dsimp only [Nat.reduceAdd, Option.toList, List.cons_append, List.nil_append, List.drop]
  refine xS.br0 (c := .ne) (off := 5) (l := 3) rfl rfl (fun h4 => ?_) (fun h4 => ?_)
  · have g4 := xt_ne h4
    refine xS.s1 rfl rfl ?_
    try dsimp only [Nat.reduceAdd]
    refine xS.gR rfl rfl rfl ⟨by decide, rfl⟩ rfl ?_
    try dsimp only [Nat.reduceAdd]
    refine xS.s1 rfl rfl ?_
    try dsimp only [Nat.reduceAdd]
    refine xS.aR rfl rfl (by decide) (by omega) (xsh1_get (by omega)) ?_
    try dsimp only [Nat.reduceAdd]
    -- 15 yX0_isMissing
    refine xS.cv rfl rfl rfl ((xce_row (r := p) (by omega)).1 _) rfl rfl ⟨by decide, rfl, rfl⟩ (c_X0_isMissing (xce_row (r := p) (by omega))) (fun v M1 hv => ?_)
    rw [hv.1, hv.2]
    clear hv M1 v
    try dsimp only [Nat.reduceAdd, Option.toList, List.cons_append, List.nil_append, List.drop]
    refine xS.br0 (c := .eq) (off := 9) (l := 3) rfl rfl (fun h18 => ?_) (fun h18 => ?_)
    · have g18 := xt_eq h18
      refine xS.s1 rfl rfl ?_
      try dsimp only [Nat.reduceAdd]
      refine xS.gR rfl rfl rfl ⟨by decide, rfl⟩ rfl ?_
      try dsimp only [Nat.reduceAdd]
      refine xS.s1 rfl rfl ?_
      try dsimp only [Nat.reduceAdd]
      refine xS.aR rfl rfl (by decide) (by omega) (xsh1_get (by omega)) ?_
      try dsimp only [Nat.reduceAdd]
      -- 33 yX0_drop
      refine xS.cv rfl rfl rfl ((xce_row (r := p) (by omega)).1 _) rfl rfl ⟨by decide, rfl, rfl⟩ (c_X0_drop (xce_row hp1)) (fun v M1 hv => ?_)
      rw [hv.1, hv.2]
      clear hv M1 v
      try dsimp only [Nat.reduceAdd, Option.toList, List.cons_append, List.nil_append, List.drop]
      refine xS.s1 rfl rfl ?_
      try dsimp only [Nat.reduceAdd, xi_1]
      refine xS.ret rfl rfl rfl (fun _ _ => rfl) ?_
      exact ⟨rfl, rfl⟩
    · have g18 := xf_eq h18
      exact absurd (xif1 g18) hs
  · have g4 := xf_ne h4
    exfalso; first | exact absurd g4 (by decide) | (simp (disch := omega) only [Int32.lt_iff_toInt_lt, Int32.le_iff_toInt_le, nI_toInt, Int32.reduceToInt] at g4 <;> omega)

set_option maxRecDepth 10000 in
theorem c_X11_copy_bad (hx : ¬ ((0 ≤ x ∧ x < 6) ∧ 0 ≤ y ∧ y < 6)) : xT (k + 3) 82 [.ref 0, .int x, .int i, .int y, .int j, .int z] (xH b g l) (fun r M' => M' = xH b g l ∧ r = some (.int (-1))) := by
  refine xT.of rfl (Nat.le_of_ble_eq_true rfl) ?_
  change xS _ _ 0 [(0, .ref 0), (1, .int x), (2, .int i), (3, .int y), (4, .int j), (5, .int z)] [] _ _
  refine xS.s1 rfl rfl ?_
  try dsimp only [Nat.reduceAdd]
  -- 1 yX11_isRow
  refine xS.callS rfl rfl rfl ⟨Nat.le_of_ble_eq_true rfl, rfl⟩ c_X11_isRow (fun v M1 hv => ?_)
  rw [hv.1, hv.2]
  clear hv M1 v
  try dsimp only [Nat.reduceAdd, Option.toList, List.cons_append, List.nil_append, List.drop]
  refine xS.br0 (c := .eq) (off := 10) (l := 3) rfl rfl (fun h4 => ?_) (fun h4 => ?_)
  · have g4 := xt_eq h4
    refine xS.s1 rfl rfl ?_
    try dsimp only [Nat.reduceAdd, xi_m1]
    refine xS.ret rfl rfl rfl (fun _ _ => rfl) ?_
    exact ⟨rfl, rfl⟩
  · have g4 := xf_eq h4
    refine xS.s1 rfl rfl ?_
    try dsimp only [Nat.reduceAdd]
    -- 8 yX11_isRow
    refine xS.callS rfl rfl rfl ⟨Nat.le_of_ble_eq_true rfl, rfl⟩ c_X11_isRow (fun v M1 hv => ?_)
    rw [hv.1, hv.2]
    clear hv M1 v
    try dsimp only [Nat.reduceAdd, Option.toList, List.cons_append, List.nil_append, List.drop]
    refine xS.br0 (c := .ne) (off := 5) (l := 3) rfl rfl (fun h11 => ?_) (fun h11 => ?_)
    · have g11 := xt_ne h11
      exact absurd ⟨xif1 g4, xif1 g11⟩ hx
    · have g11 := xf_ne h11
      refine xS.s1 rfl rfl ?_
      try dsimp only [Nat.reduceAdd, xi_m1]
      refine xS.ret rfl rfl rfl (fun _ _ => rfl) ?_
      exact ⟨rfl, rfl⟩

set_option maxRecDepth 10000 in
theorem c_X11_copy_neg (hp1 : p < 6) (hs1 : s < 6) (hz : z < 0) : xT (k + 3) 82 [.ref 0, .int (nI p), .int i, .int (nI s), .int j, .int z] (xH b g l) (fun r M' => M' = xH b (xfC g 5) l ∧ r = some (.int (-3))) := by
  refine xT.of rfl (Nat.le_of_ble_eq_true rfl) ?_
  change xS _ _ 0 [(0, .ref 0), (1, .int (nI p)), (2, .int i), (3, .int (nI s)), (4, .int j), (5, .int z)] [] _ _
  refine xS.s1 rfl rfl ?_
  try dsimp only [Nat.reduceAdd]
  -- 1 yX11_isRow
  refine xS.callS rfl rfl rfl ⟨Nat.le_of_ble_eq_true rfl, rfl⟩ (c_X11_isRow_in hp1) (fun v M1 hv => ?_)
  rw [hv.1, hv.2]
  clear hv M1 v
  try dsimp only [Nat.reduceAdd, Option.toList, List.cons_append, List.nil_append, List.drop]
  refine xS.br0 (c := .eq) (off := 10) (l := 3) rfl rfl (fun h4 => ?_) (fun h4 => ?_)
  · have g4 := xt_eq h4
    exfalso; first | exact absurd g4 (by decide) | (simp (disch := omega) only [Int32.lt_iff_toInt_lt, Int32.le_iff_toInt_le, nI_toInt, Int32.reduceToInt] at g4 <;> omega)
  · have g4 := xf_eq h4
    refine xS.s1 rfl rfl ?_
    try dsimp only [Nat.reduceAdd]
    -- 8 yX11_isRow
    refine xS.callS rfl rfl rfl ⟨Nat.le_of_ble_eq_true rfl, rfl⟩ (c_X11_isRow_in hs1) (fun v M1 hv => ?_)
    rw [hv.1, hv.2]
    clear hv M1 v
    try dsimp only [Nat.reduceAdd, Option.toList, List.cons_append, List.nil_append, List.drop]
    refine xS.br0 (c := .ne) (off := 5) (l := 3) rfl rfl (fun h11 => ?_) (fun h11 => ?_)
    · have g11 := xt_ne h11
      refine xS.s1 rfl rfl ?_
      try dsimp only [Nat.reduceAdd]
      refine xS.br0 (c := .ge) (off := 9) (l := 3) rfl rfl (fun h18 => ?_) (fun h18 => ?_)
      · have g18 := xt_ge h18
        exact absurd hz (Int32.not_lt.mpr g18)
      · have g18 := xf_ge h18
        refine xS.s1 rfl rfl ?_
        try dsimp only [Nat.reduceAdd]
        refine xS.s1 rfl rfl ?_
        try dsimp only [Nat.reduceAdd, xi_5]
        -- 23 yX11_refuse
        refine xS.cv rfl rfl rfl rfl rfl rfl ⟨by decide, rfl, rfl⟩ (c_X11_refuse (t := 5) (by decide) (by decide)) (fun v M1 hv => ?_)
        rw [hv.1, hv.2]
        clear hv M1 v
        try dsimp only [Nat.reduceAdd, Option.toList, List.cons_append, List.nil_append, List.drop]
        refine xS.ret rfl rfl rfl (fun _ _ => rfl) ?_
        exact ⟨rfl, rfl⟩
    · have g11 := xf_ne h11
      exfalso; first | exact absurd g11 (by decide) | (simp (disch := omega) only [Int32.lt_iff_toInt_lt, Int32.le_iff_toInt_le, nI_toInt, Int32.reduceToInt] at g11 <;> omega)

set_option maxRecDepth 10000 in
theorem c_X11_copy_no (hp1 : p < 6) (hs1 : s < 6) (hm : m < 2 ^ 31) (hq : g (23 + 2 * p) 1 = -1 ∨ g (23 + 2 * s) 1 = -1) : xT (k + 3) 82 [.ref 0, .int (nI p), .int i, .int (nI s), .int j, .int (nI m)] (xH b g l) (fun r M' => M' = xH b (xfC g 1) l ∧ r = some (.int (-3))) := by
  refine xT.of rfl (Nat.le_of_ble_eq_true rfl) ?_
  change xS _ _ 0 [(0, .ref 0), (1, .int (nI p)), (2, .int i), (3, .int (nI s)), (4, .int j), (5, .int (nI m))] [] _ _
  refine xS.s1 rfl rfl ?_
  try dsimp only [Nat.reduceAdd]
  -- 1 yX11_isRow
  refine xS.callS rfl rfl rfl ⟨Nat.le_of_ble_eq_true rfl, rfl⟩ (c_X11_isRow_in hp1) (fun v M1 hv => ?_)
  rw [hv.1, hv.2]
  clear hv M1 v
  try dsimp only [Nat.reduceAdd, Option.toList, List.cons_append, List.nil_append, List.drop]
  refine xS.br0 (c := .eq) (off := 10) (l := 3) rfl rfl (fun h4 => ?_) (fun h4 => ?_)
  · have g4 := xt_eq h4
    exfalso; first | exact absurd g4 (by decide) | (simp (disch := omega) only [Int32.lt_iff_toInt_lt, Int32.le_iff_toInt_le, nI_toInt, Int32.reduceToInt] at g4 <;> omega)
  · have g4 := xf_eq h4
    refine xS.s1 rfl rfl ?_
    try dsimp only [Nat.reduceAdd]
    -- 8 yX11_isRow
    refine xS.callS rfl rfl rfl ⟨Nat.le_of_ble_eq_true rfl, rfl⟩ (c_X11_isRow_in hs1) (fun v M1 hv => ?_)
    rw [hv.1, hv.2]
    clear hv M1 v
    try dsimp only [Nat.reduceAdd, Option.toList, List.cons_append, List.nil_append, List.drop]
    refine xS.br0 (c := .ne) (off := 5) (l := 3) rfl rfl (fun h11 => ?_) (fun h11 => ?_)
    · have g11 := xt_ne h11
      refine xS.s1 rfl rfl ?_
      try dsimp only [Nat.reduceAdd]
      refine xS.br0 (c := .ge) (off := 9) (l := 3) rfl rfl (fun h18 => ?_) (fun h18 => ?_)
      · have g18 := xt_ge h18
        refine xS.s1 rfl rfl ?_
        try dsimp only [Nat.reduceAdd]
        refine xS.gR rfl rfl rfl ⟨by decide, rfl⟩ rfl ?_
        try dsimp only [Nat.reduceAdd]
        refine xS.s1 rfl rfl ?_
        try dsimp only [Nat.reduceAdd]
        refine xS.aR rfl rfl (by decide) (by omega) (xsh1_get (by omega)) ?_
        try dsimp only [Nat.reduceAdd]
        -- 33 yX0_isMissing
        refine xS.cv rfl rfl rfl ((xce_row (r := p) (by omega)).1 _) rfl rfl ⟨by decide, rfl, rfl⟩ (c_X0_isMissing (xce_row (r := p) (by omega))) (fun v M1 hv => ?_)
        rw [hv.1, hv.2]
        clear hv M1 v
        try dsimp only [Nat.reduceAdd, Option.toList, List.cons_append, List.nil_append, List.drop]
        refine xS.br0 (c := .ne) (off := 15) (l := 3) rfl rfl (fun h36 => ?_) (fun h36 => ?_)
        · have g36 := xt_ne h36
          refine xS.s1 rfl rfl ?_
          try dsimp only [Nat.reduceAdd]
          refine xS.s1 rfl rfl ?_
          try dsimp only [Nat.reduceAdd, xi_1]
          -- 53 yX11_refuse
          refine xS.cv rfl rfl rfl rfl rfl rfl ⟨by decide, rfl, rfl⟩ (c_X11_refuse (t := 1) (by decide) (by decide)) (fun v M1 hv => ?_)
          rw [hv.1, hv.2]
          clear hv M1 v
          try dsimp only [Nat.reduceAdd, Option.toList, List.cons_append, List.nil_append, List.drop]
          refine xS.ret rfl rfl rfl (fun _ _ => rfl) ?_
          exact ⟨rfl, rfl⟩
        · have g36 := xf_ne h36
          refine xS.s1 rfl rfl ?_
          try dsimp only [Nat.reduceAdd]
          refine xS.gR rfl rfl rfl ⟨by decide, rfl⟩ rfl ?_
          try dsimp only [Nat.reduceAdd]
          refine xS.s1 rfl rfl ?_
          try dsimp only [Nat.reduceAdd]
          refine xS.aR rfl rfl (by decide) (by omega) (xsh1_get (by omega)) ?_
          try dsimp only [Nat.reduceAdd]
          -- 45 yX0_isMissing
          refine xS.cv rfl rfl rfl ((xce_row (r := s) (by omega)).1 _) rfl rfl ⟨by decide, rfl, rfl⟩ (c_X0_isMissing (xce_row (r := s) (by omega))) (fun v M1 hv => ?_)
          rw [hv.1, hv.2]
          clear hv M1 v
          try dsimp only [Nat.reduceAdd, Option.toList, List.cons_append, List.nil_append, List.drop]
          refine xS.br0 (c := .eq) (off := 9) (l := 3) rfl rfl (fun h48 => ?_) (fun h48 => ?_)
          · have g48 := xt_eq h48
            exact absurd hq (fun h => h.elim (xif0 g36) (xif0 g48))
          · have g48 := xf_eq h48
            refine xS.s1 rfl rfl ?_
            try dsimp only [Nat.reduceAdd]
            refine xS.s1 rfl rfl ?_
            try dsimp only [Nat.reduceAdd, xi_1]
            -- 53 yX11_refuse
            refine xS.cv rfl rfl rfl rfl rfl rfl ⟨by decide, rfl, rfl⟩ (c_X11_refuse (t := 1) (by decide) (by decide)) (fun v M1 hv => ?_)
            rw [hv.1, hv.2]
            clear hv M1 v
            try dsimp only [Nat.reduceAdd, Option.toList, List.cons_append, List.nil_append, List.drop]
            refine xS.ret rfl rfl rfl (fun _ _ => rfl) ?_
            exact ⟨rfl, rfl⟩
      · have g18 := xf_ge h18
        exfalso; first | exact absurd g18 (by decide) | (simp (disch := omega) only [Int32.lt_iff_toInt_lt, Int32.le_iff_toInt_le, nI_toInt, Int32.reduceToInt] at g18 <;> omega)
    · have g11 := xf_ne h11
      exfalso; first | exact absurd g11 (by decide) | (simp (disch := omega) only [Int32.lt_iff_toInt_lt, Int32.le_iff_toInt_le, nI_toInt, Int32.reduceToInt] at g11 <;> omega)

/-- places within a size -/
def xpl (i : Int32) (m n : Nat) : Prop := 0 ≤ i ∧ i ≤ nI n ∧ nI m ≤ nI n - i
theorem xpl_ok {i : Int32} {m n : Nat} (hn : n < 2 ^ 30) (hm : m < 2 ^ 31) (h : xpl i m n) : ∃ t, i = nI t ∧ t + m ≤ n := by
  obtain ⟨h0, h1, h2⟩ := h
  obtain ⟨t, ht, rfl⟩ := nI_of (x := i) (Int32.not_lt.mpr h0)
  have h3 := (nI_leI ht (by omega)).mp h1
  rw [pk_sub h3] at h2
  have h4 := (nI_leI hm (by omega)).mp h2
  exact ⟨t, rfl, by omega⟩
theorem xpl_in {t m n : Nat} (hn : n < 2 ^ 30) (h : t + m ≤ n) : xpl (nI t) m n := ⟨nI_pos' (by omega), nI_le (by omega) (by omega), by rw [pk_sub (by omega)]; exact nI_le (by omega) (by omega)⟩
theorem c_hp_w (hC : xce a n) (hs : g a 1 = nI n2) (dp : Decidable (xpl i m n2)) : xT (k + 1) 4 [.ref a, .int i, .int (nI m)] (xH b g l) (fun r M' => M' = xH b g l ∧ r = some (.int (if xpl i m n2 then 1 else 0))) :=
  (c_X0_hasPlaces hC).weak (fun r M' h => ⟨h.1, by
    rw [h.2, hs]
    by_cases c : xpl i m n2
    · rw [if_pos c, if_pos (show 0 ≤ i ∧ i ≤ nI n2 ∧ nI m ≤ nI n2 - i from c)]
    · rw [if_neg c, if_neg (show ¬ (0 ≤ i ∧ i ≤ nI n2 ∧ nI m ≤ nI n2 - i) from c)]⟩)

set_option maxRecDepth 10000 in
theorem c_X11_copy_bey (hp1 : p < 6) (hs1 : s < 6) (hm : m < 2 ^ 31) (h1s : g (23 + 2 * p) 1 = nI n) (hn : n ≤ 40) (h2s : g (23 + 2 * s) 1 = nI n2) (hn2 : n2 ≤ 40) (hq : ¬ (xpl i m n ∧ xpl j m n2)) : xT (k + 3) 82 [.ref 0, .int (nI p), .int i, .int (nI s), .int j, .int (nI m)] (xH b g l) (fun r M' => M' = xH b (xfC g 2) l ∧ r = some (.int (-3))) := by
  refine xT.of rfl (Nat.le_of_ble_eq_true rfl) ?_
  change xS _ _ 0 [(0, .ref 0), (1, .int (nI p)), (2, .int i), (3, .int (nI s)), (4, .int j), (5, .int (nI m))] [] _ _
  refine xS.s1 rfl rfl ?_
  try dsimp only [Nat.reduceAdd]
  -- 1 yX11_isRow
  refine xS.callS rfl rfl rfl ⟨Nat.le_of_ble_eq_true rfl, rfl⟩ (c_X11_isRow_in hp1) (fun v M1 hv => ?_)
  rw [hv.1, hv.2]
  clear hv M1 v
  try dsimp only [Nat.reduceAdd, Option.toList, List.cons_append, List.nil_append, List.drop]
  refine xS.br0 (c := .eq) (off := 10) (l := 3) rfl rfl (fun h4 => ?_) (fun h4 => ?_)
  · have g4 := xt_eq h4
    exfalso; first | exact absurd g4 (by decide) | (simp (disch := omega) only [Int32.lt_iff_toInt_lt, Int32.le_iff_toInt_le, nI_toInt, Int32.reduceToInt] at g4 <;> omega)
  · have g4 := xf_eq h4
    refine xS.s1 rfl rfl ?_
    try dsimp only [Nat.reduceAdd]
    -- 8 yX11_isRow
    refine xS.callS rfl rfl rfl ⟨Nat.le_of_ble_eq_true rfl, rfl⟩ (c_X11_isRow_in hs1) (fun v M1 hv => ?_)
    rw [hv.1, hv.2]
    clear hv M1 v
    try dsimp only [Nat.reduceAdd, Option.toList, List.cons_append, List.nil_append, List.drop]
    refine xS.br0 (c := .ne) (off := 5) (l := 3) rfl rfl (fun h11 => ?_) (fun h11 => ?_)
    · have g11 := xt_ne h11
      refine xS.s1 rfl rfl ?_
      try dsimp only [Nat.reduceAdd]
      refine xS.br0 (c := .ge) (off := 9) (l := 3) rfl rfl (fun h18 => ?_) (fun h18 => ?_)
      · have g18 := xt_ge h18
        refine xS.s1 rfl rfl ?_
        try dsimp only [Nat.reduceAdd]
        refine xS.gR rfl rfl rfl ⟨by decide, rfl⟩ rfl ?_
        try dsimp only [Nat.reduceAdd]
        refine xS.s1 rfl rfl ?_
        try dsimp only [Nat.reduceAdd]
        refine xS.aR rfl rfl (by decide) (by omega) (xsh1_get (by omega)) ?_
        try dsimp only [Nat.reduceAdd]
        -- 33 yX0_isMissing
        refine xS.cv rfl rfl rfl ((xce_row (r := p) (by omega)).1 _) rfl rfl ⟨by decide, rfl, rfl⟩ (c_X0_isMissing (xce_row (r := p) (by omega))) (fun v M1 hv => ?_)
        rw [hv.1, hv.2]
        clear hv M1 v
        try dsimp only [Nat.reduceAdd, Option.toList, List.cons_append, List.nil_append, List.drop]
        refine xS.br0 (c := .ne) (off := 15) (l := 3) rfl rfl (fun h36 => ?_) (fun h36 => ?_)
        · have g36 := xt_ne h36
          exact absurd (by rw [← h1s]; exact xif1 g36) (nI_nm1 (m := n) (by omega))
        · have g36 := xf_ne h36
          refine xS.s1 rfl rfl ?_
          try dsimp only [Nat.reduceAdd]
          refine xS.gR rfl rfl rfl ⟨by decide, rfl⟩ rfl ?_
          try dsimp only [Nat.reduceAdd]
          refine xS.s1 rfl rfl ?_
          try dsimp only [Nat.reduceAdd]
          refine xS.aR rfl rfl (by decide) (by omega) (xsh1_get (by omega)) ?_
          try dsimp only [Nat.reduceAdd]
          -- 45 yX0_isMissing
          refine xS.cv rfl rfl rfl ((xce_row (r := s) (by omega)).1 _) rfl rfl ⟨by decide, rfl, rfl⟩ (c_X0_isMissing (xce_row (r := s) (by omega))) (fun v M1 hv => ?_)
          rw [hv.1, hv.2]
          clear hv M1 v
          try dsimp only [Nat.reduceAdd, Option.toList, List.cons_append, List.nil_append, List.drop]
          refine xS.br0 (c := .eq) (off := 9) (l := 3) rfl rfl (fun h48 => ?_) (fun h48 => ?_)
          · have g48 := xt_eq h48
            refine xS.s1 rfl rfl ?_
            try dsimp only [Nat.reduceAdd]
            refine xS.gR rfl rfl rfl ⟨by decide, rfl⟩ rfl ?_
            try dsimp only [Nat.reduceAdd]
            refine xS.s1 rfl rfl ?_
            try dsimp only [Nat.reduceAdd]
            refine xS.aR rfl rfl (by decide) (by omega) (xsh1_get (by omega)) ?_
            try dsimp only [Nat.reduceAdd]
            refine xS.s1 rfl rfl ?_
            try dsimp only [Nat.reduceAdd]
            refine xS.s1 rfl rfl ?_
            try dsimp only [Nat.reduceAdd]
            -- 66 yX0_hasPlaces
            refine xS.cv rfl rfl rfl ((xce_row (r := p) (by omega)).1 _) rfl rfl ⟨by decide, rfl, rfl⟩ (c_hp_w (xce_row hp1) h1s (Classical.propDecidable _)) (fun v M1 hv => ?_)
            rw [hv.1, hv.2]
            clear hv M1 v
            try dsimp only [Nat.reduceAdd, Option.toList, List.cons_append, List.nil_append, List.drop]
            refine xS.br0 (c := .eq) (off := 19) (l := 3) rfl rfl (fun h69 => ?_) (fun h69 => ?_)
            · have g69 := xt_eq h69
              refine xS.s1 rfl rfl ?_
              try dsimp only [Nat.reduceAdd]
              refine xS.s1 rfl rfl ?_
              try dsimp only [Nat.reduceAdd, xi_2]
              -- 90 yX11_refuse
              refine xS.cv rfl rfl rfl rfl rfl rfl ⟨by decide, rfl, rfl⟩ (c_X11_refuse (t := 2) (by decide) (by decide)) (fun v M1 hv => ?_)
              rw [hv.1, hv.2]
              clear hv M1 v
              try dsimp only [Nat.reduceAdd, Option.toList, List.cons_append, List.nil_append, List.drop]
              refine xS.ret rfl rfl rfl (fun _ _ => rfl) ?_
              exact ⟨rfl, rfl⟩
            · have g69 := xf_eq h69
              refine xS.s1 rfl rfl ?_
              try dsimp only [Nat.reduceAdd]
              refine xS.gR rfl rfl rfl ⟨by decide, rfl⟩ rfl ?_
              try dsimp only [Nat.reduceAdd]
              refine xS.s1 rfl rfl ?_
              try dsimp only [Nat.reduceAdd]
              refine xS.aR rfl rfl (by decide) (by omega) (xsh1_get (by omega)) ?_
              try dsimp only [Nat.reduceAdd]
              refine xS.s1 rfl rfl ?_
              try dsimp only [Nat.reduceAdd]
              refine xS.s1 rfl rfl ?_
              try dsimp only [Nat.reduceAdd]
              -- 82 yX0_hasPlaces
              refine xS.cv rfl rfl rfl ((xce_row (r := s) (by omega)).1 _) rfl rfl ⟨by decide, rfl, rfl⟩ (c_hp_w (xce_row hs1) h2s (Classical.propDecidable _)) (fun v M1 hv => ?_)
              rw [hv.1, hv.2]
              clear hv M1 v
              try dsimp only [Nat.reduceAdd, Option.toList, List.cons_append, List.nil_append, List.drop]
              refine xS.br0 (c := .ne) (off := 9) (l := 3) rfl rfl (fun h85 => ?_) (fun h85 => ?_)
              · have g85 := xt_ne h85
                exact absurd ⟨@xif1 _ (Classical.propDecidable _) g69, @xif1 _ (Classical.propDecidable _) g85⟩ hq
              · have g85 := xf_ne h85
                refine xS.s1 rfl rfl ?_
                try dsimp only [Nat.reduceAdd]
                refine xS.s1 rfl rfl ?_
                try dsimp only [Nat.reduceAdd, xi_2]
                -- 90 yX11_refuse
                refine xS.cv rfl rfl rfl rfl rfl rfl ⟨by decide, rfl, rfl⟩ (c_X11_refuse (t := 2) (by decide) (by decide)) (fun v M1 hv => ?_)
                rw [hv.1, hv.2]
                clear hv M1 v
                try dsimp only [Nat.reduceAdd, Option.toList, List.cons_append, List.nil_append, List.drop]
                refine xS.ret rfl rfl rfl (fun _ _ => rfl) ?_
                exact ⟨rfl, rfl⟩
          · have g48 := xf_eq h48
            exact absurd (by rw [← h2s]; exact xif1 g48) (nI_nm1 (m := n2) (by omega))
      · have g18 := xf_ge h18
        exfalso; first | exact absurd g18 (by decide) | (simp (disch := omega) only [Int32.lt_iff_toInt_lt, Int32.le_iff_toInt_le, nI_toInt, Int32.reduceToInt] at g18 <;> omega)
    · have g11 := xf_ne h11
      exfalso; first | exact absurd g11 (by decide) | (simp (disch := omega) only [Int32.lt_iff_toInt_lt, Int32.le_iff_toInt_le, nI_toInt, Int32.reduceToInt] at g11 <;> omega)

set_option maxRecDepth 10000 in
theorem c_X11_copy_ok (hp1 : p < 6) (hs1 : s < 6) (h1s : g (23 + 2 * p) 1 = nI n) (hn : n ≤ 40) (h2s : g (23 + 2 * s) 1 = nI n2) (hn2 : n2 ≤ 40) (hq1 : i1 + m ≤ n) (hq2 : j1 + m ≤ n2) : xT (k + 3) 82 [.ref 0, .int (nI p), .int (nI i1), .int (nI s), .int (nI j1), .int (nI m)] (xH b g l) (fun r M' => M' = xH b (gcopy g (23 + 2 * p + 1) i1 (23 + 2 * s + 1) j1 m) l ∧ r = some (.int 1)) := by
  refine xT.of rfl (Nat.le_of_ble_eq_true rfl) ?_
  change xS _ _ 0 [(0, .ref 0), (1, .int (nI p)), (2, .int (nI i1)), (3, .int (nI s)), (4, .int (nI j1)), (5, .int (nI m))] [] _ _
  refine xS.s1 rfl rfl ?_
  try dsimp only [Nat.reduceAdd]
  -- 1 yX11_isRow
  refine xS.callS rfl rfl rfl ⟨Nat.le_of_ble_eq_true rfl, rfl⟩ (c_X11_isRow_in hp1) (fun v M1 hv => ?_)
  rw [hv.1, hv.2]
  clear hv M1 v
  try dsimp only [Nat.reduceAdd, Option.toList, List.cons_append, List.nil_append, List.drop]
  refine xS.br0 (c := .eq) (off := 10) (l := 3) rfl rfl (fun h4 => ?_) (fun h4 => ?_)
  · have g4 := xt_eq h4
    exfalso; first | exact absurd g4 (by decide) | (simp (disch := omega) only [Int32.lt_iff_toInt_lt, Int32.le_iff_toInt_le, nI_toInt, Int32.reduceToInt] at g4 <;> omega)
  · have g4 := xf_eq h4
    refine xS.s1 rfl rfl ?_
    try dsimp only [Nat.reduceAdd]
    -- 8 yX11_isRow
    refine xS.callS rfl rfl rfl ⟨Nat.le_of_ble_eq_true rfl, rfl⟩ (c_X11_isRow_in hs1) (fun v M1 hv => ?_)
    rw [hv.1, hv.2]
    clear hv M1 v
    try dsimp only [Nat.reduceAdd, Option.toList, List.cons_append, List.nil_append, List.drop]
    refine xS.br0 (c := .ne) (off := 5) (l := 3) rfl rfl (fun h11 => ?_) (fun h11 => ?_)
    · have g11 := xt_ne h11
      refine xS.s1 rfl rfl ?_
      try dsimp only [Nat.reduceAdd]
      refine xS.br0 (c := .ge) (off := 9) (l := 3) rfl rfl (fun h18 => ?_) (fun h18 => ?_)
      · have g18 := xt_ge h18
        refine xS.s1 rfl rfl ?_
        try dsimp only [Nat.reduceAdd]
        refine xS.gR rfl rfl rfl ⟨by decide, rfl⟩ rfl ?_
        try dsimp only [Nat.reduceAdd]
        refine xS.s1 rfl rfl ?_
        try dsimp only [Nat.reduceAdd]
        refine xS.aR rfl rfl (by decide) (by omega) (xsh1_get (by omega)) ?_
        try dsimp only [Nat.reduceAdd]
        -- 33 yX0_isMissing
        refine xS.cv rfl rfl rfl ((xce_row (r := p) (by omega)).1 _) rfl rfl ⟨by decide, rfl, rfl⟩ (c_X0_isMissing (xce_row (r := p) (by omega))) (fun v M1 hv => ?_)
        rw [hv.1, hv.2]
        clear hv M1 v
        try dsimp only [Nat.reduceAdd, Option.toList, List.cons_append, List.nil_append, List.drop]
        refine xS.br0 (c := .ne) (off := 15) (l := 3) rfl rfl (fun h36 => ?_) (fun h36 => ?_)
        · have g36 := xt_ne h36
          exact absurd (by rw [← h1s]; exact xif1 g36) (nI_nm1 (m := n) (by omega))
        · have g36 := xf_ne h36
          refine xS.s1 rfl rfl ?_
          try dsimp only [Nat.reduceAdd]
          refine xS.gR rfl rfl rfl ⟨by decide, rfl⟩ rfl ?_
          try dsimp only [Nat.reduceAdd]
          refine xS.s1 rfl rfl ?_
          try dsimp only [Nat.reduceAdd]
          refine xS.aR rfl rfl (by decide) (by omega) (xsh1_get (by omega)) ?_
          try dsimp only [Nat.reduceAdd]
          -- 45 yX0_isMissing
          refine xS.cv rfl rfl rfl ((xce_row (r := s) (by omega)).1 _) rfl rfl ⟨by decide, rfl, rfl⟩ (c_X0_isMissing (xce_row (r := s) (by omega))) (fun v M1 hv => ?_)
          rw [hv.1, hv.2]
          clear hv M1 v
          try dsimp only [Nat.reduceAdd, Option.toList, List.cons_append, List.nil_append, List.drop]
          refine xS.br0 (c := .eq) (off := 9) (l := 3) rfl rfl (fun h48 => ?_) (fun h48 => ?_)
          · have g48 := xt_eq h48
            refine xS.s1 rfl rfl ?_
            try dsimp only [Nat.reduceAdd]
            refine xS.gR rfl rfl rfl ⟨by decide, rfl⟩ rfl ?_
            try dsimp only [Nat.reduceAdd]
            refine xS.s1 rfl rfl ?_
            try dsimp only [Nat.reduceAdd]
            refine xS.aR rfl rfl (by decide) (by omega) (xsh1_get (by omega)) ?_
            try dsimp only [Nat.reduceAdd]
            refine xS.s1 rfl rfl ?_
            try dsimp only [Nat.reduceAdd]
            refine xS.s1 rfl rfl ?_
            try dsimp only [Nat.reduceAdd]
            -- 66 yX0_hasPlaces
            refine xS.cv rfl rfl rfl ((xce_row (r := p) (by omega)).1 _) rfl rfl ⟨by decide, rfl, rfl⟩ (c_X0_hasPlaces_in (xce_row hp1) h1s hn hq1) (fun v M1 hv => ?_)
            rw [hv.1, hv.2]
            clear hv M1 v
            try dsimp only [Nat.reduceAdd, Option.toList, List.cons_append, List.nil_append, List.drop]
            refine xS.br0 (c := .eq) (off := 19) (l := 3) rfl rfl (fun h69 => ?_) (fun h69 => ?_)
            · have g69 := xt_eq h69
              exfalso; first | exact absurd g69 (by decide) | (simp (disch := omega) only [Int32.lt_iff_toInt_lt, Int32.le_iff_toInt_le, nI_toInt, Int32.reduceToInt] at g69 <;> omega)
            · have g69 := xf_eq h69
              refine xS.s1 rfl rfl ?_
              try dsimp only [Nat.reduceAdd]
              refine xS.gR rfl rfl rfl ⟨by decide, rfl⟩ rfl ?_
              try dsimp only [Nat.reduceAdd]
              refine xS.s1 rfl rfl ?_
              try dsimp only [Nat.reduceAdd]
              refine xS.aR rfl rfl (by decide) (by omega) (xsh1_get (by omega)) ?_
              try dsimp only [Nat.reduceAdd]
              refine xS.s1 rfl rfl ?_
              try dsimp only [Nat.reduceAdd]
              refine xS.s1 rfl rfl ?_
              try dsimp only [Nat.reduceAdd]
              -- 82 yX0_hasPlaces
              refine xS.cv rfl rfl rfl ((xce_row (r := s) (by omega)).1 _) rfl rfl ⟨by decide, rfl, rfl⟩ (c_X0_hasPlaces_in (xce_row hs1) h2s hn2 hq2) (fun v M1 hv => ?_)
              rw [hv.1, hv.2]
              clear hv M1 v
              try dsimp only [Nat.reduceAdd, Option.toList, List.cons_append, List.nil_append, List.drop]
              refine xS.br0 (c := .ne) (off := 9) (l := 3) rfl rfl (fun h85 => ?_) (fun h85 => ?_)
              · have g85 := xt_ne h85
                refine xS.s1 rfl rfl ?_
                try dsimp only [Nat.reduceAdd]
                refine xS.gR rfl rfl rfl ⟨by decide, rfl⟩ rfl ?_
                try dsimp only [Nat.reduceAdd]
                refine xS.s1 rfl rfl ?_
                try dsimp only [Nat.reduceAdd]
                refine xS.aR rfl rfl (by decide) (by omega) (xsh1_get (by omega)) ?_
                try dsimp only [Nat.reduceAdd]
                refine xS.s1 rfl rfl ?_
                try dsimp only [Nat.reduceAdd]
                refine xS.gR rfl rfl rfl ⟨by decide, rfl⟩ rfl ?_
                try dsimp only [Nat.reduceAdd]
                refine xS.s1 rfl rfl ?_
                try dsimp only [Nat.reduceAdd]
                refine xS.aR rfl rfl (by decide) (by omega) (xsh1_get (by omega)) ?_
                try dsimp only [Nat.reduceAdd]
                refine xS.s1 rfl rfl ?_
                try dsimp only [Nat.reduceAdd]
                refine xS.s1 rfl rfl ?_
                try dsimp only [Nat.reduceAdd]
                refine xS.s1 rfl rfl ?_
                try dsimp only [Nat.reduceAdd]
                -- 111 yX0_take
                refine xS.cv rfl rfl rfl ((xce_row (r := s) (by omega)).1 _) rfl rfl ⟨by decide, rfl, rfl⟩ (c_X0_take (xce_row hs1) (xce_row hp1) h1s h2s hn hn2 hq1 hq2) (fun v M1 hv => ?_)
                rw [hv.1, hv.2]
                clear hv M1 v
                try dsimp only [Nat.reduceAdd, Option.toList, List.cons_append, List.nil_append, List.drop]
                refine xS.s1 rfl rfl ?_
                try dsimp only [Nat.reduceAdd, xi_1]
                refine xS.ret rfl rfl rfl (fun _ _ => rfl) ?_
                exact ⟨rfl, rfl⟩
              · have g85 := xf_ne h85
                exfalso; first | exact absurd g85 (by decide) | (simp (disch := omega) only [Int32.lt_iff_toInt_lt, Int32.le_iff_toInt_le, nI_toInt, Int32.reduceToInt] at g85 <;> omega)
          · have g48 := xf_eq h48
            exact absurd (by rw [← h2s]; exact xif1 g48) (nI_nm1 (m := n2) (by omega))
      · have g18 := xf_ge h18
        exfalso; first | exact absurd g18 (by decide) | (simp (disch := omega) only [Int32.lt_iff_toInt_lt, Int32.le_iff_toInt_le, nI_toInt, Int32.reduceToInt] at g18 <;> omega)
    · have g11 := xf_ne h11
      exfalso; first | exact absurd g11 (by decide) | (simp (disch := omega) only [Int32.lt_iff_toInt_lt, Int32.le_iff_toInt_le, nI_toInt, Int32.reduceToInt] at g11 <;> omega)

def xsum (f : Nat → Int32) (n : Nat) : Int64 := Nat.rec (motive := fun _ => Int64) 0 (fun j c => c + (f j).toInt64) n
def xmean (f : Nat → Int32) (m : Nat) : Int32 := (xsum f m / (nI m).toInt64).toInt32
theorem nI_l0 {m : Nat} (h0 : 0 < m) (h : m < 2 ^ 31) : ¬ (nI m).toInt64 = 0 := by
  rw [nI_l h]
  intro z
  have := (lN_inj (b := 0) (by omega) (by omega)).mp z
  omega

set_option maxRecDepth 10000 in
theorem c_X11_mean_bad (hx : ¬ (0 ≤ x ∧ x < 6)) : xT (k + 3) 83 [.ref 0, .int x] (xH b g l) (fun r M' => M' = xH b g l ∧ r = some (.int (-1))) := by
  refine xT.of rfl (Nat.le_of_ble_eq_true rfl) ?_
  change xS _ _ 0 [(0, .ref 0), (1, .int x)] [] _ _
  refine xS.s1 rfl rfl ?_
  try dsimp only [Nat.reduceAdd]
  -- 1 yX11_isRow
  refine xS.callS rfl rfl rfl ⟨Nat.le_of_ble_eq_true rfl, rfl⟩ c_X11_isRow (fun v M1 hv => ?_)
  rw [hv.1, hv.2]
  clear hv M1 v
  try dsimp only [Nat.reduceAdd, Option.toList, List.cons_append, List.nil_append, List.drop]
  refine xS.br0 (c := .ne) (off := 5) (l := 3) rfl rfl (fun h4 => ?_) (fun h4 => ?_)
  · have g4 := xt_ne h4
    exact absurd (xif1 g4) hx
  · have g4 := xf_ne h4
    refine xS.s1 rfl rfl ?_
    try dsimp only [Nat.reduceAdd, xi_m1]
    refine xS.ret rfl rfl rfl (fun _ _ => rfl) ?_
    exact ⟨rfl, rfl⟩

set_option maxRecDepth 10000 in
theorem c_X11_mean_no (hp1 : p < 6) (hs : g (23 + 2 * p) 1 = -1) : xT (k + 3) 83 [.ref 0, .int (nI p)] (xH b g l) (fun r M' => M' = xH b (xfC g 1) l ∧ r = some (.int (-3))) := by
  refine xT.of rfl (Nat.le_of_ble_eq_true rfl) ?_
  change xS _ _ 0 [(0, .ref 0), (1, .int (nI p))] [] _ _
  refine xS.s1 rfl rfl ?_
  try dsimp only [Nat.reduceAdd]
  -- 1 yX11_isRow
  refine xS.callS rfl rfl rfl ⟨Nat.le_of_ble_eq_true rfl, rfl⟩ (c_X11_isRow_in hp1) (fun v M1 hv => ?_)
  rw [hv.1, hv.2]
  clear hv M1 v
  try dsimp only [Nat.reduceAdd, Option.toList, List.cons_append, List.nil_append, List.drop]
  refine xS.br0 (c := .ne) (off := 5) (l := 3) rfl rfl (fun h4 => ?_) (fun h4 => ?_)
  · have g4 := xt_ne h4
    refine xS.s1 rfl rfl ?_
    try dsimp only [Nat.reduceAdd]
    refine xS.gR rfl rfl rfl ⟨by decide, rfl⟩ rfl ?_
    try dsimp only [Nat.reduceAdd]
    refine xS.s1 rfl rfl ?_
    try dsimp only [Nat.reduceAdd]
    refine xS.aR rfl rfl (by decide) (by omega) (xsh1_get (by omega)) ?_
    try dsimp only [Nat.reduceAdd]
    refine xS.s1 rfl rfl ?_
    try dsimp only [Nat.reduceAdd]
    refine xS.s1 rfl rfl ?_
    try dsimp only [Nat.reduceAdd]
    -- 17 yX0_isMissing
    refine xS.cv rfl rfl rfl ((xce_row (r := p) (by omega)).1 _) rfl rfl ⟨by decide, rfl, rfl⟩ (c_X0_isMissing (xce_row (r := p) (by omega))) (fun v M1 hv => ?_)
    rw [hv.1, hv.2]
    clear hv M1 v
    try dsimp only [Nat.reduceAdd, Option.toList, List.cons_append, List.nil_append, List.drop]
    refine xS.br0 (c := .eq) (off := 9) (l := 3) rfl rfl (fun h20 => ?_) (fun h20 => ?_)
    · have g20 := xt_eq h20
      exact absurd hs (xif0 g20)
    · have g20 := xf_eq h20
      refine xS.s1 rfl rfl ?_
      try dsimp only [Nat.reduceAdd]
      refine xS.s1 rfl rfl ?_
      try dsimp only [Nat.reduceAdd, xi_1]
      -- 25 yX11_refuse
      refine xS.cv rfl rfl rfl rfl rfl rfl ⟨by decide, rfl, rfl⟩ (c_X11_refuse (t := 1) (by decide) (by decide)) (fun v M1 hv => ?_)
      rw [hv.1, hv.2]
      clear hv M1 v
      try dsimp only [Nat.reduceAdd, Option.toList, List.cons_append, List.nil_append, List.drop]
      refine xS.ret rfl rfl rfl (fun _ _ => rfl) ?_
      exact ⟨rfl, rfl⟩
  · have g4 := xf_ne h4
    exfalso; first | exact absurd g4 (by decide) | (simp (disch := omega) only [Int32.lt_iff_toInt_lt, Int32.le_iff_toInt_le, nI_toInt, Int32.reduceToInt] at g4 <;> omega)

set_option maxRecDepth 10000 in
theorem c_X11_mean_nought (hp1 : p < 6) (hs : g (23 + 2 * p) 1 = nI 0) : xT (k + 3) 83 [.ref 0, .int (nI p)] (xH b g l) (fun r M' => M' = xH b (xfC g 4) l ∧ r = some (.int (-3))) := by
  refine xT.of rfl (Nat.le_of_ble_eq_true rfl) ?_
  change xS _ _ 0 [(0, .ref 0), (1, .int (nI p))] [] _ _
  refine xS.s1 rfl rfl ?_
  try dsimp only [Nat.reduceAdd]
  -- 1 yX11_isRow
  refine xS.callS rfl rfl rfl ⟨Nat.le_of_ble_eq_true rfl, rfl⟩ (c_X11_isRow_in hp1) (fun v M1 hv => ?_)
  rw [hv.1, hv.2]
  clear hv M1 v
  try dsimp only [Nat.reduceAdd, Option.toList, List.cons_append, List.nil_append, List.drop]
  refine xS.br0 (c := .ne) (off := 5) (l := 3) rfl rfl (fun h4 => ?_) (fun h4 => ?_)
  · have g4 := xt_ne h4
    refine xS.s1 rfl rfl ?_
    try dsimp only [Nat.reduceAdd]
    refine xS.gR rfl rfl rfl ⟨by decide, rfl⟩ rfl ?_
    try dsimp only [Nat.reduceAdd]
    refine xS.s1 rfl rfl ?_
    try dsimp only [Nat.reduceAdd]
    refine xS.aR rfl rfl (by decide) (by omega) (xsh1_get (by omega)) ?_
    try dsimp only [Nat.reduceAdd]
    refine xS.s1 rfl rfl ?_
    try dsimp only [Nat.reduceAdd]
    refine xS.s1 rfl rfl ?_
    try dsimp only [Nat.reduceAdd]
    -- 17 yX0_isMissing
    refine xS.cv rfl rfl rfl ((xce_row (r := p) (by omega)).1 _) rfl rfl ⟨by decide, rfl, rfl⟩ (c_X0_isMissing (xce_row (r := p) (by omega))) (fun v M1 hv => ?_)
    rw [hv.1, hv.2]
    clear hv M1 v
    try dsimp only [Nat.reduceAdd, Option.toList, List.cons_append, List.nil_append, List.drop]
    refine xS.br0 (c := .eq) (off := 9) (l := 3) rfl rfl (fun h20 => ?_) (fun h20 => ?_)
    · have g20 := xt_eq h20
      refine xS.s1 rfl rfl ?_
      try dsimp only [Nat.reduceAdd]
      -- 30 yX0_size
      refine xS.cv rfl rfl rfl ((xce_row (r := p) (by omega)).1 _) rfl rfl ⟨by decide, rfl, rfl⟩ (c_X0_size (xce_row hp1)) (fun v M1 hv => ?_)
      rw [hv.1, hv.2, hs]
      clear hv M1 v
      try dsimp only [Nat.reduceAdd, Option.toList, List.cons_append, List.nil_append, List.drop]
      refine xS.s1 rfl rfl ?_
      try dsimp only [Nat.reduceAdd]
      refine xS.s1 rfl rfl ?_
      try dsimp only [Nat.reduceAdd]
      refine xS.br0 (c := .ne) (off := 9) (l := 3) rfl rfl (fun h35 => ?_) (fun h35 => ?_)
      · have g35 := xt_ne h35
        exfalso; first | exact absurd g35 (by decide) | (simp (disch := omega) only [Int32.lt_iff_toInt_lt, Int32.le_iff_toInt_le, nI_toInt, Int32.reduceToInt] at g35 <;> omega)
      · have g35 := xf_ne h35
        refine xS.s1 rfl rfl ?_
        try dsimp only [Nat.reduceAdd]
        refine xS.s1 rfl rfl ?_
        try dsimp only [Nat.reduceAdd, xi_4]
        -- 40 yX11_refuse
        refine xS.cv rfl rfl rfl rfl rfl rfl ⟨by decide, rfl, rfl⟩ (c_X11_refuse (t := 4) (by decide) (by decide)) (fun v M1 hv => ?_)
        rw [hv.1, hv.2]
        clear hv M1 v
        try dsimp only [Nat.reduceAdd, Option.toList, List.cons_append, List.nil_append, List.drop]
        refine xS.ret rfl rfl rfl (fun _ _ => rfl) ?_
        exact ⟨rfl, rfl⟩
    · have g20 := xf_eq h20
      exact absurd (by rw [← hs]; exact xif1 g20) (nI_nm1 (m := 0) (by omega))
  · have g4 := xf_ne h4
    exfalso; first | exact absurd g4 (by decide) | (simp (disch := omega) only [Int32.lt_iff_toInt_lt, Int32.le_iff_toInt_le, nI_toInt, Int32.reduceToInt] at g4 <;> omega)

set_option maxRecDepth 10000 in
theorem c_X11_mean_ok (hp1 : p < 6) (hs : g (23 + 2 * p) 1 = nI m) (hm : m ≤ 40) (hm0 : 0 < m) : xT (k + 3) 83 [.ref 0, .int (nI p)] (xH b g l) (fun r M' => M' = xH b (up g 0 11 (xmean (g (23 + 2 * p + 1)) m)) l ∧ r = some (.int 1)) := by
  refine xT.of rfl (Nat.le_of_ble_eq_true rfl) ?_
  change xS _ _ 0 [(0, .ref 0), (1, .int (nI p))] [] _ _
  refine xS.s1 rfl rfl ?_
  try dsimp only [Nat.reduceAdd]
  -- 1 yX11_isRow
  refine xS.callS rfl rfl rfl ⟨Nat.le_of_ble_eq_true rfl, rfl⟩ (c_X11_isRow_in hp1) (fun v M1 hv => ?_)
  rw [hv.1, hv.2]
  clear hv M1 v
  try dsimp only [Nat.reduceAdd, Option.toList, List.cons_append, List.nil_append, List.drop]
  refine xS.br0 (c := .ne) (off := 5) (l := 3) rfl rfl (fun h4 => ?_) (fun h4 => ?_)
  · have g4 := xt_ne h4
    refine xS.s1 rfl rfl ?_
    try dsimp only [Nat.reduceAdd]
    refine xS.gR rfl rfl rfl ⟨by decide, rfl⟩ rfl ?_
    try dsimp only [Nat.reduceAdd]
    refine xS.s1 rfl rfl ?_
    try dsimp only [Nat.reduceAdd]
    refine xS.aR rfl rfl (by decide) (by omega) (xsh1_get (by omega)) ?_
    try dsimp only [Nat.reduceAdd]
    refine xS.s1 rfl rfl ?_
    try dsimp only [Nat.reduceAdd]
    refine xS.s1 rfl rfl ?_
    try dsimp only [Nat.reduceAdd]
    -- 17 yX0_isMissing
    refine xS.cv rfl rfl rfl ((xce_row (r := p) (by omega)).1 _) rfl rfl ⟨by decide, rfl, rfl⟩ (c_X0_isMissing (xce_row (r := p) (by omega))) (fun v M1 hv => ?_)
    rw [hv.1, hv.2]
    clear hv M1 v
    try dsimp only [Nat.reduceAdd, Option.toList, List.cons_append, List.nil_append, List.drop]
    refine xS.br0 (c := .eq) (off := 9) (l := 3) rfl rfl (fun h20 => ?_) (fun h20 => ?_)
    · have g20 := xt_eq h20
      refine xS.s1 rfl rfl ?_
      try dsimp only [Nat.reduceAdd]
      -- 30 yX0_size
      refine xS.cv rfl rfl rfl ((xce_row (r := p) (by omega)).1 _) rfl rfl ⟨by decide, rfl, rfl⟩ (c_X0_size (xce_row hp1)) (fun v M1 hv => ?_)
      rw [hv.1, hv.2, hs]
      clear hv M1 v
      try dsimp only [Nat.reduceAdd, Option.toList, List.cons_append, List.nil_append, List.drop]
      refine xS.s1 rfl rfl ?_
      try dsimp only [Nat.reduceAdd]
      refine xS.s1 rfl rfl ?_
      try dsimp only [Nat.reduceAdd]
      refine xS.br0 (c := .ne) (off := 9) (l := 3) rfl rfl (fun h35 => ?_) (fun h35 => ?_)
      · have g35 := xt_ne h35
        refine xS.s1 rfl rfl ?_
        try dsimp only [Nat.reduceAdd]
        refine xS.s1 rfl rfl ?_
        try dsimp only [Nat.reduceAdd]
        refine xS.s1 rfl rfl ?_
        try dsimp only [Nat.reduceAdd, xi_0]
        refine xS.s1 rfl rfl ?_
        try dsimp only [Nat.reduceAdd]
        refine xS.pick [0, 1, 4, 3, 2] rfl ?_
        refine xS.loop (σ := Unit) (m) (fun j S => [(6, .int (nI j)), (4, .long (xsum (g (23 + 2 * p + 1)) j)), (0, .ref 0), (2, .ref (23 + 2 * p)), (3, .int (nI m))]) (fun _ _ => xH b g l) (fun _ _ => True) (()) (rfl) (rfl) (trivial) ?_
        intro j S hj hI ih
        try dsimp only
        refine xS.s1 rfl rfl ?_
        try dsimp only [Nat.reduceAdd]
        refine xS.s1 rfl rfl ?_
        try dsimp only [Nat.reduceAdd]
        refine xS.br (c := .ge) (off := 21) (l := 3) rfl rfl (fun h53 => ?_) (fun h53 => ?_)
        · have g53 := xt_ge h53
          have e := xnle g53 (by omega) (by omega)
          have e : m = j := by omega
          subst e
          refine xS.s1 rfl rfl ?_
          try dsimp only [Nat.reduceAdd]
          refine xS.s1 rfl rfl ?_
          try dsimp only [Nat.reduceAdd]
          refine xS.s1 rfl rfl ?_
          try dsimp only [Nat.reduceAdd]
          refine xS.s1 rfl rfl ?_
          try dsimp only [Nat.reduceAdd]
          refine xS.ldiv rfl (nI_l0 hm0 (by omega)) ?_
          try dsimp only [Nat.reduceAdd]
          refine xS.s1 rfl rfl ?_
          try dsimp only [Nat.reduceAdd]
          refine xS.pI rfl rfl rfl ⟨⟨by decide, rfl⟩, rfl, by decide, by decide⟩ rfl ?_
          try dsimp only [Nat.reduceAdd]
          refine xS.s1 rfl rfl ?_
          try dsimp only [Nat.reduceAdd, xi_1]
          refine xS.ret rfl rfl rfl (fun _ _ => rfl) ?_
          exact ⟨rfl, rfl⟩
        · have g53 := xf_ge h53
          have hlt := xnlt g53 (by omega) (by omega)
          refine xS.s1 rfl rfl ?_
          try dsimp only [Nat.reduceAdd]
          refine xS.s1 rfl rfl ?_
          try dsimp only [Nat.reduceAdd]
          refine xS.s1 rfl rfl ?_
          try dsimp only [Nat.reduceAdd]
          -- 61 yX0_get
          refine xS.cv rfl rfl rfl ((xce_row (r := p) (by omega)).1 _) rfl rfl ⟨by decide, rfl, rfl⟩ (c_X0_get (xce_row hp1) hs hm hlt) (fun v M1 hv => ?_)
          rw [hv.1, hv.2]
          clear hv M1 v
          try dsimp only [Nat.reduceAdd, Option.toList, List.cons_append, List.nil_append, List.drop]
          refine xS.s1 rfl rfl ?_
          try dsimp only [Nat.reduceAdd]
          refine xS.s1 rfl rfl ?_
          try dsimp only [Nat.reduceAdd]
          refine xS.s1 rfl rfl ?_
          try dsimp only [Nat.reduceAdd]
          refine xS.s1 rfl rfl ?_
          try dsimp only [Nat.reduceAdd, xi_1]
          rw [nI_1]
          refine xS.s1 rfl rfl ?_
          try dsimp only [Nat.reduceAdd]
          refine xS.pick [0, 1, 2, 3, 4] rfl ?_
          exact ih () (by omega) trivial
      · have g35 := xf_ne h35
        exact absurd g35 (nI_ne0 hm0 (by omega))
    · have g20 := xf_eq h20
      exact absurd (by rw [← hs]; exact xif1 g20) (nI_nm1 (m := m) (by omega))
  · have g4 := xf_ne h4
    exfalso; first | exact absurd g4 (by decide) | (simp (disch := omega) only [Int32.lt_iff_toInt_lt, Int32.le_iff_toInt_le, nI_toInt, Int32.reduceToInt] at g4 <;> omega)

set_option maxRecDepth 10000 in
theorem c_X11_glass_bad (hb : xro b.1) (hx : ¬ ((0 ≤ x ∧ x < g b.1 2) ∧ 0 ≤ y ∧ y ≤ 3)) : xT (k + 4) 88 [.ref 0, .int x, .int y] (xH b g l) (fun r M' => M' = xH b g l ∧ r = some (.int (-1))) := by
  refine xT.of rfl (Nat.le_of_ble_eq_true rfl) ?_
  change xS _ _ 0 [(0, .ref 0), (1, .int x), (2, .int y)] [] _ _
  refine xS.s1 rfl rfl ?_
  try dsimp only [Nat.reduceAdd]
  refine xS.s1 rfl rfl ?_
  try dsimp only [Nat.reduceAdd]
  -- 2 yX11_isGlass
  refine xS.cv rfl rfl rfl rfl rfl rfl ⟨by decide, rfl, rfl⟩ (c_X11_isGlass hb) (fun v M1 hv => ?_)
  rw [hv.1, hv.2]
  clear hv M1 v
  try dsimp only [Nat.reduceAdd, Option.toList, List.cons_append, List.nil_append, List.drop]
  refine xS.br0 (c := .eq) (off := 12) (l := 3) rfl rfl (fun h5 => ?_) (fun h5 => ?_)
  · have g5 := xt_eq h5
    refine xS.s1 rfl rfl ?_
    try dsimp only [Nat.reduceAdd, xi_m1]
    refine xS.ret rfl rfl rfl (fun _ _ => rfl) ?_
    exact ⟨rfl, rfl⟩
  · have g5 := xf_eq h5
    refine xS.s1 rfl rfl ?_
    try dsimp only [Nat.reduceAdd]
    refine xS.br0 (c := .lt) (off := 8) (l := 3) rfl rfl (fun h9 => ?_) (fun h9 => ?_)
    · have g9 := xt_lt h9
      refine xS.s1 rfl rfl ?_
      try dsimp only [Nat.reduceAdd, xi_m1]
      refine xS.ret rfl rfl rfl (fun _ _ => rfl) ?_
      exact ⟨rfl, rfl⟩
    · have g9 := xf_lt h9
      refine xS.s1 rfl rfl ?_
      try dsimp only [Nat.reduceAdd]
      refine xS.s1 rfl rfl ?_
      try dsimp only [Nat.reduceAdd, xi_3]
      refine xS.br (c := .le) (off := 5) (l := 3) rfl rfl (fun h14 => ?_) (fun h14 => ?_)
      · have g14 := xt_le h14
        exact absurd ⟨xif1 g5, g9, g14⟩ hx
      · have g14 := xf_le h14
        refine xS.s1 rfl rfl ?_
        try dsimp only [Nat.reduceAdd, xi_m1]
        refine xS.ret rfl rfl rfl (fun _ _ => rfl) ?_
        exact ⟨rfl, rfl⟩

set_option maxRecDepth 10000 in
theorem c_X11_glass_ok (hb : xro b.1) (hR : xRm g b.1 G T Lw) (hp : xpn g) (hs : g 4 1 = nI m) (hm : m ≤ 40) (hk : s < G) (ht : t < 4) : xT (k + 4) 88 [.ref 0, .int (nI s), .int (nI t)] (xH b g l) (fun r M' => M' = xH b (up g 0 11 (xgf g Lw m s t)) l ∧ r = some (.int 1)) := by
  refine xT.of rfl (Nat.le_of_ble_eq_true rfl) ?_
  change xS _ _ 0 [(0, .ref 0), (1, .int (nI s)), (2, .int (nI t))] [] _ _
  refine xS.s1 rfl rfl ?_
  try dsimp only [Nat.reduceAdd]
  refine xS.s1 rfl rfl ?_
  try dsimp only [Nat.reduceAdd]
  -- 2 yX11_isGlass
  refine xS.cv rfl rfl rfl rfl rfl rfl ⟨by decide, rfl, rfl⟩ (c_X11_isGlass_in hb hR hk) (fun v M1 hv => ?_)
  rw [hv.1, hv.2]
  clear hv M1 v
  try dsimp only [Nat.reduceAdd, Option.toList, List.cons_append, List.nil_append, List.drop]
  refine xS.br0 (c := .eq) (off := 12) (l := 3) rfl rfl (fun h5 => ?_) (fun h5 => ?_)
  · have g5 := xt_eq h5
    exfalso; first | exact absurd g5 (by decide) | (simp (disch := omega) only [Int32.lt_iff_toInt_lt, Int32.le_iff_toInt_le, nI_toInt, Int32.reduceToInt] at g5 <;> omega)
  · have g5 := xf_eq h5
    refine xS.s1 rfl rfl ?_
    try dsimp only [Nat.reduceAdd]
    refine xS.br0 (c := .lt) (off := 8) (l := 3) rfl rfl (fun h9 => ?_) (fun h9 => ?_)
    · have g9 := xt_lt h9
      exfalso; first | exact absurd g9 (by decide) | (simp (disch := omega) only [Int32.lt_iff_toInt_lt, Int32.le_iff_toInt_le, nI_toInt, Int32.reduceToInt] at g9 <;> omega)
    · have g9 := xf_lt h9
      refine xS.s1 rfl rfl ?_
      try dsimp only [Nat.reduceAdd]
      refine xS.s1 rfl rfl ?_
      try dsimp only [Nat.reduceAdd, xi_3]
      refine xS.br (c := .le) (off := 5) (l := 3) rfl rfl (fun h14 => ?_) (fun h14 => ?_)
      · have g14 := xt_le h14
        refine xS.s1 rfl rfl ?_
        try dsimp only [Nat.reduceAdd]
        refine xS.s1 rfl rfl ?_
        try dsimp only [Nat.reduceAdd]
        refine xS.s1 rfl rfl ?_
        try dsimp only [Nat.reduceAdd]
        refine xS.s1 rfl rfl ?_
        try dsimp only [Nat.reduceAdd]
        -- 23 yX11_glassFact
        refine xS.cv rfl rfl rfl rfl rfl rfl ⟨by decide, rfl, rfl⟩ (c_X11_glassFact hb hR hp hs hm hk ht) (fun v M1 hv => ?_)
        rw [hv.1, hv.2]
        clear hv M1 v
        try dsimp only [Nat.reduceAdd, Option.toList, List.cons_append, List.nil_append, List.drop]
        refine xS.pI rfl rfl rfl ⟨⟨by decide, rfl⟩, rfl, by decide, by decide⟩ rfl ?_
        try dsimp only [Nat.reduceAdd]
        refine xS.s1 rfl rfl ?_
        try dsimp only [Nat.reduceAdd, xi_1]
        refine xS.ret rfl rfl rfl (fun _ _ => rfl) ?_
        exact ⟨rfl, rfl⟩
      · have g14 := xf_le h14
        exfalso; first | exact absurd g14 (by decide) | (simp (disch := omega) only [Int32.lt_iff_toInt_lt, Int32.le_iff_toInt_le, nI_toInt, Int32.reduceToInt] at g14 <;> omega)

set_option maxRecDepth 10000 in
theorem c_X11_habit_bad (hx : ¬ (0 ≤ x ∧ x < 6)) : xT (k + 3) 90 [.ref 0, .int x] (xH b g l) (fun r M' => M' = xH b g l ∧ r = some (.int (-1))) := by
  refine xT.of rfl (Nat.le_of_ble_eq_true rfl) ?_
  change xS _ _ 0 [(0, .ref 0), (1, .int x)] [] _ _
  refine xS.s1 rfl rfl ?_
  try dsimp only [Nat.reduceAdd]
  -- 1 yX11_isStep
  refine xS.callS rfl rfl rfl ⟨Nat.le_of_ble_eq_true rfl, rfl⟩ c_X11_isStep (fun v M1 hv => ?_)
  rw [hv.1, hv.2]
  clear hv M1 v
  try dsimp only [Nat.reduceAdd, Option.toList, List.cons_append, List.nil_append, List.drop]
  refine xS.br0 (c := .eq) (off := 14) (l := 3) rfl rfl (fun h4 => ?_) (fun h4 => ?_)
  · have g4 := xt_eq h4
    refine xS.s1 rfl rfl ?_
    try dsimp only [Nat.reduceAdd, xi_m1]
    refine xS.ret rfl rfl rfl (fun _ _ => rfl) ?_
    exact ⟨rfl, rfl⟩
  · have g4 := xf_eq h4
    exact absurd (xif1 g4) hx

set_option maxRecDepth 10000 in
theorem c_X11_habit_ok (hb : xro b.1) (ht : t < 6) : xT (k + 3) 90 [.ref 0, .int (nI t)] (xH b g l) (fun r M' => M' = xH b g l ∧ r = some (.int (g (b.1 + 1) t))) := by
  refine xT.of rfl (Nat.le_of_ble_eq_true rfl) ?_
  change xS _ _ 0 [(0, .ref 0), (1, .int (nI t))] [] _ _
  refine xS.s1 rfl rfl ?_
  try dsimp only [Nat.reduceAdd]
  -- 1 yX11_isStep
  refine xS.callS rfl rfl rfl ⟨Nat.le_of_ble_eq_true rfl, rfl⟩ (c_X11_isStep_in ht) (fun v M1 hv => ?_)
  rw [hv.1, hv.2]
  clear hv M1 v
  try dsimp only [Nat.reduceAdd, Option.toList, List.cons_append, List.nil_append, List.drop]
  refine xS.br0 (c := .eq) (off := 14) (l := 3) rfl rfl (fun h4 => ?_) (fun h4 => ?_)
  · have g4 := xt_eq h4
    exfalso; first | exact absurd g4 (by decide) | (simp (disch := omega) only [Int32.lt_iff_toInt_lt, Int32.le_iff_toInt_le, nI_toInt, Int32.reduceToInt] at g4 <;> omega)
  · have g4 := xf_eq h4
    refine xS.s1 rfl rfl ?_
    try dsimp only [Nat.reduceAdd]
    refine xS.gR rfl rfl rfl ⟨by decide, rfl⟩ rfl ?_
    try dsimp only [Nat.reduceAdd]
    refine xS.s1 rfl rfl ?_
    try dsimp only [Nat.reduceAdd]
    -- 12 yX8_thought
    refine xS.cv rfl rfl rfl (hb.1 _) rfl rfl ⟨by decide, rfl, rfl⟩ (c_X8_thought hb ht) (fun v M1 hv => ?_)
    rw [hv.1, hv.2]
    clear hv M1 v
    try dsimp only [Nat.reduceAdd, Option.toList, List.cons_append, List.nil_append, List.drop]
    refine xS.s1 rfl rfl ?_
    try dsimp only [Nat.reduceAdd]
    refine xS.ret rfl rfl rfl (fun _ _ => rfl) ?_
    exact ⟨rfl, rfl⟩

set_option maxRecDepth 10000 in
theorem c_X11_term_bad (hb : xro b.1) (hx : ¬ ((0 ≤ x ∧ x < g b.1 4) ∧ 0 ≤ y ∧ y ≤ 1)) : xT (k + 2) 91 [.ref 0, .int x, .int y] (xH b g l) (fun r M' => M' = xH b g l ∧ r = some (.int (-1))) := by
  refine xT.of rfl (Nat.le_of_ble_eq_true rfl) ?_
  change xS _ _ 0 [(0, .ref 0), (1, .int x), (2, .int y)] [] _ _
  refine xS.s1 rfl rfl ?_
  try dsimp only [Nat.reduceAdd]
  refine xS.br0 (c := .lt) (off := 23) (l := 3) rfl rfl (fun h1 => ?_) (fun h1 => ?_)
  · have g1 := xt_lt h1
    refine xS.s1 rfl rfl ?_
    try dsimp only [Nat.reduceAdd, xi_m1]
    refine xS.ret rfl rfl rfl (fun _ _ => rfl) ?_
    exact ⟨rfl, rfl⟩
  · have g1 := xf_lt h1
    refine xS.s1 rfl rfl ?_
    try dsimp only [Nat.reduceAdd]
    refine xS.s1 rfl rfl ?_
    try dsimp only [Nat.reduceAdd]
    refine xS.gR rfl rfl rfl ⟨by decide, rfl⟩ rfl ?_
    try dsimp only [Nat.reduceAdd]
    -- 9 yX8_terms
    refine xS.cv rfl rfl rfl (hb.1 _) rfl rfl ⟨by decide, rfl, rfl⟩ (c_X8_terms hb) (fun v M1 hv => ?_)
    rw [hv.1, hv.2]
    clear hv M1 v
    try dsimp only [Nat.reduceAdd, Option.toList, List.cons_append, List.nil_append, List.drop]
    refine xS.br (c := .ge) (off := 12) (l := 3) rfl rfl (fun h12 => ?_) (fun h12 => ?_)
    · have g12 := xt_ge h12
      refine xS.s1 rfl rfl ?_
      try dsimp only [Nat.reduceAdd, xi_m1]
      refine xS.ret rfl rfl rfl (fun _ _ => rfl) ?_
      exact ⟨rfl, rfl⟩
    · have g12 := xf_ge h12
      refine xS.s1 rfl rfl ?_
      try dsimp only [Nat.reduceAdd]
      refine xS.br0 (c := .lt) (off := 8) (l := 3) rfl rfl (fun h16 => ?_) (fun h16 => ?_)
      · have g16 := xt_lt h16
        refine xS.s1 rfl rfl ?_
        try dsimp only [Nat.reduceAdd, xi_m1]
        refine xS.ret rfl rfl rfl (fun _ _ => rfl) ?_
        exact ⟨rfl, rfl⟩
      · have g16 := xf_lt h16
        refine xS.s1 rfl rfl ?_
        try dsimp only [Nat.reduceAdd]
        refine xS.s1 rfl rfl ?_
        try dsimp only [Nat.reduceAdd, xi_1]
        refine xS.br (c := .le) (off := 5) (l := 3) rfl rfl (fun h21 => ?_) (fun h21 => ?_)
        · have g21 := xt_le h21
          exact absurd ⟨⟨g1, g12⟩, g16, g21⟩ hx
        · have g21 := xf_le h21
          refine xS.s1 rfl rfl ?_
          try dsimp only [Nat.reduceAdd, xi_m1]
          refine xS.ret rfl rfl rfl (fun _ _ => rfl) ?_
          exact ⟨rfl, rfl⟩

set_option maxRecDepth 10000 in
theorem c_X11_term_ok (hb : xro b.1) (hR : xRm g b.1 G T Lw) (hp : xpn g) (hd : d < T) (ht : t < 2) : xT (k + 2) 91 [.ref 0, .int (nI d), .int (nI t)] (xH b g l) (fun r M' => M' = xH b g l ∧ r = some (.int (g (b.1 + 3) (2 * d + t)))) := by
  have hT8 := hR.2.1.2
  refine xT.of rfl (Nat.le_of_ble_eq_true rfl) ?_
  change xS _ _ 0 [(0, .ref 0), (1, .int (nI d)), (2, .int (nI t))] [] _ _
  refine xS.s1 rfl rfl ?_
  try dsimp only [Nat.reduceAdd]
  refine xS.br0 (c := .lt) (off := 23) (l := 3) rfl rfl (fun h1 => ?_) (fun h1 => ?_)
  · have g1 := xt_lt h1
    exfalso; first | exact absurd g1 (by decide) | (simp (disch := omega) only [Int32.lt_iff_toInt_lt, Int32.le_iff_toInt_le, nI_toInt, Int32.reduceToInt] at g1 <;> omega)
  · have g1 := xf_lt h1
    refine xS.s1 rfl rfl ?_
    try dsimp only [Nat.reduceAdd]
    refine xS.s1 rfl rfl ?_
    try dsimp only [Nat.reduceAdd]
    refine xS.gR rfl rfl rfl ⟨by decide, rfl⟩ rfl ?_
    try dsimp only [Nat.reduceAdd]
    -- 9 yX8_terms
    refine xS.cv rfl rfl rfl (hb.1 _) rfl rfl ⟨by decide, rfl, rfl⟩ (c_X8_terms hb) (fun v M1 hv => ?_)
    rw [hv.1, hv.2, hR.2.1.1]
    clear hv M1 v
    try dsimp only [Nat.reduceAdd, Option.toList, List.cons_append, List.nil_append, List.drop]
    refine xS.br (c := .ge) (off := 12) (l := 3) rfl rfl (fun h12 => ?_) (fun h12 => ?_)
    · have g12 := xt_ge h12
      exfalso; first | exact absurd g12 (by decide) | (simp (disch := omega) only [Int32.lt_iff_toInt_lt, Int32.le_iff_toInt_le, nI_toInt, Int32.reduceToInt] at g12 <;> omega)
    · have g12 := xf_ge h12
      refine xS.s1 rfl rfl ?_
      try dsimp only [Nat.reduceAdd]
      refine xS.br0 (c := .lt) (off := 8) (l := 3) rfl rfl (fun h16 => ?_) (fun h16 => ?_)
      · have g16 := xt_lt h16
        exfalso; first | exact absurd g16 (by decide) | (simp (disch := omega) only [Int32.lt_iff_toInt_lt, Int32.le_iff_toInt_le, nI_toInt, Int32.reduceToInt] at g16 <;> omega)
      · have g16 := xf_lt h16
        refine xS.s1 rfl rfl ?_
        try dsimp only [Nat.reduceAdd]
        refine xS.s1 rfl rfl ?_
        try dsimp only [Nat.reduceAdd, xi_1]
        refine xS.br (c := .le) (off := 5) (l := 3) rfl rfl (fun h21 => ?_) (fun h21 => ?_)
        · have g21 := xt_le h21
          refine xS.s1 rfl rfl ?_
          try dsimp only [Nat.reduceAdd]
          refine xS.gR rfl rfl rfl ⟨by decide, rfl⟩ rfl ?_
          try dsimp only [Nat.reduceAdd]
          refine xS.s1 rfl rfl ?_
          try dsimp only [Nat.reduceAdd]
          refine xS.s1 rfl rfl ?_
          try dsimp only [Nat.reduceAdd]
          -- 32 yX8_termStep
          refine xS.cv rfl rfl rfl (hb.1 _) rfl rfl ⟨by decide, rfl, rfl⟩ (c_X8_termStep hb hR.2.1.1 hR.2.1.2 hd ht) (fun v M1 hv => ?_)
          rw [hv.1, hv.2]
          clear hv M1 v
          try dsimp only [Nat.reduceAdd, Option.toList, List.cons_append, List.nil_append, List.drop]
          refine xS.ret rfl rfl rfl (fun _ _ => rfl) ?_
          exact ⟨rfl, rfl⟩
        · have g21 := xf_le h21
          exfalso; first | exact absurd g21 (by decide) | (simp (disch := omega) only [Int32.lt_iff_toInt_lt, Int32.le_iff_toInt_le, nI_toInt, Int32.reduceToInt] at g21 <;> omega)

set_option maxRecDepth 10000 in
theorem c_X11_step_bad (hb : xro b.1) (hx : ¬ ((0 ≤ x ∧ x < g b.1 2) ∧ 0 ≤ y ∧ y < 6)) : xT (k + 6) 92 [.ref 0, .int x, .int y] (xH b g l) (fun r M' => M' = xH b g l ∧ r = some (.int (-1))) := by
  refine xT.of rfl (Nat.le_of_ble_eq_true rfl) ?_
  change xS _ _ 0 [(0, .ref 0), (1, .int x), (2, .int y)] [] _ _
  refine xS.s1 rfl rfl ?_
  try dsimp only [Nat.reduceAdd]
  refine xS.s1 rfl rfl ?_
  try dsimp only [Nat.reduceAdd]
  -- 2 yX11_isGlass
  refine xS.cv rfl rfl rfl rfl rfl rfl ⟨by decide, rfl, rfl⟩ (c_X11_isGlass hb) (fun v M1 hv => ?_)
  rw [hv.1, hv.2]
  clear hv M1 v
  try dsimp only [Nat.reduceAdd, Option.toList, List.cons_append, List.nil_append, List.drop]
  refine xS.br0 (c := .eq) (off := 10) (l := 3) rfl rfl (fun h5 => ?_) (fun h5 => ?_)
  · have g5 := xt_eq h5
    refine xS.s1 rfl rfl ?_
    try dsimp only [Nat.reduceAdd, xi_m1]
    refine xS.ret rfl rfl rfl (fun _ _ => rfl) ?_
    exact ⟨rfl, rfl⟩
  · have g5 := xf_eq h5
    refine xS.s1 rfl rfl ?_
    try dsimp only [Nat.reduceAdd]
    -- 9 yX11_isStep
    refine xS.callS rfl rfl rfl ⟨Nat.le_of_ble_eq_true rfl, rfl⟩ c_X11_isStep (fun v M1 hv => ?_)
    rw [hv.1, hv.2]
    clear hv M1 v
    try dsimp only [Nat.reduceAdd, Option.toList, List.cons_append, List.nil_append, List.drop]
    refine xS.br0 (c := .ne) (off := 5) (l := 3) rfl rfl (fun h12 => ?_) (fun h12 => ?_)
    · have g12 := xt_ne h12
      exact absurd ⟨xif1 g5, xif1 g12⟩ hx
    · have g12 := xf_ne h12
      refine xS.s1 rfl rfl ?_
      try dsimp only [Nat.reduceAdd, xi_m1]
      refine xS.ret rfl rfl rfl (fun _ _ => rfl) ?_
      exact ⟨rfl, rfl⟩

set_option maxRecDepth 10000 in
theorem c_X11_step_full (hb : xro b.1) (hR : xRm g b.1 G T Lw) (hp : xpn g) (hs : g 4 1 = nI 40) (hk : t < G) (hs6 : s < 6) : xT (k + 6) 92 [.ref 0, .int (nI t), .int (nI s)] (xH b g l) (fun r M' => M' = xH b g l ∧ r = some (.int (-2))) := by
  refine xT.of rfl (Nat.le_of_ble_eq_true rfl) ?_
  change xS _ _ 0 [(0, .ref 0), (1, .int (nI t)), (2, .int (nI s))] [] _ _
  refine xS.s1 rfl rfl ?_
  try dsimp only [Nat.reduceAdd]
  refine xS.s1 rfl rfl ?_
  try dsimp only [Nat.reduceAdd]
  -- 2 yX11_isGlass
  refine xS.cv rfl rfl rfl rfl rfl rfl ⟨by decide, rfl, rfl⟩ (c_X11_isGlass_in hb hR hk) (fun v M1 hv => ?_)
  rw [hv.1, hv.2]
  clear hv M1 v
  try dsimp only [Nat.reduceAdd, Option.toList, List.cons_append, List.nil_append, List.drop]
  refine xS.br0 (c := .eq) (off := 10) (l := 3) rfl rfl (fun h5 => ?_) (fun h5 => ?_)
  · have g5 := xt_eq h5
    exfalso; first | exact absurd g5 (by decide) | (simp (disch := omega) only [Int32.lt_iff_toInt_lt, Int32.le_iff_toInt_le, nI_toInt, Int32.reduceToInt] at g5 <;> omega)
  · have g5 := xf_eq h5
    refine xS.s1 rfl rfl ?_
    try dsimp only [Nat.reduceAdd]
    -- 9 yX11_isStep
    refine xS.callS rfl rfl rfl ⟨Nat.le_of_ble_eq_true rfl, rfl⟩ (c_X11_isStep_in hs6) (fun v M1 hv => ?_)
    rw [hv.1, hv.2]
    clear hv M1 v
    try dsimp only [Nat.reduceAdd, Option.toList, List.cons_append, List.nil_append, List.drop]
    refine xS.br0 (c := .ne) (off := 5) (l := 3) rfl rfl (fun h12 => ?_) (fun h12 => ?_)
    · have g12 := xt_ne h12
      refine xS.s1 rfl rfl ?_
      try dsimp only [Nat.reduceAdd]
      refine xS.gR rfl rfl rfl ⟨by decide, rfl⟩ rfl ?_
      try dsimp only [Nat.reduceAdd]
      -- 21 yX2_size
      refine xS.cv rfl rfl rfl (xde_deeds.1 _) rfl rfl ⟨by decide, rfl, rfl⟩ (c_X2_size xde_deeds) (fun v M1 hv => ?_)
      rw [hv.1, hv.2, hs]
      clear hv M1 v
      try dsimp only [Nat.reduceAdd, Option.toList, List.cons_append, List.nil_append, List.drop]
      refine xS.s1 rfl rfl ?_
      try dsimp only [Nat.reduceAdd, xj_40]
      refine xS.br (c := .lt) (off := 6) (l := 3) rfl rfl (fun h26 => ?_) (fun h26 => ?_)
      · have g26 := xt_lt h26
        exfalso; first | exact absurd g26 (by decide) | (simp (disch := omega) only [Int32.lt_iff_toInt_lt, Int32.le_iff_toInt_le, nI_toInt, Int32.reduceToInt] at g26 <;> omega)
      · have g26 := xf_lt h26
        refine xS.s1 rfl rfl ?_
        try dsimp only [Nat.reduceAdd, xj_m2]
        refine xS.ret rfl rfl rfl (fun _ _ => rfl) ?_
        exact ⟨rfl, rfl⟩
    · have g12 := xf_ne h12
      exfalso; first | exact absurd g12 (by decide) | (simp (disch := omega) only [Int32.lt_iff_toInt_lt, Int32.le_iff_toInt_le, nI_toInt, Int32.reduceToInt] at g12 <;> omega)

set_option maxRecDepth 10000 in
theorem c_X11_step_ok (hb : xro b.1) (hR : xRm g b.1 G T Lw) (hp : xpn g) (hbv : b.1 = 7 ∨ b.1 = 11) (hs : g 4 1 = nI m) (hm : m < 40) (hx : ∀ i, i < m → xstp (g 5 (4 * i))) (hk : t < G) (hs6 : s < 6) : xT (k + 6) 92 [.ref 0, .int (nI t), .int (nI s)] (xH b g l) (fun r M' => M' = xH b (xdo g m (nI s) (nI t) (xshw (g (b.1 + 1)) (Lw t / 4) (Lw t % 4) (fun i => if i = m then s else xN (g 5 (4 * i))) m) (xfI (xfb (g (b.1 + 3)) T (nI s) (xshw (g (b.1 + 1)) (Lw t / 4) (Lw t % 4) (fun i => if i = m then s else xN (g 5 (4 * i))) m)))) l ∧ r = some (.int (xshw (g (b.1 + 1)) (Lw t / 4) (Lw t % 4) (fun i => if i = m then s else xN (g 5 (4 * i))) m))) := by
  refine xT.of rfl (Nat.le_of_ble_eq_true rfl) ?_
  change xS _ _ 0 [(0, .ref 0), (1, .int (nI t)), (2, .int (nI s))] [] _ _
  refine xS.s1 rfl rfl ?_
  try dsimp only [Nat.reduceAdd]
  refine xS.s1 rfl rfl ?_
  try dsimp only [Nat.reduceAdd]
  -- 2 yX11_isGlass
  refine xS.cv rfl rfl rfl rfl rfl rfl ⟨by decide, rfl, rfl⟩ (c_X11_isGlass_in hb hR hk) (fun v M1 hv => ?_)
  rw [hv.1, hv.2]
  clear hv M1 v
  try dsimp only [Nat.reduceAdd, Option.toList, List.cons_append, List.nil_append, List.drop]
  refine xS.br0 (c := .eq) (off := 10) (l := 3) rfl rfl (fun h5 => ?_) (fun h5 => ?_)
  · have g5 := xt_eq h5
    exfalso; first | exact absurd g5 (by decide) | (simp (disch := omega) only [Int32.lt_iff_toInt_lt, Int32.le_iff_toInt_le, nI_toInt, Int32.reduceToInt] at g5 <;> omega)
  · have g5 := xf_eq h5
    refine xS.s1 rfl rfl ?_
    try dsimp only [Nat.reduceAdd]
    -- 9 yX11_isStep
    refine xS.callS rfl rfl rfl ⟨Nat.le_of_ble_eq_true rfl, rfl⟩ (c_X11_isStep_in hs6) (fun v M1 hv => ?_)
    rw [hv.1, hv.2]
    clear hv M1 v
    try dsimp only [Nat.reduceAdd, Option.toList, List.cons_append, List.nil_append, List.drop]
    refine xS.br0 (c := .ne) (off := 5) (l := 3) rfl rfl (fun h12 => ?_) (fun h12 => ?_)
    · have g12 := xt_ne h12
      refine xS.s1 rfl rfl ?_
      try dsimp only [Nat.reduceAdd]
      refine xS.gR rfl rfl rfl ⟨by decide, rfl⟩ rfl ?_
      try dsimp only [Nat.reduceAdd]
      -- 21 yX2_size
      refine xS.cv rfl rfl rfl (xde_deeds.1 _) rfl rfl ⟨by decide, rfl, rfl⟩ (c_X2_size xde_deeds) (fun v M1 hv => ?_)
      rw [hv.1, hv.2, hs]
      clear hv M1 v
      try dsimp only [Nat.reduceAdd, Option.toList, List.cons_append, List.nil_append, List.drop]
      refine xS.s1 rfl rfl ?_
      try dsimp only [Nat.reduceAdd, xj_40]
      refine xS.br (c := .lt) (off := 6) (l := 3) rfl rfl (fun h26 => ?_) (fun h26 => ?_)
      · have g26 := xt_lt h26
        refine xS.s1 rfl rfl ?_
        try dsimp only [Nat.reduceAdd]
        refine xS.s1 rfl rfl ?_
        try dsimp only [Nat.reduceAdd]
        refine xS.s1 rfl rfl ?_
        try dsimp only [Nat.reduceAdd]
        -- 35 yX11_doStep
        refine xS.cv rfl rfl rfl rfl rfl rfl ⟨by decide, rfl, rfl⟩ (c_X11_doStep hb hR hp hbv hs hm hx hk hs6) (fun v M1 hv => ?_)
        rw [hv.1, hv.2]
        clear hv M1 v
        try dsimp only [Nat.reduceAdd, Option.toList, List.cons_append, List.nil_append, List.drop]
        refine xS.ret rfl rfl rfl (fun _ _ => rfl) ?_
        exact ⟨rfl, rfl⟩
      · have g26 := xf_lt h26
        exfalso; first | exact absurd g26 (by decide) | (simp (disch := omega) only [Int32.lt_iff_toInt_lt, Int32.le_iff_toInt_le, nI_toInt, Int32.reduceToInt] at g26 <;> omega)
    · have g12 := xf_ne h12
      exfalso; first | exact absurd g12 (by decide) | (simp (disch := omega) only [Int32.lt_iff_toInt_lt, Int32.le_iff_toInt_le, nI_toInt, Int32.reduceToInt] at g12 <;> omega)

set_option maxRecDepth 10000 in
theorem c_X11_deed_bad (hx : ¬ ((0 ≤ x ∧ x < g 4 1) ∧ 0 ≤ y ∧ y ≤ 3)) : xT (k + 2) 93 [.ref 0, .int x, .int y] (xH b g l) (fun r M' => M' = xH b g l ∧ r = some (.int (-1))) := by
  refine xT.of rfl (Nat.le_of_ble_eq_true rfl) ?_
  change xS _ _ 0 [(0, .ref 0), (1, .int x), (2, .int y)] [] _ _
  refine xS.s1 rfl rfl ?_
  try dsimp only [Nat.reduceAdd]
  refine xS.br0 (c := .lt) (off := 23) (l := 3) rfl rfl (fun h1 => ?_) (fun h1 => ?_)
  · have g1 := xt_lt h1
    refine xS.s1 rfl rfl ?_
    try dsimp only [Nat.reduceAdd, xi_m1]
    refine xS.ret rfl rfl rfl (fun _ _ => rfl) ?_
    exact ⟨rfl, rfl⟩
  · have g1 := xf_lt h1
    refine xS.s1 rfl rfl ?_
    try dsimp only [Nat.reduceAdd]
    refine xS.s1 rfl rfl ?_
    try dsimp only [Nat.reduceAdd]
    refine xS.gR rfl rfl rfl ⟨by decide, rfl⟩ rfl ?_
    try dsimp only [Nat.reduceAdd]
    -- 9 yX2_size
    refine xS.cv rfl rfl rfl (xde_deeds.1 _) rfl rfl ⟨by decide, rfl, rfl⟩ (c_X2_size xde_deeds) (fun v M1 hv => ?_)
    rw [hv.1, hv.2]
    clear hv M1 v
    try dsimp only [Nat.reduceAdd, Option.toList, List.cons_append, List.nil_append, List.drop]
    refine xS.br (c := .ge) (off := 12) (l := 3) rfl rfl (fun h12 => ?_) (fun h12 => ?_)
    · have g12 := xt_ge h12
      refine xS.s1 rfl rfl ?_
      try dsimp only [Nat.reduceAdd, xi_m1]
      refine xS.ret rfl rfl rfl (fun _ _ => rfl) ?_
      exact ⟨rfl, rfl⟩
    · have g12 := xf_ge h12
      refine xS.s1 rfl rfl ?_
      try dsimp only [Nat.reduceAdd]
      refine xS.br0 (c := .lt) (off := 8) (l := 3) rfl rfl (fun h16 => ?_) (fun h16 => ?_)
      · have g16 := xt_lt h16
        refine xS.s1 rfl rfl ?_
        try dsimp only [Nat.reduceAdd, xi_m1]
        refine xS.ret rfl rfl rfl (fun _ _ => rfl) ?_
        exact ⟨rfl, rfl⟩
      · have g16 := xf_lt h16
        refine xS.s1 rfl rfl ?_
        try dsimp only [Nat.reduceAdd]
        refine xS.s1 rfl rfl ?_
        try dsimp only [Nat.reduceAdd, xi_3]
        refine xS.br (c := .le) (off := 5) (l := 3) rfl rfl (fun h21 => ?_) (fun h21 => ?_)
        · have g21 := xt_le h21
          exact absurd ⟨⟨g1, g12⟩, g16, g21⟩ hx
        · have g21 := xf_le h21
          refine xS.s1 rfl rfl ?_
          try dsimp only [Nat.reduceAdd, xi_m1]
          refine xS.ret rfl rfl rfl (fun _ _ => rfl) ?_
          exact ⟨rfl, rfl⟩

set_option maxRecDepth 10000 in
theorem c_X11_deed_ok (hs : g 4 1 = nI m) (hm : m ≤ 40) (hd : d < m) (ht : t < 4) : xT (k + 2) 93 [.ref 0, .int (nI d), .int (nI t)] (xH b g l) (fun r M' => M' = xH b (up g 0 11 (g 5 (4 * d + t))) l ∧ r = some (.int 1)) := by
  refine xT.of rfl (Nat.le_of_ble_eq_true rfl) ?_
  change xS _ _ 0 [(0, .ref 0), (1, .int (nI d)), (2, .int (nI t))] [] _ _
  refine xS.s1 rfl rfl ?_
  try dsimp only [Nat.reduceAdd]
  refine xS.br0 (c := .lt) (off := 23) (l := 3) rfl rfl (fun h1 => ?_) (fun h1 => ?_)
  · have g1 := xt_lt h1
    exfalso; first | exact absurd g1 (by decide) | (simp (disch := omega) only [Int32.lt_iff_toInt_lt, Int32.le_iff_toInt_le, nI_toInt, Int32.reduceToInt] at g1 <;> omega)
  · have g1 := xf_lt h1
    refine xS.s1 rfl rfl ?_
    try dsimp only [Nat.reduceAdd]
    refine xS.s1 rfl rfl ?_
    try dsimp only [Nat.reduceAdd]
    refine xS.gR rfl rfl rfl ⟨by decide, rfl⟩ rfl ?_
    try dsimp only [Nat.reduceAdd]
    -- 9 yX2_size
    refine xS.cv rfl rfl rfl (xde_deeds.1 _) rfl rfl ⟨by decide, rfl, rfl⟩ (c_X2_size xde_deeds) (fun v M1 hv => ?_)
    rw [hv.1, hv.2, hs]
    clear hv M1 v
    try dsimp only [Nat.reduceAdd, Option.toList, List.cons_append, List.nil_append, List.drop]
    refine xS.br (c := .ge) (off := 12) (l := 3) rfl rfl (fun h12 => ?_) (fun h12 => ?_)
    · have g12 := xt_ge h12
      exfalso; first | exact absurd g12 (by decide) | (simp (disch := omega) only [Int32.lt_iff_toInt_lt, Int32.le_iff_toInt_le, nI_toInt, Int32.reduceToInt] at g12 <;> omega)
    · have g12 := xf_ge h12
      refine xS.s1 rfl rfl ?_
      try dsimp only [Nat.reduceAdd]
      refine xS.br0 (c := .lt) (off := 8) (l := 3) rfl rfl (fun h16 => ?_) (fun h16 => ?_)
      · have g16 := xt_lt h16
        exfalso; first | exact absurd g16 (by decide) | (simp (disch := omega) only [Int32.lt_iff_toInt_lt, Int32.le_iff_toInt_le, nI_toInt, Int32.reduceToInt] at g16 <;> omega)
      · have g16 := xf_lt h16
        refine xS.s1 rfl rfl ?_
        try dsimp only [Nat.reduceAdd]
        refine xS.s1 rfl rfl ?_
        try dsimp only [Nat.reduceAdd, xi_3]
        refine xS.br (c := .le) (off := 5) (l := 3) rfl rfl (fun h21 => ?_) (fun h21 => ?_)
        · have g21 := xt_le h21
          refine xS.s1 rfl rfl ?_
          try dsimp only [Nat.reduceAdd]
          refine xS.s1 rfl rfl ?_
          try dsimp only [Nat.reduceAdd]
          refine xS.gR rfl rfl rfl ⟨by decide, rfl⟩ rfl ?_
          try dsimp only [Nat.reduceAdd]
          refine xS.s1 rfl rfl ?_
          try dsimp only [Nat.reduceAdd]
          refine xS.s1 rfl rfl ?_
          try dsimp only [Nat.reduceAdd]
          -- 33 yX2_fact
          refine xS.cv rfl rfl rfl (xde_deeds.1 _) rfl rfl ⟨by decide, rfl, rfl⟩ (c_X2_fact xde_deeds hs hm hd ht) (fun v M1 hv => ?_)
          rw [hv.1, hv.2]
          clear hv M1 v
          try dsimp only [Nat.reduceAdd, Option.toList, List.cons_append, List.nil_append, List.drop]
          refine xS.pI rfl rfl rfl ⟨⟨by decide, rfl⟩, rfl, by decide, by decide⟩ rfl ?_
          try dsimp only [Nat.reduceAdd]
          refine xS.s1 rfl rfl ?_
          try dsimp only [Nat.reduceAdd, xi_1]
          refine xS.ret rfl rfl rfl (fun _ _ => rfl) ?_
          exact ⟨rfl, rfl⟩
        · have g21 := xf_le h21
          exfalso; first | exact absurd g21 (by decide) | (simp (disch := omega) only [Int32.lt_iff_toInt_lt, Int32.le_iff_toInt_le, nI_toInt, Int32.reduceToInt] at g21 <;> omega)

set_option maxRecDepth 10000 in
theorem c_X11_broken_ok (hs : g 4 1 = nI m) (hm : m ≤ 40) : xT (k + 3) 94 [.ref 0] (xH b g l) (fun r M' => M' = xH b (up g 0 11 (xfI (xfst (fun d => !decide (g 5 (4 * d + 3) = -9)) m))) l ∧ r = some (.int (nI (xcnt (fun d => !decide (g 5 (4 * d + 3) = -9)) m)))) := by
  refine xT.of rfl (Nat.le_of_ble_eq_true rfl) ?_
  change xS _ _ 0 [(0, .ref 0)] [] _ _
  refine xS.s1 rfl rfl ?_
  try dsimp only [Nat.reduceAdd]
  refine xS.s1 rfl rfl ?_
  try dsimp only [Nat.reduceAdd]
  refine xS.gR rfl rfl rfl ⟨by decide, rfl⟩ rfl ?_
  try dsimp only [Nat.reduceAdd]
  -- 5 yX2_firstThatBroke
  refine xS.cv rfl rfl rfl (xde_deeds.1 _) rfl rfl ⟨by decide, rfl, rfl⟩ (c_X2_firstThatBroke xde_deeds hs hm) (fun v M1 hv => ?_)
  rw [hv.1, hv.2]
  clear hv M1 v
  try dsimp only [Nat.reduceAdd, Option.toList, List.cons_append, List.nil_append, List.drop]
  refine xS.pI rfl rfl rfl ⟨⟨by decide, rfl⟩, rfl, by decide, by decide⟩ rfl ?_
  try dsimp only [Nat.reduceAdd]
  refine xS.s1 rfl rfl ?_
  try dsimp only [Nat.reduceAdd]
  refine xS.gR rfl rfl rfl ⟨by decide, rfl⟩ rfl ?_
  try dsimp only [Nat.reduceAdd]
  refine xS.s1 rfl rfl ?_
  try dsimp only [Nat.reduceAdd, xi_0]
  -- 16 yX2_howManyBroke
  refine xS.cv rfl rfl rfl (xde_deeds.1 _) rfl rfl ⟨by decide, rfl, rfl⟩ (c_X2_howManyBroke (s := 0) xde_deeds (by rw [up_na (by decide)]; exact hs) hm (by omega)) (fun v M1 hv => ?_)
  rw [hv.1, hv.2]
  clear hv M1 v
  rw [show (fun d => !decide (up g 0 11 (xfI (xfst (fun d => !decide (g 5 (4 * d + 3) = -9)) m)) (4 + 1) (4 * (0 + d) + 3) = -9)) = (fun d => !decide (g 5 (4 * d + 3) = -9)) from by funext d; rw [up_na (by decide), Nat.zero_add], Nat.sub_zero]
  try dsimp only [Nat.reduceAdd, Option.toList, List.cons_append, List.nil_append, List.drop]
  refine xS.ret rfl rfl rfl (fun _ _ => rfl) ?_
  exact ⟨rfl, rfl⟩

set_option maxRecDepth 10000 in
theorem c_X11_undo_bad (hx : ¬ (0 ≤ x ∧ x ≤ g 4 1)) : xT (k + 2) 95 [.ref 0, .int x] (xH b g l) (fun r M' => M' = xH b g l ∧ r = some (.int (-1))) := by
  refine xT.of rfl (Nat.le_of_ble_eq_true rfl) ?_
  change xS _ _ 0 [(0, .ref 0), (1, .int x)] [] _ _
  refine xS.s1 rfl rfl ?_
  try dsimp only [Nat.reduceAdd]
  refine xS.gR rfl rfl rfl ⟨by decide, rfl⟩ rfl ?_
  try dsimp only [Nat.reduceAdd]
  -- 4 yX2_size
  refine xS.cv rfl rfl rfl (xde_deeds.1 _) rfl rfl ⟨by decide, rfl, rfl⟩ (c_X2_size xde_deeds) (fun v M1 hv => ?_)
  rw [hv.1, hv.2]
  clear hv M1 v
  try dsimp only [Nat.reduceAdd, Option.toList, List.cons_append, List.nil_append, List.drop]
  refine xS.s1 rfl rfl ?_
  try dsimp only [Nat.reduceAdd]
  refine xS.s1 rfl rfl ?_
  try dsimp only [Nat.reduceAdd]
  refine xS.br0 (c := .lt) (off := 8) (l := 3) rfl rfl (fun h9 => ?_) (fun h9 => ?_)
  · have g9 := xt_lt h9
    refine xS.s1 rfl rfl ?_
    try dsimp only [Nat.reduceAdd, xi_m1]
    refine xS.ret rfl rfl rfl (fun _ _ => rfl) ?_
    exact ⟨rfl, rfl⟩
  · have g9 := xf_lt h9
    refine xS.s1 rfl rfl ?_
    try dsimp only [Nat.reduceAdd]
    refine xS.s1 rfl rfl ?_
    try dsimp only [Nat.reduceAdd]
    refine xS.br (c := .le) (off := 5) (l := 3) rfl rfl (fun h14 => ?_) (fun h14 => ?_)
    · have g14 := xt_le h14
      exact absurd ⟨g9, g14⟩ hx
    · have g14 := xf_le h14
      refine xS.s1 rfl rfl ?_
      try dsimp only [Nat.reduceAdd, xi_m1]
      refine xS.ret rfl rfl rfl (fun _ _ => rfl) ?_
      exact ⟨rfl, rfl⟩

set_option maxRecDepth 10000 in
theorem c_X11_undo_ok (hs : g 4 1 = nI m) (hm : m ≤ 40) (ht : t ≤ m) : xT (k + 2) 95 [.ref 0, .int (nI t)] (xH b g l) (fun r M' => M' = xH b (up g 4 1 (nI t)) l ∧ r = some (.int (nI (m - t)))) := by
  refine xT.of rfl (Nat.le_of_ble_eq_true rfl) ?_
  change xS _ _ 0 [(0, .ref 0), (1, .int (nI t))] [] _ _
  refine xS.s1 rfl rfl ?_
  try dsimp only [Nat.reduceAdd]
  refine xS.gR rfl rfl rfl ⟨by decide, rfl⟩ rfl ?_
  try dsimp only [Nat.reduceAdd]
  -- 4 yX2_size
  refine xS.cv rfl rfl rfl (xde_deeds.1 _) rfl rfl ⟨by decide, rfl, rfl⟩ (c_X2_size xde_deeds) (fun v M1 hv => ?_)
  rw [hv.1, hv.2, hs]
  clear hv M1 v
  try dsimp only [Nat.reduceAdd, Option.toList, List.cons_append, List.nil_append, List.drop]
  refine xS.s1 rfl rfl ?_
  try dsimp only [Nat.reduceAdd]
  refine xS.s1 rfl rfl ?_
  try dsimp only [Nat.reduceAdd]
  refine xS.br0 (c := .lt) (off := 8) (l := 3) rfl rfl (fun h9 => ?_) (fun h9 => ?_)
  · have g9 := xt_lt h9
    exfalso; first | exact absurd g9 (by decide) | (simp (disch := omega) only [Int32.lt_iff_toInt_lt, Int32.le_iff_toInt_le, nI_toInt, Int32.reduceToInt] at g9 <;> omega)
  · have g9 := xf_lt h9
    refine xS.s1 rfl rfl ?_
    try dsimp only [Nat.reduceAdd]
    refine xS.s1 rfl rfl ?_
    try dsimp only [Nat.reduceAdd]
    refine xS.br (c := .le) (off := 5) (l := 3) rfl rfl (fun h14 => ?_) (fun h14 => ?_)
    · have g14 := xt_le h14
      refine xS.s1 rfl rfl ?_
      try dsimp only [Nat.reduceAdd]
      refine xS.gR rfl rfl rfl ⟨by decide, rfl⟩ rfl ?_
      try dsimp only [Nat.reduceAdd]
      refine xS.s1 rfl rfl ?_
      try dsimp only [Nat.reduceAdd]
      -- 24 yX2_cutTo
      refine xS.cv rfl rfl rfl (xde_deeds.1 _) rfl rfl ⟨by decide, rfl, rfl⟩ (c_X2_cutTo xde_deeds hs hm ht) (fun v M1 hv => ?_)
      rw [hv.1, hv.2]
      clear hv M1 v
      try dsimp only [Nat.reduceAdd, Option.toList, List.cons_append, List.nil_append, List.drop]
      refine xS.s1 rfl rfl ?_
      try dsimp only [Nat.reduceAdd]
      refine xS.s1 rfl rfl ?_
      try dsimp only [Nat.reduceAdd]
      refine xS.s1 rfl rfl ?_
      try dsimp only [Nat.reduceAdd]
      refine xS.ret rfl rfl rfl (fun _ _ => rfl) ?_
      rw [pk_sub ht]
      exact ⟨rfl, rfl⟩
    · have g14 := xf_le h14
      exfalso; first | exact absurd g14 (by decide) | (simp (disch := omega) only [Int32.lt_iff_toInt_lt, Int32.le_iff_toInt_le, nI_toInt, Int32.reduceToInt] at g14 <;> omega)

set_option maxRecDepth 10000 in
theorem c_X11_keep_bad (hx : ¬ (0 ≤ x ∧ x < 3)) : xT (k + 2) 96 [.ref 0, .int x] (xH b g l) (fun r M' => M' = xH b g l ∧ r = some (.int (-1))) := by
  refine xT.of rfl (Nat.le_of_ble_eq_true rfl) ?_
  change xS _ _ 0 [(0, .ref 0), (1, .int x)] [] _ _
  refine xS.s1 rfl rfl ?_
  try dsimp only [Nat.reduceAdd]
  -- 1 yX11_isKept
  refine xS.callS rfl rfl rfl ⟨Nat.le_of_ble_eq_true rfl, rfl⟩ c_X11_isKept (fun v M1 hv => ?_)
  rw [hv.1, hv.2]
  clear hv M1 v
  try dsimp only [Nat.reduceAdd, Option.toList, List.cons_append, List.nil_append, List.drop]
  refine xS.br0 (c := .ne) (off := 5) (l := 3) rfl rfl (fun h4 => ?_) (fun h4 => ?_)
  · have g4 := xt_ne h4
    exact absurd (xif1 g4) hx
  · have g4 := xf_ne h4
    refine xS.s1 rfl rfl ?_
    try dsimp only [Nat.reduceAdd, xi_m1]
    refine xS.ret rfl rfl rfl (fun _ _ => rfl) ?_
    exact ⟨rfl, rfl⟩

set_option maxRecDepth 10000 in
theorem c_X11_keep_state (hb : xro b.1) (ht : t < 3) (hg : g b.1 2 = 0) : xT (k + 2) 96 [.ref 0, .int (nI t)] (xH b g l) (fun r M' => M' = xH b g l ∧ r = some (.int (-4))) := by
  refine xT.of rfl (Nat.le_of_ble_eq_true rfl) ?_
  change xS _ _ 0 [(0, .ref 0), (1, .int (nI t))] [] _ _
  refine xS.s1 rfl rfl ?_
  try dsimp only [Nat.reduceAdd]
  -- 1 yX11_isKept
  refine xS.callS rfl rfl rfl ⟨Nat.le_of_ble_eq_true rfl, rfl⟩ (c_X11_isKept_in ht) (fun v M1 hv => ?_)
  rw [hv.1, hv.2]
  clear hv M1 v
  try dsimp only [Nat.reduceAdd, Option.toList, List.cons_append, List.nil_append, List.drop]
  refine xS.br0 (c := .ne) (off := 5) (l := 3) rfl rfl (fun h4 => ?_) (fun h4 => ?_)
  · have g4 := xt_ne h4
    refine xS.s1 rfl rfl ?_
    try dsimp only [Nat.reduceAdd]
    refine xS.gR rfl rfl rfl ⟨by decide, rfl⟩ rfl ?_
    try dsimp only [Nat.reduceAdd]
    -- 13 yX8_glasses
    refine xS.cv rfl rfl rfl (hb.1 _) rfl rfl ⟨by decide, rfl, rfl⟩ (c_X8_glasses hb) (fun v M1 hv => ?_)
    rw [hv.1, hv.2]
    clear hv M1 v
    try dsimp only [Nat.reduceAdd, Option.toList, List.cons_append, List.nil_append, List.drop]
    refine xS.br0 (c := .ne) (off := 6) (l := 3) rfl rfl (fun h16 => ?_) (fun h16 => ?_)
    · have g16 := xt_ne h16
      exact absurd hg g16
    · have g16 := xf_ne h16
      refine xS.s1 rfl rfl ?_
      try dsimp only [Nat.reduceAdd, xj_m4]
      refine xS.ret rfl rfl rfl (fun _ _ => rfl) ?_
      exact ⟨rfl, rfl⟩
  · have g4 := xf_ne h4
    exfalso; first | exact absurd g4 (by decide) | (simp (disch := omega) only [Int32.lt_iff_toInt_lt, Int32.le_iff_toInt_le, nI_toInt, Int32.reduceToInt] at g4 <;> omega)

set_option maxRecDepth 10000 in
theorem c_X11_keep_ok (hb : xro b.1) (ht : t < 3) (hg : ¬ g b.1 2 = 0) (hs : g 4 1 = nI m) (hm : m ≤ 40) : xT (k + 2) 96 [.ref 0, .int (nI t)] (xH b g l) (fun r M' => M' = xH b (gcopy (up g (67 + 2 * t) 1 (nI m)) 5 0 (67 + 2 * t + 1) 0 (4 * m)) l ∧ r = some (.int (nI m))) := by
  refine xT.of rfl (Nat.le_of_ble_eq_true rfl) ?_
  change xS _ _ 0 [(0, .ref 0), (1, .int (nI t))] [] _ _
  refine xS.s1 rfl rfl ?_
  try dsimp only [Nat.reduceAdd]
  -- 1 yX11_isKept
  refine xS.callS rfl rfl rfl ⟨Nat.le_of_ble_eq_true rfl, rfl⟩ (c_X11_isKept_in ht) (fun v M1 hv => ?_)
  rw [hv.1, hv.2]
  clear hv M1 v
  try dsimp only [Nat.reduceAdd, Option.toList, List.cons_append, List.nil_append, List.drop]
  refine xS.br0 (c := .ne) (off := 5) (l := 3) rfl rfl (fun h4 => ?_) (fun h4 => ?_)
  · have g4 := xt_ne h4
    refine xS.s1 rfl rfl ?_
    try dsimp only [Nat.reduceAdd]
    refine xS.gR rfl rfl rfl ⟨by decide, rfl⟩ rfl ?_
    try dsimp only [Nat.reduceAdd]
    -- 13 yX8_glasses
    refine xS.cv rfl rfl rfl (hb.1 _) rfl rfl ⟨by decide, rfl, rfl⟩ (c_X8_glasses hb) (fun v M1 hv => ?_)
    rw [hv.1, hv.2]
    clear hv M1 v
    try dsimp only [Nat.reduceAdd, Option.toList, List.cons_append, List.nil_append, List.drop]
    refine xS.br0 (c := .ne) (off := 6) (l := 3) rfl rfl (fun h16 => ?_) (fun h16 => ?_)
    · have g16 := xt_ne h16
      refine xS.s1 rfl rfl ?_
      try dsimp only [Nat.reduceAdd]
      refine xS.gR rfl rfl rfl ⟨by decide, rfl⟩ rfl ?_
      try dsimp only [Nat.reduceAdd]
      refine xS.s1 rfl rfl ?_
      try dsimp only [Nat.reduceAdd]
      refine xS.aR rfl rfl (by decide) (by omega) (xsh6_get (by omega)) ?_
      try dsimp only [Nat.reduceAdd]
      refine xS.s1 rfl rfl ?_
      try dsimp only [Nat.reduceAdd]
      refine xS.gR rfl rfl rfl ⟨by decide, rfl⟩ rfl ?_
      try dsimp only [Nat.reduceAdd]
      -- 32 yX2_takeAll
      refine xS.cv rfl rfl rfl ((xde_kept (r := t) (by omega)).1 _) rfl rfl ⟨by decide, rfl, rfl⟩ (c_X2_takeAll (xde_kept ht) xde_deeds hs hm) (fun v M1 hv => ?_)
      rw [hv.1, hv.2]
      clear hv M1 v
      try dsimp only [Nat.reduceAdd, Option.toList, List.cons_append, List.nil_append, List.drop]
      refine xS.s1 rfl rfl ?_
      try dsimp only [Nat.reduceAdd]
      refine xS.gR rfl rfl rfl ⟨by decide, rfl⟩ rfl ?_
      try dsimp only [Nat.reduceAdd]
      -- 39 yX2_size
      refine xS.cv rfl rfl rfl (xde_deeds.1 _) rfl rfl ⟨by decide, rfl, rfl⟩ (c_X2_size xde_deeds) (fun v M1 hv => ?_)
      rw [hv.1, hv.2]
      clear hv M1 v
      try dsimp only [Nat.reduceAdd, Option.toList, List.cons_append, List.nil_append, List.drop]
      refine xS.ret rfl rfl rfl (fun _ _ => rfl) ?_
      rw [gcopy_na (by omega), up_na (by omega), hs]
      exact ⟨rfl, rfl⟩
    · have g16 := xf_ne h16
      exact absurd g16 hg
  · have g4 := xf_ne h4
    exfalso; first | exact absurd g4 (by decide) | (simp (disch := omega) only [Int32.lt_iff_toInt_lt, Int32.le_iff_toInt_le, nI_toInt, Int32.reduceToInt] at g4 <;> omega)

set_option maxRecDepth 10000 in
theorem c_X11_on_bad (hx : ¬ (0 ≤ x ∧ x < 3)) : xT (k + 2) 97 [.ref 0, .int x] (xH b g l) (fun r M' => M' = xH b g l ∧ r = some (.int (-1))) := by
  refine xT.of rfl (Nat.le_of_ble_eq_true rfl) ?_
  change xS _ _ 0 [(0, .ref 0), (1, .int x)] [] _ _
  refine xS.s1 rfl rfl ?_
  try dsimp only [Nat.reduceAdd]
  -- 1 yX11_isKept
  refine xS.callS rfl rfl rfl ⟨Nat.le_of_ble_eq_true rfl, rfl⟩ c_X11_isKept (fun v M1 hv => ?_)
  rw [hv.1, hv.2]
  clear hv M1 v
  try dsimp only [Nat.reduceAdd, Option.toList, List.cons_append, List.nil_append, List.drop]
  refine xS.br0 (c := .ne) (off := 5) (l := 3) rfl rfl (fun h4 => ?_) (fun h4 => ?_)
  · have g4 := xt_ne h4
    exact absurd (xif1 g4) hx
  · have g4 := xf_ne h4
    refine xS.s1 rfl rfl ?_
    try dsimp only [Nat.reduceAdd, xi_m1]
    refine xS.ret rfl rfl rfl (fun _ _ => rfl) ?_
    exact ⟨rfl, rfl⟩

set_option maxRecDepth 10000 in
theorem c_X11_on_no (ht : t < 3) (hs : g (67 + 2 * t) 1 = -1) : xT (k + 2) 97 [.ref 0, .int (nI t)] (xH b g l) (fun r M' => M' = xH b (xfC g 1) l ∧ r = some (.int (-3))) := by
  refine xT.of rfl (Nat.le_of_ble_eq_true rfl) ?_
  change xS _ _ 0 [(0, .ref 0), (1, .int (nI t))] [] _ _
  refine xS.s1 rfl rfl ?_
  try dsimp only [Nat.reduceAdd]
  -- 1 yX11_isKept
  refine xS.callS rfl rfl rfl ⟨Nat.le_of_ble_eq_true rfl, rfl⟩ (c_X11_isKept_in ht) (fun v M1 hv => ?_)
  rw [hv.1, hv.2]
  clear hv M1 v
  try dsimp only [Nat.reduceAdd, Option.toList, List.cons_append, List.nil_append, List.drop]
  refine xS.br0 (c := .ne) (off := 5) (l := 3) rfl rfl (fun h4 => ?_) (fun h4 => ?_)
  · have g4 := xt_ne h4
    refine xS.s1 rfl rfl ?_
    try dsimp only [Nat.reduceAdd]
    refine xS.gR rfl rfl rfl ⟨by decide, rfl⟩ rfl ?_
    try dsimp only [Nat.reduceAdd]
    refine xS.s1 rfl rfl ?_
    try dsimp only [Nat.reduceAdd]
    refine xS.aR rfl rfl (by decide) (by omega) (xsh6_get (by omega)) ?_
    try dsimp only [Nat.reduceAdd]
    -- 15 yX2_isMissing
    refine xS.cv rfl rfl rfl ((xde_kept (r := t) (by omega)).1 _) rfl rfl ⟨by decide, rfl, rfl⟩ (c_X2_isMissing (xde_kept (r := t) (by omega))) (fun v M1 hv => ?_)
    rw [hv.1, hv.2]
    clear hv M1 v
    try dsimp only [Nat.reduceAdd, Option.toList, List.cons_append, List.nil_append, List.drop]
    refine xS.br0 (c := .eq) (off := 9) (l := 3) rfl rfl (fun h18 => ?_) (fun h18 => ?_)
    · have g18 := xt_eq h18
      exact absurd hs (xif0 g18)
    · have g18 := xf_eq h18
      refine xS.s1 rfl rfl ?_
      try dsimp only [Nat.reduceAdd]
      refine xS.s1 rfl rfl ?_
      try dsimp only [Nat.reduceAdd, xi_1]
      -- 23 yX11_refuse
      refine xS.cv rfl rfl rfl rfl rfl rfl ⟨by decide, rfl, rfl⟩ (c_X11_refuse (t := 1) (by decide) (by decide)) (fun v M1 hv => ?_)
      rw [hv.1, hv.2]
      clear hv M1 v
      try dsimp only [Nat.reduceAdd, Option.toList, List.cons_append, List.nil_append, List.drop]
      refine xS.ret rfl rfl rfl (fun _ _ => rfl) ?_
      exact ⟨rfl, rfl⟩
  · have g4 := xf_ne h4
    exfalso; first | exact absurd g4 (by decide) | (simp (disch := omega) only [Int32.lt_iff_toInt_lt, Int32.le_iff_toInt_le, nI_toInt, Int32.reduceToInt] at g4 <;> omega)

set_option maxRecDepth 10000 in
theorem c_X11_on_ok (ht : t < 3) (hs : g (67 + 2 * t) 1 = nI m) (hm : m ≤ 40) : xT (k + 2) 97 [.ref 0, .int (nI t)] (xH b g l) (fun r M' => M' = xH b (gcopy (up g 4 1 (nI m)) (67 + 2 * t + 1) 0 5 0 (4 * m)) l ∧ r = some (.int (nI m))) := by
  refine xT.of rfl (Nat.le_of_ble_eq_true rfl) ?_
  change xS _ _ 0 [(0, .ref 0), (1, .int (nI t))] [] _ _
  refine xS.s1 rfl rfl ?_
  try dsimp only [Nat.reduceAdd]
  -- 1 yX11_isKept
  refine xS.callS rfl rfl rfl ⟨Nat.le_of_ble_eq_true rfl, rfl⟩ (c_X11_isKept_in ht) (fun v M1 hv => ?_)
  rw [hv.1, hv.2]
  clear hv M1 v
  try dsimp only [Nat.reduceAdd, Option.toList, List.cons_append, List.nil_append, List.drop]
  refine xS.br0 (c := .ne) (off := 5) (l := 3) rfl rfl (fun h4 => ?_) (fun h4 => ?_)
  · have g4 := xt_ne h4
    refine xS.s1 rfl rfl ?_
    try dsimp only [Nat.reduceAdd]
    refine xS.gR rfl rfl rfl ⟨by decide, rfl⟩ rfl ?_
    try dsimp only [Nat.reduceAdd]
    refine xS.s1 rfl rfl ?_
    try dsimp only [Nat.reduceAdd]
    refine xS.aR rfl rfl (by decide) (by omega) (xsh6_get (by omega)) ?_
    try dsimp only [Nat.reduceAdd]
    -- 15 yX2_isMissing
    refine xS.cv rfl rfl rfl ((xde_kept (r := t) (by omega)).1 _) rfl rfl ⟨by decide, rfl, rfl⟩ (c_X2_isMissing (xde_kept (r := t) (by omega))) (fun v M1 hv => ?_)
    rw [hv.1, hv.2]
    clear hv M1 v
    try dsimp only [Nat.reduceAdd, Option.toList, List.cons_append, List.nil_append, List.drop]
    refine xS.br0 (c := .eq) (off := 9) (l := 3) rfl rfl (fun h18 => ?_) (fun h18 => ?_)
    · have g18 := xt_eq h18
      refine xS.s1 rfl rfl ?_
      try dsimp only [Nat.reduceAdd]
      refine xS.gR rfl rfl rfl ⟨by decide, rfl⟩ rfl ?_
      try dsimp only [Nat.reduceAdd]
      refine xS.s1 rfl rfl ?_
      try dsimp only [Nat.reduceAdd]
      refine xS.gR rfl rfl rfl ⟨by decide, rfl⟩ rfl ?_
      try dsimp only [Nat.reduceAdd]
      refine xS.s1 rfl rfl ?_
      try dsimp only [Nat.reduceAdd]
      refine xS.aR rfl rfl (by decide) (by omega) (xsh6_get (by omega)) ?_
      try dsimp only [Nat.reduceAdd]
      -- 37 yX2_takeAll
      refine xS.cv rfl rfl rfl (xde_deeds.1 _) rfl rfl ⟨by decide, rfl, rfl⟩ (c_X2_takeAll xde_deeds (xde_kept ht) hs hm) (fun v M1 hv => ?_)
      rw [hv.1, hv.2]
      clear hv M1 v
      try dsimp only [Nat.reduceAdd, Option.toList, List.cons_append, List.nil_append, List.drop]
      refine xS.s1 rfl rfl ?_
      try dsimp only [Nat.reduceAdd]
      refine xS.gR rfl rfl rfl ⟨by decide, rfl⟩ rfl ?_
      try dsimp only [Nat.reduceAdd]
      -- 44 yX2_size
      refine xS.cv rfl rfl rfl (xde_deeds.1 _) rfl rfl ⟨by decide, rfl, rfl⟩ (c_X2_size xde_deeds) (fun v M1 hv => ?_)
      rw [hv.1, hv.2]
      clear hv M1 v
      try dsimp only [Nat.reduceAdd, Option.toList, List.cons_append, List.nil_append, List.drop]
      refine xS.ret rfl rfl rfl (fun _ _ => rfl) ?_
      rw [gcopy_na (by decide), up_same]
      exact ⟨rfl, rfl⟩
    · have g18 := xf_eq h18
      exact absurd (by rw [← hs]; exact xif1 g18) (nI_nm1 (m := m) (by omega))
  · have g4 := xf_ne h4
    exfalso; first | exact absurd g4 (by decide) | (simp (disch := omega) only [Int32.lt_iff_toInt_lt, Int32.le_iff_toInt_le, nI_toInt, Int32.reduceToInt] at g4 <;> omega)

end
