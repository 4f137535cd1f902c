/-! LimpMirror$Cells over the fixed cells -/
section
variable {k a c n n2 m t p s d i1 j1 : Nat} {b : Nat × Nat} {g : Nat → Nat → Int32} {l : Nat → Nat → Int64} {i j x y z v w : Int32} {u w1 w2 : Int64}

set_option maxRecDepth 10000 in
theorem c_X0_isMissing (hC : xce a n) : xT (k + 1) 1 [.ref a] (xH b g l) (fun r M' => M' = xH b g l ∧ r = some (.int (if g a 1 = -1 then 1 else 0))) := by
  refine xT.of rfl (Nat.le_of_ble_eq_true rfl) ?_
  dsimp only [lv_args]
  refine xS.s1 rfl rfl ?_
  try dsimp only [Nat.reduceAdd]
  refine xS.gI rfl (hC.1 _) rfl ⟨by decide, rfl⟩ rfl ?_
  try dsimp only [Nat.reduceAdd]
  refine xS.s1 rfl rfl ?_
  try dsimp only [Nat.reduceAdd, xi_m1]
  refine xS.br (c := .ne) (off := 7) (l := 3) rfl rfl (fun h5 => ?_) (fun h5 => ?_)
  · have g5 := xt_ne h5
    refine xS.s1 rfl rfl ?_
    try dsimp only [Nat.reduceAdd, xi_0]
    refine xS.ret rfl rfl rfl (fun _ _ => rfl) ?_
    exact ⟨rfl, by split <;> first | rfl | (exfalso; simp_all)⟩
  · have g5 := xf_ne h5
    refine xS.s1 rfl rfl ?_
    try dsimp only [Nat.reduceAdd, xi_1]
    refine xS.s1 rfl rfl ?_
    try dsimp only [Nat.reduceAdd]
    refine xS.ret rfl rfl rfl (fun _ _ => rfl) ?_
    exact ⟨rfl, by split <;> first | rfl | (exfalso; simp_all)⟩

set_option maxRecDepth 10000 in
theorem c_X0_size (hC : xce a n) : xT (k + 1) 2 [.ref a] (xH b g l) (fun r M' => M' = xH b g l ∧ r = some (.int (g a 1))) := by
  refine xT.of rfl (Nat.le_of_ble_eq_true rfl) ?_
  dsimp only [lv_args]
  refine xS.s1 rfl rfl ?_
  try dsimp only [Nat.reduceAdd]
  refine xS.gI rfl (hC.1 _) rfl ⟨by decide, rfl⟩ rfl ?_
  try dsimp only [Nat.reduceAdd]
  refine xS.ret rfl rfl rfl (fun _ _ => rfl) ?_
  exact ⟨rfl, rfl⟩

set_option maxRecDepth 10000 in
theorem c_X0_has (hC : xce a n) : xT (k + 1) 3 [.ref a, .int i] (xH b g l) (fun r M' => M' = xH b g l ∧ r = some (.int (if 0 ≤ i ∧ i < g a 1 ∧ i < nI n then 1 else 0))) := by
  refine xT.of rfl (Nat.le_of_ble_eq_true rfl) ?_
  dsimp only [lv_args]
  refine xS.s1 rfl rfl ?_
  try dsimp only [Nat.reduceAdd]
  refine xS.br0 (c := .lt) (off := 24) (l := 3) rfl rfl (fun h1 => ?_) (fun h1 => ?_)
  · have g1 := xt_lt h1
    refine xS.s1 rfl rfl ?_
    try dsimp only [Nat.reduceAdd, xi_0]
    refine xS.ret rfl rfl rfl (fun _ _ => rfl) ?_
    exact ⟨rfl, by split <;> first | rfl | (exfalso; simp only [Int32.le_iff_toInt_le, Int32.lt_iff_toInt_lt, Int32.reduceToInt] at *; omega)⟩
  · have g1 := xf_lt h1
    refine xS.s1 rfl rfl ?_
    try dsimp only [Nat.reduceAdd]
    refine xS.s1 rfl rfl ?_
    try dsimp only [Nat.reduceAdd]
    refine xS.gI rfl (hC.1 _) rfl ⟨by decide, rfl⟩ rfl ?_
    try dsimp only [Nat.reduceAdd]
    refine xS.br (c := .ge) (off := 16) (l := 3) rfl rfl (fun h9 => ?_) (fun h9 => ?_)
    · have g9 := xt_ge h9
      refine xS.s1 rfl rfl ?_
      try dsimp only [Nat.reduceAdd, xi_0]
      refine xS.ret rfl rfl rfl (fun _ _ => rfl) ?_
      exact ⟨rfl, by split <;> first | rfl | (exfalso; simp only [Int32.le_iff_toInt_le, Int32.lt_iff_toInt_lt, Int32.reduceToInt] at *; omega)⟩
    · have g9 := xf_ge h9
      refine xS.s1 rfl rfl ?_
      try dsimp only [Nat.reduceAdd]
      refine xS.s1 rfl rfl ?_
      try dsimp only [Nat.reduceAdd]
      refine xS.gR rfl (hC.1 _) rfl ⟨by decide, rfl⟩ rfl ?_
      try dsimp only [Nat.reduceAdd]
      refine xS.al rfl hC.2 ?_
      try dsimp only [Nat.reduceAdd]
      refine xS.br (c := .ge) (off := 7) (l := 3) rfl rfl (fun h18 => ?_) (fun h18 => ?_)
      · have g18 := xt_ge h18
        refine xS.s1 rfl rfl ?_
        try dsimp only [Nat.reduceAdd, xi_0]
        refine xS.ret rfl rfl rfl (fun _ _ => rfl) ?_
        exact ⟨rfl, by split <;> first | rfl | (exfalso; simp only [Int32.le_iff_toInt_le, Int32.lt_iff_toInt_lt, Int32.reduceToInt] at *; omega)⟩
      · have g18 := xf_ge h18
        refine xS.s1 rfl rfl ?_
        try dsimp only [Nat.reduceAdd, xi_1]
        refine xS.s1 rfl rfl ?_
        try dsimp only [Nat.reduceAdd]
        refine xS.ret rfl rfl rfl (fun _ _ => rfl) ?_
        exact ⟨rfl, by split <;> first | rfl | (exfalso; simp only [Int32.le_iff_toInt_le, Int32.lt_iff_toInt_lt, Int32.reduceToInt] at *; omega)⟩

set_option maxRecDepth 10000 in
theorem c_X0_hasPlaces (hC : xce a n) : xT (k + 1) 4 [.ref a, .int i, .int x] (xH b g l) (fun r M' => M' = xH b g l ∧ r = some (.int (if 0 ≤ i ∧ i ≤ g a 1 ∧ x ≤ g a 1 - i then 1 else 0))) := by
  refine xT.of rfl (Nat.le_of_ble_eq_true rfl) ?_
  dsimp only [lv_args]
  refine xS.s1 rfl rfl ?_
  try dsimp only [Nat.reduceAdd]
  refine xS.br0 (c := .lt) (off := 25) (l := 3) rfl rfl (fun h1 => ?_) (fun h1 => ?_)
  · have g1 := xt_lt h1
    refine xS.s1 rfl rfl ?_
    try dsimp only [Nat.reduceAdd, xi_0]
    refine xS.ret rfl rfl rfl (fun _ _ => rfl) ?_
    exact ⟨rfl, by split <;> first | rfl | (exfalso; simp only [Int32.le_iff_toInt_le, Int32.lt_iff_toInt_lt, Int32.reduceToInt] at *; omega)⟩
  · have g1 := xf_lt h1
    refine xS.s1 rfl rfl ?_
    try dsimp only [Nat.reduceAdd]
    refine xS.s1 rfl rfl ?_
    try dsimp only [Nat.reduceAdd]
    refine xS.gI rfl (hC.1 _) rfl ⟨by decide, rfl⟩ rfl ?_
    try dsimp only [Nat.reduceAdd]
    refine xS.br (c := .gt) (off := 17) (l := 3) rfl rfl (fun h9 => ?_) (fun h9 => ?_)
    · have g9 := xt_gt h9
      refine xS.s1 rfl rfl ?_
      try dsimp only [Nat.reduceAdd, xi_0]
      refine xS.ret rfl rfl rfl (fun _ _ => rfl) ?_
      exact ⟨rfl, by split <;> first | rfl | (exfalso; simp only [Int32.le_iff_toInt_le, Int32.lt_iff_toInt_lt, Int32.reduceToInt] at *; omega)⟩
    · have g9 := xf_gt h9
      refine xS.s1 rfl rfl ?_
      try dsimp only [Nat.reduceAdd]
      refine xS.s1 rfl rfl ?_
      try dsimp only [Nat.reduceAdd]
      refine xS.gI rfl (hC.1 _) rfl ⟨by decide, rfl⟩ rfl ?_
      try dsimp only [Nat.reduceAdd]
      refine xS.s1 rfl rfl ?_
      try dsimp only [Nat.reduceAdd]
      refine xS.s1 rfl rfl ?_
      try dsimp only [Nat.reduceAdd]
      refine xS.br (c := .gt) (off := 7) (l := 3) rfl rfl (fun h19 => ?_) (fun h19 => ?_)
      · have g19 := xt_gt h19
        refine xS.s1 rfl rfl ?_
        try dsimp only [Nat.reduceAdd, xi_0]
        refine xS.ret rfl rfl rfl (fun _ _ => rfl) ?_
        exact ⟨rfl, by split <;> first | rfl | (exfalso; simp only [Int32.le_iff_toInt_le, Int32.lt_iff_toInt_lt, Int32.reduceToInt] at *; omega)⟩
      · have g19 := xf_gt h19
        refine xS.s1 rfl rfl ?_
        try dsimp only [Nat.reduceAdd, xi_1]
        refine xS.s1 rfl rfl ?_
        try dsimp only [Nat.reduceAdd]
        refine xS.ret rfl rfl rfl (fun _ _ => rfl) ?_
        exact ⟨rfl, by split <;> first | rfl | (exfalso; simp only [Int32.le_iff_toInt_le, Int32.lt_iff_toInt_lt, Int32.reduceToInt] at *; omega)⟩

set_option maxRecDepth 10000 in
theorem c_X0_drop (hC : xce a n) : xT (k + 1) 8 [.ref a] (xH b g l) (fun r M' => M' = xH b (up g a 1 (-1)) l ∧ r = none) := by
  refine xT.of rfl (Nat.le_of_ble_eq_true rfl) ?_
  dsimp only [lv_args]
  refine xS.s1 rfl rfl ?_
  try dsimp only [Nat.reduceAdd]
  refine xS.s1 rfl rfl ?_
  try dsimp only [Nat.reduceAdd, xi_m1]
  refine xS.pI rfl (hC.1 _) rfl ⟨⟨by decide, rfl⟩, rfl, by decide, by decide⟩ rfl ?_
  try dsimp only [Nat.reduceAdd]
  refine xS.ret rfl rfl rfl (fun _ _ => rfl) ?_
  exact ⟨rfl, rfl⟩

theorem xn31 {a n : Nat} (h : xar a n) : n < 2 ^ 31 := by have := h.2; omega
theorem c_X0_has_in (hC : xce a n) (hs : g a 1 = nI m) (hm : m ≤ n) (ht : t < m) : xT (k + 1) 3 [.ref a, .int (nI t)] (xH b g l) (fun r M' => M' = xH b g l ∧ r = some (.int 1)) := by
  have hn := xn31 hC.2
  refine (c_X0_has hC).weak (fun r M' h => ⟨h.1, ?_⟩)
  rw [h.2, if_pos ⟨nI_pos' (by omega), by rw [hs]; exact nI_lt ht (by omega), nI_lt (by omega) (by omega)⟩]

set_option maxRecDepth 10000 in
theorem c_X0_get (hC : xce a n) (hs : g a 1 = nI m) (hm : m ≤ n) (ht : t < m) : xT (k + 2) 5 [.ref a, .int (nI t)] (xH b g l) (fun r M' => M' = xH b g l ∧ r = some (.int (g (a + 1) t))) := by
  refine xT.of rfl (Nat.le_of_ble_eq_true rfl) ?_
  dsimp only [lv_args]
  refine xS.s1 rfl rfl ?_
  try dsimp only [Nat.reduceAdd]
  refine xS.s1 rfl rfl ?_
  try dsimp only [Nat.reduceAdd]
  -- 2 yX0_has
  refine xS.cv rfl rfl rfl (hC.1 _) rfl rfl ⟨by decide, rfl, rfl⟩ (c_X0_has_in hC hs hm ht) (fun v M1 hv => ?_)
  rw [hv.1, hv.2]
  clear hv M1 v
  try dsimp only [Nat.reduceAdd, Option.toList, List.cons_append, List.nil_append, List.drop]
  refine xS.br0 (c := .eq) (off := 12) (l := 3) rfl rfl (fun h5 => ?_) (fun h5 => ?_)
  · have g5 := xt_eq h5
    exact absurd g5 (by decide)
  · have g5 := xf_eq h5
    refine xS.s1 rfl rfl ?_
    try dsimp only [Nat.reduceAdd]
    refine xS.gR rfl (hC.1 _) rfl ⟨by decide, rfl⟩ rfl ?_
    try dsimp only [Nat.reduceAdd]
    refine xS.s1 rfl rfl ?_
    try dsimp only [Nat.reduceAdd]
    refine xS.ia rfl hC.2 (by omega) ?_
    try dsimp only [Nat.reduceAdd]
    refine xS.s1 rfl rfl ?_
    try dsimp only [Nat.reduceAdd]
    refine xS.ret rfl rfl rfl (fun _ _ => rfl) ?_
    exact ⟨rfl, rfl⟩

set_option maxRecDepth 10000 in
theorem c_X0_set (hC : xce a n) (hs : g a 1 = nI m) (hm : m ≤ n) (ht : t < m) : xT (k + 2) 6 [.ref a, .int (nI t), .int x] (xH b g l) (fun r M' => M' = xH b (up g (a + 1) t x) l ∧ r = none) := by
  refine xT.of rfl (Nat.le_of_ble_eq_true rfl) ?_
  dsimp only [lv_args]
  refine xS.s1 rfl rfl ?_
  try dsimp only [Nat.reduceAdd]
  refine xS.s1 rfl rfl ?_
  try dsimp only [Nat.reduceAdd]
  -- 2 yX0_has
  refine xS.cv rfl rfl rfl (hC.1 _) rfl rfl ⟨by decide, rfl, rfl⟩ (c_X0_has_in hC hs hm ht) (fun v M1 hv => ?_)
  rw [hv.1, hv.2]
  clear hv M1 v
  try dsimp only [Nat.reduceAdd, Option.toList, List.cons_append, List.nil_append, List.drop]
  refine xS.br0 (c := .eq) (off := 10) (l := 3) rfl rfl (fun h5 => ?_) (fun h5 => ?_)
  · have g5 := xt_eq h5
    exact absurd g5 (by decide)
  · have g5 := xf_eq h5
    refine xS.s1 rfl rfl ?_
    try dsimp only [Nat.reduceAdd]
    refine xS.gR rfl (hC.1 _) rfl ⟨by decide, rfl⟩ rfl ?_
    try dsimp only [Nat.reduceAdd]
    refine xS.s1 rfl rfl ?_
    try dsimp only [Nat.reduceAdd]
    refine xS.s1 rfl rfl ?_
    try dsimp only [Nat.reduceAdd]
    refine xS.ias rfl hC.2 (by omega) ?_
    try dsimp only [Nat.reduceAdd]
    refine xS.ret rfl rfl rfl (fun _ _ => rfl) ?_
    exact ⟨rfl, rfl⟩

set_option maxRecDepth 10000 in
theorem c_X0_stepAt (hC : xce a n) (hs : g a 1 = nI m) (hm : m ≤ n) (ht : t < m) : xT (k + 3) 11 [.ref a, .int (nI t)] (xH b g l) (fun r M' => M' = xH b g l ∧ r = some (.int (g (a + 1) t))) := by
  refine xT.of rfl (Nat.le_of_ble_eq_true rfl) ?_
  dsimp only [lv_args]
  refine xS.s1 rfl rfl ?_
  try dsimp only [Nat.reduceAdd]
  refine xS.s1 rfl rfl ?_
  try dsimp only [Nat.reduceAdd]
  -- 2 yX0_get
  refine xS.cv rfl rfl rfl (hC.1 _) rfl rfl ⟨by decide, rfl, rfl⟩ (c_X0_get hC hs hm ht) (fun v M1 hv => ?_)
  rw [hv.1, hv.2]
  clear hv M1 v
  try dsimp only [Nat.reduceAdd, Option.toList, List.cons_append, List.nil_append, List.drop]
  refine xS.ret rfl rfl rfl (fun _ _ => rfl) ?_
  exact ⟨rfl, rfl⟩

def gfill (g : Nat → Nat → Int32) (a m : Nat) (v : Int32) : Nat → Nat → Int32 := fun a' i' => if a' = a ∧ i' < m then v else g a' i'
theorem gfill_0 (g : Nat → Nat → Int32) (a : Nat) (v : Int32) : gfill g a 0 v = g := by
  funext a' i'
  exact if_neg (fun h => absurd h.2 (by omega))
theorem gfill_s (g : Nat → Nat → Int32) (a j : Nat) (v : Int32) : up (gfill g a j v) a j v = gfill g a (j + 1) v := by
  funext a' i'
  unfold up gfill
  by_cases h : a' = a
  · by_cases h1 : i' = j
    · simp [h, h1]
    · by_cases h2 : i' < j
      · simp [h, h1, h2, Nat.lt_succ_of_lt h2]
      · have : ¬ i' < j + 1 := by omega
        simp [h1, h2, this]
  · simp [h]
theorem gfill_na {g : Nat → Nat → Int32} {a m a' : Nat} {v : Int32} (h : a' ≠ a) : gfill g a m v a' = g a' := funext (fun _ => if_neg (fun z => h z.1))
theorem gfill_in {g : Nat → Nat → Int32} {a m i : Nat} {v : Int32} (h : i < m) : gfill g a m v a i = v := if_pos ⟨rfl, h⟩
def gcopy (g : Nat → Nat → Int32) (sa si da di m : Nat) : Nat → Nat → Int32 := fun a' i' => if a' = da ∧ di ≤ i' ∧ i' < di + m then g sa (si + (i' - di)) else g a' i'
theorem gcopy_na {g : Nat → Nat → Int32} {sa si da di m a' : Nat} (h : a' ≠ da) : gcopy g sa si da di m a' = g a' := funext (fun _ => if_neg (fun z => h z.1))
theorem gcopy_in {g : Nat → Nat → Int32} {sa si da di m i : Nat} (h : i < m) : gcopy g sa si da di m da (di + i) = g sa (si + i) := by
  unfold gcopy
  rw [if_pos ⟨rfl, by omega, by omega⟩]
  congr 1
  omega
theorem gcopy_0 {g : Nat → Nat → Int32} {sa si da di : Nat} : gcopy g sa si da di 0 = g := by
  funext a' i'
  exact if_neg (fun h => absurd h.2 (by omega))
theorem xnlt {a b : Nat} (h : nI a < nI b) (ha : a < 2 ^ 31) (hb : b < 2 ^ 31) : a < b := (nI_ltI ha hb).mp h
theorem xnle {a b : Nat} (h : nI b ≤ nI a) (ha : a < 2 ^ 31) (hb : b < 2 ^ 31) : b ≤ a := (nI_leI hb ha).mp h

theorem xmax0 {m : Nat} (h : m < 2 ^ 31) : (if 0 < nI m then nI m else 0) = nI m := by
  cases m with
  | zero => exact ite_self _
  | succ m => exact if_pos (nI_lt (a := 0) (b := m + 1) (by omega) h)

set_option maxRecDepth 10000 in
theorem c_X0_open (hC : xce a n) (hm : m ≤ n) : xT (k + 1) 7 [.ref a, .int (nI m), .int v] (xH b g l) (fun r M' => M' = xH b (gfill (up g a 1 (nI m)) (a + 1) m v) l ∧ r = none) := by
  refine xT.of rfl (Nat.le_of_ble_eq_true rfl) ?_
  dsimp only [lv_args]
  refine xS.s1 rfl rfl ?_
  try dsimp only [Nat.reduceAdd]
  refine xS.s1 rfl rfl ?_
  try dsimp only [Nat.reduceAdd, xi_0]
  refine xS.s1 rfl rfl ?_
  try dsimp only [Nat.reduceAdd]
  refine xS.s1 rfl rfl ?_
  try dsimp only [Nat.reduceAdd]
  refine xS.gR rfl (hC.1 _) rfl ⟨by decide, rfl⟩ rfl ?_
  try dsimp only [Nat.reduceAdd]
  refine xS.al rfl hC.2 ?_
  try dsimp only [Nat.reduceAdd]
  refine xS.s3 (pc' := 11) (M1 := xH b g l) (st' := [.int (if nI n < nI m then nI n else nI m), .int 0, .ref a]) rfl rfl rfl (fun _ _ => rfl) ?_
  rw [if_neg (nI_nlt hm (xn31 hC.2))]
  refine xS.s3 (pc' := 14) (M1 := xH b g l) (st' := [.int (if 0 < nI m then nI m else 0), .ref a]) rfl rfl rfl (fun _ _ => rfl) ?_
  rw [show (if 0 < nI m then nI m else 0) = nI m from xmax0 (by have := xn31 hC.2; omega)]
  refine xS.pI rfl (hC.1 _) rfl ⟨⟨by decide, rfl⟩, rfl, by decide, by decide⟩ rfl ?_
  try dsimp only [Nat.reduceAdd]
  refine xS.s1 rfl rfl ?_
  try dsimp only [Nat.reduceAdd, xi_0]
  refine xS.s1 rfl rfl ?_
  try dsimp only [Nat.reduceAdd]
  refine xS.pick [0, 1, 3] rfl ?_
  refine xS.loop (σ := Unit) (m) (fun j S => [(3, .int (nI j)), (0, .ref a), (2, .int v)]) (fun j _ => xH b (gfill (up g a 1 (nI m)) (a + 1) j v) l) (fun _ _ => True) (()) (rfl) (by rw [gfill_0]) (trivial) ?_
  intro j S hj hI ih
  try dsimp only
  have hn := xn31 hC.2
  have hsz : gfill (up g a 1 (nI m)) (a + 1) j v a 1 = nI m := by rw [gfill_na (by omega), up_same]
  refine xS.s1 rfl rfl ?_
  try dsimp only [Nat.reduceAdd]
  refine xS.s1 rfl rfl ?_
  try dsimp only [Nat.reduceAdd]
  refine xS.gI rfl (hC.1 _) rfl ⟨by decide, rfl⟩ rfl ?_
  try dsimp only [Nat.reduceAdd]
  refine xS.br (c := .ge) (off := 16) (l := 3) rfl rfl (fun h24 => ?_) (fun h24 => ?_)
  · have g24 := xt_ge h24
    rw [hsz] at g24
    refine xS.ret rfl rfl rfl (fun _ _ => rfl) ?_
    have e := xnle g24 (by omega) (by omega)
    rw [show j = m by omega]
    exact ⟨rfl, rfl⟩
  · have g24 := xf_ge h24
    rw [hsz] at g24
    have hlt := xnlt g24 (by omega) (by omega)
    refine xS.s1 rfl rfl ?_
    try dsimp only [Nat.reduceAdd]
    refine xS.gR rfl (hC.1 _) rfl ⟨by decide, rfl⟩ rfl ?_
    try dsimp only [Nat.reduceAdd]
    refine xS.s1 rfl rfl ?_
    try dsimp only [Nat.reduceAdd]
    refine xS.s1 rfl rfl ?_
    try dsimp only [Nat.reduceAdd]
    refine xS.ias rfl hC.2 (by omega) ?_
    try dsimp only [Nat.reduceAdd]
    refine xS.s1 rfl rfl ?_
    try dsimp only [Nat.reduceAdd, xi_1]
    rw [nI_1]
    refine xS.s1 rfl rfl ?_
    try dsimp only [Nat.reduceAdd]
    refine xS.pick [0, 1, 2] rfl ?_
    rw [gfill_s]
    exact ih () (by omega) trivial

end
