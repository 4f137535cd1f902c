/-! LimpMirror: the small private methods -/
def xRm (g : Nat → Nat → Int32) (a G T : Nat) (Lw : Nat → Nat) : Prop := (g a 2 = nI G ∧ G ≤ 6) ∧ (g a 4 = nI T ∧ T ≤ 8) ∧ (∀ k, k < G → g (a + 2) k = nI (Lw k) ∧ Lw k < 24) ∧ (∀ s, s < 6 → xstp (g (a + 1) s))
theorem xsrc_le {κ δ i s : Nat} (h : xsrc κ δ i = some s) : s ≤ i := by
  unfold xsrc at h
  repeat' split at h
  all_goals first | (cases h; done) | (cases h; omega)
def xfC (g : Nat → Nat → Int32) (t : Nat) : Nat → Nat → Int32 := up (up g 0 14 (nI t)) 22 t (g 22 t + 1)
def xnst (f : Nat → Int32) : Nat → Bool := fun i => !decide (0 ≤ f i ∧ f i < 6)
def xfos (S : Int32) (f : Nat → Int32) (most : Nat) : Nat := if S = -1 then 1 else if nI most < S then 5 else if xfst (xnst f) (xN S) = none then 0 else 3
def xfop (S : Int32) (f : Nat → Int32) (S' : Int32) (f' : Nat → Int32) (most : Nat) : Nat := if xfos S f most ≠ 0 then xfos S f most else if xfos S' f' most ≠ 0 then xfos S' f' most else if S = S' then 0 else 5
def xsz (x : Int32) (n : Nat) : Prop := x = -1 ∨ ∃ m, m ≤ n ∧ x = nI m
theorem nI_nm1 {m : Nat} (h : m < 2 ^ 31) : ¬ nI m = -1 := fun z => absurd ((nI_toInt h).symm.trans (congrArg Int32.toInt z)) (by have : (-1 : Int32).toInt = -1 := rfl; omega)
theorem xstp_iff {x : Int32} : xstp x ↔ 0 ≤ x ∧ x < 6 := by
  constructor
  · rintro ⟨v, h1, rfl⟩
    exact ⟨nI_pos' (by omega), nI_lt (b := 6) h1 (by omega)⟩
  · rintro ⟨h1, h2⟩
    obtain ⟨j, hj, rfl⟩ := nI_of (x := x) (Int32.not_lt.mpr h1)
    exact ⟨j, (nI_ltI (b := 6) hj (by omega)).mp h2, rfl⟩
theorem xfst_none {p : Nat → Bool} : ∀ {n : Nat}, xfst p n = none ↔ ∀ i, i < n → p i = false
  | 0 => ⟨fun _ i h => absurd h (by omega), fun _ => rfl⟩
  | n + 1 => by
    rw [xfst_s]
    constructor
    · intro h i hi
      cases e : xfst p n with
      | some d => rw [e] at h; cases h
      | none =>
        rw [e] at h
        have h1 := xfst_none.mp e
        rcases Nat.lt_or_ge i n with h2 | h2
        · exact h1 i h2
        · have : i = n := by omega
          subst this
          cases hp : p i with
          | true => rw [hp] at h; cases h
          | false => rfl
    · intro h
      rw [xfst_none.mpr (fun i hi => h i (by omega)), h n (by omega)]
      rfl
theorem xfos_0 {S : Int32} {f : Nat → Int32} {most n : Nat} (hz : xsz S n) (hn : n < 2 ^ 31) (hm : most < 2 ^ 31) (h : xfos S f most = 0) : ∃ m, S = nI m ∧ m ≤ most ∧ m ≤ n ∧ ∀ i, i < m → xstp (f i) := by
  unfold xfos at h
  split at h
  · cases h
  · rename_i h1
    rcases hz with h2 | ⟨m, h2, rfl⟩
    · exact absurd h2 h1
    · split at h
      · cases h
      · rename_i h3
        split at h
        · rename_i h4
          rw [xN_nI (by omega)] at h4
          rw [nI_ltI hm (by omega)] at h3
          refine ⟨m, rfl, by omega, h2, fun i hi => ?_⟩
          have := xfst_none.mp h4 i hi
          unfold xnst at this
          exact xstp_iff.mpr (by simpa using this)
        · cases h
theorem xfos_le (S : Int32) (f : Nat → Int32) (most : Nat) : xfos S f most ≤ 5 := by
  unfold xfos
  repeat' split
  all_goals omega
theorem xfop_le (S : Int32) (f : Nat → Int32) (S' : Int32) (f' : Nat → Int32) (most : Nat) : xfop S f S' f' most ≤ 5 := by
  unfold xfop
  have h1 := xfos_le S f most
  have h2 := xfos_le S' f' most
  repeat' split
  all_goals omega
theorem xfop_0 {S S' : Int32} {f f' : Nat → Int32} {most : Nat} (h : xfop S f S' f' most = 0) : xfos S f most = 0 ∧ xfos S' f' most = 0 ∧ S = S' := by
  unfold xfop at h
  repeat' split at h
  all_goals first | (exfalso; omega) | skip
  · rename_i h1 h2 h3
    exact ⟨by omega, by omega, h3⟩

section
variable {k a c n n2 m t p s d i1 j1 : Nat} {b : Nat × Nat} {g : Nat → Nat → Int32} {l : Nat → Nat → Int64} {i j x y z v w : Int32} {u w1 w2 : Int64}
variable {L G T : Nat} {Lw : Nat → Nat}
set_option maxRecDepth 10000 in
theorem c_X11_refuse (ht1 : 1 ≤ t) (ht : t ≤ 5) : xT (k + 1) 122 [.ref 0, .int (nI t)] (xH b g l) (fun r M' => M' = xH b (xfC g t) l ∧ r = some (.int (-3))) := by
  refine xT.of rfl (Nat.le_of_ble_eq_true rfl) ?_
  dsimp only [lv_args]
  refine xS.s1 rfl rfl ?_
  try dsimp only [Nat.reduceAdd]
  refine xS.s1 rfl rfl ?_
  try dsimp only [Nat.reduceAdd]
  refine xS.pI rfl rfl rfl ⟨⟨by decide, rfl⟩, rfl, by decide, by decide⟩ rfl ?_
  try dsimp only [Nat.reduceAdd]
  refine xS.s1 rfl rfl ?_
  try dsimp only [Nat.reduceAdd]
  refine xS.s1 rfl rfl ?_
  try dsimp only [Nat.reduceAdd, xi_1]
  refine xS.br (c := .lt) (off := 18) (l := 3) rfl rfl (fun h7 => ?_) (fun h7 => ?_)
  · have g7 := xt_lt h7
    exfalso; have := (nI_ltI (a := t) (b := 1) (by omega) (by omega)).mp g7; omega
  · have g7 := xf_lt h7
    refine xS.s1 rfl rfl ?_
    try dsimp only [Nat.reduceAdd]
    refine xS.s1 rfl rfl ?_
    try dsimp only [Nat.reduceAdd, xi_5]
    refine xS.br (c := .gt) (off := 13) (l := 3) rfl rfl (fun h12 => ?_) (fun h12 => ?_)
    · have g12 := xt_gt h12
      exfalso; have := (nI_ltI (a := 5) (b := t) (by omega) (by omega)).mp g12; omega
    · have g12 := xf_gt h12
      refine xS.s1 rfl rfl ?_
      try dsimp only [Nat.reduceAdd]
      refine xS.gR rfl rfl rfl ⟨by decide, rfl⟩ rfl ?_
      try dsimp only [Nat.reduceAdd]
      refine xS.s1 rfl rfl ?_
      try dsimp only [Nat.reduceAdd]
      refine xS.s1 rfl rfl ?_
      try dsimp only [Nat.reduceAdd]
      refine xS.ia rfl xar_22 (by omega) ?_
      try dsimp only [Nat.reduceAdd]
      rw [up_ne (Or.inl (by decide))]
      refine xS.s1 rfl rfl ?_
      try dsimp only [Nat.reduceAdd, xi_1]
      refine xS.s1 rfl rfl ?_
      try dsimp only [Nat.reduceAdd]
      refine xS.ias rfl xar_22 (by omega) ?_
      try dsimp only [Nat.reduceAdd]
      refine xS.s1 rfl rfl ?_
      try dsimp only [Nat.reduceAdd, xj_m3]
      refine xS.ret rfl rfl rfl (fun _ _ => rfl) ?_
      exact ⟨rfl, rfl⟩

set_option maxRecDepth 10000 in
theorem c_X11_isRow  : xT (k + 1) 123 [.int x] (xH b g l) (fun r M' => M' = xH b g l ∧ r = some (.int (if 0 ≤ x ∧ x < 6 then 1 else 0))) := by
  refine xT.of rfl (Nat.le_of_ble_eq_true rfl) ?_
  dsimp only [lv_args]
  refine xS.s1 rfl rfl ?_
  try dsimp only [Nat.reduceAdd]
  refine xS.br0 (c := .lt) (off := 13) (l := 3) rfl rfl (fun h1 => ?_) (fun h1 => ?_)
  · have g1 := xt_lt h1
    refine xS.s1 rfl rfl ?_
    try dsimp only [Nat.reduceAdd, xi_0]
    refine xS.ret rfl rfl rfl (fun _ _ => rfl) ?_
    exact ⟨rfl, by split <;> first | rfl | (exfalso; simp only [Int32.le_iff_toInt_le, Int32.lt_iff_toInt_lt, Int32.reduceToInt] at *; omega)⟩
  · have g1 := xf_lt h1
    refine xS.s1 rfl rfl ?_
    try dsimp only [Nat.reduceAdd]
    refine xS.s1 rfl rfl ?_
    try dsimp only [Nat.reduceAdd, xj_6]
    refine xS.br (c := .ge) (off := 7) (l := 3) rfl rfl (fun h7 => ?_) (fun h7 => ?_)
    · have g7 := xt_ge h7
      refine xS.s1 rfl rfl ?_
      try dsimp only [Nat.reduceAdd, xi_0]
      refine xS.ret rfl rfl rfl (fun _ _ => rfl) ?_
      exact ⟨rfl, by split <;> first | rfl | (exfalso; simp only [Int32.le_iff_toInt_le, Int32.lt_iff_toInt_lt, Int32.reduceToInt] at *; omega)⟩
    · have g7 := xf_ge h7
      refine xS.s1 rfl rfl ?_
      try dsimp only [Nat.reduceAdd, xi_1]
      refine xS.s1 rfl rfl ?_
      try dsimp only [Nat.reduceAdd]
      refine xS.ret rfl rfl rfl (fun _ _ => rfl) ?_
      exact ⟨rfl, by split <;> first | rfl | (exfalso; simp only [Int32.le_iff_toInt_le, Int32.lt_iff_toInt_lt, Int32.reduceToInt] at *; omega)⟩

set_option maxRecDepth 10000 in
theorem c_X11_isText  : xT (k + 1) 124 [.int x] (xH b g l) (fun r M' => M' = xH b g l ∧ r = some (.int (if 0 ≤ x ∧ x < 4 then 1 else 0))) := by
  refine xT.of rfl (Nat.le_of_ble_eq_true rfl) ?_
  dsimp only [lv_args]
  refine xS.s1 rfl rfl ?_
  try dsimp only [Nat.reduceAdd]
  refine xS.br0 (c := .lt) (off := 12) (l := 3) rfl rfl (fun h1 => ?_) (fun h1 => ?_)
  · have g1 := xt_lt h1
    refine xS.s1 rfl rfl ?_
    try dsimp only [Nat.reduceAdd, xi_0]
    refine xS.ret rfl rfl rfl (fun _ _ => rfl) ?_
    exact ⟨rfl, by split <;> first | rfl | (exfalso; simp only [Int32.le_iff_toInt_le, Int32.lt_iff_toInt_lt, Int32.reduceToInt] at *; omega)⟩
  · have g1 := xf_lt h1
    refine xS.s1 rfl rfl ?_
    try dsimp only [Nat.reduceAdd]
    refine xS.s1 rfl rfl ?_
    try dsimp only [Nat.reduceAdd, xi_4]
    refine xS.br (c := .ge) (off := 7) (l := 3) rfl rfl (fun h6 => ?_) (fun h6 => ?_)
    · have g6 := xt_ge h6
      refine xS.s1 rfl rfl ?_
      try dsimp only [Nat.reduceAdd, xi_0]
      refine xS.ret rfl rfl rfl (fun _ _ => rfl) ?_
      exact ⟨rfl, by split <;> first | rfl | (exfalso; simp only [Int32.le_iff_toInt_le, Int32.lt_iff_toInt_lt, Int32.reduceToInt] at *; omega)⟩
    · have g6 := xf_ge h6
      refine xS.s1 rfl rfl ?_
      try dsimp only [Nat.reduceAdd, xi_1]
      refine xS.s1 rfl rfl ?_
      try dsimp only [Nat.reduceAdd]
      refine xS.ret rfl rfl rfl (fun _ _ => rfl) ?_
      exact ⟨rfl, by split <;> first | rfl | (exfalso; simp only [Int32.le_iff_toInt_le, Int32.lt_iff_toInt_lt, Int32.reduceToInt] at *; omega)⟩

set_option maxRecDepth 10000 in
theorem c_X11_isKept  : xT (k + 1) 125 [.int x] (xH b g l) (fun r M' => M' = xH b g l ∧ r = some (.int (if 0 ≤ x ∧ x < 3 then 1 else 0))) := by
  refine xT.of rfl (Nat.le_of_ble_eq_true rfl) ?_
  dsimp only [lv_args]
  refine xS.s1 rfl rfl ?_
  try dsimp only [Nat.reduceAdd]
  refine xS.br0 (c := .lt) (off := 12) (l := 3) rfl rfl (fun h1 => ?_) (fun h1 => ?_)
  · have g1 := xt_lt h1
    refine xS.s1 rfl rfl ?_
    try dsimp only [Nat.reduceAdd, xi_0]
    refine xS.ret rfl rfl rfl (fun _ _ => rfl) ?_
    exact ⟨rfl, by split <;> first | rfl | (exfalso; simp only [Int32.le_iff_toInt_le, Int32.lt_iff_toInt_lt, Int32.reduceToInt] at *; omega)⟩
  · have g1 := xf_lt h1
    refine xS.s1 rfl rfl ?_
    try dsimp only [Nat.reduceAdd]
    refine xS.s1 rfl rfl ?_
    try dsimp only [Nat.reduceAdd, xi_3]
    refine xS.br (c := .ge) (off := 7) (l := 3) rfl rfl (fun h6 => ?_) (fun h6 => ?_)
    · have g6 := xt_ge h6
      refine xS.s1 rfl rfl ?_
      try dsimp only [Nat.reduceAdd, xi_0]
      refine xS.ret rfl rfl rfl (fun _ _ => rfl) ?_
      exact ⟨rfl, by split <;> first | rfl | (exfalso; simp only [Int32.le_iff_toInt_le, Int32.lt_iff_toInt_lt, Int32.reduceToInt] at *; omega)⟩
    · have g6 := xf_ge h6
      refine xS.s1 rfl rfl ?_
      try dsimp only [Nat.reduceAdd, xi_1]
      refine xS.s1 rfl rfl ?_
      try dsimp only [Nat.reduceAdd]
      refine xS.ret rfl rfl rfl (fun _ _ => rfl) ?_
      exact ⟨rfl, by split <;> first | rfl | (exfalso; simp only [Int32.le_iff_toInt_le, Int32.lt_iff_toInt_lt, Int32.reduceToInt] at *; omega)⟩

theorem c_X11_isRow_in (ht : t < 6) : xT (k + 1) 123 [.int (nI t)] (xH b g l) (fun r M' => M' = xH b g l ∧ r = some (.int 1)) := by
  refine (c_X11_isRow).weak (fun r M' h => ⟨h.1, ?_⟩)
  rw [h.2, if_pos ⟨nI_pos' (by omega), nI_lt (b := 6) ht (by omega)⟩]

theorem c_X11_isText_in (ht : t < 4) : xT (k + 1) 124 [.int (nI t)] (xH b g l) (fun r M' => M' = xH b g l ∧ r = some (.int 1)) := by
  refine (c_X11_isText).weak (fun r M' h => ⟨h.1, ?_⟩)
  rw [h.2, if_pos ⟨nI_pos' (by omega), nI_lt (b := 4) ht (by omega)⟩]

theorem c_X11_isKept_in (ht : t < 3) : xT (k + 1) 125 [.int (nI t)] (xH b g l) (fun r M' => M' = xH b g l ∧ r = some (.int 1)) := by
  refine (c_X11_isKept).weak (fun r M' h => ⟨h.1, ?_⟩)
  rw [h.2, if_pos ⟨nI_pos' (by omega), nI_lt (b := 3) ht (by omega)⟩]

set_option maxRecDepth 10000 in
theorem c_X11_isGlass (hb : xro b.1) : xT (k + 2) 127 [.ref 0, .int x] (xH b g l) (fun r M' => M' = xH b g l ∧ r = some (.int (if 0 ≤ x ∧ x < g b.1 2 then 1 else 0))) := by
  refine xT.of rfl (Nat.le_of_ble_eq_true rfl) ?_
  dsimp only [lv_args]
  refine xS.s1 rfl rfl ?_
  try dsimp only [Nat.reduceAdd]
  refine xS.br0 (c := .lt) (off := 18) (l := 3) rfl rfl (fun h1 => ?_) (fun h1 => ?_)
  · have g1 := xt_lt h1
    refine xS.s1 rfl rfl ?_
    try dsimp only [Nat.reduceAdd, xi_0]
    refine xS.ret rfl rfl rfl (fun _ _ => rfl) ?_
    exact ⟨rfl, by split <;> first | rfl | (exfalso; simp only [Int32.le_iff_toInt_le, Int32.lt_iff_toInt_lt, Int32.reduceToInt] at *; omega)⟩
  · have g1 := xf_lt h1
    refine xS.s1 rfl rfl ?_
    try dsimp only [Nat.reduceAdd]
    refine xS.s1 rfl rfl ?_
    try dsimp only [Nat.reduceAdd]
    refine xS.gR rfl rfl rfl ⟨by decide, rfl⟩ rfl ?_
    try dsimp only [Nat.reduceAdd]
    -- 9 yX8_glasses
    refine xS.cv rfl rfl rfl (hb.1 _) rfl rfl ⟨by decide, rfl, rfl⟩ (c_X8_glasses hb) (fun v M1 hv => ?_)
    rw [hv.1, hv.2]
    clear hv M1 v
    try dsimp only [Nat.reduceAdd, Option.toList, List.cons_append, List.nil_append, List.drop]
    refine xS.br (c := .ge) (off := 7) (l := 3) rfl rfl (fun h12 => ?_) (fun h12 => ?_)
    · have g12 := xt_ge h12
      refine xS.s1 rfl rfl ?_
      try dsimp only [Nat.reduceAdd, xi_0]
      refine xS.ret rfl rfl rfl (fun _ _ => rfl) ?_
      exact ⟨rfl, by split <;> first | rfl | (exfalso; simp only [Int32.le_iff_toInt_le, Int32.lt_iff_toInt_lt, Int32.reduceToInt] at *; omega)⟩
    · have g12 := xf_ge h12
      refine xS.s1 rfl rfl ?_
      try dsimp only [Nat.reduceAdd, xi_1]
      refine xS.s1 rfl rfl ?_
      try dsimp only [Nat.reduceAdd]
      refine xS.ret rfl rfl rfl (fun _ _ => rfl) ?_
      exact ⟨rfl, by split <;> first | rfl | (exfalso; simp only [Int32.le_iff_toInt_le, Int32.lt_iff_toInt_lt, Int32.reduceToInt] at *; omega)⟩

theorem c_X11_isGlass_in (hb : xro b.1) (hR : xRm g b.1 G T Lw) (ht : t < G) : xT (k + 2) 127 [.ref 0, .int (nI t)] (xH b g l) (fun r M' => M' = xH b g l ∧ r = some (.int 1)) := by
  refine (c_X11_isGlass hb).weak (fun r M' h => ⟨h.1, ?_⟩)
  have := hR.1.2
  rw [h.2, hR.1.1, if_pos ⟨nI_pos' (by omega), nI_lt ht (by omega)⟩]

set_option maxRecDepth 10000 in
theorem c_X11_findingOfPlace (hC : xce a n) : xT (k + 2) 128 [.ref a, .int i] (xH b g l) (fun r M' => M' = xH b g l ∧ r = some (.int (if g a 1 = -1 then 1 else if 0 ≤ i ∧ i < g a 1 ∧ i < nI n then 0 else 2))) := by
  refine xT.of rfl (Nat.le_of_ble_eq_true rfl) ?_
  dsimp only [lv_args]
  refine xS.s1 rfl rfl ?_
  try dsimp only [Nat.reduceAdd]
  -- 1 yX0_isMissing
  refine xS.cv rfl rfl rfl (hC.1 _) rfl rfl ⟨by decide, rfl, rfl⟩ (c_X0_isMissing hC) (fun v M1 hv => ?_)
  rw [hv.1, hv.2]
  clear hv M1 v
  try dsimp only [Nat.reduceAdd, Option.toList, List.cons_append, List.nil_append, List.drop]
  refine xS.br0 (c := .eq) (off := 5) (l := 3) rfl rfl (fun h4 => ?_) (fun h4 => ?_)
  · have g4 := xt_eq h4
    refine xS.s1 rfl rfl ?_
    try dsimp only [Nat.reduceAdd]
    refine xS.s1 rfl rfl ?_
    try dsimp only [Nat.reduceAdd]
    -- 11 yX0_has
    refine xS.cv rfl rfl rfl (hC.1 _) rfl rfl ⟨by decide, rfl, rfl⟩ (c_X0_has hC) (fun v M1 hv => ?_)
    rw [hv.1, hv.2]
    clear hv M1 v
    try dsimp only [Nat.reduceAdd, Option.toList, List.cons_append, List.nil_append, List.drop]
    refine xS.br0 (c := .eq) (off := 7) (l := 3) rfl rfl (fun h14 => ?_) (fun h14 => ?_)
    · have g14 := xt_eq h14
      refine xS.s1 rfl rfl ?_
      try dsimp only [Nat.reduceAdd, xi_2]
      refine xS.ret rfl rfl rfl (fun _ _ => rfl) ?_
      refine ⟨rfl, ?_⟩
      first | (rw [if_neg (xif0 g4), if_neg (xif0 g14)]; done) | (rw [if_neg (xif0 g4), if_pos (xif1 g14)]; done)
    · have g14 := xf_eq h14
      refine xS.s1 rfl rfl ?_
      try dsimp only [Nat.reduceAdd, xi_0]
      refine xS.s1 rfl rfl ?_
      try dsimp only [Nat.reduceAdd]
      refine xS.ret rfl rfl rfl (fun _ _ => rfl) ?_
      refine ⟨rfl, ?_⟩
      first | (rw [if_neg (xif0 g4), if_neg (xif0 g14)]; done) | (rw [if_neg (xif0 g4), if_pos (xif1 g14)]; done)
  · have g4 := xf_eq h4
    refine xS.s1 rfl rfl ?_
    try dsimp only [Nat.reduceAdd, xi_1]
    refine xS.ret rfl rfl rfl (fun _ _ => rfl) ?_
    refine ⟨rfl, ?_⟩
    rw [if_pos (xif1 g4)]

set_option maxRecDepth 10000 in
theorem c_X11_findingOfSteps (hC : xce a n) (hz : xsz (g a 1) n) (ht : t < 2 ^ 31) : xT (k + 3) 129 [.ref a, .int (nI t)] (xH b g l) (fun r M' => M' = xH b g l ∧ r = some (.int (nI (xfos (g a 1) (g (a + 1)) t)))) := by
  refine xT.of rfl (Nat.le_of_ble_eq_true rfl) ?_
  dsimp only [lv_args]
  refine xS.s1 rfl rfl ?_
  try dsimp only [Nat.reduceAdd]
  -- 1 yX0_isMissing
  refine xS.cv rfl rfl rfl (hC.1 _) rfl rfl ⟨by decide, rfl, rfl⟩ (c_X0_isMissing hC) (fun v M1 hv => ?_)
  rw [hv.1, hv.2]
  clear hv M1 v
  try dsimp only [Nat.reduceAdd, Option.toList, List.cons_append, List.nil_append, List.drop]
  refine xS.br0 (c := .eq) (off := 5) (l := 3) rfl rfl (fun h4 => ?_) (fun h4 => ?_)
  · have g4 := xt_eq h4
    refine xS.s1 rfl rfl ?_
    try dsimp only [Nat.reduceAdd]
    -- 10 yX0_size
    refine xS.cv rfl rfl rfl (hC.1 _) rfl rfl ⟨by decide, rfl, rfl⟩ (c_X0_size hC) (fun v M1 hv => ?_)
    rw [hv.1, hv.2]
    clear hv M1 v
    try dsimp only [Nat.reduceAdd, Option.toList, List.cons_append, List.nil_append, List.drop]
    refine xS.s1 rfl rfl ?_
    try dsimp only [Nat.reduceAdd]
    refine xS.br (c := .le) (off := 5) (l := 3) rfl rfl (fun h14 => ?_) (fun h14 => ?_)
    · have g14 := xt_le h14
      obtain ⟨m, hm, hs⟩ : ∃ m, m ≤ n ∧ g a 1 = nI m := by
        rcases hz with h | h
        · exact absurd h (xif0 g4)
        · exact h
      have hn := xn31 hC.2
      refine xS.s1 rfl rfl ?_
      try dsimp only [Nat.reduceAdd, xi_0]
      refine xS.s1 rfl rfl ?_
      try dsimp only [Nat.reduceAdd]
      refine xS.pick [0, 1] rfl ?_
      refine xS.loop (σ := Unit) (m) (fun j S => [(2, .int (nI j)), (0, .ref a)]) (fun _ _ => xH b g l) (fun j _ => xfst (xnst (g (a + 1))) j = none) (()) (rfl) (rfl) (rfl) ?_
      intro j S hj hI ih
      try dsimp only
      refine xS.s1 rfl rfl ?_
      try dsimp only [Nat.reduceAdd]
      refine xS.s1 rfl rfl ?_
      try dsimp only [Nat.reduceAdd]
      -- 23 yX0_size
      refine xS.cv rfl rfl rfl (hC.1 _) rfl rfl ⟨by decide, rfl, rfl⟩ (c_X0_size hC) (fun v M1 hv => ?_)
      rw [hv.1, hv.2]
      clear hv M1 v
      try dsimp only [Nat.reduceAdd, Option.toList, List.cons_append, List.nil_append, List.drop]
      refine xS.br (c := .ge) (off := 22) (l := 3) rfl rfl (fun h26 => ?_) (fun h26 => ?_)
      · have g26 := xt_ge h26
        rw [hs] at g26
        refine xS.s1 rfl rfl ?_
        try dsimp only [Nat.reduceAdd, xi_0]
        refine xS.ret rfl rfl rfl (fun _ _ => rfl) ?_
        refine ⟨rfl, ?_⟩
        unfold xfos
        have e := xnle g26 (by omega) (by omega)
        rw [if_neg (xif0 g4), if_neg (Int32.not_lt.mpr g14), hs, xN_nI (by omega), show m = j by omega, hI]
        rfl
      · have g26 := xf_ge h26
        rw [hs] at g26
        have hlt := xnlt g26 (by omega) (by omega)
        refine xS.s1 rfl rfl ?_
        try dsimp only [Nat.reduceAdd]
        refine xS.s1 rfl rfl ?_
        try dsimp only [Nat.reduceAdd]
        -- 31 yX0_get
        refine xS.cv rfl rfl rfl (hC.1 _) rfl rfl ⟨by decide, rfl, rfl⟩ (c_X0_get hC hs hm hlt) (fun v M1 hv => ?_)
        rw [hv.1, hv.2]
        clear hv M1 v
        try dsimp only [Nat.reduceAdd, Option.toList, List.cons_append, List.nil_append, List.drop]
        -- 34 yX11_isStep
        refine xS.callS rfl rfl rfl ⟨Nat.le_of_ble_eq_true rfl, rfl⟩ c_X11_isStep (fun v M1 hv => ?_)
        rw [hv.1, hv.2]
        clear hv M1 v
        try dsimp only [Nat.reduceAdd, Option.toList, List.cons_append, List.nil_append, List.drop]
        refine xS.br0 (c := .ne) (off := 5) (l := 3) rfl rfl (fun h37 => ?_) (fun h37 => ?_)
        · have g37 := xt_ne h37
          refine xS.s1 rfl rfl ?_
          try dsimp only [Nat.reduceAdd, xi_1]
          rw [nI_1]
          refine xS.s1 rfl rfl ?_
          try dsimp only [Nat.reduceAdd]
          refine xS.pick [0, 1] rfl ?_
          exact ih () (by omega) (xfst_n hI (by simp [xnst, xif1 g37]))
        · have g37 := xf_ne h37
          refine xS.s1 rfl rfl ?_
          try dsimp only [Nat.reduceAdd, xi_3]
          refine xS.ret rfl rfl rfl (fun _ _ => rfl) ?_
          refine ⟨rfl, ?_⟩
          unfold xfos
          rw [if_neg (xif0 g4), if_neg (Int32.not_lt.mpr g14), hs, xN_nI (by omega), xfst_at hI (by simp [xnst, xif0 g37]) hlt]
          rfl
    · have g14 := xf_le h14
      refine xS.s1 rfl rfl ?_
      try dsimp only [Nat.reduceAdd, xi_5]
      refine xS.ret rfl rfl rfl (fun _ _ => rfl) ?_
      refine ⟨rfl, ?_⟩
      unfold xfos
      rw [if_neg (xif0 g4), if_pos g14]
      rfl
  · have g4 := xf_eq h4
    refine xS.s1 rfl rfl ?_
    try dsimp only [Nat.reduceAdd, xi_1]
    refine xS.ret rfl rfl rfl (fun _ _ => rfl) ?_
    refine ⟨rfl, ?_⟩
    unfold xfos
    rw [if_pos (xif1 g4)]
    rfl


set_option maxRecDepth 10000 in
theorem c_X11_paneOf (hb : xro b.1) (hR : xRm g b.1 G T Lw) (ht : t < G) : xT (k + 2) 132 [.ref 0, .int (nI t)] (xH b g l) (fun r M' => M' = xH b g l ∧ r = some (.ref (43 + Lw t))) := by
  refine xT.of rfl (Nat.le_of_ble_eq_true rfl) ?_
  dsimp only [lv_args]
  refine xS.s1 rfl rfl ?_
  try dsimp only [Nat.reduceAdd]
  refine xS.gR rfl rfl rfl ⟨by decide, rfl⟩ rfl ?_
  try dsimp only [Nat.reduceAdd]
  refine xS.s1 rfl rfl ?_
  try dsimp only [Nat.reduceAdd]
  -- 5 yX8_lawOf
  refine xS.cv rfl rfl rfl (hb.1 _) rfl rfl ⟨by decide, rfl, rfl⟩ (c_X8_lawOf hb hR.1.1 hR.1.2 ht) (fun v M1 hv => ?_)
  rw [hv.1, hv.2, (hR.2.2.1 t ht).1]
  clear hv M1 v
  have hL := (hR.2.2.1 t ht).2
  try dsimp only [Nat.reduceAdd, Option.toList, List.cons_append, List.nil_append, List.drop]
  refine xS.s1 rfl rfl ?_
  try dsimp only [Nat.reduceAdd]
  refine xS.s1 rfl rfl ?_
  try dsimp only [Nat.reduceAdd]
  refine xS.br0 (c := .lt) (off := 18) (l := 3) rfl rfl (fun h10 => ?_) (fun h10 => ?_)
  · have g10 := xt_lt h10
    exact absurd g10 (nI_pos (by omega))
  · have g10 := xf_lt h10
    refine xS.s1 rfl rfl ?_
    try dsimp only [Nat.reduceAdd]
    refine xS.s1 rfl rfl ?_
    try dsimp only [Nat.reduceAdd, xj_24]
    refine xS.br (c := .ge) (off := 12) (l := 3) rfl rfl (fun h16 => ?_) (fun h16 => ?_)
    · have g16 := xt_ge h16
      exfalso; have := (nI_leI (a := 24) (b := Lw t) (by omega) (by omega)).mp g16; omega
    · have g16 := xf_ge h16
      refine xS.s1 rfl rfl ?_
      try dsimp only [Nat.reduceAdd]
      refine xS.gR rfl rfl rfl ⟨by decide, rfl⟩ rfl ?_
      try dsimp only [Nat.reduceAdd]
      refine xS.s1 rfl rfl ?_
      try dsimp only [Nat.reduceAdd]
      refine xS.aR rfl rfl (by decide) (by omega) (xsh3_get (by omega)) ?_
      try dsimp only [Nat.reduceAdd]
      refine xS.s1 rfl rfl ?_
      try dsimp only [Nat.reduceAdd]
      refine xS.ret rfl rfl rfl (fun _ _ => rfl) ?_
      exact ⟨rfl, rfl⟩

end
