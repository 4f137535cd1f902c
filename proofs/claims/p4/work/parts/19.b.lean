section
/-! LimpMirror: the small private methods -/
def xRm (g : Nat → Nat → Int32) (a G T : Nat) (Lw : Nat → Nat) : Prop := (g a 2 = nI G ∧ G ≤ 6) ∧ (g a 4 = nI T ∧ T ≤ 8) ∧ (∀ k, k < G → g (a + 2) k = nI (Lw k) ∧ Lw k < 24) ∧ (∀ s, s < 6 → xstp (g (a + 1) s))
theorem xsrc_le {κ δ i s : Nat} (h : xsrc κ δ i = some s) : s ≤ i := by
  unfold xsrc at h
  repeat' split at h
  all_goals first | (cases h; done) | (cases h; omega)
def xfC (g : Nat → Nat → Int32) (t : Nat) : Nat → Nat → Int32 := up (up g 0 14 (nI t)) 22 t (g 22 t + 1)
def xnst (f : Nat → Int32) : Nat → Bool := fun i => !decide (0 ≤ f i ∧ f i < 6)
def xfos (S : Int32) (f : Nat → Int32) (most : Nat) : Nat := if S = -1 then 1 else if nI most < S then 5 else if xfst (xnst f) (xN S) = none then 0 else 3
def xfop (S : Int32) (f : Nat → Int32) (S' : Int32) (f' : Nat → Int32) (most : Nat) : Nat := if xfos S f most ≠ 0 then xfos S f most else if xfos S' f' most ≠ 0 then xfos S' f' most else if S = S' then 0 else 5
def xsz (x : Int32) (n : Nat) : Prop := x = -1 ∨ ∃ m, m ≤ n ∧ x = nI m
theorem nI_nm1 {m : Nat} (h : m < 2 ^ 31) : ¬ nI m = -1 := fun z => absurd ((nI_toInt h).symm.trans (congrArg Int32.toInt z)) (by have : (-1 : Int32).toInt = -1 := rfl; omega)
theorem xstp_iff {x : Int32} : xstp x ↔ 0 ≤ x ∧ x < 6 := by
  constructor
  · rintro ⟨v, h1, rfl⟩
    exact ⟨nI_pos' (by omega), nI_lt (b := 6) h1 (by omega)⟩
  · rintro ⟨h1, h2⟩
    obtain ⟨j, hj, rfl⟩ := nI_of (x := x) (Int32.not_lt.mpr h1)
    exact ⟨j, (nI_ltI (b := 6) hj (by omega)).mp h2, rfl⟩
theorem xfst_none {p : Nat → Bool} : ∀ {n : Nat}, xfst p n = none ↔ ∀ i, i < n → p i = false
  | 0 => ⟨fun _ i h => absurd h (by omega), fun _ => rfl⟩
  | n + 1 => by
    rw [xfst_s]
    constructor
    · intro h i hi
      cases e : xfst p n with
      | some d => rw [e] at h; cases h
      | none =>
        rw [e] at h
        have h1 := xfst_none.mp e
        rcases Nat.lt_or_ge i n with h2 | h2
        · exact h1 i h2
        · have : i = n := by omega
          subst this
          cases hp : p i with
          | true => rw [hp] at h; cases h
          | false => rfl
    · intro h
      rw [xfst_none.mpr (fun i hi => h i (by omega)), h n (by omega)]
      rfl
theorem xfos_0 {S : Int32} {f : Nat → Int32} {most n : Nat} (hz : xsz S n) (hn : n < 2 ^ 31) (hm : most < 2 ^ 31) (h : xfos S f most = 0) : ∃ m, S = nI m ∧ m ≤ most ∧ m ≤ n ∧ ∀ i, i < m → xstp (f i) := by
  unfold xfos at h
  split at h
  · cases h
  · rename_i h1
    rcases hz with h2 | ⟨m, h2, rfl⟩
    · exact absurd h2 h1
    · split at h
      · cases h
      · rename_i h3
        split at h
        · rename_i h4
          rw [xN_nI (by omega)] at h4
          rw [nI_ltI hm (by omega)] at h3
          refine ⟨m, rfl, by omega, h2, fun i hi => ?_⟩
          have := xfst_none.mp h4 i hi
          unfold xnst at this
          exact xstp_iff.mpr (by simpa using this)
        · cases h
theorem xfos_le (S : Int32) (f : Nat → Int32) (most : Nat) : xfos S f most ≤ 5 := by
  unfold xfos
  repeat' split
  all_goals omega
theorem xfop_le (S : Int32) (f : Nat → Int32) (S' : Int32) (f' : Nat → Int32) (most : Nat) : xfop S f S' f' most ≤ 5 := by
  unfold xfop
  have h1 := xfos_le S f most
  have h2 := xfos_le S' f' most
  repeat' split
  all_goals omega
theorem xfop_0 {S S' : Int32} {f f' : Nat → Int32} {most : Nat} (h : xfop S f S' f' most = 0) : xfos S f most = 0 ∧ xfos S' f' most = 0 ∧ S = S' := by
  unfold xfop at h
  repeat' split at h
  all_goals first | (exfalso; omega) | skip
  · rename_i h1 h2 h3
    exact ⟨by omega, by omega, h3⟩

section
variable {k a c n n2 m t p s d i1 j1 : Nat} {b : Nat × Nat} {g : Nat → Nat → Int32} {l : Nat → Nat → Int64} {i j x y z v w : Int32} {u w1 w2 : Int64}
variable {L G T : Nat} {Lw : Nat → Nat}
set_option maxRecDepth 10000 in
theorem c_X11_refuse (ht1 : 1 ≤ t) (ht : t ≤ 5) : xT (k + 1) 122 [.ref 0, .int (nI t)] (xH b g l) (fun r M' => M' = xH b (xfC g t) l ∧ r = some (.int (-3))) := by
  refine xT.of rfl (Nat.le_of_ble_eq_true rfl) ?_
  dsimp only [lv_args]
  refine xS.s1 rfl rfl ?_
  try dsimp only [Nat.reduceAdd]
  refine xS.s1 rfl rfl ?_
  try dsimp only [Nat.reduceAdd]
  refine xS.pI rfl rfl rfl ⟨⟨by decide, rfl⟩, rfl, by decide, by decide⟩ rfl ?_
  try dsimp only [Nat.reduceAdd]
  refine xS.s1 rfl rfl ?_
  try dsimp only [Nat.reduceAdd]
  refine xS.s1 rfl rfl ?_
  try dsimp only [Nat.reduceAdd, xi_1]
  refine xS.br (c := .lt) (off := 18) (l := 3) rfl rfl (fun h7 => ?_) (fun h7 => ?_)
  · have g7 := xt_lt h7
    exfalso; have := (nI_ltI (a := t) (b := 1) (by omega) (by omega)).mp g7; omega
  · have g7 := xf_lt h7
    refine xS.s1 rfl rfl ?_
    try dsimp only [Nat.reduceAdd]
    refine xS.s1 rfl rfl ?_
    try dsimp only [Nat.reduceAdd, xi_5]
    refine xS.br (c := .gt) (off := 13) (l := 3) rfl rfl (fun h12 => ?_) (fun h12 => ?_)
    · have g12 := xt_gt h12
      exfalso; have := (nI_ltI (a := 5) (b := t) (by omega) (by omega)).mp g12; omega
    · have g12 := xf_gt h12
      refine xS.s1 rfl rfl ?_
      try dsimp only [Nat.reduceAdd]
      refine xS.gR rfl rfl rfl ⟨by decide, rfl⟩ rfl ?_
      try dsimp only [Nat.reduceAdd]
      refine xS.s1 rfl rfl ?_
      try dsimp only [Nat.reduceAdd]
      refine xS.s1 rfl rfl ?_
      try dsimp only [Nat.reduceAdd]
      refine xS.ia rfl xar_22 (by omega) ?_
      try dsimp only [Nat.reduceAdd]
      rw [up_ne (Or.inl (by decide))]
      refine xS.s1 rfl rfl ?_
      try dsimp only [Nat.reduceAdd, xi_1]
      refine xS.s1 rfl rfl ?_
      try dsimp only [Nat.reduceAdd]
      refine xS.ias rfl xar_22 (by omega) ?_
      try dsimp only [Nat.reduceAdd]
      refine xS.s1 rfl rfl ?_
      try dsimp only [Nat.reduceAdd, xj_m3]
      refine xS.ret rfl rfl rfl (fun _ _ => rfl) ?_
      exact ⟨rfl, rfl⟩

set_option maxRecDepth 10000 in
theorem c_X11_isRow  : xT (k + 1) 123 [.int x] (xH b g l) (fun r M' => M' = xH b g l ∧ r = some (.int (if 0 ≤ x ∧ x < 6 then 1 else 0))) := by
  refine xT.of rfl (Nat.le_of_ble_eq_true rfl) ?_
  dsimp only [lv_args]
  refine xS.s1 rfl rfl ?_
  try dsimp only [Nat.reduceAdd]
  refine xS.br0 (c := .lt) (off := 13) (l := 3) rfl rfl (fun h1 => ?_) (fun h1 => ?_)
  · have g1 := xt_lt h1
    refine xS.s1 rfl rfl ?_
    try dsimp only [Nat.reduceAdd, xi_0]
    refine xS.ret rfl rfl rfl (fun _ _ => rfl) ?_
    exact ⟨rfl, by split <;> first | rfl | (exfalso; simp only [Int32.le_iff_toInt_le, Int32.lt_iff_toInt_lt, Int32.reduceToInt] at *; omega)⟩
  · have g1 := xf_lt h1
    refine xS.s1 rfl rfl ?_
    try dsimp only [Nat.reduceAdd]
    refine xS.s1 rfl rfl ?_
    try dsimp only [Nat.reduceAdd, xj_6]
    refine xS.br (c := .ge) (off := 7) (l := 3) rfl rfl (fun h7 => ?_) (fun h7 => ?_)
    · have g7 := xt_ge h7
      refine xS.s1 rfl rfl ?_
      try dsimp only [Nat.reduceAdd, xi_0]
      refine xS.ret rfl rfl rfl (fun _ _ => rfl) ?_
      exact ⟨rfl, by split <;> first | rfl | (exfalso; simp only [Int32.le_iff_toInt_le, Int32.lt_iff_toInt_lt, Int32.reduceToInt] at *; omega)⟩
    · have g7 := xf_ge h7
      refine xS.s1 rfl rfl ?_
      try dsimp only [Nat.reduceAdd, xi_1]
      refine xS.s1 rfl rfl ?_
      try dsimp only [Nat.reduceAdd]
      refine xS.ret rfl rfl rfl (fun _ _ => rfl) ?_
      exact ⟨rfl, by split <;> first | rfl | (exfalso; simp only [Int32.le_iff_toInt_le, Int32.lt_iff_toInt_lt, Int32.reduceToInt] at *; omega)⟩

set_option maxRecDepth 10000 in
theorem c_X11_isText  : xT (k + 1) 124 [.int x] (xH b g l) (fun r M' => M' = xH b g l ∧ r = some (.int (if 0 ≤ x ∧ x < 4 then 1 else 0))) := by
  refine xT.of rfl (Nat.le_of_ble_eq_true rfl) ?_
  dsimp only [lv_args]
  refine xS.s1 rfl rfl ?_
  try dsimp only [Nat.reduceAdd]
  refine xS.br0 (c := .lt) (off := 12) (l := 3) rfl rfl (fun h1 => ?_) (fun h1 => ?_)
  · have g1 := xt_lt h1
    refine xS.s1 rfl rfl ?_
    try dsimp only [Nat.reduceAdd, xi_0]
    refine xS.ret rfl rfl rfl (fun _ _ => rfl) ?_
    exact ⟨rfl, by split <;> first | rfl | (exfalso; simp only [Int32.le_iff_toInt_le, Int32.lt_iff_toInt_lt, Int32.reduceToInt] at *; omega)⟩
  · have g1 := xf_lt h1
    refine xS.s1 rfl rfl ?_
    try dsimp only [Nat.reduceAdd]
    refine xS.s1 rfl rfl ?_
    try dsimp only [Nat.reduceAdd, xi_4]
    refine xS.br (c := .ge) (off := 7) (l := 3) rfl rfl (fun h6 => ?_) (fun h6 => ?_)
    · have g6 := xt_ge h6
      refine xS.s1 rfl rfl ?_
      try dsimp only [Nat.reduceAdd, xi_0]
      refine xS.ret rfl rfl rfl (fun _ _ => rfl) ?_
      exact ⟨rfl, by split <;> first | rfl | (exfalso; simp only [Int32.le_iff_toInt_le, Int32.lt_iff_toInt_lt, Int32.reduceToInt] at *; omega)⟩
    · have g6 := xf_ge h6
      refine xS.s1 rfl rfl ?_
      try dsimp only [Nat.reduceAdd, xi_1]
      refine xS.s1 rfl rfl ?_
      try dsimp only [Nat.reduceAdd]
      refine xS.ret rfl rfl rfl (fun _ _ => rfl) ?_
      exact ⟨rfl, by split <;> first | rfl | (exfalso; simp only [Int32.le_iff_toInt_le, Int32.lt_iff_toInt_lt, Int32.reduceToInt] at *; omega)⟩

set_option maxRecDepth 10000 in
theorem c_X11_isKept  : xT (k + 1) 125 [.int x] (xH b g l) (fun r M' => M' = xH b g l ∧ r = some (.int (if 0 ≤ x ∧ x < 3 then 1 else 0))) := by
  refine xT.of rfl (Nat.le_of_ble_eq_true rfl) ?_
  dsimp only [lv_args]
  refine xS.s1 rfl rfl ?_
  try dsimp only [Nat.reduceAdd]
  refine xS.br0 (c := .lt) (off := 12) (l := 3) rfl rfl (fun h1 => ?_) (fun h1 => ?_)
  · have g1 := xt_lt h1
    refine xS.s1 rfl rfl ?_
    try dsimp only [Nat.reduceAdd, xi_0]
    refine xS.ret rfl rfl rfl (fun _ _ => rfl) ?_
    exact ⟨rfl, by split <;> first | rfl | (exfalso; simp only [Int32.le_iff_toInt_le, Int32.lt_iff_toInt_lt, Int32.reduceToInt] at *; omega)⟩
  · have g1 := xf_lt h1
    refine xS.s1 rfl rfl ?_
    try dsimp only [Nat.reduceAdd]
    refine xS.s1 rfl rfl ?_
    try dsimp only [Nat.reduceAdd, xi_3]
    refine xS.br (c := .ge) (off := 7) (l := 3) rfl rfl (fun h6 => ?_) (fun h6 => ?_)
    · have g6 := xt_ge h6
      refine xS.s1 rfl rfl ?_
      try dsimp only [Nat.reduceAdd, xi_0]
      refine xS.ret rfl rfl rfl (fun _ _ => rfl) ?_
      exact ⟨rfl, by split <;> first | rfl | (exfalso; simp only [Int32.le_iff_toInt_le, Int32.lt_iff_toInt_lt, Int32.reduceToInt] at *; omega)⟩
    · have g6 := xf_ge h6
      refine xS.s1 rfl rfl ?_
      try dsimp only [Nat.reduceAdd, xi_1]
      refine xS.s1 rfl rfl ?_
      try dsimp only [Nat.reduceAdd]
      refine xS.ret rfl rfl rfl (fun _ _ => rfl) ?_
      exact ⟨rfl, by split <;> first | rfl | (exfalso; simp only [Int32.le_iff_toInt_le, Int32.lt_iff_toInt_lt, Int32.reduceToInt] at *; omega)⟩

theorem c_X11_isRow_in (ht : t < 6) : xT (k + 1) 123 [.int (nI t)] (xH b g l) (fun r M' => M' = xH b g l ∧ r = some (.int 1)) := by
  refine (c_X11_isRow).weak (fun r M' h => ⟨h.1, ?_⟩)
  rw [h.2, if_pos ⟨nI_pos' (by omega), nI_lt (b := 6) ht (by omega)⟩]

theorem c_X11_isText_in (ht : t < 4) : xT (k + 1) 124 [.int (nI t)] (xH b g l) (fun r M' => M' = xH b g l ∧ r = some (.int 1)) := by
  refine (c_X11_isText).weak (fun r M' h => ⟨h.1, ?_⟩)
  rw [h.2, if_pos ⟨nI_pos' (by omega), nI_lt (b := 4) ht (by omega)⟩]

theorem c_X11_isKept_in (ht : t < 3) : xT (k + 1) 125 [.int (nI t)] (xH b g l) (fun r M' => M' = xH b g l ∧ r = some (.int 1)) := by
  refine (c_X11_isKept).weak (fun r M' h => ⟨h.1, ?_⟩)
  rw [h.2, if_pos ⟨nI_pos' (by omega), nI_lt (b := 3) ht (by omega)⟩]

set_option maxRecDepth 10000 in
theorem c_X11_isGlass (hb : xro b.1) : xT (k + 2) 127 [.ref 0, .int x] (xH b g l) (fun r M' => M' = xH b g l ∧ r = some (.int (if 0 ≤ x ∧ x < g b.1 2 then 1 else 0))) := by
  refine xT.of rfl (Nat.le_of_ble_eq_true rfl) ?_
  dsimp only [lv_args]
  refine xS.s1 rfl rfl ?_
  try dsimp only [Nat.reduceAdd]
  refine xS.br0 (c := .lt) (off := 18) (l := 3) rfl rfl (fun h1 => ?_) (fun h1 => ?_)
  · have g1 := xt_lt h1
    refine xS.s1 rfl rfl ?_
    try dsimp only [Nat.reduceAdd, xi_0]
    refine xS.ret rfl rfl rfl (fun _ _ => rfl) ?_
    exact ⟨rfl, by split <;> first | rfl | (exfalso; simp only [Int32.le_iff_toInt_le, Int32.lt_iff_toInt_lt, Int32.reduceToInt] at *; omega)⟩
  · have g1 := xf_lt h1
    refine xS.s1 rfl rfl ?_
    try dsimp only [Nat.reduceAdd]
    refine xS.s1 rfl rfl ?_
    try dsimp only [Nat.reduceAdd]
    refine xS.gR rfl rfl rfl ⟨by decide, rfl⟩ rfl ?_
    try dsimp only [Nat.reduceAdd]
    -- 9 yX8_glasses
    refine xS.cv rfl rfl rfl (hb.1 _) rfl rfl ⟨by decide, rfl, rfl⟩ (c_X8_glasses hb) (fun v M1 hv => ?_)
    rw [hv.1, hv.2]
    clear hv M1 v
    try dsimp only [Nat.reduceAdd, Option.toList, List.cons_append, List.nil_append, List.drop]
    refine xS.br (c := .ge) (off := 7) (l := 3) rfl rfl (fun h12 => ?_) (fun h12 => ?_)
    · have g12 := xt_ge h12
      refine xS.s1 rfl rfl ?_
      try dsimp only [Nat.reduceAdd, xi_0]
      refine xS.ret rfl rfl rfl (fun _ _ => rfl) ?_
      exact ⟨rfl, by split <;> first | rfl | (exfalso; simp only [Int32.le_iff_toInt_le, Int32.lt_iff_toInt_lt, Int32.reduceToInt] at *; omega)⟩
    · have g12 := xf_ge h12
      refine xS.s1 rfl rfl ?_
      try dsimp only [Nat.reduceAdd, xi_1]
      refine xS.s1 rfl rfl ?_
      try dsimp only [Nat.reduceAdd]
      refine xS.ret rfl rfl rfl (fun _ _ => rfl) ?_
      exact ⟨rfl, by split <;> first | rfl | (exfalso; simp only [Int32.le_iff_toInt_le, Int32.lt_iff_toInt_lt, Int32.reduceToInt] at *; omega)⟩

theorem c_X11_isGlass_in (hb : xro b.1) (hR : xRm g b.1 G T Lw) (ht : t < G) : xT (k + 2) 127 [.ref 0, .int (nI t)] (xH b g l) (fun r M' => M' = xH b g l ∧ r = some (.int 1)) := by
  refine (c_X11_isGlass hb).weak (fun r M' h => ⟨h.1, ?_⟩)
  have := hR.1.2
  rw [h.2, hR.1.1, if_pos ⟨nI_pos' (by omega), nI_lt ht (by omega)⟩]

set_option maxRecDepth 10000 in
theorem c_X11_findingOfPlace (hC : xce a n) : xT (k + 2) 128 [.ref a, .int i] (xH b g l) (fun r M' => M' = xH b g l ∧ r = some (.int (if g a 1 = -1 then 1 else if 0 ≤ i ∧ i < g a 1 ∧ i < nI n then 0 else 2))) := by
  refine xT.of rfl (Nat.le_of_ble_eq_true rfl) ?_
  dsimp only [lv_args]
  refine xS.s1 rfl rfl ?_
  try dsimp only [Nat.reduceAdd]
  -- 1 yX0_isMissing
  refine xS.cv rfl rfl rfl (hC.1 _) rfl rfl ⟨by decide, rfl, rfl⟩ (c_X0_isMissing hC) (fun v M1 hv => ?_)
  rw [hv.1, hv.2]
  clear hv M1 v
  try dsimp only [Nat.reduceAdd, Option.toList, List.cons_append, List.nil_append, List.drop]
  refine xS.br0 (c := .eq) (off := 5) (l := 3) rfl rfl (fun h4 => ?_) (fun h4 => ?_)
  · have g4 := xt_eq h4
    refine xS.s1 rfl rfl ?_
    try dsimp only [Nat.reduceAdd]
    refine xS.s1 rfl rfl ?_
    try dsimp only [Nat.reduceAdd]
    -- 11 yX0_has
    refine xS.cv rfl rfl rfl (hC.1 _) rfl rfl ⟨by decide, rfl, rfl⟩ (c_X0_has hC) (fun v M1 hv => ?_)
    rw [hv.1, hv.2]
    clear hv M1 v
    try dsimp only [Nat.reduceAdd, Option.toList, List.cons_append, List.nil_append, List.drop]
    refine xS.br0 (c := .eq) (off := 7) (l := 3) rfl rfl (fun h14 => ?_) (fun h14 => ?_)
    · have g14 := xt_eq h14
      refine xS.s1 rfl rfl ?_
      try dsimp only [Nat.reduceAdd, xi_2]
      refine xS.ret rfl rfl rfl (fun _ _ => rfl) ?_
      refine ⟨rfl, ?_⟩
      first | (rw [if_neg (xif0 g4), if_neg (xif0 g14)]; done) | (rw [if_neg (xif0 g4), if_pos (xif1 g14)]; done)
    · have g14 := xf_eq h14
      refine xS.s1 rfl rfl ?_
      try dsimp only [Nat.reduceAdd, xi_0]
      refine xS.s1 rfl rfl ?_
      try dsimp only [Nat.reduceAdd]
      refine xS.ret rfl rfl rfl (fun _ _ => rfl) ?_
      refine ⟨rfl, ?_⟩
      first | (rw [if_neg (xif0 g4), if_neg (xif0 g14)]; done) | (rw [if_neg (xif0 g4), if_pos (xif1 g14)]; done)
  · have g4 := xf_eq h4
    refine xS.s1 rfl rfl ?_
    try dsimp only [Nat.reduceAdd, xi_1]
    refine xS.ret rfl rfl rfl (fun _ _ => rfl) ?_
    refine ⟨rfl, ?_⟩
    rw [if_pos (xif1 g4)]

set_option maxRecDepth 10000 in
theorem c_X11_findingOfSteps (hC : xce a n) (hz : xsz (g a 1) n) (ht : t < 2 ^ 31) : xT (k + 3) 129 [.ref a, .int (nI t)] (xH b g l) (fun r M' => M' = xH b g l ∧ r = some (.int (nI (xfos (g a 1) (g (a + 1)) t)))) := by
  refine xT.of rfl (Nat.le_of_ble_eq_true rfl) ?_
  dsimp only [lv_args]
  refine xS.s1 rfl rfl ?_
  try dsimp only [Nat.reduceAdd]
  -- 1 yX0_isMissing
  refine xS.cv rfl rfl rfl (hC.1 _) rfl rfl ⟨by decide, rfl, rfl⟩ (c_X0_isMissing hC) (fun v M1 hv => ?_)
  rw [hv.1, hv.2]
  clear hv M1 v
  try dsimp only [Nat.reduceAdd, Option.toList, List.cons_append, List.nil_append, List.drop]
  refine xS.br0 (c := .eq) (off := 5) (l := 3) rfl rfl (fun h4 => ?_) (fun h4 => ?_)
  · have g4 := xt_eq h4
    refine xS.s1 rfl rfl ?_
    try dsimp only [Nat.reduceAdd]
    -- 10 yX0_size
    refine xS.cv rfl rfl rfl (hC.1 _) rfl rfl ⟨by decide, rfl, rfl⟩ (c_X0_size hC) (fun v M1 hv => ?_)
    rw [hv.1, hv.2]
    clear hv M1 v
    try dsimp only [Nat.reduceAdd, Option.toList, List.cons_append, List.nil_append, List.drop]
    refine xS.s1 rfl rfl ?_
    try dsimp only [Nat.reduceAdd]
    refine xS.br (c := .le) (off := 5) (l := 3) rfl rfl (fun h14 => ?_) (fun h14 => ?_)
    · have g14 := xt_le h14
      obtain ⟨m, hm, hs⟩ : ∃ m, m ≤ n ∧ g a 1 = nI m := by
        rcases hz with h | h
        · exact absurd h (xif0 g4)
        · exact h
      have hn := xn31 hC.2
      refine xS.s1 rfl rfl ?_
      try dsimp only [Nat.reduceAdd, xi_0]
      refine xS.s1 rfl rfl ?_
      try dsimp only [Nat.reduceAdd]
      refine xS.pick [0, 1] rfl ?_
      refine xS.loop (σ := Unit) (m) (fun j S => [(2, .int (nI j)), (0, .ref a)]) (fun _ _ => xH b g l) (fun j _ => xfst (xnst (g (a + 1))) j = none) (()) (rfl) (rfl) (rfl) ?_
      intro j S hj hI ih
      try dsimp only
      refine xS.s1 rfl rfl ?_
      try dsimp only [Nat.reduceAdd]
      refine xS.s1 rfl rfl ?_
      try dsimp only [Nat.reduceAdd]
      -- 23 yX0_size
      refine xS.cv rfl rfl rfl (hC.1 _) rfl rfl ⟨by decide, rfl, rfl⟩ (c_X0_size hC) (fun v M1 hv => ?_)
      rw [hv.1, hv.2]
      clear hv M1 v
      try dsimp only [Nat.reduceAdd, Option.toList, List.cons_append, List.nil_append, List.drop]
      refine xS.br (c := .ge) (off := 22) (l := 3) rfl rfl (fun h26 => ?_) (fun h26 => ?_)
      · have g26 := xt_ge h26
        rw [hs] at g26
        refine xS.s1 rfl rfl ?_
        try dsimp only [Nat.reduceAdd, xi_0]
        refine xS.ret rfl rfl rfl (fun _ _ => rfl) ?_
        refine ⟨rfl, ?_⟩
        unfold xfos
        have e := xnle g26 (by omega) (by omega)
        rw [if_neg (xif0 g4), if_neg (Int32.not_lt.mpr g14), hs, xN_nI (by omega), show m = j by omega, hI]
        rfl
      · have g26 := xf_ge h26
        rw [hs] at g26
        have hlt := xnlt g26 (by omega) (by omega)
        refine xS.s1 rfl rfl ?_
        try dsimp only [Nat.reduceAdd]
        refine xS.s1 rfl rfl ?_
        try dsimp only [Nat.reduceAdd]
        -- 31 yX0_get
        refine xS.cv rfl rfl rfl (hC.1 _) rfl rfl ⟨by decide, rfl, rfl⟩ (c_X0_get hC hs hm hlt) (fun v M1 hv => ?_)
        rw [hv.1, hv.2]
        clear hv M1 v
        try dsimp only [Nat.reduceAdd, Option.toList, List.cons_append, List.nil_append, List.drop]
        -- 34 yX11_isStep
        refine xS.callS rfl rfl rfl ⟨Nat.le_of_ble_eq_true rfl, rfl⟩ c_X11_isStep (fun v M1 hv => ?_)
        rw [hv.1, hv.2]
        clear hv M1 v
        try dsimp only [Nat.reduceAdd, Option.toList, List.cons_append, List.nil_append, List.drop]
        refine xS.br0 (c := .ne) (off := 5) (l := 3) rfl rfl (fun h37 => ?_) (fun h37 => ?_)
        · have g37 := xt_ne h37
          refine xS.s1 rfl rfl ?_
          try dsimp only [Nat.reduceAdd, xi_1]
          rw [nI_1]
          refine xS.s1 rfl rfl ?_
          try dsimp only [Nat.reduceAdd]
          refine xS.pick [0, 1] rfl ?_
          exact ih () (by omega) (xfst_n hI (by simp [xnst, xif1 g37]))
        · have g37 := xf_ne h37
          refine xS.s1 rfl rfl ?_
          try dsimp only [Nat.reduceAdd, xi_3]
          refine xS.ret rfl rfl rfl (fun _ _ => rfl) ?_
          refine ⟨rfl, ?_⟩
          unfold xfos
          rw [if_neg (xif0 g4), if_neg (Int32.not_lt.mpr g14), hs, xN_nI (by omega), xfst_at hI (by simp [xnst, xif0 g37]) hlt]
          rfl
    · have g14 := xf_le h14
      refine xS.s1 rfl rfl ?_
      try dsimp only [Nat.reduceAdd, xi_5]
      refine xS.ret rfl rfl rfl (fun _ _ => rfl) ?_
      refine ⟨rfl, ?_⟩
      unfold xfos
      rw [if_neg (xif0 g4), if_pos g14]
      rfl
  · have g4 := xf_eq h4
    refine xS.s1 rfl rfl ?_
    try dsimp only [Nat.reduceAdd, xi_1]
    refine xS.ret rfl rfl rfl (fun _ _ => rfl) ?_
    refine ⟨rfl, ?_⟩
    unfold xfos
    rw [if_pos (xif1 g4)]
    rfl


set_option maxRecDepth 10000 in
theorem c_X11_paneOf (hb : xro b.1) (hR : xRm g b.1 G T Lw) (ht : t < G) : xT (k + 2) 132 [.ref 0, .int (nI t)] (xH b g l) (fun r M' => M' = xH b g l ∧ r = some (.ref (43 + Lw t))) := by
  refine xT.of rfl (Nat.le_of_ble_eq_true rfl) ?_
  dsimp only [lv_args]
  refine xS.s1 rfl rfl ?_
  try dsimp only [Nat.reduceAdd]
  refine xS.gR rfl rfl rfl ⟨by decide, rfl⟩ rfl ?_
  try dsimp only [Nat.reduceAdd]
  refine xS.s1 rfl rfl ?_
  try dsimp only [Nat.reduceAdd]
  -- 5 yX8_lawOf
  refine xS.cv rfl rfl rfl (hb.1 _) rfl rfl ⟨by decide, rfl, rfl⟩ (c_X8_lawOf hb hR.1.1 hR.1.2 ht) (fun v M1 hv => ?_)
  rw [hv.1, hv.2, (hR.2.2.1 t ht).1]
  clear hv M1 v
  have hL := (hR.2.2.1 t ht).2
  try dsimp only [Nat.reduceAdd, Option.toList, List.cons_append, List.nil_append, List.drop]
  refine xS.s1 rfl rfl ?_
  try dsimp only [Nat.reduceAdd]
  refine xS.s1 rfl rfl ?_
  try dsimp only [Nat.reduceAdd]
  refine xS.br0 (c := .lt) (off := 18) (l := 3) rfl rfl (fun h10 => ?_) (fun h10 => ?_)
  · have g10 := xt_lt h10
    exact absurd g10 (nI_pos (by omega))
  · have g10 := xf_lt h10
    refine xS.s1 rfl rfl ?_
    try dsimp only [Nat.reduceAdd]
    refine xS.s1 rfl rfl ?_
    try dsimp only [Nat.reduceAdd, xj_24]
    refine xS.br (c := .ge) (off := 12) (l := 3) rfl rfl (fun h16 => ?_) (fun h16 => ?_)
    · have g16 := xt_ge h16
      exfalso; have := (nI_leI (a := 24) (b := Lw t) (by omega) (by omega)).mp g16; omega
    · have g16 := xf_ge h16
      refine xS.s1 rfl rfl ?_
      try dsimp only [Nat.reduceAdd]
      refine xS.gR rfl rfl rfl ⟨by decide, rfl⟩ rfl ?_
      try dsimp only [Nat.reduceAdd]
      refine xS.s1 rfl rfl ?_
      try dsimp only [Nat.reduceAdd]
      refine xS.aR rfl rfl (by decide) (by omega) (xsh3_get (by omega)) ?_
      try dsimp only [Nat.reduceAdd]
      refine xS.s1 rfl rfl ?_
      try dsimp only [Nat.reduceAdd]
      refine xS.ret rfl rfl rfl (fun _ _ => rfl) ?_
      exact ⟨rfl, rfl⟩

end
end
section
/-! LimpMirror: private methods with loops -/
section
variable {k a c n n2 m t p s d i1 j1 : Nat} {b : Nat × Nat} {g : Nat → Nat → Int32} {l : Nat → Nat → Int64} {i j x y z v w : Int32} {u w1 w2 : Int64}
variable {L G T : Nat} {Lw : Nat → Nat}
set_option maxRecDepth 10000 in
theorem c_X11_findingOfPair (hC : xce a n) (hz : xsz (g a 1) n) (hF : xce c n2) (hz2 : xsz (g c 1) n2) (ht : t < 2 ^ 31) : xT (k + 4) 130 [.ref a, .ref c, .int (nI t)] (xH b g l) (fun r M' => M' = xH b g l ∧ r = some (.int (nI (xfop (g a 1) (g (a + 1)) (g c 1) (g (c + 1)) t)))) := by
  refine xT.of rfl (Nat.le_of_ble_eq_true rfl) ?_
  dsimp only [lv_args]
  refine xS.s1 rfl rfl ?_
  try dsimp only [Nat.reduceAdd]
  refine xS.s1 rfl rfl ?_
  try dsimp only [Nat.reduceAdd]
  -- 2 yX11_findingOfSteps
  refine xS.callS rfl rfl rfl ⟨Nat.le_of_ble_eq_true rfl, rfl⟩ (c_X11_findingOfSteps hC hz ht) (fun v M1 hv => ?_)
  rw [hv.1, hv.2]
  clear hv M1 v
  try dsimp only [Nat.reduceAdd, Option.toList, List.cons_append, List.nil_append, List.drop]
  refine xS.s1 rfl rfl ?_
  try dsimp only [Nat.reduceAdd]
  refine xS.s1 rfl rfl ?_
  try dsimp only [Nat.reduceAdd]
  refine xS.br0 (c := .ne) (off := 9) (l := 3) rfl rfl (fun h7 => ?_) (fun h7 => ?_)
  · have g7 := xt_ne h7
    refine xS.s1 rfl rfl ?_
    try dsimp only [Nat.reduceAdd]
    refine xS.br0 (c := .ne) (off := 16) (l := 3) rfl rfl (fun h17 => ?_) (fun h17 => ?_)
    · have g17 := xt_ne h17
      refine xS.s1 rfl rfl ?_
      try dsimp only [Nat.reduceAdd]
      refine xS.ret rfl rfl rfl (fun _ _ => rfl) ?_
      refine ⟨rfl, ?_⟩
      unfold xfop
      have l1 := xfos_le (g a 1) (g (a + 1)) t
      have l2 := xfos_le (g c 1) (g (c + 1)) t
      have e7 : xfos (g a 1) (g (a + 1)) t ≠ 0 := fun z => g7 (by rw [z]; rfl)
      rw [if_pos e7]
    · have g17 := xf_ne h17
      refine xS.s1 rfl rfl ?_
      try dsimp only [Nat.reduceAdd]
      -- 21 yX0_size
      refine xS.cv rfl rfl rfl (hC.1 _) rfl rfl ⟨by decide, rfl, rfl⟩ (c_X0_size hC) (fun v M1 hv => ?_)
      rw [hv.1, hv.2]
      clear hv M1 v
      try dsimp only [Nat.reduceAdd, Option.toList, List.cons_append, List.nil_append, List.drop]
      refine xS.s1 rfl rfl ?_
      try dsimp only [Nat.reduceAdd]
      -- 25 yX0_size
      refine xS.cv rfl rfl rfl (hF.1 _) rfl rfl ⟨by decide, rfl, rfl⟩ (c_X0_size hF) (fun v M1 hv => ?_)
      rw [hv.1, hv.2]
      clear hv M1 v
      try dsimp only [Nat.reduceAdd, Option.toList, List.cons_append, List.nil_append, List.drop]
      refine xS.br (c := .eq) (off := 5) (l := 3) rfl rfl (fun h28 => ?_) (fun h28 => ?_)
      · have g28 := xt_eq h28
        refine xS.s1 rfl rfl ?_
        try dsimp only [Nat.reduceAdd]
        refine xS.ret rfl rfl rfl (fun _ _ => rfl) ?_
        exact absurd g17 g7
      · have g28 := xf_eq h28
        refine xS.s1 rfl rfl ?_
        try dsimp only [Nat.reduceAdd, xi_5]
        refine xS.s1 rfl rfl ?_
        try dsimp only [Nat.reduceAdd]
        refine xS.s1 rfl rfl ?_
        try dsimp only [Nat.reduceAdd]
        refine xS.ret rfl rfl rfl (fun _ _ => rfl) ?_
        exact absurd g17 g7
  · have g7 := xf_ne h7
    refine xS.s1 rfl rfl ?_
    try dsimp only [Nat.reduceAdd]
    refine xS.s1 rfl rfl ?_
    try dsimp only [Nat.reduceAdd]
    -- 12 yX11_findingOfSteps
    refine xS.callS rfl rfl rfl ⟨Nat.le_of_ble_eq_true rfl, rfl⟩ (c_X11_findingOfSteps hF hz2 ht) (fun v M1 hv => ?_)
    rw [hv.1, hv.2]
    clear hv M1 v
    try dsimp only [Nat.reduceAdd, Option.toList, List.cons_append, List.nil_append, List.drop]
    refine xS.s1 rfl rfl ?_
    try dsimp only [Nat.reduceAdd]
    refine xS.s1 rfl rfl ?_
    try dsimp only [Nat.reduceAdd]
    refine xS.br0 (c := .ne) (off := 16) (l := 3) rfl rfl (fun h17 => ?_) (fun h17 => ?_)
    · have g17 := xt_ne h17
      refine xS.s1 rfl rfl ?_
      try dsimp only [Nat.reduceAdd]
      refine xS.ret rfl rfl rfl (fun _ _ => rfl) ?_
      refine ⟨rfl, ?_⟩
      unfold xfop
      have l1 := xfos_le (g a 1) (g (a + 1)) t
      have l2 := xfos_le (g c 1) (g (c + 1)) t
      have e7 : xfos (g a 1) (g (a + 1)) t = 0 := (nI_eq (b := 0) (by omega) (by omega)).mp g7
      rw [if_neg (by omega)]
      have e17 : xfos (g c 1) (g (c + 1)) t ≠ 0 := fun z => g17 (by rw [z]; rfl)
      rw [if_pos e17]
    · have g17 := xf_ne h17
      refine xS.s1 rfl rfl ?_
      try dsimp only [Nat.reduceAdd]
      -- 21 yX0_size
      refine xS.cv rfl rfl rfl (hC.1 _) rfl rfl ⟨by decide, rfl, rfl⟩ (c_X0_size hC) (fun v M1 hv => ?_)
      rw [hv.1, hv.2]
      clear hv M1 v
      try dsimp only [Nat.reduceAdd, Option.toList, List.cons_append, List.nil_append, List.drop]
      refine xS.s1 rfl rfl ?_
      try dsimp only [Nat.reduceAdd]
      -- 25 yX0_size
      refine xS.cv rfl rfl rfl (hF.1 _) rfl rfl ⟨by decide, rfl, rfl⟩ (c_X0_size hF) (fun v M1 hv => ?_)
      rw [hv.1, hv.2]
      clear hv M1 v
      try dsimp only [Nat.reduceAdd, Option.toList, List.cons_append, List.nil_append, List.drop]
      refine xS.br (c := .eq) (off := 5) (l := 3) rfl rfl (fun h28 => ?_) (fun h28 => ?_)
      · have g28 := xt_eq h28
        refine xS.s1 rfl rfl ?_
        try dsimp only [Nat.reduceAdd]
        refine xS.ret rfl rfl rfl (fun _ _ => rfl) ?_
        refine ⟨rfl, ?_⟩
        unfold xfop
        have l1 := xfos_le (g a 1) (g (a + 1)) t
        have l2 := xfos_le (g c 1) (g (c + 1)) t
        have e7 : xfos (g a 1) (g (a + 1)) t = 0 := (nI_eq (b := 0) (by omega) (by omega)).mp g7
        rw [if_neg (by omega)]
        have e17 : xfos (g c 1) (g (c + 1)) t = 0 := (nI_eq (b := 0) (by omega) (by omega)).mp g17
        rw [if_neg (by omega)]
        rw [if_pos g28, e17]
      · have g28 := xf_eq h28
        refine xS.s1 rfl rfl ?_
        try dsimp only [Nat.reduceAdd, xi_5]
        refine xS.s1 rfl rfl ?_
        try dsimp only [Nat.reduceAdd]
        refine xS.s1 rfl rfl ?_
        try dsimp only [Nat.reduceAdd]
        refine xS.ret rfl rfl rfl (fun _ _ => rfl) ?_
        refine ⟨rfl, ?_⟩
        unfold xfop
        have l1 := xfos_le (g a 1) (g (a + 1)) t
        have l2 := xfos_le (g c 1) (g (c + 1)) t
        have e7 : xfos (g a 1) (g (a + 1)) t = 0 := (nI_eq (b := 0) (by omega) (by omega)).mp g7
        rw [if_neg (by omega)]
        have e17 : xfos (g c 1) (g (c + 1)) t = 0 := (nI_eq (b := 0) (by omega) (by omega)).mp g17
        rw [if_neg (by omega)]
        rw [if_neg g28]
        rfl

set_option maxRecDepth 10000 in
theorem c_X11_glassFact_0 (hb : xro b.1) (hR : xRm g b.1 G T Lw) (hp : xpn g) (hs : g 4 1 = nI m) (hm : m ≤ 40) (hk : s < G) : xT (k + 3) 133 [.ref 0, .int (nI s), .int (nI 0)] (xH b g l) (fun r M' => M' = xH b g l ∧ r = some (.int (nI (Lw s / 4)))) := by
  refine xT.of rfl (Nat.le_of_ble_eq_true rfl) ?_
  dsimp only [lv_args]
  refine xS.s1 rfl rfl ?_
  try dsimp only [Nat.reduceAdd]
  refine xS.s1 rfl rfl ?_
  try dsimp only [Nat.reduceAdd]
  refine xS.s1 rfl rfl ?_
  try dsimp only [Nat.reduceAdd]
  refine xS.s1 rfl rfl ?_
  try dsimp only [Nat.reduceAdd]
  -- 30 yX11_paneOf
  refine xS.cv rfl rfl rfl rfl rfl rfl ⟨by decide, rfl, rfl⟩ (c_X11_paneOf hb hR hk) (fun v M1 hv => ?_)
  rw [hv.1, hv.2]
  clear hv M1 v
  try dsimp only [Nat.reduceAdd, Option.toList, List.cons_append, List.nil_append, List.drop]
  refine xS.cKind rfl rfl hp (hR.2.2.1 s hk).2 rfl ?_
  try dsimp only [Nat.reduceAdd]
  refine xS.ret rfl rfl rfl (fun _ _ => rfl) ?_
  exact ⟨rfl, rfl⟩

set_option maxRecDepth 10000 in
theorem c_X11_glassFact_1 (hb : xro b.1) (hR : xRm g b.1 G T Lw) (hp : xpn g) (hs : g 4 1 = nI m) (hm : m ≤ 40) (hk : s < G) : xT (k + 3) 133 [.ref 0, .int (nI s), .int (nI 1)] (xH b g l) (fun r M' => M' = xH b g l ∧ r = some (.int (nI (Lw s % 4)))) := by
  refine xT.of rfl (Nat.le_of_ble_eq_true rfl) ?_
  dsimp only [lv_args]
  refine xS.s1 rfl rfl ?_
  try dsimp only [Nat.reduceAdd]
  refine xS.s1 rfl rfl ?_
  try dsimp only [Nat.reduceAdd]
  refine xS.s1 rfl rfl ?_
  try dsimp only [Nat.reduceAdd]
  refine xS.s1 rfl rfl ?_
  try dsimp only [Nat.reduceAdd]
  -- 39 yX11_paneOf
  refine xS.cv rfl rfl rfl rfl rfl rfl ⟨by decide, rfl, rfl⟩ (c_X11_paneOf hb hR hk) (fun v M1 hv => ?_)
  rw [hv.1, hv.2]
  clear hv M1 v
  try dsimp only [Nat.reduceAdd, Option.toList, List.cons_append, List.nil_append, List.drop]
  refine xS.cDelay rfl rfl hp (hR.2.2.1 s hk).2 rfl ?_
  try dsimp only [Nat.reduceAdd]
  refine xS.ret rfl rfl rfl (fun _ _ => rfl) ?_
  exact ⟨rfl, rfl⟩

set_option maxRecDepth 10000 in
theorem c_X11_glassFact_2 (hb : xro b.1) (hR : xRm g b.1 G T Lw) (hp : xpn g) (hs : g 4 1 = nI m) (hm : m ≤ 40) (hk : s < G) : xT (k + 3) 133 [.ref 0, .int (nI s), .int (nI 2)] (xH b g l) (fun r M' => M' = xH b g l ∧ r = some (.int (nI (xcnt (fun d => decide (g 5 (4 * d + 1) = nI s)) m)))) := by
  refine xT.of rfl (Nat.le_of_ble_eq_true rfl) ?_
  dsimp only [lv_args]
  refine xS.s1 rfl rfl ?_
  try dsimp only [Nat.reduceAdd]
  refine xS.s1 rfl rfl ?_
  try dsimp only [Nat.reduceAdd]
  refine xS.s1 rfl rfl ?_
  try dsimp only [Nat.reduceAdd]
  refine xS.gR rfl rfl rfl ⟨by decide, rfl⟩ rfl ?_
  try dsimp only [Nat.reduceAdd]
  refine xS.s1 rfl rfl ?_
  try dsimp only [Nat.reduceAdd]
  -- 51 yX2_howManyBefore
  refine xS.cv rfl rfl rfl (xde_deeds.1 _) rfl rfl ⟨by decide, rfl, rfl⟩ (c_X2_howManyBefore xde_deeds hs hm) (fun v M1 hv => ?_)
  rw [hv.1, hv.2]
  clear hv M1 v
  try dsimp only [Nat.reduceAdd, Option.toList, List.cons_append, List.nil_append, List.drop]
  refine xS.ret rfl rfl rfl (fun _ _ => rfl) ?_
  exact ⟨rfl, rfl⟩

set_option maxRecDepth 10000 in
theorem c_X11_glassFact_3 (hb : xro b.1) (hR : xRm g b.1 G T Lw) (hp : xpn g) (hs : g 4 1 = nI m) (hm : m ≤ 40) (hk : s < G) : xT (k + 3) 133 [.ref 0, .int (nI s), .int (nI 3)] (xH b g l) (fun r M' => M' = xH b g l ∧ r = some (.int (nI (xcnt (fun d => decide (g 5 (4 * d + 1) = nI s) && !decide (g 5 (4 * d + 3) = -9)) m)))) := by
  refine xT.of rfl (Nat.le_of_ble_eq_true rfl) ?_
  dsimp only [lv_args]
  refine xS.s1 rfl rfl ?_
  try dsimp only [Nat.reduceAdd]
  refine xS.s1 rfl rfl ?_
  try dsimp only [Nat.reduceAdd]
  refine xS.s1 rfl rfl ?_
  try dsimp only [Nat.reduceAdd]
  refine xS.gR rfl rfl rfl ⟨by decide, rfl⟩ rfl ?_
  try dsimp only [Nat.reduceAdd]
  refine xS.s1 rfl rfl ?_
  try dsimp only [Nat.reduceAdd]
  -- 60 yX2_howManyBrokeBefore
  refine xS.cv rfl rfl rfl (xde_deeds.1 _) rfl rfl ⟨by decide, rfl, rfl⟩ (c_X2_howManyBrokeBefore xde_deeds hs hm) (fun v M1 hv => ?_)
  rw [hv.1, hv.2]
  clear hv M1 v
  try dsimp only [Nat.reduceAdd, Option.toList, List.cons_append, List.nil_append, List.drop]
  refine xS.ret rfl rfl rfl (fun _ _ => rfl) ?_
  exact ⟨rfl, rfl⟩

def xgf (g : Nat → Nat → Int32) (Lw : Nat → Nat) (m s w : Nat) : Int32 := if w = 0 then nI (Lw s / 4) else if w = 1 then nI (Lw s % 4) else if w = 2 then nI (xcnt (fun d => decide (g 5 (4 * d + 1) = nI s)) m) else nI (xcnt (fun d => decide (g 5 (4 * d + 1) = nI s) && !decide (g 5 (4 * d + 3) = -9)) m)
theorem c_X11_glassFact (hb : xro b.1) (hR : xRm g b.1 G T Lw) (hp : xpn g) (hs : g 4 1 = nI m) (hm : m ≤ 40) (hk : s < G) : ∀ {t : Nat}, t < 4 → xT (k + 3) 133 [.ref 0, .int (nI s), .int (nI t)] (xH b g l) (fun r M' => M' = xH b g l ∧ r = some (.int (xgf g Lw m s t)))
  | 0, _ => c_X11_glassFact_0 hb hR hp hs hm hk
  | 1, _ => c_X11_glassFact_1 hb hR hp hs hm hk
  | 2, _ => c_X11_glassFact_2 hb hR hp hs hm hk
  | 3, _ => c_X11_glassFact_3 hb hR hp hs hm hk
  | _ + 4, h => absurd h (by omega)

set_option maxRecDepth 10000 in
theorem c_X11_noughtsAtDeeds (hb : xro b.1) (hR : xRm g b.1 G T Lw) (hp : xpn g) (hs : g 4 1 = nI m) (hm : m ≤ 40) (hx : ∀ i, i < m → xstp (g 5 (4 * i))) (hL : L < 24) : xT (k + 5) 134 [.ref 0, .ref (43 + L)] (xH b g l) (fun r M' => M' = xH b g l ∧ r = some (.int (nI (xcnt (fun i => decide (xshw (g (b.1 + 1)) (L / 4) (L % 4) (fun i => xN (g 5 (4 * i))) i = 0)) m)))) := by
  refine xT.of rfl (Nat.le_of_ble_eq_true rfl) ?_
  dsimp only [lv_args]
  refine xS.s1 rfl rfl ?_
  try dsimp only [Nat.reduceAdd, xi_0]
  refine xS.s1 rfl rfl ?_
  try dsimp only [Nat.reduceAdd]
  refine xS.s1 rfl rfl ?_
  try dsimp only [Nat.reduceAdd, xi_0]
  refine xS.s1 rfl rfl ?_
  try dsimp only [Nat.reduceAdd]
  refine xS.pick [0, 1, 2, 3] rfl ?_
  refine xS.loop (σ := Unit) (m) (fun j S => [(3, .int (nI j)), (2, .int (nI (xcnt (fun i => decide (xshw (g (b.1 + 1)) (L / 4) (L % 4) (fun i => xN (g 5 (4 * i))) i = 0)) j))), (0, .ref 0), (1, .ref (43 + L))]) (fun _ _ => xH b g l) (fun _ _ => True) (()) (rfl) (rfl) (trivial) ?_
  intro j S hj hI ih
  try dsimp only
  refine xS.s1 rfl rfl ?_
  try dsimp only [Nat.reduceAdd]
  refine xS.s1 rfl rfl ?_
  try dsimp only [Nat.reduceAdd]
  refine xS.gR rfl rfl rfl ⟨by decide, rfl⟩ rfl ?_
  try dsimp only [Nat.reduceAdd]
  -- 9 yX2_size
  refine xS.cv rfl rfl rfl (xde_deeds.1 _) rfl rfl ⟨by decide, rfl, rfl⟩ (c_X2_size xde_deeds) (fun v M1 hv => ?_)
  rw [hv.1, hv.2]
  clear hv M1 v
  try dsimp only [Nat.reduceAdd, Option.toList, List.cons_append, List.nil_append, List.drop]
  refine xS.br (c := .ge) (off := 28) (l := 3) rfl rfl (fun h12 => ?_) (fun h12 => ?_)
  · have g12 := xt_ge h12
    refine xS.s1 rfl rfl ?_
    try dsimp only [Nat.reduceAdd]
    refine xS.ret rfl rfl rfl (fun _ _ => rfl) ?_
    rw [hs] at g12
    have e := xnle g12 (by omega) (by omega)
    rw [show m = j by omega]
    exact ⟨rfl, rfl⟩
  · have g12 := xf_ge h12
    rw [hs] at g12
    have hlt := xnlt g12 (by omega) (by omega)
    refine xS.s1 rfl rfl ?_
    try dsimp only [Nat.reduceAdd]
    refine xS.gR rfl rfl rfl ⟨by decide, rfl⟩ rfl ?_
    try dsimp only [Nat.reduceAdd]
    refine xS.s1 rfl rfl ?_
    try dsimp only [Nat.reduceAdd]
    refine xS.s1 rfl rfl ?_
    try dsimp only [Nat.reduceAdd]
    refine xS.gR rfl rfl rfl ⟨by decide, rfl⟩ rfl ?_
    try dsimp only [Nat.reduceAdd]
    refine xS.s1 rfl rfl ?_
    try dsimp only [Nat.reduceAdd]
    -- 25 yX8_shown
    refine xS.cv rfl rfl rfl (hb.1 _) rfl rfl ⟨by decide, rfl, rfl⟩ (c_X8_shown_D hb xde_deeds hp hL (by omega) hs hm (fun s h => ⟨Nat.lt_of_le_of_lt (xsrc_le h) hlt, hx s (Nat.lt_of_le_of_lt (xsrc_le h) hlt)⟩)) (fun v M1 hv => ?_)
    rw [hv.1, hv.2]
    clear hv M1 v
    try dsimp only [Nat.reduceAdd, Option.toList, List.cons_append, List.nil_append, List.drop]
    refine xS.br0 (c := .ne) (off := 6) (l := 3) rfl rfl (fun h28 => ?_) (fun h28 => ?_)
    · have g28 := xt_ne h28
      refine xS.s1 rfl rfl ?_
      try dsimp only [Nat.reduceAdd, xi_1]
      rw [nI_1]
      refine xS.s1 rfl rfl ?_
      try dsimp only [Nat.reduceAdd]
      refine xS.pick [0, 1, 2, 3] rfl ?_
      have ih2 := ih () (by omega) trivial
      first | (rw [show xcnt (fun i => decide (xshw (g (b.1 + 1)) (L / 4) (L % 4) (fun i => xN (g 5 (4 * i))) i = 0)) (j + 1) = xcnt (fun i => decide (xshw (g (b.1 + 1)) (L / 4) (L % 4) (fun i => xN (g 5 (4 * i))) i = 0)) j from by simp [xcnt_s, g12, g28]] at ih2; exact ih2) | (rw [show xcnt (fun i => decide (xshw (g (b.1 + 1)) (L / 4) (L % 4) (fun i => xN (g 5 (4 * i))) i = 0)) (j + 1) = xcnt (fun i => decide (xshw (g (b.1 + 1)) (L / 4) (L % 4) (fun i => xN (g 5 (4 * i))) i = 0)) j + 1 from by simp [xcnt_s, g12, g28]] at ih2; exact ih2)
    · have g28 := xf_ne h28
      refine xS.s1 rfl rfl ?_
      try dsimp only [Nat.reduceAdd, xi_1]
      rw [nI_1]
      refine xS.s1 rfl rfl ?_
      try dsimp only [Nat.reduceAdd, xi_1]
      rw [nI_1]
      refine xS.s1 rfl rfl ?_
      try dsimp only [Nat.reduceAdd]
      refine xS.pick [0, 1, 2, 3] rfl ?_
      have ih2 := ih () (by omega) trivial
      first | (rw [show xcnt (fun i => decide (xshw (g (b.1 + 1)) (L / 4) (L % 4) (fun i => xN (g 5 (4 * i))) i = 0)) (j + 1) = xcnt (fun i => decide (xshw (g (b.1 + 1)) (L / 4) (L % 4) (fun i => xN (g 5 (4 * i))) i = 0)) j from by simp [xcnt_s, g12, g28]] at ih2; exact ih2) | (rw [show xcnt (fun i => decide (xshw (g (b.1 + 1)) (L / 4) (L % 4) (fun i => xN (g 5 (4 * i))) i = 0)) (j + 1) = xcnt (fun i => decide (xshw (g (b.1 + 1)) (L / 4) (L % 4) (fun i => xN (g 5 (4 * i))) i = 0)) j + 1 from by simp [xcnt_s, g12, g28]] at ih2; exact ih2)

set_option maxRecDepth 10000 in
theorem c_X11_glassesOf (hb : xro b.1) (hR : xRm g b.1 G T Lw) (hp : xpn g) : xT (k + 3) 136 [.ref 0, .int x] (xH b g l) (fun r M' => M' = xH b g l ∧ r = some (.int (nI (xcnt (fun k => xiso (Lw k / 4) x) G)))) := by
  refine xT.of rfl (Nat.le_of_ble_eq_true rfl) ?_
  dsimp only [lv_args]
  refine xS.s1 rfl rfl ?_
  try dsimp only [Nat.reduceAdd, xi_0]
  refine xS.s1 rfl rfl ?_
  try dsimp only [Nat.reduceAdd]
  refine xS.s1 rfl rfl ?_
  try dsimp only [Nat.reduceAdd, xi_0]
  refine xS.s1 rfl rfl ?_
  try dsimp only [Nat.reduceAdd]
  refine xS.pick [0, 1, 2, 3] rfl ?_
  refine xS.loop (σ := Unit) (G) (fun j S => [(3, .int (nI j)), (2, .int (nI (xcnt (fun k => xiso (Lw k / 4) x) j))), (0, .ref 0), (1, .int x)]) (fun _ _ => xH b g l) (fun _ _ => True) (()) (rfl) (rfl) (trivial) ?_
  intro j S hj hI ih
  try dsimp only
  refine xS.s1 rfl rfl ?_
  try dsimp only [Nat.reduceAdd]
  refine xS.s1 rfl rfl ?_
  try dsimp only [Nat.reduceAdd]
  refine xS.gR rfl rfl rfl ⟨by decide, rfl⟩ rfl ?_
  try dsimp only [Nat.reduceAdd]
  -- 9 yX8_glasses
  refine xS.cv rfl rfl rfl (hb.1 _) rfl rfl ⟨by decide, rfl, rfl⟩ (c_X8_glasses hb) (fun v M1 hv => ?_)
  rw [hv.1, hv.2]
  clear hv M1 v
  try dsimp only [Nat.reduceAdd, Option.toList, List.cons_append, List.nil_append, List.drop]
  refine xS.br (c := .ge) (off := 24) (l := 3) rfl rfl (fun h12 => ?_) (fun h12 => ?_)
  · have g12 := xt_ge h12
    refine xS.s1 rfl rfl ?_
    try dsimp only [Nat.reduceAdd]
    refine xS.ret rfl rfl rfl (fun _ _ => rfl) ?_
    have h6 := hR.1.2
    rw [hR.1.1] at g12
    have e := xnle g12 (by omega) (by omega)
    rw [show G = j by omega]
    exact ⟨rfl, rfl⟩
  · have g12 := xf_ge h12
    have h6 := hR.1.2
    rw [hR.1.1] at g12
    have hlt := xnlt g12 (by omega) (by omega)
    refine xS.s1 rfl rfl ?_
    try dsimp only [Nat.reduceAdd]
    refine xS.s1 rfl rfl ?_
    try dsimp only [Nat.reduceAdd]
    -- 17 yX11_paneOf
    refine xS.cv rfl rfl rfl rfl rfl rfl ⟨by decide, rfl, rfl⟩ (c_X11_paneOf hb hR hlt) (fun v M1 hv => ?_)
    rw [hv.1, hv.2]
    clear hv M1 v
    try dsimp only [Nat.reduceAdd, Option.toList, List.cons_append, List.nil_append, List.drop]
    refine xS.s1 rfl rfl ?_
    try dsimp only [Nat.reduceAdd]
    refine xS.cIso rfl rfl hp (hR.2.2.1 j hlt).2 rfl ?_
    try dsimp only [Nat.reduceAdd]
    refine xS.br0 (c := .eq) (off := 6) (l := 3) rfl rfl (fun h24 => ?_) (fun h24 => ?_)
    · have g24 := xt_eq h24
      have e24 := xif0 g24
      refine xS.s1 rfl rfl ?_
      try dsimp only [Nat.reduceAdd, xi_1]
      rw [nI_1]
      refine xS.s1 rfl rfl ?_
      try dsimp only [Nat.reduceAdd]
      refine xS.pick [0, 1, 2, 3] rfl ?_
      have ih2 := ih () (by omega) trivial
      first | (rw [show xcnt (fun k => xiso (Lw k / 4) x) (j + 1) = xcnt (fun k => xiso (Lw k / 4) x) j from by simp [xcnt_s, e24]] at ih2; exact ih2) | (rw [show xcnt (fun k => xiso (Lw k / 4) x) (j + 1) = xcnt (fun k => xiso (Lw k / 4) x) j + 1 from by simp [xcnt_s, e24]] at ih2; exact ih2)
    · have g24 := xf_eq h24
      have e24 := xif1 g24
      refine xS.s1 rfl rfl ?_
      try dsimp only [Nat.reduceAdd, xi_1]
      rw [nI_1]
      refine xS.s1 rfl rfl ?_
      try dsimp only [Nat.reduceAdd, xi_1]
      rw [nI_1]
      refine xS.s1 rfl rfl ?_
      try dsimp only [Nat.reduceAdd]
      refine xS.pick [0, 1, 2, 3] rfl ?_
      have ih2 := ih () (by omega) trivial
      first | (rw [show xcnt (fun k => xiso (Lw k / 4) x) (j + 1) = xcnt (fun k => xiso (Lw k / 4) x) j from by simp [xcnt_s, e24]] at ih2; exact ih2) | (rw [show xcnt (fun k => xiso (Lw k / 4) x) (j + 1) = xcnt (fun k => xiso (Lw k / 4) x) j + 1 from by simp [xcnt_s, e24]] at ih2; exact ih2)

set_option maxRecDepth 10000 in
theorem c_X11_keptOnes  : xT (k + 2) 137 [.ref 0] (xH b g l) (fun r M' => M' = xH b g l ∧ r = some (.int (nI (xcnt (fun k => !decide (g (67 + 2 * k) 1 = -1)) 3)))) := by
  refine xT.of rfl (Nat.le_of_ble_eq_true rfl) ?_
  dsimp only [lv_args]
  refine xS.s1 rfl rfl ?_
  try dsimp only [Nat.reduceAdd, xi_0]
  refine xS.s1 rfl rfl ?_
  try dsimp only [Nat.reduceAdd]
  refine xS.s1 rfl rfl ?_
  try dsimp only [Nat.reduceAdd, xi_0]
  refine xS.s1 rfl rfl ?_
  try dsimp only [Nat.reduceAdd]
  refine xS.pick [0, 1, 2] rfl ?_
  refine xS.loop (σ := Unit) (3) (fun j S => [(2, .int (nI j)), (1, .int (nI (xcnt (fun k => !decide (g (67 + 2 * k) 1 = -1)) j))), (0, .ref 0)]) (fun _ _ => xH b g l) (fun _ _ => True) (()) (rfl) (rfl) (trivial) ?_
  intro j S hj hI ih
  try dsimp only
  refine xS.s1 rfl rfl ?_
  try dsimp only [Nat.reduceAdd]
  refine xS.s1 rfl rfl ?_
  try dsimp only [Nat.reduceAdd, xi_3]
  refine xS.br (c := .ge) (off := 24) (l := 3) rfl rfl (fun h6 => ?_) (fun h6 => ?_)
  · have g6 := xt_ge h6
    refine xS.s1 rfl rfl ?_
    try dsimp only [Nat.reduceAdd]
    refine xS.ret rfl rfl rfl (fun _ _ => rfl) ?_
    have e := xnle (b := 3) g6 (by omega) (by omega)
    rw [show 3 = j by omega]
    exact ⟨rfl, rfl⟩
  · have g6 := xf_ge h6
    have hlt := xnlt (b := 3) g6 (by omega) (by omega)
    refine xS.s1 rfl rfl ?_
    try dsimp only [Nat.reduceAdd]
    refine xS.gR rfl rfl rfl ⟨by decide, rfl⟩ rfl ?_
    try dsimp only [Nat.reduceAdd]
    refine xS.s1 rfl rfl ?_
    try dsimp only [Nat.reduceAdd]
    refine xS.aR rfl rfl (by decide) (by omega) (xsh6_get (by omega)) ?_
    try dsimp only [Nat.reduceAdd]
    -- 15 yX2_isMissing
    refine xS.cv rfl rfl rfl ((xde_kept (r := j) (by omega)).1 _) rfl rfl ⟨by decide, rfl, rfl⟩ (c_X2_isMissing (xde_kept (r := j) (by omega))) (fun v M1 hv => ?_)
    rw [hv.1, hv.2]
    clear hv M1 v
    try dsimp only [Nat.reduceAdd, Option.toList, List.cons_append, List.nil_append, List.drop]
    refine xS.br0 (c := .ne) (off := 6) (l := 3) rfl rfl (fun h18 => ?_) (fun h18 => ?_)
    · have g18 := xt_ne h18
      have e18 := xif1 g18
      refine xS.s1 rfl rfl ?_
      try dsimp only [Nat.reduceAdd, xi_1]
      rw [nI_1]
      refine xS.s1 rfl rfl ?_
      try dsimp only [Nat.reduceAdd]
      refine xS.pick [0, 1, 2] rfl ?_
      have ih2 := ih () (by omega) trivial
      first | (rw [show xcnt (fun k => !decide (g (67 + 2 * k) 1 = -1)) (j + 1) = xcnt (fun k => !decide (g (67 + 2 * k) 1 = -1)) j from by simp [xcnt_s, e18]] at ih2; exact ih2) | (rw [show xcnt (fun k => !decide (g (67 + 2 * k) 1 = -1)) (j + 1) = xcnt (fun k => !decide (g (67 + 2 * k) 1 = -1)) j + 1 from by simp [xcnt_s, e18]] at ih2; exact ih2)
    · have g18 := xf_ne h18
      have e18 := xif0 g18
      refine xS.s1 rfl rfl ?_
      try dsimp only [Nat.reduceAdd, xi_1]
      rw [nI_1]
      refine xS.s1 rfl rfl ?_
      try dsimp only [Nat.reduceAdd, xi_1]
      rw [nI_1]
      refine xS.s1 rfl rfl ?_
      try dsimp only [Nat.reduceAdd]
      refine xS.pick [0, 1, 2] rfl ?_
      have ih2 := ih () (by omega) trivial
      first | (rw [show xcnt (fun k => !decide (g (67 + 2 * k) 1 = -1)) (j + 1) = xcnt (fun k => !decide (g (67 + 2 * k) 1 = -1)) j from by simp [xcnt_s, e18]] at ih2; exact ih2) | (rw [show xcnt (fun k => !decide (g (67 + 2 * k) 1 = -1)) (j + 1) = xcnt (fun k => !decide (g (67 + 2 * k) 1 = -1)) j + 1 from by simp [xcnt_s, e18]] at ih2; exact ih2)

set_option maxRecDepth 10000 in
theorem c_X11_howManyThere_rows  : xT (k + 2) 138 [.ref 1] (xH b g l) (fun r M' => M' = xH b g l ∧ r = some (.int (nI (xcnt (fun k => !decide (g (23 + 2 * k) 1 = -1)) 6)))) := by
  refine xT.of rfl (Nat.le_of_ble_eq_true rfl) ?_
  dsimp only [lv_args]
  refine xS.s1 rfl rfl ?_
  try dsimp only [Nat.reduceAdd, xi_0]
  refine xS.s1 rfl rfl ?_
  try dsimp only [Nat.reduceAdd]
  refine xS.s1 rfl rfl ?_
  try dsimp only [Nat.reduceAdd, xi_0]
  refine xS.s1 rfl rfl ?_
  try dsimp only [Nat.reduceAdd]
  refine xS.pick [0, 1, 2] rfl ?_
  refine xS.loop (σ := Unit) (6) (fun j S => [(2, .int (nI j)), (1, .int (nI (xcnt (fun k => !decide (g (23 + 2 * k) 1 = -1)) j))), (0, .ref 1)]) (fun _ _ => xH b g l) (fun _ _ => True) (()) (rfl) (rfl) (trivial) ?_
  intro j S hj hI ih
  try dsimp only
  refine xS.s1 rfl rfl ?_
  try dsimp only [Nat.reduceAdd]
  refine xS.s1 rfl rfl ?_
  try dsimp only [Nat.reduceAdd]
  refine xS.alo rfl rfl (by decide) rfl ?_
  try dsimp only [Nat.reduceAdd]
  refine xS.br (c := .ge) (off := 21) (l := 3) rfl rfl (fun h7 => ?_) (fun h7 => ?_)
  · have g7 := xt_ge h7
    refine xS.s1 rfl rfl ?_
    try dsimp only [Nat.reduceAdd]
    refine xS.ret rfl rfl rfl (fun _ _ => rfl) ?_
    have e := xnle (b := 6) g7 (by omega) (by omega)
    rw [show 6 = j by omega]
    exact ⟨rfl, rfl⟩
  · have g7 := xf_ge h7
    have hlt := xnlt (b := 6) g7 (by omega) (by omega)
    refine xS.s1 rfl rfl ?_
    try dsimp only [Nat.reduceAdd]
    refine xS.s1 rfl rfl ?_
    try dsimp only [Nat.reduceAdd]
    refine xS.aR rfl rfl (by decide) (by omega) (xsh1_get (by omega)) ?_
    try dsimp only [Nat.reduceAdd]
    -- 13 yX0_isMissing
    refine xS.cv rfl rfl rfl ((xce_row (r := j) (by omega)).1 _) rfl rfl ⟨by decide, rfl, rfl⟩ (c_X0_isMissing (xce_row (r := j) (by omega))) (fun v M1 hv => ?_)
    rw [hv.1, hv.2]
    clear hv M1 v
    try dsimp only [Nat.reduceAdd, Option.toList, List.cons_append, List.nil_append, List.drop]
    refine xS.br0 (c := .ne) (off := 6) (l := 3) rfl rfl (fun h16 => ?_) (fun h16 => ?_)
    · have g16 := xt_ne h16
      have e16 := xif1 g16
      refine xS.s1 rfl rfl ?_
      try dsimp only [Nat.reduceAdd, xi_1]
      rw [nI_1]
      refine xS.s1 rfl rfl ?_
      try dsimp only [Nat.reduceAdd]
      refine xS.pick [0, 1, 2] rfl ?_
      have ih2 := ih () (by omega) trivial
      first | (rw [show xcnt (fun k => !decide (g (23 + 2 * k) 1 = -1)) (j + 1) = xcnt (fun k => !decide (g (23 + 2 * k) 1 = -1)) j from by simp [xcnt_s, e16]] at ih2; exact ih2) | (rw [show xcnt (fun k => !decide (g (23 + 2 * k) 1 = -1)) (j + 1) = xcnt (fun k => !decide (g (23 + 2 * k) 1 = -1)) j + 1 from by simp [xcnt_s, e16]] at ih2; exact ih2)
    · have g16 := xf_ne h16
      have e16 := xif0 g16
      refine xS.s1 rfl rfl ?_
      try dsimp only [Nat.reduceAdd, xi_1]
      rw [nI_1]
      refine xS.s1 rfl rfl ?_
      try dsimp only [Nat.reduceAdd, xi_1]
      rw [nI_1]
      refine xS.s1 rfl rfl ?_
      try dsimp only [Nat.reduceAdd]
      refine xS.pick [0, 1, 2] rfl ?_
      have ih2 := ih () (by omega) trivial
      first | (rw [show xcnt (fun k => !decide (g (23 + 2 * k) 1 = -1)) (j + 1) = xcnt (fun k => !decide (g (23 + 2 * k) 1 = -1)) j from by simp [xcnt_s, e16]] at ih2; exact ih2) | (rw [show xcnt (fun k => !decide (g (23 + 2 * k) 1 = -1)) (j + 1) = xcnt (fun k => !decide (g (23 + 2 * k) 1 = -1)) j + 1 from by simp [xcnt_s, e16]] at ih2; exact ih2)

set_option maxRecDepth 10000 in
theorem c_X11_howManyThere_texts  : xT (k + 2) 138 [.ref 2] (xH b g l) (fun r M' => M' = xH b g l ∧ r = some (.int (nI (xcnt (fun k => !decide (g (35 + 2 * k) 1 = -1)) 4)))) := by
  refine xT.of rfl (Nat.le_of_ble_eq_true rfl) ?_
  dsimp only [lv_args]
  refine xS.s1 rfl rfl ?_
  try dsimp only [Nat.reduceAdd, xi_0]
  refine xS.s1 rfl rfl ?_
  try dsimp only [Nat.reduceAdd]
  refine xS.s1 rfl rfl ?_
  try dsimp only [Nat.reduceAdd, xi_0]
  refine xS.s1 rfl rfl ?_
  try dsimp only [Nat.reduceAdd]
  refine xS.pick [0, 1, 2] rfl ?_
  refine xS.loop (σ := Unit) (4) (fun j S => [(2, .int (nI j)), (1, .int (nI (xcnt (fun k => !decide (g (35 + 2 * k) 1 = -1)) j))), (0, .ref 2)]) (fun _ _ => xH b g l) (fun _ _ => True) (()) (rfl) (rfl) (trivial) ?_
  intro j S hj hI ih
  try dsimp only
  refine xS.s1 rfl rfl ?_
  try dsimp only [Nat.reduceAdd]
  refine xS.s1 rfl rfl ?_
  try dsimp only [Nat.reduceAdd]
  refine xS.alo rfl rfl (by decide) rfl ?_
  try dsimp only [Nat.reduceAdd]
  refine xS.br (c := .ge) (off := 21) (l := 3) rfl rfl (fun h7 => ?_) (fun h7 => ?_)
  · have g7 := xt_ge h7
    refine xS.s1 rfl rfl ?_
    try dsimp only [Nat.reduceAdd]
    refine xS.ret rfl rfl rfl (fun _ _ => rfl) ?_
    have e := xnle (b := 4) g7 (by omega) (by omega)
    rw [show 4 = j by omega]
    exact ⟨rfl, rfl⟩
  · have g7 := xf_ge h7
    have hlt := xnlt (b := 4) g7 (by omega) (by omega)
    refine xS.s1 rfl rfl ?_
    try dsimp only [Nat.reduceAdd]
    refine xS.s1 rfl rfl ?_
    try dsimp only [Nat.reduceAdd]
    refine xS.aR rfl rfl (by decide) (by omega) (xsh2_get (by omega)) ?_
    try dsimp only [Nat.reduceAdd]
    -- 13 yX0_isMissing
    refine xS.cv rfl rfl rfl ((xce_text (r := j) (by omega)).1 _) rfl rfl ⟨by decide, rfl, rfl⟩ (c_X0_isMissing (xce_text (r := j) (by omega))) (fun v M1 hv => ?_)
    rw [hv.1, hv.2]
    clear hv M1 v
    try dsimp only [Nat.reduceAdd, Option.toList, List.cons_append, List.nil_append, List.drop]
    refine xS.br0 (c := .ne) (off := 6) (l := 3) rfl rfl (fun h16 => ?_) (fun h16 => ?_)
    · have g16 := xt_ne h16
      have e16 := xif1 g16
      refine xS.s1 rfl rfl ?_
      try dsimp only [Nat.reduceAdd, xi_1]
      rw [nI_1]
      refine xS.s1 rfl rfl ?_
      try dsimp only [Nat.reduceAdd]
      refine xS.pick [0, 1, 2] rfl ?_
      have ih2 := ih () (by omega) trivial
      first | (rw [show xcnt (fun k => !decide (g (35 + 2 * k) 1 = -1)) (j + 1) = xcnt (fun k => !decide (g (35 + 2 * k) 1 = -1)) j from by simp [xcnt_s, e16]] at ih2; exact ih2) | (rw [show xcnt (fun k => !decide (g (35 + 2 * k) 1 = -1)) (j + 1) = xcnt (fun k => !decide (g (35 + 2 * k) 1 = -1)) j + 1 from by simp [xcnt_s, e16]] at ih2; exact ih2)
    · have g16 := xf_ne h16
      have e16 := xif0 g16
      refine xS.s1 rfl rfl ?_
      try dsimp only [Nat.reduceAdd, xi_1]
      rw [nI_1]
      refine xS.s1 rfl rfl ?_
      try dsimp only [Nat.reduceAdd, xi_1]
      rw [nI_1]
      refine xS.s1 rfl rfl ?_
      try dsimp only [Nat.reduceAdd]
      refine xS.pick [0, 1, 2] rfl ?_
      have ih2 := ih () (by omega) trivial
      first | (rw [show xcnt (fun k => !decide (g (35 + 2 * k) 1 = -1)) (j + 1) = xcnt (fun k => !decide (g (35 + 2 * k) 1 = -1)) j from by simp [xcnt_s, e16]] at ih2; exact ih2) | (rw [show xcnt (fun k => !decide (g (35 + 2 * k) 1 = -1)) (j + 1) = xcnt (fun k => !decide (g (35 + 2 * k) 1 = -1)) j + 1 from by simp [xcnt_s, e16]] at ih2; exact ih2)

end
end
section
/-! LimpMirror: doStep, digestOf and what is shown -/
theorem xRm_fr {g g' : Nat → Nat → Int32} {a G T : Nat} {Lw : Nat → Nat} (h : ∀ i, a ≤ i → i ≤ a + 3 → g' i = g i) (hR : xRm g a G T Lw) : xRm g' a G T Lw := by
  unfold xRm at hR ⊢
  rw [h a (by omega) (by omega), h (a + 1) (by omega) (by omega), h (a + 2) (by omega) (by omega)]
  exact hR
theorem xpn_fr {g g' : Nat → Nat → Int32} (h : ∀ i, 43 ≤ i → i < 67 → g' i = g i) (hR : xpn g) : xpn g' := by
  intro L hL
  rw [h (43 + L) (by omega) (by omega)]
  exact hR L hL
def xad (g : Nat → Nat → Int32) (m : Nat) (x y : Int32) : Nat → Nat → Int32 := up (up (up (up (up g 5 (4 * m) x) 5 (4 * m + 1) y) 5 (4 * m + 2) 0) 5 (4 * m + 3) (-9)) 4 1 (nI (m + 1))
def xdo (g : Nat → Nat → Int32) (m : Nat) (x y w z : Int32) : Nat → Nat → Int32 := up (up (xad g m x y) 5 (4 * m + 2) w) 5 (4 * m + 3) z
theorem xad_na {g : Nat → Nat → Int32} {m a : Nat} {x y : Int32} (h4 : a ≠ 4) (h5 : a ≠ 5) : xad g m x y a = g a := by
  unfold xad
  rw [up_na h4, up_na h5, up_na h5, up_na h5, up_na h5]
theorem xdo_na {g : Nat → Nat → Int32} {m a : Nat} {x y w z : Int32} (h4 : a ≠ 4) (h5 : a ≠ 5) : xdo g m x y w z a = g a := by
  unfold xdo
  rw [up_na h5, up_na h5, xad_na h4 h5]
theorem xad_41 {g : Nat → Nat → Int32} {m : Nat} {x y : Int32} : xad g m x y 4 1 = nI (m + 1) := up_same ..
theorem xad_f {g : Nat → Nat → Int32} {m : Nat} {y : Int32} {s : Nat} (hs : s < 6) : (fun i => xN (xad g m (nI s) y 5 (4 * i))) = fun i => if i = m then s else xN (g 5 (4 * i)) := by
  funext i
  unfold xad
  by_cases e : i = m
  · subst e
    rw [if_pos rfl, up_ne (Or.inl (by decide)), up_ne (Or.inr (by omega)), up_ne (Or.inr (by omega)), up_ne (Or.inr (by omega)), up_same, xN_nI (by omega)]
  · rw [if_neg e, up_ne (Or.inl (by decide)), up_ne (Or.inr (by omega)), up_ne (Or.inr (by omega)), up_ne (Or.inr (by omega)), up_ne (Or.inr (by omega))]
theorem xad_x {g : Nat → Nat → Int32} {m : Nat} {y : Int32} {s i : Nat} (hs : s < 6) (hx : ∀ i, i < m → xstp (g 5 (4 * i))) (hi : i < m + 1) : xstp (xad g m (nI s) y 5 (4 * i)) := by
  unfold xad
  by_cases e : i = m
  · subst e
    rw [up_ne (Or.inl (by decide)), up_ne (Or.inr (by omega)), up_ne (Or.inr (by omega)), up_ne (Or.inr (by omega)), up_same]
    exact ⟨s, hs, rfl⟩
  · rw [up_ne (Or.inl (by decide)), up_ne (Or.inr (by omega)), up_ne (Or.inr (by omega)), up_ne (Or.inr (by omega)), up_ne (Or.inr (by omega))]
    exact hx i (by omega)
def xdg (h : Int64) (v : Int32) : Int64 := 31 * h + v.toInt64
def xdl (f : Nat → Int32) (h : Int64) (n : Nat) : Int64 := Nat.rec (motive := fun _ => Int64) h (fun j c => xdg c (f j)) n
def xdr (S : Int32) (f : Nat → Int32) (h : Int64) : Int64 := xdl f (xdg h S) (xN S)
def xda (S : Nat → Int32) (F : Nat → Nat → Int32) (h : Int64) (n : Nat) : Int64 := Nat.rec (motive := fun _ => Int64) h (fun r c => xdr (S r) (F r) c) n
theorem xN_m1 : xN (-1) = 0 := rfl
theorem xsz_lt {S : Int32} {n j : Nat} (hz : xsz S n) (hn : n < 2 ^ 31) (hj : j < 2 ^ 31) : nI j < S ↔ j < xN S := by
  rcases hz with rfl | ⟨m, h1, rfl⟩
  · rw [xN_m1]
    constructor
    · intro h
      rw [Int32.lt_iff_toInt_lt, nI_toInt hj] at h
      have : (-1 : Int32).toInt = -1 := rfl
      omega
    · intro h
      omega
  · rw [xN_nI (by omega), nI_ltI hj (by omega)]
theorem xsz_N {S : Int32} {n j : Nat} (hz : xsz S n) (hn : n < 2 ^ 31) (h : j < xN S) : S = nI (xN S) ∧ xN S ≤ n := by
  rcases hz with rfl | ⟨m, h1, rfl⟩
  · rw [xN_m1] at h
    omega
  · rw [xN_nI (by omega)]
    exact ⟨rfl, h1⟩
theorem xsz_le {S : Int32} {n : Nat} (hz : xsz S n) (hn : n < 2 ^ 31) : xN S ≤ n := by
  rcases hz with rfl | ⟨m, h1, rfl⟩
  · rw [xN_m1]; omega
  · rw [xN_nI (by omega)]; exact h1

theorem xif0n {p : Prop} [Decidable p] (h : (if p then (0 : Int32) else 1) = 0) : p := by
  by_cases hp : p
  · exact hp
  · rw [if_neg hp] at h
    exact absurd h (by decide)
theorem xif1n {p : Prop} [Decidable p] (h : ¬ (if p then (0 : Int32) else 1) = 0) : ¬ p := fun hp => by
  rw [if_pos hp] at h
  exact h rfl

section
variable {k a c n n2 m t p s d i1 j1 : Nat} {b : Nat × Nat} {g : Nat → Nat → Int32} {l : Nat → Nat → Int64} {i j x y z v w : Int32} {u w1 w2 : Int64}
variable {L G T : Nat} {Lw : Nat → Nat}
set_option maxRecDepth 10000 in
theorem c_X11_doStep (hb : xro b.1) (hR : xRm g b.1 G T Lw) (hp : xpn g) (hbv : b.1 = 7 ∨ b.1 = 11) (hs : g 4 1 = nI m) (hm : m < 40) (hx : ∀ i, i < m → xstp (g 5 (4 * i))) (hk : t < G) (hs6 : s < 6) : xT (k + 5) 135 [.ref 0, .int (nI t), .int (nI s)] (xH b g l) (fun r M' => M' = xH b (xdo g m (nI s) (nI t) (xshw (g (b.1 + 1)) (Lw t / 4) (Lw t % 4) (fun i => if i = m then s else xN (g 5 (4 * i))) m) (xfI (xfb (g (b.1 + 3)) T (nI s) (xshw (g (b.1 + 1)) (Lw t / 4) (Lw t % 4) (fun i => if i = m then s else xN (g 5 (4 * i))) m)))) l ∧ r = some (.int (xshw (g (b.1 + 1)) (Lw t / 4) (Lw t % 4) (fun i => if i = m then s else xN (g 5 (4 * i))) m))) := by
  refine xT.of rfl (Nat.le_of_ble_eq_true rfl) ?_
  dsimp only [lv_args]
  refine xS.s1 rfl rfl ?_
  try dsimp only [Nat.reduceAdd]
  refine xS.gR rfl rfl rfl ⟨by decide, rfl⟩ rfl ?_
  try dsimp only [Nat.reduceAdd]
  -- 4 yX2_size
  refine xS.cv rfl rfl rfl (xde_deeds.1 _) rfl rfl ⟨by decide, rfl, rfl⟩ (c_X2_size xde_deeds) (fun v M1 hv => ?_)
  rw [hv.1, hv.2, hs]
  clear hv M1 v
  try dsimp only [Nat.reduceAdd, Option.toList, List.cons_append, List.nil_append, List.drop]
  refine xS.s1 rfl rfl ?_
  try dsimp only [Nat.reduceAdd]
  refine xS.s1 rfl rfl ?_
  try dsimp only [Nat.reduceAdd]
  refine xS.gR rfl rfl rfl ⟨by decide, rfl⟩ rfl ?_
  try dsimp only [Nat.reduceAdd]
  refine xS.s1 rfl rfl ?_
  try dsimp only [Nat.reduceAdd]
  refine xS.s1 rfl rfl ?_
  try dsimp only [Nat.reduceAdd]
  -- 14 yX2_add
  refine xS.cv rfl rfl rfl (xde_deeds.1 _) rfl rfl ⟨by decide, rfl, rfl⟩ (c_X2_add xde_deeds hs hm) (fun v M1 hv => ?_)
  rw [hv.1, hv.2]
  clear hv M1 v
  change xS _ _ _ _ _ (xH b (xad g m (nI s) (nI t)) l) _
  have hR1 : xRm (xad g m (nI s) (nI t)) b.1 G T Lw := xRm_fr (fun i _ _ => xad_na (by omega) (by omega)) hR
  have hp1 : xpn (xad g m (nI s) (nI t)) := xpn_fr (fun i _ _ => xad_na (by omega) (by omega)) hp
  have hx1 : ∀ i, i < m + 1 → xstp (xad g m (nI s) (nI t) 5 (4 * i)) := fun i hi => xad_x hs6 hx hi
  have e1 : xad g m (nI s) (nI t) (b.1 + 1) = g (b.1 + 1) := xad_na (by omega) (by omega)
  have e3 : xad g m (nI s) (nI t) (b.1 + 3) = g (b.1 + 3) := xad_na (by omega) (by omega)
  try dsimp only [Nat.reduceAdd, Option.toList, List.cons_append, List.nil_append, List.drop]
  refine xS.s1 rfl rfl ?_
  try dsimp only [Nat.reduceAdd]
  refine xS.gR rfl rfl rfl ⟨by decide, rfl⟩ rfl ?_
  try dsimp only [Nat.reduceAdd]
  refine xS.s1 rfl rfl ?_
  try dsimp only [Nat.reduceAdd]
  refine xS.s1 rfl rfl ?_
  try dsimp only [Nat.reduceAdd]
  -- 23 yX11_paneOf
  refine xS.cv rfl rfl rfl rfl rfl rfl ⟨by decide, rfl, rfl⟩ (c_X11_paneOf hb hR1 hk) (fun v M1 hv => ?_)
  rw [hv.1, hv.2]
  clear hv M1 v
  try dsimp only [Nat.reduceAdd, Option.toList, List.cons_append, List.nil_append, List.drop]
  refine xS.s1 rfl rfl ?_
  try dsimp only [Nat.reduceAdd]
  refine xS.gR rfl rfl rfl ⟨by decide, rfl⟩ rfl ?_
  try dsimp only [Nat.reduceAdd]
  refine xS.s1 rfl rfl ?_
  try dsimp only [Nat.reduceAdd]
  -- 31 yX8_shown
  refine xS.cv rfl rfl rfl (hb.1 _) rfl rfl ⟨by decide, rfl, rfl⟩ (c_X8_shown_D hb xde_deeds hp1 (hR.2.2.1 t hk).2 (by omega) xad_41 (by omega) (fun u h => ⟨by have := xsrc_le h; omega, hx1 u (by have := xsrc_le h; omega)⟩)) (fun v M1 hv => ?_)
  rw [hv.1, hv.2, e1, xad_f hs6]
  clear hv M1 v
  try dsimp only [Nat.reduceAdd, Option.toList, List.cons_append, List.nil_append, List.drop]
  refine xS.s1 rfl rfl ?_
  try dsimp only [Nat.reduceAdd]
  refine xS.s1 rfl rfl ?_
  try dsimp only [Nat.reduceAdd]
  refine xS.gR rfl rfl rfl ⟨by decide, rfl⟩ rfl ?_
  try dsimp only [Nat.reduceAdd]
  refine xS.s1 rfl rfl ?_
  try dsimp only [Nat.reduceAdd]
  refine xS.s1 rfl rfl ?_
  try dsimp only [Nat.reduceAdd]
  refine xS.s1 rfl rfl ?_
  try dsimp only [Nat.reduceAdd]
  refine xS.gR rfl rfl rfl ⟨by decide, rfl⟩ rfl ?_
  try dsimp only [Nat.reduceAdd]
  refine xS.s1 rfl rfl ?_
  try dsimp only [Nat.reduceAdd]
  refine xS.s1 rfl rfl ?_
  try dsimp only [Nat.reduceAdd]
  -- 50 yX8_firstBroken
  refine xS.cv rfl rfl rfl (hb.1 _) rfl rfl ⟨by decide, rfl, rfl⟩ (c_X8_firstBroken hb hR1.2.1.1 hR1.2.1.2) (fun v M1 hv => ?_)
  rw [hv.1, hv.2, e3]
  clear hv M1 v
  try dsimp only [Nat.reduceAdd, Option.toList, List.cons_append, List.nil_append, List.drop]
  -- 53 yX2_see
  refine xS.cv rfl rfl rfl (xde_deeds.1 _) rfl rfl ⟨by decide, rfl, rfl⟩ (c_X2_see xde_deeds hm) (fun v M1 hv => ?_)
  rw [hv.1, hv.2]
  clear hv M1 v
  try dsimp only [Nat.reduceAdd, Option.toList, List.cons_append, List.nil_append, List.drop]
  refine xS.s1 rfl rfl ?_
  try dsimp only [Nat.reduceAdd]
  refine xS.ret rfl rfl rfl (fun _ _ => rfl) ?_
  exact ⟨rfl, rfl⟩

set_option maxRecDepth 10000 in
theorem c_X11_digestOf_rows (hz : ∀ r, r < 6 → xsz (g (23 + 2 * r) 1) 40) : xT (k + 3) 139 [.ref 1, .long u] (xH b g l) (fun r M' => M' = xH b g l ∧ r = some (.long (xda (fun r => g (23 + 2 * r) 1) (fun r => g (23 + 2 * r + 1)) u 6))) := by
  refine xT.of rfl (Nat.le_of_ble_eq_true rfl) ?_
  dsimp only [lv_args]
  refine xS.s1 rfl rfl ?_
  try dsimp only [Nat.reduceAdd]
  refine xS.s1 rfl rfl ?_
  try dsimp only [Nat.reduceAdd]
  refine xS.s1 rfl rfl ?_
  try dsimp only [Nat.reduceAdd, xi_0]
  refine xS.s1 rfl rfl ?_
  try dsimp only [Nat.reduceAdd]
  refine xS.pick [0, 1, 2] rfl ?_
  refine xS.loop (σ := Unit) (6) (fun j S => [(5, .int (nI j)), (3, .long (xda (fun r => g (23 + 2 * r) 1) (fun r => g (23 + 2 * r + 1)) u j)), (0, .ref 1)]) (fun _ _ => xH b g l) (fun _ _ => True) (()) (rfl) (rfl) (trivial) ?_
  intro j S hj hI ih
  try dsimp only
  refine xS.s1 rfl rfl ?_
  try dsimp only [Nat.reduceAdd]
  refine xS.s1 rfl rfl ?_
  try dsimp only [Nat.reduceAdd]
  refine xS.alo rfl rfl (by decide) rfl ?_
  try dsimp only [Nat.reduceAdd]
  refine xS.br (c := .ge) (off := 62) (l := 3) rfl rfl (fun h9 => ?_) (fun h9 => ?_)
  · have g9 := xt_ge h9
    refine xS.s1 rfl rfl ?_
    try dsimp only [Nat.reduceAdd]
    refine xS.ret rfl rfl rfl (fun _ _ => rfl) ?_
    have e := xnle (b := 6) g9 (by omega) (by omega)
    rw [show 6 = j by omega]
    exact ⟨rfl, rfl⟩
  · have g9 := xf_ge h9
    have hlt := xnlt (b := 6) g9 (by omega) (by omega)
    have hln := xsz_le (hz j hlt) (by omega)
    refine xS.s1 rfl rfl ?_
    try dsimp only [Nat.reduceAdd]
    refine xS.s1 rfl rfl ?_
    try dsimp only [Nat.reduceAdd]
    refine xS.s1 rfl rfl ?_
    try dsimp only [Nat.reduceAdd]
    refine xS.s1 rfl rfl ?_
    try dsimp only [Nat.reduceAdd]
    refine xS.s1 rfl rfl ?_
    try dsimp only [Nat.reduceAdd]
    refine xS.aR rfl rfl (by decide) (by omega) (xsh1_get (by omega)) ?_
    try dsimp only [Nat.reduceAdd]
    -- 21 yX0_size
    refine xS.cv rfl rfl rfl ((xce_row (r := j) (by omega)).1 _) rfl rfl ⟨by decide, rfl, rfl⟩ (c_X0_size (xce_row (r := j) (by omega))) (fun v M1 hv => ?_)
    rw [hv.1, hv.2]
    clear hv M1 v
    try dsimp only [Nat.reduceAdd, Option.toList, List.cons_append, List.nil_append, List.drop]
    refine xS.s1 rfl rfl ?_
    try dsimp only [Nat.reduceAdd]
    refine xS.s1 rfl rfl ?_
    try dsimp only [Nat.reduceAdd]
    refine xS.s1 rfl rfl ?_
    try dsimp only [Nat.reduceAdd]
    refine xS.s1 rfl rfl ?_
    try dsimp only [Nat.reduceAdd, xi_0]
    refine xS.s1 rfl rfl ?_
    try dsimp only [Nat.reduceAdd]
    refine xS.pick [0, 1, 2, 3] rfl ?_
    refine xS.loop (σ := Unit) (xN (g (23 + 2 * j) 1)) (fun i S => [(6, .int (nI i)), (3, .long (xdl (g (23 + 2 * j + 1)) (xdg (xda (fun r => g (23 + 2 * r) 1) (fun r => g (23 + 2 * r + 1)) u j) (g (23 + 2 * j) 1)) i)), (5, .int (nI j)), (0, .ref 1)]) (fun _ _ => xH b g l) (fun _ _ => True) (()) (rfl) (rfl) (trivial) ?_
    intro i S2 hi hI2 ih2
    try dsimp only
    refine xS.s1 rfl rfl ?_
    try dsimp only [Nat.reduceAdd]
    refine xS.s1 rfl rfl ?_
    try dsimp only [Nat.reduceAdd]
    refine xS.s1 rfl rfl ?_
    try dsimp only [Nat.reduceAdd]
    refine xS.aR rfl rfl (by decide) (by omega) (xsh1_get (by omega)) ?_
    try dsimp only [Nat.reduceAdd]
    -- 36 yX0_size
    refine xS.cv rfl rfl rfl ((xce_row (r := j) (by omega)).1 _) rfl rfl ⟨by decide, rfl, rfl⟩ (c_X0_size (xce_row (r := j) (by omega))) (fun v M1 hv => ?_)
    rw [hv.1, hv.2]
    clear hv M1 v
    try dsimp only [Nat.reduceAdd, Option.toList, List.cons_append, List.nil_append, List.drop]
    refine xS.br (c := .ge) (off := 26) (l := 3) rfl rfl (fun h39 => ?_) (fun h39 => ?_)
    · have g39 := xt_ge h39
      refine xS.s1 rfl rfl ?_
      try dsimp only [Nat.reduceAdd, xi_1]
      rw [nI_1]
      refine xS.s1 rfl rfl ?_
      try dsimp only [Nat.reduceAdd]
      refine xS.pick [0, 2, 3] rfl ?_
      have ei : i = xN (g (23 + 2 * j) 1) := by
        have := (not_congr (xsz_lt (hz j hlt) (by omega) (by omega : i < 2 ^ 31))).mp (Int32.not_lt.mpr g39)
        omega
      subst ei
      exact ih () (by omega) trivial
    · have g39 := xf_ge h39
      have hlt2 := (xsz_lt (hz j hlt) (by omega) (by omega)).mp g39
      have hN := xsz_N (hz j hlt) (by omega) hlt2
      refine xS.s1 rfl rfl ?_
      try dsimp only [Nat.reduceAdd]
      refine xS.s1 rfl rfl ?_
      try dsimp only [Nat.reduceAdd]
      refine xS.s1 rfl rfl ?_
      try dsimp only [Nat.reduceAdd]
      refine xS.s1 rfl rfl ?_
      try dsimp only [Nat.reduceAdd]
      refine xS.s1 rfl rfl ?_
      try dsimp only [Nat.reduceAdd]
      refine xS.aR rfl rfl (by decide) (by omega) (xsh1_get (by omega)) ?_
      try dsimp only [Nat.reduceAdd]
      refine xS.s1 rfl rfl ?_
      try dsimp only [Nat.reduceAdd]
      -- 53 yX0_get
      refine xS.cv rfl rfl rfl ((xce_row (r := j) (by omega)).1 _) rfl rfl ⟨by decide, rfl, rfl⟩ (c_X0_get (xce_row hlt) hN.1 hN.2 hlt2) (fun v M1 hv => ?_)
      rw [hv.1, hv.2]
      clear hv M1 v
      try dsimp only [Nat.reduceAdd, Option.toList, List.cons_append, List.nil_append, List.drop]
      refine xS.s1 rfl rfl ?_
      try dsimp only [Nat.reduceAdd]
      refine xS.s1 rfl rfl ?_
      try dsimp only [Nat.reduceAdd]
      refine xS.s1 rfl rfl ?_
      try dsimp only [Nat.reduceAdd]
      refine xS.s1 rfl rfl ?_
      try dsimp only [Nat.reduceAdd, xi_1]
      rw [nI_1]
      refine xS.s1 rfl rfl ?_
      try dsimp only [Nat.reduceAdd]
      refine xS.pick [0, 1, 2, 3] rfl ?_
      exact ih2 () (by omega) trivial

set_option maxRecDepth 10000 in
theorem c_X11_digestOf_texts (hz : ∀ r, r < 4 → xsz (g (35 + 2 * r) 1) 60) : xT (k + 3) 139 [.ref 2, .long u] (xH b g l) (fun r M' => M' = xH b g l ∧ r = some (.long (xda (fun r => g (35 + 2 * r) 1) (fun r => g (35 + 2 * r + 1)) u 4))) := by
  refine xT.of rfl (Nat.le_of_ble_eq_true rfl) ?_
  dsimp only [lv_args]
  refine xS.s1 rfl rfl ?_
  try dsimp only [Nat.reduceAdd]
  refine xS.s1 rfl rfl ?_
  try dsimp only [Nat.reduceAdd]
  refine xS.s1 rfl rfl ?_
  try dsimp only [Nat.reduceAdd, xi_0]
  refine xS.s1 rfl rfl ?_
  try dsimp only [Nat.reduceAdd]
  refine xS.pick [0, 1, 2] rfl ?_
  refine xS.loop (σ := Unit) (4) (fun j S => [(5, .int (nI j)), (3, .long (xda (fun r => g (35 + 2 * r) 1) (fun r => g (35 + 2 * r + 1)) u j)), (0, .ref 2)]) (fun _ _ => xH b g l) (fun _ _ => True) (()) (rfl) (rfl) (trivial) ?_
  intro j S hj hI ih
  try dsimp only
  refine xS.s1 rfl rfl ?_
  try dsimp only [Nat.reduceAdd]
  refine xS.s1 rfl rfl ?_
  try dsimp only [Nat.reduceAdd]
  refine xS.alo rfl rfl (by decide) rfl ?_
  try dsimp only [Nat.reduceAdd]
  refine xS.br (c := .ge) (off := 62) (l := 3) rfl rfl (fun h9 => ?_) (fun h9 => ?_)
  · have g9 := xt_ge h9
    refine xS.s1 rfl rfl ?_
    try dsimp only [Nat.reduceAdd]
    refine xS.ret rfl rfl rfl (fun _ _ => rfl) ?_
    have e := xnle (b := 4) g9 (by omega) (by omega)
    rw [show 4 = j by omega]
    exact ⟨rfl, rfl⟩
  · have g9 := xf_ge h9
    have hlt := xnlt (b := 4) g9 (by omega) (by omega)
    have hln := xsz_le (hz j hlt) (by omega)
    refine xS.s1 rfl rfl ?_
    try dsimp only [Nat.reduceAdd]
    refine xS.s1 rfl rfl ?_
    try dsimp only [Nat.reduceAdd]
    refine xS.s1 rfl rfl ?_
    try dsimp only [Nat.reduceAdd]
    refine xS.s1 rfl rfl ?_
    try dsimp only [Nat.reduceAdd]
    refine xS.s1 rfl rfl ?_
    try dsimp only [Nat.reduceAdd]
    refine xS.aR rfl rfl (by decide) (by omega) (xsh2_get (by omega)) ?_
    try dsimp only [Nat.reduceAdd]
    -- 21 yX0_size
    refine xS.cv rfl rfl rfl ((xce_text (r := j) (by omega)).1 _) rfl rfl ⟨by decide, rfl, rfl⟩ (c_X0_size (xce_text (r := j) (by omega))) (fun v M1 hv => ?_)
    rw [hv.1, hv.2]
    clear hv M1 v
    try dsimp only [Nat.reduceAdd, Option.toList, List.cons_append, List.nil_append, List.drop]
    refine xS.s1 rfl rfl ?_
    try dsimp only [Nat.reduceAdd]
    refine xS.s1 rfl rfl ?_
    try dsimp only [Nat.reduceAdd]
    refine xS.s1 rfl rfl ?_
    try dsimp only [Nat.reduceAdd]
    refine xS.s1 rfl rfl ?_
    try dsimp only [Nat.reduceAdd, xi_0]
    refine xS.s1 rfl rfl ?_
    try dsimp only [Nat.reduceAdd]
    refine xS.pick [0, 1, 2, 3] rfl ?_
    refine xS.loop (σ := Unit) (xN (g (35 + 2 * j) 1)) (fun i S => [(6, .int (nI i)), (3, .long (xdl (g (35 + 2 * j + 1)) (xdg (xda (fun r => g (35 + 2 * r) 1) (fun r => g (35 + 2 * r + 1)) u j) (g (35 + 2 * j) 1)) i)), (5, .int (nI j)), (0, .ref 2)]) (fun _ _ => xH b g l) (fun _ _ => True) (()) (rfl) (rfl) (trivial) ?_
    intro i S2 hi hI2 ih2
    try dsimp only
    refine xS.s1 rfl rfl ?_
    try dsimp only [Nat.reduceAdd]
    refine xS.s1 rfl rfl ?_
    try dsimp only [Nat.reduceAdd]
    refine xS.s1 rfl rfl ?_
    try dsimp only [Nat.reduceAdd]
    refine xS.aR rfl rfl (by decide) (by omega) (xsh2_get (by omega)) ?_
    try dsimp only [Nat.reduceAdd]
    -- 36 yX0_size
    refine xS.cv rfl rfl rfl ((xce_text (r := j) (by omega)).1 _) rfl rfl ⟨by decide, rfl, rfl⟩ (c_X0_size (xce_text (r := j) (by omega))) (fun v M1 hv => ?_)
    rw [hv.1, hv.2]
    clear hv M1 v
    try dsimp only [Nat.reduceAdd, Option.toList, List.cons_append, List.nil_append, List.drop]
    refine xS.br (c := .ge) (off := 26) (l := 3) rfl rfl (fun h39 => ?_) (fun h39 => ?_)
    · have g39 := xt_ge h39
      refine xS.s1 rfl rfl ?_
      try dsimp only [Nat.reduceAdd, xi_1]
      rw [nI_1]
      refine xS.s1 rfl rfl ?_
      try dsimp only [Nat.reduceAdd]
      refine xS.pick [0, 2, 3] rfl ?_
      have ei : i = xN (g (35 + 2 * j) 1) := by
        have := (not_congr (xsz_lt (hz j hlt) (by omega) (by omega : i < 2 ^ 31))).mp (Int32.not_lt.mpr g39)
        omega
      subst ei
      exact ih () (by omega) trivial
    · have g39 := xf_ge h39
      have hlt2 := (xsz_lt (hz j hlt) (by omega) (by omega)).mp g39
      have hN := xsz_N (hz j hlt) (by omega) hlt2
      refine xS.s1 rfl rfl ?_
      try dsimp only [Nat.reduceAdd]
      refine xS.s1 rfl rfl ?_
      try dsimp only [Nat.reduceAdd]
      refine xS.s1 rfl rfl ?_
      try dsimp only [Nat.reduceAdd]
      refine xS.s1 rfl rfl ?_
      try dsimp only [Nat.reduceAdd]
      refine xS.s1 rfl rfl ?_
      try dsimp only [Nat.reduceAdd]
      refine xS.aR rfl rfl (by decide) (by omega) (xsh2_get (by omega)) ?_
      try dsimp only [Nat.reduceAdd]
      refine xS.s1 rfl rfl ?_
      try dsimp only [Nat.reduceAdd]
      -- 53 yX0_get
      refine xS.cv rfl rfl rfl ((xce_text (r := j) (by omega)).1 _) rfl rfl ⟨by decide, rfl, rfl⟩ (c_X0_get (xce_text hlt) hN.1 hN.2 hlt2) (fun v M1 hv => ?_)
      rw [hv.1, hv.2]
      clear hv M1 v
      try dsimp only [Nat.reduceAdd, Option.toList, List.cons_append, List.nil_append, List.drop]
      refine xS.s1 rfl rfl ?_
      try dsimp only [Nat.reduceAdd]
      refine xS.s1 rfl rfl ?_
      try dsimp only [Nat.reduceAdd]
      refine xS.s1 rfl rfl ?_
      try dsimp only [Nat.reduceAdd]
      refine xS.s1 rfl rfl ?_
      try dsimp only [Nat.reduceAdd, xi_1]
      rw [nI_1]
      refine xS.s1 rfl rfl ?_
      try dsimp only [Nat.reduceAdd]
      refine xS.pick [0, 1, 2, 3] rfl ?_
      exact ih2 () (by omega) trivial

def xlst (x : Int32) : Nat := (xfst (fun s => decide ((x >>> (nI s &&& 31)) &&& 1 = 1)) 6).getD 0

set_option maxRecDepth 10000 in
theorem c_X11_leastOf  : xT (k + 1) 141 [.int x] (xH b g l) (fun r M' => M' = xH b g l ∧ r = some (.int (nI (xlst x)))) := by
  refine xT.of rfl (Nat.le_of_ble_eq_true rfl) ?_
  dsimp only [lv_args]
  refine xS.s1 rfl rfl ?_
  try dsimp only [Nat.reduceAdd, xi_0]
  refine xS.s1 rfl rfl ?_
  try dsimp only [Nat.reduceAdd]
  refine xS.pick [0, 1] rfl ?_
  refine xS.loop (σ := Unit) (6) (fun j S => [(1, .int (nI j)), (0, .int x)]) (fun _ _ => xH b g l) (fun j _ => xfst (fun s => decide ((x >>> (nI s &&& 31)) &&& 1 = 1)) j = none) (()) (rfl) (rfl) (rfl) ?_
  intro j S hj hI ih
  try dsimp only
  refine xS.s1 rfl rfl ?_
  try dsimp only [Nat.reduceAdd]
  refine xS.s1 rfl rfl ?_
  try dsimp only [Nat.reduceAdd, xj_6]
  refine xS.br (c := .ge) (off := 20) (l := 3) rfl rfl (fun h5 => ?_) (fun h5 => ?_)
  · have g5 := xt_ge h5
    refine xS.s1 rfl rfl ?_
    try dsimp only [Nat.reduceAdd, xi_0]
    refine xS.ret rfl rfl rfl (fun _ _ => rfl) ?_
    unfold xlst
    have e := xnle (b := 6) g5 (by omega) (by omega)
    rw [show 6 = j by omega, hI]
    exact ⟨rfl, rfl⟩
  · have g5 := xf_ge h5
    have hlt := xnlt (b := 6) g5 (by omega) (by omega)
    refine xS.s1 rfl rfl ?_
    try dsimp only [Nat.reduceAdd]
    refine xS.s1 rfl rfl ?_
    try dsimp only [Nat.reduceAdd]
    refine xS.s1 rfl rfl ?_
    try dsimp only [Nat.reduceAdd]
    refine xS.s1 rfl rfl ?_
    try dsimp only [Nat.reduceAdd, xi_1]
    refine xS.s1 rfl rfl ?_
    try dsimp only [Nat.reduceAdd]
    refine xS.s1 rfl rfl ?_
    try dsimp only [Nat.reduceAdd, xi_1]
    refine xS.br (c := .ne) (off := 5) (l := 3) rfl rfl (fun h14 => ?_) (fun h14 => ?_)
    · have g14 := xt_ne h14
      refine xS.s1 rfl rfl ?_
      try dsimp only [Nat.reduceAdd, xi_1]
      rw [nI_1]
      refine xS.s1 rfl rfl ?_
      try dsimp only [Nat.reduceAdd]
      refine xS.pick [0, 1] rfl ?_
      exact ih () (by omega) (xfst_n hI (by simp [g14]))
    · have g14 := xf_ne h14
      refine xS.s1 rfl rfl ?_
      try dsimp only [Nat.reduceAdd]
      refine xS.ret rfl rfl rfl (fun _ _ => rfl) ?_
      unfold xlst
      rw [xfst_at hI (by simp [g14]) hlt]
      exact ⟨rfl, rfl⟩

set_option maxRecDepth 10000 in
theorem c_X11_firstNotShown (hb : xro b.1) (hR : xRm g b.1 G T Lw) (hp : xpn g) (hL : L < 24) (hF : xce c n) (hs : g c 1 = nI m) (hm : m ≤ n) (hx : ∀ i, i < m → xstp (g (c + 1) i)) (hD : xce d n2) (hs2 : g d 1 = nI m) (hm2 : m ≤ n2) : xT (k + 5) 142 [.ref 0, .ref (43 + L), .ref c, .ref d] (xH b g l) (fun r M' => M' = xH b g l ∧ r = some (.int (xfI (xfst (fun i => !decide (xshw (g (b.1 + 1)) (L / 4) (L % 4) (fun i => xN (g (c + 1) i)) i = g (d + 1) i)) m)))) := by
  refine xT.of rfl (Nat.le_of_ble_eq_true rfl) ?_
  dsimp only [lv_args]
  refine xS.s1 rfl rfl ?_
  try dsimp only [Nat.reduceAdd, xi_0]
  refine xS.s1 rfl rfl ?_
  try dsimp only [Nat.reduceAdd]
  refine xS.pick [0, 1, 2, 3, 4] rfl ?_
  refine xS.loop (σ := Unit) (m) (fun j S => [(4, .int (nI j)), (0, .ref 0), (1, .ref (43 + L)), (2, .ref c), (3, .ref d)]) (fun _ _ => xH b g l) (fun j _ => xfst (fun i => !decide (xshw (g (b.1 + 1)) (L / 4) (L % 4) (fun i => xN (g (c + 1) i)) i = g (d + 1) i)) j = none) (()) (rfl) (rfl) (rfl) ?_
  intro j S hj hI ih
  try dsimp only
  have hn := xn31 hF.2
  refine xS.s1 rfl rfl ?_
  try dsimp only [Nat.reduceAdd]
  refine xS.s1 rfl rfl ?_
  try dsimp only [Nat.reduceAdd]
  -- 6 yX0_size
  refine xS.cv rfl rfl rfl (hF.1 _) rfl rfl ⟨by decide, rfl, rfl⟩ (c_X0_size hF) (fun v M1 hv => ?_)
  rw [hv.1, hv.2]
  clear hv M1 v
  try dsimp only [Nat.reduceAdd, Option.toList, List.cons_append, List.nil_append, List.drop]
  refine xS.br (c := .ge) (off := 32) (l := 3) rfl rfl (fun h9 => ?_) (fun h9 => ?_)
  · have g9 := xt_ge h9
    refine xS.s1 rfl rfl ?_
    try dsimp only [Nat.reduceAdd, xj_m9]
    refine xS.ret rfl rfl rfl (fun _ _ => rfl) ?_
    rw [hs] at g9
    have e := xnle g9 (by omega) (by omega)
    rw [show m = j by omega, hI]
    exact ⟨rfl, rfl⟩
  · have g9 := xf_ge h9
    rw [hs] at g9
    have hlt := xnlt g9 (by omega) (by omega)
    refine xS.s1 rfl rfl ?_
    try dsimp only [Nat.reduceAdd]
    refine xS.gR rfl rfl rfl ⟨by decide, rfl⟩ rfl ?_
    try dsimp only [Nat.reduceAdd]
    refine xS.s1 rfl rfl ?_
    try dsimp only [Nat.reduceAdd]
    refine xS.s1 rfl rfl ?_
    try dsimp only [Nat.reduceAdd]
    refine xS.s1 rfl rfl ?_
    try dsimp only [Nat.reduceAdd]
    -- 20 yX8_shown
    refine xS.cv rfl rfl rfl (hb.1 _) rfl rfl ⟨by decide, rfl, rfl⟩ (c_X8_shown_C hb hF hp hL (by have := hF.2.2; omega) hs hm (fun s h => ⟨Nat.lt_of_le_of_lt (xsrc_le h) hlt, hx s (Nat.lt_of_le_of_lt (xsrc_le h) hlt)⟩)) (fun v M1 hv => ?_)
    rw [hv.1, hv.2]
    clear hv M1 v
    try dsimp only [Nat.reduceAdd, Option.toList, List.cons_append, List.nil_append, List.drop]
    refine xS.s1 rfl rfl ?_
    try dsimp only [Nat.reduceAdd]
    refine xS.s1 rfl rfl ?_
    try dsimp only [Nat.reduceAdd]
    -- 26 yX0_get
    refine xS.cv rfl rfl rfl (hD.1 _) rfl rfl ⟨by decide, rfl, rfl⟩ (c_X0_get hD hs2 hm2 hlt) (fun v M1 hv => ?_)
    rw [hv.1, hv.2]
    clear hv M1 v
    try dsimp only [Nat.reduceAdd, Option.toList, List.cons_append, List.nil_append, List.drop]
    refine xS.br (c := .eq) (off := 6) (l := 3) rfl rfl (fun h29 => ?_) (fun h29 => ?_)
    · have g29 := xt_eq h29
      refine xS.s1 rfl rfl ?_
      try dsimp only [Nat.reduceAdd, xi_1]
      rw [nI_1]
      refine xS.s1 rfl rfl ?_
      try dsimp only [Nat.reduceAdd]
      refine xS.pick [0, 1, 2, 3, 4] rfl ?_
      exact ih () (by omega) (xfst_n hI (by simp [g29]))
    · have g29 := xf_eq h29
      refine xS.s1 rfl rfl ?_
      try dsimp only [Nat.reduceAdd]
      refine xS.ret rfl rfl rfl (fun _ _ => rfl) ?_
      rw [xfst_at hI (by simp [g29]) hlt]
      exact ⟨rfl, rfl⟩

set_option maxRecDepth 10000 in
theorem c_X11_lawsOf (hb : xro b.1) (hR : xRm g b.1 G T Lw) (hp : xpn g) (hF : xce c n) (hs : g c 1 = nI m) (hm : m ≤ n) (hx : ∀ i, i < m → xstp (g (c + 1) i)) (hD : xce d n2) (hs2 : g d 1 = nI m) (hm2 : m ≤ n2) : xT (k + 6) 143 [.ref 0, .ref c, .ref d] (xH b g l) (fun r M' => M' = xH b g l ∧ r = some (.int (xbits (fun j => decide (xfst (fun i => !decide (xshw (g (b.1 + 1)) (j / 4) (j % 4) (fun i => xN (g (c + 1) i)) i = g (d + 1) i)) m = none)) 24))) := by
  refine xT.of rfl (Nat.le_of_ble_eq_true rfl) ?_
  dsimp only [lv_args]
  refine xS.s1 rfl rfl ?_
  try dsimp only [Nat.reduceAdd, xi_0]
  refine xS.s1 rfl rfl ?_
  try dsimp only [Nat.reduceAdd]
  refine xS.s1 rfl rfl ?_
  try dsimp only [Nat.reduceAdd, xi_0]
  refine xS.s1 rfl rfl ?_
  try dsimp only [Nat.reduceAdd]
  refine xS.pick [0, 1, 2, 3, 4] rfl ?_
  refine xS.loop (σ := Unit) (24) (fun j S => [(4, .int (nI j)), (3, .int (xbits (fun j => decide (xfst (fun i => !decide (xshw (g (b.1 + 1)) (j / 4) (j % 4) (fun i => xN (g (c + 1) i)) i = g (d + 1) i)) m = none)) j)), (0, .ref 0), (1, .ref c), (2, .ref d)]) (fun _ _ => xH b g l) (fun _ _ => True) (()) (rfl) (rfl) (trivial) ?_
  intro j S hj hI ih
  try dsimp only
  have hn := xn31 hF.2
  refine xS.s1 rfl rfl ?_
  try dsimp only [Nat.reduceAdd]
  refine xS.s1 rfl rfl ?_
  try dsimp only [Nat.reduceAdd, xj_24]
  refine xS.br (c := .ge) (off := 34) (l := 3) rfl rfl (fun h9 => ?_) (fun h9 => ?_)
  · have g9 := xt_ge h9
    refine xS.s1 rfl rfl ?_
    try dsimp only [Nat.reduceAdd]
    refine xS.ret rfl rfl rfl (fun _ _ => rfl) ?_
    have e := xnle (b := 24) g9 (by omega) (by omega)
    rw [show 24 = j by omega]
    exact ⟨rfl, rfl⟩
  · have g9 := xf_ge h9
    have hlt := xnlt (b := 24) g9 (by omega) (by omega)
    refine xS.s1 rfl rfl ?_
    try dsimp only [Nat.reduceAdd]
    refine xS.s1 rfl rfl ?_
    try dsimp only [Nat.reduceAdd]
    refine xS.gR rfl rfl rfl ⟨by decide, rfl⟩ rfl ?_
    try dsimp only [Nat.reduceAdd]
    refine xS.s1 rfl rfl ?_
    try dsimp only [Nat.reduceAdd]
    refine xS.aR rfl rfl (by decide) (by omega) (xsh3_get (by omega)) ?_
    try dsimp only [Nat.reduceAdd]
    refine xS.s1 rfl rfl ?_
    try dsimp only [Nat.reduceAdd]
    refine xS.s1 rfl rfl ?_
    try dsimp only [Nat.reduceAdd]
    -- 22 yX11_firstNotShown
    refine xS.cv rfl rfl rfl rfl rfl rfl ⟨by decide, rfl, rfl⟩ (c_X11_firstNotShown hb hR hp hlt hF hs hm hx hD hs2 hm2) (fun v M1 hv => ?_)
    rw [hv.1, hv.2]
    clear hv M1 v
    try dsimp only [Nat.reduceAdd, Option.toList, List.cons_append, List.nil_append, List.drop]
    refine xS.s1 rfl rfl ?_
    try dsimp only [Nat.reduceAdd, xj_m9]
    refine xS.br (c := .ne) (off := 10) (l := 3) rfl rfl (fun h27 => ?_) (fun h27 => ?_)
    · have g27 := xt_ne h27
      refine xS.s1 rfl rfl ?_
      try dsimp only [Nat.reduceAdd, xi_1]
      rw [nI_1]
      refine xS.s1 rfl rfl ?_
      try dsimp only [Nat.reduceAdd]
      refine xS.pick [0, 1, 2, 3, 4] rfl ?_
      rw [xfI_none (fun d h => by have := (xfst_lt h).1; omega)] at g27
      have ih2 := ih () (by omega) trivial
      first | (rw [show xbits (fun j => decide (xfst (fun i => !decide (xshw (g (b.1 + 1)) (j / 4) (j % 4) (fun i => xN (g (c + 1) i)) i = g (d + 1) i)) m = none)) (j + 1) = xbits (fun j => decide (xfst (fun i => !decide (xshw (g (b.1 + 1)) (j / 4) (j % 4) (fun i => xN (g (c + 1) i)) i = g (d + 1) i)) m = none)) j from by rw [xbits_s, decide_eq_false g27]; rfl] at ih2; exact ih2) | (rw [show xbits (fun j => decide (xfst (fun i => !decide (xshw (g (b.1 + 1)) (j / 4) (j % 4) (fun i => xN (g (c + 1) i)) i = g (d + 1) i)) m = none)) (j + 1) = xbits (fun j => decide (xfst (fun i => !decide (xshw (g (b.1 + 1)) (j / 4) (j % 4) (fun i => xN (g (c + 1) i)) i = g (d + 1) i)) m = none)) j ||| (1 <<< (nI j &&& 31)) from by rw [xbits_s, decide_eq_true g27]; rfl] at ih2; exact ih2)
    · have g27 := xf_ne h27
      refine xS.s1 rfl rfl ?_
      try dsimp only [Nat.reduceAdd]
      refine xS.s1 rfl rfl ?_
      try dsimp only [Nat.reduceAdd, xi_1]
      refine xS.s1 rfl rfl ?_
      try dsimp only [Nat.reduceAdd]
      refine xS.s1 rfl rfl ?_
      try dsimp only [Nat.reduceAdd]
      refine xS.s1 rfl rfl ?_
      try dsimp only [Nat.reduceAdd]
      refine xS.s1 rfl rfl ?_
      try dsimp only [Nat.reduceAdd]
      refine xS.s1 rfl rfl ?_
      try dsimp only [Nat.reduceAdd, xi_1]
      rw [nI_1]
      refine xS.s1 rfl rfl ?_
      try dsimp only [Nat.reduceAdd]
      refine xS.pick [0, 1, 2, 3, 4] rfl ?_
      rw [xfI_none (fun d h => by have := (xfst_lt h).1; omega)] at g27
      have ih2 := ih () (by omega) trivial
      first | (rw [show xbits (fun j => decide (xfst (fun i => !decide (xshw (g (b.1 + 1)) (j / 4) (j % 4) (fun i => xN (g (c + 1) i)) i = g (d + 1) i)) m = none)) (j + 1) = xbits (fun j => decide (xfst (fun i => !decide (xshw (g (b.1 + 1)) (j / 4) (j % 4) (fun i => xN (g (c + 1) i)) i = g (d + 1) i)) m = none)) j from by rw [xbits_s, decide_eq_false g27]; rfl] at ih2; exact ih2) | (rw [show xbits (fun j => decide (xfst (fun i => !decide (xshw (g (b.1 + 1)) (j / 4) (j % 4) (fun i => xN (g (c + 1) i)) i = g (d + 1) i)) m = none)) (j + 1) = xbits (fun j => decide (xfst (fun i => !decide (xshw (g (b.1 + 1)) (j / 4) (j % 4) (fun i => xN (g (c + 1) i)) i = g (d + 1) i)) m = none)) j ||| (1 <<< (nI j &&& 31)) from by rw [xbits_s, decide_eq_true g27]; rfl] at ih2; exact ih2)

set_option maxRecDepth 10000 in
theorem c_X11_breakingOfTwelve (hb : xro b.1) (hR : xRm g b.1 G T Lw) (hp : xpn g) (hL : L < 24) (hF : xce c n) (hs : g c 1 = nI m) (hm : m ≤ n) (hx : ∀ i, i < m → xstp (g (c + 1) i)) (hlt : t < m) : xT (k + 5) 147 [.ref 0, .ref (43 + L), .ref c, .int (nI t), .int x] (xH b g l) (fun r M' => M' = xH b g l ∧ r = some (.int ((if xfb (g (b.1 + 3)) T (g (c + 1) t) 0 = none then 0 else x) + (if xfb (g (b.1 + 3)) T (g (c + 1) t) (xshw (g (b.1 + 1)) (L / 4) (L % 4) (fun i => xN (g (c + 1) i)) t) = none then 0 else 12 - x)))) := by
  refine xT.of rfl (Nat.le_of_ble_eq_true rfl) ?_
  dsimp only [lv_args]
  refine xS.s1 rfl rfl ?_
  try dsimp only [Nat.reduceAdd]
  refine xS.s1 rfl rfl ?_
  try dsimp only [Nat.reduceAdd]
  -- 2 yX0_get
  refine xS.cv rfl rfl rfl (hF.1 _) rfl rfl ⟨by decide, rfl, rfl⟩ (c_X0_get hF hs hm hlt) (fun v M1 hv => ?_)
  rw [hv.1, hv.2]
  clear hv M1 v
  try dsimp only [Nat.reduceAdd, Option.toList, List.cons_append, List.nil_append, List.drop]
  refine xS.s1 rfl rfl ?_
  try dsimp only [Nat.reduceAdd]
  refine xS.s1 rfl rfl ?_
  try dsimp only [Nat.reduceAdd]
  refine xS.gR rfl rfl rfl ⟨by decide, rfl⟩ rfl ?_
  try dsimp only [Nat.reduceAdd]
  refine xS.s1 rfl rfl ?_
  try dsimp only [Nat.reduceAdd]
  refine xS.s1 rfl rfl ?_
  try dsimp only [Nat.reduceAdd, xi_0]
  -- 14 yX8_isBroken
  refine xS.cv rfl rfl rfl (hb.1 _) rfl rfl ⟨by decide, rfl, rfl⟩ (c_X8_isBroken hb hR.2.1.1 hR.2.1.2) (fun v M1 hv => ?_)
  rw [hv.1, hv.2]
  clear hv M1 v
  try dsimp only [Nat.reduceAdd, Option.toList, List.cons_append, List.nil_append, List.drop]
  refine xS.br0 (c := .eq) (off := 8) (l := 3) rfl rfl (fun h17 => ?_) (fun h17 => ?_)
  · have g17 := xt_eq h17
    have e17 := xif0n g17
    refine xS.s1 rfl rfl ?_
    try dsimp only [Nat.reduceAdd, xi_0]
    refine xS.s1 rfl rfl ?_
    try dsimp only [Nat.reduceAdd]
    refine xS.s1 rfl rfl ?_
    try dsimp only [Nat.reduceAdd]
    refine xS.gR rfl rfl rfl ⟨by decide, rfl⟩ rfl ?_
    try dsimp only [Nat.reduceAdd]
    refine xS.s1 rfl rfl ?_
    try dsimp only [Nat.reduceAdd]
    refine xS.s1 rfl rfl ?_
    try dsimp only [Nat.reduceAdd]
    refine xS.gR rfl rfl rfl ⟨by decide, rfl⟩ rfl ?_
    try dsimp only [Nat.reduceAdd]
    refine xS.s1 rfl rfl ?_
    try dsimp only [Nat.reduceAdd]
    refine xS.s1 rfl rfl ?_
    try dsimp only [Nat.reduceAdd]
    refine xS.s1 rfl rfl ?_
    try dsimp only [Nat.reduceAdd]
    -- 41 yX8_shown
    refine xS.cv rfl rfl rfl (hb.1 _) rfl rfl ⟨by decide, rfl, rfl⟩ (c_X8_shown_C hb hF hp hL (by have := hF.2.2; omega) hs hm (fun s h => ⟨Nat.lt_of_le_of_lt (xsrc_le h) hlt, hx s (Nat.lt_of_le_of_lt (xsrc_le h) hlt)⟩)) (fun v M1 hv => ?_)
    rw [hv.1, hv.2]
    clear hv M1 v
    try dsimp only [Nat.reduceAdd, Option.toList, List.cons_append, List.nil_append, List.drop]
    -- 44 yX8_isBroken
    refine xS.cv rfl rfl rfl (hb.1 _) rfl rfl ⟨by decide, rfl, rfl⟩ (c_X8_isBroken hb hR.2.1.1 hR.2.1.2) (fun v M1 hv => ?_)
    rw [hv.1, hv.2]
    clear hv M1 v
    try dsimp only [Nat.reduceAdd, Option.toList, List.cons_append, List.nil_append, List.drop]
    refine xS.br0 (c := .eq) (off := 11) (l := 3) rfl rfl (fun h47 => ?_) (fun h47 => ?_)
    · have g47 := xt_eq h47
      have e47 := xif0n g47
      refine xS.s1 rfl rfl ?_
      try dsimp only [Nat.reduceAdd, xi_0]
      refine xS.s1 rfl rfl ?_
      try dsimp only [Nat.reduceAdd]
      refine xS.s1 rfl rfl ?_
      try dsimp only [Nat.reduceAdd]
      refine xS.s1 rfl rfl ?_
      try dsimp only [Nat.reduceAdd]
      refine xS.s1 rfl rfl ?_
      try dsimp only [Nat.reduceAdd]
      refine xS.ret rfl rfl rfl (fun _ _ => rfl) ?_
      refine ⟨rfl, ?_⟩
      first | (rw [if_pos e17, if_pos e47]; done) | (rw [if_pos e17, if_neg e47]; done) | (rw [if_neg e17, if_pos e47]; done) | (rw [if_neg e17, if_neg e47]; done)
    · have g47 := xf_eq h47
      have e47 := xif1n g47
      refine xS.s1 rfl rfl ?_
      try dsimp only [Nat.reduceAdd, xj_12]
      refine xS.s1 rfl rfl ?_
      try dsimp only [Nat.reduceAdd]
      refine xS.s1 rfl rfl ?_
      try dsimp only [Nat.reduceAdd]
      refine xS.s1 rfl rfl ?_
      try dsimp only [Nat.reduceAdd]
      refine xS.s1 rfl rfl ?_
      try dsimp only [Nat.reduceAdd]
      refine xS.s1 rfl rfl ?_
      try dsimp only [Nat.reduceAdd]
      refine xS.s1 rfl rfl ?_
      try dsimp only [Nat.reduceAdd]
      refine xS.s1 rfl rfl ?_
      try dsimp only [Nat.reduceAdd]
      refine xS.ret rfl rfl rfl (fun _ _ => rfl) ?_
      refine ⟨rfl, ?_⟩
      first | (rw [if_pos e17, if_pos e47]; done) | (rw [if_pos e17, if_neg e47]; done) | (rw [if_neg e17, if_pos e47]; done) | (rw [if_neg e17, if_neg e47]; done)
  · have g17 := xf_eq h17
    have e17 := xif1n g17
    refine xS.s1 rfl rfl ?_
    try dsimp only [Nat.reduceAdd]
    refine xS.s1 rfl rfl ?_
    try dsimp only [Nat.reduceAdd]
    refine xS.s1 rfl rfl ?_
    try dsimp only [Nat.reduceAdd]
    refine xS.s1 rfl rfl ?_
    try dsimp only [Nat.reduceAdd]
    refine xS.gR rfl rfl rfl ⟨by decide, rfl⟩ rfl ?_
    try dsimp only [Nat.reduceAdd]
    refine xS.s1 rfl rfl ?_
    try dsimp only [Nat.reduceAdd]
    refine xS.s1 rfl rfl ?_
    try dsimp only [Nat.reduceAdd]
    refine xS.gR rfl rfl rfl ⟨by decide, rfl⟩ rfl ?_
    try dsimp only [Nat.reduceAdd]
    refine xS.s1 rfl rfl ?_
    try dsimp only [Nat.reduceAdd]
    refine xS.s1 rfl rfl ?_
    try dsimp only [Nat.reduceAdd]
    refine xS.s1 rfl rfl ?_
    try dsimp only [Nat.reduceAdd]
    -- 41 yX8_shown
    refine xS.cv rfl rfl rfl (hb.1 _) rfl rfl ⟨by decide, rfl, rfl⟩ (c_X8_shown_C hb hF hp hL (by have := hF.2.2; omega) hs hm (fun s h => ⟨Nat.lt_of_le_of_lt (xsrc_le h) hlt, hx s (Nat.lt_of_le_of_lt (xsrc_le h) hlt)⟩)) (fun v M1 hv => ?_)
    rw [hv.1, hv.2]
    clear hv M1 v
    try dsimp only [Nat.reduceAdd, Option.toList, List.cons_append, List.nil_append, List.drop]
    -- 44 yX8_isBroken
    refine xS.cv rfl rfl rfl (hb.1 _) rfl rfl ⟨by decide, rfl, rfl⟩ (c_X8_isBroken hb hR.2.1.1 hR.2.1.2) (fun v M1 hv => ?_)
    rw [hv.1, hv.2]
    clear hv M1 v
    try dsimp only [Nat.reduceAdd, Option.toList, List.cons_append, List.nil_append, List.drop]
    refine xS.br0 (c := .eq) (off := 11) (l := 3) rfl rfl (fun h47 => ?_) (fun h47 => ?_)
    · have g47 := xt_eq h47
      have e47 := xif0n g47
      refine xS.s1 rfl rfl ?_
      try dsimp only [Nat.reduceAdd, xi_0]
      refine xS.s1 rfl rfl ?_
      try dsimp only [Nat.reduceAdd]
      refine xS.s1 rfl rfl ?_
      try dsimp only [Nat.reduceAdd]
      refine xS.s1 rfl rfl ?_
      try dsimp only [Nat.reduceAdd]
      refine xS.s1 rfl rfl ?_
      try dsimp only [Nat.reduceAdd]
      refine xS.ret rfl rfl rfl (fun _ _ => rfl) ?_
      refine ⟨rfl, ?_⟩
      first | (rw [if_pos e17, if_pos e47]; done) | (rw [if_pos e17, if_neg e47]; done) | (rw [if_neg e17, if_pos e47]; done) | (rw [if_neg e17, if_neg e47]; done)
    · have g47 := xf_eq h47
      have e47 := xif1n g47
      refine xS.s1 rfl rfl ?_
      try dsimp only [Nat.reduceAdd, xj_12]
      refine xS.s1 rfl rfl ?_
      try dsimp only [Nat.reduceAdd]
      refine xS.s1 rfl rfl ?_
      try dsimp only [Nat.reduceAdd]
      refine xS.s1 rfl rfl ?_
      try dsimp only [Nat.reduceAdd]
      refine xS.s1 rfl rfl ?_
      try dsimp only [Nat.reduceAdd]
      refine xS.s1 rfl rfl ?_
      try dsimp only [Nat.reduceAdd]
      refine xS.s1 rfl rfl ?_
      try dsimp only [Nat.reduceAdd]
      refine xS.s1 rfl rfl ?_
      try dsimp only [Nat.reduceAdd]
      refine xS.ret rfl rfl rfl (fun _ _ => rfl) ?_
      refine ⟨rfl, ?_⟩
      first | (rw [if_pos e17, if_pos e47]; done) | (rw [if_pos e17, if_neg e47]; done) | (rw [if_neg e17, if_pos e47]; done) | (rw [if_neg e17, if_neg e47]; done)

set_option maxRecDepth 10000 in
theorem c_X11_isSafeBeforeAll (hb : xro b.1) (hR : xRm g b.1 G T Lw) (hp : xpn g) (hs : g 15 1 = nI m) (hm : m ≤ 12) (hx : ∀ i, i ≤ t → xstp (g 16 i)) (hlt : t < m) : xT (k + 5) 146 [.ref 0, .int (nI t)] (xH b g l) (fun r M' => M' = xH b g l ∧ r = some (.int (if xfst (fun k => !decide (xfb (g (b.1 + 3)) T (g 16 t) (xshw (g (b.1 + 1)) (Lw k / 4) (Lw k % 4) (fun i => xN (g 16 i)) t) = none)) G = none then 1 else 0))) := by
  refine xT.of rfl (Nat.le_of_ble_eq_true rfl) ?_
  dsimp only [lv_args]
  refine xS.s1 rfl rfl ?_
  try dsimp only [Nat.reduceAdd, xi_0]
  refine xS.s1 rfl rfl ?_
  try dsimp only [Nat.reduceAdd]
  refine xS.pick [0, 1, 2] rfl ?_
  refine xS.loop (σ := Unit) (G) (fun j S => [(2, .int (nI j)), (0, .ref 0), (1, .int (nI t))]) (fun _ _ => xH b g l) (fun j _ => xfst (fun k => !decide (xfb (g (b.1 + 3)) T (g 16 t) (xshw (g (b.1 + 1)) (Lw k / 4) (Lw k % 4) (fun i => xN (g 16 i)) t) = none)) j = none) (()) (rfl) (rfl) (rfl) ?_
  intro j S hj hI ih
  try dsimp only
  have h6 := hR.1.2
  refine xS.s1 rfl rfl ?_
  try dsimp only [Nat.reduceAdd]
  refine xS.s1 rfl rfl ?_
  try dsimp only [Nat.reduceAdd]
  refine xS.gR rfl rfl rfl ⟨by decide, rfl⟩ rfl ?_
  try dsimp only [Nat.reduceAdd]
  -- 7 yX8_glasses
  refine xS.cv rfl rfl rfl (hb.1 _) rfl rfl ⟨by decide, rfl, rfl⟩ (c_X8_glasses hb) (fun v M1 hv => ?_)
  rw [hv.1, hv.2]
  clear hv M1 v
  try dsimp only [Nat.reduceAdd, Option.toList, List.cons_append, List.nil_append, List.drop]
  refine xS.br (c := .ge) (off := 46) (l := 3) rfl rfl (fun h10 => ?_) (fun h10 => ?_)
  · have g10 := xt_ge h10
    refine xS.s1 rfl rfl ?_
    try dsimp only [Nat.reduceAdd, xi_1]
    refine xS.ret rfl rfl rfl (fun _ _ => rfl) ?_
    have h6 := hR.1.2
    rw [hR.1.1] at g10
    have e := xnle g10 (by omega) (by omega)
    rw [show G = j by omega, hI]
    exact ⟨rfl, rfl⟩
  · have g10 := xf_ge h10
    rw [hR.1.1] at g10
    have hlk := xnlt g10 (by omega) (by omega)
    refine xS.s1 rfl rfl ?_
    try dsimp only [Nat.reduceAdd]
    refine xS.gR rfl rfl rfl ⟨by decide, rfl⟩ rfl ?_
    try dsimp only [Nat.reduceAdd]
    refine xS.s1 rfl rfl ?_
    try dsimp only [Nat.reduceAdd]
    refine xS.gR rfl rfl rfl ⟨by decide, rfl⟩ rfl ?_
    try dsimp only [Nat.reduceAdd]
    refine xS.s1 rfl rfl ?_
    try dsimp only [Nat.reduceAdd]
    -- 22 yX0_get
    refine xS.cv rfl rfl rfl (xce_trial.1 _) rfl rfl ⟨by decide, rfl, rfl⟩ (c_X0_get xce_trial hs hm hlt) (fun v M1 hv => ?_)
    rw [hv.1, hv.2]
    clear hv M1 v
    try dsimp only [Nat.reduceAdd, Option.toList, List.cons_append, List.nil_append, List.drop]
    refine xS.s1 rfl rfl ?_
    try dsimp only [Nat.reduceAdd]
    refine xS.gR rfl rfl rfl ⟨by decide, rfl⟩ rfl ?_
    try dsimp only [Nat.reduceAdd]
    refine xS.s1 rfl rfl ?_
    try dsimp only [Nat.reduceAdd]
    refine xS.s1 rfl rfl ?_
    try dsimp only [Nat.reduceAdd]
    -- 31 yX11_paneOf
    refine xS.cv rfl rfl rfl rfl rfl rfl ⟨by decide, rfl, rfl⟩ (c_X11_paneOf hb hR hlk) (fun v M1 hv => ?_)
    rw [hv.1, hv.2]
    clear hv M1 v
    try dsimp only [Nat.reduceAdd, Option.toList, List.cons_append, List.nil_append, List.drop]
    refine xS.s1 rfl rfl ?_
    try dsimp only [Nat.reduceAdd]
    refine xS.gR rfl rfl rfl ⟨by decide, rfl⟩ rfl ?_
    try dsimp only [Nat.reduceAdd]
    refine xS.s1 rfl rfl ?_
    try dsimp only [Nat.reduceAdd]
    -- 39 yX8_shown
    refine xS.cv rfl rfl rfl (hb.1 _) rfl rfl ⟨by decide, rfl, rfl⟩ (c_X8_shown_C hb xce_trial hp (hR.2.2.1 j hlk).2 (by omega) hs hm (fun s h => ⟨Nat.lt_of_le_of_lt (xsrc_le h) hlt, hx s (xsrc_le h)⟩)) (fun v M1 hv => ?_)
    rw [hv.1, hv.2]
    clear hv M1 v
    try dsimp only [Nat.reduceAdd, Option.toList, List.cons_append, List.nil_append, List.drop]
    -- 42 yX8_isBroken
    refine xS.cv rfl rfl rfl (hb.1 _) rfl rfl ⟨by decide, rfl, rfl⟩ (c_X8_isBroken hb hR.2.1.1 hR.2.1.2) (fun v M1 hv => ?_)
    rw [hv.1, hv.2]
    clear hv M1 v
    try dsimp only [Nat.reduceAdd, Option.toList, List.cons_append, List.nil_append, List.drop]
    refine xS.br0 (c := .eq) (off := 5) (l := 3) rfl rfl (fun h45 => ?_) (fun h45 => ?_)
    · have g45 := xt_eq h45
      refine xS.s1 rfl rfl ?_
      try dsimp only [Nat.reduceAdd, xi_1]
      rw [nI_1]
      refine xS.s1 rfl rfl ?_
      try dsimp only [Nat.reduceAdd]
      refine xS.pick [0, 1, 2] rfl ?_
      exact ih () (by omega) (xfst_n hI (by simp [xif0n g45]))
    · have g45 := xf_eq h45
      refine xS.s1 rfl rfl ?_
      try dsimp only [Nat.reduceAdd, xi_0]
      refine xS.ret rfl rfl rfl (fun _ _ => rfl) ?_
      have h6 := hR.1.2
      rw [xfst_at hI (by simp [xif1n g45]) hlk]
      exact ⟨rfl, rfl⟩

end
end
section
/-! LimpMirror: sets of steps, tallies, turns, the greatest common divisor -/
def gset (g : Nat → Nat → Int32) (a n : Nat) (S : Nat → Int32) : Nat → Nat → Int32 := fun a' i' => if a' = a ∧ i' < n then S i' else g a' i'
theorem gset_na {g : Nat → Nat → Int32} {a n a' : Nat} {S : Nat → Int32} (h : a' ≠ a) : gset g a n S a' = g a' := funext (fun _ => if_neg (fun z => h z.1))
theorem gset_in {g : Nat → Nat → Int32} {a n i : Nat} {S : Nat → Int32} (h : i < n) : gset g a n S a i = S i := if_pos ⟨rfl, h⟩
theorem gset_up {g : Nat → Nat → Int32} {a n s : Nat} {S : Nat → Int32} {v : Int32} (h : s < n) : up (gset g a n S) a s v = gset g a n (fun p => if p = s then v else S p) := by
  funext a' i'
  unfold up gset
  by_cases e : a' = a
  · subst e
    by_cases e2 : i' = s
    · subst e2
      simp [h]
    · by_cases e3 : i' < n
      · simp [e2, e3]
      · simp [e2, e3]
  · simp [e]
theorem gset_fill {g : Nat → Nat → Int32} {a n : Nat} {v : Int32} : gfill g a n v = gset g a n (fun _ => v) := rfl
def xst (κ δ : Nat) (B : Nat → Int32) (n : Nat) : Nat → Int32 := Nat.rec (motive := fun _ => Nat → Int32) (fun _ => 63) (fun i S => match xsrc κ δ i with
  | some s => fun p => if p = s then S s &&& B i else S p
  | none => S) n
def xps (κ δ : Nat) (f : Nat → Int32) (n : Nat) : Bool := Nat.rec (motive := fun _ => Bool) true (fun i c => match xsrc κ δ i with
  | some _ => c
  | none => bif decide (f i = 0) then c else false) n
def xnz (S : Nat → Int32) (n : Nat) (c : Bool) : Bool := Nat.rec (motive := fun _ => Bool) c (fun i c => c && !decide (S i = 0)) n
def xB (h : Nat → Int32) (κ : Nat) (f : Nat → Int32) (i : Nat) : Int32 := xbits (fun s => decide (xseen h κ i s = f i)) 6
theorem xst_s (κ δ : Nat) (B : Nat → Int32) (n : Nat) : xst κ δ B (n + 1) = (match xsrc κ δ n with
  | some s => fun p => if p = s then xst κ δ B n s &&& B n else xst κ δ B n p
  | none => xst κ δ B n) := rfl
theorem xst_some {κ δ : Nat} {B : Nat → Int32} {n s : Nat} (h : xsrc κ δ n = some s) : xst κ δ B (n + 1) = fun p => if p = s then xst κ δ B n s &&& B n else xst κ δ B n p := by
  rw [xst_s, h]
theorem xst_none {κ δ : Nat} {B : Nat → Int32} {n : Nat} (h : xsrc κ δ n = none) : xst κ δ B (n + 1) = xst κ δ B n := by
  rw [xst_s, h]
theorem xps_s (κ δ : Nat) (f : Nat → Int32) (n : Nat) : xps κ δ f (n + 1) = (match xsrc κ δ n with
  | some _ => xps κ δ f n
  | none => bif decide (f n = 0) then xps κ δ f n else false) := rfl
theorem xps_some {κ δ : Nat} {f : Nat → Int32} {n s : Nat} (h : xsrc κ δ n = some s) : xps κ δ f (n + 1) = xps κ δ f n := by
  rw [xps_s, h]
theorem xps_z {κ δ : Nat} {f : Nat → Int32} {n : Nat} (h : xsrc κ δ n = none) (hz : f n = 0) : xps κ δ f (n + 1) = xps κ δ f n := by
  rw [xps_s, h]
  simp [hz]
theorem xps_nz {κ δ : Nat} {f : Nat → Int32} {n : Nat} (h : xsrc κ δ n = none) (hz : ¬ f n = 0) : xps κ δ f (n + 1) = false := by
  rw [xps_s, h]
  simp [hz]
theorem xbi (c : Bool) : (if c = true then (1 : Int32) else 0) &&& 1 = if c = true then 1 else 0 := by cases c <;> decide
theorem xbo (c : Bool) : (if c = true then (1 : Int32) else 0) &&& 0 = 0 := by cases c <;> decide
theorem xsrc_pos {o : Option Nat} (h : ∀ s, o = some s → s < 2 ^ 31) : (xoI o < 0 ↔ o = none) := by
  cases o with
  | none => exact ⟨fun _ => rfl, fun _ => by decide⟩
  | some s => exact ⟨fun z => absurd z (nI_pos (h s rfl)), fun z => by cases z⟩

section
variable {k a c n n2 m t p s d i1 j1 : Nat} {b : Nat × Nat} {g : Nat → Nat → Int32} {l : Nat → Nat → Int64} {i j x y z v w : Int32} {u w1 w2 : Int64}
variable {L G T : Nat} {Lw : Nat → Nat}
set_option maxRecDepth 10000 in
theorem c_X11_findSets (hb : xro b.1) (hR : xRm g b.1 G T Lw) (hp : xpn g) (hbv : b.1 = 7 ∨ b.1 = 11) (hL : L < 24) (hF : xce c n) (hs : g c 1 = nI m) (hm : m ≤ n) (hm6 : m ≤ 6) (hc1 : c ≠ 17) (hc2 : c + 1 ≠ 17) : xT (k + 5) 140 [.ref 0, .ref (43 + L), .ref c] (xH b g l) (fun r M' => M' = xH b (gset g 17 m (xst (L / 4) (L % 4) (xB (g (b.1 + 1)) (L / 4) (g (c + 1))) m)) l ∧ r = some (.int (if xnz (xst (L / 4) (L % 4) (xB (g (b.1 + 1)) (L / 4) (g (c + 1))) m) m (xps (L / 4) (L % 4) (g (c + 1)) m) = true then 1 else 0))) := by
  refine xT.of rfl (Nat.le_of_ble_eq_true rfl) ?_
  dsimp only [lv_args]
  refine xS.s1 rfl rfl ?_
  try dsimp only [Nat.reduceAdd]
  -- 1 yX0_size
  refine xS.cv rfl rfl rfl (hF.1 _) rfl rfl ⟨by decide, rfl, rfl⟩ (c_X0_size hF) (fun v M1 hv => ?_)
  rw [hv.1, hv.2, hs]
  clear hv M1 v
  try dsimp only [Nat.reduceAdd, Option.toList, List.cons_append, List.nil_append, List.drop]
  refine xS.s1 rfl rfl ?_
  try dsimp only [Nat.reduceAdd, xj_6]
  refine xS.s3 (pc' := 9) (M1 := xH b g l) (st' := [.int (if (6 : Int32) < nI m then 6 else nI m)]) rfl rfl rfl (fun _ _ => rfl) ?_
  rw [show (if (6 : Int32) < nI m then 6 else nI m) = nI m from if_neg (Int32.not_lt.mpr (nI_le (b := 6) hm6 (by omega)))]
  refine xS.s1 rfl rfl ?_
  try dsimp only [Nat.reduceAdd]
  refine xS.s1 rfl rfl ?_
  try dsimp only [Nat.reduceAdd, xi_0]
  refine xS.s1 rfl rfl ?_
  try dsimp only [Nat.reduceAdd]
  refine xS.pick [0, 2, 3, 4, 1] rfl ?_
  refine xS.loop (σ := Unit) (m) (fun j S => [(4, .int (nI j)), (0, .ref 0), (1, .ref (43 + L)), (2, .ref c), (3, .int (nI m))]) (fun j _ => xH b (gfill g 17 j 63) l) (fun _ _ => True) (()) (rfl) (by rw [gfill_0]) (trivial) ?_
  intro j S hj hI ih
  try dsimp only
  refine xS.s1 rfl rfl ?_
  try dsimp only [Nat.reduceAdd]
  refine xS.s1 rfl rfl ?_
  try dsimp only [Nat.reduceAdd]
  refine xS.br (c := .ge) (off := 18) (l := 3) rfl rfl (fun h16 => ?_) (fun h16 => ?_)
  · have g16 := xt_ge h16
    have ej : m = j := by
      have := xnle g16 (by omega) (by omega)
      omega
    subst ej
    refine xS.s1 rfl rfl ?_
    try dsimp only [Nat.reduceAdd, xi_1]
    refine xS.s1 rfl rfl ?_
    try dsimp only [Nat.reduceAdd]
    refine xS.s1 rfl rfl ?_
    try dsimp only [Nat.reduceAdd, xi_0]
    refine xS.s1 rfl rfl ?_
    try dsimp only [Nat.reduceAdd]
    refine xS.pick [0, 1, 2, 3, 4, 5] rfl ?_
    refine xS.loop (σ := Unit) (m) (fun i S => [(5, .int (nI i)), (4, .int (if xps (L / 4) (L % 4) (g (c + 1)) i = true then 1 else 0)), (0, .ref 0), (1, .ref (43 + L)), (2, .ref c), (3, .int (nI m))]) (fun i _ => xH b (gset g 17 m (xst (L / 4) (L % 4) (xB (g (b.1 + 1)) (L / 4) (g (c + 1))) i)) l) (fun _ _ => True) (()) (rfl) (rfl) (trivial) ?_
    intro i S2 hi hI2 ih2
    try dsimp only
    have hR2 : xRm (gset g 17 m (xst (L / 4) (L % 4) (xB (g (b.1 + 1)) (L / 4) (g (c + 1))) i)) b.1 G T Lw := xRm_fr (fun i _ _ => gset_na (by omega)) hR
    have hp2 : xpn (gset g 17 m (xst (L / 4) (L % 4) (xB (g (b.1 + 1)) (L / 4) (g (c + 1))) i)) := xpn_fr (fun i _ _ => gset_na (by omega)) hp
    have hs2 : gset g 17 m (xst (L / 4) (L % 4) (xB (g (b.1 + 1)) (L / 4) (g (c + 1))) i) c 1 = nI m := by rw [gset_na hc1]; exact hs
    have e1 : gset g 17 m (xst (L / 4) (L % 4) (xB (g (b.1 + 1)) (L / 4) (g (c + 1))) i) (b.1 + 1) = g (b.1 + 1) := gset_na (by omega)
    have ec : gset g 17 m (xst (L / 4) (L % 4) (xB (g (b.1 + 1)) (L / 4) (g (c + 1))) i) (c + 1) = g (c + 1) := gset_na hc2
    refine xS.s1 rfl rfl ?_
    try dsimp only [Nat.reduceAdd]
    refine xS.s1 rfl rfl ?_
    try dsimp only [Nat.reduceAdd]
    refine xS.br (c := .ge) (off := 69) (l := 3) rfl rfl (fun h43 => ?_) (fun h43 => ?_)
    · have g43 := xt_ge h43
      have ei : m = i := by
        have := xnle g43 (by omega) (by omega)
        omega
      subst ei
      refine xS.s1 rfl rfl ?_
      try dsimp only [Nat.reduceAdd, xi_0]
      refine xS.s1 rfl rfl ?_
      try dsimp only [Nat.reduceAdd]
      refine xS.pick [0, 1, 2, 3, 4, 5] rfl ?_
      refine xS.loop (σ := Unit) (m) (fun i S => [(5, .int (nI i)), (4, .int (if xnz (xst (L / 4) (L % 4) (xB (g (b.1 + 1)) (L / 4) (g (c + 1))) m) i (xps (L / 4) (L % 4) (g (c + 1)) m) = true then 1 else 0)), (0, .ref 0), (1, .ref (43 + L)), (2, .ref c), (3, .int (nI m))]) (fun _ _ => xH b (gset g 17 m (xst (L / 4) (L % 4) (xB (g (b.1 + 1)) (L / 4) (g (c + 1))) m)) l) (fun _ _ => True) (()) (rfl) (rfl) (trivial) ?_
      intro i S3 hi hI3 ih3
      try dsimp only
      refine xS.s1 rfl rfl ?_
      try dsimp only [Nat.reduceAdd]
      refine xS.s1 rfl rfl ?_
      try dsimp only [Nat.reduceAdd]
      refine xS.br (c := .ge) (off := 29) (l := 3) rfl rfl (fun h118 => ?_) (fun h118 => ?_)
      · have g118 := xt_ge h118
        refine xS.s1 rfl rfl ?_
        try dsimp only [Nat.reduceAdd]
        refine xS.retB rfl rfl ?_
        have ei : m = i := by
          have := xnle g118 (by omega) (by omega)
          omega
        subst ei
        exact ⟨rfl, rfl⟩
      · have g118 := xf_ge h118
        have hlt := xnlt g118 (by omega) (by omega)
        refine xS.s1 rfl rfl ?_
        try dsimp only [Nat.reduceAdd]
        refine xS.s1 rfl rfl ?_
        try dsimp only [Nat.reduceAdd]
        refine xS.gR rfl rfl rfl ⟨by decide, rfl⟩ rfl ?_
        try dsimp only [Nat.reduceAdd]
        refine xS.s1 rfl rfl ?_
        try dsimp only [Nat.reduceAdd]
        refine xS.ia rfl xar_17 (by omega) ?_
        try dsimp only [Nat.reduceAdd]
        rw [gset_in (by omega)]
        refine xS.br0 (c := .eq) (off := 7) (l := 3) rfl rfl (fun h130 => ?_) (fun h130 => ?_)
        · have g130 := xt_eq h130
          refine xS.s1 rfl rfl ?_
          try dsimp only [Nat.reduceAdd, xi_0]
          refine xS.s1 rfl rfl ?_
          try dsimp only [Nat.reduceAdd]
          refine xS.s1 rfl rfl ?_
          try dsimp only [Nat.reduceAdd]
          refine xS.s1 rfl rfl ?_
          try dsimp only [Nat.reduceAdd, xi_1]
          rw [nI_1]
          refine xS.s1 rfl rfl ?_
          try dsimp only [Nat.reduceAdd]
          refine xS.pick [0, 1, 2, 3, 4, 5] rfl ?_
          have ih4 := ih3 () (by omega) trivial
          rw [show xnz (xst (L / 4) (L % 4) (xB (g (b.1 + 1)) (L / 4) (g (c + 1))) m) (i + 1) (xps (L / 4) (L % 4) (g (c + 1)) m) = (xnz (xst (L / 4) (L % 4) (xB (g (b.1 + 1)) (L / 4) (g (c + 1))) m) i (xps (L / 4) (L % 4) (g (c + 1)) m) && !decide ((xst (L / 4) (L % 4) (xB (g (b.1 + 1)) (L / 4) (g (c + 1))) m) i = 0)) from rfl] at ih4
          simp only [g130, decide_true, decide_false, Bool.not_true, Bool.not_false, Bool.and_true, Bool.and_false, if_false, Bool.false_eq_true] at ih4
          rw [xbo]
          exact ih4
        · have g130 := xf_eq h130
          refine xS.s1 rfl rfl ?_
          try dsimp only [Nat.reduceAdd, xi_1]
          refine xS.s1 rfl rfl ?_
          try dsimp only [Nat.reduceAdd]
          refine xS.s1 rfl rfl ?_
          try dsimp only [Nat.reduceAdd]
          refine xS.s1 rfl rfl ?_
          try dsimp only [Nat.reduceAdd]
          refine xS.s1 rfl rfl ?_
          try dsimp only [Nat.reduceAdd, xi_1]
          rw [nI_1]
          refine xS.s1 rfl rfl ?_
          try dsimp only [Nat.reduceAdd]
          refine xS.pick [0, 1, 2, 3, 4, 5] rfl ?_
          have ih4 := ih3 () (by omega) trivial
          rw [show xnz (xst (L / 4) (L % 4) (xB (g (b.1 + 1)) (L / 4) (g (c + 1))) m) (i + 1) (xps (L / 4) (L % 4) (g (c + 1)) m) = (xnz (xst (L / 4) (L % 4) (xB (g (b.1 + 1)) (L / 4) (g (c + 1))) m) i (xps (L / 4) (L % 4) (g (c + 1)) m) && !decide ((xst (L / 4) (L % 4) (xB (g (b.1 + 1)) (L / 4) (g (c + 1))) m) i = 0)) from rfl] at ih4
          simp only [g130, decide_true, decide_false, Bool.not_true, Bool.not_false, Bool.and_true, Bool.and_false, if_false, Bool.false_eq_true] at ih4
          rw [xbi]
          exact ih4
    · have g43 := xf_ge h43
      have hlt := xnlt g43 (by omega) (by omega)
      refine xS.s1 rfl rfl ?_
      try dsimp only [Nat.reduceAdd]
      refine xS.s1 rfl rfl ?_
      try dsimp only [Nat.reduceAdd]
      refine xS.cSrc rfl rfl hp2 hL (by omega) rfl ?_
      try dsimp only [Nat.reduceAdd]
      refine xS.s1 rfl rfl ?_
      try dsimp only [Nat.reduceAdd]
      refine xS.s1 rfl rfl ?_
      try dsimp only [Nat.reduceAdd]
      refine xS.br0 (c := .lt) (off := 38) (l := 3) rfl rfl (fun h56 => ?_) (fun h56 => ?_)
      · have g56 := xt_lt h56
        rw [xsrc_pos (fun s h => by have := xsrc_le h; omega)] at g56
        have eu := g56
        clear g56
        refine xS.s1 rfl rfl ?_
        try dsimp only [Nat.reduceAdd]
        refine xS.s1 rfl rfl ?_
        try dsimp only [Nat.reduceAdd]
        -- 97 yX0_get
        refine xS.cv rfl rfl rfl (hF.1 _) rfl rfl ⟨by decide, rfl, rfl⟩ (c_X0_get hF hs2 hm hlt) (fun v M1 hv => ?_)
        rw [hv.1, hv.2, ec]
        clear hv M1 v
        try dsimp only [Nat.reduceAdd, Option.toList, List.cons_append, List.nil_append, List.drop]
        refine xS.br0 (c := .eq) (off := 6) (l := 3) rfl rfl (fun h100 => ?_) (fun h100 => ?_)
        · have g100 := xt_eq h100
          refine xS.s1 rfl rfl ?_
          try dsimp only [Nat.reduceAdd, xi_1]
          rw [nI_1]
          refine xS.s1 rfl rfl ?_
          try dsimp only [Nat.reduceAdd]
          refine xS.pick [0, 2, 3, 4, 5, 6] rfl ?_
          have ih3 := ih2 () (by omega) trivial
          rw [xst_none eu, xps_z eu g100] at ih3
          exact ih3
        · have g100 := xf_eq h100
          refine xS.s1 rfl rfl ?_
          try dsimp only [Nat.reduceAdd, xi_0]
          refine xS.s1 rfl rfl ?_
          try dsimp only [Nat.reduceAdd]
          refine xS.s1 rfl rfl ?_
          try dsimp only [Nat.reduceAdd, xi_1]
          rw [nI_1]
          refine xS.s1 rfl rfl ?_
          try dsimp only [Nat.reduceAdd]
          refine xS.pick [0, 1, 3, 4, 5, 6] rfl ?_
          have ih3 := ih2 () (by omega) trivial
          rw [xst_none eu, xps_nz eu g100] at ih3
          exact ih3
      · have g56 := xf_lt h56
        obtain ⟨u, eu⟩ : ∃ u, xsrc (L / 4) (L % 4) i = some u := by
          cases e : xsrc (L / 4) (L % 4) i with
          | none => rw [e] at g56; exact absurd g56 (by decide)
          | some u => exact ⟨u, rfl⟩
        have hu := xsrc_le eu
        rw [eu]
        change xS _ _ _ _ _ _ _
        refine xS.s1 rfl rfl ?_
        try dsimp only [Nat.reduceAdd]
        refine xS.s1 rfl rfl ?_
        try dsimp only [Nat.reduceAdd]
        refine xS.br (c := .ge) (off := 32) (l := 3) rfl rfl (fun h62 => ?_) (fun h62 => ?_)
        · have g62 := xt_ge h62
          exfalso; have := xnle (a := u) (b := m) g62 (by omega) (by omega); omega
        · have g62 := xf_ge h62
          refine xS.s1 rfl rfl ?_
          try dsimp only [Nat.reduceAdd]
          refine xS.gR rfl rfl rfl ⟨by decide, rfl⟩ rfl ?_
          try dsimp only [Nat.reduceAdd]
          refine xS.s1 rfl rfl ?_
          try dsimp only [Nat.reduceAdd]
          refine xS.s1 rfl rfl ?_
          try dsimp only [Nat.reduceAdd]
          refine xS.ia rfl xar_17 (by omega) ?_
          try dsimp only [Nat.reduceAdd]
          rw [gset_in (by omega)]
          refine xS.s1 rfl rfl ?_
          try dsimp only [Nat.reduceAdd]
          refine xS.gR rfl rfl rfl ⟨by decide, rfl⟩ rfl ?_
          try dsimp only [Nat.reduceAdd]
          refine xS.s1 rfl rfl ?_
          try dsimp only [Nat.reduceAdd]
          refine xS.s1 rfl rfl ?_
          try dsimp only [Nat.reduceAdd]
          refine xS.s1 rfl rfl ?_
          try dsimp only [Nat.reduceAdd]
          refine xS.s1 rfl rfl ?_
          try dsimp only [Nat.reduceAdd]
          -- 83 yX0_get
          refine xS.cv rfl rfl rfl (hF.1 _) rfl rfl ⟨by decide, rfl, rfl⟩ (c_X0_get hF hs2 hm hlt) (fun v M1 hv => ?_)
          rw [hv.1, hv.2, ec]
          clear hv M1 v
          try dsimp only [Nat.reduceAdd, Option.toList, List.cons_append, List.nil_append, List.drop]
          -- 86 yX8_stepsSeenAs
          refine xS.cv rfl rfl rfl (hb.1 _) rfl rfl ⟨by decide, rfl, rfl⟩ (c_X8_stepsSeenAs hb hL (by omega)) (fun v M1 hv => ?_)
          rw [hv.1, hv.2, e1]
          clear hv M1 v
          try dsimp only [Nat.reduceAdd, Option.toList, List.cons_append, List.nil_append, List.drop]
          refine xS.s1 rfl rfl ?_
          try dsimp only [Nat.reduceAdd]
          refine xS.ias rfl xar_17 (by omega) ?_
          try dsimp only [Nat.reduceAdd]
          rw [gset_up (by omega)]
          refine xS.s1 rfl rfl ?_
          try dsimp only [Nat.reduceAdd]
          refine xS.s1 rfl rfl ?_
          try dsimp only [Nat.reduceAdd, xi_1]
          rw [nI_1]
          refine xS.s1 rfl rfl ?_
          try dsimp only [Nat.reduceAdd]
          refine xS.pick [0, 2, 3, 4, 5, 6] rfl ?_
          have ih3 := ih2 () (by omega) trivial
          rw [xst_some eu, xps_some eu] at ih3
          exact ih3
  · have g16 := xf_ge h16
    have hlt := xnlt g16 (by omega) (by omega)
    refine xS.s1 rfl rfl ?_
    try dsimp only [Nat.reduceAdd]
    refine xS.gR rfl rfl rfl ⟨by decide, rfl⟩ rfl ?_
    try dsimp only [Nat.reduceAdd]
    refine xS.s1 rfl rfl ?_
    try dsimp only [Nat.reduceAdd]
    refine xS.s1 rfl rfl ?_
    try dsimp only [Nat.reduceAdd, xj_63]
    refine xS.ias rfl xar_17 (by omega) ?_
    try dsimp only [Nat.reduceAdd]
    refine xS.s1 rfl rfl ?_
    try dsimp only [Nat.reduceAdd, xi_1]
    rw [nI_1]
    refine xS.s1 rfl rfl ?_
    try dsimp only [Nat.reduceAdd]
    refine xS.pick [0, 1, 2, 3, 4] rfl ?_
    rw [gfill_s]
    exact ih () (by omega) trivial

end
end
section
/-! LimpMirror: tallies, turns, the greatest common divisor -/
theorem xmir_stp {x : Int32} (h : xstp x) : xstp (xmir x) := by
  obtain ⟨v, hv, rfl⟩ := h
  have : ∀ v, v < 6 → xmir (nI v) = nI (if v = 1 then 2 else if v = 2 then 1 else v) := by decide
  rw [this v hv]
  exact ⟨_, by split <;> (try split) <;> omega, rfl⟩
theorem xseen_stp {h : Nat → Int32} {κ i s : Nat} (hh : ∀ s, s < 6 → xstp (h s)) (hs : s < 6) : xstp (xseen h κ i s) := by
  unfold xseen
  refine xmir_stp ?_
  cases xth κ i
  · exact ⟨s, hs, rfl⟩
  · exact hh s hs
theorem xshw_stp {h : Nat → Int32} {κ δ i : Nat} {f : Nat → Nat} (hh : ∀ s, s < 6 → xstp (h s)) (hf : ∀ s, s ≤ i → f s < 6) : xstp (xshw h κ δ f i) := by
  unfold xshw
  cases e : xsrc κ δ i with
  | none => exact ⟨0, by omega, rfl⟩
  | some s => exact xseen_stp hh (hf s (xsrc_le e))
/-- how many of the first n that p has go to v -/
def xtl (p : Nat → Bool) (w : Nat → Nat) (n v : Nat) : Nat := xcnt (fun j => p j && decide (w j = v)) n
def xmx (p : Nat → Bool) (w : Nat → Nat) (n : Nat) : Nat := Nat.rec (motive := fun _ => Nat) 0 (fun j c => bif p j then max c (xtl p w (j + 1) (w j)) else c) n
theorem xmx_s (p : Nat → Bool) (w : Nat → Nat) (n : Nat) : xmx p w (n + 1) = bif p n then max (xmx p w n) (xtl p w (n + 1) (w n)) else xmx p w n := rfl
theorem xtl_le (p : Nat → Bool) (w : Nat → Nat) (n v : Nat) : xtl p w n v ≤ n := xcnt_le _ _
theorem xmx_le (p : Nat → Bool) (w : Nat → Nat) : ∀ n, xmx p w n ≤ n
  | 0 => Nat.le_refl 0
  | n + 1 => by
    have h1 := xmx_le p w n
    have h2 := xtl_le p w (n + 1) (w n)
    rw [xmx_s]
    cases p n
    · exact Nat.le_succ_of_le h1
    · show max _ _ ≤ _
      omega
theorem xtl_s (p : Nat → Bool) (w : Nat → Nat) (n v : Nat) : xtl p w (n + 1) v = bif (p n && decide (w n = v)) then xtl p w n v + 1 else xtl p w n v := rfl
theorem nI_max {a b : Nat} (ha : a < 2 ^ 31) (hb : b < 2 ^ 31) : (if nI a < nI b then nI b else nI a) = nI (max a b) := by
  by_cases h : a < b
  · rw [if_pos (nI_lt h hb), Nat.max_eq_right (by omega)]
  · rw [if_neg (nI_nlt (by omega) ha), Nat.max_eq_left (by omega)]
theorem nI_min {a b : Nat} (ha : a < 2 ^ 31) (hb : b < 2 ^ 31) : (if nI b < nI a then nI b else nI a) = nI (min a b) := by
  by_cases h : b < a
  · rw [if_pos (nI_lt h ha), Nat.min_eq_right (by omega)]
  · rw [if_neg (nI_nlt (by omega) hb), Nat.min_eq_left (by omega)]

theorem xS.mx {q : xQ} {k pc l0 idx idx' x1 : Nat} {x2 : List (Nat × Nat)} {lv : xL} {rest : List Value} {P : Option Value → xM → Prop} {M : xM} {x y : Int32} (hl : xe_lkF q.1 pc = some (.invokestatic idx, l0)) (hx : xcF q.2.1 idx = some (idx', 5, x1, x2)) (hr : xe_sum rest = true) (h : xS q k (pc + 3) lv (.int (if x < y then y else x) :: rest) M P) : xS q k pc lv (.int y :: .int x :: rest) M P := by
  refine xS.s3 (pc' := pc + 3) (st' := .int (if x < y then y else x) :: rest) (M1 := M) hl rfl rfl (fun c ih => ?_) h
  show xe_callS c q.2.1 idx pc lv _ M ih = _
  unfold xe_callS
  simp only [hx, if_pos hr]
theorem xS.mn {q : xQ} {k pc l0 idx idx' x1 : Nat} {x2 : List (Nat × Nat)} {lv : xL} {rest : List Value} {P : Option Value → xM → Prop} {M : xM} {x y : Int32} (hl : xe_lkF q.1 pc = some (.invokestatic idx, l0)) (hx : xcF q.2.1 idx = some (idx', 6, x1, x2)) (hr : xe_sum rest = true) (h : xS q k (pc + 3) lv (.int (if y < x then y else x) :: rest) M P) : xS q k pc lv (.int y :: .int x :: rest) M P := by
  refine xS.s3 (pc' := pc + 3) (st' := .int (if y < x then y else x) :: rest) (M1 := M) hl rfl rfl (fun c ih => ?_) h
  show xe_callS c q.2.1 idx pc lv _ M ih = _
  unfold xe_callS
  simp only [hx, if_pos hr]

theorem xS.lrem {q : xQ} {k pc l0 : Nat} {lv : xL} {rest : List Value} {P : Option Value → xM → Prop} {M : xM} {x y : Int64} (hl : xe_lkF q.1 pc = some (.lrem, l0)) (hy : ¬ y = 0) (h : xS q k (pc + 1) lv (.long (x - x / y * y) :: rest) M P) : xS q k pc lv (.long y :: .long x :: rest) M P := by
  refine xS.s1 (f := (pc + 1, lv, .long (x - x / y * y) :: rest)) hl ?_ h
  show xa_lrem pc lv (.long y :: .long x :: rest) = _
  unfold xa_lrem
  dsimp only
  rw [if_neg hy]
theorem xS.ldiv {q : xQ} {k pc l0 : Nat} {lv : xL} {rest : List Value} {P : Option Value → xM → Prop} {M : xM} {x y : Int64} (hl : xe_lkF q.1 pc = some (.ldiv, l0)) (hy : ¬ y = 0) (h : xS q k (pc + 1) lv (.long (x / y) :: rest) M P) : xS q k pc lv (.long y :: .long x :: rest) M P := by
  refine xS.s1 (f := (pc + 1, lv, .long (x / y) :: rest)) hl ?_ h
  show xa_ldiv pc lv (.long y :: .long x :: rest) = _
  unfold xa_ldiv
  dsimp only
  rw [if_neg hy]

section
variable {k a c n n2 m t p s d i1 j1 : Nat} {b : Nat × Nat} {g : Nat → Nat → Int32} {l : Nat → Nat → Int64} {i j x y z v w : Int32} {u w1 w2 : Int64}
variable {L G T : Nat} {Lw : Nat → Nat}
set_option maxRecDepth 10000 in
theorem c_X11_mostThatShowOneThing (hb : xro b.1) (hR : xRm g b.1 G T Lw) (hp : xpn g) (hbv : b.1 = 7 ∨ b.1 = 11) (hs : g 15 1 = nI m) (hm : m ≤ 12) (hx : ∀ i, i ≤ t → xstp (g 16 i)) (hlt : t < m) : xT (k + 5) 144 [.ref 0, .int x, .int (nI t)] (xH b g l) (fun r M' => M' = xH b (gset g 18 6 (fun v => nI (xtl (fun j => decide ((x >>> (nI j &&& 31)) &&& 1 = 1)) (fun j => xN (xshw (g (b.1 + 1)) (j / 4) (j % 4) (fun i => xN (g 16 i)) t)) 24 v))) l ∧ r = some (.int (nI (xmx (fun j => decide ((x >>> (nI j &&& 31)) &&& 1 = 1)) (fun j => xN (xshw (g (b.1 + 1)) (j / 4) (j % 4) (fun i => xN (g 16 i)) t)) 24)))) := by
  refine xT.of rfl (Nat.le_of_ble_eq_true rfl) ?_
  dsimp only [lv_args]
  refine xS.s1 rfl rfl ?_
  try dsimp only [Nat.reduceAdd, xi_0]
  refine xS.s1 rfl rfl ?_
  try dsimp only [Nat.reduceAdd]
  refine xS.pick [0, 1, 2, 3] rfl ?_
  refine xS.loop (σ := Unit) (6) (fun j S => [(3, .int (nI j)), (0, .ref 0), (1, .int x), (2, .int (nI t))]) (fun j _ => xH b (gfill g 18 j 0) l) (fun _ _ => True) (()) (rfl) (by rw [gfill_0]) (trivial) ?_
  intro j S hj hI ih
  try dsimp only
  refine xS.s1 rfl rfl ?_
  try dsimp only [Nat.reduceAdd]
  refine xS.s1 rfl rfl ?_
  try dsimp only [Nat.reduceAdd, xj_6]
  refine xS.br (c := .ge) (off := 16) (l := 3) rfl rfl (fun h5 => ?_) (fun h5 => ?_)
  · have g5 := xt_ge h5
    have ej : 6 = j := by
      have := xnle (b := 6) g5 (by omega) (by omega)
      omega
    subst ej
    refine xS.s1 rfl rfl ?_
    try dsimp only [Nat.reduceAdd, xi_0]
    refine xS.s1 rfl rfl ?_
    try dsimp only [Nat.reduceAdd]
    refine xS.s1 rfl rfl ?_
    try dsimp only [Nat.reduceAdd, xi_0]
    refine xS.s1 rfl rfl ?_
    try dsimp only [Nat.reduceAdd]
    refine xS.pick [0, 1, 2, 3, 4] rfl ?_
    refine xS.loop (σ := Unit) (24) (fun i S => [(4, .int (nI i)), (3, .int (nI (xmx (fun j => decide ((x >>> (nI j &&& 31)) &&& 1 = 1)) (fun j => xN (xshw (g (b.1 + 1)) (j / 4) (j % 4) (fun i => xN (g 16 i)) t)) i))), (0, .ref 0), (1, .int x), (2, .int (nI t))]) (fun i _ => xH b (gset g 18 6 (fun v => nI (xtl (fun j => decide ((x >>> (nI j &&& 31)) &&& 1 = 1)) (fun j => xN (xshw (g (b.1 + 1)) (j / 4) (j % 4) (fun i => xN (g 16 i)) t)) i v))) l) (fun _ _ => True) (()) (rfl) (rfl) (trivial) ?_
    intro i S2 hi hI2 ih2
    try dsimp only
    have hR2 : xRm (gset g 18 6 (fun v => nI (xtl (fun j => decide ((x >>> (nI j &&& 31)) &&& 1 = 1)) (fun j => xN (xshw (g (b.1 + 1)) (j / 4) (j % 4) (fun i => xN (g 16 i)) t)) i v))) b.1 G T Lw := xRm_fr (fun i _ _ => gset_na (by omega)) hR
    have hp2 : xpn (gset g 18 6 (fun v => nI (xtl (fun j => decide ((x >>> (nI j &&& 31)) &&& 1 = 1)) (fun j => xN (xshw (g (b.1 + 1)) (j / 4) (j % 4) (fun i => xN (g 16 i)) t)) i v))) := xpn_fr (fun i _ _ => gset_na (by omega)) hp
    have hs2 : gset g 18 6 (fun v => nI (xtl (fun j => decide ((x >>> (nI j &&& 31)) &&& 1 = 1)) (fun j => xN (xshw (g (b.1 + 1)) (j / 4) (j % 4) (fun i => xN (g 16 i)) t)) i v)) 15 1 = nI m := by rw [gset_na (by decide)]; exact hs
    have e1 : gset g 18 6 (fun v => nI (xtl (fun j => decide ((x >>> (nI j &&& 31)) &&& 1 = 1)) (fun j => xN (xshw (g (b.1 + 1)) (j / 4) (j % 4) (fun i => xN (g 16 i)) t)) i v)) (b.1 + 1) = g (b.1 + 1) := gset_na (by omega)
    have e16 : gset g 18 6 (fun v => nI (xtl (fun j => decide ((x >>> (nI j &&& 31)) &&& 1 = 1)) (fun j => xN (xshw (g (b.1 + 1)) (j / 4) (j % 4) (fun i => xN (g 16 i)) t)) i v)) 16 = g 16 := gset_na (by decide)
    have hbd := xmx_le (fun j => decide ((x >>> (nI j &&& 31)) &&& 1 = 1)) (fun j => xN (xshw (g (b.1 + 1)) (j / 4) (j % 4) (fun i => xN (g 16 i)) t)) i
    refine xS.s1 rfl rfl ?_
    try dsimp only [Nat.reduceAdd]
    refine xS.s1 rfl rfl ?_
    try dsimp only [Nat.reduceAdd, xj_24]
    refine xS.br (c := .ge) (off := 71) (l := 3) rfl rfl (fun h30 => ?_) (fun h30 => ?_)
    · have g30 := xt_ge h30
      refine xS.s1 rfl rfl ?_
      try dsimp only [Nat.reduceAdd]
      refine xS.ret rfl rfl rfl (fun _ _ => rfl) ?_
      have ei : 24 = i := by
        have := xnle (b := 24) g30 (by omega) (by omega)
        omega
      subst ei
      exact ⟨rfl, rfl⟩
    · have g30 := xf_ge h30
      have hli := xnlt (b := 24) g30 (by omega) (by omega)
      refine xS.s1 rfl rfl ?_
      try dsimp only [Nat.reduceAdd]
      refine xS.s1 rfl rfl ?_
      try dsimp only [Nat.reduceAdd]
      refine xS.s1 rfl rfl ?_
      try dsimp only [Nat.reduceAdd]
      refine xS.s1 rfl rfl ?_
      try dsimp only [Nat.reduceAdd, xi_1]
      refine xS.s1 rfl rfl ?_
      try dsimp only [Nat.reduceAdd]
      refine xS.s1 rfl rfl ?_
      try dsimp only [Nat.reduceAdd, xi_1]
      refine xS.br (c := .ne) (off := 55) (l := 3) rfl rfl (fun h40 => ?_) (fun h40 => ?_)
      · have g40 := xt_ne h40
        refine xS.s1 rfl rfl ?_
        try dsimp only [Nat.reduceAdd, xi_1]
        rw [nI_1]
        refine xS.s1 rfl rfl ?_
        try dsimp only [Nat.reduceAdd]
        refine xS.pick [0, 1, 2, 3, 4] rfl ?_
        have ih3 := ih2 () (by omega) trivial
        rw [show (fun v => nI (xtl (fun j => decide ((x >>> (nI j &&& 31)) &&& 1 = 1)) (fun j => xN (xshw (g (b.1 + 1)) (j / 4) (j % 4) (fun i => xN (g 16 i)) t)) (i + 1) v)) = (fun v => nI (xtl (fun j => decide ((x >>> (nI j &&& 31)) &&& 1 = 1)) (fun j => xN (xshw (g (b.1 + 1)) (j / 4) (j % 4) (fun i => xN (g 16 i)) t)) i v)) from by funext v; rw [xtl_s]; simp [g40], show xmx (fun j => decide ((x >>> (nI j &&& 31)) &&& 1 = 1)) (fun j => xN (xshw (g (b.1 + 1)) (j / 4) (j % 4) (fun i => xN (g 16 i)) t)) (i + 1) = xmx (fun j => decide ((x >>> (nI j &&& 31)) &&& 1 = 1)) (fun j => xN (xshw (g (b.1 + 1)) (j / 4) (j % 4) (fun i => xN (g 16 i)) t)) i from by rw [xmx_s]; simp [g40]] at ih3
        exact ih3
      · have g40 := xf_ne h40
        refine xS.s1 rfl rfl ?_
        try dsimp only [Nat.reduceAdd]
        refine xS.gR rfl rfl rfl ⟨by decide, rfl⟩ rfl ?_
        try dsimp only [Nat.reduceAdd]
        refine xS.s1 rfl rfl ?_
        try dsimp only [Nat.reduceAdd]
        refine xS.gR rfl rfl rfl ⟨by decide, rfl⟩ rfl ?_
        try dsimp only [Nat.reduceAdd]
        refine xS.s1 rfl rfl ?_
        try dsimp only [Nat.reduceAdd]
        refine xS.aR rfl rfl (by decide) (by omega) (xsh3_get (by omega)) ?_
        try dsimp only [Nat.reduceAdd]
        refine xS.s1 rfl rfl ?_
        try dsimp only [Nat.reduceAdd]
        refine xS.gR rfl rfl rfl ⟨by decide, rfl⟩ rfl ?_
        try dsimp only [Nat.reduceAdd]
        refine xS.s1 rfl rfl ?_
        try dsimp only [Nat.reduceAdd]
        -- 59 yX8_shown
        refine xS.cv rfl rfl rfl (hb.1 _) rfl rfl ⟨by decide, rfl, rfl⟩ (c_X8_shown_C hb xce_trial hp2 hli (by omega) hs2 hm (fun s h => ⟨Nat.lt_of_le_of_lt (xsrc_le h) hlt, by show xstp (gset g 18 6 (fun v => nI (xtl (fun j => decide ((x >>> (nI j &&& 31)) &&& 1 = 1)) (fun j => xN (xshw (g (b.1 + 1)) (j / 4) (j % 4) (fun i => xN (g 16 i)) t)) i v)) 16 s); rw [e16]; exact hx s (xsrc_le h)⟩)) (fun v M1 hv => ?_)
        rw [hv.1, hv.2, e1]
        clear hv M1 v
        rw [show (fun s => xN (gset g 18 6 (fun v => nI (xtl (fun j => decide ((x >>> (nI j &&& 31)) &&& 1 = 1)) (fun j => xN (xshw (g (b.1 + 1)) (j / 4) (j % 4) (fun i => xN (g 16 i)) t)) i v)) (15 + 1) s)) = (fun i => xN (g 16 i)) from by rw [show 15 + 1 = 16 from rfl, e16]]
        try dsimp only [Nat.reduceAdd, Option.toList, List.cons_append, List.nil_append, List.drop]
        have hst : xstp (xshw (g (b.1 + 1)) (i / 4) (i % 4) (fun i => xN (g 16 i)) t) := xshw_stp hR.2.2.2 (fun s h => (xstp_N (hx s h)).1)
        obtain ⟨h6, he⟩ := xstp_N hst
        rw [he]
        have htl : (fun v => nI (xtl (fun j => decide ((x >>> (nI j &&& 31)) &&& 1 = 1)) (fun j => xN (xshw (g (b.1 + 1)) (j / 4) (j % 4) (fun i => xN (g 16 i)) t)) (i + 1) v)) = (fun p => if p = (xN (xshw (g (b.1 + 1)) (i / 4) (i % 4) (fun i => xN (g 16 i)) t)) then nI (xtl (fun j => decide ((x >>> (nI j &&& 31)) &&& 1 = 1)) (fun j => xN (xshw (g (b.1 + 1)) (j / 4) (j % 4) (fun i => xN (g 16 i)) t)) i (xN (xshw (g (b.1 + 1)) (i / 4) (i % 4) (fun i => xN (g 16 i)) t)) + 1) else nI (xtl (fun j => decide ((x >>> (nI j &&& 31)) &&& 1 = 1)) (fun j => xN (xshw (g (b.1 + 1)) (j / 4) (j % 4) (fun i => xN (g 16 i)) t)) i p)) := by
          funext v
          rw [xtl_s]
          by_cases hv : v = (xN (xshw (g (b.1 + 1)) (i / 4) (i % 4) (fun i => xN (g 16 i)) t))
          · rw [if_pos hv, hv]
            simp [g40]
          · rw [if_neg hv]
            have hv3 : decide ((xN (xshw (g (b.1 + 1)) (i / 4) (i % 4) (fun i => xN (g 16 i)) t)) = v) = false := decide_eq_false (fun z => hv z.symm)
            rw [hv3, Bool.and_false]
            rfl
        have hmx : xmx (fun j => decide ((x >>> (nI j &&& 31)) &&& 1 = 1)) (fun j => xN (xshw (g (b.1 + 1)) (j / 4) (j % 4) (fun i => xN (g 16 i)) t)) (i + 1) = max (xmx (fun j => decide ((x >>> (nI j &&& 31)) &&& 1 = 1)) (fun j => xN (xshw (g (b.1 + 1)) (j / 4) (j % 4) (fun i => xN (g 16 i)) t)) i) (xtl (fun j => decide ((x >>> (nI j &&& 31)) &&& 1 = 1)) (fun j => xN (xshw (g (b.1 + 1)) (j / 4) (j % 4) (fun i => xN (g 16 i)) t)) i (xN (xshw (g (b.1 + 1)) (i / 4) (i % 4) (fun i => xN (g 16 i)) t)) + 1) := by
          rw [xmx_s, xtl_s]
          simp [g40]
        refine xS.s1 rfl rfl ?_
        try dsimp only [Nat.reduceAdd]
        refine xS.s1 rfl rfl ?_
        try dsimp only [Nat.reduceAdd]
        -- 66 yX11_isStep
        refine xS.callS rfl rfl rfl ⟨Nat.le_of_ble_eq_true rfl, rfl⟩ (c_X11_isStep_in h6) (fun v M1 hv => ?_)
        rw [hv.1, hv.2]
        clear hv M1 v
        try dsimp only [Nat.reduceAdd, Option.toList, List.cons_append, List.nil_append, List.drop]
        refine xS.br0 (c := .eq) (off := 26) (l := 3) rfl rfl (fun h69 => ?_) (fun h69 => ?_)
        · have g69 := xt_eq h69
          exact absurd g69 (by decide)
        · have g69 := xf_eq h69
          refine xS.s1 rfl rfl ?_
          try dsimp only [Nat.reduceAdd]
          refine xS.gR rfl rfl rfl ⟨by decide, rfl⟩ rfl ?_
          try dsimp only [Nat.reduceAdd]
          refine xS.s1 rfl rfl ?_
          try dsimp only [Nat.reduceAdd]
          refine xS.s1 rfl rfl ?_
          try dsimp only [Nat.reduceAdd]
          refine xS.ia rfl xar_18 (by omega) ?_
          try dsimp only [Nat.reduceAdd]
          rw [gset_in h6]
          refine xS.s1 rfl rfl ?_
          try dsimp only [Nat.reduceAdd, xi_1]
          refine xS.s1 rfl rfl ?_
          try dsimp only [Nat.reduceAdd]
          refine xS.ias rfl xar_18 (by omega) ?_
          try dsimp only [Nat.reduceAdd]
          rw [gset_up h6]
          refine xS.s1 rfl rfl ?_
          try dsimp only [Nat.reduceAdd]
          refine xS.s1 rfl rfl ?_
          try dsimp only [Nat.reduceAdd]
          refine xS.gR rfl rfl rfl ⟨by decide, rfl⟩ rfl ?_
          try dsimp only [Nat.reduceAdd]
          refine xS.s1 rfl rfl ?_
          try dsimp only [Nat.reduceAdd]
          refine xS.ia rfl xar_18 (by omega) ?_
          try dsimp only [Nat.reduceAdd]
          rw [gset_in h6, if_pos rfl, nI_1]
          have hbe := xtl_le (fun j => decide ((x >>> (nI j &&& 31)) &&& 1 = 1)) (fun j => xN (xshw (g (b.1 + 1)) (j / 4) (j % 4) (fun i => xN (g 16 i)) t)) i (xN (xshw (g (b.1 + 1)) (i / 4) (i % 4) (fun i => xN (g 16 i)) t))
          refine xS.mx rfl rfl rfl ?_
          try dsimp only [Nat.reduceAdd]
          rw [nI_max (by omega) (by omega)]
          refine xS.s1 rfl rfl ?_
          try dsimp only [Nat.reduceAdd]
          refine xS.s1 rfl rfl ?_
          try dsimp only [Nat.reduceAdd, xi_1]
          rw [nI_1]
          refine xS.s1 rfl rfl ?_
          try dsimp only [Nat.reduceAdd]
          refine xS.pick [0, 1, 3, 4, 5] rfl ?_
          have ih3 := ih2 () (by omega) trivial
          rw [htl, hmx] at ih3
          exact ih3
  · have g5 := xf_ge h5
    have hlj := xnlt (b := 6) g5 (by omega) (by omega)
    refine xS.s1 rfl rfl ?_
    try dsimp only [Nat.reduceAdd]
    refine xS.gR rfl rfl rfl ⟨by decide, rfl⟩ rfl ?_
    try dsimp only [Nat.reduceAdd]
    refine xS.s1 rfl rfl ?_
    try dsimp only [Nat.reduceAdd]
    refine xS.s1 rfl rfl ?_
    try dsimp only [Nat.reduceAdd, xi_0]
    refine xS.ias rfl xar_18 (by omega) ?_
    try dsimp only [Nat.reduceAdd]
    refine xS.s1 rfl rfl ?_
    try dsimp only [Nat.reduceAdd, xi_1]
    rw [nI_1]
    refine xS.s1 rfl rfl ?_
    try dsimp only [Nat.reduceAdd]
    refine xS.pick [0, 1, 2, 3] rfl ?_
    rw [gfill_s]
    exact ih () (by omega) trivial

theorem xgcd_step {S B j : Nat} (h1 : 1 ≤ j → S < B) (h2 : S * B * 2 ^ j ≤ 2 ^ 89) (hj : j = 0 → S * B ≤ 2 ^ 88) (hS : 0 < S) : (B % S) < S ∧ (B % S) * S * 2 ^ (j + 1) ≤ 2 ^ 89 := by
  have hlt := Nat.mod_lt B hS
  refine ⟨hlt, ?_⟩
  rcases Nat.eq_zero_or_pos j with e | e
  · subst e
    have h3 := hj rfl
    have h4 : (B % S) * S ≤ S * B := by
      rw [Nat.mul_comm S B]
      exact Nat.mul_le_mul_right S (Nat.mod_le B S)
    have h5 : (B % S) * S * 2 ^ (0 + 1) ≤ 2 ^ 88 * 2 ^ 1 := Nat.mul_le_mul (Nat.le_trans h4 h3) (Nat.le_refl _)
    exact Nat.le_trans h5 (by decide)
  · have h3 := h1 e
    have h4 : 2 * (B % S) ≤ B := by
      have := Nat.div_add_mod B S
      have h6 : 1 ≤ B / S := Nat.div_pos (by omega) hS
      have h7 : S * 1 ≤ S * (B / S) := Nat.mul_le_mul_left S h6
      omega
    have h5 : (B % S) * S * 2 ^ (j + 1) = (2 * (B % S)) * S * 2 ^ j := by
      rw [Nat.pow_succ, Nat.mul_comm (2 ^ j) 2, ← Nat.mul_assoc, Nat.mul_comm (B % S * S) 2, ← Nat.mul_assoc]
    rw [h5]
    refine Nat.le_trans (Nat.mul_le_mul_right _ (Nat.mul_le_mul_right S h4)) ?_
    rw [Nat.mul_comm B S]
    exact h2
theorem lN_inj {a b : Nat} (ha : a < 2 ^ 63) (hb : b < 2 ^ 63) : lN a = lN b ↔ a = b := by
  constructor
  · intro h
    have h1 : (lN a).toInt = (lN b).toInt := by rw [h]
    unfold lN at h1
    rw [lg_ofNat_toInt ha, lg_ofNat_toInt hb] at h1
    omega
  · rintro rfl
    rfl
theorem xlc0 {S : Nat} (h : S < 2 ^ 63) : lg_cmp (lN S) 0 = 0 ↔ S = 0 := by
  unfold lg_cmp
  by_cases e : S = 0
  · subst e
    simp
    decide
  · have h1 : ¬ lN S = 0 := fun z => e ((lN_inj (b := 0) h (by omega)).mp z)
    simp only [h1, e, if_false, iff_false]
    split <;> decide

set_option maxRecDepth 10000 in
theorem c_X11_commonDivisor (hp1 : p < 2 ^ 63) (hd1 : d < 2 ^ 63) (hd0 : 0 < d) (hpd : p * d ≤ 2 ^ 88) : xT (k + 1) 149 [.long (lN p), .long (lN d)] (xH b g l) (fun r M' => M' = xH b g l ∧ r = some (.long (lN (Nat.gcd p d)))) := by
  refine xT.of rfl (Nat.le_of_ble_eq_true rfl) ?_
  dsimp only [lv_args]
  refine xS.s1 rfl rfl ?_
  try dsimp only [Nat.reduceAdd]
  refine xS.s1 rfl rfl ?_
  try dsimp only [Nat.reduceAdd]
  refine xS.s1 rfl rfl ?_
  try dsimp only [Nat.reduceAdd]
  refine xS.s1 rfl rfl ?_
  try dsimp only [Nat.reduceAdd]
  refine xS.s1 rfl rfl ?_
  try dsimp only [Nat.reduceAdd, xi_0]
  refine xS.s1 rfl rfl ?_
  try dsimp only [Nat.reduceAdd]
  refine xS.pick [0, 2, 1] rfl ?_
  refine xS.loop (σ := Nat × Nat) (100) (fun j S => [(8, .int (nI j)), (4, .long (lN S.1)), (6, .long (lN S.2))]) (fun _ _ => xH b g l) (fun j S => (1 ≤ j → S.2 < S.1) ∧ S.2 * S.1 * 2 ^ j ≤ 2 ^ 89 ∧ (j = 0 → S.2 * S.1 ≤ 2 ^ 88) ∧ Nat.gcd S.2 S.1 = Nat.gcd p d ∧ S.1 < 2 ^ 63 ∧ S.2 < 2 ^ 63 ∧ 0 < S.1) ((d, p)) (rfl) (rfl) (⟨fun h => absurd h (by omega), by show p * d * 2 ^ 0 ≤ 2 ^ 89; rw [Nat.pow_zero, Nat.mul_one]; omega, fun _ => hpd, rfl, by omega, by omega, hd0⟩) ?_
  intro j S hj hI ih
  obtain ⟨B, S⟩ := S
  obtain ⟨i1, i2, i3, i4, i5, i6, i7⟩ := hI
  dsimp only at i1 i2 i3 i4 i5 i6 i7
  try dsimp only
  refine xS.s1 rfl rfl ?_
  try dsimp only [Nat.reduceAdd]
  refine xS.s1 rfl rfl ?_
  try dsimp only [Nat.reduceAdd, xj_100]
  refine xS.br (c := .ge) (off := 31) (l := 3) rfl rfl (fun h13 => ?_) (fun h13 => ?_)
  · have g13 := xt_ge h13
    refine xS.s1 rfl rfl ?_
    try dsimp only [Nat.reduceAdd]
    refine xS.ret rfl rfl rfl (fun _ _ => rfl) ?_
    have hS : S = 0 := by
      have hj2 : j = 100 := by
        have := xnle (b := 100) g13 (by omega) (by omega)
        omega
      subst hj2
      rcases Nat.eq_zero_or_pos S with e | e
      · exact e
      · exfalso
        have h1 : 1 * 1 ≤ S * B := Nat.mul_le_mul e i7
        have h2 : 1 * 1 * 2 ^ 100 ≤ S * B * 2 ^ 100 := Nat.mul_le_mul_right _ h1
        exact absurd (Nat.le_trans h2 i2) (by decide)
    subst hS
    rw [Nat.gcd_zero_left] at i4
    exact ⟨rfl, by rw [i4]⟩
  · have g13 := xf_ge h13
    refine xS.s1 rfl rfl ?_
    try dsimp only [Nat.reduceAdd]
    refine xS.s1 rfl rfl ?_
    try dsimp only [Nat.reduceAdd]
    refine xS.s1 rfl rfl ?_
    try dsimp only [Nat.reduceAdd]
    refine xS.br0 (c := .eq) (off := 24) (l := 3) rfl rfl (fun h20 => ?_) (fun h20 => ?_)
    · have g20 := xt_eq h20
      refine xS.s1 rfl rfl ?_
      try dsimp only [Nat.reduceAdd]
      refine xS.ret rfl rfl rfl (fun _ _ => rfl) ?_
      have hS := (xlc0 i6).mp g20
      subst hS
      rw [Nat.gcd_zero_left] at i4
      exact ⟨rfl, by rw [i4]⟩
    · have g20 := xf_eq h20
      refine xS.s1 rfl rfl ?_
      try dsimp only [Nat.reduceAdd]
      refine xS.s1 rfl rfl ?_
      try dsimp only [Nat.reduceAdd]
      have hS0 : ¬ lN S = 0 := fun z => g20 ((xlc0 i6).mpr ((lN_inj (b := 0) i6 (by omega)).mp z))
      refine xS.lrem rfl hS0 ?_
      try dsimp only [Nat.reduceAdd]
      refine xS.s1 rfl rfl ?_
      try dsimp only [Nat.reduceAdd]
      refine xS.s1 rfl rfl ?_
      try dsimp only [Nat.reduceAdd]
      refine xS.s1 rfl rfl ?_
      try dsimp only [Nat.reduceAdd]
      refine xS.s1 rfl rfl ?_
      try dsimp only [Nat.reduceAdd]
      refine xS.s1 rfl rfl ?_
      try dsimp only [Nat.reduceAdd]
      refine xS.s1 rfl rfl ?_
      try dsimp only [Nat.reduceAdd, xi_1]
      rw [nI_1]
      refine xS.s1 rfl rfl ?_
      try dsimp only [Nat.reduceAdd]
      refine xS.pick [0, 2, 1] rfl ?_
      have hS : 0 < S := by
        rcases Nat.eq_zero_or_pos S with e | e
        · exact absurd ((xlc0 i6).mpr e) g20
        · exact e
      have hst := xgcd_step i1 i2 i3 hS
      rw [pk_lRem i5 hS i6]
      exact ih (S, B % S) (by have := xnlt (b := 100) g13 (by omega) (by omega); omega) ⟨fun _ => hst.1, hst.2, fun h => absurd h (by omega), by rw [← i4, Nat.gcd_rec S B], i6, Nat.lt_of_lt_of_le hst.1 (Nat.le_of_lt i6), hS⟩

set_option maxRecDepth 10000 in
theorem c_X11_tell (hp1 : p < 2 ^ 63) (hd1 : d < 2 ^ 63) (hd0 : 0 < d) (hpd : p * d ≤ 2 ^ 88) : xT (k + 2) 148 [.ref 0, .long (lN p), .long (lN d)] (xH b g l) (fun r M' => M' = xH b g (up (up l 0 12 (lN (p / Nat.gcd p d))) 0 13 (lN (d / Nat.gcd p d))) ∧ r = none) := by
  refine xT.of rfl (Nat.le_of_ble_eq_true rfl) ?_
  dsimp only [lv_args]
  refine xS.s1 rfl rfl ?_
  try dsimp only [Nat.reduceAdd]
  refine xS.s1 rfl rfl ?_
  try dsimp only [Nat.reduceAdd]
  -- 2 yX11_commonDivisor
  refine xS.callS rfl rfl rfl ⟨Nat.le_of_ble_eq_true rfl, rfl⟩ (c_X11_commonDivisor hp1 hd1 hd0 hpd) (fun v M1 hv => ?_)
  rw [hv.1, hv.2]
  clear hv M1 v
  have hgp : 0 < Nat.gcd p d := Nat.gcd_pos_of_pos_right p hd0
  have hgl : Nat.gcd p d < 2 ^ 63 := Nat.lt_of_le_of_lt (Nat.gcd_le_right p hd0) hd1
  have hg0 : ¬ lN (Nat.gcd p d) = 0 := fun z => absurd ((lN_inj (b := 0) hgl (by omega)).mp z) (by omega)
  try dsimp only [Nat.reduceAdd, Option.toList, List.cons_append, List.nil_append, List.drop]
  refine xS.s1 rfl rfl ?_
  try dsimp only [Nat.reduceAdd]
  refine xS.s1 rfl rfl ?_
  try dsimp only [Nat.reduceAdd]
  refine xS.s1 rfl rfl ?_
  try dsimp only [Nat.reduceAdd]
  refine xS.s1 rfl rfl ?_
  try dsimp only [Nat.reduceAdd]
  refine xS.br0 (c := .le) (off := 19) (l := 3) rfl rfl (fun h11 => ?_) (fun h11 => ?_)
  · have g11 := xt_le h11
    exfalso; rw [lg_cmp_le] at g11; exact hg0 ((lN_inj (b := 0) hgl (by omega)).mpr (by have : (lN (Nat.gcd p d)).toInt ≤ (0 : Int64).toInt := Int64.le_iff_toInt_le.mp g11; unfold lN at this; rw [lg_ofNat_toInt hgl] at this; have h0 : (0 : Int64).toInt = 0 := rfl; omega))
  · have g11 := xf_le h11
    refine xS.s1 rfl rfl ?_
    try dsimp only [Nat.reduceAdd]
    refine xS.s1 rfl rfl ?_
    try dsimp only [Nat.reduceAdd]
    refine xS.s1 rfl rfl ?_
    try dsimp only [Nat.reduceAdd]
    refine xS.ldiv rfl hg0 ?_
    try dsimp only [Nat.reduceAdd]
    refine xS.pL rfl rfl rfl ⟨⟨by decide, rfl⟩, rfl, by decide, by decide⟩ rfl ?_
    try dsimp only [Nat.reduceAdd]
    refine xS.s1 rfl rfl ?_
    try dsimp only [Nat.reduceAdd]
    refine xS.s1 rfl rfl ?_
    try dsimp only [Nat.reduceAdd]
    refine xS.s1 rfl rfl ?_
    try dsimp only [Nat.reduceAdd]
    refine xS.ldiv rfl hg0 ?_
    try dsimp only [Nat.reduceAdd]
    refine xS.pL rfl rfl rfl ⟨⟨by decide, rfl⟩, rfl, by decide, by decide⟩ rfl ?_
    try dsimp only [Nat.reduceAdd]
    refine xS.ret rfl rfl rfl (fun _ _ => rfl) ?_
    rw [pk_lDiv hp1 hgp hgl, pk_lDiv hd1 hgp hgl]
    exact ⟨rfl, rfl⟩

end
end
section
/-! LimpMirror.leastPick -/
theorem xshw_congr {h : Nat → Int32} {κ δ i : Nat} {f f' : Nat → Nat} (hf : ∀ s, s ≤ i → f s = f' s) : xshw h κ δ f i = xshw h κ δ f' i := by
  unfold xshw
  cases e : xsrc κ δ i with
  | none => rfl
  | some s =>
    show xseen h κ i (f s) = xseen h κ i (f' s)
    rw [hf s (xsrc_le e)]
def fup (F : Nat → Nat) (t s : Nat) : Nat → Nat := fun i => if i = t then s else F i
/-- a step at place t of F breaks no term before any of G glasses -/
def xsafe (h tx : Nat → Int32) (T G : Nat) (Lw : Nat → Nat) (F : Nat → Nat) (t : Nat) : Bool := decide (xfst (fun k => !decide (xfb tx T (nI (F t)) (xshw h (Lw k / 4) (Lw k % 4) F t) = none)) G = none)
def xlp (safe : (Nat → Nat) → Nat → Bool) (n u : Nat) : Nat → (Nat → Nat) → Option Nat := Nat.rec (motive := fun _ => Nat → (Nat → Nat) → Option Nat) (fun _ _ => none) (fun _ ih t F => xfst (fun s => safe (fup F t s) t && (decide (n ≤ t + 1) || (ih (t + 1) (fup F t s)).isSome)) 6) u

section
variable {k a c n n2 m t p s d i1 j1 : Nat} {b : Nat × Nat} {g : Nat → Nat → Int32} {l : Nat → Nat → Int64} {i j x y z v w : Int32} {u w1 w2 : Int64}
variable {L G T u1 : Nat} {Lw F : Nat → Nat}
theorem xlp_b {safe : (Nat → Nat) → Nat → Bool} {n u t : Nat} {F : Nat → Nat} : ∀ d, xlp safe n u t F = some d → d < 2 ^ 31 := by
  intro d h
  cases u with
  | zero => cases h
  | succ u =>
    have h : xfst (fun s => safe (fup F t s) t && (decide (n ≤ t + 1) || (xlp safe n u (t + 1) (fup F t s)).isSome)) 6 = some d := h
    have := (xfst_lt h).1
    omega
set_option maxRecDepth 10000 in
theorem c_X11_leastPick_u : ∀ (u : Nat) {g : Nat → Nat → Int32} {t : Nat} {F : Nat → Nat} (hb : xro b.1) (hR : xRm g b.1 G T Lw) (hp : xpn g) (hbv : b.1 = 7 ∨ b.1 = 11) (hs : g 15 1 = nI n) (hn : n ≤ 3) (htn : t < n) (htu : t + u = 3) (hx : ∀ i, i < t → g 16 i = nI (F i) ∧ F i < 6), xT (k + u + 6) 145 [.ref 0, .int (nI t), .int (nI n)] (xH b g l) (fun r M' => ∃ g', M' = xH b g' l ∧ (∀ a, a ≠ 16 → g' a = g a) ∧ (∀ i, i < t → g' 16 i = g 16 i) ∧ r = some (.int (xfI (xlp (xsafe (g (b.1 + 1)) (g (b.1 + 3)) T G Lw) n u t F)))) := by
  intro u
  induction u with
  | zero => intro g t F hb hR hp hbv hs hn htn htu; omega
  | succ u1 ihu =>
    intro g t F hb hR hp hbv hs hn htn htu hx
    refine xT.of rfl (Nat.le_of_ble_eq_true rfl) ?_
    try dsimp only [lv_args]
    refine xS.s1 rfl rfl ?_
    try dsimp only [Nat.reduceAdd]
    refine xS.s1 rfl rfl ?_
    try dsimp only [Nat.reduceAdd, xi_3]
    refine xS.br (c := .lt) (off := 6) (l := 3) rfl rfl (fun h2 => ?_) (fun h2 => ?_)
    · have g2 := xt_lt h2
      refine xS.s1 rfl rfl ?_
      try dsimp only [Nat.reduceAdd, xi_0]
      refine xS.s1 rfl rfl ?_
      try dsimp only [Nat.reduceAdd]
      refine xS.pick [0, 1, 2, 3] rfl ?_
      refine xS.loop (σ := Nat → Nat → Int32) (6) (fun j S => [(3, .int (nI j)), (0, .ref 0), (1, .int (nI t)), (2, .int (nI n))]) (fun _ S => xH b S l) (fun j S => (∀ a, a ≠ 16 → S a = g a) ∧ (∀ i, i < t → S 16 i = g 16 i) ∧ xfst (fun s => (xsafe (g (b.1 + 1)) (g (b.1 + 3)) T G Lw) (fup F t s) t && (decide (n ≤ t + 1) || (xlp (xsafe (g (b.1 + 1)) (g (b.1 + 3)) T G Lw) n u1 (t + 1) (fup F t s)).isSome)) j = none) (g) (rfl) (rfl) (⟨fun _ _ => rfl, fun _ _ => rfl, rfl⟩) ?_
      intro j S hj hI ih
      obtain ⟨i1, i2, i3⟩ := hI
      try dsimp only
      refine xS.s1 rfl rfl ?_
      try dsimp only [Nat.reduceAdd]
      refine xS.s1 rfl rfl ?_
      try dsimp only [Nat.reduceAdd, xj_6]
      refine xS.br (c := .ge) (off := 48) (l := 3) rfl rfl (fun h13 => ?_) (fun h13 => ?_)
      · have g13 := xt_ge h13
        refine xS.s1 rfl rfl ?_
        try dsimp only [Nat.reduceAdd, xj_m9]
        refine xS.ret rfl rfl rfl (fun _ _ => rfl) ?_
        have e := xnle (b := 6) g13 (by omega) (by omega)
        refine ⟨S, rfl, i1, i2, ?_⟩
        rw [show xlp (xsafe (g (b.1 + 1)) (g (b.1 + 3)) T G Lw) n (u1 + 1) t F = xfst (fun s => (xsafe (g (b.1 + 1)) (g (b.1 + 3)) T G Lw) (fup F t s) t && (decide (n ≤ t + 1) || (xlp (xsafe (g (b.1 + 1)) (g (b.1 + 3)) T G Lw) n u1 (t + 1) (fup F t s)).isSome)) 6 from rfl, show 6 = j by omega, i3]
        rfl
      · have g13 := xf_ge h13
        have hlt := xnlt (b := 6) g13 (by omega) (by omega)
        refine xS.s1 rfl rfl ?_
        try dsimp only [Nat.reduceAdd]
        refine xS.gR rfl rfl rfl ⟨by decide, rfl⟩ rfl ?_
        try dsimp only [Nat.reduceAdd]
        refine xS.s1 rfl rfl ?_
        try dsimp only [Nat.reduceAdd]
        refine xS.s1 rfl rfl ?_
        try dsimp only [Nat.reduceAdd]
        -- 22 yX0_set
        refine xS.cv rfl rfl rfl (xce_trial.1 _) rfl rfl ⟨by decide, rfl, rfl⟩ (c_X0_set xce_trial (show S 15 1 = nI n by rw [i1 15 (by decide)]; exact hs) (by omega) htn) (fun v M1 hv => ?_)
        rw [hv.1, hv.2]
        clear hv M1 v
        rw [show 15 + 1 = 16 from rfl]
        have hR1 : xRm (up S 16 t (nI j)) b.1 G T Lw := xRm_fr (fun i _ _ => by rw [up_na (by omega), i1 i (by omega)]) hR
        have hp1 : xpn (up S 16 t (nI j)) := xpn_fr (fun i _ _ => by rw [up_na (by omega), i1 i (by omega)]) hp
        have hs1 : up S 16 t (nI j) 15 1 = nI n := by rw [up_na (by decide), i1 15 (by decide)]; exact hs
        have h16 : ∀ i, i ≤ t → up S 16 t (nI j) 16 i = nI (fup F t j i) ∧ fup F t j i < 6 := fun i hi => by
          unfold fup
          by_cases e : i = t
          · subst e
            rw [up_same, if_pos rfl]
            exact ⟨rfl, hlt⟩
          · rw [up_ne (Or.inr e), if_neg e, i2 i (by omega)]
            exact hx i (by omega)
        have e1 : up S 16 t (nI j) (b.1 + 1) = g (b.1 + 1) := by rw [up_na (by omega), i1 _ (by omega)]
        have e3 : up S 16 t (nI j) (b.1 + 3) = g (b.1 + 3) := by rw [up_na (by omega), i1 _ (by omega)]
        have esf : (if xfst (fun k => !decide (xfb (up S 16 t (nI j) (b.1 + 3)) T (up S 16 t (nI j) 16 t) (xshw (up S 16 t (nI j) (b.1 + 1)) (Lw k / 4) (Lw k % 4) (fun i => xN (up S 16 t (nI j) 16 i)) t) = none)) G = none then (1 : Int32) else 0) = if (xsafe (g (b.1 + 1)) (g (b.1 + 3)) T G Lw) (fup F t j) t = true then 1 else 0 := by
          unfold xsafe
          rw [e1, e3, (h16 t (Nat.le_refl t)).1]
          have ef : (fun k => !decide (xfb (g (b.1 + 3)) T (nI (fup F t j t)) (xshw (g (b.1 + 1)) (Lw k / 4) (Lw k % 4) (fun i => xN (up S 16 t (nI j) 16 i)) t) = none)) = fun k => !decide (xfb (g (b.1 + 3)) T (nI (fup F t j t)) (xshw (g (b.1 + 1)) (Lw k / 4) (Lw k % 4) (fup F t j) t) = none) := by
            funext k
            rw [xshw_congr (f' := fup F t j) (fun s hs => by rw [(h16 s hs).1, xN_nI (by have := (h16 s hs).2; omega)])]
          rw [ef]
          simp only [decide_eq_true_eq]
        have fr1 : ∀ a, a ≠ 16 → up S 16 t (nI j) a = g a := fun a ha => by rw [up_na ha, i1 a ha]
        have fr2 : ∀ i, i < t → up S 16 t (nI j) 16 i = g 16 i := fun i hi => by rw [up_ne (Or.inr (by omega)), i2 i hi]
        try dsimp only [Nat.reduceAdd, Option.toList, List.cons_append, List.nil_append, List.drop]
        refine xS.s1 rfl rfl ?_
        try dsimp only [Nat.reduceAdd]
        refine xS.s1 rfl rfl ?_
        try dsimp only [Nat.reduceAdd]
        -- 27 yX11_isSafeBeforeAll
        refine xS.cv rfl rfl rfl rfl rfl rfl ⟨by decide, rfl, rfl⟩ (c_X11_isSafeBeforeAll hb hR1 hp1 hs1 (by omega) (fun i hi => ⟨_, (h16 i hi).2, (h16 i hi).1⟩) htn) (fun v M1 hv => ?_)
        rw [hv.1, hv.2, esf]
        clear hv M1 v
        try dsimp only [Nat.reduceAdd, Option.toList, List.cons_append, List.nil_append, List.drop]
        refine xS.br0 (c := .eq) (off := 25) (l := 3) rfl rfl (fun h30 => ?_) (fun h30 => ?_)
        · have g30 := xt_eq h30
          refine xS.s1 rfl rfl ?_
          try dsimp only [Nat.reduceAdd, xi_1]
          rw [nI_1]
          refine xS.s1 rfl rfl ?_
          try dsimp only [Nat.reduceAdd]
          refine xS.pick [0, 1, 2, 3] rfl ?_
          exact ih _ (by omega) ⟨fr1, fr2, xfst_n i3 (by simp [xif0 g30])⟩
        · have g30 := xf_eq h30
          refine xS.s1 rfl rfl ?_
          try dsimp only [Nat.reduceAdd]
          refine xS.s1 rfl rfl ?_
          try dsimp only [Nat.reduceAdd, xi_1]
          refine xS.s1 rfl rfl ?_
          try dsimp only [Nat.reduceAdd]
          rw [nI_1]
          refine xS.s1 rfl rfl ?_
          try dsimp only [Nat.reduceAdd]
          refine xS.br (c := .ge) (off := 16) (l := 3) rfl rfl (fun h37 => ?_) (fun h37 => ?_)
          · have g37 := xt_ge h37
            refine xS.s1 rfl rfl ?_
            try dsimp only [Nat.reduceAdd]
            refine xS.ret rfl rfl rfl (fun _ _ => rfl) ?_
            refine ⟨_, rfl, fr1, fr2, ?_⟩
            rw [show xlp (xsafe (g (b.1 + 1)) (g (b.1 + 3)) T G Lw) n (u1 + 1) t F = xfst (fun s => (xsafe (g (b.1 + 1)) (g (b.1 + 3)) T G Lw) (fup F t s) t && (decide (n ≤ t + 1) || (xlp (xsafe (g (b.1 + 1)) (g (b.1 + 3)) T G Lw) n u1 (t + 1) (fup F t s)).isSome)) 6 from rfl, xfst_at i3 (by have h37 := (nI_leI (a := n) (b := t + 1) (by omega) (by omega)).mp g37; simp [xif1 g30, h37]) hlt]
            rfl
          · have g37 := xf_ge h37
            have h37 := xnlt g37 (by omega) (by omega)
            refine xS.s1 rfl rfl ?_
            try dsimp only [Nat.reduceAdd]
            refine xS.s1 rfl rfl ?_
            try dsimp only [Nat.reduceAdd]
            refine xS.s1 rfl rfl ?_
            try dsimp only [Nat.reduceAdd, xi_1]
            refine xS.s1 rfl rfl ?_
            try dsimp only [Nat.reduceAdd]
            rw [nI_1]
            refine xS.s1 rfl rfl ?_
            try dsimp only [Nat.reduceAdd]
            -- 45 yX11_leastPick
            refine xS.cv rfl rfl rfl rfl rfl rfl ⟨by decide, rfl, rfl⟩ (ihu (F := fup F t j) hb hR1 hp1 hbv hs1 hn (by omega) (by omega) (fun i hi => h16 i (by omega))) (fun v M1 hv => ?_)
            obtain ⟨g2, hM2, f1, f2, hv2⟩ := hv
            rw [hM2, hv2, e1, e3]
            clear hM2 hv2 M1 v
            try dsimp only [Nat.reduceAdd, Option.toList, List.cons_append, List.nil_append, List.drop]
            refine xS.s1 rfl rfl ?_
            try dsimp only [Nat.reduceAdd, xj_m9]
            refine xS.br (c := .eq) (off := 5) (l := 3) rfl rfl (fun h50 => ?_) (fun h50 => ?_)
            · have g50 := xt_eq h50
              refine xS.s1 rfl rfl ?_
              try dsimp only [Nat.reduceAdd, xi_1]
              rw [nI_1]
              refine xS.s1 rfl rfl ?_
              try dsimp only [Nat.reduceAdd]
              refine xS.pick [0, 1, 2, 3] rfl ?_
              have h50 := (xfI_none xlp_b).mp g50
              exact ih g2 (by omega) ⟨fun a ha => by rw [f1 a ha, fr1 a ha], fun i hi => by rw [f2 i (by omega), fr2 i hi], xfst_n i3 (by simp [h50, Nat.not_le.mpr h37])⟩
            · have g50 := xf_eq h50
              refine xS.s1 rfl rfl ?_
              try dsimp only [Nat.reduceAdd]
              refine xS.ret rfl rfl rfl (fun _ _ => rfl) ?_
              refine ⟨g2, rfl, fun a ha => by rw [f1 a ha, fr1 a ha], fun i hi => by rw [f2 i (by omega), fr2 i hi], ?_⟩
              rw [show xlp (xsafe (g (b.1 + 1)) (g (b.1 + 3)) T G Lw) n (u1 + 1) t F = xfst (fun s => (xsafe (g (b.1 + 1)) (g (b.1 + 3)) T G Lw) (fup F t s) t && (decide (n ≤ t + 1) || (xlp (xsafe (g (b.1 + 1)) (g (b.1 + 3)) T G Lw) n u1 (t + 1) (fup F t s)).isSome)) 6 from rfl, xfst_at i3 ?_ hlt]
              · rfl
              · have h50 := (not_congr (xfI_none xlp_b)).mp g50
                simp [xif1 g30, Option.isSome_iff_ne_none, h50]
    · have g2 := xf_lt h2
      exfalso; have := (nI_leI (a := 3) (b := t) (by omega) (by omega)).mp g2; omega

theorem c_X11_leastPick (hb : xro b.1) (hR : xRm g b.1 G T Lw) (hp : xpn g) (hbv : b.1 = 7 ∨ b.1 = 11) (hs : g 15 1 = nI n) (hn : n ≤ 3) (hn0 : 0 < n) : xT (k + 9) 145 [.ref 0, .int (nI 0), .int (nI n)] (xH b g l) (fun r M' => ∃ g', M' = xH b g' l ∧ (∀ a, a ≠ 16 → g' a = g a) ∧ r = some (.int (xfI (xlp (xsafe (g (b.1 + 1)) (g (b.1 + 3)) T G Lw) n 3 0 (fun _ => 0))))) :=
  (c_X11_leastPick_u 3 (t := 0) (F := fun _ => 0) hb hR hp hbv hs hn hn0 rfl (fun i h => absurd h (by omega))).weak (fun r M' h => by
    obtain ⟨g', h1, h2, _, h3⟩ := h
    exact ⟨g', h1, h2, h3⟩)
end
end
