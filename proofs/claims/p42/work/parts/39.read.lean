/-! LimpMirror$Room: the parser's small methods -/
def xlet (t : Nat) : Int32 := match t with
  | 0 => 103
  | 1 => 108
  | 2 => 116
  | 3 => 111
  | 4 => 105
  | _ => 102
theorem xlet_get : ∀ {t : Nat}, t < 6 → xLet[t]? = some (.int (xlet t))
  | 0, _ => rfl
  | 1, _ => rfl
  | 2, _ => rfl
  | 3, _ => rfl
  | 4, _ => rfl
  | 5, _ => rfl
  | _ + 6, h => absurd h (by omega)
theorem xS.ialet {q : xQ} {k pc l0 t : Nat} {lv : xL} {rest : List Value} {P : Option Value → xM → Prop} {M : xM} (hl : xe_lkF q.1 pc = some (.iaload, l0)) (ht : t < 6) (h : xS q k (pc + 1) lv (.int (xlet t) :: rest) M P) : xS q k pc lv (.int (nI t) :: .retAddr 1 :: rest) M P := by
  refine xS.s2 hl rfl (g := ((pc + 1, lv, .int (xlet t) :: rest), M)) ?_ h
  have h2 : ¬ xlt (nI t) 0 = true := by rw [xlt_iff]; exact nI_pos (by omega)
  have hv := xlet_get ht
  show xb_iaload none pc lv (.int (nI t) :: .retAddr 1 :: rest) M = _
  unfold xb_iaload
  simp only [xg_eq, h2, nI_clamp (n := t) (by omega), hv, not_false_eq_true, if_true]
  rfl
def xkd (x : Int32) : Option Nat := xfst (fun q => decide (xlet q = x)) 6
/-- behind blanks -/
def xab (f : Nat → Int32) (n i : Nat) : Nat := i + (xfst (fun t => !decide (f (i + t) = 32)) (n - i)).getD (n - i)
theorem xab_le {f : Nat → Int32} {n i : Nat} (h : i ≤ n) : xab f n i ≤ n ∧ i ≤ xab f n i := by
  unfold xab
  cases e : xfst (fun t => !decide (f (i + t) = 32)) (n - i) with
  | none => exact ⟨by show i + (n - i) ≤ n; omega, by omega⟩
  | some d => exact ⟨by have := (xfst_lt e).1; show i + d ≤ n; omega, by omega⟩
def xfg (f : Nat → Int32) (m i t : Nat) : Prop := i < m ∧ nI 48 ≤ f i ∧ f i < nI (48 + t)
theorem xfg_v {f : Nat → Int32} {m i t : Nat} (ht : t ≤ 6) (h : xfg f m i t) : ∃ v, v < t ∧ f i = nI (48 + v) := by
  obtain ⟨h1, h2, h3⟩ := h
  obtain ⟨j, hj, e⟩ := nI_of (x := f i) (fun z => by
    rw [Int32.lt_iff_toInt_lt] at z
    rw [Int32.le_iff_toInt_le, nI_toInt (by omega)] at h2
    have : (0 : Int32).toInt = 0 := rfl
    omega)
  rw [e] at h2 h3
  have h4 := (nI_leI (by omega) hj).mp h2
  have h5 := (nI_ltI hj (by omega)).mp h3
  exact ⟨j - 48, by omega, by rw [e]; congr 1; omega⟩

section
variable {k a c n n2 m t p s d i1 j1 : Nat} {b : Nat × Nat} {g : Nat → Nat → Int32} {l : Nat → Nat → Int64} {i j x y z v w : Int32} {u w1 w2 : Int64}
variable {L G T : Nat} {Lw : Nat → Nat}
set_option maxRecDepth 10000 in
theorem c_X8_kindOf  : xT (k + 1) 69 [.int x] (xH b g l) (fun r M' => M' = xH b g l ∧ r = some (.int (xfI (xkd x)))) := by
  refine xT.of rfl (Nat.le_of_ble_eq_true rfl) ?_
  change xS _ _ 0 [(0, .int x)] [] _ _
  refine xS.s1 rfl rfl ?_
  try dsimp only [Nat.reduceAdd, xi_0]
  refine xS.s1 rfl rfl ?_
  try dsimp only [Nat.reduceAdd]
  refine xS.pick [0, 1] rfl ?_
  refine xS.loop (σ := Unit) (6) (fun j S => [(1, .int (nI j)), (0, .int x)]) (fun _ _ => xH b g l) (fun j _ => xfst (fun q => decide (xlet q = x)) j = none) (()) (rfl) (rfl) (rfl) ?_
  intro j S hj hI ih
  try dsimp only
  refine xS.s1 rfl rfl ?_
  try dsimp only [Nat.reduceAdd]
  refine xS.s1 rfl rfl ?_
  try dsimp only [Nat.reduceAdd, xj_6]
  refine xS.br (c := .ge) (off := 20) (l := 3) rfl rfl (fun h5 => ?_) (fun h5 => ?_)
  · have g5 := xt_ge h5
    refine xS.s1 rfl rfl ?_
    try dsimp only [Nat.reduceAdd, xj_m9]
    refine xS.ret rfl rfl rfl (fun _ _ => rfl) ?_
    have e := xnle (b := 6) g5 (by omega) (by omega)
    unfold xkd
    rw [show 6 = j by omega, hI]
    exact ⟨rfl, rfl⟩
  · have g5 := xf_ge h5
    have hlt := xnlt (b := 6) g5 (by omega) (by omega)
    refine xS.s2 rfl rfl rfl ?_
    try dsimp only [Nat.reduceAdd]
    refine xS.s1 rfl rfl ?_
    try dsimp only [Nat.reduceAdd]
    refine xS.ialet rfl (by omega) ?_
    try dsimp only [Nat.reduceAdd]
    refine xS.s1 rfl rfl ?_
    try dsimp only [Nat.reduceAdd]
    refine xS.br (c := .ne) (off := 5) (l := 3) rfl rfl (fun h14 => ?_) (fun h14 => ?_)
    · have g14 := xt_ne h14
      refine xS.s1 rfl rfl ?_
      try dsimp only [Nat.reduceAdd, xi_1]
      rw [nI_1]
      refine xS.s1 rfl rfl ?_
      try dsimp only [Nat.reduceAdd]
      refine xS.pick [0, 1] rfl ?_
      exact ih () (by omega) (xfst_n hI (by simp [g14]))
    · have g14 := xf_ne h14
      refine xS.s1 rfl rfl ?_
      try dsimp only [Nat.reduceAdd]
      refine xS.ret rfl rfl rfl (fun _ _ => rfl) ?_
      unfold xkd
      rw [xfst_at hI (by simp [g14]) hlt]
      exact ⟨rfl, rfl⟩

set_option maxRecDepth 10000 in
theorem c_X8_afterBlanks (hF : xce c n) (hs : g c 1 = nI m) (hm : m ≤ n) (hp : p < 1000) : xT (k + 3) 70 [.ref c, .int (nI p)] (xH b g l) (fun r M' => M' = xH b g l ∧ r = some (.int (nI (xab (g (c + 1)) m p)))) := by
  refine xT.of rfl (Nat.le_of_ble_eq_true rfl) ?_
  change xS _ _ 0 [(0, .ref c), (1, .int (nI p))] [] _ _
  refine xS.s1 rfl rfl ?_
  try dsimp only [Nat.reduceAdd]
  refine xS.s1 rfl rfl ?_
  try dsimp only [Nat.reduceAdd]
  refine xS.pick [0, 1] rfl ?_
  refine xS.loop (σ := Unit) (m - p) (fun j S => [(2, .int (nI (p + j))), (0, .ref c)]) (fun _ _ => xH b g l) (fun j _ => xfst (fun q => !decide (g (c + 1) (p + q) = 32)) j = none) (()) (rfl) (rfl) (rfl) ?_
  intro j S hj hI ih
  try dsimp only
  have hn := xn31 hF.2
  have hn2 := hF.2.2
  refine xS.s1 rfl rfl ?_
  try dsimp only [Nat.reduceAdd]
  refine xS.s1 rfl rfl ?_
  try dsimp only [Nat.reduceAdd]
  -- 4 yX0_size
  refine xS.cv rfl rfl rfl (hF.1 _) rfl rfl ⟨by decide, rfl, rfl⟩ (c_X0_size hF) (fun v M1 hv => ?_)
  rw [hv.1, hv.2, hs]
  clear hv M1 v
  try dsimp only [Nat.reduceAdd, Option.toList, List.cons_append, List.nil_append, List.drop]
  refine xS.br (c := .ge) (off := 19) (l := 3) rfl rfl (fun h7 => ?_) (fun h7 => ?_)
  · have g7 := xt_ge h7
    refine xS.s1 rfl rfl ?_
    try dsimp only [Nat.reduceAdd]
    refine xS.ret rfl rfl rfl (fun _ _ => rfl) ?_
    have e := xnle g7 (by omega) (by omega)
    refine ⟨rfl, ?_⟩
    unfold xab
    rw [show m - p = j by omega, hI]
    rfl
  · have g7 := xf_ge h7
    have hlt := xnlt g7 (by omega) (by omega)
    refine xS.s1 rfl rfl ?_
    try dsimp only [Nat.reduceAdd]
    refine xS.s1 rfl rfl ?_
    try dsimp only [Nat.reduceAdd]
    -- 12 yX0_get
    refine xS.cv rfl rfl rfl (hF.1 _) rfl rfl ⟨by decide, rfl, rfl⟩ (c_X0_get hF hs hm hlt) (fun v M1 hv => ?_)
    rw [hv.1, hv.2]
    clear hv M1 v
    try dsimp only [Nat.reduceAdd, Option.toList, List.cons_append, List.nil_append, List.drop]
    refine xS.s1 rfl rfl ?_
    try dsimp only [Nat.reduceAdd, xj_32]
    refine xS.br (c := .ne) (off := 9) (l := 3) rfl rfl (fun h17 => ?_) (fun h17 => ?_)
    · have g17 := xt_ne h17
      refine xS.s1 rfl rfl ?_
      try dsimp only [Nat.reduceAdd]
      refine xS.ret rfl rfl rfl (fun _ _ => rfl) ?_
      refine ⟨rfl, ?_⟩
      unfold xab
      rw [xfst_at hI (by simp [g17]) (by omega)]
      rfl
    · have g17 := xf_ne h17
      refine xS.s1 rfl rfl ?_
      try dsimp only [Nat.reduceAdd, xi_1]
      rw [nI_1]
      refine xS.s1 rfl rfl ?_
      try dsimp only [Nat.reduceAdd]
      refine xS.pick [0, 1] rfl ?_
      exact ih () (by omega) (xfst_n hI (by simp [g17]))

set_option maxRecDepth 10000 in
theorem c_X8_isFigure (hF : xce c n) (hs : g c 1 = nI m) (hm : m ≤ n) (hp : p < 1000) (ht : t ≤ 6) (dp : Decidable (xfg (g (c + 1)) m p t)) : xT (k + 3) 71 [.ref c, .int (nI p), .int (nI t)] (xH b g l) (fun r M' => M' = xH b g l ∧ r = some (.int (if xfg (g (c + 1)) m p t then 1 else 0))) := by
  refine xT.of rfl (Nat.le_of_ble_eq_true rfl) ?_
  change xS _ _ 0 [(0, .ref c), (1, .int (nI p)), (2, .int (nI t))] [] _ _
  refine xS.s1 rfl rfl ?_
  try dsimp only [Nat.reduceAdd]
  refine xS.s1 rfl rfl ?_
  try dsimp only [Nat.reduceAdd]
  -- 2 yX0_has
  refine xS.cv rfl rfl rfl (hF.1 _) rfl rfl ⟨by decide, rfl, rfl⟩ (c_X0_has hF) (fun v M1 hv => ?_)
  rw [hv.1, hv.2]
  clear hv M1 v
  try dsimp only [Nat.reduceAdd, Option.toList, List.cons_append, List.nil_append, List.drop]
  refine xS.br0 (c := .eq) (off := 29) (l := 3) rfl rfl (fun h5 => ?_) (fun h5 => ?_)
  · have g5 := xt_eq h5
    have e5 : ¬ p < m := fun z => xif0 g5 ⟨nI_pos' (by omega), by rw [hs]; exact nI_lt z (by have := xn31 hF.2; omega), nI_lt (by omega) (xn31 hF.2)⟩
    refine xS.s1 rfl rfl ?_
    try dsimp only [Nat.reduceAdd, xi_0]
    refine xS.ret rfl rfl rfl (fun _ _ => rfl) ?_
    refine ⟨rfl, ?_⟩
    rw [if_neg (fun z => absurd z.1 e5)]
  · have g5 := xf_eq h5
    have e5 : p < m := by
      have q := (xif1 g5).2.1
      rw [hs] at q
      exact (nI_ltI (by omega) (by have := xn31 hF.2; omega)).mp q
    refine xS.s1 rfl rfl ?_
    try dsimp only [Nat.reduceAdd]
    refine xS.s1 rfl rfl ?_
    try dsimp only [Nat.reduceAdd]
    -- 10 yX0_get
    refine xS.cv rfl rfl rfl (hF.1 _) rfl rfl ⟨by decide, rfl, rfl⟩ (c_X0_get hF hs hm e5) (fun v M1 hv => ?_)
    rw [hv.1, hv.2]
    clear hv M1 v
    try dsimp only [Nat.reduceAdd, Option.toList, List.cons_append, List.nil_append, List.drop]
    refine xS.s1 rfl rfl ?_
    try dsimp only [Nat.reduceAdd, xj_48]
    refine xS.br (c := .lt) (off := 19) (l := 3) rfl rfl (fun h15 => ?_) (fun h15 => ?_)
    · have g15 := xt_lt h15
      refine xS.s1 rfl rfl ?_
      try dsimp only [Nat.reduceAdd, xi_0]
      refine xS.ret rfl rfl rfl (fun _ _ => rfl) ?_
      refine ⟨rfl, ?_⟩
      rw [if_neg (fun z => absurd z.2.1 (Int32.not_le.mpr g15))]
    · have g15 := xf_lt h15
      refine xS.s1 rfl rfl ?_
      try dsimp only [Nat.reduceAdd]
      refine xS.s1 rfl rfl ?_
      try dsimp only [Nat.reduceAdd]
      -- 20 yX0_get
      refine xS.cv rfl rfl rfl (hF.1 _) rfl rfl ⟨by decide, rfl, rfl⟩ (c_X0_get hF hs hm e5) (fun v M1 hv => ?_)
      rw [hv.1, hv.2]
      clear hv M1 v
      try dsimp only [Nat.reduceAdd, Option.toList, List.cons_append, List.nil_append, List.drop]
      refine xS.s1 rfl rfl ?_
      try dsimp only [Nat.reduceAdd, xj_48]
      refine xS.s1 rfl rfl ?_
      try dsimp only [Nat.reduceAdd]
      refine xS.s1 rfl rfl ?_
      try dsimp only [Nat.reduceAdd]
      rw [show (48 : Int32) + nI t = nI (48 + t) from nI_add 48 t]
      refine xS.br (c := .ge) (off := 7) (l := 3) rfl rfl (fun h27 => ?_) (fun h27 => ?_)
      · have g27 := xt_ge h27
        refine xS.s1 rfl rfl ?_
        try dsimp only [Nat.reduceAdd, xi_0]
        refine xS.ret rfl rfl rfl (fun _ _ => rfl) ?_
        refine ⟨rfl, ?_⟩
        rw [if_neg (fun z => absurd z.2.2 (Int32.not_lt.mpr g27))]
      · have g27 := xf_ge h27
        refine xS.s1 rfl rfl ?_
        try dsimp only [Nat.reduceAdd, xi_1]
        refine xS.s1 rfl rfl ?_
        try dsimp only [Nat.reduceAdd]
        refine xS.ret rfl rfl rfl (fun _ _ => rfl) ?_
        refine ⟨rfl, ?_⟩
        rw [if_pos ⟨e5, g15, g27⟩]

end
