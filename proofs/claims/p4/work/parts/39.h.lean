section
/-! LimpMirror$Room: the parser's small methods -/
def xlet (t : Nat) : Int32 := match t with
  | 0 => 103
  | 1 => 108
  | 2 => 116
  | 3 => 111
  | 4 => 105
  | _ => 102
theorem xlet_get : ∀ {t : Nat}, t < 6 → xLet[t]? = some (.int (xlet t))
  | 0, _ => rfl
  | 1, _ => rfl
  | 2, _ => rfl
  | 3, _ => rfl
  | 4, _ => rfl
  | 5, _ => rfl
  | _ + 6, h => absurd h (by omega)
theorem xS.ialet {q : xQ} {k pc l0 t : Nat} {lv : xL} {rest : List Value} {P : Option Value → xM → Prop} {M : xM} (hl : xe_lkF q.1 pc = some (.iaload, l0)) (ht : t < 6) (h : xS q k (pc + 1) lv (.int (xlet t) :: rest) M P) : xS q k pc lv (.int (nI t) :: .retAddr 1 :: rest) M P := by
  refine xS.s2 hl rfl (g := ((pc + 1, lv, .int (xlet t) :: rest), M)) ?_ h
  have h2 : ¬ xlt (nI t) 0 = true := by rw [xlt_iff]; exact nI_pos (by omega)
  have hv := xlet_get ht
  show xb_iaload none pc lv (.int (nI t) :: .retAddr 1 :: rest) M = _
  unfold xb_iaload
  simp only [xg_eq, h2, nI_clamp (n := t) (by omega), hv, not_false_eq_true, if_true]
  rfl
def xkd (x : Int32) : Option Nat := xfst (fun q => decide (xlet q = x)) 6
/-- behind blanks -/
def xab (f : Nat → Int32) (n i : Nat) : Nat := i + (xfst (fun t => !decide (f (i + t) = 32)) (n - i)).getD (n - i)
theorem xab_le {f : Nat → Int32} {n i : Nat} (h : i ≤ n) : xab f n i ≤ n ∧ i ≤ xab f n i := by
  unfold xab
  cases e : xfst (fun t => !decide (f (i + t) = 32)) (n - i) with
  | none => exact ⟨by show i + (n - i) ≤ n; omega, by omega⟩
  | some d => exact ⟨by have := (xfst_lt e).1; show i + d ≤ n; omega, by omega⟩
def xfg (f : Nat → Int32) (m i t : Nat) : Prop := i < m ∧ nI 48 ≤ f i ∧ f i < nI (48 + t)
theorem xfg_v {f : Nat → Int32} {m i t : Nat} (ht : t ≤ 6) (h : xfg f m i t) : ∃ v, v < t ∧ f i = nI (48 + v) := by
  obtain ⟨h1, h2, h3⟩ := h
  obtain ⟨j, hj, e⟩ := nI_of (x := f i) (fun z => by
    rw [Int32.lt_iff_toInt_lt] at z
    rw [Int32.le_iff_toInt_le, nI_toInt (by omega)] at h2
    have : (0 : Int32).toInt = 0 := rfl
    omega)
  rw [e] at h2 h3
  have h4 := (nI_leI (by omega) hj).mp h2
  have h5 := (nI_ltI hj (by omega)).mp h3
  exact ⟨j - 48, by omega, by rw [e]; congr 1; omega⟩

section
variable {k a c n n2 m t p s d i1 j1 : Nat} {b : Nat × Nat} {g : Nat → Nat → Int32} {l : Nat → Nat → Int64} {i j x y z v w : Int32} {u w1 w2 : Int64}
variable {L G T : Nat} {Lw : Nat → Nat}
set_option maxRecDepth 10000 in
theorem c_X8_kindOf  : xT (k + 1) 69 [.int x] (xH b g l) (fun r M' => M' = xH b g l ∧ r = some (.int (xfI (xkd x)))) := by
  refine xT.of rfl (Nat.le_of_ble_eq_true rfl) ?_
  change xS _ _ 0 [(0, .int x)] [] _ _
  refine xS.s1 rfl rfl ?_
  try dsimp only [Nat.reduceAdd, xi_0]
  refine xS.s1 rfl rfl ?_
  try dsimp only [Nat.reduceAdd]
  refine xS.pick [0, 1] rfl ?_
  refine xS.loop (σ := Unit) (6) (fun j S => [(1, .int (nI j)), (0, .int x)]) (fun _ _ => xH b g l) (fun j _ => xfst (fun q => decide (xlet q = x)) j = none) (()) (rfl) (rfl) (rfl) ?_
  intro j S hj hI ih
  try dsimp only
  refine xS.s1 rfl rfl ?_
  try dsimp only [Nat.reduceAdd]
  refine xS.s1 rfl rfl ?_
  try dsimp only [Nat.reduceAdd, xj_6]
  refine xS.br (c := .ge) (off := 20) (l := 3) rfl rfl (fun h5 => ?_) (fun h5 => ?_)
  · have g5 := xt_ge h5
    refine xS.s1 rfl rfl ?_
    try dsimp only [Nat.reduceAdd, xj_m9]
    refine xS.ret rfl rfl rfl (fun _ _ => rfl) ?_
    have e := xnle (b := 6) g5 (by omega) (by omega)
    unfold xkd
    rw [show 6 = j by omega, hI]
    exact ⟨rfl, rfl⟩
  · have g5 := xf_ge h5
    have hlt := xnlt (b := 6) g5 (by omega) (by omega)
    refine xS.s2 rfl rfl rfl ?_
    try dsimp only [Nat.reduceAdd]
    refine xS.s1 rfl rfl ?_
    try dsimp only [Nat.reduceAdd]
    refine xS.ialet rfl (by omega) ?_
    try dsimp only [Nat.reduceAdd]
    refine xS.s1 rfl rfl ?_
    try dsimp only [Nat.reduceAdd]
    refine xS.br (c := .ne) (off := 5) (l := 3) rfl rfl (fun h14 => ?_) (fun h14 => ?_)
    · have g14 := xt_ne h14
      refine xS.s1 rfl rfl ?_
      try dsimp only [Nat.reduceAdd, xi_1]
      rw [nI_1]
      refine xS.s1 rfl rfl ?_
      try dsimp only [Nat.reduceAdd]
      refine xS.pick [0, 1] rfl ?_
      exact ih () (by omega) (xfst_n hI (by simp [g14]))
    · have g14 := xf_ne h14
      refine xS.s1 rfl rfl ?_
      try dsimp only [Nat.reduceAdd]
      refine xS.ret rfl rfl rfl (fun _ _ => rfl) ?_
      unfold xkd
      rw [xfst_at hI (by simp [g14]) hlt]
      exact ⟨rfl, rfl⟩

set_option maxRecDepth 10000 in
theorem c_X8_afterBlanks (hF : xce c n) (hs : g c 1 = nI m) (hm : m ≤ n) (hp : p < 1000) : xT (k + 3) 70 [.ref c, .int (nI p)] (xH b g l) (fun r M' => M' = xH b g l ∧ r = some (.int (nI (xab (g (c + 1)) m p)))) := by
  refine xT.of rfl (Nat.le_of_ble_eq_true rfl) ?_
  change xS _ _ 0 [(0, .ref c), (1, .int (nI p))] [] _ _
  refine xS.s1 rfl rfl ?_
  try dsimp only [Nat.reduceAdd]
  refine xS.s1 rfl rfl ?_
  try dsimp only [Nat.reduceAdd]
  refine xS.pick [0, 1] rfl ?_
  refine xS.loop (σ := Unit) (m - p) (fun j S => [(2, .int (nI (p + j))), (0, .ref c)]) (fun _ _ => xH b g l) (fun j _ => xfst (fun q => !decide (g (c + 1) (p + q) = 32)) j = none) (()) (rfl) (rfl) (rfl) ?_
  intro j S hj hI ih
  try dsimp only
  have hn := xn31 hF.2
  have hn2 := hF.2.2
  refine xS.s1 rfl rfl ?_
  try dsimp only [Nat.reduceAdd]
  refine xS.s1 rfl rfl ?_
  try dsimp only [Nat.reduceAdd]
  -- 4 yX0_size
  refine xS.cv rfl rfl rfl (hF.1 _) rfl rfl ⟨by decide, rfl, rfl⟩ (c_X0_size hF) (fun v M1 hv => ?_)
  rw [hv.1, hv.2, hs]
  clear hv M1 v
  try dsimp only [Nat.reduceAdd, Option.toList, List.cons_append, List.nil_append, List.drop]
  refine xS.br (c := .ge) (off := 19) (l := 3) rfl rfl (fun h7 => ?_) (fun h7 => ?_)
  · have g7 := xt_ge h7
    refine xS.s1 rfl rfl ?_
    try dsimp only [Nat.reduceAdd]
    refine xS.ret rfl rfl rfl (fun _ _ => rfl) ?_
    have e := xnle g7 (by omega) (by omega)
    refine ⟨rfl, ?_⟩
    unfold xab
    rw [show m - p = j by omega, hI]
    rfl
  · have g7 := xf_ge h7
    have hlt := xnlt g7 (by omega) (by omega)
    refine xS.s1 rfl rfl ?_
    try dsimp only [Nat.reduceAdd]
    refine xS.s1 rfl rfl ?_
    try dsimp only [Nat.reduceAdd]
    -- 12 yX0_get
    refine xS.cv rfl rfl rfl (hF.1 _) rfl rfl ⟨by decide, rfl, rfl⟩ (c_X0_get hF hs hm hlt) (fun v M1 hv => ?_)
    rw [hv.1, hv.2]
    clear hv M1 v
    try dsimp only [Nat.reduceAdd, Option.toList, List.cons_append, List.nil_append, List.drop]
    refine xS.s1 rfl rfl ?_
    try dsimp only [Nat.reduceAdd, xj_32]
    refine xS.br (c := .ne) (off := 9) (l := 3) rfl rfl (fun h17 => ?_) (fun h17 => ?_)
    · have g17 := xt_ne h17
      refine xS.s1 rfl rfl ?_
      try dsimp only [Nat.reduceAdd]
      refine xS.ret rfl rfl rfl (fun _ _ => rfl) ?_
      refine ⟨rfl, ?_⟩
      unfold xab
      rw [xfst_at hI (by simp [g17]) (by omega)]
      rfl
    · have g17 := xf_ne h17
      refine xS.s1 rfl rfl ?_
      try dsimp only [Nat.reduceAdd, xi_1]
      rw [nI_1]
      refine xS.s1 rfl rfl ?_
      try dsimp only [Nat.reduceAdd]
      refine xS.pick [0, 1] rfl ?_
      exact ih () (by omega) (xfst_n hI (by simp [g17]))

set_option maxRecDepth 10000 in
theorem c_X8_isFigure (hF : xce c n) (hs : g c 1 = nI m) (hm : m ≤ n) (hp : p < 1000) (ht : t ≤ 6) (dp : Decidable (xfg (g (c + 1)) m p t)) : xT (k + 3) 71 [.ref c, .int (nI p), .int (nI t)] (xH b g l) (fun r M' => M' = xH b g l ∧ r = some (.int (if xfg (g (c + 1)) m p t then 1 else 0))) := by
  refine xT.of rfl (Nat.le_of_ble_eq_true rfl) ?_
  change xS _ _ 0 [(0, .ref c), (1, .int (nI p)), (2, .int (nI t))] [] _ _
  refine xS.s1 rfl rfl ?_
  try dsimp only [Nat.reduceAdd]
  refine xS.s1 rfl rfl ?_
  try dsimp only [Nat.reduceAdd]
  -- 2 yX0_has
  refine xS.cv rfl rfl rfl (hF.1 _) rfl rfl ⟨by decide, rfl, rfl⟩ (c_X0_has hF) (fun v M1 hv => ?_)
  rw [hv.1, hv.2]
  clear hv M1 v
  try dsimp only [Nat.reduceAdd, Option.toList, List.cons_append, List.nil_append, List.drop]
  refine xS.br0 (c := .eq) (off := 29) (l := 3) rfl rfl (fun h5 => ?_) (fun h5 => ?_)
  · have g5 := xt_eq h5
    have e5 : ¬ p < m := fun z => xif0 g5 ⟨nI_pos' (by omega), by rw [hs]; exact nI_lt z (by have := xn31 hF.2; omega), nI_lt (by omega) (xn31 hF.2)⟩
    refine xS.s1 rfl rfl ?_
    try dsimp only [Nat.reduceAdd, xi_0]
    refine xS.ret rfl rfl rfl (fun _ _ => rfl) ?_
    refine ⟨rfl, ?_⟩
    rw [if_neg (fun z => absurd z.1 e5)]
  · have g5 := xf_eq h5
    have e5 : p < m := by
      have q := (xif1 g5).2.1
      rw [hs] at q
      exact (nI_ltI (by omega) (by have := xn31 hF.2; omega)).mp q
    refine xS.s1 rfl rfl ?_
    try dsimp only [Nat.reduceAdd]
    refine xS.s1 rfl rfl ?_
    try dsimp only [Nat.reduceAdd]
    -- 10 yX0_get
    refine xS.cv rfl rfl rfl (hF.1 _) rfl rfl ⟨by decide, rfl, rfl⟩ (c_X0_get hF hs hm e5) (fun v M1 hv => ?_)
    rw [hv.1, hv.2]
    clear hv M1 v
    try dsimp only [Nat.reduceAdd, Option.toList, List.cons_append, List.nil_append, List.drop]
    refine xS.s1 rfl rfl ?_
    try dsimp only [Nat.reduceAdd, xj_48]
    refine xS.br (c := .lt) (off := 19) (l := 3) rfl rfl (fun h15 => ?_) (fun h15 => ?_)
    · have g15 := xt_lt h15
      refine xS.s1 rfl rfl ?_
      try dsimp only [Nat.reduceAdd, xi_0]
      refine xS.ret rfl rfl rfl (fun _ _ => rfl) ?_
      refine ⟨rfl, ?_⟩
      rw [if_neg (fun z => absurd z.2.1 (Int32.not_le.mpr g15))]
    · have g15 := xf_lt h15
      refine xS.s1 rfl rfl ?_
      try dsimp only [Nat.reduceAdd]
      refine xS.s1 rfl rfl ?_
      try dsimp only [Nat.reduceAdd]
      -- 20 yX0_get
      refine xS.cv rfl rfl rfl (hF.1 _) rfl rfl ⟨by decide, rfl, rfl⟩ (c_X0_get hF hs hm e5) (fun v M1 hv => ?_)
      rw [hv.1, hv.2]
      clear hv M1 v
      try dsimp only [Nat.reduceAdd, Option.toList, List.cons_append, List.nil_append, List.drop]
      refine xS.s1 rfl rfl ?_
      try dsimp only [Nat.reduceAdd, xj_48]
      refine xS.s1 rfl rfl ?_
      try dsimp only [Nat.reduceAdd]
      refine xS.s1 rfl rfl ?_
      try dsimp only [Nat.reduceAdd]
      rw [show (48 : Int32) + nI t = nI (48 + t) from nI_add 48 t]
      refine xS.br (c := .ge) (off := 7) (l := 3) rfl rfl (fun h27 => ?_) (fun h27 => ?_)
      · have g27 := xt_ge h27
        refine xS.s1 rfl rfl ?_
        try dsimp only [Nat.reduceAdd, xi_0]
        refine xS.ret rfl rfl rfl (fun _ _ => rfl) ?_
        refine ⟨rfl, ?_⟩
        rw [if_neg (fun z => absurd z.2.2 (Int32.not_lt.mpr g27))]
      · have g27 := xf_ge h27
        refine xS.s1 rfl rfl ?_
        try dsimp only [Nat.reduceAdd, xi_1]
        refine xS.s1 rfl rfl ?_
        try dsimp only [Nat.reduceAdd]
        refine xS.ret rfl rfl rfl (fun _ _ => rfl) ?_
        refine ⟨rfl, ?_⟩
        rw [if_pos ⟨e5, g15, g27⟩]

end
end
section
/-! LimpMirrorModel: keeps, still -/
theorem xfw_n {p : Nat → Bool} {st : Nat → Nat} {n : Nat} (h : p n = false) : xfw p st (n + 1) = xfw p st n := by
  rw [xfw_s, h]
  rfl
theorem xfw_0 {p : Nat → Bool} {st : Nat → Nat} {n : Nat} (h : p n = true) (h0 : xfw p st n = none) : xfw p st (n + 1) = some (st n) := by
  rw [xfw_s, h, h0]
  rfl
theorem xfw_l {p : Nat → Bool} {st : Nat → Nat} {n d : Nat} (h : p n = true) (h0 : xfw p st n = some d) (hl : st n < d) : xfw p st (n + 1) = some (st n) := by
  rw [xfw_s, h, h0]
  show some (if st n < d then st n else d) = _
  rw [if_pos hl]
theorem xfw_g {p : Nat → Bool} {st : Nat → Nat} {n d : Nat} (h : p n = true) (h0 : xfw p st n = some d) (hl : ¬ st n < d) : xfw p st (n + 1) = some d := by
  rw [xfw_s, h, h0]
  show some (if st n < d then st n else d) = _
  rw [if_neg hl]

section
variable {k a c n n2 m t p s d i1 j1 : Nat} {b : Nat × Nat} {g : Nat → Nat → Int32} {l : Nat → Nat → Int64} {i j x y z v w : Int32} {u w1 w2 : Int64}
variable {L G T e1 q1 κ δ : Nat} {Lw f f2 : Nat → Nat} {h tx F4 Rw Rw2 O : Nat → Int32}
set_option maxRecDepth 10000 in
theorem c_X12_keeps_bad (hR : xRr g h tx G T Lw) (hx : ¬ ((0 ≤ x ∧ x < nI G) ∧ 0 ≤ y ∧ y ≤ 5)) : xT (k + 6) 219 [.ref 73, .int x, .int y] (xH b g l) (fun r M' => M' = xH b g l ∧ r = some (.int (-1))) := by
  refine xT.of rfl (Nat.le_of_ble_eq_true rfl) ?_
  change xS _ _ 0 [(0, .ref 73), (1, .int x), (2, .int y)] [] _ _
  refine xS.s1 rfl rfl ?_
  try dsimp only [Nat.reduceAdd]
  refine xS.s1 rfl rfl ?_
  try dsimp only [Nat.reduceAdd]
  -- 2 yX12_isGlass
  refine xS.cv rfl rfl rfl rfl rfl rfl ⟨by decide, rfl, rfl⟩ (c_X12_isGlass hR.1.1 hR.1.2) (fun v M1 hv => ?_)
  rw [hv.1, hv.2]
  clear hv M1 v
  try dsimp only [Nat.reduceAdd, Option.toList, List.cons_append, List.nil_append, List.drop]
  refine xS.br0 (c := .eq) (off := 12) (l := 3) rfl rfl (fun h5 => ?_) (fun h5 => ?_)
  · have g5 := xt_eq h5
    refine xS.s1 rfl rfl ?_
    try dsimp only [Nat.reduceAdd, xi_m1]
    refine xS.ret rfl rfl rfl (fun _ _ => rfl) ?_
    exact ⟨rfl, rfl⟩
  · have g5 := xf_eq h5
    refine xS.s1 rfl rfl ?_
    try dsimp only [Nat.reduceAdd]
    refine xS.s1 rfl rfl ?_
    try dsimp only [Nat.reduceAdd, xi_0]
    refine xS.s1 rfl rfl ?_
    try dsimp only [Nat.reduceAdd, xi_5]
    -- 11 yX12_in
    refine xS.callS rfl rfl rfl ⟨Nat.le_of_ble_eq_true rfl, rfl⟩ c_in_x (fun v M1 hv => ?_)
    rw [hv.1, hv.2]
    clear hv M1 v
    try dsimp only [Nat.reduceAdd, Option.toList, List.cons_append, List.nil_append, List.drop]
    refine xS.br0 (c := .ne) (off := 5) (l := 3) rfl rfl (fun h14 => ?_) (fun h14 => ?_)
    · have g14 := xt_ne h14
      exact absurd ⟨xif1 g5, xif1 g14⟩ hx
    · have g14 := xf_ne h14
      refine xS.s1 rfl rfl ?_
      try dsimp only [Nat.reduceAdd, xi_m1]
      refine xS.ret rfl rfl rfl (fun _ _ => rfl) ?_
      exact ⟨rfl, rfl⟩

set_option maxRecDepth 10000 in
theorem c_X12_still_bad (hR : xRr g h tx G T Lw) (hx : ¬ ((0 ≤ x ∧ x < nI G) ∧ 0 ≤ y ∧ y ≤ 5)) : xT (k + 6) 220 [.ref 73, .int x, .int y] (xH b g l) (fun r M' => M' = xH b g l ∧ r = some (.int (-1))) := by
  refine xT.of rfl (Nat.le_of_ble_eq_true rfl) ?_
  change xS _ _ 0 [(0, .ref 73), (1, .int x), (2, .int y)] [] _ _
  refine xS.s1 rfl rfl ?_
  try dsimp only [Nat.reduceAdd]
  refine xS.s1 rfl rfl ?_
  try dsimp only [Nat.reduceAdd]
  -- 2 yX12_isGlass
  refine xS.cv rfl rfl rfl rfl rfl rfl ⟨by decide, rfl, rfl⟩ (c_X12_isGlass hR.1.1 hR.1.2) (fun v M1 hv => ?_)
  rw [hv.1, hv.2]
  clear hv M1 v
  try dsimp only [Nat.reduceAdd, Option.toList, List.cons_append, List.nil_append, List.drop]
  refine xS.br0 (c := .eq) (off := 12) (l := 3) rfl rfl (fun h5 => ?_) (fun h5 => ?_)
  · have g5 := xt_eq h5
    refine xS.s1 rfl rfl ?_
    try dsimp only [Nat.reduceAdd, xi_m1]
    refine xS.ret rfl rfl rfl (fun _ _ => rfl) ?_
    exact ⟨rfl, rfl⟩
  · have g5 := xf_eq h5
    refine xS.s1 rfl rfl ?_
    try dsimp only [Nat.reduceAdd]
    refine xS.s1 rfl rfl ?_
    try dsimp only [Nat.reduceAdd, xi_0]
    refine xS.s1 rfl rfl ?_
    try dsimp only [Nat.reduceAdd, xi_5]
    -- 11 yX12_in
    refine xS.callS rfl rfl rfl ⟨Nat.le_of_ble_eq_true rfl, rfl⟩ c_in_x (fun v M1 hv => ?_)
    rw [hv.1, hv.2]
    clear hv M1 v
    try dsimp only [Nat.reduceAdd, Option.toList, List.cons_append, List.nil_append, List.drop]
    refine xS.br0 (c := .ne) (off := 5) (l := 3) rfl rfl (fun h14 => ?_) (fun h14 => ?_)
    · have g14 := xt_ne h14
      exact absurd ⟨xif1 g5, xif1 g14⟩ hx
    · have g14 := xf_ne h14
      refine xS.s1 rfl rfl ?_
      try dsimp only [Nat.reduceAdd, xi_m1]
      refine xS.ret rfl rfl rfl (fun _ _ => rfl) ?_
      exact ⟨rfl, rfl⟩

set_option maxRecDepth 10000 in
theorem c_X12_keeps_0 (hR : xRr g h tx G T Lw) (hk : s < G) (hn : n ≤ 5) (hn0 : n = 0) : xT (k + 6) 219 [.ref 73, .int (nI s), .int (nI n)] (xH b g l) (fun r M' => ∃ g0, xFr g g0 ∧ M' = xH b (up g0 73 20 (0 : Int32)) (up (up l 73 21 (lN (xcnt (fun c => decide (xfst (fun i => !decide (xfb tx T (nI (xd6 n c i)) (xshw h (Lw s / 4) (Lw s % 4) (xd6 n c) i) = none)) n = none)) (6 ^ n) / 1))) 73 22 1) ∧ r = some (.int 1)) := by
  refine xT.of rfl (Nat.le_of_ble_eq_true rfl) ?_
  change xS _ _ 0 [(0, .ref 73), (1, .int (nI s)), (2, .int (nI n))] [] _ _
  refine xS.s1 rfl rfl ?_
  try dsimp only [Nat.reduceAdd]
  refine xS.s1 rfl rfl ?_
  try dsimp only [Nat.reduceAdd]
  -- 2 yX12_isGlass
  refine xS.cv rfl rfl rfl rfl rfl rfl ⟨by decide, rfl, rfl⟩ (c_X12_isGlass_in hR.1.1 hR.1.2 hk) (fun v M1 hv => ?_)
  rw [hv.1, hv.2]
  clear hv M1 v
  try dsimp only [Nat.reduceAdd, Option.toList, List.cons_append, List.nil_append, List.drop]
  refine xS.br0 (c := .eq) (off := 12) (l := 3) rfl rfl (fun h5 => ?_) (fun h5 => ?_)
  · have g5 := xt_eq h5
    exfalso; first | exact absurd g5 (by decide) | (simp (disch := omega) only [Int32.lt_iff_toInt_lt, Int32.le_iff_toInt_le, nI_toInt, Int32.reduceToInt] at g5 <;> omega)
  · have g5 := xf_eq h5
    refine xS.s1 rfl rfl ?_
    try dsimp only [Nat.reduceAdd]
    refine xS.s1 rfl rfl ?_
    try dsimp only [Nat.reduceAdd, xi_0]
    refine xS.s1 rfl rfl ?_
    try dsimp only [Nat.reduceAdd, xi_5]
    -- 11 yX12_in
    refine xS.callS rfl rfl rfl ⟨Nat.le_of_ble_eq_true rfl, rfl⟩ (c_in_n1 (s := 0) (m := 5) (by omega) hn (by decide)) (fun v M1 hv => ?_)
    rw [hv.1, hv.2]
    clear hv M1 v
    try dsimp only [Nat.reduceAdd, Option.toList, List.cons_append, List.nil_append, List.drop]
    refine xS.br0 (c := .ne) (off := 5) (l := 3) rfl rfl (fun h14 => ?_) (fun h14 => ?_)
    · have g14 := xt_ne h14
      refine xS.s1 rfl rfl ?_
      try dsimp only [Nat.reduceAdd, xi_0]
      refine xS.s1 rfl rfl ?_
      try dsimp only [Nat.reduceAdd]
      refine xS.s1 rfl rfl ?_
      try dsimp only [Nat.reduceAdd, xi_0]
      refine xS.s1 rfl rfl ?_
      try dsimp only [Nat.reduceAdd]
      refine xS.s1 rfl rfl ?_
      try dsimp only [Nat.reduceAdd, xi_0]
      refine xS.s1 rfl rfl ?_
      try dsimp only [Nat.reduceAdd]
      refine xS.pick [0, 2, 1, 3, 4, 5] rfl ?_
      refine xS.loop (σ := Nat → Nat → Int32) (6 ^ n) (fun j S => [(5, .int (nI j)), (3, .int (nI (xcnt (fun c => decide (xfst (fun i => !decide (xfb tx T (nI (xd6 n c i)) (xshw h (Lw s / 4) (Lw s % 4) (xd6 n c) i) = none)) n = none)) j))), (4, .int (0 : Int32)), (0, .ref 73), (1, .int (nI s)), (2, .int (nI n))]) (fun _ S => xH b S l) (fun _ S => ∀ a, a ≠ 90 → S a = g a) (g) (rfl) (rfl) (fun _ _ => rfl) ?_
      intro j S hj hI ih
      try dsimp only
      have hp6 := pow6 (n := n) (by omega)
      have hRj : xRr S h tx G T Lw := xRr_fr (by rw [hI 73 (by decide)]) (by rw [hI 73 (by decide)]) (hI 81 (by decide)) (hI 82 (by decide)) (hI 83 (by decide)) hR
      refine xS.s1 rfl rfl ?_
      try dsimp only [Nat.reduceAdd]
      refine xS.s1 rfl rfl ?_
      try dsimp only [Nat.reduceAdd]
      -- 30 yX12_rowsOf
      refine xS.callS rfl rfl rfl ⟨Nat.le_of_ble_eq_true rfl, rfl⟩ (c_X12_rowsOf (by omega)) (fun v M1 hv => ?_)
      rw [hv.1, hv.2]
      clear hv M1 v
      try dsimp only [Nat.reduceAdd, Option.toList, List.cons_append, List.nil_append, List.drop]
      refine xS.br (c := .ge) (off := 49) (l := 3) rfl rfl (fun h33 => ?_) (fun h33 => ?_)
      · have g33 := xt_ge h33
        have e := xnle (b := 6 ^ n) g33 (by omega) (by omega)
        have e2 : 6 ^ n = j := by omega
        rw [← e2]
        have hcl := xcnt_le (fun c => decide (xfst (fun i => !decide (xfb tx T (nI (xd6 n c i)) (xshw h (Lw s / 4) (Lw s % 4) (xd6 n c) i) = none)) n = none)) (6 ^ n)
        refine xS.s1 rfl rfl ?_
        try dsimp only [Nat.reduceAdd]
        refine xS.s1 rfl rfl ?_
        try dsimp only [Nat.reduceAdd]
        refine xS.s1 rfl rfl ?_
        try dsimp only [Nat.reduceAdd]
        rw [nI_l (by omega)]
        refine xS.s1 rfl rfl ?_
        try dsimp only [Nat.reduceAdd]
        -- 86 yX12_tellParts
        refine xS.cv rfl rfl rfl rfl rfl rfl ⟨by decide, rfl, rfl⟩ (c_X12_tellParts (p := xcnt (fun c => decide (xfst (fun i => !decide (xfb tx T (nI (xd6 n c i)) (xshw h (Lw s / 4) (Lw s % 4) (xd6 n c) i) = none)) n = none)) (6 ^ n)) (d := 1) (by omega) (by omega) (by omega)) (fun v M1 hv => ?_)
        rw [hv.1, hv.2, Nat.gcd_one_right]
        clear hv M1 v
        try dsimp only [Nat.reduceAdd, Option.toList, List.cons_append, List.nil_append, List.drop]
        refine xS.s1 rfl rfl ?_
        try dsimp only [Nat.reduceAdd]
        refine xS.s1 rfl rfl ?_
        try dsimp only [Nat.reduceAdd]
        -- 92 yX12_tells
        refine xS.cv rfl rfl rfl rfl rfl rfl ⟨by decide, rfl, rfl⟩ c_X12_tells (fun v M1 hv => ?_)
        rw [hv.1, hv.2]
        clear hv M1 v
        try dsimp only [Nat.reduceAdd, Option.toList, List.cons_append, List.nil_append, List.drop]
        refine xS.ret rfl rfl rfl (fun _ _ => rfl) ?_
        exact ⟨S, ⟨fun a h1 h2 => hI a (by omega), fun i _ => by rw [hI 73 (by decide)]⟩, rfl, rfl⟩
      · have g33 := xf_ge h33
        have hlt := xnlt (b := 6 ^ n) g33 (by omega) (by omega)
        refine xS.s1 rfl rfl ?_
        try dsimp only [Nat.reduceAdd]
        refine xS.s1 rfl rfl ?_
        try dsimp only [Nat.reduceAdd]
        refine xS.s1 rfl rfl ?_
        try dsimp only [Nat.reduceAdd]
        -- 40 yX12_layDoings
        refine xS.cv rfl rfl rfl rfl rfl rfl ⟨by decide, rfl, rfl⟩ (c_X12_layDoings (by omega) (by omega)) (fun v M1 hv => ?_)
        rw [hv.1, hv.2]
        clear hv M1 v
        have hRg : xRr (glay S n j n) h tx G T Lw := xRr_fr (by rw [glay_na (by decide)]) (by rw [glay_na (by decide)]) (glay_na (by decide)) (glay_na (by decide)) (glay_na (by decide)) hRj
        try dsimp only [Nat.reduceAdd, Option.toList, List.cons_append, List.nil_append, List.drop]
        refine xS.s1 rfl rfl ?_
        try dsimp only [Nat.reduceAdd]
        refine xS.s1 rfl rfl ?_
        try dsimp only [Nat.reduceAdd]
        refine xS.s1 rfl rfl ?_
        try dsimp only [Nat.reduceAdd]
        -- 46 yX12_breaksNone
        refine xS.cv rfl rfl rfl rfl rfl rfl ⟨by decide, rfl, rfl⟩ (c_X12_breaksNone (f := xd6 n j) hRg hk (by omega) (fun u hu => ⟨glay_in hu, xd6_lt _ _ _⟩)) (fun v M1 hv => ?_)
        rw [hv.1, hv.2]
        clear hv M1 v
        try dsimp only [Nat.reduceAdd, Option.toList, List.cons_append, List.nil_append, List.drop]
        refine xS.br0 (c := .eq) (off := 27) (l := 3) rfl rfl (fun h49 => ?_) (fun h49 => ?_)
        · have g49 := xt_eq h49
          refine xS.s1 rfl rfl ?_
          try dsimp only [Nat.reduceAdd, xi_1]
          rw [nI_1]
          refine xS.s1 rfl rfl ?_
          try dsimp only [Nat.reduceAdd]
          refine xS.pick [0, 1, 2, 3, 4, 5] rfl ?_
          have ih2 := ih (glay S n j n) (by omega) (fun a ha => by rw [glay_na ha, hI a ha])
          have q49 := decide_eq_false (xif0 g49)
          rw [show xcnt (fun c => decide (xfst (fun i => !decide (xfb tx T (nI (xd6 n c i)) (xshw h (Lw s / 4) (Lw s % 4) (xd6 n c) i) = none)) n = none)) (j + 1) = xcnt (fun c => decide (xfst (fun i => !decide (xfb tx T (nI (xd6 n c i)) (xshw h (Lw s / 4) (Lw s % 4) (xd6 n c) i) = none)) n = none)) j from by rw [xcnt_s]; simp only [q49, cond_false]] at ih2
          exact ih2
        · have g49 := xf_eq h49
          refine xS.s1 rfl rfl ?_
          try dsimp only [Nat.reduceAdd, xi_1]
          rw [nI_1]
          refine xS.s1 rfl rfl ?_
          try dsimp only [Nat.reduceAdd]
          refine xS.s1 rfl rfl ?_
          try dsimp only [Nat.reduceAdd]
          refine xS.br0 (c := .le) (off := 14) (l := 3) rfl rfl (fun h58 => ?_) (fun h58 => ?_)
          · have g58 := xt_le h58
            refine xS.s1 rfl rfl ?_
            try dsimp only [Nat.reduceAdd, xi_0]
            refine xS.s1 rfl rfl ?_
            try dsimp only [Nat.reduceAdd]
            refine xS.s1 rfl rfl ?_
            try dsimp only [Nat.reduceAdd]
            refine xS.s1 rfl rfl ?_
            try dsimp only [Nat.reduceAdd, xi_1]
            rw [nI_1]
            refine xS.s1 rfl rfl ?_
            try dsimp only [Nat.reduceAdd]
            refine xS.pick [0, 2, 1, 3, 4, 5] rfl ?_
            rw [xor0]
            have ih2 := ih (glay S n j n) (by omega) (fun a ha => by rw [glay_na ha, hI a ha])
            have q49 := decide_eq_true (xif1 g49)
            rw [show xcnt (fun c => decide (xfst (fun i => !decide (xfb tx T (nI (xd6 n c i)) (xshw h (Lw s / 4) (Lw s % 4) (xd6 n c) i) = none)) n = none)) (j + 1) = xcnt (fun c => decide (xfst (fun i => !decide (xfb tx T (nI (xd6 n c i)) (xshw h (Lw s / 4) (Lw s % 4) (xd6 n c) i) = none)) n = none)) j + 1 from by rw [xcnt_s]; simp only [q49, cond_true]] at ih2
            exact ih2
          · have g58 := xf_le h58
            exfalso; rw [hn0] at g58; exact absurd g58 (by decide)
    · have g14 := xf_ne h14
      exfalso; first | exact absurd g14 (by decide) | (simp (disch := omega) only [Int32.lt_iff_toInt_lt, Int32.le_iff_toInt_le, nI_toInt, Int32.reduceToInt] at g14 <;> omega)

set_option maxRecDepth 10000 in
theorem c_X12_keeps_ok (hR : xRr g h tx G T Lw) (hk : s < G) (hn : n ≤ 5) (hn0 : 0 < n) : xT (k + 6) 219 [.ref 73, .int (nI s), .int (nI n)] (xH b g l) (fun r M' => ∃ g0, xFr g g0 ∧ M' = xH b (up g0 73 20 (xorf (fun c => decide (xfst (fun i => !decide (xfb tx T (nI (xd6 n c i)) (xshw h (Lw s / 4) (Lw s % 4) (xd6 n c) i) = none)) n = none)) (fun c => xd6 n c 0) (6 ^ n))) (up (up l 73 21 (lN (xcnt (fun c => decide (xfst (fun i => !decide (xfb tx T (nI (xd6 n c i)) (xshw h (Lw s / 4) (Lw s % 4) (xd6 n c) i) = none)) n = none)) (6 ^ n) / 1))) 73 22 1) ∧ r = some (.int 1)) := by
  refine xT.of rfl (Nat.le_of_ble_eq_true rfl) ?_
  change xS _ _ 0 [(0, .ref 73), (1, .int (nI s)), (2, .int (nI n))] [] _ _
  refine xS.s1 rfl rfl ?_
  try dsimp only [Nat.reduceAdd]
  refine xS.s1 rfl rfl ?_
  try dsimp only [Nat.reduceAdd]
  -- 2 yX12_isGlass
  refine xS.cv rfl rfl rfl rfl rfl rfl ⟨by decide, rfl, rfl⟩ (c_X12_isGlass_in hR.1.1 hR.1.2 hk) (fun v M1 hv => ?_)
  rw [hv.1, hv.2]
  clear hv M1 v
  try dsimp only [Nat.reduceAdd, Option.toList, List.cons_append, List.nil_append, List.drop]
  refine xS.br0 (c := .eq) (off := 12) (l := 3) rfl rfl (fun h5 => ?_) (fun h5 => ?_)
  · have g5 := xt_eq h5
    exfalso; first | exact absurd g5 (by decide) | (simp (disch := omega) only [Int32.lt_iff_toInt_lt, Int32.le_iff_toInt_le, nI_toInt, Int32.reduceToInt] at g5 <;> omega)
  · have g5 := xf_eq h5
    refine xS.s1 rfl rfl ?_
    try dsimp only [Nat.reduceAdd]
    refine xS.s1 rfl rfl ?_
    try dsimp only [Nat.reduceAdd, xi_0]
    refine xS.s1 rfl rfl ?_
    try dsimp only [Nat.reduceAdd, xi_5]
    -- 11 yX12_in
    refine xS.callS rfl rfl rfl ⟨Nat.le_of_ble_eq_true rfl, rfl⟩ (c_in_n1 (s := 0) (m := 5) (by omega) hn (by decide)) (fun v M1 hv => ?_)
    rw [hv.1, hv.2]
    clear hv M1 v
    try dsimp only [Nat.reduceAdd, Option.toList, List.cons_append, List.nil_append, List.drop]
    refine xS.br0 (c := .ne) (off := 5) (l := 3) rfl rfl (fun h14 => ?_) (fun h14 => ?_)
    · have g14 := xt_ne h14
      refine xS.s1 rfl rfl ?_
      try dsimp only [Nat.reduceAdd, xi_0]
      refine xS.s1 rfl rfl ?_
      try dsimp only [Nat.reduceAdd]
      refine xS.s1 rfl rfl ?_
      try dsimp only [Nat.reduceAdd, xi_0]
      refine xS.s1 rfl rfl ?_
      try dsimp only [Nat.reduceAdd]
      refine xS.s1 rfl rfl ?_
      try dsimp only [Nat.reduceAdd, xi_0]
      refine xS.s1 rfl rfl ?_
      try dsimp only [Nat.reduceAdd]
      refine xS.pick [0, 2, 1, 3, 4, 5] rfl ?_
      refine xS.loop (σ := Nat → Nat → Int32) (6 ^ n) (fun j S => [(5, .int (nI j)), (3, .int (nI (xcnt (fun c => decide (xfst (fun i => !decide (xfb tx T (nI (xd6 n c i)) (xshw h (Lw s / 4) (Lw s % 4) (xd6 n c) i) = none)) n = none)) j))), (4, .int (xorf (fun c => decide (xfst (fun i => !decide (xfb tx T (nI (xd6 n c i)) (xshw h (Lw s / 4) (Lw s % 4) (xd6 n c) i) = none)) n = none)) (fun c => xd6 n c 0) j)), (0, .ref 73), (1, .int (nI s)), (2, .int (nI n))]) (fun _ S => xH b S l) (fun _ S => ∀ a, a ≠ 90 → S a = g a) (g) (rfl) (rfl) (fun _ _ => rfl) ?_
      intro j S hj hI ih
      try dsimp only
      have hp6 := pow6 (n := n) (by omega)
      have hRj : xRr S h tx G T Lw := xRr_fr (by rw [hI 73 (by decide)]) (by rw [hI 73 (by decide)]) (hI 81 (by decide)) (hI 82 (by decide)) (hI 83 (by decide)) hR
      refine xS.s1 rfl rfl ?_
      try dsimp only [Nat.reduceAdd]
      refine xS.s1 rfl rfl ?_
      try dsimp only [Nat.reduceAdd]
      -- 30 yX12_rowsOf
      refine xS.callS rfl rfl rfl ⟨Nat.le_of_ble_eq_true rfl, rfl⟩ (c_X12_rowsOf (by omega)) (fun v M1 hv => ?_)
      rw [hv.1, hv.2]
      clear hv M1 v
      try dsimp only [Nat.reduceAdd, Option.toList, List.cons_append, List.nil_append, List.drop]
      refine xS.br (c := .ge) (off := 49) (l := 3) rfl rfl (fun h33 => ?_) (fun h33 => ?_)
      · have g33 := xt_ge h33
        have e := xnle (b := 6 ^ n) g33 (by omega) (by omega)
        have e2 : 6 ^ n = j := by omega
        rw [← e2]
        have hcl := xcnt_le (fun c => decide (xfst (fun i => !decide (xfb tx T (nI (xd6 n c i)) (xshw h (Lw s / 4) (Lw s % 4) (xd6 n c) i) = none)) n = none)) (6 ^ n)
        refine xS.s1 rfl rfl ?_
        try dsimp only [Nat.reduceAdd]
        refine xS.s1 rfl rfl ?_
        try dsimp only [Nat.reduceAdd]
        refine xS.s1 rfl rfl ?_
        try dsimp only [Nat.reduceAdd]
        rw [nI_l (by omega)]
        refine xS.s1 rfl rfl ?_
        try dsimp only [Nat.reduceAdd]
        -- 86 yX12_tellParts
        refine xS.cv rfl rfl rfl rfl rfl rfl ⟨by decide, rfl, rfl⟩ (c_X12_tellParts (p := xcnt (fun c => decide (xfst (fun i => !decide (xfb tx T (nI (xd6 n c i)) (xshw h (Lw s / 4) (Lw s % 4) (xd6 n c) i) = none)) n = none)) (6 ^ n)) (d := 1) (by omega) (by omega) (by omega)) (fun v M1 hv => ?_)
        rw [hv.1, hv.2, Nat.gcd_one_right]
        clear hv M1 v
        try dsimp only [Nat.reduceAdd, Option.toList, List.cons_append, List.nil_append, List.drop]
        refine xS.s1 rfl rfl ?_
        try dsimp only [Nat.reduceAdd]
        refine xS.s1 rfl rfl ?_
        try dsimp only [Nat.reduceAdd]
        -- 92 yX12_tells
        refine xS.cv rfl rfl rfl rfl rfl rfl ⟨by decide, rfl, rfl⟩ c_X12_tells (fun v M1 hv => ?_)
        rw [hv.1, hv.2]
        clear hv M1 v
        try dsimp only [Nat.reduceAdd, Option.toList, List.cons_append, List.nil_append, List.drop]
        refine xS.ret rfl rfl rfl (fun _ _ => rfl) ?_
        exact ⟨S, ⟨fun a h1 h2 => hI a (by omega), fun i _ => by rw [hI 73 (by decide)]⟩, rfl, rfl⟩
      · have g33 := xf_ge h33
        have hlt := xnlt (b := 6 ^ n) g33 (by omega) (by omega)
        refine xS.s1 rfl rfl ?_
        try dsimp only [Nat.reduceAdd]
        refine xS.s1 rfl rfl ?_
        try dsimp only [Nat.reduceAdd]
        refine xS.s1 rfl rfl ?_
        try dsimp only [Nat.reduceAdd]
        -- 40 yX12_layDoings
        refine xS.cv rfl rfl rfl rfl rfl rfl ⟨by decide, rfl, rfl⟩ (c_X12_layDoings (by omega) (by omega)) (fun v M1 hv => ?_)
        rw [hv.1, hv.2]
        clear hv M1 v
        have hRg : xRr (glay S n j n) h tx G T Lw := xRr_fr (by rw [glay_na (by decide)]) (by rw [glay_na (by decide)]) (glay_na (by decide)) (glay_na (by decide)) (glay_na (by decide)) hRj
        try dsimp only [Nat.reduceAdd, Option.toList, List.cons_append, List.nil_append, List.drop]
        refine xS.s1 rfl rfl ?_
        try dsimp only [Nat.reduceAdd]
        refine xS.s1 rfl rfl ?_
        try dsimp only [Nat.reduceAdd]
        refine xS.s1 rfl rfl ?_
        try dsimp only [Nat.reduceAdd]
        -- 46 yX12_breaksNone
        refine xS.cv rfl rfl rfl rfl rfl rfl ⟨by decide, rfl, rfl⟩ (c_X12_breaksNone (f := xd6 n j) hRg hk (by omega) (fun u hu => ⟨glay_in hu, xd6_lt _ _ _⟩)) (fun v M1 hv => ?_)
        rw [hv.1, hv.2]
        clear hv M1 v
        try dsimp only [Nat.reduceAdd, Option.toList, List.cons_append, List.nil_append, List.drop]
        refine xS.br0 (c := .eq) (off := 27) (l := 3) rfl rfl (fun h49 => ?_) (fun h49 => ?_)
        · have g49 := xt_eq h49
          refine xS.s1 rfl rfl ?_
          try dsimp only [Nat.reduceAdd, xi_1]
          rw [nI_1]
          refine xS.s1 rfl rfl ?_
          try dsimp only [Nat.reduceAdd]
          refine xS.pick [0, 1, 2, 3, 4, 5] rfl ?_
          have ih2 := ih (glay S n j n) (by omega) (fun a ha => by rw [glay_na ha, hI a ha])
          have q49 := decide_eq_false (xif0 g49)
          rw [show xcnt (fun c => decide (xfst (fun i => !decide (xfb tx T (nI (xd6 n c i)) (xshw h (Lw s / 4) (Lw s % 4) (xd6 n c) i) = none)) n = none)) (j + 1) = xcnt (fun c => decide (xfst (fun i => !decide (xfb tx T (nI (xd6 n c i)) (xshw h (Lw s / 4) (Lw s % 4) (xd6 n c) i) = none)) n = none)) j from by rw [xcnt_s]; simp only [q49, cond_false], show xorf (fun c => decide (xfst (fun i => !decide (xfb tx T (nI (xd6 n c i)) (xshw h (Lw s / 4) (Lw s % 4) (xd6 n c) i) = none)) n = none)) (fun c => xd6 n c 0) (j + 1) = xorf (fun c => decide (xfst (fun i => !decide (xfb tx T (nI (xd6 n c i)) (xshw h (Lw s / 4) (Lw s % 4) (xd6 n c) i) = none)) n = none)) (fun c => xd6 n c 0) j from by rw [xorf_s]; simp only [q49, cond_false]] at ih2
          exact ih2
        · have g49 := xf_eq h49
          refine xS.s1 rfl rfl ?_
          try dsimp only [Nat.reduceAdd, xi_1]
          rw [nI_1]
          refine xS.s1 rfl rfl ?_
          try dsimp only [Nat.reduceAdd]
          refine xS.s1 rfl rfl ?_
          try dsimp only [Nat.reduceAdd]
          refine xS.br0 (c := .le) (off := 14) (l := 3) rfl rfl (fun h58 => ?_) (fun h58 => ?_)
          · have g58 := xt_le h58
            exact absurd (xn0 g58 (by omega)) (by omega)
          · have g58 := xf_le h58
            refine xS.s1 rfl rfl ?_
            try dsimp only [Nat.reduceAdd, xi_1]
            refine xS.s1 rfl rfl ?_
            try dsimp only [Nat.reduceAdd]
            refine xS.gR rfl rfl rfl ⟨by decide, rfl⟩ rfl ?_
            try dsimp only [Nat.reduceAdd]
            refine xS.s1 rfl rfl ?_
            try dsimp only [Nat.reduceAdd, xi_0]
            refine xS.ia (t := 0) rfl xar_90 (by omega) ?_
            try dsimp only [Nat.reduceAdd]
            rw [glay_in hn0]
            refine xS.s1 rfl rfl ?_
            try dsimp only [Nat.reduceAdd]
            refine xS.s1 rfl rfl ?_
            try dsimp only [Nat.reduceAdd]
            refine xS.s1 rfl rfl ?_
            try dsimp only [Nat.reduceAdd]
            refine xS.s1 rfl rfl ?_
            try dsimp only [Nat.reduceAdd]
            refine xS.s1 rfl rfl ?_
            try dsimp only [Nat.reduceAdd, xi_1]
            rw [nI_1]
            refine xS.s1 rfl rfl ?_
            try dsimp only [Nat.reduceAdd]
            refine xS.pick [0, 2, 1, 3, 4, 5] rfl ?_
            have ih2 := ih (glay S n j n) (by omega) (fun a ha => by rw [glay_na ha, hI a ha])
            have q49 := decide_eq_true (xif1 g49)
            rw [show xcnt (fun c => decide (xfst (fun i => !decide (xfb tx T (nI (xd6 n c i)) (xshw h (Lw s / 4) (Lw s % 4) (xd6 n c) i) = none)) n = none)) (j + 1) = xcnt (fun c => decide (xfst (fun i => !decide (xfb tx T (nI (xd6 n c i)) (xshw h (Lw s / 4) (Lw s % 4) (xd6 n c) i) = none)) n = none)) j + 1 from by rw [xcnt_s]; simp only [q49, cond_true], show xorf (fun c => decide (xfst (fun i => !decide (xfb tx T (nI (xd6 n c i)) (xshw h (Lw s / 4) (Lw s % 4) (xd6 n c) i) = none)) n = none)) (fun c => xd6 n c 0) (j + 1) = xorf (fun c => decide (xfst (fun i => !decide (xfb tx T (nI (xd6 n c i)) (xshw h (Lw s / 4) (Lw s % 4) (xd6 n c) i) = none)) n = none)) (fun c => xd6 n c 0) j ||| (1 <<< (nI (xd6 n j 0) &&& 31)) from by rw [xorf_s]; simp only [q49, cond_true]] at ih2
            exact ih2
    · have g14 := xf_ne h14
      exfalso; first | exact absurd g14 (by decide) | (simp (disch := omega) only [Int32.lt_iff_toInt_lt, Int32.le_iff_toInt_le, nI_toInt, Int32.reduceToInt] at g14 <;> omega)

set_option maxRecDepth 10000 in
theorem c_X12_still_ok (hR : xRr g h tx G T Lw) (hk : s < G) (hn : n ≤ 5) : xT (k + 6) 220 [.ref 73, .int (nI s), .int (nI n)] (xH b g l) (fun r M' => ∃ g0, xFr g g0 ∧ M' = xH b g0 l ∧ r = some (.int (xfI (xfw (fun c => decide (xfst (fun i => !decide (xfb tx T (nI (xd6 n c i)) (xshw h (Lw s / 4) (Lw s % 4) (xd6 n c) i) = none)) n = none)) (fun c => xcnt (fun i => decide (xd6 n c i = 0)) n) (6 ^ n))))) := by
  refine xT.of rfl (Nat.le_of_ble_eq_true rfl) ?_
  change xS _ _ 0 [(0, .ref 73), (1, .int (nI s)), (2, .int (nI n))] [] _ _
  refine xS.s1 rfl rfl ?_
  try dsimp only [Nat.reduceAdd]
  refine xS.s1 rfl rfl ?_
  try dsimp only [Nat.reduceAdd]
  -- 2 yX12_isGlass
  refine xS.cv rfl rfl rfl rfl rfl rfl ⟨by decide, rfl, rfl⟩ (c_X12_isGlass_in hR.1.1 hR.1.2 hk) (fun v M1 hv => ?_)
  rw [hv.1, hv.2]
  clear hv M1 v
  try dsimp only [Nat.reduceAdd, Option.toList, List.cons_append, List.nil_append, List.drop]
  refine xS.br0 (c := .eq) (off := 12) (l := 3) rfl rfl (fun h5 => ?_) (fun h5 => ?_)
  · have g5 := xt_eq h5
    exfalso; first | exact absurd g5 (by decide) | (simp (disch := omega) only [Int32.lt_iff_toInt_lt, Int32.le_iff_toInt_le, nI_toInt, Int32.reduceToInt] at g5 <;> omega)
  · have g5 := xf_eq h5
    refine xS.s1 rfl rfl ?_
    try dsimp only [Nat.reduceAdd]
    refine xS.s1 rfl rfl ?_
    try dsimp only [Nat.reduceAdd, xi_0]
    refine xS.s1 rfl rfl ?_
    try dsimp only [Nat.reduceAdd, xi_5]
    -- 11 yX12_in
    refine xS.callS rfl rfl rfl ⟨Nat.le_of_ble_eq_true rfl, rfl⟩ (c_in_n1 (s := 0) (m := 5) (by omega) hn (by decide)) (fun v M1 hv => ?_)
    rw [hv.1, hv.2]
    clear hv M1 v
    try dsimp only [Nat.reduceAdd, Option.toList, List.cons_append, List.nil_append, List.drop]
    refine xS.br0 (c := .ne) (off := 5) (l := 3) rfl rfl (fun h14 => ?_) (fun h14 => ?_)
    · have g14 := xt_ne h14
      refine xS.s1 rfl rfl ?_
      try dsimp only [Nat.reduceAdd, xj_m9]
      refine xS.s1 rfl rfl ?_
      try dsimp only [Nat.reduceAdd]
      refine xS.s1 rfl rfl ?_
      try dsimp only [Nat.reduceAdd, xi_0]
      refine xS.s1 rfl rfl ?_
      try dsimp only [Nat.reduceAdd]
      refine xS.pick [0, 1, 2, 3, 4] rfl ?_
      refine xS.loop (σ := Nat → Nat → Int32) (6 ^ n) (fun j S => [(4, .int (nI j)), (3, .int (xfI (xfw (fun c => decide (xfst (fun i => !decide (xfb tx T (nI (xd6 n c i)) (xshw h (Lw s / 4) (Lw s % 4) (xd6 n c) i) = none)) n = none)) (fun c => xcnt (fun i => decide (xd6 n c i = 0)) n) j))), (0, .ref 73), (1, .int (nI s)), (2, .int (nI n))]) (fun _ S => xH b S l) (fun _ S => ∀ a, a ≠ 90 → S a = g a) (g) (rfl) (rfl) (fun _ _ => rfl) ?_
      intro j S hj hI ih
      try dsimp only
      have hp6 := pow6 (n := n) (by omega)
      have hRj : xRr S h tx G T Lw := xRr_fr (by rw [hI 73 (by decide)]) (by rw [hI 73 (by decide)]) (hI 81 (by decide)) (hI 82 (by decide)) (hI 83 (by decide)) hR
      have hfb : ∀ d9, (xfw (fun c => decide (xfst (fun i => !decide (xfb tx T (nI (xd6 n c i)) (xshw h (Lw s / 4) (Lw s % 4) (xd6 n c) i) = none)) n = none)) (fun c => xcnt (fun i => decide (xd6 n c i = 0)) n) j) = some d9 → d9 < 2 ^ 31 := fun d9 e9 => by have := xfw_b (p := (fun c => decide (xfst (fun i => !decide (xfb tx T (nI (xd6 n c i)) (xshw h (Lw s / 4) (Lw s % 4) (xd6 n c) i) = none)) n = none))) (st := (fun c => xcnt (fun i => decide (xd6 n c i = 0)) n)) (q := n) (fun c => xcnt_le _ _) j d9 e9; omega
      refine xS.s1 rfl rfl ?_
      try dsimp only [Nat.reduceAdd]
      refine xS.s1 rfl rfl ?_
      try dsimp only [Nat.reduceAdd]
      -- 28 yX12_rowsOf
      refine xS.callS rfl rfl rfl ⟨Nat.le_of_ble_eq_true rfl, rfl⟩ (c_X12_rowsOf (by omega)) (fun v M1 hv => ?_)
      rw [hv.1, hv.2]
      clear hv M1 v
      try dsimp only [Nat.reduceAdd, Option.toList, List.cons_append, List.nil_append, List.drop]
      refine xS.br (c := .ge) (off := 80) (l := 3) rfl rfl (fun h31 => ?_) (fun h31 => ?_)
      · have g31 := xt_ge h31
        have e := xnle (b := 6 ^ n) g31 (by omega) (by omega)
        have e2 : 6 ^ n = j := by omega
        rw [← e2]
        refine xS.s1 rfl rfl ?_
        try dsimp only [Nat.reduceAdd]
        refine xS.ret rfl rfl rfl (fun _ _ => rfl) ?_
        exact ⟨S, ⟨fun a h1 h2 => hI a (by omega), fun i _ => by rw [hI 73 (by decide)]⟩, rfl, rfl⟩
      · have g31 := xf_ge h31
        have hlt := xnlt (b := 6 ^ n) g31 (by omega) (by omega)
        refine xS.s1 rfl rfl ?_
        try dsimp only [Nat.reduceAdd]
        refine xS.s1 rfl rfl ?_
        try dsimp only [Nat.reduceAdd]
        refine xS.s1 rfl rfl ?_
        try dsimp only [Nat.reduceAdd]
        -- 38 yX12_layDoings
        refine xS.cv rfl rfl rfl rfl rfl rfl ⟨by decide, rfl, rfl⟩ (c_X12_layDoings (by omega) (by omega)) (fun v M1 hv => ?_)
        rw [hv.1, hv.2]
        clear hv M1 v
        have hRg : xRr (glay S n j n) h tx G T Lw := xRr_fr (by rw [glay_na (by decide)]) (by rw [glay_na (by decide)]) (glay_na (by decide)) (glay_na (by decide)) (glay_na (by decide)) hRj
        try dsimp only [Nat.reduceAdd, Option.toList, List.cons_append, List.nil_append, List.drop]
        refine xS.s1 rfl rfl ?_
        try dsimp only [Nat.reduceAdd]
        refine xS.s1 rfl rfl ?_
        try dsimp only [Nat.reduceAdd]
        refine xS.s1 rfl rfl ?_
        try dsimp only [Nat.reduceAdd]
        -- 44 yX12_breaksNone
        refine xS.cv rfl rfl rfl rfl rfl rfl ⟨by decide, rfl, rfl⟩ (c_X12_breaksNone (f := xd6 n j) hRg hk (by omega) (fun u hu => ⟨glay_in hu, xd6_lt _ _ _⟩)) (fun v M1 hv => ?_)
        rw [hv.1, hv.2]
        clear hv M1 v
        try dsimp only [Nat.reduceAdd, Option.toList, List.cons_append, List.nil_append, List.drop]
        refine xS.br0 (c := .eq) (off := 58) (l := 3) rfl rfl (fun h47 => ?_) (fun h47 => ?_)
        · have g47 := xt_eq h47
          refine xS.s1 rfl rfl ?_
          try dsimp only [Nat.reduceAdd, xi_1]
          rw [nI_1]
          refine xS.s1 rfl rfl ?_
          try dsimp only [Nat.reduceAdd]
          refine xS.pick [0, 1, 2, 3, 4] rfl ?_
          have ih2 := ih (glay S n j n) (by omega) (fun a ha => by rw [glay_na ha, hI a ha])
          rw [xfw_n (p := (fun c => decide (xfst (fun i => !decide (xfb tx T (nI (xd6 n c i)) (xshw h (Lw s / 4) (Lw s % 4) (xd6 n c) i) = none)) n = none))) (decide_eq_false (xif0 g47))] at ih2
          exact ih2
        · have g47 := xf_eq h47
          refine xS.s1 rfl rfl ?_
          try dsimp only [Nat.reduceAdd, xi_0]
          refine xS.s1 rfl rfl ?_
          try dsimp only [Nat.reduceAdd]
          refine xS.s1 rfl rfl ?_
          try dsimp only [Nat.reduceAdd, xi_0]
          refine xS.s1 rfl rfl ?_
          try dsimp only [Nat.reduceAdd]
          refine xS.pick [0, 1, 4, 5, 6, 3, 2] rfl ?_
          refine xS.loop (σ := Unit) (n) (fun i S => [(6, .int (nI i)), (5, .int (nI (xcnt (fun i => decide (xd6 n j i = 0)) i))), (0, .ref 73), (1, .int (nI s)), (2, .int (nI n)), (3, .int (xfI (xfw (fun c => decide (xfst (fun i => !decide (xfb tx T (nI (xd6 n c i)) (xshw h (Lw s / 4) (Lw s % 4) (xd6 n c) i) = none)) n = none)) (fun c => xcnt (fun i => decide (xd6 n c i = 0)) n) j))), (4, .int (nI j))]) (fun _ _ => xH b (glay S n j n) l) (fun _ _ => True) (()) (rfl) (rfl) (trivial) ?_
          intro i S2 hi hI9 ih2
          try dsimp only
          refine xS.s1 rfl rfl ?_
          try dsimp only [Nat.reduceAdd]
          refine xS.s1 rfl rfl ?_
          try dsimp only [Nat.reduceAdd]
          refine xS.br (c := .ge) (off := 29) (l := 3) rfl rfl (fun h59 => ?_) (fun h59 => ?_)
          · have g59 := xt_ge h59
            have e := xnle g59 (by omega) (by omega)
            have e3 : n = i := by omega
            rw [← e3]
            have hxc := xcnt_le (fun i => decide (xd6 n j i = 0)) n
            refine xS.s1 rfl rfl ?_
            try dsimp only [Nat.reduceAdd]
            refine xS.br0 (c := .lt) (off := 9) (l := 3) rfl rfl (fun h89 => ?_) (fun h89 => ?_)
            · have g89 := xt_lt h89
              refine xS.s1 rfl rfl ?_
              try dsimp only [Nat.reduceAdd]
              refine xS.s1 rfl rfl ?_
              try dsimp only [Nat.reduceAdd]
              refine xS.s1 rfl rfl ?_
              try dsimp only [Nat.reduceAdd]
              refine xS.s1 rfl rfl ?_
              try dsimp only [Nat.reduceAdd, xi_1]
              rw [nI_1]
              refine xS.s1 rfl rfl ?_
              try dsimp only [Nat.reduceAdd]
              refine xS.pick [0, 1, 4, 5, 6] rfl ?_
              have ih2 := ih (glay S n j n) (by omega) (fun a ha => by rw [glay_na ha, hI a ha])
              have q47 : (fun c => decide (xfst (fun i => !decide (xfb tx T (nI (xd6 n c i)) (xshw h (Lw s / 4) (Lw s % 4) (xd6 n c) i) = none)) n = none)) j = true := decide_eq_true (xif1 g47)
              rw [xfw_0 q47 ((xfI_neg hfb).mp g89)] at ih2
              exact ih2
            · have g89 := xf_lt h89
              refine xS.s1 rfl rfl ?_
              try dsimp only [Nat.reduceAdd]
              refine xS.s1 rfl rfl ?_
              try dsimp only [Nat.reduceAdd]
              refine xS.br (c := .ge) (off := 8) (l := 3) rfl rfl (fun h95 => ?_) (fun h95 => ?_)
              · have g95 := xt_ge h95
                refine xS.s1 rfl rfl ?_
                try dsimp only [Nat.reduceAdd]
                refine xS.s1 rfl rfl ?_
                try dsimp only [Nat.reduceAdd]
                refine xS.s1 rfl rfl ?_
                try dsimp only [Nat.reduceAdd, xi_1]
                rw [nI_1]
                refine xS.s1 rfl rfl ?_
                try dsimp only [Nat.reduceAdd]
                refine xS.pick [0, 1, 4, 5, 6] rfl ?_
                have ih2 := ih (glay S n j n) (by omega) (fun a ha => by rw [glay_na ha, hI a ha])
                have q47 : (fun c => decide (xfst (fun i => !decide (xfb tx T (nI (xd6 n c i)) (xshw h (Lw s / 4) (Lw s % 4) (xd6 n c) i) = none)) n = none)) j = true := decide_eq_true (xif1 g47)
                obtain ⟨d9, e9⟩ : ∃ d9, (xfw (fun c => decide (xfst (fun i => !decide (xfb tx T (nI (xd6 n c i)) (xshw h (Lw s / 4) (Lw s % 4) (xd6 n c) i) = none)) n = none)) (fun c => xcnt (fun i => decide (xd6 n c i = 0)) n) j) = some d9 := by
                  cases eo : (xfw (fun c => decide (xfst (fun i => !decide (xfb tx T (nI (xd6 n c i)) (xshw h (Lw s / 4) (Lw s % 4) (xd6 n c) i) = none)) n = none)) (fun c => xcnt (fun i => decide (xd6 n c i = 0)) n) j) with
                  | none => rw [eo] at g89; exact absurd g89 (by decide)
                  | some d9 => exact ⟨d9, rfl⟩
                have b9 := xfw_b (p := (fun c => decide (xfst (fun i => !decide (xfb tx T (nI (xd6 n c i)) (xshw h (Lw s / 4) (Lw s % 4) (xd6 n c) i) = none)) n = none))) (st := (fun c => xcnt (fun i => decide (xd6 n c i = 0)) n)) (q := n) (fun c => xcnt_le _ _) j d9 e9
                rw [e9] at g95
                rw [xfw_g q47 e9 (Nat.not_lt.mpr (xnle (a := (fun c => xcnt (fun i => decide (xd6 n c i = 0)) n) j) (b := d9) g95 (by show xcnt _ _ < _; omega) (by omega)))] at ih2
                rw [e9]
                exact ih2
              · have g95 := xf_ge h95
                refine xS.s1 rfl rfl ?_
                try dsimp only [Nat.reduceAdd]
                refine xS.s1 rfl rfl ?_
                try dsimp only [Nat.reduceAdd]
                refine xS.s1 rfl rfl ?_
                try dsimp only [Nat.reduceAdd]
                refine xS.s1 rfl rfl ?_
                try dsimp only [Nat.reduceAdd, xi_1]
                rw [nI_1]
                refine xS.s1 rfl rfl ?_
                try dsimp only [Nat.reduceAdd]
                refine xS.pick [0, 1, 4, 5, 6] rfl ?_
                have ih2 := ih (glay S n j n) (by omega) (fun a ha => by rw [glay_na ha, hI a ha])
                have q47 : (fun c => decide (xfst (fun i => !decide (xfb tx T (nI (xd6 n c i)) (xshw h (Lw s / 4) (Lw s % 4) (xd6 n c) i) = none)) n = none)) j = true := decide_eq_true (xif1 g47)
                obtain ⟨d9, e9⟩ : ∃ d9, (xfw (fun c => decide (xfst (fun i => !decide (xfb tx T (nI (xd6 n c i)) (xshw h (Lw s / 4) (Lw s % 4) (xd6 n c) i) = none)) n = none)) (fun c => xcnt (fun i => decide (xd6 n c i = 0)) n) j) = some d9 := by
                  cases eo : (xfw (fun c => decide (xfst (fun i => !decide (xfb tx T (nI (xd6 n c i)) (xshw h (Lw s / 4) (Lw s % 4) (xd6 n c) i) = none)) n = none)) (fun c => xcnt (fun i => decide (xd6 n c i = 0)) n) j) with
                  | none => rw [eo] at g89; exact absurd g89 (by decide)
                  | some d9 => exact ⟨d9, rfl⟩
                have b9 := xfw_b (p := (fun c => decide (xfst (fun i => !decide (xfb tx T (nI (xd6 n c i)) (xshw h (Lw s / 4) (Lw s % 4) (xd6 n c) i) = none)) n = none))) (st := (fun c => xcnt (fun i => decide (xd6 n c i = 0)) n)) (q := n) (fun c => xcnt_le _ _) j d9 e9
                rw [e9] at g95
                rw [xfw_l q47 e9 (xnlt (a := (fun c => xcnt (fun i => decide (xd6 n c i = 0)) n) j) (b := d9) g95 (by show xcnt _ _ < _; omega) (by omega))] at ih2
                exact ih2
          · have g59 := xf_ge h59
            have hli := xnlt g59 (by omega) (by omega)
            refine xS.s1 rfl rfl ?_
            try dsimp only [Nat.reduceAdd]
            refine xS.s1 rfl rfl ?_
            try dsimp only [Nat.reduceAdd]
            refine xS.gR rfl rfl rfl ⟨by decide, rfl⟩ rfl ?_
            try dsimp only [Nat.reduceAdd]
            refine xS.s1 rfl rfl ?_
            try dsimp only [Nat.reduceAdd]
            refine xS.ia rfl xar_90 (by omega) ?_
            try dsimp only [Nat.reduceAdd]
            rw [glay_in hli]
            refine xS.br0 (c := .ne) (off := 7) (l := 3) rfl rfl (fun h71 => ?_) (fun h71 => ?_)
            · have g71 := xt_ne h71
              refine xS.s1 rfl rfl ?_
              try dsimp only [Nat.reduceAdd, xi_0]
              refine xS.s1 rfl rfl ?_
              try dsimp only [Nat.reduceAdd]
              refine xS.s1 rfl rfl ?_
              try dsimp only [Nat.reduceAdd]
              refine xS.s1 rfl rfl ?_
              try dsimp only [Nat.reduceAdd, xi_1]
              rw [nI_1]
              refine xS.s1 rfl rfl ?_
              try dsimp only [Nat.reduceAdd]
              refine xS.pick [0, 1, 2, 3, 4, 5, 6] rfl ?_
              rw [show nI (xcnt (fun i => decide (xd6 n j i = 0)) i) + 0 = nI (xcnt (fun i => decide (xd6 n j i = 0)) i) from nI_add _ 0]
              have q71 : ¬ xd6 n j i = 0 := fun z => g71 (by rw [z]; rfl)
              have ih8 := ih2 () (by omega) trivial
              first | (rw [show xcnt (fun i => decide (xd6 n j i = 0)) (i + 1) = xcnt (fun i => decide (xd6 n j i = 0)) i from by simp [xcnt_s, q71]] at ih8; exact ih8) | (rw [show xcnt (fun i => decide (xd6 n j i = 0)) (i + 1) = xcnt (fun i => decide (xd6 n j i = 0)) i + 1 from by simp [xcnt_s, q71]] at ih8; exact ih8)
            · have g71 := xf_ne h71
              refine xS.s1 rfl rfl ?_
              try dsimp only [Nat.reduceAdd, xi_1]
              refine xS.s1 rfl rfl ?_
              try dsimp only [Nat.reduceAdd]
              refine xS.s1 rfl rfl ?_
              try dsimp only [Nat.reduceAdd]
              refine xS.s1 rfl rfl ?_
              try dsimp only [Nat.reduceAdd]
              refine xS.s1 rfl rfl ?_
              try dsimp only [Nat.reduceAdd, xi_1]
              rw [nI_1]
              refine xS.s1 rfl rfl ?_
              try dsimp only [Nat.reduceAdd]
              refine xS.pick [0, 1, 2, 3, 4, 5, 6] rfl ?_
              rw [nI_1]
              have q71 := nI_inj (b := 0) (by have := xd6_lt n j i; omega) (by omega) g71
              have ih8 := ih2 () (by omega) trivial
              first | (rw [show xcnt (fun i => decide (xd6 n j i = 0)) (i + 1) = xcnt (fun i => decide (xd6 n j i = 0)) i from by simp [xcnt_s, q71]] at ih8; exact ih8) | (rw [show xcnt (fun i => decide (xd6 n j i = 0)) (i + 1) = xcnt (fun i => decide (xd6 n j i = 0)) i + 1 from by simp [xcnt_s, q71]] at ih8; exact ih8)
    · have g14 := xf_ne h14
      exfalso; first | exact absurd g14 (by decide) | (simp (disch := omega) only [Int32.lt_iff_toInt_lt, Int32.le_iff_toInt_le, nI_toInt, Int32.reduceToInt] at g14 <;> omega)

end
end
section
/-! LimpMirrorModel: digest -/
section
variable {k a c n n2 m t p s d i1 j1 : Nat} {b : Nat × Nat} {g : Nat → Nat → Int32} {l : Nat → Nat → Int64} {i j x y z v w : Int32} {u w1 w2 : Int64}
variable {L G T e1 q1 κ δ : Nat} {Lw f f2 : Nat → Nat} {h tx F4 Rw Rw2 O : Nat → Int32}
set_option maxRecDepth 10000 in
theorem c_X12_digest (hR : xRr g h tx G T Lw) (hD : xDr g h tx T G Lw F4 m) (hm : m ≤ 40) (hs : g 73 14 = nI m) (hz1 : ∀ q, q < 6 → xsz (g 74 q) 60) (hz2 : ∀ q, q < 4 → xsz (g 76 q) 60) (hz3 : ∀ q, q < 3 → xsz (g 86 q) 60) (hz1b : ∀ q, q < 6 → xsz (g 74 q) 40) : xT (k + 8) 238 [.ref 73] (xH b g l) (fun r M' => M' = xH b g (up l 73 31 (xda (g 76) (fun r i => g 77 (60 * r + i)) (xda (g 74) (fun r i => g 75 (40 * r + i)) (xdl (g 86) (xdl F4 (xdl tx (xdG (xgf (fun _ => F4) Lw m) 4 (xdl h (xdl (xctr g F4 G T m Lw) 17 9) 6) G) (2 * T)) (4 * m)) 3) 6) 4)) ∧ r = some (.long (xda (g 76) (fun r i => g 77 (60 * r + i)) (xda (g 74) (fun r i => g 75 (40 * r + i)) (xdl (g 86) (xdl F4 (xdl tx (xdG (xgf (fun _ => F4) Lw m) 4 (xdl h (xdl (xctr g F4 G T m Lw) 17 9) 6) G) (2 * T)) (4 * m)) 3) 6) 4))) := by
  have h6 := hR.1.2
  have h8 := hR.2.1.2
  refine xT.of rfl (Nat.le_of_ble_eq_true rfl) ?_
  change xS _ _ 0 [(0, .ref 73)] [] _ _
  refine xS.s1 rfl rfl ?_
  try dsimp only [Nat.reduceAdd]
  refine xS.s1 rfl rfl ?_
  try dsimp only [Nat.reduceAdd]
  refine xS.pL rfl rfl rfl ⟨⟨by decide, rfl⟩, rfl, by decide, by decide⟩ rfl ?_
  try dsimp only [Nat.reduceAdd]
  refine xS.s1 rfl rfl ?_
  try dsimp only [Nat.reduceAdd, xi_0]
  refine xS.s1 rfl rfl ?_
  try dsimp only [Nat.reduceAdd]
  refine xS.pick [0, 1] rfl ?_
  refine xS.loop (σ := Unit) (9) (fun j S => [(1, .int (nI j)), (0, .ref 73)]) (fun j _ => xH b g (up l 73 31 (xdl (xctr g F4 G T m Lw) 17 j))) (fun _ _ => True) (()) (rfl) (rfl) (trivial) ?_
  intro j S9 hj hI9 ih
  try dsimp only
  refine xS.s1 rfl rfl ?_
  try dsimp only [Nat.reduceAdd]
  refine xS.s1 rfl rfl ?_
  try dsimp only [Nat.reduceAdd, xj_9]
  refine xS.br (c := .ge) (off := 18) (l := 3) rfl rfl (fun h12 => ?_) (fun h12 => ?_)
  · have g12 := xt_ge h12
    have e := xnle (b := 9) g12 (by omega) (by omega)
    have e2 : 9 = j := by omega
    subst e2
    refine xS.s1 rfl rfl ?_
    try dsimp only [Nat.reduceAdd, xi_0]
    refine xS.s1 rfl rfl ?_
    try dsimp only [Nat.reduceAdd]
    refine xS.pick [0, 1] rfl ?_
    refine xS.loop (σ := Unit) (6) (fun j S => [(1, .int (nI j)), (0, .ref 73)]) (fun j _ => xH b g (up l 73 31 (xdl h (xdl (xctr g F4 G T m Lw) 17 9) j))) (fun _ _ => True) (()) (rfl) (rfl) (trivial) ?_
    intro j S32 hj hI32 ih
    try dsimp only
    refine xS.s1 rfl rfl ?_
    try dsimp only [Nat.reduceAdd]
    refine xS.s1 rfl rfl ?_
    try dsimp only [Nat.reduceAdd, xj_6]
    refine xS.br (c := .ge) (off := 19) (l := 3) rfl rfl (fun h35 => ?_) (fun h35 => ?_)
    · have g35 := xt_ge h35
      have e := xnle (b := 6) g35 (by omega) (by omega)
      have e2 : 6 = j := by omega
      subst e2
      refine xS.s1 rfl rfl ?_
      try dsimp only [Nat.reduceAdd, xi_0]
      refine xS.s1 rfl rfl ?_
      try dsimp only [Nat.reduceAdd]
      refine xS.pick [0, 1] rfl ?_
      refine xS.loop (σ := Unit) (G) (fun j S => [(1, .int (nI j)), (0, .ref 73)]) (fun j _ => xH b g (up l 73 31 (xdG (xgf (fun _ => F4) Lw m) 4 (xdl h (xdl (xctr g F4 G T m Lw) 17 9) 6) j))) (fun _ _ => True) (()) (rfl) (rfl) (trivial) ?_
      intro j S56 hj hI56 ih
      try dsimp only
      refine xS.s1 rfl rfl ?_
      try dsimp only [Nat.reduceAdd]
      refine xS.s1 rfl rfl ?_
      try dsimp only [Nat.reduceAdd]
      refine xS.gI rfl rfl rfl ⟨by decide, rfl⟩ rfl ?_
      try dsimp only [Nat.reduceAdd]
      refine xS.br (c := .ge) (off := 116) (l := 3) rfl rfl (fun h61 => ?_) (fun h61 => ?_)
      · have g61 := xt_ge h61
        rw [hR.1.1] at g61
        have e := xnle (b := G) g61 (by omega) (by omega)
        have e2 : G = j := by omega
        subst e2
        refine xS.s1 rfl rfl ?_
        try dsimp only [Nat.reduceAdd, xi_0]
        refine xS.s1 rfl rfl ?_
        try dsimp only [Nat.reduceAdd]
        refine xS.pick [0, 1] rfl ?_
        refine xS.loop (σ := Unit) (2 * T) (fun j S => [(1, .int (nI j)), (0, .ref 73)]) (fun j _ => xH b g (up l 73 31 (xdl tx (xdG (xgf (fun _ => F4) Lw m) 4 (xdl h (xdl (xctr g F4 G T m Lw) 17 9) 6) G) j))) (fun _ _ => True) (()) (rfl) (rfl) (trivial) ?_
        intro j S179 hj hI179 ih
        try dsimp only
        refine xS.s1 rfl rfl ?_
        try dsimp only [Nat.reduceAdd]
        refine xS.s1 rfl rfl ?_
        try dsimp only [Nat.reduceAdd, xi_2]
        refine xS.s1 rfl rfl ?_
        try dsimp only [Nat.reduceAdd]
        refine xS.gI rfl rfl rfl ⟨by decide, rfl⟩ rfl ?_
        try dsimp only [Nat.reduceAdd]
        refine xS.s1 rfl rfl ?_
        try dsimp only [Nat.reduceAdd]
        rw [hR.2.1.1, show (2 : Int32) * nI T = nI (2 * T) from pk_mul 2 T]
        refine xS.br (c := .ge) (off := 19) (l := 3) rfl rfl (fun h186 => ?_) (fun h186 => ?_)
        · have g186 := xt_ge h186
          have e := xnle (b := 2 * T) g186 (by omega) (by omega)
          have e2 : 2 * T = j := by omega
          subst e2
          refine xS.s1 rfl rfl ?_
          try dsimp only [Nat.reduceAdd, xi_0]
          refine xS.s1 rfl rfl ?_
          try dsimp only [Nat.reduceAdd]
          refine xS.pick [0, 1] rfl ?_
          refine xS.loop (σ := Unit) (m) (fun j S => [(1, .int (nI j)), (0, .ref 73)]) (fun j _ => xH b g (up l 73 31 (xdl F4 (xdl tx (xdG (xgf (fun _ => F4) Lw m) 4 (xdl h (xdl (xctr g F4 G T m Lw) 17 9) 6) G) (2 * T)) (4 * j)))) (fun _ _ => True) (()) (rfl) (rfl) (trivial) ?_
          intro j S207 hj hI207 ih
          try dsimp only
          refine xS.s1 rfl rfl ?_
          try dsimp only [Nat.reduceAdd]
          refine xS.s1 rfl rfl ?_
          try dsimp only [Nat.reduceAdd]
          refine xS.gI rfl rfl rfl ⟨by decide, rfl⟩ rfl ?_
          try dsimp only [Nat.reduceAdd]
          refine xS.br (c := .ge) (off := 47) (l := 3) rfl rfl (fun h212 => ?_) (fun h212 => ?_)
          · have g212 := xt_ge h212
            rw [hs] at g212
            have e := xnle (b := m) g212 (by omega) (by omega)
            have e2 : m = j := by omega
            subst e2
            refine xS.s1 rfl rfl ?_
            try dsimp only [Nat.reduceAdd, xi_0]
            refine xS.s1 rfl rfl ?_
            try dsimp only [Nat.reduceAdd]
            refine xS.pick [0, 1] rfl ?_
            refine xS.loop (σ := Unit) (3) (fun j S => [(1, .int (nI j)), (0, .ref 73)]) (fun j _ => xH b g (up l 73 31 (xdl (g 86) (xdl F4 (xdl tx (xdG (xgf (fun _ => F4) Lw m) 4 (xdl h (xdl (xctr g F4 G T m Lw) 17 9) 6) G) (2 * T)) (4 * m)) j))) (fun _ _ => True) (()) (rfl) (rfl) (trivial) ?_
            intro j S261 hj hI261 ih
            try dsimp only
            refine xS.s1 rfl rfl ?_
            try dsimp only [Nat.reduceAdd]
            refine xS.s1 rfl rfl ?_
            try dsimp only [Nat.reduceAdd, xi_3]
            refine xS.br (c := .ge) (off := 19) (l := 3) rfl rfl (fun h263 => ?_) (fun h263 => ?_)
            · have g263 := xt_ge h263
              have e := xnle (b := 3) g263 (by omega) (by omega)
              have e2 : 3 = j := by omega
              subst e2
              refine xS.s1 rfl rfl ?_
              try dsimp only [Nat.reduceAdd, xi_0]
              refine xS.s1 rfl rfl ?_
              try dsimp only [Nat.reduceAdd]
              refine xS.pick [0, 1] rfl ?_
              refine xS.loop (σ := Unit) (6) (fun j S => [(1, .int (nI j)), (0, .ref 73)]) (fun j _ => xH b g (up l 73 31 (xda (g 74) (fun r i => g 75 (40 * r + i)) (xdl (g 86) (xdl F4 (xdl tx (xdG (xgf (fun _ => F4) Lw m) 4 (xdl h (xdl (xctr g F4 G T m Lw) 17 9) 6) G) (2 * T)) (4 * m)) 3) j))) (fun _ _ => True) (()) (rfl) (rfl) (trivial) ?_
              intro j S284 hj hI284 ih
              try dsimp only
              refine xS.s1 rfl rfl ?_
              try dsimp only [Nat.reduceAdd]
              refine xS.s1 rfl rfl ?_
              try dsimp only [Nat.reduceAdd, xj_6]
              refine xS.br (c := .ge) (off := 52) (l := 3) rfl rfl (fun h287 => ?_) (fun h287 => ?_)
              · have g287 := xt_ge h287
                have e := xnle (b := 6) g287 (by omega) (by omega)
                have e2 : 6 = j := by omega
                subst e2
                refine xS.s1 rfl rfl ?_
                try dsimp only [Nat.reduceAdd, xi_0]
                refine xS.s1 rfl rfl ?_
                try dsimp only [Nat.reduceAdd]
                refine xS.pick [0, 1] rfl ?_
                refine xS.loop (σ := Unit) (4) (fun j S => [(1, .int (nI j)), (0, .ref 73)]) (fun j _ => xH b g (up l 73 31 (xda (g 76) (fun r i => g 77 (60 * r + i)) (xda (g 74) (fun r i => g 75 (40 * r + i)) (xdl (g 86) (xdl F4 (xdl tx (xdG (xgf (fun _ => F4) Lw m) 4 (xdl h (xdl (xctr g F4 G T m Lw) 17 9) 6) G) (2 * T)) (4 * m)) 3) 6) j))) (fun _ _ => True) (()) (rfl) (rfl) (trivial) ?_
                intro j S341 hj hI341 ih
                try dsimp only
                refine xS.s1 rfl rfl ?_
                try dsimp only [Nat.reduceAdd]
                refine xS.s1 rfl rfl ?_
                try dsimp only [Nat.reduceAdd, xi_4]
                refine xS.br (c := .ge) (off := 52) (l := 3) rfl rfl (fun h343 => ?_) (fun h343 => ?_)
                · have g343 := xt_ge h343
                  have e := xnle (b := 4) g343 (by omega) (by omega)
                  have e2 : 4 = j := by omega
                  subst e2
                  refine xS.s1 rfl rfl ?_
                  try dsimp only [Nat.reduceAdd]
                  refine xS.gL rfl rfl rfl ⟨by decide, rfl⟩ rfl ?_
                  try dsimp only [Nat.reduceAdd]
                  refine xS.ret rfl rfl rfl (fun _ _ => rfl) ?_
                  rw [up_same]
                  exact ⟨rfl, rfl⟩
                · have g343 := xf_ge h343
                  have hlt := xnlt (b := 4) g343 (by omega) (by omega)
                  have hln := xsz_le (hz2 j hlt) (by omega)
                  refine xS.s1 rfl rfl ?_
                  try dsimp only [Nat.reduceAdd]
                  refine xS.s1 rfl rfl ?_
                  try dsimp only [Nat.reduceAdd]
                  refine xS.gR rfl rfl rfl ⟨by decide, rfl⟩ rfl ?_
                  try dsimp only [Nat.reduceAdd]
                  refine xS.s1 rfl rfl ?_
                  try dsimp only [Nat.reduceAdd]
                  refine xS.ia rfl xar_76 (by omega) ?_
                  try dsimp only [Nat.reduceAdd]
                  -- 353 yX12_add
                  refine xS.cv rfl rfl rfl rfl rfl rfl ⟨by decide, rfl, rfl⟩ c_X12_add (fun v M1 hv => ?_)
                  rw [hv.1, hv.2]
                  clear hv M1 v
                  try dsimp only [Nat.reduceAdd, Option.toList, List.cons_append, List.nil_append, List.drop]
                  refine xS.s1 rfl rfl ?_
                  try dsimp only [Nat.reduceAdd, xi_0]
                  refine xS.s1 rfl rfl ?_
                  try dsimp only [Nat.reduceAdd]
                  refine xS.pick [0, 2, 1] rfl ?_
                  refine xS.loop (σ := Unit) (xN (g 76 j)) (fun i S => [(2, .int (nI i)), (0, .ref 73), (1, .int (nI j))]) (fun i _ => xH b g (up l 73 31 (xdl (fun i => g 77 (60 * j + i)) (xdg (xda (g 76) (fun r i => g 77 (60 * r + i)) (xda (g 74) (fun r i => g 75 (40 * r + i)) (xdl (g 86) (xdl F4 (xdl tx (xdG (xgf (fun _ => F4) Lw m) 4 (xdl h (xdl (xctr g F4 G T m Lw) 17 9) 6) G) (2 * T)) (4 * m)) 3) 6) j) (g 76 j)) i))) (fun _ _ => True) (()) (rfl) (rfl) (trivial) ?_
                  intro i S358 hi hI358 ih2
                  try dsimp only
                  refine xS.s1 rfl rfl ?_
                  try dsimp only [Nat.reduceAdd]
                  refine xS.s1 rfl rfl ?_
                  try dsimp only [Nat.reduceAdd]
                  refine xS.gR rfl rfl rfl ⟨by decide, rfl⟩ rfl ?_
                  try dsimp only [Nat.reduceAdd]
                  refine xS.s1 rfl rfl ?_
                  try dsimp only [Nat.reduceAdd]
                  refine xS.ia rfl xar_76 (by omega) ?_
                  try dsimp only [Nat.reduceAdd]
                  refine xS.br (c := .ge) (off := 24) (l := 3) rfl rfl (fun h365 => ?_) (fun h365 => ?_)
                  · have g365 := xt_ge h365
                    refine xS.s1 rfl rfl ?_
                    try dsimp only [Nat.reduceAdd, xi_1]
                    rw [nI_1]
                    refine xS.s1 rfl rfl ?_
                    try dsimp only [Nat.reduceAdd]
                    refine xS.pick [0, 2] rfl ?_
                    have ei : xN (g 76 j) = i := by
                      have := (not_congr (xsz_lt (hz2 j hlt) (by omega) (by omega : i < 2 ^ 31))).mp (Int32.not_lt.mpr g365)
                      omega
                    subst ei
                    exact ih () (by omega) trivial
                  · have g365 := xf_ge h365
                    have hl2 := (xsz_lt (hz2 j hlt) (by omega) (by omega)).mp g365
                    refine xS.s1 rfl rfl ?_
                    try dsimp only [Nat.reduceAdd]
                    refine xS.s1 rfl rfl ?_
                    try dsimp only [Nat.reduceAdd]
                    refine xS.gR rfl rfl rfl ⟨by decide, rfl⟩ rfl ?_
                    try dsimp only [Nat.reduceAdd]
                    refine xS.s1 rfl rfl ?_
                    try dsimp only [Nat.reduceAdd, xj_60]
                    refine xS.s1 rfl rfl ?_
                    try dsimp only [Nat.reduceAdd]
                    refine xS.s1 rfl rfl ?_
                    try dsimp only [Nat.reduceAdd]
                    refine xS.s1 rfl rfl ?_
                    try dsimp only [Nat.reduceAdd]
                    refine xS.s1 rfl rfl ?_
                    try dsimp only [Nat.reduceAdd]
                    rw [show (((60 * nI j) + nI i) : Int32) = nI ((60 * j) + i) from by simp only [← nI_add, ← pk_mul]; rfl]
                    refine xS.ia rfl xar_77 (by omega) ?_
                    try dsimp only [Nat.reduceAdd]
                    -- 380 yX12_add
                    refine xS.cv rfl rfl rfl rfl rfl rfl ⟨by decide, rfl, rfl⟩ c_X12_add (fun v M1 hv => ?_)
                    rw [hv.1, hv.2]
                    clear hv M1 v
                    try dsimp only [Nat.reduceAdd, Option.toList, List.cons_append, List.nil_append, List.drop]
                    refine xS.s1 rfl rfl ?_
                    try dsimp only [Nat.reduceAdd, xi_1]
                    rw [nI_1]
                    refine xS.s1 rfl rfl ?_
                    try dsimp only [Nat.reduceAdd]
                    refine xS.pick [0, 1, 2] rfl ?_
                    exact ih2 () (by omega) trivial
              · have g287 := xf_ge h287
                have hlt := xnlt (b := 6) g287 (by omega) (by omega)
                have hln := xsz_le (hz1b j hlt) (by omega)
                refine xS.s1 rfl rfl ?_
                try dsimp only [Nat.reduceAdd]
                refine xS.s1 rfl rfl ?_
                try dsimp only [Nat.reduceAdd]
                refine xS.gR rfl rfl rfl ⟨by decide, rfl⟩ rfl ?_
                try dsimp only [Nat.reduceAdd]
                refine xS.s1 rfl rfl ?_
                try dsimp only [Nat.reduceAdd]
                refine xS.ia rfl xar_74 (by omega) ?_
                try dsimp only [Nat.reduceAdd]
                -- 297 yX12_add
                refine xS.cv rfl rfl rfl rfl rfl rfl ⟨by decide, rfl, rfl⟩ c_X12_add (fun v M1 hv => ?_)
                rw [hv.1, hv.2]
                clear hv M1 v
                try dsimp only [Nat.reduceAdd, Option.toList, List.cons_append, List.nil_append, List.drop]
                refine xS.s1 rfl rfl ?_
                try dsimp only [Nat.reduceAdd, xi_0]
                refine xS.s1 rfl rfl ?_
                try dsimp only [Nat.reduceAdd]
                refine xS.pick [0, 2, 1] rfl ?_
                refine xS.loop (σ := Unit) (xN (g 74 j)) (fun i S => [(2, .int (nI i)), (0, .ref 73), (1, .int (nI j))]) (fun i _ => xH b g (up l 73 31 (xdl (fun i => g 75 (40 * j + i)) (xdg (xda (g 74) (fun r i => g 75 (40 * r + i)) (xdl (g 86) (xdl F4 (xdl tx (xdG (xgf (fun _ => F4) Lw m) 4 (xdl h (xdl (xctr g F4 G T m Lw) 17 9) 6) G) (2 * T)) (4 * m)) 3) j) (g 74 j)) i))) (fun _ _ => True) (()) (rfl) (rfl) (trivial) ?_
                intro i S302 hi hI302 ih2
                try dsimp only
                refine xS.s1 rfl rfl ?_
                try dsimp only [Nat.reduceAdd]
                refine xS.s1 rfl rfl ?_
                try dsimp only [Nat.reduceAdd]
                refine xS.gR rfl rfl rfl ⟨by decide, rfl⟩ rfl ?_
                try dsimp only [Nat.reduceAdd]
                refine xS.s1 rfl rfl ?_
                try dsimp only [Nat.reduceAdd]
                refine xS.ia rfl xar_74 (by omega) ?_
                try dsimp only [Nat.reduceAdd]
                refine xS.br (c := .ge) (off := 24) (l := 3) rfl rfl (fun h309 => ?_) (fun h309 => ?_)
                · have g309 := xt_ge h309
                  refine xS.s1 rfl rfl ?_
                  try dsimp only [Nat.reduceAdd, xi_1]
                  rw [nI_1]
                  refine xS.s1 rfl rfl ?_
                  try dsimp only [Nat.reduceAdd]
                  refine xS.pick [0, 2] rfl ?_
                  have ei : xN (g 74 j) = i := by
                    have := (not_congr (xsz_lt (hz1 j hlt) (by omega) (by omega : i < 2 ^ 31))).mp (Int32.not_lt.mpr g309)
                    omega
                  subst ei
                  exact ih () (by omega) trivial
                · have g309 := xf_ge h309
                  have hl2 := (xsz_lt (hz1 j hlt) (by omega) (by omega)).mp g309
                  refine xS.s1 rfl rfl ?_
                  try dsimp only [Nat.reduceAdd]
                  refine xS.s1 rfl rfl ?_
                  try dsimp only [Nat.reduceAdd]
                  refine xS.gR rfl rfl rfl ⟨by decide, rfl⟩ rfl ?_
                  try dsimp only [Nat.reduceAdd]
                  refine xS.s1 rfl rfl ?_
                  try dsimp only [Nat.reduceAdd, xj_40]
                  refine xS.s1 rfl rfl ?_
                  try dsimp only [Nat.reduceAdd]
                  refine xS.s1 rfl rfl ?_
                  try dsimp only [Nat.reduceAdd]
                  refine xS.s1 rfl rfl ?_
                  try dsimp only [Nat.reduceAdd]
                  refine xS.s1 rfl rfl ?_
                  try dsimp only [Nat.reduceAdd]
                  rw [show (((40 * nI j) + nI i) : Int32) = nI ((40 * j) + i) from by simp only [← nI_add, ← pk_mul]; rfl]
                  refine xS.ia rfl xar_75 (by omega) ?_
                  try dsimp only [Nat.reduceAdd]
                  -- 324 yX12_add
                  refine xS.cv rfl rfl rfl rfl rfl rfl ⟨by decide, rfl, rfl⟩ c_X12_add (fun v M1 hv => ?_)
                  rw [hv.1, hv.2]
                  clear hv M1 v
                  try dsimp only [Nat.reduceAdd, Option.toList, List.cons_append, List.nil_append, List.drop]
                  refine xS.s1 rfl rfl ?_
                  try dsimp only [Nat.reduceAdd, xi_1]
                  rw [nI_1]
                  refine xS.s1 rfl rfl ?_
                  try dsimp only [Nat.reduceAdd]
                  refine xS.pick [0, 1, 2] rfl ?_
                  exact ih2 () (by omega) trivial
            · have g263 := xf_ge h263
              have hlt := xnlt (b := 3) g263 (by omega) (by omega)
              refine xS.s1 rfl rfl ?_
              try dsimp only [Nat.reduceAdd]
              refine xS.s1 rfl rfl ?_
              try dsimp only [Nat.reduceAdd]
              refine xS.gR rfl rfl rfl ⟨by decide, rfl⟩ rfl ?_
              try dsimp only [Nat.reduceAdd]
              refine xS.s1 rfl rfl ?_
              try dsimp only [Nat.reduceAdd]
              refine xS.ia rfl xar_86 (by omega) ?_
              try dsimp only [Nat.reduceAdd]
              -- 273 yX12_add
              refine xS.cv rfl rfl rfl rfl rfl rfl ⟨by decide, rfl, rfl⟩ c_X12_add (fun v M1 hv => ?_)
              rw [hv.1, hv.2]
              clear hv M1 v
              try dsimp only [Nat.reduceAdd, Option.toList, List.cons_append, List.nil_append, List.drop]
              refine xS.s1 rfl rfl ?_
              try dsimp only [Nat.reduceAdd, xi_1]
              rw [nI_1]
              refine xS.s1 rfl rfl ?_
              try dsimp only [Nat.reduceAdd]
              refine xS.pick [0, 1] rfl ?_
              exact ih () (by omega) trivial
          · have g212 := xf_ge h212
            rw [hs] at g212
            have hlt := xnlt (b := m) g212 (by omega) (by omega)
            obtain ⟨s9, k9, p1, p2, p3, p4, p5, p6, p7, p8⟩ := hD j hlt
            refine xS.s1 rfl rfl ?_
            try dsimp only [Nat.reduceAdd]
            refine xS.s1 rfl rfl ?_
            try dsimp only [Nat.reduceAdd]
            refine xS.gR rfl rfl rfl ⟨by decide, rfl⟩ rfl ?_
            try dsimp only [Nat.reduceAdd]
            refine xS.s1 rfl rfl ?_
            try dsimp only [Nat.reduceAdd]
            refine xS.ia rfl xar_84 (by omega) ?_
            try dsimp only [Nat.reduceAdd]
            rw [p7, ← p3]
            -- 222 yX12_add
            refine xS.cv rfl rfl rfl rfl rfl rfl ⟨by decide, rfl, rfl⟩ c_X12_add (fun v M1 hv => ?_)
            rw [hv.1, hv.2]
            clear hv M1 v
            try dsimp only [Nat.reduceAdd, Option.toList, List.cons_append, List.nil_append, List.drop]
            refine xS.s1 rfl rfl ?_
            try dsimp only [Nat.reduceAdd]
            refine xS.s1 rfl rfl ?_
            try dsimp only [Nat.reduceAdd]
            refine xS.gR rfl rfl rfl ⟨by decide, rfl⟩ rfl ?_
            try dsimp only [Nat.reduceAdd]
            refine xS.s1 rfl rfl ?_
            try dsimp only [Nat.reduceAdd]
            refine xS.ia rfl xar_85 (by omega) ?_
            try dsimp only [Nat.reduceAdd]
            rw [p8, ← p4]
            -- 232 yX12_add
            refine xS.cv rfl rfl rfl rfl rfl rfl ⟨by decide, rfl, rfl⟩ c_X12_add (fun v M1 hv => ?_)
            rw [hv.1, hv.2]
            clear hv M1 v
            try dsimp only [Nat.reduceAdd, Option.toList, List.cons_append, List.nil_append, List.drop]
            refine xS.s1 rfl rfl ?_
            try dsimp only [Nat.reduceAdd]
            refine xS.s1 rfl rfl ?_
            try dsimp only [Nat.reduceAdd]
            refine xS.s1 rfl rfl ?_
            try dsimp only [Nat.reduceAdd]
            -- 238 yX12_shownOf
            refine xS.cv rfl rfl rfl rfl rfl rfl ⟨by decide, rfl, rfl⟩ (c_X12_shownOf hR hD hm hlt) (fun v M1 hv => ?_)
            rw [hv.1, hv.2]
            clear hv M1 v
            try dsimp only [Nat.reduceAdd, Option.toList, List.cons_append, List.nil_append, List.drop]
            -- 241 yX12_add
            refine xS.cv rfl rfl rfl rfl rfl rfl ⟨by decide, rfl, rfl⟩ c_X12_add (fun v M1 hv => ?_)
            rw [hv.1, hv.2]
            clear hv M1 v
            try dsimp only [Nat.reduceAdd, Option.toList, List.cons_append, List.nil_append, List.drop]
            refine xS.s1 rfl rfl ?_
            try dsimp only [Nat.reduceAdd]
            refine xS.s1 rfl rfl ?_
            try dsimp only [Nat.reduceAdd]
            refine xS.s1 rfl rfl ?_
            try dsimp only [Nat.reduceAdd]
            -- 247 yX12_brokenBy
            refine xS.cv rfl rfl rfl rfl rfl rfl ⟨by decide, rfl, rfl⟩ (c_X12_brokenBy hR hD hm hlt) (fun v M1 hv => ?_)
            rw [hv.1, hv.2]
            clear hv M1 v
            try dsimp only [Nat.reduceAdd, Option.toList, List.cons_append, List.nil_append, List.drop]
            -- 250 yX12_add
            refine xS.cv rfl rfl rfl rfl rfl rfl ⟨by decide, rfl, rfl⟩ c_X12_add (fun v M1 hv => ?_)
            rw [hv.1, hv.2]
            clear hv M1 v
            try dsimp only [Nat.reduceAdd, Option.toList, List.cons_append, List.nil_append, List.drop]
            refine xS.s1 rfl rfl ?_
            try dsimp only [Nat.reduceAdd, xi_1]
            rw [nI_1]
            refine xS.s1 rfl rfl ?_
            try dsimp only [Nat.reduceAdd]
            refine xS.pick [0, 1] rfl ?_
            exact ih () (by omega) trivial
        · have g186 := xf_ge h186
          have hlt := xnlt (b := 2 * T) g186 (by omega) (by omega)
          refine xS.s1 rfl rfl ?_
          try dsimp only [Nat.reduceAdd]
          refine xS.s1 rfl rfl ?_
          try dsimp only [Nat.reduceAdd]
          refine xS.gR rfl rfl rfl ⟨by decide, rfl⟩ rfl ?_
          try dsimp only [Nat.reduceAdd]
          refine xS.s1 rfl rfl ?_
          try dsimp only [Nat.reduceAdd]
          refine xS.ia rfl xar_83 (by omega) ?_
          try dsimp only [Nat.reduceAdd]
          rw [hR.2.2.2.2 j hlt]
          -- 196 yX12_add
          refine xS.cv rfl rfl rfl rfl rfl rfl ⟨by decide, rfl, rfl⟩ c_X12_add (fun v M1 hv => ?_)
          rw [hv.1, hv.2]
          clear hv M1 v
          try dsimp only [Nat.reduceAdd, Option.toList, List.cons_append, List.nil_append, List.drop]
          refine xS.s1 rfl rfl ?_
          try dsimp only [Nat.reduceAdd, xi_1]
          rw [nI_1]
          refine xS.s1 rfl rfl ?_
          try dsimp only [Nat.reduceAdd]
          refine xS.pick [0, 1] rfl ?_
          exact ih () (by omega) trivial
      · have g61 := xf_ge h61
        rw [hR.1.1] at g61
        have hlt := xnlt (b := G) g61 (by omega) (by omega)
        obtain ⟨r1, r2, r3⟩ := hR.2.2.1 j hlt
        refine xS.s1 rfl rfl ?_
        try dsimp only [Nat.reduceAdd, xi_0]
        refine xS.s1 rfl rfl ?_
        try dsimp only [Nat.reduceAdd]
        refine xS.s1 rfl rfl ?_
        try dsimp only [Nat.reduceAdd, xi_0]
        refine xS.s1 rfl rfl ?_
        try dsimp only [Nat.reduceAdd]
        refine xS.s1 rfl rfl ?_
        try dsimp only [Nat.reduceAdd, xi_0]
        refine xS.s1 rfl rfl ?_
        try dsimp only [Nat.reduceAdd]
        refine xS.pick [0, 2, 1, 4, 3] rfl ?_
        refine xS.loop (σ := Unit) (m) (fun i S => [(4, .int (nI i)), (2, .int (nI (xcnt (fun d => decide (F4 (4 * d + 1) = nI j)) i))), (3, .int (nI (xcnt (fun d => decide (F4 (4 * d + 1) = nI j) && !decide (F4 (4 * d + 3) = -9)) i))), (0, .ref 73), (1, .int (nI j))]) (fun _ _ => xH b g (up l 73 31 (xdG (xgf (fun _ => F4) Lw m) 4 (xdl h (xdl (xctr g F4 G T m Lw) 17 9) 6) j))) (fun _ _ => True) (()) (rfl) (rfl) (trivial) ?_
        intro i S71 hi hI71 ih2
        try dsimp only
        refine xS.s1 rfl rfl ?_
        try dsimp only [Nat.reduceAdd]
        refine xS.s1 rfl rfl ?_
        try dsimp only [Nat.reduceAdd]
        refine xS.gI rfl rfl rfl ⟨by decide, rfl⟩ rfl ?_
        try dsimp only [Nat.reduceAdd]
        refine xS.br (c := .ge) (off := 58) (l := 3) rfl rfl (fun h77 => ?_) (fun h77 => ?_)
        · have g77 := xt_ge h77
          rw [hs] at g77
          have e := xnle (b := m) g77 (by omega) (by omega)
          have e3 : m = i := by omega
          subst e3
          refine xS.s1 rfl rfl ?_
          try dsimp only [Nat.reduceAdd]
          refine xS.s1 rfl rfl ?_
          try dsimp only [Nat.reduceAdd]
          refine xS.gR rfl rfl rfl ⟨by decide, rfl⟩ rfl ?_
          try dsimp only [Nat.reduceAdd]
          refine xS.s1 rfl rfl ?_
          try dsimp only [Nat.reduceAdd, xi_2]
          refine xS.s1 rfl rfl ?_
          try dsimp only [Nat.reduceAdd]
          refine xS.s1 rfl rfl ?_
          try dsimp only [Nat.reduceAdd]
          rw [show ((2 * nI j) : Int32) = nI (2 * j) from by simp only [← nI_add, ← pk_mul]; rfl]
          refine xS.ia rfl xar_82 (by omega) ?_
          try dsimp only [Nat.reduceAdd]
          rw [r1]
          -- 144 yX12_add
          refine xS.cv rfl rfl rfl rfl rfl rfl ⟨by decide, rfl, rfl⟩ c_X12_add (fun v M1 hv => ?_)
          rw [hv.1, hv.2]
          clear hv M1 v
          try dsimp only [Nat.reduceAdd, Option.toList, List.cons_append, List.nil_append, List.drop]
          refine xS.s1 rfl rfl ?_
          try dsimp only [Nat.reduceAdd]
          refine xS.s1 rfl rfl ?_
          try dsimp only [Nat.reduceAdd]
          refine xS.gR rfl rfl rfl ⟨by decide, rfl⟩ rfl ?_
          try dsimp only [Nat.reduceAdd]
          refine xS.s1 rfl rfl ?_
          try dsimp only [Nat.reduceAdd, xi_2]
          refine xS.s1 rfl rfl ?_
          try dsimp only [Nat.reduceAdd]
          refine xS.s1 rfl rfl ?_
          try dsimp only [Nat.reduceAdd]
          refine xS.s1 rfl rfl ?_
          try dsimp only [Nat.reduceAdd, xi_1]
          refine xS.s1 rfl rfl ?_
          try dsimp only [Nat.reduceAdd]
          rw [show (((2 * nI j) + 1) : Int32) = nI ((2 * j) + 1) from by simp only [← nI_add, ← pk_mul]; rfl]
          refine xS.ia rfl xar_82 (by omega) ?_
          try dsimp only [Nat.reduceAdd]
          rw [r2]
          -- 158 yX12_add
          refine xS.cv rfl rfl rfl rfl rfl rfl ⟨by decide, rfl, rfl⟩ c_X12_add (fun v M1 hv => ?_)
          rw [hv.1, hv.2]
          clear hv M1 v
          try dsimp only [Nat.reduceAdd, Option.toList, List.cons_append, List.nil_append, List.drop]
          refine xS.s1 rfl rfl ?_
          try dsimp only [Nat.reduceAdd]
          refine xS.s1 rfl rfl ?_
          try dsimp only [Nat.reduceAdd]
          -- 163 yX12_add
          refine xS.cv rfl rfl rfl rfl rfl rfl ⟨by decide, rfl, rfl⟩ c_X12_add (fun v M1 hv => ?_)
          rw [hv.1, hv.2]
          clear hv M1 v
          try dsimp only [Nat.reduceAdd, Option.toList, List.cons_append, List.nil_append, List.drop]
          refine xS.s1 rfl rfl ?_
          try dsimp only [Nat.reduceAdd]
          refine xS.s1 rfl rfl ?_
          try dsimp only [Nat.reduceAdd]
          -- 168 yX12_add
          refine xS.cv rfl rfl rfl rfl rfl rfl ⟨by decide, rfl, rfl⟩ c_X12_add (fun v M1 hv => ?_)
          rw [hv.1, hv.2]
          clear hv M1 v
          try dsimp only [Nat.reduceAdd, Option.toList, List.cons_append, List.nil_append, List.drop]
          refine xS.s1 rfl rfl ?_
          try dsimp only [Nat.reduceAdd, xi_1]
          rw [nI_1]
          refine xS.s1 rfl rfl ?_
          try dsimp only [Nat.reduceAdd]
          refine xS.pick [0, 4] rfl ?_
          exact ih () (by omega) trivial
        · have g77 := xf_ge h77
          rw [hs] at g77
          have hli := xnlt (b := m) g77 (by omega) (by omega)
          obtain ⟨s9, k9, p1, p2, p3, p4, p5, p6, p7, p8⟩ := hD i hli
          refine xS.s1 rfl rfl ?_
          try dsimp only [Nat.reduceAdd]
          refine xS.s1 rfl rfl ?_
          try dsimp only [Nat.reduceAdd]
          refine xS.gR rfl rfl rfl ⟨by decide, rfl⟩ rfl ?_
          try dsimp only [Nat.reduceAdd]
          refine xS.s1 rfl rfl ?_
          try dsimp only [Nat.reduceAdd]
          refine xS.ia rfl xar_85 (by omega) ?_
          try dsimp only [Nat.reduceAdd]
          rw [p8, ← p4]
          refine xS.s1 rfl rfl ?_
          try dsimp only [Nat.reduceAdd]
          refine xS.br (c := .ne) (off := 7) (l := 3) rfl rfl (fun h89 => ?_) (fun h89 => ?_)
          · have g89 := xt_ne h89
            refine xS.s1 rfl rfl ?_
            try dsimp only [Nat.reduceAdd, xi_0]
            refine xS.s1 rfl rfl ?_
            try dsimp only [Nat.reduceAdd]
            refine xS.s1 rfl rfl ?_
            try dsimp only [Nat.reduceAdd]
            refine xS.s1 rfl rfl ?_
            try dsimp only [Nat.reduceAdd]
            refine xS.s1 rfl rfl ?_
            try dsimp only [Nat.reduceAdd]
            refine xS.gR rfl rfl rfl ⟨by decide, rfl⟩ rfl ?_
            try dsimp only [Nat.reduceAdd]
            refine xS.s1 rfl rfl ?_
            try dsimp only [Nat.reduceAdd]
            refine xS.ia rfl xar_85 (by omega) ?_
            try dsimp only [Nat.reduceAdd]
            rw [p8, ← p4]
            refine xS.s1 rfl rfl ?_
            try dsimp only [Nat.reduceAdd]
            refine xS.br (c := .ne) (off := 18) (l := 3) rfl rfl (fun h108 => ?_) (fun h108 => ?_)
            · have g108 := xt_ne h108
              refine xS.s1 rfl rfl ?_
              try dsimp only [Nat.reduceAdd, xi_0]
              refine xS.s1 rfl rfl ?_
              try dsimp only [Nat.reduceAdd]
              refine xS.s1 rfl rfl ?_
              try dsimp only [Nat.reduceAdd]
              refine xS.s1 rfl rfl ?_
              try dsimp only [Nat.reduceAdd, xi_1]
              rw [nI_1]
              refine xS.s1 rfl rfl ?_
              try dsimp only [Nat.reduceAdd]
              refine xS.pick [0, 2, 1, 3, 4] rfl ?_
              have ih8 := ih2 () (by omega) trivial
              have qA : (fun d => decide (F4 (4 * d + 1) = nI j)) i = false := decide_eq_false g89
              rw [show xcnt (fun d => decide (F4 (4 * d + 1) = nI j)) (i + 1) = xcnt (fun d => decide (F4 (4 * d + 1) = nI j)) i from by rw [xcnt_s]; simp [g89], show xcnt (fun d => decide (F4 (4 * d + 1) = nI j) && !decide (F4 (4 * d + 3) = -9)) (i + 1) = xcnt (fun d => decide (F4 (4 * d + 1) = nI j) && !decide (F4 (4 * d + 3) = -9)) i from by rw [xcnt_s]; simp [g89]] at ih8
              rw [show nI (xcnt (fun d => decide (F4 (4 * d + 1) = nI j)) i) + 0 = nI (xcnt (fun d => decide (F4 (4 * d + 1) = nI j)) i) from nI_add _ 0]
              rw [show nI (xcnt (fun d => decide (F4 (4 * d + 1) = nI j) && !decide (F4 (4 * d + 3) = -9)) i) + 0 = nI (xcnt (fun d => decide (F4 (4 * d + 1) = nI j) && !decide (F4 (4 * d + 3) = -9)) i) from nI_add _ 0]
              exact ih8
            · have g108 := xf_ne h108
              refine xS.s1 rfl rfl ?_
              try dsimp only [Nat.reduceAdd]
              refine xS.s1 rfl rfl ?_
              try dsimp only [Nat.reduceAdd]
              -- 114 yX12_brokenBy
              refine xS.cv rfl rfl rfl rfl rfl rfl ⟨by decide, rfl, rfl⟩ (c_X12_brokenBy hR hD hm hli) (fun v M1 hv => ?_)
              rw [hv.1, hv.2]
              clear hv M1 v
              try dsimp only [Nat.reduceAdd, Option.toList, List.cons_append, List.nil_append, List.drop]
              refine xS.s1 rfl rfl ?_
              try dsimp only [Nat.reduceAdd, xj_m9]
              refine xS.br (c := .eq) (off := 7) (l := 3) rfl rfl (fun h119 => ?_) (fun h119 => ?_)
              · have g119 := xt_eq h119
                refine xS.s1 rfl rfl ?_
                try dsimp only [Nat.reduceAdd, xi_0]
                refine xS.s1 rfl rfl ?_
                try dsimp only [Nat.reduceAdd]
                refine xS.s1 rfl rfl ?_
                try dsimp only [Nat.reduceAdd]
                refine xS.s1 rfl rfl ?_
                try dsimp only [Nat.reduceAdd, xi_1]
                rw [nI_1]
                refine xS.s1 rfl rfl ?_
                try dsimp only [Nat.reduceAdd]
                refine xS.pick [0, 2, 1, 3, 4] rfl ?_
                exact absurd g108 g89
              · have g119 := xf_eq h119
                refine xS.s1 rfl rfl ?_
                try dsimp only [Nat.reduceAdd, xi_1]
                refine xS.s1 rfl rfl ?_
                try dsimp only [Nat.reduceAdd]
                refine xS.s1 rfl rfl ?_
                try dsimp only [Nat.reduceAdd]
                refine xS.s1 rfl rfl ?_
                try dsimp only [Nat.reduceAdd]
                refine xS.s1 rfl rfl ?_
                try dsimp only [Nat.reduceAdd, xi_1]
                rw [nI_1]
                refine xS.s1 rfl rfl ?_
                try dsimp only [Nat.reduceAdd]
                refine xS.pick [0, 2, 1, 3, 4] rfl ?_
                exact absurd g108 g89
          · have g89 := xf_ne h89
            refine xS.s1 rfl rfl ?_
            try dsimp only [Nat.reduceAdd, xi_1]
            refine xS.s1 rfl rfl ?_
            try dsimp only [Nat.reduceAdd]
            refine xS.s1 rfl rfl ?_
            try dsimp only [Nat.reduceAdd]
            refine xS.s1 rfl rfl ?_
            try dsimp only [Nat.reduceAdd]
            refine xS.s1 rfl rfl ?_
            try dsimp only [Nat.reduceAdd]
            refine xS.s1 rfl rfl ?_
            try dsimp only [Nat.reduceAdd]
            refine xS.gR rfl rfl rfl ⟨by decide, rfl⟩ rfl ?_
            try dsimp only [Nat.reduceAdd]
            refine xS.s1 rfl rfl ?_
            try dsimp only [Nat.reduceAdd]
            refine xS.ia rfl xar_85 (by omega) ?_
            try dsimp only [Nat.reduceAdd]
            rw [p8, ← p4]
            refine xS.s1 rfl rfl ?_
            try dsimp only [Nat.reduceAdd]
            refine xS.br (c := .ne) (off := 18) (l := 3) rfl rfl (fun h108 => ?_) (fun h108 => ?_)
            · have g108 := xt_ne h108
              refine xS.s1 rfl rfl ?_
              try dsimp only [Nat.reduceAdd, xi_0]
              refine xS.s1 rfl rfl ?_
              try dsimp only [Nat.reduceAdd]
              refine xS.s1 rfl rfl ?_
              try dsimp only [Nat.reduceAdd]
              refine xS.s1 rfl rfl ?_
              try dsimp only [Nat.reduceAdd, xi_1]
              rw [nI_1]
              refine xS.s1 rfl rfl ?_
              try dsimp only [Nat.reduceAdd]
              refine xS.pick [0, 2, 1, 3, 4] rfl ?_
              exact absurd g89 g108
            · have g108 := xf_ne h108
              refine xS.s1 rfl rfl ?_
              try dsimp only [Nat.reduceAdd]
              refine xS.s1 rfl rfl ?_
              try dsimp only [Nat.reduceAdd]
              -- 114 yX12_brokenBy
              refine xS.cv rfl rfl rfl rfl rfl rfl ⟨by decide, rfl, rfl⟩ (c_X12_brokenBy hR hD hm hli) (fun v M1 hv => ?_)
              rw [hv.1, hv.2]
              clear hv M1 v
              try dsimp only [Nat.reduceAdd, Option.toList, List.cons_append, List.nil_append, List.drop]
              refine xS.s1 rfl rfl ?_
              try dsimp only [Nat.reduceAdd, xj_m9]
              refine xS.br (c := .eq) (off := 7) (l := 3) rfl rfl (fun h119 => ?_) (fun h119 => ?_)
              · have g119 := xt_eq h119
                refine xS.s1 rfl rfl ?_
                try dsimp only [Nat.reduceAdd, xi_0]
                refine xS.s1 rfl rfl ?_
                try dsimp only [Nat.reduceAdd]
                refine xS.s1 rfl rfl ?_
                try dsimp only [Nat.reduceAdd]
                refine xS.s1 rfl rfl ?_
                try dsimp only [Nat.reduceAdd, xi_1]
                rw [nI_1]
                refine xS.s1 rfl rfl ?_
                try dsimp only [Nat.reduceAdd]
                refine xS.pick [0, 2, 1, 3, 4] rfl ?_
                have ih8 := ih2 () (by omega) trivial
                have qA : (fun d => decide (F4 (4 * d + 1) = nI j)) i = true := decide_eq_true g89
                rw [show xcnt (fun d => decide (F4 (4 * d + 1) = nI j)) (i + 1) = xcnt (fun d => decide (F4 (4 * d + 1) = nI j)) i + 1 from by rw [xcnt_s]; simp [g89]] at ih8
                rw [show xcnt (fun d => decide (F4 (4 * d + 1) = nI j) && !decide (F4 (4 * d + 3) = -9)) (i + 1) = xcnt (fun d => decide (F4 (4 * d + 1) = nI j) && !decide (F4 (4 * d + 3) = -9)) i from by rw [xcnt_s]; simp [g119]] at ih8
                rw [nI_1]
                rw [show nI (xcnt (fun d => decide (F4 (4 * d + 1) = nI j) && !decide (F4 (4 * d + 3) = -9)) i) + 0 = nI (xcnt (fun d => decide (F4 (4 * d + 1) = nI j) && !decide (F4 (4 * d + 3) = -9)) i) from nI_add _ 0]
                exact ih8
              · have g119 := xf_eq h119
                refine xS.s1 rfl rfl ?_
                try dsimp only [Nat.reduceAdd, xi_1]
                refine xS.s1 rfl rfl ?_
                try dsimp only [Nat.reduceAdd]
                refine xS.s1 rfl rfl ?_
                try dsimp only [Nat.reduceAdd]
                refine xS.s1 rfl rfl ?_
                try dsimp only [Nat.reduceAdd]
                refine xS.s1 rfl rfl ?_
                try dsimp only [Nat.reduceAdd, xi_1]
                rw [nI_1]
                refine xS.s1 rfl rfl ?_
                try dsimp only [Nat.reduceAdd]
                refine xS.pick [0, 2, 1, 3, 4] rfl ?_
                have ih8 := ih2 () (by omega) trivial
                have qA : (fun d => decide (F4 (4 * d + 1) = nI j)) i = true := decide_eq_true g89
                rw [show xcnt (fun d => decide (F4 (4 * d + 1) = nI j)) (i + 1) = xcnt (fun d => decide (F4 (4 * d + 1) = nI j)) i + 1 from by rw [xcnt_s]; simp [g89]] at ih8
                rw [show xcnt (fun d => decide (F4 (4 * d + 1) = nI j) && !decide (F4 (4 * d + 3) = -9)) (i + 1) = xcnt (fun d => decide (F4 (4 * d + 1) = nI j) && !decide (F4 (4 * d + 3) = -9)) i + 1 from by rw [xcnt_s]; simp [g89, g119]] at ih8
                rw [nI_1, nI_1]
                exact ih8
    · have g35 := xf_ge h35
      have hlt := xnlt (b := 6) g35 (by omega) (by omega)
      refine xS.s1 rfl rfl ?_
      try dsimp only [Nat.reduceAdd]
      refine xS.s1 rfl rfl ?_
      try dsimp only [Nat.reduceAdd]
      refine xS.gR rfl rfl rfl ⟨by decide, rfl⟩ rfl ?_
      try dsimp only [Nat.reduceAdd]
      refine xS.s1 rfl rfl ?_
      try dsimp only [Nat.reduceAdd]
      refine xS.ia rfl xar_81 (by omega) ?_
      try dsimp only [Nat.reduceAdd]
      rw [(hR.2.2.2.1 j hlt).1]
      -- 45 yX12_add
      refine xS.cv rfl rfl rfl rfl rfl rfl ⟨by decide, rfl, rfl⟩ c_X12_add (fun v M1 hv => ?_)
      rw [hv.1, hv.2]
      clear hv M1 v
      try dsimp only [Nat.reduceAdd, Option.toList, List.cons_append, List.nil_append, List.drop]
      refine xS.s1 rfl rfl ?_
      try dsimp only [Nat.reduceAdd, xi_1]
      rw [nI_1]
      refine xS.s1 rfl rfl ?_
      try dsimp only [Nat.reduceAdd]
      refine xS.pick [0, 1] rfl ?_
      exact ih () (by omega) trivial
  · have g12 := xf_ge h12
    have hlt := xnlt (b := 9) g12 (by omega) (by omega)
    refine xS.s1 rfl rfl ?_
    try dsimp only [Nat.reduceAdd]
    refine xS.s1 rfl rfl ?_
    try dsimp only [Nat.reduceAdd]
    refine xS.s1 rfl rfl ?_
    try dsimp only [Nat.reduceAdd]
    -- 18 yX12_countOf
    refine xS.cv rfl rfl rfl rfl rfl rfl ⟨by decide, rfl, rfl⟩ (c_X12_countOf hR hD hm hs hz1 hz2 hz3 hlt) (fun v M1 hv => ?_)
    rw [hv.1, hv.2]
    clear hv M1 v
    try dsimp only [Nat.reduceAdd, Option.toList, List.cons_append, List.nil_append, List.drop]
    -- 21 yX12_add
    refine xS.cv rfl rfl rfl rfl rfl rfl ⟨by decide, rfl, rfl⟩ c_X12_add (fun v M1 hv => ?_)
    rw [hv.1, hv.2]
    clear hv M1 v
    try dsimp only [Nat.reduceAdd, Option.toList, List.cons_append, List.nil_append, List.drop]
    refine xS.s1 rfl rfl ?_
    try dsimp only [Nat.reduceAdd, xi_1]
    rw [nI_1]
    refine xS.s1 rfl rfl ?_
    try dsimp only [Nat.reduceAdd]
    refine xS.pick [0, 1] rfl ?_
    exact ih () (by omega) trivial

end
end
section
/-! LimpMirror$Room.readGlass -/
section
variable {k a c n n2 m t p s d i1 j1 : Nat} {b : Nat × Nat} {g : Nat → Nat → Int32} {l : Nat → Nat → Int64} {i j x y z v w : Int32} {u w1 w2 : Int64}
variable {L G T κ δ : Nat} {Lw : Nat → Nat}
set_option maxRecDepth 10000 in
theorem c_X8_readGlass_bad (hC : xro a) (hF : xce c n) (hs : g c 1 = nI m) (hm : m ≤ n) (hG : g a 2 = nI G) (hG6 : G ≤ 6) (hT : g a 4 = nI T) (hT8 : T ≤ 8) (hp : p < m) (hm60 : m ≤ 60) (hbad : xkd (g (c + 1) p) = none ∨ 0 < T ∨ G = 6) : xT (k + 4) 67 [.ref a, .ref c, .int (nI p)] (xH b g l) (fun r M' => M' = xH b g l ∧ r = some (.int (nI p))) := by
  have hn := hF.2.2
  refine xT.of rfl (Nat.le_of_ble_eq_true rfl) ?_
  change xS _ _ 0 [(0, .ref a), (1, .ref c), (2, .int (nI p))] [] _ _
  refine xS.s1 rfl rfl ?_
  try dsimp only [Nat.reduceAdd]
  refine xS.s1 rfl rfl ?_
  try dsimp only [Nat.reduceAdd]
  -- 2 yX0_get
  refine xS.cv rfl rfl rfl (hF.1 _) rfl rfl ⟨by decide, rfl, rfl⟩ (c_X0_get hF hs hm hp) (fun v M1 hv => ?_)
  rw [hv.1, hv.2]
  clear hv M1 v
  try dsimp only [Nat.reduceAdd, Option.toList, List.cons_append, List.nil_append, List.drop]
  -- 5 yX8_kindOf
  refine xS.callS rfl rfl rfl ⟨Nat.le_of_ble_eq_true rfl, rfl⟩ c_X8_kindOf (fun v M1 hv => ?_)
  rw [hv.1, hv.2]
  clear hv M1 v
  try dsimp only [Nat.reduceAdd, Option.toList, List.cons_append, List.nil_append, List.drop]
  refine xS.s1 rfl rfl ?_
  try dsimp only [Nat.reduceAdd]
  refine xS.s1 rfl rfl ?_
  try dsimp only [Nat.reduceAdd]
  refine xS.s1 rfl rfl ?_
  try dsimp only [Nat.reduceAdd, xj_m9]
  refine xS.br (c := .eq) (off := 19) (l := 3) rfl rfl (fun h12 => ?_) (fun h12 => ?_)
  · have g12 := xt_eq h12
    refine xS.s1 rfl rfl ?_
    try dsimp only [Nat.reduceAdd]
    refine xS.ret rfl rfl rfl (fun _ _ => rfl) ?_
    exact ⟨rfl, rfl⟩
  · have g12 := xf_eq h12
    refine xS.s1 rfl rfl ?_
    try dsimp only [Nat.reduceAdd]
    refine xS.gI rfl (hC.1 _) rfl ⟨by decide, rfl⟩ rfl ?_
    try dsimp only [Nat.reduceAdd]
    refine xS.br0 (c := .gt) (off := 12) (l := 3) rfl rfl (fun h19 => ?_) (fun h19 => ?_)
    · have g19 := xt_gt h19
      refine xS.s1 rfl rfl ?_
      try dsimp only [Nat.reduceAdd]
      refine xS.ret rfl rfl rfl (fun _ _ => rfl) ?_
      exact ⟨rfl, rfl⟩
    · have g19 := xf_gt h19
      refine xS.s1 rfl rfl ?_
      try dsimp only [Nat.reduceAdd]
      refine xS.gI rfl (hC.1 _) rfl ⟨by decide, rfl⟩ rfl ?_
      try dsimp only [Nat.reduceAdd]
      refine xS.s1 rfl rfl ?_
      try dsimp only [Nat.reduceAdd, xj_6]
      refine xS.br (c := .lt) (off := 5) (l := 3) rfl rfl (fun h28 => ?_) (fun h28 => ?_)
      · have g28 := xt_lt h28
        exact hbad.elim (fun z => absurd (by rw [z]; rfl) g12) (fun z => z.elim (fun z => absurd (xn0 (m := T) (by rw [← hT]; exact g19) (by omega)) (by omega)) (fun z => absurd ((nI_ltI (a := G) (b := 6) (by omega) (by omega)).mp (by rw [← hG]; exact g28)) (by omega)))
      · have g28 := xf_lt h28
        refine xS.s1 rfl rfl ?_
        try dsimp only [Nat.reduceAdd]
        refine xS.ret rfl rfl rfl (fun _ _ => rfl) ?_
        exact ⟨rfl, rfl⟩

set_option maxRecDepth 10000 in
theorem c_X8_readGlass_bad1 (hC : xro a) (hF : xce c n) (hs : g c 1 = nI m) (hm : m ≤ n) (hG : g a 2 = nI G) (hG6 : G ≤ 6) (hT : g a 4 = nI T) (hT8 : T ≤ 8) (hp : p < m) (hm60 : m ≤ 60) (hk : xkd (g (c + 1) p) = some κ) (hT0 : T = 0) (hG5 : G < 6) (hf : ¬ xfg (g (c + 1)) m (p + 1) 4) : xT (k + 4) 67 [.ref a, .ref c, .int (nI p)] (xH b g l) (fun r M' => M' = xH b g l ∧ r = some (.int (nI (p + 1)))) := by
  have hn := hF.2.2
  refine xT.of rfl (Nat.le_of_ble_eq_true rfl) ?_
  change xS _ _ 0 [(0, .ref a), (1, .ref c), (2, .int (nI p))] [] _ _
  refine xS.s1 rfl rfl ?_
  try dsimp only [Nat.reduceAdd]
  refine xS.s1 rfl rfl ?_
  try dsimp only [Nat.reduceAdd]
  -- 2 yX0_get
  refine xS.cv rfl rfl rfl (hF.1 _) rfl rfl ⟨by decide, rfl, rfl⟩ (c_X0_get hF hs hm hp) (fun v M1 hv => ?_)
  rw [hv.1, hv.2]
  clear hv M1 v
  try dsimp only [Nat.reduceAdd, Option.toList, List.cons_append, List.nil_append, List.drop]
  -- 5 yX8_kindOf
  refine xS.callS rfl rfl rfl ⟨Nat.le_of_ble_eq_true rfl, rfl⟩ c_X8_kindOf (fun v M1 hv => ?_)
  rw [hv.1, hv.2]
  clear hv M1 v
  try dsimp only [Nat.reduceAdd, Option.toList, List.cons_append, List.nil_append, List.drop]
  refine xS.s1 rfl rfl ?_
  try dsimp only [Nat.reduceAdd]
  refine xS.s1 rfl rfl ?_
  try dsimp only [Nat.reduceAdd]
  refine xS.s1 rfl rfl ?_
  try dsimp only [Nat.reduceAdd, xj_m9]
  refine xS.br (c := .eq) (off := 19) (l := 3) rfl rfl (fun h12 => ?_) (fun h12 => ?_)
  · have g12 := xt_eq h12
    exfalso; rw [hk] at g12; have hk6 := (xfst_lt hk).1; exact absurd ((xfI_none (o := some κ) (fun d9 e9 => by cases e9; omega)).mp g12) (fun z => by cases z)
  · have g12 := xf_eq h12
    refine xS.s1 rfl rfl ?_
    try dsimp only [Nat.reduceAdd]
    refine xS.gI rfl (hC.1 _) rfl ⟨by decide, rfl⟩ rfl ?_
    try dsimp only [Nat.reduceAdd]
    refine xS.br0 (c := .gt) (off := 12) (l := 3) rfl rfl (fun h19 => ?_) (fun h19 => ?_)
    · have g19 := xt_gt h19
      exfalso; rw [hT, hT0] at g19; exact absurd g19 (by decide)
    · have g19 := xf_gt h19
      refine xS.s1 rfl rfl ?_
      try dsimp only [Nat.reduceAdd]
      refine xS.gI rfl (hC.1 _) rfl ⟨by decide, rfl⟩ rfl ?_
      try dsimp only [Nat.reduceAdd]
      refine xS.s1 rfl rfl ?_
      try dsimp only [Nat.reduceAdd, xj_6]
      refine xS.br (c := .lt) (off := 5) (l := 3) rfl rfl (fun h28 => ?_) (fun h28 => ?_)
      · have g28 := xt_lt h28
        refine xS.s1 rfl rfl ?_
        try dsimp only [Nat.reduceAdd]
        refine xS.s1 rfl rfl ?_
        try dsimp only [Nat.reduceAdd]
        refine xS.s1 rfl rfl ?_
        try dsimp only [Nat.reduceAdd, xi_1]
        refine xS.s1 rfl rfl ?_
        try dsimp only [Nat.reduceAdd]
        rw [nI_1]
        refine xS.s1 rfl rfl ?_
        try dsimp only [Nat.reduceAdd, xi_4]
        -- 38 yX8_isFigure
        refine xS.callS rfl rfl rfl ⟨Nat.le_of_ble_eq_true rfl, rfl⟩ (c_X8_isFigure (t := 4) hF hs hm (by omega) (by decide) (Classical.propDecidable _)) (fun v M1 hv => ?_)
        rw [hv.1, hv.2]
        clear hv M1 v
        try dsimp only [Nat.reduceAdd, Option.toList, List.cons_append, List.nil_append, List.drop]
        refine xS.br0 (c := .ne) (off := 7) (l := 3) rfl rfl (fun h41 => ?_) (fun h41 => ?_)
        · have g41 := xt_ne h41
          exact absurd (@xif1 _ (Classical.propDecidable _) g41) hf
        · have g41 := xf_ne h41
          refine xS.s1 rfl rfl ?_
          try dsimp only [Nat.reduceAdd]
          refine xS.s1 rfl rfl ?_
          try dsimp only [Nat.reduceAdd, xi_1]
          refine xS.s1 rfl rfl ?_
          try dsimp only [Nat.reduceAdd]
          rw [nI_1]
          refine xS.ret rfl rfl rfl (fun _ _ => rfl) ?_
          exact ⟨rfl, rfl⟩
      · have g28 := xf_lt h28
        exfalso; rw [hG] at g28; have := (nI_leI (a := 6) (by omega) (by omega)).mp g28; omega

set_option maxRecDepth 10000 in
theorem c_X8_readGlass_ok (hC : xro a) (hF : xce c n) (hs : g c 1 = nI m) (hm : m ≤ n) (hG : g a 2 = nI G) (hG6 : G ≤ 6) (hT : g a 4 = nI T) (hT8 : T ≤ 8) (hp : p < m) (hm60 : m ≤ 60) (hk : xkd (g (c + 1) p) = some κ) (hT0 : T = 0) (hG5 : G < 6) (hf : xfg (g (c + 1)) m (p + 1) 4) (hd : δ < 4) (hv1 : g (c + 1) (p + 1) = nI (48 + δ)) : xT (k + 4) 67 [.ref a, .ref c, .int (nI p)] (xH b g l) (fun r M' => M' = xH b (up (up g (a + 2) G (nI (4 * κ + δ))) a 2 (nI (G + 1))) l ∧ r = some (.int (-9))) := by
  have hn := hF.2.2
  refine xT.of rfl (Nat.le_of_ble_eq_true rfl) ?_
  change xS _ _ 0 [(0, .ref a), (1, .ref c), (2, .int (nI p))] [] _ _
  refine xS.s1 rfl rfl ?_
  try dsimp only [Nat.reduceAdd]
  refine xS.s1 rfl rfl ?_
  try dsimp only [Nat.reduceAdd]
  -- 2 yX0_get
  refine xS.cv rfl rfl rfl (hF.1 _) rfl rfl ⟨by decide, rfl, rfl⟩ (c_X0_get hF hs hm hp) (fun v M1 hv => ?_)
  rw [hv.1, hv.2]
  clear hv M1 v
  try dsimp only [Nat.reduceAdd, Option.toList, List.cons_append, List.nil_append, List.drop]
  -- 5 yX8_kindOf
  refine xS.callS rfl rfl rfl ⟨Nat.le_of_ble_eq_true rfl, rfl⟩ c_X8_kindOf (fun v M1 hv => ?_)
  rw [hv.1, hv.2]
  clear hv M1 v
  try dsimp only [Nat.reduceAdd, Option.toList, List.cons_append, List.nil_append, List.drop]
  refine xS.s1 rfl rfl ?_
  try dsimp only [Nat.reduceAdd]
  refine xS.s1 rfl rfl ?_
  try dsimp only [Nat.reduceAdd]
  refine xS.s1 rfl rfl ?_
  try dsimp only [Nat.reduceAdd, xj_m9]
  refine xS.br (c := .eq) (off := 19) (l := 3) rfl rfl (fun h12 => ?_) (fun h12 => ?_)
  · have g12 := xt_eq h12
    exfalso; rw [hk] at g12; have hk6 := (xfst_lt hk).1; exact absurd ((xfI_none (o := some κ) (fun d9 e9 => by cases e9; omega)).mp g12) (fun z => by cases z)
  · have g12 := xf_eq h12
    refine xS.s1 rfl rfl ?_
    try dsimp only [Nat.reduceAdd]
    refine xS.gI rfl (hC.1 _) rfl ⟨by decide, rfl⟩ rfl ?_
    try dsimp only [Nat.reduceAdd]
    refine xS.br0 (c := .gt) (off := 12) (l := 3) rfl rfl (fun h19 => ?_) (fun h19 => ?_)
    · have g19 := xt_gt h19
      exfalso; rw [hT, hT0] at g19; exact absurd g19 (by decide)
    · have g19 := xf_gt h19
      refine xS.s1 rfl rfl ?_
      try dsimp only [Nat.reduceAdd]
      refine xS.gI rfl (hC.1 _) rfl ⟨by decide, rfl⟩ rfl ?_
      try dsimp only [Nat.reduceAdd]
      refine xS.s1 rfl rfl ?_
      try dsimp only [Nat.reduceAdd, xj_6]
      refine xS.br (c := .lt) (off := 5) (l := 3) rfl rfl (fun h28 => ?_) (fun h28 => ?_)
      · have g28 := xt_lt h28
        refine xS.s1 rfl rfl ?_
        try dsimp only [Nat.reduceAdd]
        refine xS.s1 rfl rfl ?_
        try dsimp only [Nat.reduceAdd]
        refine xS.s1 rfl rfl ?_
        try dsimp only [Nat.reduceAdd, xi_1]
        refine xS.s1 rfl rfl ?_
        try dsimp only [Nat.reduceAdd]
        rw [nI_1]
        refine xS.s1 rfl rfl ?_
        try dsimp only [Nat.reduceAdd, xi_4]
        -- 38 yX8_isFigure
        refine xS.callS rfl rfl rfl ⟨Nat.le_of_ble_eq_true rfl, rfl⟩ (c_X8_isFigure (t := 4) hF hs hm (by omega) (by decide) (Classical.propDecidable _)) (fun v M1 hv => ?_)
        rw [hv.1, hv.2]
        clear hv M1 v
        try dsimp only [Nat.reduceAdd, Option.toList, List.cons_append, List.nil_append, List.drop]
        refine xS.br0 (c := .ne) (off := 7) (l := 3) rfl rfl (fun h41 => ?_) (fun h41 => ?_)
        · have g41 := xt_ne h41
          refine xS.s1 rfl rfl ?_
          try dsimp only [Nat.reduceAdd]
          refine xS.gR rfl (hC.1 _) rfl ⟨by decide, rfl⟩ rfl ?_
          try dsimp only [Nat.reduceAdd]
          refine xS.s1 rfl rfl ?_
          try dsimp only [Nat.reduceAdd]
          refine xS.gI rfl (hC.1 _) rfl ⟨by decide, rfl⟩ rfl ?_
          try dsimp only [Nat.reduceAdd]
          rw [hG]
          refine xS.s1 rfl rfl ?_
          try dsimp only [Nat.reduceAdd, xi_4]
          refine xS.s1 rfl rfl ?_
          try dsimp only [Nat.reduceAdd]
          rw [hk]
          refine xS.s1 rfl rfl ?_
          try dsimp only [Nat.reduceAdd]
          refine xS.s1 rfl rfl ?_
          try dsimp only [Nat.reduceAdd]
          refine xS.s1 rfl rfl ?_
          try dsimp only [Nat.reduceAdd]
          refine xS.s1 rfl rfl ?_
          try dsimp only [Nat.reduceAdd, xi_1]
          refine xS.s1 rfl rfl ?_
          try dsimp only [Nat.reduceAdd]
          rw [nI_1]
          -- 63 yX0_get
          refine xS.cv rfl rfl rfl (hF.1 _) rfl rfl ⟨by decide, rfl, rfl⟩ (c_X0_get hF hs hm hf.1) (fun v M1 hv => ?_)
          rw [hv.1, hv.2, hv1]
          clear hv M1 v
          try dsimp only [Nat.reduceAdd, Option.toList, List.cons_append, List.nil_append, List.drop]
          refine xS.s1 rfl rfl ?_
          try dsimp only [Nat.reduceAdd]
          refine xS.s1 rfl rfl ?_
          try dsimp only [Nat.reduceAdd, xj_48]
          refine xS.s1 rfl rfl ?_
          try dsimp only [Nat.reduceAdd]
          rw [show (4 : Int32) * xfI (some κ) + nI (48 + δ) - 48 = nI (4 * κ + δ) from by
            show nI 4 * nI κ + nI (48 + δ) - nI 48 = _
            rw [pk_mul, nI_add, pk_sub (by omega)]
            congr 1
            omega]
          refine xS.ias rfl hC.2.2.1 (by omega) ?_
          try dsimp only [Nat.reduceAdd]
          refine xS.s1 rfl rfl ?_
          try dsimp only [Nat.reduceAdd]
          refine xS.s1 rfl rfl ?_
          try dsimp only [Nat.reduceAdd]
          refine xS.gI rfl (hC.1 _) rfl ⟨by decide, rfl⟩ rfl ?_
          try dsimp only [Nat.reduceAdd]
          rw [up_na (by omega), hG]
          refine xS.s1 rfl rfl ?_
          try dsimp only [Nat.reduceAdd, xi_1]
          refine xS.s1 rfl rfl ?_
          try dsimp only [Nat.reduceAdd]
          rw [nI_1]
          refine xS.pI rfl (hC.1 _) rfl ⟨⟨by decide, rfl⟩, rfl, by decide, by decide⟩ rfl ?_
          try dsimp only [Nat.reduceAdd]
          refine xS.s1 rfl rfl ?_
          try dsimp only [Nat.reduceAdd, xj_m9]
          refine xS.ret rfl rfl rfl (fun _ _ => rfl) ?_
          exact ⟨rfl, rfl⟩
        · have g41 := xf_ne h41
          exact absurd hf (@xif0 _ (Classical.propDecidable _) g41)
      · have g28 := xf_lt h28
        exfalso; rw [hG] at g28; have := (nI_leI (a := 6) (by omega) (by omega)).mp g28; omega

end
end
section
/-! LimpMirror$Chains: the small methods -/
def xhd (κ δ p : Nat) : Bool := match xsrc κ δ p with
  | none => true
  | some s => decide (s = p)
theorem xoI_m1 {o : Option Nat} (h : ∀ s, o = some s → s < 2 ^ 31) : xoI o = -1 ↔ o = none := by
  cases o with
  | none => exact ⟨fun _ => rfl, fun _ => rfl⟩
  | some s => exact ⟨fun z => absurd z (nI_nm1 (h s rfl)), fun z => by cases z⟩
theorem xsrc_31 {κ δ p : Nat} (hp : p < 2 ^ 30) : ∀ s, xsrc κ δ p = some s → s < 2 ^ 31 := fun s e => by
  have := xsrc_le e
  omega
theorem xoI_eq {o : Option Nat} {p : Nat} (h : ∀ s, o = some s → s < 2 ^ 31) (hp : p < 2 ^ 31) : xoI o = nI p ↔ o = some p := by
  cases o with
  | none => exact ⟨fun z => absurd z.symm (nI_nm1 hp), fun z => by cases z⟩
  | some s => exact ⟨fun z => by rw [(nI_eq (h s rfl) hp).mp z], fun z => by cases z; rfl⟩

section
variable {k a c n n2 m t p s d i1 j1 : Nat} {b : Nat × Nat} {g : Nat → Nat → Int32} {l : Nat → Nat → Int64} {i j x y z v w : Int32} {u w1 w2 : Int64}
variable {L G T : Nat} {Lw : Nat → Nat}
set_option maxRecDepth 10000 in
theorem c_X1_rows  : xT (k + 1) 13 [.ref 19] (xH b g l) (fun r M' => M' = xH b g l ∧ r = some (.int (g 19 2))) := by
  refine xT.of rfl (Nat.le_of_ble_eq_true rfl) ?_
  change xS _ _ 0 [(0, .ref 19)] [] _ _
  refine xS.s1 rfl rfl ?_
  try dsimp only [Nat.reduceAdd]
  refine xS.gI rfl rfl rfl ⟨by decide, rfl⟩ rfl ?_
  try dsimp only [Nat.reduceAdd]
  refine xS.ret rfl rfl rfl (fun _ _ => rfl) ?_
  exact ⟨rfl, rfl⟩

set_option maxRecDepth 10000 in
theorem c_X1_fewestStill  : xT (k + 1) 14 [.ref 19] (xH b g l) (fun r M' => M' = xH b g l ∧ r = some (.int (g 19 3))) := by
  refine xT.of rfl (Nat.le_of_ble_eq_true rfl) ?_
  change xS _ _ 0 [(0, .ref 19)] [] _ _
  refine xS.s1 rfl rfl ?_
  try dsimp only [Nat.reduceAdd]
  refine xS.gI rfl rfl rfl ⟨by decide, rfl⟩ rfl ?_
  try dsimp only [Nat.reduceAdd]
  refine xS.ret rfl rfl rfl (fun _ _ => rfl) ?_
  exact ⟨rfl, rfl⟩

set_option maxRecDepth 10000 in
theorem c_X1_firstSteps  : xT (k + 1) 15 [.ref 19] (xH b g l) (fun r M' => M' = xH b g l ∧ r = some (.int (g 19 4))) := by
  refine xT.of rfl (Nat.le_of_ble_eq_true rfl) ?_
  change xS _ _ 0 [(0, .ref 19)] [] _ _
  refine xS.s1 rfl rfl ?_
  try dsimp only [Nat.reduceAdd]
  refine xS.gI rfl rfl rfl ⟨by decide, rfl⟩ rfl ?_
  try dsimp only [Nat.reduceAdd]
  refine xS.ret rfl rfl rfl (fun _ _ => rfl) ?_
  exact ⟨rfl, rfl⟩

set_option maxRecDepth 10000 in
theorem c_X1_isHead (hp : xpn g) (hL : L < 24) (ht : t < 2 ^ 30) : xT (k + 4) 17 [.ref (43 + L), .int (nI t)] (xH b g l) (fun r M' => M' = xH b g l ∧ r = some (.int (if xhd (L / 4) (L % 4) t = true then 1 else 0))) := by
  refine xT.of rfl (Nat.le_of_ble_eq_true rfl) ?_
  change xS _ _ 0 [(0, .ref (43 + L)), (1, .int (nI t))] [] _ _
  refine xS.s1 rfl rfl ?_
  try dsimp only [Nat.reduceAdd]
  refine xS.s1 rfl rfl ?_
  try dsimp only [Nat.reduceAdd]
  refine xS.cSrc rfl rfl hp hL (by omega) rfl ?_
  try dsimp only [Nat.reduceAdd]
  refine xS.s1 rfl rfl ?_
  try dsimp only [Nat.reduceAdd]
  refine xS.s1 rfl rfl ?_
  try dsimp only [Nat.reduceAdd]
  refine xS.s1 rfl rfl ?_
  try dsimp only [Nat.reduceAdd, xi_m1]
  refine xS.br (c := .eq) (off := 8) (l := 3) rfl rfl (fun h8 => ?_) (fun h8 => ?_)
  · have g8 := xt_eq h8
    refine xS.s1 rfl rfl ?_
    try dsimp only [Nat.reduceAdd, xi_1]
    refine xS.s1 rfl rfl ?_
    try dsimp only [Nat.reduceAdd]
    refine xS.ret rfl rfl rfl (fun _ _ => rfl) ?_
    have q8 := (xoI_m1 (xsrc_31 ht)).mp g8
    refine ⟨rfl, ?_⟩
    unfold xhd
    rw [q8]
    rfl
  · have g8 := xf_eq h8
    refine xS.s1 rfl rfl ?_
    try dsimp only [Nat.reduceAdd]
    refine xS.s1 rfl rfl ?_
    try dsimp only [Nat.reduceAdd]
    refine xS.br (c := .ne) (off := 7) (l := 3) rfl rfl (fun h13 => ?_) (fun h13 => ?_)
    · have g13 := xt_ne h13
      refine xS.s1 rfl rfl ?_
      try dsimp only [Nat.reduceAdd, xi_0]
      refine xS.ret rfl rfl rfl (fun _ _ => rfl) ?_
      have q13 := (not_congr (xoI_eq (xsrc_31 ht) (by omega))).mp g13
      have q8 := (not_congr (xoI_m1 (xsrc_31 ht))).mp g8
      refine ⟨rfl, ?_⟩
      unfold xhd
      cases e9 : xsrc (L / 4) (L % 4) t with
      | none => exact absurd e9 q8
      | some s9 =>
        have : ¬ s9 = t := fun z => q13 (by rw [e9, z])
        simp [this]
    · have g13 := xf_ne h13
      refine xS.s1 rfl rfl ?_
      try dsimp only [Nat.reduceAdd, xi_1]
      refine xS.s1 rfl rfl ?_
      try dsimp only [Nat.reduceAdd]
      refine xS.ret rfl rfl rfl (fun _ _ => rfl) ?_
      have q13 := (xoI_eq (xsrc_31 ht) (by omega)).mp g13
      refine ⟨rfl, ?_⟩
      unfold xhd
      rw [q13]
      simp

end
end
section
/-! LimpMirror$Chains: heirOf, shownAtHead -/
def xhei (κ δ n p : Nat) : Option Nat := (xfst (fun u => decide (xsrc κ δ (p + 1 + u) = some p)) (n - (p + 1))).map (fun u => p + 1 + u)

section
variable {k a c n n2 m t p s d i1 j1 : Nat} {b : Nat × Nat} {g : Nat → Nat → Int32} {l : Nat → Nat → Int64} {i j x y z v w : Int32} {u w1 w2 : Int64}
variable {L G T : Nat} {Lw : Nat → Nat}
set_option maxRecDepth 10000 in
theorem c_X1_heirOf (hp : xpn g) (hL : L < 24) (hn : n ≤ 5) (hpn : p < n) : xT (k + 4) 18 [.ref (43 + L), .int (nI p), .int (nI n)] (xH b g l) (fun r M' => M' = xH b g l ∧ r = some (.int (xoI (xhei (L / 4) (L % 4) n p)))) := by
  refine xT.of rfl (Nat.le_of_ble_eq_true rfl) ?_
  change xS _ _ 0 [(0, .ref (43 + L)), (1, .int (nI p)), (2, .int (nI n))] [] _ _
  refine xS.s1 rfl rfl ?_
  try dsimp only [Nat.reduceAdd]
  refine xS.s1 rfl rfl ?_
  try dsimp only [Nat.reduceAdd, xi_1]
  refine xS.s1 rfl rfl ?_
  try dsimp only [Nat.reduceAdd]
  rw [nI_1]
  refine xS.s1 rfl rfl ?_
  try dsimp only [Nat.reduceAdd]
  refine xS.pick [0, 1, 2, 3] rfl ?_
  refine xS.loop (σ := Unit) (n - (p + 1)) (fun j S => [(3, .int (nI (p + 1 + j))), (0, .ref (43 + L)), (1, .int (nI p)), (2, .int (nI n))]) (fun _ _ => xH b g l) (fun j _ => xfst (fun u => decide (xsrc (L / 4) (L % 4) (p + 1 + u) = some p)) j = none) (()) (rfl) (rfl) (rfl) ?_
  intro j S hj hI ih
  try dsimp only
  refine xS.s1 rfl rfl ?_
  try dsimp only [Nat.reduceAdd]
  refine xS.s1 rfl rfl ?_
  try dsimp only [Nat.reduceAdd]
  refine xS.br (c := .ge) (off := 25) (l := 3) rfl rfl (fun h6 => ?_) (fun h6 => ?_)
  · have g6 := xt_ge h6
    refine xS.s1 rfl rfl ?_
    try dsimp only [Nat.reduceAdd, xi_m1]
    refine xS.ret rfl rfl rfl (fun _ _ => rfl) ?_
    have e := xnle g6 (by omega) (by omega)
    refine ⟨rfl, ?_⟩
    unfold xhei
    rw [show n - (p + 1) = j by omega, hI]
    rfl
  · have g6 := xf_ge h6
    have hlt := xnlt g6 (by omega) (by omega)
    refine xS.s1 rfl rfl ?_
    try dsimp only [Nat.reduceAdd]
    refine xS.s1 rfl rfl ?_
    try dsimp only [Nat.reduceAdd, xi_5]
    refine xS.br (c := .ge) (off := 20) (l := 3) rfl rfl (fun h11 => ?_) (fun h11 => ?_)
    · have g11 := xt_ge h11
      exfalso; have := (nI_leI (a := 5) (b := p + 1 + j) (by omega) (by omega)).mp g11; omega
    · have g11 := xf_ge h11
      refine xS.s1 rfl rfl ?_
      try dsimp only [Nat.reduceAdd]
      refine xS.s1 rfl rfl ?_
      try dsimp only [Nat.reduceAdd]
      refine xS.cSrc rfl rfl hp hL (by omega) rfl ?_
      try dsimp only [Nat.reduceAdd]
      refine xS.s1 rfl rfl ?_
      try dsimp only [Nat.reduceAdd]
      refine xS.br (c := .ne) (off := 5) (l := 3) rfl rfl (fun h20 => ?_) (fun h20 => ?_)
      · have g20 := xt_ne h20
        refine xS.s1 rfl rfl ?_
        try dsimp only [Nat.reduceAdd, xi_1]
        rw [nI_1]
        refine xS.s1 rfl rfl ?_
        try dsimp only [Nat.reduceAdd]
        refine xS.pick [0, 1, 2, 3] rfl ?_
        exact ih () (by omega) (xfst_n hI (decide_eq_false ((not_congr (xoI_eq (xsrc_31 (by omega)) (by omega))).mp g20)))
      · have g20 := xf_ne h20
        refine xS.s1 rfl rfl ?_
        try dsimp only [Nat.reduceAdd]
        refine xS.ret rfl rfl rfl (fun _ _ => rfl) ?_
        have q20 := (xoI_eq (xsrc_31 (by omega)) (by omega)).mp g20
        refine ⟨rfl, ?_⟩
        unfold xhei
        rw [xfst_at hI (decide_eq_true q20) (by omega)]
        rfl

set_option maxRecDepth 10000 in
theorem c_X1_shownAtHead (hC : xro a) (hp : xpn g) (hL : L < 24) (ht : t < 2 ^ 30) (hs6 : s < 6) : xT (k + 4) 20 [.ref a, .ref (43 + L), .int (nI t), .int (nI s)] (xH b g l) (fun r M' => M' = xH b g l ∧ r = some (.int (if xsrc (L / 4) (L % 4) t = none then 0 else xseen (g (a + 1)) (L / 4) t s))) := by
  refine xT.of rfl (Nat.le_of_ble_eq_true rfl) ?_
  change xS _ _ 0 [(0, .ref a), (1, .ref (43 + L)), (2, .int (nI t)), (3, .int (nI s))] [] _ _
  refine xS.s1 rfl rfl ?_
  try dsimp only [Nat.reduceAdd]
  refine xS.s1 rfl rfl ?_
  try dsimp only [Nat.reduceAdd]
  refine xS.cSrc rfl rfl hp hL (by omega) rfl ?_
  try dsimp only [Nat.reduceAdd]
  refine xS.s1 rfl rfl ?_
  try dsimp only [Nat.reduceAdd, xi_m1]
  refine xS.br (c := .ne) (off := 7) (l := 3) rfl rfl (fun h6 => ?_) (fun h6 => ?_)
  · have g6 := xt_ne h6
    refine xS.s1 rfl rfl ?_
    try dsimp only [Nat.reduceAdd]
    refine xS.s1 rfl rfl ?_
    try dsimp only [Nat.reduceAdd]
    refine xS.s1 rfl rfl ?_
    try dsimp only [Nat.reduceAdd]
    refine xS.s1 rfl rfl ?_
    try dsimp only [Nat.reduceAdd]
    -- 17 yX8_seen
    refine xS.cv rfl rfl rfl (hC.1 _) rfl rfl ⟨by decide, rfl, rfl⟩ (c_X8_seen hC hL ht hs6) (fun v M1 hv => ?_)
    rw [hv.1, hv.2]
    clear hv M1 v
    try dsimp only [Nat.reduceAdd, Option.toList, List.cons_append, List.nil_append, List.drop]
    refine xS.ret rfl rfl rfl (fun _ _ => rfl) ?_
    rw [if_neg ((not_congr (xoI_m1 (xsrc_31 ht))).mp g6)]
    exact ⟨rfl, rfl⟩
  · have g6 := xf_ne h6
    refine xS.s1 rfl rfl ?_
    try dsimp only [Nat.reduceAdd, xi_0]
    refine xS.s1 rfl rfl ?_
    try dsimp only [Nat.reduceAdd]
    refine xS.ret rfl rfl rfl (fun _ _ => rfl) ?_
    rw [if_pos ((xoI_m1 (xsrc_31 ht)).mp g6)]
    exact ⟨rfl, rfl⟩

end
end
section
/-! the parser's words -/
def xfv (x : Int32) : Nat := (x.toInt - 48).toNat
theorem xfv_nI {v : Nat} (h : v < 1000) : xfv (nI (48 + v)) = v := by
  unfold xfv
  rw [nI_toInt (by omega)]
  omega
theorem xfv_e {f : Nat → Int32} {m i t : Nat} (ht : t ≤ 6) (h : xfg f m i t) : xfv (f i) < t ∧ f i = nI (48 + xfv (f i)) := by
  obtain ⟨v, h1, h2⟩ := xfg_v ht h
  rw [h2, xfv_nI (by omega)]
  exact ⟨h1, rfl⟩
theorem xfv_s {f : Nat → Int32} {m i t : Nat} (ht : t ≤ 6) (h : xfg f m i t) : f i - 48 = nI (xfv (f i)) := by
  have h1 := xfv_e ht h
  conv => lhs; rw [h1.2]
  show nI (48 + xfv (f i)) - nI 48 = _
  rw [pk_sub (by omega)]
  congr 1
  omega
def uf {α : Type} (f : Nat → α) (i : Nat) (v : α) : Nat → α := fun j => if j = i then v else f j
theorem uf_i {α : Type} {f : Nat → α} {i : Nat} {v : α} : uf f i v i = v := if_pos rfl
theorem uf_n {α : Type} {f : Nat → α} {i j : Nat} {v : α} (h : j ≠ i) : uf f i v j = f j := if_neg h
abbrev xPR : Type := Option Nat × Nat × Nat × (Nat → Nat) × (Nat → Int32)
def xbd (i : Nat) : xPR := (some i, 0, 0, fun _ => 0, fun _ => 0)
def xfgb (f : Nat → Int32) (n i t : Nat) : Bool := decide (i < n ∧ nI 48 ≤ f i ∧ f i < nI (48 + t))
theorem xfgb_t {f : Nat → Int32} {n i t : Nat} (h : xfg f n i t) : xfgb f n i t = true := decide_eq_true h
theorem xfgb_f {f : Nat → Int32} {n i t : Nat} (h : ¬ xfg f n i t) : xfgb f n i t = false := decide_eq_false h
def xpi1 (f : Nat → Int32) (n : Nat) (ih : Nat → Nat → Nat → (Nat → Nat) → (Nat → Int32) → xPR) (i G T : Nat) (Lw : Nat → Nat) (tx : Nat → Int32) : xPR :=
  if i < n then
    if f i = 110 then
      if G = 0 ∨ T = 8 then xbd i
      else bif xfgb f n (i + 1) 6 then (bif xfgb f n (i + 2) 6 then ih (xab f n (i + 3)) G (T + 1) Lw (uf (uf tx (2 * T) (nI (xfv (f (i + 1))))) (2 * T + 1) (nI (xfv (f (i + 2))))) else xbd (i + 2)) else xbd (i + 1)
    else if xkd (f i) = none ∨ 0 < T ∨ G = 6 then xbd i
      else bif xfgb f n (i + 1) 4 then ih (xab f n (i + 2)) (G + 1) T (uf Lw G (4 * ((xkd (f i)).getD 0) + xfv (f (i + 1)))) tx else xbd (i + 1)
  else (if G = 0 then some n else none, G, T, Lw, tx)
def xpi (f : Nat → Int32) (n u : Nat) : Nat → Nat → Nat → (Nat → Nat) → (Nat → Int32) → xPR := Nat.rec (motive := fun _ => Nat → Nat → Nat → (Nat → Nat) → (Nat → Int32) → xPR) (fun i _ _ _ _ => xbd i) (fun _ ih => xpi1 f n ih) u
section
variable {f : Nat → Int32} {n q i G T : Nat} {Lw : Nat → Nat} {tx : Nat → Int32}
theorem xpi_u : xpi f n (q + 1) i G T Lw tx = xpi1 f n (xpi f n q) i G T Lw tx := rfl
theorem xpi_t0 (h : i < n) (hc : f i = 110) (hb : G = 0 ∨ T = 8) : xpi f n (q + 1) i G T Lw tx = xbd i := by
  rw [xpi_u]; unfold xpi1; rw [if_pos h, if_pos hc, if_pos hb]
theorem xpi_t1 (h : i < n) (hc : f i = 110) (hb : ¬ (G = 0 ∨ T = 8)) (hf : ¬ xfg f n (i + 1) 6) : xpi f n (q + 1) i G T Lw tx = xbd (i + 1) := by
  rw [xpi_u]; unfold xpi1; rw [if_pos h, if_pos hc, if_neg hb, xfgb_f hf]; rfl
theorem xpi_t2 (h : i < n) (hc : f i = 110) (hb : ¬ (G = 0 ∨ T = 8)) (hf : xfg f n (i + 1) 6) (hf2 : ¬ xfg f n (i + 2) 6) : xpi f n (q + 1) i G T Lw tx = xbd (i + 2) := by
  rw [xpi_u]; unfold xpi1; rw [if_pos h, if_pos hc, if_neg hb, xfgb_t hf, xfgb_f hf2]; rfl
theorem xpi_t3 (h : i < n) (hc : f i = 110) (hb : ¬ (G = 0 ∨ T = 8)) (hf : xfg f n (i + 1) 6) (hf2 : xfg f n (i + 2) 6) : xpi f n (q + 1) i G T Lw tx = xpi f n q (xab f n (i + 3)) G (T + 1) Lw (uf (uf tx (2 * T) (nI (xfv (f (i + 1))))) (2 * T + 1) (nI (xfv (f (i + 2))))) := by
  rw [xpi_u]; unfold xpi1; rw [if_pos h, if_pos hc, if_neg hb, xfgb_t hf, xfgb_t hf2]; rfl
theorem xpi_g0 (h : i < n) (hc : ¬ f i = 110) (hb : xkd (f i) = none ∨ 0 < T ∨ G = 6) : xpi f n (q + 1) i G T Lw tx = xbd i := by
  rw [xpi_u]; unfold xpi1; rw [if_pos h, if_neg hc, if_pos hb]
theorem xpi_g1 (h : i < n) (hc : ¬ f i = 110) (hb : ¬ (xkd (f i) = none ∨ 0 < T ∨ G = 6)) (hf : ¬ xfg f n (i + 1) 4) : xpi f n (q + 1) i G T Lw tx = xbd (i + 1) := by
  rw [xpi_u]; unfold xpi1; rw [if_pos h, if_neg hc, if_neg hb, xfgb_f hf]; rfl
theorem xpi_g2 (h : i < n) (hc : ¬ f i = 110) (hb : ¬ (xkd (f i) = none ∨ 0 < T ∨ G = 6)) (hf : xfg f n (i + 1) 4) : xpi f n (q + 1) i G T Lw tx = xpi f n q (xab f n (i + 2)) (G + 1) T (uf Lw G (4 * ((xkd (f i)).getD 0) + xfv (f (i + 1)))) tx := by
  rw [xpi_u]; unfold xpi1; rw [if_pos h, if_neg hc, if_neg hb, xfgb_t hf]; rfl
theorem xpi_e (h : ¬ i < n) : xpi f n (q + 1) i G T Lw tx = (if G = 0 then some n else none, G, T, Lw, tx) := by
  rw [xpi_u]; unfold xpi1; rw [if_neg h]
/-- a whole text -/
def xprs (f : Nat → Int32) (n : Nat) : xPR :=
  if xab f n 0 < n ∧ f (xab f n 0) = 104 then
    (match xfst (fun s => !xfgb f n (xab f n 0 + 1 + s) 6) 6 with
    | some s => xbd (xab f n 0 + 1 + s)
    | none => xpi f n 61 (xab f n (xab f n 0 + 7)) 0 0 (fun _ => 0) (fun _ => 0))
  else xbd (xab f n 0)
theorem xprs_0 (h : ¬ (xab f n 0 < n ∧ f (xab f n 0) = 104)) : xprs f n = xbd (xab f n 0) := if_neg h
theorem xprs_1 {s : Nat} (h : xab f n 0 < n ∧ f (xab f n 0) = 104) (hs : xfst (fun s => !xfgb f n (xab f n 0 + 1 + s) 6) 6 = some s) : xprs f n = xbd (xab f n 0 + 1 + s) := by
  unfold xprs; rw [if_pos h, hs]
theorem xprs_2 (h : xab f n 0 < n ∧ f (xab f n 0) = 104) (hs : xfst (fun s => !xfgb f n (xab f n 0 + 1 + s) 6) 6 = none) : xprs f n = xpi f n 61 (xab f n (xab f n 0 + 7)) 0 0 (fun _ => 0) (fun _ => 0) := by
  unfold xprs; rw [if_pos h, hs]
theorem xfgb_i (h : xfgb f n i q = true) : xfg f n i q := by
  unfold xfgb at h
  have z := of_decide_eq_true h
  exact z
/-- a room's view -/
def xRv (g : Nat → Nat → Int32) (a G T : Nat) (Lw : Nat → Nat) (tx : Nat → Int32) : Prop := (g a 2 = nI G ∧ G ≤ 6) ∧ (g a 4 = nI T ∧ T ≤ 8) ∧ (∀ k, k < G → g (a + 2) k = nI (Lw k) ∧ Lw k < 24) ∧ (∀ k, k < 2 * T → g (a + 3) k = tx k ∧ xstp (tx k))
def xFa (a : Nat) (g g' : Nat → Nat → Int32) : Prop := ∀ e, e ≠ a → e ≠ a + 2 → e ≠ a + 3 → g' e = g e
theorem xkd_lt {x : Int32} {κ : Nat} (h : xkd x = some κ) : κ < 6 := (xfst_lt h).1
def xItP (b : Nat × Nat) (l : Nat → Nat → Int64) (f : Nat → Int32) (m a : Nat) (g : Nat → Nat → Int32) (p G T : Nat) (Lw : Nat → Nat) (tx : Nat → Int32) (st : Nat) (r : Option Value) (M' : xM) : Prop := ∃ (o : Option Nat) (g' : Nat → Nat → Int32), r = some (.int (xfI o)) ∧ (∀ d, o = some d → d < 2 ^ 31) ∧ M' = xH b g' l ∧ xFa a g g' ∧ (∀ e, o = some e → ∀ q, xpi f m (q + 1) p G T Lw tx = xbd e) ∧ (o = none → ∃ G' T' Lw' tx', xRv g' a G' T' Lw' tx' ∧ p + st ≤ m ∧ ∀ q, xpi f m (q + 1) p G T Lw tx = xpi f m q (xab f m (p + st)) G' T' Lw' tx')
end

section
variable {k a c n n2 m t p s d i1 j1 : Nat} {b : Nat × Nat} {g : Nat → Nat → Int32} {l : Nat → Nat → Int64} {i j x y z v w : Int32} {u w1 w2 : Int64}
variable {L G T κ δ : Nat} {Lw : Nat → Nat} {f tx : Nat → Int32}
theorem c_X8_isFigureV (hF : xce c n) (hs : g c 1 = nI m) (hm : m ≤ n) (hfv : g (c + 1) = f) (hp : p < 1000) (ht : t ≤ 6) (dp : Decidable (xfg f m p t)) : xT (k + 3) 71 [.ref c, .int (nI p), .int (nI t)] (xH b g l) (fun r M' => M' = xH b g l ∧ r = some (.int (if xfg f m p t then 1 else 0))) := by
  subst hfv
  exact c_X8_isFigure hF hs hm hp ht dp
theorem c_X8_afterBlanksV (hF : xce c n) (hs : g c 1 = nI m) (hm : m ≤ n) (hfv : g (c + 1) = f) (hp : p < 1000) : xT (k + 3) 70 [.ref c, .int (nI p)] (xH b g l) (fun r M' => M' = xH b g l ∧ r = some (.int (nI (xab f m p)))) := by
  subst hfv
  exact c_X8_afterBlanks hF hs hm hp
theorem c_X0_getV (hC : xce c n) (hs : g c 1 = nI m) (hm : m ≤ n) (hfv : g (c + 1) = f) (ht : t < m) : xT (k + 2) 5 [.ref c, .int (nI t)] (xH b g l) (fun r M' => M' = xH b g l ∧ r = some (.int (f t))) := by
  subst hfv
  exact c_X0_get hC hs hm ht
theorem c_X0_sizeV (hC : xce c n) (hs : g c 1 = nI m) : xT (k + 1) 2 [.ref c] (xH b g l) (fun r M' => M' = xH b g l ∧ r = some (.int (nI m))) := (c_X0_size hC).weak (fun r M' h => ⟨h.1, by rw [h.2, hs]⟩)

set_option maxRecDepth 10000 in
theorem c_X8_readTerm_bad (hC : xro a) (hF : xce c n) (hca : c + 1 < a ∨ a + 3 < c) (hs : g c 1 = nI m) (hm : m ≤ n) (hfv : g (c + 1) = f) (hG : g a 2 = nI G) (hG6 : G ≤ 6) (hT : g a 4 = nI T) (hT8 : T ≤ 8) (hp : p < m) (hm60 : m ≤ 60) (hbad : G = 0 ∨ T = 8) : xT (k + 4) 68 [.ref a, .ref c, .int (nI p)] (xH b g l) (fun r M' => M' = xH b g l ∧ r = some (.int (nI p))) := by
  have hn := hF.2.2
  refine xT.of rfl (Nat.le_of_ble_eq_true rfl) ?_
  change xS _ _ 0 [(0, .ref a), (1, .ref c), (2, .int (nI p))] [] _ _
  refine xS.s1 rfl rfl ?_
  try dsimp only [Nat.reduceAdd]
  refine xS.gI rfl (hC.1 _) rfl ⟨by decide, rfl⟩ rfl ?_
  try dsimp only [Nat.reduceAdd]
  rw [hG]
  refine xS.br0 (c := .eq) (off := 12) (l := 3) rfl rfl (fun h4 => ?_) (fun h4 => ?_)
  · have g4 := xt_eq h4
    refine xS.s1 rfl rfl ?_
    try dsimp only [Nat.reduceAdd]
    refine xS.ret rfl rfl rfl (fun _ _ => rfl) ?_
    exact ⟨rfl, rfl⟩
  · have g4 := xf_eq h4
    refine xS.s1 rfl rfl ?_
    try dsimp only [Nat.reduceAdd]
    refine xS.gI rfl (hC.1 _) rfl ⟨by decide, rfl⟩ rfl ?_
    try dsimp only [Nat.reduceAdd]
    rw [hT]
    refine xS.s1 rfl rfl ?_
    try dsimp only [Nat.reduceAdd, xj_8]
    refine xS.br (c := .lt) (off := 5) (l := 3) rfl rfl (fun h13 => ?_) (fun h13 => ?_)
    · have g13 := xt_lt h13
      exact hbad.elim (fun z => absurd (by rw [z]; rfl) g4) (fun z => absurd g13 (by rw [z]; decide))
    · have g13 := xf_lt h13
      refine xS.s1 rfl rfl ?_
      try dsimp only [Nat.reduceAdd]
      refine xS.ret rfl rfl rfl (fun _ _ => rfl) ?_
      exact ⟨rfl, rfl⟩

set_option maxRecDepth 10000 in
theorem c_X8_readTerm_bad1 (hC : xro a) (hF : xce c n) (hca : c + 1 < a ∨ a + 3 < c) (hs : g c 1 = nI m) (hm : m ≤ n) (hfv : g (c + 1) = f) (hG : g a 2 = nI G) (hG6 : G ≤ 6) (hT : g a 4 = nI T) (hT8 : T ≤ 8) (hp : p < m) (hm60 : m ≤ 60) (hb : ¬ (G = 0 ∨ T = 8)) (hf1 : ¬ xfg f m (p + 1) 6) : xT (k + 4) 68 [.ref a, .ref c, .int (nI p)] (xH b g l) (fun r M' => M' = xH b g l ∧ r = some (.int (nI (p + 1)))) := by
  have hn := hF.2.2
  have hb1 : G ≠ 0 := fun z => hb (Or.inl z)
  have hb2 : T ≠ 8 := fun z => hb (Or.inr z)
  refine xT.of rfl (Nat.le_of_ble_eq_true rfl) ?_
  change xS _ _ 0 [(0, .ref a), (1, .ref c), (2, .int (nI p))] [] _ _
  refine xS.s1 rfl rfl ?_
  try dsimp only [Nat.reduceAdd]
  refine xS.gI rfl (hC.1 _) rfl ⟨by decide, rfl⟩ rfl ?_
  try dsimp only [Nat.reduceAdd]
  rw [hG]
  refine xS.br0 (c := .eq) (off := 12) (l := 3) rfl rfl (fun h4 => ?_) (fun h4 => ?_)
  · have g4 := xt_eq h4
    exact absurd (Or.inl (nI_inj (b := 0) (by omega) (by omega) g4)) hb
  · have g4 := xf_eq h4
    refine xS.s1 rfl rfl ?_
    try dsimp only [Nat.reduceAdd]
    refine xS.gI rfl (hC.1 _) rfl ⟨by decide, rfl⟩ rfl ?_
    try dsimp only [Nat.reduceAdd]
    rw [hT]
    refine xS.s1 rfl rfl ?_
    try dsimp only [Nat.reduceAdd, xj_8]
    refine xS.br (c := .lt) (off := 5) (l := 3) rfl rfl (fun h13 => ?_) (fun h13 => ?_)
    · have g13 := xt_lt h13
      refine xS.s1 rfl rfl ?_
      try dsimp only [Nat.reduceAdd, xi_0]
      refine xS.s1 rfl rfl ?_
      try dsimp only [Nat.reduceAdd]
      refine xS.s1 rfl rfl ?_
      try dsimp only [Nat.reduceAdd]
      refine xS.s1 rfl rfl ?_
      try dsimp only [Nat.reduceAdd, xi_2]
      refine xS.br (c := .ge) (off := 52) (l := 3) rfl rfl (fun h22 => ?_) (fun h22 => ?_)
      · have g22 := xt_ge h22
        exfalso; first | exact absurd g22 (by decide) | (simp (disch := omega) only [Int32.lt_iff_toInt_lt, Int32.le_iff_toInt_le, nI_toInt, Int32.reduceToInt] at g22 <;> omega)
      · have g22 := xf_ge h22
        refine xS.s1 rfl rfl ?_
        try dsimp only [Nat.reduceAdd]
        refine xS.s1 rfl rfl ?_
        try dsimp only [Nat.reduceAdd, xi_1]
        refine xS.s1 rfl rfl ?_
        try dsimp only [Nat.reduceAdd]
        refine xS.s1 rfl rfl ?_
        try dsimp only [Nat.reduceAdd]
        refine xS.s1 rfl rfl ?_
        try dsimp only [Nat.reduceAdd]
        rw [show (nI p + 1 + 0 : Int32) = nI (p + 1) from by
          show nI p + nI 1 + nI 0 = _
          rw [nI_add, nI_add]]
        refine xS.s1 rfl rfl ?_
        try dsimp only [Nat.reduceAdd]
        refine xS.s1 rfl rfl ?_
        try dsimp only [Nat.reduceAdd]
        refine xS.s1 rfl rfl ?_
        try dsimp only [Nat.reduceAdd]
        refine xS.s1 rfl rfl ?_
        try dsimp only [Nat.reduceAdd, xj_6]
        -- 37 yX8_isFigure
        refine xS.callS rfl rfl rfl ⟨Nat.le_of_ble_eq_true rfl, rfl⟩ (c_X8_isFigureV (f := f) (t := 6) hF hs hm hfv (by omega) (by decide) (Classical.propDecidable _)) (fun v M1 hv => ?_)
        rw [hv.1, hv.2]
        clear hv M1 v
        try dsimp only [Nat.reduceAdd, Option.toList, List.cons_append, List.nil_append, List.drop]
        refine xS.br0 (c := .ne) (off := 6) (l := 3) rfl rfl (fun h40 => ?_) (fun h40 => ?_)
        · have g40 := xt_ne h40
          exact absurd (@xif1 _ (Classical.propDecidable _) g40) hf1
        · have g40 := xf_ne h40
          refine xS.s1 rfl rfl ?_
          try dsimp only [Nat.reduceAdd]
          refine xS.ret rfl rfl rfl (fun _ _ => rfl) ?_
          exact ⟨rfl, rfl⟩
    · have g13 := xf_lt h13
      exfalso; have z := (nI_leI (a := 8) (b := T) (by omega) (by omega)).mp g13; omega

set_option maxRecDepth 10000 in
theorem c_X8_readTerm_bad2 (hC : xro a) (hF : xce c n) (hca : c + 1 < a ∨ a + 3 < c) (hs : g c 1 = nI m) (hm : m ≤ n) (hfv : g (c + 1) = f) (hG : g a 2 = nI G) (hG6 : G ≤ 6) (hT : g a 4 = nI T) (hT8 : T ≤ 8) (hp : p < m) (hm60 : m ≤ 60) (hb : ¬ (G = 0 ∨ T = 8)) (hf1 : xfg f m (p + 1) 6) (hf2 : ¬ xfg f m (p + 2) 6) : xT (k + 4) 68 [.ref a, .ref c, .int (nI p)] (xH b g l) (fun r M' => M' = xH b (up g (a + 3) (2 * T) (nI (xfv (f (p + 1))))) l ∧ r = some (.int (nI (p + 2)))) := by
  have hn := hF.2.2
  have hb1 : G ≠ 0 := fun z => hb (Or.inl z)
  have hb2 : T ≠ 8 := fun z => hb (Or.inr z)
  refine xT.of rfl (Nat.le_of_ble_eq_true rfl) ?_
  change xS _ _ 0 [(0, .ref a), (1, .ref c), (2, .int (nI p))] [] _ _
  refine xS.s1 rfl rfl ?_
  try dsimp only [Nat.reduceAdd]
  refine xS.gI rfl (hC.1 _) rfl ⟨by decide, rfl⟩ rfl ?_
  try dsimp only [Nat.reduceAdd]
  rw [hG]
  refine xS.br0 (c := .eq) (off := 12) (l := 3) rfl rfl (fun h4 => ?_) (fun h4 => ?_)
  · have g4 := xt_eq h4
    exact absurd (Or.inl (nI_inj (b := 0) (by omega) (by omega) g4)) hb
  · have g4 := xf_eq h4
    refine xS.s1 rfl rfl ?_
    try dsimp only [Nat.reduceAdd]
    refine xS.gI rfl (hC.1 _) rfl ⟨by decide, rfl⟩ rfl ?_
    try dsimp only [Nat.reduceAdd]
    rw [hT]
    refine xS.s1 rfl rfl ?_
    try dsimp only [Nat.reduceAdd, xj_8]
    refine xS.br (c := .lt) (off := 5) (l := 3) rfl rfl (fun h13 => ?_) (fun h13 => ?_)
    · have g13 := xt_lt h13
      refine xS.s1 rfl rfl ?_
      try dsimp only [Nat.reduceAdd, xi_0]
      refine xS.s1 rfl rfl ?_
      try dsimp only [Nat.reduceAdd]
      refine xS.s1 rfl rfl ?_
      try dsimp only [Nat.reduceAdd]
      refine xS.s1 rfl rfl ?_
      try dsimp only [Nat.reduceAdd, xi_2]
      refine xS.br (c := .ge) (off := 52) (l := 3) rfl rfl (fun h22 => ?_) (fun h22 => ?_)
      · have g22 := xt_ge h22
        exfalso; first | exact absurd g22 (by decide) | (simp (disch := omega) only [Int32.lt_iff_toInt_lt, Int32.le_iff_toInt_le, nI_toInt, Int32.reduceToInt] at g22 <;> omega)
      · have g22 := xf_ge h22
        refine xS.s1 rfl rfl ?_
        try dsimp only [Nat.reduceAdd]
        refine xS.s1 rfl rfl ?_
        try dsimp only [Nat.reduceAdd, xi_1]
        refine xS.s1 rfl rfl ?_
        try dsimp only [Nat.reduceAdd]
        refine xS.s1 rfl rfl ?_
        try dsimp only [Nat.reduceAdd]
        refine xS.s1 rfl rfl ?_
        try dsimp only [Nat.reduceAdd]
        rw [show (nI p + 1 + 0 : Int32) = nI (p + 1) from by
          show nI p + nI 1 + nI 0 = _
          rw [nI_add, nI_add]]
        refine xS.s1 rfl rfl ?_
        try dsimp only [Nat.reduceAdd]
        refine xS.s1 rfl rfl ?_
        try dsimp only [Nat.reduceAdd]
        refine xS.s1 rfl rfl ?_
        try dsimp only [Nat.reduceAdd]
        refine xS.s1 rfl rfl ?_
        try dsimp only [Nat.reduceAdd, xj_6]
        -- 37 yX8_isFigure
        refine xS.callS rfl rfl rfl ⟨Nat.le_of_ble_eq_true rfl, rfl⟩ (c_X8_isFigureV (f := f) (t := 6) hF hs hm hfv (by omega) (by decide) (Classical.propDecidable _)) (fun v M1 hv => ?_)
        rw [hv.1, hv.2]
        clear hv M1 v
        try dsimp only [Nat.reduceAdd, Option.toList, List.cons_append, List.nil_append, List.drop]
        refine xS.br0 (c := .ne) (off := 6) (l := 3) rfl rfl (fun h40 => ?_) (fun h40 => ?_)
        · have g40 := xt_ne h40
          refine xS.s1 rfl rfl ?_
          try dsimp only [Nat.reduceAdd]
          refine xS.gR rfl (hC.1 _) rfl ⟨by decide, rfl⟩ rfl ?_
          try dsimp only [Nat.reduceAdd]
          refine xS.s1 rfl rfl ?_
          try dsimp only [Nat.reduceAdd, xi_2]
          refine xS.s1 rfl rfl ?_
          try dsimp only [Nat.reduceAdd]
          refine xS.gI rfl (hC.1 _) rfl ⟨by decide, rfl⟩ rfl ?_
          try dsimp only [Nat.reduceAdd]
          rw [hT]
          refine xS.s1 rfl rfl ?_
          try dsimp only [Nat.reduceAdd]
          refine xS.s1 rfl rfl ?_
          try dsimp only [Nat.reduceAdd]
          refine xS.s1 rfl rfl ?_
          try dsimp only [Nat.reduceAdd]
          refine xS.s1 rfl rfl ?_
          try dsimp only [Nat.reduceAdd]
          refine xS.s1 rfl rfl ?_
          try dsimp only [Nat.reduceAdd]
          -- 61 yX0_get
          refine xS.cv rfl rfl rfl (hF.1 _) rfl rfl ⟨by decide, rfl, rfl⟩ (c_X0_getV (f := f) hF hs hm hfv hf1.1) (fun v M1 hv => ?_)
          rw [hv.1, hv.2]
          clear hv M1 v
          try dsimp only [Nat.reduceAdd, Option.toList, List.cons_append, List.nil_append, List.drop]
          refine xS.s1 rfl rfl ?_
          try dsimp only [Nat.reduceAdd, xj_48]
          refine xS.s1 rfl rfl ?_
          try dsimp only [Nat.reduceAdd]
          rw [xfv_s (by decide) hf1]
          rw [show (((2 * nI T) + 0) : Int32) = nI ((2 * T) + 0) from by simp only [← nI_add, ← pk_mul]; rfl]
          refine xS.ias rfl hC.2.2.2 (by omega) ?_
          try dsimp only [Nat.reduceAdd]
          refine xS.s1 rfl rfl ?_
          try dsimp only [Nat.reduceAdd, xi_1]
          refine xS.s1 rfl rfl ?_
          try dsimp only [Nat.reduceAdd]
          rw [show (0 + 1 : Int32) = 1 from rfl]
          refine xS.s1 rfl rfl ?_
          try dsimp only [Nat.reduceAdd]
          refine xS.s1 rfl rfl ?_
          try dsimp only [Nat.reduceAdd, xi_2]
          refine xS.br (c := .ge) (off := 52) (l := 3) rfl rfl (fun h22 => ?_) (fun h22 => ?_)
          · have g22 := xt_ge h22
            exfalso; first | exact absurd g22 (by decide) | (simp (disch := omega) only [Int32.lt_iff_toInt_lt, Int32.le_iff_toInt_le, nI_toInt, Int32.reduceToInt] at g22 <;> omega)
          · have g22 := xf_ge h22
            refine xS.s1 rfl rfl ?_
            try dsimp only [Nat.reduceAdd]
            refine xS.s1 rfl rfl ?_
            try dsimp only [Nat.reduceAdd, xi_1]
            refine xS.s1 rfl rfl ?_
            try dsimp only [Nat.reduceAdd]
            refine xS.s1 rfl rfl ?_
            try dsimp only [Nat.reduceAdd]
            refine xS.s1 rfl rfl ?_
            try dsimp only [Nat.reduceAdd]
            rw [show (nI p + 1 + 1 : Int32) = nI (p + 2) from by
              show nI p + nI 1 + nI 1 = _
              rw [nI_add, nI_add]]
            refine xS.s1 rfl rfl ?_
            try dsimp only [Nat.reduceAdd]
            refine xS.s1 rfl rfl ?_
            try dsimp only [Nat.reduceAdd]
            refine xS.s1 rfl rfl ?_
            try dsimp only [Nat.reduceAdd]
            refine xS.s1 rfl rfl ?_
            try dsimp only [Nat.reduceAdd, xj_6]
            -- 37 yX8_isFigure
            refine xS.callS rfl rfl rfl ⟨Nat.le_of_ble_eq_true rfl, rfl⟩ (c_X8_isFigureV (f := f) (t := 6) hF (by rw [up_na (by omega)]; exact hs) hm (by rw [up_na (by omega)]; exact hfv) (by omega) (by decide) (Classical.propDecidable _)) (fun v M1 hv => ?_)
            rw [hv.1, hv.2]
            clear hv M1 v
            try dsimp only [Nat.reduceAdd, Option.toList, List.cons_append, List.nil_append, List.drop]
            refine xS.br0 (c := .ne) (off := 6) (l := 3) rfl rfl (fun h40 => ?_) (fun h40 => ?_)
            · have g40 := xt_ne h40
              exact absurd (@xif1 _ (Classical.propDecidable _) g40) hf2
            · have g40 := xf_ne h40
              refine xS.s1 rfl rfl ?_
              try dsimp only [Nat.reduceAdd]
              refine xS.ret rfl rfl rfl (fun _ _ => rfl) ?_
              exact ⟨rfl, rfl⟩
        · have g40 := xf_ne h40
          exact absurd hf1 (@xif0 _ (Classical.propDecidable _) g40)
    · have g13 := xf_lt h13
      exfalso; have z := (nI_leI (a := 8) (b := T) (by omega) (by omega)).mp g13; omega

set_option maxRecDepth 10000 in
theorem c_X8_readTerm_ok (hC : xro a) (hF : xce c n) (hca : c + 1 < a ∨ a + 3 < c) (hs : g c 1 = nI m) (hm : m ≤ n) (hfv : g (c + 1) = f) (hG : g a 2 = nI G) (hG6 : G ≤ 6) (hT : g a 4 = nI T) (hT8 : T ≤ 8) (hp : p < m) (hm60 : m ≤ 60) (hb : ¬ (G = 0 ∨ T = 8)) (hf1 : xfg f m (p + 1) 6) (hf2 : xfg f m (p + 2) 6) : xT (k + 4) 68 [.ref a, .ref c, .int (nI p)] (xH b g l) (fun r M' => M' = xH b (up (up (up g (a + 3) (2 * T) (nI (xfv (f (p + 1))))) (a + 3) (2 * T + 1) (nI (xfv (f (p + 2))))) a 4 (nI (T + 1))) l ∧ r = some (.int (-9))) := by
  have hn := hF.2.2
  have hb1 : G ≠ 0 := fun z => hb (Or.inl z)
  have hb2 : T ≠ 8 := fun z => hb (Or.inr z)
  refine xT.of rfl (Nat.le_of_ble_eq_true rfl) ?_
  change xS _ _ 0 [(0, .ref a), (1, .ref c), (2, .int (nI p))] [] _ _
  refine xS.s1 rfl rfl ?_
  try dsimp only [Nat.reduceAdd]
  refine xS.gI rfl (hC.1 _) rfl ⟨by decide, rfl⟩ rfl ?_
  try dsimp only [Nat.reduceAdd]
  rw [hG]
  refine xS.br0 (c := .eq) (off := 12) (l := 3) rfl rfl (fun h4 => ?_) (fun h4 => ?_)
  · have g4 := xt_eq h4
    exact absurd (Or.inl (nI_inj (b := 0) (by omega) (by omega) g4)) hb
  · have g4 := xf_eq h4
    refine xS.s1 rfl rfl ?_
    try dsimp only [Nat.reduceAdd]
    refine xS.gI rfl (hC.1 _) rfl ⟨by decide, rfl⟩ rfl ?_
    try dsimp only [Nat.reduceAdd]
    rw [hT]
    refine xS.s1 rfl rfl ?_
    try dsimp only [Nat.reduceAdd, xj_8]
    refine xS.br (c := .lt) (off := 5) (l := 3) rfl rfl (fun h13 => ?_) (fun h13 => ?_)
    · have g13 := xt_lt h13
      refine xS.s1 rfl rfl ?_
      try dsimp only [Nat.reduceAdd, xi_0]
      refine xS.s1 rfl rfl ?_
      try dsimp only [Nat.reduceAdd]
      refine xS.s1 rfl rfl ?_
      try dsimp only [Nat.reduceAdd]
      refine xS.s1 rfl rfl ?_
      try dsimp only [Nat.reduceAdd, xi_2]
      refine xS.br (c := .ge) (off := 52) (l := 3) rfl rfl (fun h22 => ?_) (fun h22 => ?_)
      · have g22 := xt_ge h22
        exfalso; first | exact absurd g22 (by decide) | (simp (disch := omega) only [Int32.lt_iff_toInt_lt, Int32.le_iff_toInt_le, nI_toInt, Int32.reduceToInt] at g22 <;> omega)
      · have g22 := xf_ge h22
        refine xS.s1 rfl rfl ?_
        try dsimp only [Nat.reduceAdd]
        refine xS.s1 rfl rfl ?_
        try dsimp only [Nat.reduceAdd, xi_1]
        refine xS.s1 rfl rfl ?_
        try dsimp only [Nat.reduceAdd]
        refine xS.s1 rfl rfl ?_
        try dsimp only [Nat.reduceAdd]
        refine xS.s1 rfl rfl ?_
        try dsimp only [Nat.reduceAdd]
        rw [show (nI p + 1 + 0 : Int32) = nI (p + 1) from by
          show nI p + nI 1 + nI 0 = _
          rw [nI_add, nI_add]]
        refine xS.s1 rfl rfl ?_
        try dsimp only [Nat.reduceAdd]
        refine xS.s1 rfl rfl ?_
        try dsimp only [Nat.reduceAdd]
        refine xS.s1 rfl rfl ?_
        try dsimp only [Nat.reduceAdd]
        refine xS.s1 rfl rfl ?_
        try dsimp only [Nat.reduceAdd, xj_6]
        -- 37 yX8_isFigure
        refine xS.callS rfl rfl rfl ⟨Nat.le_of_ble_eq_true rfl, rfl⟩ (c_X8_isFigureV (f := f) (t := 6) hF hs hm hfv (by omega) (by decide) (Classical.propDecidable _)) (fun v M1 hv => ?_)
        rw [hv.1, hv.2]
        clear hv M1 v
        try dsimp only [Nat.reduceAdd, Option.toList, List.cons_append, List.nil_append, List.drop]
        refine xS.br0 (c := .ne) (off := 6) (l := 3) rfl rfl (fun h40 => ?_) (fun h40 => ?_)
        · have g40 := xt_ne h40
          refine xS.s1 rfl rfl ?_
          try dsimp only [Nat.reduceAdd]
          refine xS.gR rfl (hC.1 _) rfl ⟨by decide, rfl⟩ rfl ?_
          try dsimp only [Nat.reduceAdd]
          refine xS.s1 rfl rfl ?_
          try dsimp only [Nat.reduceAdd, xi_2]
          refine xS.s1 rfl rfl ?_
          try dsimp only [Nat.reduceAdd]
          refine xS.gI rfl (hC.1 _) rfl ⟨by decide, rfl⟩ rfl ?_
          try dsimp only [Nat.reduceAdd]
          rw [hT]
          refine xS.s1 rfl rfl ?_
          try dsimp only [Nat.reduceAdd]
          refine xS.s1 rfl rfl ?_
          try dsimp only [Nat.reduceAdd]
          refine xS.s1 rfl rfl ?_
          try dsimp only [Nat.reduceAdd]
          refine xS.s1 rfl rfl ?_
          try dsimp only [Nat.reduceAdd]
          refine xS.s1 rfl rfl ?_
          try dsimp only [Nat.reduceAdd]
          -- 61 yX0_get
          refine xS.cv rfl rfl rfl (hF.1 _) rfl rfl ⟨by decide, rfl, rfl⟩ (c_X0_getV (f := f) hF hs hm hfv hf1.1) (fun v M1 hv => ?_)
          rw [hv.1, hv.2]
          clear hv M1 v
          try dsimp only [Nat.reduceAdd, Option.toList, List.cons_append, List.nil_append, List.drop]
          refine xS.s1 rfl rfl ?_
          try dsimp only [Nat.reduceAdd, xj_48]
          refine xS.s1 rfl rfl ?_
          try dsimp only [Nat.reduceAdd]
          rw [xfv_s (by decide) hf1]
          rw [show (((2 * nI T) + 0) : Int32) = nI ((2 * T) + 0) from by simp only [← nI_add, ← pk_mul]; rfl]
          refine xS.ias rfl hC.2.2.2 (by omega) ?_
          try dsimp only [Nat.reduceAdd]
          refine xS.s1 rfl rfl ?_
          try dsimp only [Nat.reduceAdd, xi_1]
          refine xS.s1 rfl rfl ?_
          try dsimp only [Nat.reduceAdd]
          rw [show (0 + 1 : Int32) = 1 from rfl]
          refine xS.s1 rfl rfl ?_
          try dsimp only [Nat.reduceAdd]
          refine xS.s1 rfl rfl ?_
          try dsimp only [Nat.reduceAdd, xi_2]
          refine xS.br (c := .ge) (off := 52) (l := 3) rfl rfl (fun h22 => ?_) (fun h22 => ?_)
          · have g22 := xt_ge h22
            exfalso; first | exact absurd g22 (by decide) | (simp (disch := omega) only [Int32.lt_iff_toInt_lt, Int32.le_iff_toInt_le, nI_toInt, Int32.reduceToInt] at g22 <;> omega)
          · have g22 := xf_ge h22
            refine xS.s1 rfl rfl ?_
            try dsimp only [Nat.reduceAdd]
            refine xS.s1 rfl rfl ?_
            try dsimp only [Nat.reduceAdd, xi_1]
            refine xS.s1 rfl rfl ?_
            try dsimp only [Nat.reduceAdd]
            refine xS.s1 rfl rfl ?_
            try dsimp only [Nat.reduceAdd]
            refine xS.s1 rfl rfl ?_
            try dsimp only [Nat.reduceAdd]
            rw [show (nI p + 1 + 1 : Int32) = nI (p + 2) from by
              show nI p + nI 1 + nI 1 = _
              rw [nI_add, nI_add]]
            refine xS.s1 rfl rfl ?_
            try dsimp only [Nat.reduceAdd]
            refine xS.s1 rfl rfl ?_
            try dsimp only [Nat.reduceAdd]
            refine xS.s1 rfl rfl ?_
            try dsimp only [Nat.reduceAdd]
            refine xS.s1 rfl rfl ?_
            try dsimp only [Nat.reduceAdd, xj_6]
            -- 37 yX8_isFigure
            refine xS.callS rfl rfl rfl ⟨Nat.le_of_ble_eq_true rfl, rfl⟩ (c_X8_isFigureV (f := f) (t := 6) hF (by rw [up_na (by omega)]; exact hs) hm (by rw [up_na (by omega)]; exact hfv) (by omega) (by decide) (Classical.propDecidable _)) (fun v M1 hv => ?_)
            rw [hv.1, hv.2]
            clear hv M1 v
            try dsimp only [Nat.reduceAdd, Option.toList, List.cons_append, List.nil_append, List.drop]
            refine xS.br0 (c := .ne) (off := 6) (l := 3) rfl rfl (fun h40 => ?_) (fun h40 => ?_)
            · have g40 := xt_ne h40
              refine xS.s1 rfl rfl ?_
              try dsimp only [Nat.reduceAdd]
              refine xS.gR rfl (hC.1 _) rfl ⟨by decide, rfl⟩ rfl ?_
              try dsimp only [Nat.reduceAdd]
              refine xS.s1 rfl rfl ?_
              try dsimp only [Nat.reduceAdd, xi_2]
              refine xS.s1 rfl rfl ?_
              try dsimp only [Nat.reduceAdd]
              refine xS.gI rfl (hC.1 _) rfl ⟨by decide, rfl⟩ rfl ?_
              try dsimp only [Nat.reduceAdd]
              rw [up_na (by omega), hT]
              refine xS.s1 rfl rfl ?_
              try dsimp only [Nat.reduceAdd]
              refine xS.s1 rfl rfl ?_
              try dsimp only [Nat.reduceAdd]
              refine xS.s1 rfl rfl ?_
              try dsimp only [Nat.reduceAdd]
              refine xS.s1 rfl rfl ?_
              try dsimp only [Nat.reduceAdd]
              refine xS.s1 rfl rfl ?_
              try dsimp only [Nat.reduceAdd]
              -- 61 yX0_get
              refine xS.cv rfl rfl rfl (hF.1 _) rfl rfl ⟨by decide, rfl, rfl⟩ (c_X0_getV (f := f) hF (by rw [up_na (by omega)]; exact hs) hm (by rw [up_na (by omega)]; exact hfv) hf2.1) (fun v M1 hv => ?_)
              rw [hv.1, hv.2]
              clear hv M1 v
              try dsimp only [Nat.reduceAdd, Option.toList, List.cons_append, List.nil_append, List.drop]
              refine xS.s1 rfl rfl ?_
              try dsimp only [Nat.reduceAdd, xj_48]
              refine xS.s1 rfl rfl ?_
              try dsimp only [Nat.reduceAdd]
              rw [xfv_s (by decide) hf2]
              rw [show (((2 * nI T) + 1) : Int32) = nI ((2 * T) + 1) from by simp only [← nI_add, ← pk_mul]; rfl]
              refine xS.ias rfl hC.2.2.2 (by omega) ?_
              try dsimp only [Nat.reduceAdd]
              refine xS.s1 rfl rfl ?_
              try dsimp only [Nat.reduceAdd, xi_1]
              refine xS.s1 rfl rfl ?_
              try dsimp only [Nat.reduceAdd]
              rw [show (1 + 1 : Int32) = 2 from rfl]
              refine xS.s1 rfl rfl ?_
              try dsimp only [Nat.reduceAdd]
              refine xS.s1 rfl rfl ?_
              try dsimp only [Nat.reduceAdd, xi_2]
              refine xS.br (c := .ge) (off := 52) (l := 3) rfl rfl (fun h22 => ?_) (fun h22 => ?_)
              · have g22 := xt_ge h22
                refine xS.s1 rfl rfl ?_
                try dsimp only [Nat.reduceAdd]
                refine xS.s1 rfl rfl ?_
                try dsimp only [Nat.reduceAdd]
                refine xS.gI rfl (hC.1 _) rfl ⟨by decide, rfl⟩ rfl ?_
                try dsimp only [Nat.reduceAdd]
                rw [up_na (by omega), up_na (by omega), hT]
                refine xS.s1 rfl rfl ?_
                try dsimp only [Nat.reduceAdd, xi_1]
                refine xS.s1 rfl rfl ?_
                try dsimp only [Nat.reduceAdd]
                rw [nI_1]
                refine xS.pI rfl (hC.1 _) rfl ⟨⟨by decide, rfl⟩, rfl, by decide, by decide⟩ rfl ?_
                try dsimp only [Nat.reduceAdd]
                refine xS.s1 rfl rfl ?_
                try dsimp only [Nat.reduceAdd, xj_m9]
                refine xS.ret rfl rfl rfl (fun _ _ => rfl) ?_
                exact ⟨rfl, rfl⟩
              · have g22 := xf_ge h22
                exfalso; first | exact absurd g22 (by decide) | (simp (disch := omega) only [Int32.lt_iff_toInt_lt, Int32.le_iff_toInt_le, nI_toInt, Int32.reduceToInt] at g22 <;> omega)
            · have g40 := xf_ne h40
              exact absurd hf2 (@xif0 _ (Classical.propDecidable _) g40)
        · have g40 := xf_ne h40
          exact absurd hf1 (@xif0 _ (Classical.propDecidable _) g40)
    · have g13 := xf_lt h13
      exfalso; have z := (nI_leI (a := 8) (b := T) (by omega) (by omega)).mp g13; omega

end
end
section
/-! LimpMirror$Room: readItems, read -/
section
variable {k a c n n2 m t p s d i1 j1 : Nat} {b : Nat × Nat} {g : Nat → Nat → Int32} {l : Nat → Nat → Int64} {i j x y z v w : Int32} {u w1 w2 : Int64}
variable {L G T κ δ : Nat} {Lw : Nat → Nat} {f tx : Nat → Int32} {R : xPR}
theorem xFa_t {g g1 g2 : Nat → Nat → Int32} {a : Nat} (h1 : xFa a g g1) (h2 : xFa a g1 g2) : xFa a g g2 := fun e p q r => by rw [h2 e p q r, h1 e p q r]
theorem c_X8_readTermP (hC : xro a) (hF : xce c n) (hca : c + 1 < a ∨ a + 3 < c) (hs : g c 1 = nI m) (hm : m ≤ n) (hfv : g (c + 1) = f) (hm60 : m ≤ 60) (hp : p < m) (hc : f p = 110) (hR : xRv g a G T Lw tx) : xT (k + 4) 68 [.ref a, .ref c, .int (nI p)] (xH b g l) (xItP b l f m a g p G T Lw tx 3) := by
  obtain ⟨⟨hG, hG6⟩, ⟨hT, hT8⟩, hL, hx⟩ := hR
  by_cases hb : G = 0 ∨ T = 8
  · exact (c_X8_readTerm_bad hC hF hca hs hm hfv hG hG6 hT hT8 hp hm60 hb).weak (fun r M' h => ⟨some p, g, h.2, fun d e => by cases e; omega, h.1, fun _ _ _ _ => rfl, fun e he q => by cases he; exact xpi_t0 hp hc hb, fun z => by cases z⟩)
  by_cases hf1 : xfg f m (p + 1) 6
  · by_cases hf2 : xfg f m (p + 2) 6
    · have v1 := (xfv_e (by decide) hf1).1
      have v2 := (xfv_e (by decide) hf2).1
      refine (c_X8_readTerm_ok hC hF hca hs hm hfv hG hG6 hT hT8 hp hm60 hb hf1 hf2).weak (fun r M' h => ⟨none, _, h.2, fun d e => (by cases e), h.1, fun e h1 h2 h3 => by rw [up_na h1, up_na h3, up_na h3], fun e he => (by cases he), fun _ => ⟨G, T + 1, Lw, _, ⟨⟨by rw [up_ne (Or.inr (by decide)), up_na (by omega), up_na (by omega)]; exact hG, hG6⟩, ⟨up_same .., by omega⟩, fun k hk => by rw [up_na (by omega), up_na (by omega), up_na (by omega)]; exact hL k hk, fun k hk => ?_⟩, by have := hf2.1; omega, fun q => xpi_t3 hp hc hb hf1 hf2⟩⟩)
      rw [up_na (by omega)]
      by_cases e1 : k = 2 * T + 1
      · subst e1
        rw [up_same, uf_i]
        exact ⟨rfl, _, v2, rfl⟩
      · rw [up_ne (Or.inr e1), uf_n e1]
        by_cases e2 : k = 2 * T
        · subst e2
          rw [up_same, uf_i]
          exact ⟨rfl, _, v1, rfl⟩
        · rw [up_ne (Or.inr e2), uf_n e2]
          exact hx k (by omega)
    · exact (c_X8_readTerm_bad2 hC hF hca hs hm hfv hG hG6 hT hT8 hp hm60 hb hf1 hf2).weak (fun r M' h => ⟨some (p + 2), _, h.2, fun d e => by cases e; omega, h.1, fun e h1 h2 h3 => by rw [up_na h3], fun e he q => by cases he; exact xpi_t2 hp hc hb hf1 hf2, fun z => by cases z⟩)
  · exact (c_X8_readTerm_bad1 hC hF hca hs hm hfv hG hG6 hT hT8 hp hm60 hb hf1).weak (fun r M' h => ⟨some (p + 1), g, h.2, fun d e => by cases e; omega, h.1, fun _ _ _ _ => rfl, fun e he q => by cases he; exact xpi_t1 hp hc hb hf1, fun z => by cases z⟩)
theorem c_X8_readGlassP (hC : xro a) (hF : xce c n) (hca : c + 1 < a ∨ a + 3 < c) (hs : g c 1 = nI m) (hm : m ≤ n) (hfv : g (c + 1) = f) (hm60 : m ≤ 60) (hp : p < m) (hc : ¬ f p = 110) (hR : xRv g a G T Lw tx) : xT (k + 4) 67 [.ref a, .ref c, .int (nI p)] (xH b g l) (xItP b l f m a g p G T Lw tx 2) := by
  obtain ⟨⟨hG, hG6⟩, ⟨hT, hT8⟩, hL, hx⟩ := hR
  subst hfv
  by_cases hb : xkd (g (c + 1) p) = none ∨ 0 < T ∨ G = 6
  · exact (c_X8_readGlass_bad hC hF hs hm hG hG6 hT hT8 hp hm60 hb).weak (fun r M' h => ⟨some p, g, h.2, fun d e => by cases e; omega, h.1, fun _ _ _ _ => rfl, fun e he q => by cases he; exact xpi_g0 hp hc hb, fun z => by cases z⟩)
  have b2 : T = 0 := by have := fun z => hb (Or.inr (Or.inl z)); omega
  have b3 : G < 6 := by have := fun z => hb (Or.inr (Or.inr z)); omega
  cases ek : xkd (g (c + 1) p) with
  | none => exact absurd (Or.inl ek) hb
  | some κ =>
    have k6 := xkd_lt ek
    by_cases hf1 : xfg (g (c + 1)) m (p + 1) 4
    · have v1 := xfv_e (by decide) hf1
      have hq : ∀ q, xpi (g (c + 1)) m (q + 1) p G T Lw tx = xpi (g (c + 1)) m q (xab (g (c + 1)) m (p + 2)) (G + 1) T (uf Lw G (4 * κ + xfv (g (c + 1) (p + 1)))) tx := fun q => by rw [xpi_g2 hp hc hb hf1, ek]; rfl
      refine (c_X8_readGlass_ok hC hF hs hm hG hG6 hT hT8 hp hm60 ek b2 b3 hf1 v1.1 v1.2).weak (fun r M' h => ⟨none, _, h.2, fun d e => (by cases e), h.1, fun e h1 h2 h3 => by rw [up_na h1, up_na h2], fun e he => (by cases he), fun _ => ⟨G + 1, T, _, tx, ⟨⟨up_same .., by omega⟩, ⟨by rw [up_ne (Or.inr (by decide)), up_na (by omega)]; exact hT, hT8⟩, fun k hk => ?_, fun k hk => by omega⟩, by have := hf1.1; omega, hq⟩⟩)
      rw [up_na (by omega)]
      by_cases e1 : k = G
      · subst e1
        rw [up_same, uf_i]
        exact ⟨rfl, by have := v1.1; omega⟩
      · rw [up_ne (Or.inr e1), uf_n e1]
        exact hL k (by omega)
    · exact (c_X8_readGlass_bad1 hC hF hs hm hG hG6 hT hT8 hp hm60 ek b2 b3 hf1).weak (fun r M' h => ⟨some (p + 1), g, h.2, fun d e => by cases e; omega, h.1, fun _ _ _ _ => rfl, fun e he q => by cases he; exact xpi_g1 hp hc hb hf1, fun z => by cases z⟩)
def xLI (f : Nat → Int32) (m a : Nat) (g : Nat → Nat → Int32) (R : xPR) (j i G T : Nat) (Lw : Nat → Nat) (tx : Nat → Int32) (g' : Nat → Nat → Int32) : Prop := 2 * j ≤ i ∧ i ≤ m ∧ xpi f m (61 - j) i G T Lw tx = R ∧ xRv g' a G T Lw tx ∧ xFa a g g'

set_option maxRecDepth 10000 in
theorem c_X8_readItems (hC : xro a) (hF : xce c n) (hca : c + 1 < a ∨ a + 3 < c) (hs : g c 1 = nI m) (hm : m ≤ n) (hfv : g (c + 1) = f) (hm60 : m ≤ 60) (hp : p ≤ m) (hR : xRv g a G T Lw tx) (hRR : xpi f m 61 (xab f m p) G T Lw tx = R) : xT (k + 5) 66 [.ref a, .ref c, .int (nI p)] (xH b g l) (fun r M' => ∃ g', M' = xH b g' l ∧ xFa a g g' ∧ r = some (.int (xfI R.1)) ∧ (R.1 = none → xRv g' a R.2.1 R.2.2.1 R.2.2.2.1 R.2.2.2.2)) := by
  have hn := hF.2.2
  refine xT.of rfl (Nat.le_of_ble_eq_true rfl) ?_
  change xS _ _ 0 [(0, .ref a), (1, .ref c), (2, .int (nI p))] [] _ _
  refine xS.s1 rfl rfl ?_
  try dsimp only [Nat.reduceAdd]
  refine xS.s1 rfl rfl ?_
  try dsimp only [Nat.reduceAdd]
  -- 2 yX8_afterBlanks
  refine xS.callS rfl rfl rfl ⟨Nat.le_of_ble_eq_true rfl, rfl⟩ (c_X8_afterBlanksV (f := f) hF hs hm hfv (by omega)) (fun v M1 hv => ?_)
  rw [hv.1, hv.2]
  clear hv M1 v
  try dsimp only [Nat.reduceAdd, Option.toList, List.cons_append, List.nil_append, List.drop]
  refine xS.s1 rfl rfl ?_
  try dsimp only [Nat.reduceAdd]
  refine xS.s1 rfl rfl ?_
  try dsimp only [Nat.reduceAdd, xi_0]
  refine xS.s1 rfl rfl ?_
  try dsimp only [Nat.reduceAdd]
  refine xS.pick [0, 1, 3, 2] rfl ?_
  refine xS.loop (σ := Nat × Nat × Nat × (Nat → Nat) × (Nat → Int32) × (Nat → Nat → Int32)) (60) (fun j S => [(4, .int (nI j)), (3, .int (nI S.1)), (1, .ref c), (0, .ref a)]) (fun _ S => xH b S.2.2.2.2.2 l) (fun j S => xLI f m a g R j S.1 S.2.1 S.2.2.1 S.2.2.2.1 S.2.2.2.2.1 S.2.2.2.2.2) ((xab f m p, G, T, Lw, tx, g)) (rfl) (rfl) (⟨Nat.zero_le _, (xab_le hp).1, hRR, hR, fun _ _ _ _ => rfl⟩) ?_
  intro j S hj hI ih
  obtain ⟨i1, G1, T1, Lw1, tx1, g1⟩ := S
  obtain ⟨hj2, hi1, hq1, hR1, hF1⟩ := hI
  dsimp only at hj2 hi1 hq1 hR1 hF1
  have hs1 : g1 c 1 = nI m := by rw [hF1 c (by omega) (by omega) (by omega)]; exact hs
  have hf1 : g1 (c + 1) = f := by rw [hF1 (c + 1) (by omega) (by omega) (by omega)]; exact hfv
  try dsimp only
  refine xS.s1 rfl rfl ?_
  try dsimp only [Nat.reduceAdd]
  refine xS.s1 rfl rfl ?_
  try dsimp only [Nat.reduceAdd, xj_60]
  refine xS.br (c := .ge) (off := 83) (l := 3) rfl rfl (fun h13 => ?_) (fun h13 => ?_)
  · have g13 := xt_ge h13
    exfalso; have z := xnle (b := 60) g13 (by omega) (by omega); omega
  · have g13 := xf_ge h13
    refine xS.s1 rfl rfl ?_
    try dsimp only [Nat.reduceAdd]
    refine xS.s1 rfl rfl ?_
    try dsimp only [Nat.reduceAdd]
    -- 18 yX0_size
    refine xS.cv rfl rfl rfl (hF.1 _) rfl rfl ⟨by decide, rfl, rfl⟩ (c_X0_sizeV hF hs1) (fun v M1 hv => ?_)
    rw [hv.1, hv.2]
    clear hv M1 v
    try dsimp only [Nat.reduceAdd, Option.toList, List.cons_append, List.nil_append, List.drop]
    refine xS.br (c := .ge) (off := 75) (l := 3) rfl rfl (fun h21 => ?_) (fun h21 => ?_)
    · have g21 := xt_ge h21
      have hge := xnle g21 (by omega) (by omega)
      refine xS.s1 rfl rfl ?_
      try dsimp only [Nat.reduceAdd]
      refine xS.gI rfl (hC.1 _) rfl ⟨by decide, rfl⟩ rfl ?_
      try dsimp only [Nat.reduceAdd]
      rw [hR1.1.1]
      refine xS.br0 (c := .ne) (off := 10) (l := 3) rfl rfl (fun h100 => ?_) (fun h100 => ?_)
      · have g100 := xt_ne h100
        refine xS.s1 rfl rfl ?_
        try dsimp only [Nat.reduceAdd, xj_m9]
        refine xS.ret rfl rfl rfl (fun _ _ => rfl) ?_
        have e1 := xpi_e (q := 60 - j) (f := f) (n := m) (i := i1) (G := G1) (T := T1) (Lw := Lw1) (tx := tx1) (by omega)
        rw [show 60 - j + 1 = 61 - j by omega, hq1] at e1
        rw [if_neg (fun z => g100 (by rw [z]; rfl))] at e1
        rw [e1]
        exact ⟨g1, rfl, hF1, rfl, fun _ => hR1⟩
      · have g100 := xf_ne h100
        refine xS.s1 rfl rfl ?_
        try dsimp only [Nat.reduceAdd]
        -- 104 yX0_size
        refine xS.cv rfl rfl rfl (hF.1 _) rfl rfl ⟨by decide, rfl, rfl⟩ (c_X0_sizeV hF hs1) (fun v M1 hv => ?_)
        rw [hv.1, hv.2]
        clear hv M1 v
        try dsimp only [Nat.reduceAdd, Option.toList, List.cons_append, List.nil_append, List.drop]
        refine xS.s1 rfl rfl ?_
        try dsimp only [Nat.reduceAdd]
        refine xS.ret rfl rfl rfl (fun _ _ => rfl) ?_
        have e1 := xpi_e (q := 60 - j) (f := f) (n := m) (i := i1) (G := G1) (T := T1) (Lw := Lw1) (tx := tx1) (by omega)
        rw [show 60 - j + 1 = 61 - j by omega, hq1] at e1
        rw [if_pos (nI_inj (b := 0) (by have := hR1.1.2; omega) (by decide) g100)] at e1
        rw [e1]
        exact ⟨g1, rfl, hF1, rfl, fun z => by cases z⟩
    · have g21 := xf_ge h21
      have hlt := xnlt g21 (by omega) (by omega)
      refine xS.s1 rfl rfl ?_
      try dsimp only [Nat.reduceAdd]
      refine xS.s1 rfl rfl ?_
      try dsimp only [Nat.reduceAdd]
      -- 26 yX0_get
      refine xS.cv rfl rfl rfl (hF.1 _) rfl rfl ⟨by decide, rfl, rfl⟩ (c_X0_getV (f := f) hF hs1 hm hf1 hlt) (fun v M1 hv => ?_)
      rw [hv.1, hv.2]
      clear hv M1 v
      try dsimp only [Nat.reduceAdd, Option.toList, List.cons_append, List.nil_append, List.drop]
      refine xS.s1 rfl rfl ?_
      try dsimp only [Nat.reduceAdd, xj_110]
      refine xS.br (c := .ne) (off := 7) (l := 3) rfl rfl (fun h31 => ?_) (fun h31 => ?_)
      · have g31 := xt_ne h31
        refine xS.s1 rfl rfl ?_
        try dsimp only [Nat.reduceAdd, xi_0]
        refine xS.s1 rfl rfl ?_
        try dsimp only [Nat.reduceAdd]
        refine xS.s1 rfl rfl ?_
        try dsimp only [Nat.reduceAdd]
        refine xS.br0 (c := .eq) (off := 12) (l := 3) rfl rfl (fun h43 => ?_) (fun h43 => ?_)
        · have g43 := xt_eq h43
          refine xS.s1 rfl rfl ?_
          try dsimp only [Nat.reduceAdd]
          refine xS.s1 rfl rfl ?_
          try dsimp only [Nat.reduceAdd]
          refine xS.s1 rfl rfl ?_
          try dsimp only [Nat.reduceAdd]
          -- 58 yX8_readGlass
          refine xS.cv rfl rfl rfl (hC.1 _) rfl rfl ⟨by decide, rfl, rfl⟩ (c_X8_readGlassP hC hF hca hs1 hm hf1 hm60 hlt g31 hR1) (fun v M1 hv => ?_)
          obtain ⟨o, g2, rfl, ho, rfl, hF2, hbad, hok⟩ := hv
          have hs2 : g2 c 1 = nI m := by rw [hF2 c (by omega) (by omega) (by omega)]; exact hs1
          have hf2 : g2 (c + 1) = f := by rw [hF2 (c + 1) (by omega) (by omega) (by omega)]; exact hf1
          try dsimp only [Nat.reduceAdd, Option.toList, List.cons_append, List.nil_append, List.drop]
          refine xS.s1 rfl rfl ?_
          try dsimp only [Nat.reduceAdd]
          refine xS.s1 rfl rfl ?_
          try dsimp only [Nat.reduceAdd]
          refine xS.s1 rfl rfl ?_
          try dsimp only [Nat.reduceAdd, xj_m9]
          refine xS.br (c := .eq) (off := 6) (l := 3) rfl rfl (fun h67 => ?_) (fun h67 => ?_)
          · have g67 := xt_eq h67
            refine xS.s1 rfl rfl ?_
            try dsimp only [Nat.reduceAdd]
            refine xS.s1 rfl rfl ?_
            try dsimp only [Nat.reduceAdd]
            refine xS.s1 rfl rfl ?_
            try dsimp only [Nat.reduceAdd]
            refine xS.br0 (c := .eq) (off := 7) (l := 3) rfl rfl (fun h77 => ?_) (fun h77 => ?_)
            · have g77 := xt_eq h77
              refine xS.s1 rfl rfl ?_
              try dsimp only [Nat.reduceAdd, xi_2]
              refine xS.s1 rfl rfl ?_
              try dsimp only [Nat.reduceAdd]
              rw [show (nI i1 + 2 : Int32) = nI (i1 + 2) from nI_add i1 2]
              -- 86 yX8_afterBlanks
              refine xS.callS rfl rfl rfl ⟨Nat.le_of_ble_eq_true rfl, rfl⟩ (c_X8_afterBlanksV (f := f) hF hs2 hm hf2 (by omega)) (fun v M1 hv => ?_)
              rw [hv.1, hv.2]
              clear hv M1 v
              try dsimp only [Nat.reduceAdd, Option.toList, List.cons_append, List.nil_append, List.drop]
              refine xS.s1 rfl rfl ?_
              try dsimp only [Nat.reduceAdd]
              refine xS.s1 rfl rfl ?_
              try dsimp only [Nat.reduceAdd, xi_1]
              rw [nI_1]
              refine xS.s1 rfl rfl ?_
              try dsimp only [Nat.reduceAdd]
              refine xS.pick [0, 1, 4, 5] rfl ?_
              have o0 := (xfI_none ho).mp g67
              obtain ⟨G2, T2, Lw2, tx2, hR2, hl2, hq2⟩ := hok o0
              have e2 := hq2 (60 - j)
              rw [show 60 - j + 1 = 61 - j by omega, hq1] at e2
              have z2 := xab_le (f := f) hl2
              exact ih (xab f m (i1 + 2), G2, T2, Lw2, tx2, g2) (by omega) ⟨by dsimp only; omega, z2.1, by rw [show 61 - (j + 1) = 60 - j by omega]; exact e2.symm, hR2, xFa_t hF1 hF2⟩
            · have g77 := xf_eq h77
              exact absurd rfl g77
          · have g67 := xf_eq h67
            refine xS.s1 rfl rfl ?_
            try dsimp only [Nat.reduceAdd]
            refine xS.ret rfl rfl rfl (fun _ _ => rfl) ?_
            cases o with
            | none => exact absurd rfl g67
            | some e =>
              have e1 := hbad e rfl (60 - j)
              rw [show 60 - j + 1 = 61 - j by omega, hq1] at e1
              rw [e1]
              exact ⟨g2, rfl, xFa_t hF1 hF2, rfl, fun z => by cases z⟩
        · have g43 := xf_eq h43
          exact absurd rfl g43
      · have g31 := xf_ne h31
        refine xS.s1 rfl rfl ?_
        try dsimp only [Nat.reduceAdd, xi_1]
        refine xS.s1 rfl rfl ?_
        try dsimp only [Nat.reduceAdd]
        refine xS.s1 rfl rfl ?_
        try dsimp only [Nat.reduceAdd]
        refine xS.s1 rfl rfl ?_
        try dsimp only [Nat.reduceAdd]
        refine xS.br0 (c := .eq) (off := 12) (l := 3) rfl rfl (fun h43 => ?_) (fun h43 => ?_)
        · have g43 := xt_eq h43
          exact absurd g43 (by decide)
        · have g43 := xf_eq h43
          refine xS.s1 rfl rfl ?_
          try dsimp only [Nat.reduceAdd]
          refine xS.s1 rfl rfl ?_
          try dsimp only [Nat.reduceAdd]
          refine xS.s1 rfl rfl ?_
          try dsimp only [Nat.reduceAdd]
          -- 49 yX8_readTerm
          refine xS.cv rfl rfl rfl (hC.1 _) rfl rfl ⟨by decide, rfl, rfl⟩ (c_X8_readTermP hC hF hca hs1 hm hf1 hm60 hlt g31 hR1) (fun v M1 hv => ?_)
          obtain ⟨o, g2, rfl, ho, rfl, hF2, hbad, hok⟩ := hv
          have hs2 : g2 c 1 = nI m := by rw [hF2 c (by omega) (by omega) (by omega)]; exact hs1
          have hf2 : g2 (c + 1) = f := by rw [hF2 (c + 1) (by omega) (by omega) (by omega)]; exact hf1
          try dsimp only [Nat.reduceAdd, Option.toList, List.cons_append, List.nil_append, List.drop]
          refine xS.s1 rfl rfl ?_
          try dsimp only [Nat.reduceAdd]
          refine xS.s1 rfl rfl ?_
          try dsimp only [Nat.reduceAdd]
          refine xS.s1 rfl rfl ?_
          try dsimp only [Nat.reduceAdd]
          refine xS.s1 rfl rfl ?_
          try dsimp only [Nat.reduceAdd, xj_m9]
          refine xS.br (c := .eq) (off := 6) (l := 3) rfl rfl (fun h67 => ?_) (fun h67 => ?_)
          · have g67 := xt_eq h67
            refine xS.s1 rfl rfl ?_
            try dsimp only [Nat.reduceAdd]
            refine xS.s1 rfl rfl ?_
            try dsimp only [Nat.reduceAdd]
            refine xS.s1 rfl rfl ?_
            try dsimp only [Nat.reduceAdd]
            refine xS.br0 (c := .eq) (off := 7) (l := 3) rfl rfl (fun h77 => ?_) (fun h77 => ?_)
            · have g77 := xt_eq h77
              exact absurd g77 (by decide)
            · have g77 := xf_eq h77
              refine xS.s1 rfl rfl ?_
              try dsimp only [Nat.reduceAdd, xi_3]
              refine xS.s1 rfl rfl ?_
              try dsimp only [Nat.reduceAdd]
              refine xS.s1 rfl rfl ?_
              try dsimp only [Nat.reduceAdd]
              rw [show (nI i1 + 3 : Int32) = nI (i1 + 3) from nI_add i1 3]
              -- 86 yX8_afterBlanks
              refine xS.callS rfl rfl rfl ⟨Nat.le_of_ble_eq_true rfl, rfl⟩ (c_X8_afterBlanksV (f := f) hF hs2 hm hf2 (by omega)) (fun v M1 hv => ?_)
              rw [hv.1, hv.2]
              clear hv M1 v
              try dsimp only [Nat.reduceAdd, Option.toList, List.cons_append, List.nil_append, List.drop]
              refine xS.s1 rfl rfl ?_
              try dsimp only [Nat.reduceAdd]
              refine xS.s1 rfl rfl ?_
              try dsimp only [Nat.reduceAdd, xi_1]
              rw [nI_1]
              refine xS.s1 rfl rfl ?_
              try dsimp only [Nat.reduceAdd]
              refine xS.pick [0, 1, 4, 5] rfl ?_
              have o0 := (xfI_none ho).mp g67
              obtain ⟨G2, T2, Lw2, tx2, hR2, hl2, hq2⟩ := hok o0
              have e2 := hq2 (60 - j)
              rw [show 60 - j + 1 = 61 - j by omega, hq1] at e2
              have z2 := xab_le (f := f) hl2
              exact ih (xab f m (i1 + 3), G2, T2, Lw2, tx2, g2) (by omega) ⟨by dsimp only; omega, z2.1, by rw [show 61 - (j + 1) = 60 - j by omega]; exact e2.symm, hR2, xFa_t hF1 hF2⟩
          · have g67 := xf_eq h67
            refine xS.s1 rfl rfl ?_
            try dsimp only [Nat.reduceAdd]
            refine xS.ret rfl rfl rfl (fun _ _ => rfl) ?_
            cases o with
            | none => exact absurd rfl g67
            | some e =>
              have e1 := hbad e rfl (60 - j)
              rw [show 60 - j + 1 = 61 - j by omega, hq1] at e1
              rw [e1]
              exact ⟨g2, rfl, xFa_t hF1 hF2, rfl, fun z => by cases z⟩

set_option maxRecDepth 10000 in
theorem c_X8_read (hC : xro a) (hF : xce c n) (hca : c + 1 < a ∨ a + 3 < c) (hs : g c 1 = nI m) (hm : m ≤ n) (hfv : g (c + 1) = f) (hm60 : m ≤ 60) : xT (k + 6) 65 [.ref a, .ref c] (xH b g l) (fun r M' => ∃ g', M' = xH b g' l ∧ (∀ e, e ≠ a → e ≠ a + 1 → e ≠ a + 2 → e ≠ a + 3 → g' e = g e) ∧ r = some (.int (xfI (xprs f m).1)) ∧ ((xprs f m).1 = none → xRv g' a (xprs f m).2.1 (xprs f m).2.2.1 (xprs f m).2.2.2.1 (xprs f m).2.2.2.2 ∧ ∀ s, s < 6 → g' (a + 1) s = nI (xfv (f (xab f m 0 + 1 + s))) ∧ xfv (f (xab f m 0 + 1 + s)) < 6)) := by
  have hn := hF.2.2
  have hs0 : (up (up g a 2 0) a 4 0) c 1 = nI m := by rw [up_na (by omega), up_na (by omega)]; exact hs
  have hf0 : (up (up g a 2 0) a 4 0) (c + 1) = f := by rw [up_na (by omega), up_na (by omega)]; exact hfv
  have hxb := xab_le (f := f) (n := m) (i := 0) (by omega)
  refine xT.of rfl (Nat.le_of_ble_eq_true rfl) ?_
  change xS _ _ 0 [(0, .ref a), (1, .ref c)] [] _ _
  refine xS.s1 rfl rfl ?_
  try dsimp only [Nat.reduceAdd]
  refine xS.s1 rfl rfl ?_
  try dsimp only [Nat.reduceAdd, xi_0]
  refine xS.pI rfl (hC.1 _) rfl ⟨⟨by decide, rfl⟩, rfl, by decide, by decide⟩ rfl ?_
  try dsimp only [Nat.reduceAdd]
  refine xS.s1 rfl rfl ?_
  try dsimp only [Nat.reduceAdd]
  refine xS.s1 rfl rfl ?_
  try dsimp only [Nat.reduceAdd, xi_0]
  refine xS.pI rfl (hC.1 _) rfl ⟨⟨by decide, rfl⟩, rfl, by decide, by decide⟩ rfl ?_
  try dsimp only [Nat.reduceAdd]
  refine xS.s1 rfl rfl ?_
  try dsimp only [Nat.reduceAdd]
  refine xS.s1 rfl rfl ?_
  try dsimp only [Nat.reduceAdd, xi_0]
  -- 12 yX8_afterBlanks
  refine xS.callS rfl rfl rfl ⟨Nat.le_of_ble_eq_true rfl, rfl⟩ (c_X8_afterBlanksV (f := f) (p := 0) hF hs0 hm hf0 (by omega)) (fun v M1 hv => ?_)
  rw [hv.1, hv.2]
  clear hv M1 v
  try dsimp only [Nat.reduceAdd, Option.toList, List.cons_append, List.nil_append, List.drop]
  refine xS.s1 rfl rfl ?_
  try dsimp only [Nat.reduceAdd]
  refine xS.s1 rfl rfl ?_
  try dsimp only [Nat.reduceAdd]
  refine xS.s1 rfl rfl ?_
  try dsimp only [Nat.reduceAdd]
  -- 18 yX0_size
  refine xS.cv rfl rfl rfl (hF.1 _) rfl rfl ⟨by decide, rfl, rfl⟩ (c_X0_sizeV hF hs0) (fun v M1 hv => ?_)
  rw [hv.1, hv.2]
  clear hv M1 v
  try dsimp only [Nat.reduceAdd, Option.toList, List.cons_append, List.nil_append, List.drop]
  refine xS.br (c := .ge) (off := 13) (l := 3) rfl rfl (fun h21 => ?_) (fun h21 => ?_)
  · have g21 := xt_ge h21
    have hge := xnle g21 (by omega) (by omega)
    refine xS.s1 rfl rfl ?_
    try dsimp only [Nat.reduceAdd]
    refine xS.ret rfl rfl rfl (fun _ _ => rfl) ?_
    rw [xprs_0 (fun z => absurd z.1 (by omega))]
    exact ⟨_, rfl, fun e h1 h2 h3 h4 => by rw [up_na h1, up_na h1], rfl, fun z => by cases z⟩
  · have g21 := xf_ge h21
    have hlt := xnlt g21 (by omega) (by omega)
    refine xS.s1 rfl rfl ?_
    try dsimp only [Nat.reduceAdd]
    refine xS.s1 rfl rfl ?_
    try dsimp only [Nat.reduceAdd]
    -- 26 yX0_get
    refine xS.cv rfl rfl rfl (hF.1 _) rfl rfl ⟨by decide, rfl, rfl⟩ (c_X0_getV (f := f) hF hs0 hm hf0 hlt) (fun v M1 hv => ?_)
    rw [hv.1, hv.2]
    clear hv M1 v
    try dsimp only [Nat.reduceAdd, Option.toList, List.cons_append, List.nil_append, List.drop]
    refine xS.s1 rfl rfl ?_
    try dsimp only [Nat.reduceAdd, xj_104]
    refine xS.br (c := .eq) (off := 5) (l := 3) rfl rfl (fun h31 => ?_) (fun h31 => ?_)
    · have g31 := xt_eq h31
      refine xS.s1 rfl rfl ?_
      try dsimp only [Nat.reduceAdd, xi_1]
      rw [nI_1]
      refine xS.s1 rfl rfl ?_
      try dsimp only [Nat.reduceAdd, xi_0]
      refine xS.s1 rfl rfl ?_
      try dsimp only [Nat.reduceAdd]
      refine xS.pick [0, 1, 3, 2] rfl ?_
      refine xS.loop (σ := Unit) (6) (fun j S => [(3, .int (nI j)), (2, .int (nI (xab f m 0 + 1 + j))), (1, .ref c), (0, .ref a)]) (fun j _ => xH b (gset (up (up g a 2 0) a 4 0) (a + 1) j (fun s => nI (xfv (f (xab f m 0 + 1 + s))))) l) (fun j _ => xfst (fun s => !xfgb f m (xab f m 0 + 1 + s) 6) j = none) (()) (rfl) (by rw [gset_0]) (rfl) ?_
      intro j S hj hI ih
      try dsimp only
      refine xS.s1 rfl rfl ?_
      try dsimp only [Nat.reduceAdd]
      refine xS.s1 rfl rfl ?_
      try dsimp only [Nat.reduceAdd, xj_6]
      refine xS.br (c := .ge) (off := 38) (l := 3) rfl rfl (fun h44 => ?_) (fun h44 => ?_)
      · have g44 := xt_ge h44
        have hj6 := xnle (b := 6) g44 (by omega) (by omega)
        obtain rfl : j = 6 := by omega
        have q5 := xfgb_i (f := f) (n := m) (i := xab f m 0 + 1 + 5) (q := 6) (by have := xfst_none.mp hI 5 (by decide); revert this; cases xfgb f m (xab f m 0 + 1 + 5) 6 <;> simp)
        have hl7 : xab f m 0 + 1 + 6 ≤ m := by have := q5.1; omega
        have hR7 : xRv (gset (up (up g a 2 0) a 4 0) (a + 1) 6 (fun s => nI (xfv (f (xab f m 0 + 1 + s))))) a 0 0 (fun _ => 0) (fun _ => 0) := ⟨⟨by rw [gset_na (by omega), up_ne (Or.inr (by decide)), up_same]; rfl, by decide⟩, ⟨by rw [gset_na (by omega), up_same]; rfl, by decide⟩, fun k hk => absurd hk (by omega), fun k hk => absurd hk (by omega)⟩
        refine xS.s1 rfl rfl ?_
        try dsimp only [Nat.reduceAdd]
        refine xS.s1 rfl rfl ?_
        try dsimp only [Nat.reduceAdd]
        refine xS.s1 rfl rfl ?_
        try dsimp only [Nat.reduceAdd]
        -- 85 yX8_readItems
        refine xS.cv rfl rfl rfl (hC.1 _) rfl rfl ⟨by decide, rfl, rfl⟩ (c_X8_readItems (f := f) (p := xab f m 0 + 1 + 6) (G := 0) (T := 0) (Lw := fun _ => 0) (tx := fun _ => 0) (R := xpi f m 61 (xab f m (xab f m 0 + 7)) 0 0 (fun _ => 0) (fun _ => 0)) hC hF hca (by rw [gset_na (by omega)]; exact hs0) hm (by rw [gset_na (by omega)]; exact hf0) hm60 hl7 hR7 rfl) (fun v M1 hv => ?_)
        obtain ⟨g2, rfl, hF2, rfl, hR2⟩ := hv
        try dsimp only [Nat.reduceAdd, Option.toList, List.cons_append, List.nil_append, List.drop]
        refine xS.ret rfl rfl rfl (fun _ _ => rfl) ?_
        rw [xprs_2 ⟨hlt, g31⟩ hI]
        refine ⟨g2, rfl, fun e h1 h2 h3 h4 => by rw [hF2 e h1 h3 h4, gset_na h2, up_na h1, up_na h1], rfl, fun z => ⟨hR2 z, fun s hs6 => ?_⟩⟩
        have q := xfgb_i (by have := xfst_none.mp hI s hs6; revert this; cases xfgb f m (xab f m 0 + 1 + s) 6 <;> simp)
        exact ⟨by rw [hF2 (a + 1) (by omega) (by omega) (by omega), gset_in hs6], (xfv_e (by decide) q).1⟩
      · have g44 := xf_ge h44
        have hj6 := xnlt (b := 6) g44 (by omega) (by omega)
        refine xS.s1 rfl rfl ?_
        try dsimp only [Nat.reduceAdd]
        refine xS.s1 rfl rfl ?_
        try dsimp only [Nat.reduceAdd]
        refine xS.s1 rfl rfl ?_
        try dsimp only [Nat.reduceAdd, xj_6]
        -- 51 yX8_isFigure
        refine xS.callS rfl rfl rfl ⟨Nat.le_of_ble_eq_true rfl, rfl⟩ (c_X8_isFigureV (f := f) (t := 6) hF (by rw [gset_na (by omega)]; exact hs0) hm (by rw [gset_na (by omega)]; exact hf0) (by omega) (by decide) (Classical.propDecidable _)) (fun v M1 hv => ?_)
        rw [hv.1, hv.2]
        clear hv M1 v
        try dsimp only [Nat.reduceAdd, Option.toList, List.cons_append, List.nil_append, List.drop]
        refine xS.br0 (c := .ne) (off := 5) (l := 3) rfl rfl (fun h54 => ?_) (fun h54 => ?_)
        · have g54 := xt_ne h54
          have hfg := @xif1 _ (Classical.propDecidable _) g54
          refine xS.s1 rfl rfl ?_
          try dsimp only [Nat.reduceAdd]
          refine xS.gR rfl (hC.1 _) rfl ⟨by decide, rfl⟩ rfl ?_
          try dsimp only [Nat.reduceAdd]
          refine xS.s1 rfl rfl ?_
          try dsimp only [Nat.reduceAdd]
          refine xS.s1 rfl rfl ?_
          try dsimp only [Nat.reduceAdd]
          refine xS.s1 rfl rfl ?_
          try dsimp only [Nat.reduceAdd]
          -- 66 yX0_get
          refine xS.cv rfl rfl rfl (hF.1 _) rfl rfl ⟨by decide, rfl, rfl⟩ (c_X0_getV (f := f) hF (by rw [gset_na (by omega)]; exact hs0) hm (by rw [gset_na (by omega)]; exact hf0) hfg.1) (fun v M1 hv => ?_)
          rw [hv.1, hv.2]
          clear hv M1 v
          try dsimp only [Nat.reduceAdd, Option.toList, List.cons_append, List.nil_append, List.drop]
          refine xS.s1 rfl rfl ?_
          try dsimp only [Nat.reduceAdd, xj_48]
          refine xS.s1 rfl rfl ?_
          try dsimp only [Nat.reduceAdd]
          rw [xfv_s (by decide) hfg]
          refine xS.ias rfl hC.2.1 (by omega) ?_
          try dsimp only [Nat.reduceAdd]
          refine xS.s1 rfl rfl ?_
          try dsimp only [Nat.reduceAdd, xi_1]
          rw [nI_1]
          refine xS.s1 rfl rfl ?_
          try dsimp only [Nat.reduceAdd, xi_1]
          rw [nI_1]
          refine xS.s1 rfl rfl ?_
          try dsimp only [Nat.reduceAdd]
          refine xS.pick [0, 1, 2, 3] rfl ?_
          have ih2 := ih () (by omega) (xfst_n hI (by rw [xfgb_t hfg]; rfl))
          rw [← gset_s] at ih2
          exact ih2
        · have g54 := xf_ne h54
          have hnf := @xif0 _ (Classical.propDecidable _) g54
          refine xS.s1 rfl rfl ?_
          try dsimp only [Nat.reduceAdd]
          refine xS.ret rfl rfl rfl (fun _ _ => rfl) ?_
          rw [xprs_1 ⟨hlt, g31⟩ (xfst_at hI (by rw [xfgb_f hnf]; rfl) hj6)]
          exact ⟨_, rfl, fun e h1 h2 h3 h4 => by rw [gset_na h2, up_na h1, up_na h1], rfl, fun z => by cases z⟩
    · have g31 := xf_eq h31
      refine xS.s1 rfl rfl ?_
      try dsimp only [Nat.reduceAdd]
      refine xS.ret rfl rfl rfl (fun _ _ => rfl) ?_
      rw [xprs_0 (fun z => g31 z.2)]
      exact ⟨_, rfl, fun e h1 h2 h3 h4 => by rw [up_na h1, up_na h1], rfl, fun z => by cases z⟩

end
end
section
/-! LimpMirror: fault, room -/
theorem xmis {α β : Type} {F : Nat → α → β} {fs : List α} {i : Nat} {w : α} : (fs.mapIdx F).set i (F i w) = (fs.set i w).mapIdx F := by
  apply List.ext_getElem?
  intro j
  rw [List.getElem?_set, List.getElem?_mapIdx, List.getElem?_mapIdx, List.getElem?_set, List.length_mapIdx]
  by_cases e : i = j
  · subst e
    by_cases h : i < fs.length <;> simp [h]
  · simp [e]
theorem xH_set5 {b : Nat × Nat} {g : Nat → Nat → Int32} {l : Nat → Nat → Int64} {c : Nat} : (xH b g l).set 0 (10, (([.ref 1, .ref 2, .ref 3, .ref 4, .ref 6, .ref b.1, .ref b.2, .ref 15, .ref 17, .ref 18, .ref 19, .int 0, .long 0, .long 0, .int 0, .ref 22] : List Value).mapIdx (xfi g l 0)).set 5 (.ref c)) = xH (c, b.2) g l := by
  rw [xH_eq, xH_eq]
  have e1 : (([.ref 1, .ref 2, .ref 3, .ref 4, .ref 6, .ref b.1, .ref b.2, .ref 15, .ref 17, .ref 18, .ref 19, .int 0, .long 0, .long 0, .int 0, .ref 22] : List Value).mapIdx (xfi g l 0)).set 5 (.ref c) = (([.ref 1, .ref 2, .ref 3, .ref 4, .ref 6, .ref b.1, .ref b.2, .ref 15, .ref 17, .ref 18, .ref 19, .int 0, .long 0, .long 0, .int 0, .ref 22] : List Value).set 5 (.ref c)).mapIdx (xfi g l 0) := xmis (F := xfi g l 0) (w := .ref c)
  rw [e1]
  have e2 := xmis (F := fun a (c : Nat × List Value) => (c.1, c.2.mapIdx (xfi g l a))) (fs := xsh b) (i := 0) (w := (10, ([.ref 1, .ref 2, .ref 3, .ref 4, .ref 6, .ref b.1, .ref b.2, .ref 15, .ref 17, .ref 18, .ref 19, .int 0, .long 0, .long 0, .int 0, .ref 22] : List Value).set 5 (.ref c)))
  have e3 : (xsh b).set 0 (10, ([.ref 1, .ref 2, .ref 3, .ref 4, .ref 6, .ref b.1, .ref b.2, .ref 15, .ref 17, .ref 18, .ref 19, .int 0, .long 0, .long 0, .int 0, .ref 22] : List Value).set 5 (.ref c)) = xsh (c, b.2) := rfl
  rw [e3] at e2
  exact e2
theorem xH_set6 {b : Nat × Nat} {g : Nat → Nat → Int32} {l : Nat → Nat → Int64} {c : Nat} : (xH b g l).set 0 (10, (([.ref 1, .ref 2, .ref 3, .ref 4, .ref 6, .ref b.1, .ref b.2, .ref 15, .ref 17, .ref 18, .ref 19, .int 0, .long 0, .long 0, .int 0, .ref 22] : List Value).mapIdx (xfi g l 0)).set 6 (.ref c)) = xH (b.1, c) g l := by
  rw [xH_eq, xH_eq]
  have e1 : (([.ref 1, .ref 2, .ref 3, .ref 4, .ref 6, .ref b.1, .ref b.2, .ref 15, .ref 17, .ref 18, .ref 19, .int 0, .long 0, .long 0, .int 0, .ref 22] : List Value).mapIdx (xfi g l 0)).set 6 (.ref c) = (([.ref 1, .ref 2, .ref 3, .ref 4, .ref 6, .ref b.1, .ref b.2, .ref 15, .ref 17, .ref 18, .ref 19, .int 0, .long 0, .long 0, .int 0, .ref 22] : List Value).set 6 (.ref c)).mapIdx (xfi g l 0) := xmis (F := xfi g l 0) (w := .ref c)
  rw [e1]
  have e2 := xmis (F := fun a (c : Nat × List Value) => (c.1, c.2.mapIdx (xfi g l a))) (fs := xsh b) (i := 0) (w := (10, ([.ref 1, .ref 2, .ref 3, .ref 4, .ref 6, .ref b.1, .ref b.2, .ref 15, .ref 17, .ref 18, .ref 19, .int 0, .long 0, .long 0, .int 0, .ref 22] : List Value).set 6 (.ref c)))
  have e3 : (xsh b).set 0 (10, ([.ref 1, .ref 2, .ref 3, .ref 4, .ref 6, .ref b.1, .ref b.2, .ref 15, .ref 17, .ref 18, .ref 19, .int 0, .long 0, .long 0, .int 0, .ref 22] : List Value).set 6 (.ref c)) = xsh (b.1, c) := rfl
  rw [e3] at e2
  exact e2
section
variable {q : xQ} {k pc l0 idx : Nat} {lv : xL} {rest : List Value} {P : Option Value → xM → Prop} {b : Nat × Nat} {g : Nat → Nat → Int32} {l : Nat → Nat → Int64} {c : Nat} {e : xFE}
theorem xS.pR5 (hl : xe_lkF q.1 pc = some (.putfield idx, l0)) (he : xfF q.2.1 idx = some e) (hc : ((10 : Nat) < 12 ∧ e.2.2.2.2.contains 10 = true) ∧ ((2 : Nat) = e.2.2.1 ∧ (e.2.2.2.1 = true → q.2.2.2.2 = true) ∧ e.2.2.1 < 3)) (h5 : e.2.1 = 5) (h : xS q k (pc + 3) lv rest (xH (c, b.2) g l) P) : xS q k pc lv (.ref c :: .ref 0 :: rest) (xH b g l) P := by
  refine xS.put hl (xH_get (a := 0) rfl) he ⟨hc.1, hc.2, ?_⟩ ?_
  · rw [List.length_mapIdx, h5]
    exact Nat.le_of_ble_eq_true rfl
  · rw [h5, xH_set5]
    exact h
theorem xS.pR6 (hl : xe_lkF q.1 pc = some (.putfield idx, l0)) (he : xfF q.2.1 idx = some e) (hc : ((10 : Nat) < 12 ∧ e.2.2.2.2.contains 10 = true) ∧ ((2 : Nat) = e.2.2.1 ∧ (e.2.2.2.1 = true → q.2.2.2.2 = true) ∧ e.2.2.1 < 3)) (h5 : e.2.1 = 6) (h : xS q k (pc + 3) lv rest (xH (b.1, c) g l) P) : xS q k pc lv (.ref c :: .ref 0 :: rest) (xH b g l) P := by
  refine xS.put hl (xH_get (a := 0) rfl) he ⟨hc.1, hc.2, ?_⟩ ?_
  · rw [List.length_mapIdx, h5]
    exact Nat.le_of_ble_eq_true rfl
  · rw [h5, xH_set6]
    exact h
end

section
variable {k a c n n2 m t p s d i1 j1 : Nat} {b : Nat × Nat} {g : Nat → Nat → Int32} {l : Nat → Nat → Int64} {i j x y z v w : Int32} {u w1 w2 : Int64}
variable {L G T κ δ : Nat} {Lw : Nat → Nat} {f tx : Nat → Int32} {R : xPR}
set_option maxRecDepth 10000 in
theorem c_X11_fault_bad (hx : ¬ (0 ≤ x ∧ x < 4)) : xT (k + 7) 86 [.ref 0, .int x] (xH b g l) (fun r M' => M' = xH b g l ∧ r = some (.int (-1))) := by
  refine xT.of rfl (Nat.le_of_ble_eq_true rfl) ?_
  change xS _ _ 0 [(0, .ref 0), (1, .int x)] [] _ _
  refine xS.s1 rfl rfl ?_
  try dsimp only [Nat.reduceAdd]
  -- 1 yX11_isText
  refine xS.callS rfl rfl rfl ⟨Nat.le_of_ble_eq_true rfl, rfl⟩ c_X11_isText (fun v M1 hv => ?_)
  rw [hv.1, hv.2]
  clear hv M1 v
  try dsimp only [Nat.reduceAdd, Option.toList, List.cons_append, List.nil_append, List.drop]
  refine xS.br0 (c := .ne) (off := 5) (l := 3) rfl rfl (fun h4 => ?_) (fun h4 => ?_)
  · have g4 := xt_ne h4
    exact absurd (xif1 g4) hx
  · have g4 := xf_ne h4
    refine xS.s1 rfl rfl ?_
    try dsimp only [Nat.reduceAdd, xi_m1]
    refine xS.ret rfl rfl rfl (fun _ _ => rfl) ?_
    exact ⟨rfl, rfl⟩

set_option maxRecDepth 10000 in
theorem c_X11_fault_no (ht : t < 4) (hs : g (35 + 2 * t) 1 = -1) : xT (k + 7) 86 [.ref 0, .int (nI t)] (xH b g l) (fun r M' => M' = xH b (xfC g 1) l ∧ r = some (.int (-3))) := by
  refine xT.of rfl (Nat.le_of_ble_eq_true rfl) ?_
  change xS _ _ 0 [(0, .ref 0), (1, .int (nI t))] [] _ _
  refine xS.s1 rfl rfl ?_
  try dsimp only [Nat.reduceAdd]
  -- 1 yX11_isText
  refine xS.callS rfl rfl rfl ⟨Nat.le_of_ble_eq_true rfl, rfl⟩ (c_X11_isText_in ht) (fun v M1 hv => ?_)
  rw [hv.1, hv.2]
  clear hv M1 v
  try dsimp only [Nat.reduceAdd, Option.toList, List.cons_append, List.nil_append, List.drop]
  refine xS.br0 (c := .ne) (off := 5) (l := 3) rfl rfl (fun h4 => ?_) (fun h4 => ?_)
  · have g4 := xt_ne h4
    refine xS.s1 rfl rfl ?_
    try dsimp only [Nat.reduceAdd]
    refine xS.gR rfl rfl rfl ⟨by decide, rfl⟩ rfl ?_
    try dsimp only [Nat.reduceAdd]
    refine xS.s1 rfl rfl ?_
    try dsimp only [Nat.reduceAdd]
    refine xS.aR rfl rfl (by decide) (by omega) (xsh2_get (by omega)) ?_
    try dsimp only [Nat.reduceAdd]
    -- 15 yX0_isMissing
    refine xS.cv rfl rfl rfl ((xce_text (r := t) (by omega)).1 _) rfl rfl ⟨by decide, rfl, rfl⟩ (c_X0_isMissing (xce_text (r := t) (by omega))) (fun v M1 hv => ?_)
    rw [hv.1, hv.2]
    clear hv M1 v
    try dsimp only [Nat.reduceAdd, Option.toList, List.cons_append, List.nil_append, List.drop]
    refine xS.br0 (c := .eq) (off := 9) (l := 3) rfl rfl (fun h18 => ?_) (fun h18 => ?_)
    · have g18 := xt_eq h18
      exact absurd hs (xif0 g18)
    · have g18 := xf_eq h18
      refine xS.s1 rfl rfl ?_
      try dsimp only [Nat.reduceAdd]
      refine xS.s1 rfl rfl ?_
      try dsimp only [Nat.reduceAdd, xi_1]
      -- 23 yX11_refuse
      refine xS.cv rfl rfl rfl rfl rfl rfl ⟨by decide, rfl, rfl⟩ (c_X11_refuse (t := 1) (by decide) (by decide)) (fun v M1 hv => ?_)
      rw [hv.1, hv.2]
      clear hv M1 v
      try dsimp only [Nat.reduceAdd, Option.toList, List.cons_append, List.nil_append, List.drop]
      refine xS.ret rfl rfl rfl (fun _ _ => rfl) ?_
      exact ⟨rfl, rfl⟩
  · have g4 := xf_ne h4
    exfalso; first | exact absurd g4 (by decide) | (simp (disch := omega) only [Int32.lt_iff_toInt_lt, Int32.le_iff_toInt_le, nI_toInt, Int32.reduceToInt] at g4 <;> omega)

set_option maxRecDepth 10000 in
theorem c_X11_room_bad (hx : ¬ (0 ≤ x ∧ x < 4)) : xT (k + 7) 87 [.ref 0, .int x] (xH b g l) (fun r M' => M' = xH b g l ∧ r = some (.int (-1))) := by
  refine xT.of rfl (Nat.le_of_ble_eq_true rfl) ?_
  change xS _ _ 0 [(0, .ref 0), (1, .int x)] [] _ _
  refine xS.s1 rfl rfl ?_
  try dsimp only [Nat.reduceAdd]
  -- 1 yX11_isText
  refine xS.callS rfl rfl rfl ⟨Nat.le_of_ble_eq_true rfl, rfl⟩ c_X11_isText (fun v M1 hv => ?_)
  rw [hv.1, hv.2]
  clear hv M1 v
  try dsimp only [Nat.reduceAdd, Option.toList, List.cons_append, List.nil_append, List.drop]
  refine xS.br0 (c := .ne) (off := 5) (l := 3) rfl rfl (fun h4 => ?_) (fun h4 => ?_)
  · have g4 := xt_ne h4
    exact absurd (xif1 g4) hx
  · have g4 := xf_ne h4
    refine xS.s1 rfl rfl ?_
    try dsimp only [Nat.reduceAdd, xi_m1]
    refine xS.ret rfl rfl rfl (fun _ _ => rfl) ?_
    exact ⟨rfl, rfl⟩

set_option maxRecDepth 10000 in
theorem c_X11_room_no (ht : t < 4) (hs : g (35 + 2 * t) 1 = -1) : xT (k + 7) 87 [.ref 0, .int (nI t)] (xH b g l) (fun r M' => M' = xH b (xfC g 1) l ∧ r = some (.int (-3))) := by
  refine xT.of rfl (Nat.le_of_ble_eq_true rfl) ?_
  change xS _ _ 0 [(0, .ref 0), (1, .int (nI t))] [] _ _
  refine xS.s1 rfl rfl ?_
  try dsimp only [Nat.reduceAdd]
  -- 1 yX11_isText
  refine xS.callS rfl rfl rfl ⟨Nat.le_of_ble_eq_true rfl, rfl⟩ (c_X11_isText_in ht) (fun v M1 hv => ?_)
  rw [hv.1, hv.2]
  clear hv M1 v
  try dsimp only [Nat.reduceAdd, Option.toList, List.cons_append, List.nil_append, List.drop]
  refine xS.br0 (c := .ne) (off := 5) (l := 3) rfl rfl (fun h4 => ?_) (fun h4 => ?_)
  · have g4 := xt_ne h4
    refine xS.s1 rfl rfl ?_
    try dsimp only [Nat.reduceAdd]
    refine xS.gR rfl rfl rfl ⟨by decide, rfl⟩ rfl ?_
    try dsimp only [Nat.reduceAdd]
    refine xS.s1 rfl rfl ?_
    try dsimp only [Nat.reduceAdd]
    refine xS.aR rfl rfl (by decide) (by omega) (xsh2_get (by omega)) ?_
    try dsimp only [Nat.reduceAdd]
    -- 15 yX0_isMissing
    refine xS.cv rfl rfl rfl ((xce_text (r := t) (by omega)).1 _) rfl rfl ⟨by decide, rfl, rfl⟩ (c_X0_isMissing (xce_text (r := t) (by omega))) (fun v M1 hv => ?_)
    rw [hv.1, hv.2]
    clear hv M1 v
    try dsimp only [Nat.reduceAdd, Option.toList, List.cons_append, List.nil_append, List.drop]
    refine xS.br0 (c := .eq) (off := 9) (l := 3) rfl rfl (fun h18 => ?_) (fun h18 => ?_)
    · have g18 := xt_eq h18
      exact absurd hs (xif0 g18)
    · have g18 := xf_eq h18
      refine xS.s1 rfl rfl ?_
      try dsimp only [Nat.reduceAdd]
      refine xS.s1 rfl rfl ?_
      try dsimp only [Nat.reduceAdd, xi_1]
      -- 23 yX11_refuse
      refine xS.cv rfl rfl rfl rfl rfl rfl ⟨by decide, rfl, rfl⟩ (c_X11_refuse (t := 1) (by decide) (by decide)) (fun v M1 hv => ?_)
      rw [hv.1, hv.2]
      clear hv M1 v
      try dsimp only [Nat.reduceAdd, Option.toList, List.cons_append, List.nil_append, List.drop]
      refine xS.ret rfl rfl rfl (fun _ _ => rfl) ?_
      exact ⟨rfl, rfl⟩
  · have g4 := xf_ne h4
    exfalso; first | exact absurd g4 (by decide) | (simp (disch := omega) only [Int32.lt_iff_toInt_lt, Int32.le_iff_toInt_le, nI_toInt, Int32.reduceToInt] at g4 <;> omega)

set_option maxRecDepth 10000 in
theorem c_X11_fault_ok (ht : t < 4) (hs : g (35 + 2 * t) 1 = nI m) (hm : m ≤ 60) (hfv : g (35 + 2 * t + 1) = f) (hd : xro b.2) (hb2 : b.2 ≤ 11) : xT (k + 7) 86 [.ref 0, .int (nI t)] (xH b g l) (fun r M' => ∃ g', M' = xH b g' l ∧ (∀ e, e ≠ b.2 → e ≠ b.2 + 1 → e ≠ b.2 + 2 → e ≠ b.2 + 3 → g' e = g e) ∧ r = some (.int (xfI (xprs f m).1))) := by
  refine xT.of rfl (Nat.le_of_ble_eq_true rfl) ?_
  change xS _ _ 0 [(0, .ref 0), (1, .int (nI t))] [] _ _
  refine xS.s1 rfl rfl ?_
  try dsimp only [Nat.reduceAdd]
  -- 1 yX11_isText
  refine xS.callS rfl rfl rfl ⟨Nat.le_of_ble_eq_true rfl, rfl⟩ (c_X11_isText_in ht) (fun v M1 hv => ?_)
  rw [hv.1, hv.2]
  clear hv M1 v
  try dsimp only [Nat.reduceAdd, Option.toList, List.cons_append, List.nil_append, List.drop]
  refine xS.br0 (c := .ne) (off := 5) (l := 3) rfl rfl (fun h4 => ?_) (fun h4 => ?_)
  · have g4 := xt_ne h4
    refine xS.s1 rfl rfl ?_
    try dsimp only [Nat.reduceAdd]
    refine xS.gR rfl rfl rfl ⟨by decide, rfl⟩ rfl ?_
    try dsimp only [Nat.reduceAdd]
    refine xS.s1 rfl rfl ?_
    try dsimp only [Nat.reduceAdd]
    refine xS.aR rfl rfl (by decide) (by omega) (xsh2_get (by omega)) ?_
    try dsimp only [Nat.reduceAdd]
    -- 15 yX0_isMissing
    refine xS.cv rfl rfl rfl ((xce_text (r := t) (by omega)).1 _) rfl rfl ⟨by decide, rfl, rfl⟩ (c_X0_isMissing (xce_text (r := t) (by omega))) (fun v M1 hv => ?_)
    rw [hv.1, hv.2]
    clear hv M1 v
    try dsimp only [Nat.reduceAdd, Option.toList, List.cons_append, List.nil_append, List.drop]
    refine xS.br0 (c := .eq) (off := 9) (l := 3) rfl rfl (fun h18 => ?_) (fun h18 => ?_)
    · have g18 := xt_eq h18
      refine xS.s1 rfl rfl ?_
      try dsimp only [Nat.reduceAdd]
      refine xS.gR rfl rfl rfl ⟨by decide, rfl⟩ rfl ?_
      try dsimp only [Nat.reduceAdd]
      refine xS.s1 rfl rfl ?_
      try dsimp only [Nat.reduceAdd]
      refine xS.gR rfl rfl rfl ⟨by decide, rfl⟩ rfl ?_
      try dsimp only [Nat.reduceAdd]
      refine xS.s1 rfl rfl ?_
      try dsimp only [Nat.reduceAdd]
      refine xS.aR rfl rfl (by decide) (by omega) (xsh2_get (by omega)) ?_
      try dsimp only [Nat.reduceAdd]
      -- 37 yX8_read
      refine xS.cv rfl rfl rfl (hd.1 _) rfl rfl ⟨by decide, rfl, rfl⟩ (c_X8_read hd (xce_text ht) (Or.inr (by omega)) hs hm hfv hm) (fun v M1 hv => ?_)
      obtain ⟨g2, rfl, hF2, rfl, hR2⟩ := hv
      try dsimp only [Nat.reduceAdd, Option.toList, List.cons_append, List.nil_append, List.drop]
      refine xS.ret rfl rfl rfl (fun _ _ => rfl) ?_
      exact ⟨g2, rfl, hF2, rfl⟩
    · have g18 := xf_eq h18
      exact absurd (by rw [← hs]; exact xif1 g18) (nI_nm1 (m := m) (by omega))
  · have g4 := xf_ne h4
    exfalso; first | exact absurd g4 (by decide) | (simp (disch := omega) only [Int32.lt_iff_toInt_lt, Int32.le_iff_toInt_le, nI_toInt, Int32.reduceToInt] at g4 <;> omega)

set_option maxRecDepth 10000 in
theorem c_X11_room_st (ht : t < 4) (hs : g (35 + 2 * t) 1 = nI m) (hm : m ≤ 60) (hfv : g (35 + 2 * t + 1) = f) (hd : xro b.2) (hb2 : b.2 ≤ 11) (hR : (xprs f m).1 ≠ none) (hdb : ∀ d, (xprs f m).1 = some d → d < 2 ^ 31) : xT (k + 7) 87 [.ref 0, .int (nI t)] (xH b g l) (fun r M' => ∃ g', M' = xH b g' l ∧ (∀ e, e ≠ b.2 → e ≠ b.2 + 1 → e ≠ b.2 + 2 → e ≠ b.2 + 3 → g' e = g e) ∧ r = some (.int (-4))) := by
  refine xT.of rfl (Nat.le_of_ble_eq_true rfl) ?_
  change xS _ _ 0 [(0, .ref 0), (1, .int (nI t))] [] _ _
  refine xS.s1 rfl rfl ?_
  try dsimp only [Nat.reduceAdd]
  -- 1 yX11_isText
  refine xS.callS rfl rfl rfl ⟨Nat.le_of_ble_eq_true rfl, rfl⟩ (c_X11_isText_in ht) (fun v M1 hv => ?_)
  rw [hv.1, hv.2]
  clear hv M1 v
  try dsimp only [Nat.reduceAdd, Option.toList, List.cons_append, List.nil_append, List.drop]
  refine xS.br0 (c := .ne) (off := 5) (l := 3) rfl rfl (fun h4 => ?_) (fun h4 => ?_)
  · have g4 := xt_ne h4
    refine xS.s1 rfl rfl ?_
    try dsimp only [Nat.reduceAdd]
    refine xS.gR rfl rfl rfl ⟨by decide, rfl⟩ rfl ?_
    try dsimp only [Nat.reduceAdd]
    refine xS.s1 rfl rfl ?_
    try dsimp only [Nat.reduceAdd]
    refine xS.aR rfl rfl (by decide) (by omega) (xsh2_get (by omega)) ?_
    try dsimp only [Nat.reduceAdd]
    -- 15 yX0_isMissing
    refine xS.cv rfl rfl rfl ((xce_text (r := t) (by omega)).1 _) rfl rfl ⟨by decide, rfl, rfl⟩ (c_X0_isMissing (xce_text (r := t) (by omega))) (fun v M1 hv => ?_)
    rw [hv.1, hv.2]
    clear hv M1 v
    try dsimp only [Nat.reduceAdd, Option.toList, List.cons_append, List.nil_append, List.drop]
    refine xS.br0 (c := .eq) (off := 9) (l := 3) rfl rfl (fun h18 => ?_) (fun h18 => ?_)
    · have g18 := xt_eq h18
      refine xS.s1 rfl rfl ?_
      try dsimp only [Nat.reduceAdd]
      refine xS.gR rfl rfl rfl ⟨by decide, rfl⟩ rfl ?_
      try dsimp only [Nat.reduceAdd]
      refine xS.s1 rfl rfl ?_
      try dsimp only [Nat.reduceAdd]
      refine xS.gR rfl rfl rfl ⟨by decide, rfl⟩ rfl ?_
      try dsimp only [Nat.reduceAdd]
      refine xS.s1 rfl rfl ?_
      try dsimp only [Nat.reduceAdd]
      refine xS.aR rfl rfl (by decide) (by omega) (xsh2_get (by omega)) ?_
      try dsimp only [Nat.reduceAdd]
      -- 37 yX8_read
      refine xS.cv rfl rfl rfl (hd.1 _) rfl rfl ⟨by decide, rfl, rfl⟩ (c_X8_read hd (xce_text ht) (Or.inr (by omega)) hs hm hfv hm) (fun v M1 hv => ?_)
      obtain ⟨g2, rfl, hF2, rfl, hR2⟩ := hv
      try dsimp only [Nat.reduceAdd, Option.toList, List.cons_append, List.nil_append, List.drop]
      refine xS.s1 rfl rfl ?_
      try dsimp only [Nat.reduceAdd, xj_m9]
      refine xS.br (c := .eq) (off := 6) (l := 3) rfl rfl (fun h42 => ?_) (fun h42 => ?_)
      · have g42 := xt_eq h42
        exact absurd ((xfI_none hdb).mp g42) hR
      · have g42 := xf_eq h42
        refine xS.s1 rfl rfl ?_
        try dsimp only [Nat.reduceAdd, xj_m4]
        refine xS.ret rfl rfl rfl (fun _ _ => rfl) ?_
        exact ⟨g2, rfl, hF2, rfl⟩
    · have g18 := xf_eq h18
      exact absurd (by rw [← hs]; exact xif1 g18) (nI_nm1 (m := m) (by omega))
  · have g4 := xf_ne h4
    exfalso; first | exact absurd g4 (by decide) | (simp (disch := omega) only [Int32.lt_iff_toInt_lt, Int32.le_iff_toInt_le, nI_toInt, Int32.reduceToInt] at g4 <;> omega)

set_option maxRecDepth 10000 in
theorem c_X11_room_ok (ht : t < 4) (hs : g (35 + 2 * t) 1 = nI m) (hm : m ≤ 60) (hfv : g (35 + 2 * t + 1) = f) (hd : xro b.2) (hb2 : b.2 ≤ 11) (hR : (xprs f m).1 = none) (hde : g 4 1 = nI p) (hp40 : p ≤ 40) (hb21 : 5 < b.2) : xT (k + 7) 87 [.ref 0, .int (nI t)] (xH b g l) (fun r M' => ∃ g', M' = xH (b.2, b.1) (up (up (up (up g' 4 1 (nI 0)) (67 + 2 * 0) 1 (-1)) (67 + 2 * 1) 1 (-1)) (67 + 2 * 2) 1 (-1)) l ∧ (∀ e, e ≠ b.2 → e ≠ b.2 + 1 → e ≠ b.2 + 2 → e ≠ b.2 + 3 → g' e = g e) ∧ r = some (.int (nI (xprs f m).2.1)) ∧ xRv g' b.2 (xprs f m).2.1 (xprs f m).2.2.1 (xprs f m).2.2.2.1 (xprs f m).2.2.2.2 ∧ ∀ s, s < 6 → g' (b.2 + 1) s = nI (xfv (f (xab f m 0 + 1 + s))) ∧ xfv (f (xab f m 0 + 1 + s)) < 6) := by
  refine xT.of rfl (Nat.le_of_ble_eq_true rfl) ?_
  change xS _ _ 0 [(0, .ref 0), (1, .int (nI t))] [] _ _
  refine xS.s1 rfl rfl ?_
  try dsimp only [Nat.reduceAdd]
  -- 1 yX11_isText
  refine xS.callS rfl rfl rfl ⟨Nat.le_of_ble_eq_true rfl, rfl⟩ (c_X11_isText_in ht) (fun v M1 hv => ?_)
  rw [hv.1, hv.2]
  clear hv M1 v
  try dsimp only [Nat.reduceAdd, Option.toList, List.cons_append, List.nil_append, List.drop]
  refine xS.br0 (c := .ne) (off := 5) (l := 3) rfl rfl (fun h4 => ?_) (fun h4 => ?_)
  · have g4 := xt_ne h4
    refine xS.s1 rfl rfl ?_
    try dsimp only [Nat.reduceAdd]
    refine xS.gR rfl rfl rfl ⟨by decide, rfl⟩ rfl ?_
    try dsimp only [Nat.reduceAdd]
    refine xS.s1 rfl rfl ?_
    try dsimp only [Nat.reduceAdd]
    refine xS.aR rfl rfl (by decide) (by omega) (xsh2_get (by omega)) ?_
    try dsimp only [Nat.reduceAdd]
    -- 15 yX0_isMissing
    refine xS.cv rfl rfl rfl ((xce_text (r := t) (by omega)).1 _) rfl rfl ⟨by decide, rfl, rfl⟩ (c_X0_isMissing (xce_text (r := t) (by omega))) (fun v M1 hv => ?_)
    rw [hv.1, hv.2]
    clear hv M1 v
    try dsimp only [Nat.reduceAdd, Option.toList, List.cons_append, List.nil_append, List.drop]
    refine xS.br0 (c := .eq) (off := 9) (l := 3) rfl rfl (fun h18 => ?_) (fun h18 => ?_)
    · have g18 := xt_eq h18
      refine xS.s1 rfl rfl ?_
      try dsimp only [Nat.reduceAdd]
      refine xS.gR rfl rfl rfl ⟨by decide, rfl⟩ rfl ?_
      try dsimp only [Nat.reduceAdd]
      refine xS.s1 rfl rfl ?_
      try dsimp only [Nat.reduceAdd]
      refine xS.gR rfl rfl rfl ⟨by decide, rfl⟩ rfl ?_
      try dsimp only [Nat.reduceAdd]
      refine xS.s1 rfl rfl ?_
      try dsimp only [Nat.reduceAdd]
      refine xS.aR rfl rfl (by decide) (by omega) (xsh2_get (by omega)) ?_
      try dsimp only [Nat.reduceAdd]
      -- 37 yX8_read
      refine xS.cv rfl rfl rfl (hd.1 _) rfl rfl ⟨by decide, rfl, rfl⟩ (c_X8_read hd (xce_text ht) (Or.inr (by omega)) hs hm hfv hm) (fun v M1 hv => ?_)
      obtain ⟨g2, rfl, hF2, rfl, hR2⟩ := hv
      obtain ⟨hRv, hHv⟩ := hR2 hR
      try dsimp only [Nat.reduceAdd, Option.toList, List.cons_append, List.nil_append, List.drop]
      refine xS.s1 rfl rfl ?_
      try dsimp only [Nat.reduceAdd, xj_m9]
      refine xS.br (c := .eq) (off := 6) (l := 3) rfl rfl (fun h42 => ?_) (fun h42 => ?_)
      · have g42 := xt_eq h42
        refine xS.s1 rfl rfl ?_
        try dsimp only [Nat.reduceAdd]
        refine xS.gR rfl rfl rfl ⟨by decide, rfl⟩ rfl ?_
        try dsimp only [Nat.reduceAdd]
        refine xS.s1 rfl rfl ?_
        try dsimp only [Nat.reduceAdd]
        refine xS.s1 rfl rfl ?_
        try dsimp only [Nat.reduceAdd]
        refine xS.s1 rfl rfl ?_
        try dsimp only [Nat.reduceAdd]
        refine xS.gR rfl rfl rfl ⟨by decide, rfl⟩ rfl ?_
        try dsimp only [Nat.reduceAdd]
        refine xS.pR5 rfl rfl ⟨⟨by decide, rfl⟩, rfl, by decide, by decide⟩ rfl ?_
        try dsimp only [Nat.reduceAdd]
        refine xS.s1 rfl rfl ?_
        try dsimp only [Nat.reduceAdd]
        refine xS.s1 rfl rfl ?_
        try dsimp only [Nat.reduceAdd]
        refine xS.pR6 rfl rfl ⟨⟨by decide, rfl⟩, rfl, by decide, by decide⟩ rfl ?_
        try dsimp only [Nat.reduceAdd]
        refine xS.s1 rfl rfl ?_
        try dsimp only [Nat.reduceAdd]
        refine xS.gR rfl rfl rfl ⟨by decide, rfl⟩ rfl ?_
        try dsimp only [Nat.reduceAdd]
        refine xS.s1 rfl rfl ?_
        try dsimp only [Nat.reduceAdd, xi_0]
        -- 71 yX2_cutTo
        refine xS.cv rfl rfl rfl (xde_deeds.1 _) rfl rfl ⟨by decide, rfl, rfl⟩ (c_X2_cutTo (t := 0) (m := p) xde_deeds (by rw [hF2 4 (by omega) (by omega) (by omega) (by omega)]; exact hde) hp40 (by omega)) (fun v M1 hv => ?_)
        rw [hv.1, hv.2]
        clear hv M1 v
        try dsimp only [Nat.reduceAdd, Option.toList, List.cons_append, List.nil_append, List.drop]
        refine xS.s1 rfl rfl ?_
        try dsimp only [Nat.reduceAdd, xi_0]
        refine xS.s1 rfl rfl ?_
        try dsimp only [Nat.reduceAdd]
        refine xS.s1 rfl rfl ?_
        try dsimp only [Nat.reduceAdd]
        refine xS.s1 rfl rfl ?_
        try dsimp only [Nat.reduceAdd, xi_3]
        refine xS.br (c := .ge) (off := 18) (l := 3) rfl rfl (fun h78 => ?_) (fun h78 => ?_)
        · have g78 := xt_ge h78
          exfalso; first | exact absurd g78 (by decide) | (simp (disch := omega) only [Int32.lt_iff_toInt_lt, Int32.le_iff_toInt_le, nI_toInt, Int32.reduceToInt] at g78 <;> omega)
        · have g78 := xf_ge h78
          refine xS.s1 rfl rfl ?_
          try dsimp only [Nat.reduceAdd]
          refine xS.gR rfl rfl rfl ⟨by decide, rfl⟩ rfl ?_
          try dsimp only [Nat.reduceAdd]
          refine xS.s1 rfl rfl ?_
          try dsimp only [Nat.reduceAdd]
          refine xS.aR (t := 0) rfl rfl (by decide) (by omega) (xsh6_get (by omega)) ?_
          try dsimp only [Nat.reduceAdd]
          -- 87 yX2_drop
          refine xS.cv rfl rfl rfl ((xde_kept (r := 0) (by omega)).1 _) rfl rfl ⟨by decide, rfl, rfl⟩ (c_X2_drop (xde_kept (r := 0) (by omega))) (fun v M1 hv => ?_)
          rw [hv.1, hv.2]
          clear hv M1 v
          try dsimp only [Nat.reduceAdd, Option.toList, List.cons_append, List.nil_append, List.drop]
          refine xS.s1 rfl rfl ?_
          try dsimp only [Nat.reduceAdd, xi_1]
          refine xS.s1 rfl rfl ?_
          try dsimp only [Nat.reduceAdd]
          rw [show (0 + 1 : Int32) = 1 from rfl]
          refine xS.s1 rfl rfl ?_
          try dsimp only [Nat.reduceAdd]
          refine xS.s1 rfl rfl ?_
          try dsimp only [Nat.reduceAdd, xi_3]
          refine xS.br (c := .ge) (off := 18) (l := 3) rfl rfl (fun h78 => ?_) (fun h78 => ?_)
          · have g78 := xt_ge h78
            exfalso; first | exact absurd g78 (by decide) | (simp (disch := omega) only [Int32.lt_iff_toInt_lt, Int32.le_iff_toInt_le, nI_toInt, Int32.reduceToInt] at g78 <;> omega)
          · have g78 := xf_ge h78
            refine xS.s1 rfl rfl ?_
            try dsimp only [Nat.reduceAdd]
            refine xS.gR rfl rfl rfl ⟨by decide, rfl⟩ rfl ?_
            try dsimp only [Nat.reduceAdd]
            refine xS.s1 rfl rfl ?_
            try dsimp only [Nat.reduceAdd]
            refine xS.aR (t := 1) rfl rfl (by decide) (by omega) (xsh6_get (by omega)) ?_
            try dsimp only [Nat.reduceAdd]
            -- 87 yX2_drop
            refine xS.cv rfl rfl rfl ((xde_kept (r := 1) (by omega)).1 _) rfl rfl ⟨by decide, rfl, rfl⟩ (c_X2_drop (xde_kept (r := 1) (by omega))) (fun v M1 hv => ?_)
            rw [hv.1, hv.2]
            clear hv M1 v
            try dsimp only [Nat.reduceAdd, Option.toList, List.cons_append, List.nil_append, List.drop]
            refine xS.s1 rfl rfl ?_
            try dsimp only [Nat.reduceAdd, xi_1]
            refine xS.s1 rfl rfl ?_
            try dsimp only [Nat.reduceAdd]
            rw [show (1 + 1 : Int32) = 2 from rfl]
            refine xS.s1 rfl rfl ?_
            try dsimp only [Nat.reduceAdd]
            refine xS.s1 rfl rfl ?_
            try dsimp only [Nat.reduceAdd, xi_3]
            refine xS.br (c := .ge) (off := 18) (l := 3) rfl rfl (fun h78 => ?_) (fun h78 => ?_)
            · have g78 := xt_ge h78
              exfalso; first | exact absurd g78 (by decide) | (simp (disch := omega) only [Int32.lt_iff_toInt_lt, Int32.le_iff_toInt_le, nI_toInt, Int32.reduceToInt] at g78 <;> omega)
            · have g78 := xf_ge h78
              refine xS.s1 rfl rfl ?_
              try dsimp only [Nat.reduceAdd]
              refine xS.gR rfl rfl rfl ⟨by decide, rfl⟩ rfl ?_
              try dsimp only [Nat.reduceAdd]
              refine xS.s1 rfl rfl ?_
              try dsimp only [Nat.reduceAdd]
              refine xS.aR (t := 2) rfl rfl (by decide) (by omega) (xsh6_get (by omega)) ?_
              try dsimp only [Nat.reduceAdd]
              -- 87 yX2_drop
              refine xS.cv rfl rfl rfl ((xde_kept (r := 2) (by omega)).1 _) rfl rfl ⟨by decide, rfl, rfl⟩ (c_X2_drop (xde_kept (r := 2) (by omega))) (fun v M1 hv => ?_)
              rw [hv.1, hv.2]
              clear hv M1 v
              try dsimp only [Nat.reduceAdd, Option.toList, List.cons_append, List.nil_append, List.drop]
              refine xS.s1 rfl rfl ?_
              try dsimp only [Nat.reduceAdd, xi_1]
              refine xS.s1 rfl rfl ?_
              try dsimp only [Nat.reduceAdd]
              rw [show (2 + 1 : Int32) = 3 from rfl]
              refine xS.s1 rfl rfl ?_
              try dsimp only [Nat.reduceAdd]
              refine xS.s1 rfl rfl ?_
              try dsimp only [Nat.reduceAdd, xi_3]
              refine xS.br (c := .ge) (off := 18) (l := 3) rfl rfl (fun h78 => ?_) (fun h78 => ?_)
              · have g78 := xt_ge h78
                refine xS.s1 rfl rfl ?_
                try dsimp only [Nat.reduceAdd]
                refine xS.gR rfl rfl rfl ⟨by decide, rfl⟩ rfl ?_
                try dsimp only [Nat.reduceAdd]
                -- 100 yX8_glasses
                refine xS.cv rfl rfl rfl (hd.1 _) rfl rfl ⟨by decide, rfl, rfl⟩ (c_X8_glasses hd) (fun v M1 hv => ?_)
                rw [hv.1, hv.2, up_na (by omega), up_na (by omega), up_na (by omega), up_na (by omega), hRv.1.1]
                clear hv M1 v
                try dsimp only [Nat.reduceAdd, Option.toList, List.cons_append, List.nil_append, List.drop]
                refine xS.ret rfl rfl rfl (fun _ _ => rfl) ?_
                exact ⟨g2, rfl, hF2, rfl, hRv, hHv⟩
              · have g78 := xf_ge h78
                exfalso; first | exact absurd g78 (by decide) | (simp (disch := omega) only [Int32.lt_iff_toInt_lt, Int32.le_iff_toInt_le, nI_toInt, Int32.reduceToInt] at g78 <;> omega)
      · have g42 := xf_eq h42
        exact absurd (by rw [hR]; rfl) g42
    · have g18 := xf_eq h18
      exact absurd (by rw [← hs]; exact xif1 g18) (nI_nm1 (m := m) (by omega))
  · have g4 := xf_ne h4
    exfalso; first | exact absurd g4 (by decide) | (simp (disch := omega) only [Int32.lt_iff_toInt_lt, Int32.le_iff_toInt_le, nI_toInt, Int32.reduceToInt] at g4 <;> omega)

end
end
