/-! LimpMirror$Chains: heirOf, shownAtHead -/
def xhei (κ δ n p : Nat) : Option Nat := (xfst (fun u => decide (xsrc κ δ (p + 1 + u) = some p)) (n - (p + 1))).map (fun u => p + 1 + u)

section
variable {k a c n n2 m t p s d i1 j1 : Nat} {b : Nat × Nat} {g : Nat → Nat → Int32} {l : Nat → Nat → Int64} {i j x y z v w : Int32} {u w1 w2 : Int64}
variable {L G T : Nat} {Lw : Nat → Nat}
set_option maxRecDepth 10000 in
theorem c_X1_heirOf (hp : xpn g) (hL : L < 24) (hn : n ≤ 5) (hpn : p < n) : xT (k + 4) 18 [.ref (43 + L), .int (nI p), .int (nI n)] (xH b g l) (fun r M' => M' = xH b g l ∧ r = some (.int (xoI (xhei (L / 4) (L % 4) n p)))) := by
  refine xT.of rfl (Nat.le_of_ble_eq_true rfl) ?_
  change xS _ _ 0 [(0, .ref (43 + L)), (1, .int (nI p)), (2, .int (nI n))] [] _ _
  refine xS.s1 rfl rfl ?_
  try dsimp only [Nat.reduceAdd]
  refine xS.s1 rfl rfl ?_
  try dsimp only [Nat.reduceAdd, xi_1]
  refine xS.s1 rfl rfl ?_
  try dsimp only [Nat.reduceAdd]
  rw [nI_1]
  refine xS.s1 rfl rfl ?_
  try dsimp only [Nat.reduceAdd]
  refine xS.pick [0, 1, 2, 3] rfl ?_
  refine xS.loop (σ := Unit) (n - (p + 1)) (fun j S => [(3, .int (nI (p + 1 + j))), (0, .ref (43 + L)), (1, .int (nI p)), (2, .int (nI n))]) (fun _ _ => xH b g l) (fun j _ => xfst (fun u => decide (xsrc (L / 4) (L % 4) (p + 1 + u) = some p)) j = none) (()) (rfl) (rfl) (rfl) ?_
  intro j S hj hI ih
  try dsimp only
  refine xS.s1 rfl rfl ?_
  try dsimp only [Nat.reduceAdd]
  refine xS.s1 rfl rfl ?_
  try dsimp only [Nat.reduceAdd]
  refine xS.br (c := .ge) (off := 25) (l := 3) rfl rfl (fun h6 => ?_) (fun h6 => ?_)
  · have g6 := xt_ge h6
    refine xS.s1 rfl rfl ?_
    try dsimp only [Nat.reduceAdd, xi_m1]
    refine xS.ret rfl rfl rfl (fun _ _ => rfl) ?_
    have e := xnle g6 (by omega) (by omega)
    refine ⟨rfl, ?_⟩
    unfold xhei
    rw [show n - (p + 1) = j by omega, hI]
    rfl
  · have g6 := xf_ge h6
    have hlt := xnlt g6 (by omega) (by omega)
    refine xS.s1 rfl rfl ?_
    try dsimp only [Nat.reduceAdd]
    refine xS.s1 rfl rfl ?_
    try dsimp only [Nat.reduceAdd, xi_5]
    refine xS.br (c := .ge) (off := 20) (l := 3) rfl rfl (fun h11 => ?_) (fun h11 => ?_)
    · have g11 := xt_ge h11
      exfalso; have := (nI_leI (a := 5) (b := p + 1 + j) (by omega) (by omega)).mp g11; omega
    · have g11 := xf_ge h11
      refine xS.s1 rfl rfl ?_
      try dsimp only [Nat.reduceAdd]
      refine xS.s1 rfl rfl ?_
      try dsimp only [Nat.reduceAdd]
      refine xS.cSrc rfl rfl hp hL (by omega) rfl ?_
      try dsimp only [Nat.reduceAdd]
      refine xS.s1 rfl rfl ?_
      try dsimp only [Nat.reduceAdd]
      refine xS.br (c := .ne) (off := 5) (l := 3) rfl rfl (fun h20 => ?_) (fun h20 => ?_)
      · have g20 := xt_ne h20
        refine xS.s1 rfl rfl ?_
        try dsimp only [Nat.reduceAdd, xi_1]
        rw [nI_1]
        refine xS.s1 rfl rfl ?_
        try dsimp only [Nat.reduceAdd]
        refine xS.pick [0, 1, 2, 3] rfl ?_
        exact ih () (by omega) (xfst_n hI (decide_eq_false ((not_congr (xoI_eq (xsrc_31 (by omega)) (by omega))).mp g20)))
      · have g20 := xf_ne h20
        refine xS.s1 rfl rfl ?_
        try dsimp only [Nat.reduceAdd]
        refine xS.ret rfl rfl rfl (fun _ _ => rfl) ?_
        have q20 := (xoI_eq (xsrc_31 (by omega)) (by omega)).mp g20
        refine ⟨rfl, ?_⟩
        unfold xhei
        rw [xfst_at hI (decide_eq_true q20) (by omega)]
        rfl

set_option maxRecDepth 10000 in
theorem c_X1_shownAtHead (hC : xro a) (hp : xpn g) (hL : L < 24) (ht : t < 2 ^ 30) (hs6 : s < 6) : xT (k + 4) 20 [.ref a, .ref (43 + L), .int (nI t), .int (nI s)] (xH b g l) (fun r M' => M' = xH b g l ∧ r = some (.int (if xsrc (L / 4) (L % 4) t = none then 0 else xseen (g (a + 1)) (L / 4) t s))) := by
  refine xT.of rfl (Nat.le_of_ble_eq_true rfl) ?_
  change xS _ _ 0 [(0, .ref a), (1, .ref (43 + L)), (2, .int (nI t)), (3, .int (nI s))] [] _ _
  refine xS.s1 rfl rfl ?_
  try dsimp only [Nat.reduceAdd]
  refine xS.s1 rfl rfl ?_
  try dsimp only [Nat.reduceAdd]
  refine xS.cSrc rfl rfl hp hL (by omega) rfl ?_
  try dsimp only [Nat.reduceAdd]
  refine xS.s1 rfl rfl ?_
  try dsimp only [Nat.reduceAdd, xi_m1]
  refine xS.br (c := .ne) (off := 7) (l := 3) rfl rfl (fun h6 => ?_) (fun h6 => ?_)
  · have g6 := xt_ne h6
    refine xS.s1 rfl rfl ?_
    try dsimp only [Nat.reduceAdd]
    refine xS.s1 rfl rfl ?_
    try dsimp only [Nat.reduceAdd]
    refine xS.s1 rfl rfl ?_
    try dsimp only [Nat.reduceAdd]
    refine xS.s1 rfl rfl ?_
    try dsimp only [Nat.reduceAdd]
    -- 17 yX8_seen
    refine xS.cv rfl rfl rfl (hC.1 _) rfl rfl ⟨by decide, rfl, rfl⟩ (c_X8_seen hC hL ht hs6) (fun v M1 hv => ?_)
    rw [hv.1, hv.2]
    clear hv M1 v
    try dsimp only [Nat.reduceAdd, Option.toList, List.cons_append, List.nil_append, List.drop]
    refine xS.ret rfl rfl rfl (fun _ _ => rfl) ?_
    rw [if_neg ((not_congr (xoI_m1 (xsrc_31 ht))).mp g6)]
    exact ⟨rfl, rfl⟩
  · have g6 := xf_ne h6
    refine xS.s1 rfl rfl ?_
    try dsimp only [Nat.reduceAdd, xi_0]
    refine xS.s1 rfl rfl ?_
    try dsimp only [Nat.reduceAdd]
    refine xS.ret rfl rfl rfl (fun _ _ => rfl) ?_
    rw [if_pos ((xoI_m1 (xsrc_31 ht)).mp g6)]
    exact ⟨rfl, rfl⟩

end
