/-! LimpMirror$Chains: the small methods -/
def xhd (κ δ p : Nat) : Bool := match xsrc κ δ p with
  | none => true
  | some s => decide (s = p)
theorem xoI_m1 {o : Option Nat} (h : ∀ s, o = some s → s < 2 ^ 31) : xoI o = -1 ↔ o = none := by
  cases o with
  | none => exact ⟨fun _ => rfl, fun _ => rfl⟩
  | some s => exact ⟨fun z => absurd z (nI_nm1 (h s rfl)), fun z => by cases z⟩
theorem xsrc_31 {κ δ p : Nat} (hp : p < 2 ^ 30) : ∀ s, xsrc κ δ p = some s → s < 2 ^ 31 := fun s e => by
  have := xsrc_le e
  omega
theorem xoI_eq {o : Option Nat} {p : Nat} (h : ∀ s, o = some s → s < 2 ^ 31) (hp : p < 2 ^ 31) : xoI o = nI p ↔ o = some p := by
  cases o with
  | none => exact ⟨fun z => absurd z.symm (nI_nm1 hp), fun z => by cases z⟩
  | some s => exact ⟨fun z => by rw [(nI_eq (h s rfl) hp).mp z], fun z => by cases z; rfl⟩

section
variable {k a c n n2 m t p s d i1 j1 : Nat} {b : Nat × Nat} {g : Nat → Nat → Int32} {l : Nat → Nat → Int64} {i j x y z v w : Int32} {u w1 w2 : Int64}
variable {L G T : Nat} {Lw : Nat → Nat}
set_option maxRecDepth 10000 in
theorem c_X1_rows  : xT (k + 1) 13 [.ref 19] (xH b g l) (fun r M' => M' = xH b g l ∧ r = some (.int (g 19 2))) := by
  refine xT.of rfl (Nat.le_of_ble_eq_true rfl) ?_
  change xS _ _ 0 [(0, .ref 19)] [] _ _
  refine xS.s1 rfl rfl ?_
  try dsimp only [Nat.reduceAdd]
  refine xS.gI rfl rfl rfl ⟨by decide, rfl⟩ rfl ?_
  try dsimp only [Nat.reduceAdd]
  refine xS.ret rfl rfl rfl (fun _ _ => rfl) ?_
  exact ⟨rfl, rfl⟩

set_option maxRecDepth 10000 in
theorem c_X1_fewestStill  : xT (k + 1) 14 [.ref 19] (xH b g l) (fun r M' => M' = xH b g l ∧ r = some (.int (g 19 3))) := by
  refine xT.of rfl (Nat.le_of_ble_eq_true rfl) ?_
  change xS _ _ 0 [(0, .ref 19)] [] _ _
  refine xS.s1 rfl rfl ?_
  try dsimp only [Nat.reduceAdd]
  refine xS.gI rfl rfl rfl ⟨by decide, rfl⟩ rfl ?_
  try dsimp only [Nat.reduceAdd]
  refine xS.ret rfl rfl rfl (fun _ _ => rfl) ?_
  exact ⟨rfl, rfl⟩

set_option maxRecDepth 10000 in
theorem c_X1_firstSteps  : xT (k + 1) 15 [.ref 19] (xH b g l) (fun r M' => M' = xH b g l ∧ r = some (.int (g 19 4))) := by
  refine xT.of rfl (Nat.le_of_ble_eq_true rfl) ?_
  change xS _ _ 0 [(0, .ref 19)] [] _ _
  refine xS.s1 rfl rfl ?_
  try dsimp only [Nat.reduceAdd]
  refine xS.gI rfl rfl rfl ⟨by decide, rfl⟩ rfl ?_
  try dsimp only [Nat.reduceAdd]
  refine xS.ret rfl rfl rfl (fun _ _ => rfl) ?_
  exact ⟨rfl, rfl⟩

set_option maxRecDepth 10000 in
theorem c_X1_isHead (hp : xpn g) (hL : L < 24) (ht : t < 2 ^ 30) : xT (k + 4) 17 [.ref (43 + L), .int (nI t)] (xH b g l) (fun r M' => M' = xH b g l ∧ r = some (.int (if xhd (L / 4) (L % 4) t = true then 1 else 0))) := by
  refine xT.of rfl (Nat.le_of_ble_eq_true rfl) ?_
  change xS _ _ 0 [(0, .ref (43 + L)), (1, .int (nI t))] [] _ _
  refine xS.s1 rfl rfl ?_
  try dsimp only [Nat.reduceAdd]
  refine xS.s1 rfl rfl ?_
  try dsimp only [Nat.reduceAdd]
  refine xS.cSrc rfl rfl hp hL (by omega) rfl ?_
  try dsimp only [Nat.reduceAdd]
  refine xS.s1 rfl rfl ?_
  try dsimp only [Nat.reduceAdd]
  refine xS.s1 rfl rfl ?_
  try dsimp only [Nat.reduceAdd]
  refine xS.s1 rfl rfl ?_
  try dsimp only [Nat.reduceAdd, xi_m1]
  refine xS.br (c := .eq) (off := 8) (l := 3) rfl rfl (fun h8 => ?_) (fun h8 => ?_)
  · have g8 := xt_eq h8
    refine xS.s1 rfl rfl ?_
    try dsimp only [Nat.reduceAdd, xi_1]
    refine xS.s1 rfl rfl ?_
    try dsimp only [Nat.reduceAdd]
    refine xS.ret rfl rfl rfl (fun _ _ => rfl) ?_
    have q8 := (xoI_m1 (xsrc_31 ht)).mp g8
    refine ⟨rfl, ?_⟩
    unfold xhd
    rw [q8]
    rfl
  · have g8 := xf_eq h8
    refine xS.s1 rfl rfl ?_
    try dsimp only [Nat.reduceAdd]
    refine xS.s1 rfl rfl ?_
    try dsimp only [Nat.reduceAdd]
    refine xS.br (c := .ne) (off := 7) (l := 3) rfl rfl (fun h13 => ?_) (fun h13 => ?_)
    · have g13 := xt_ne h13
      refine xS.s1 rfl rfl ?_
      try dsimp only [Nat.reduceAdd, xi_0]
      refine xS.ret rfl rfl rfl (fun _ _ => rfl) ?_
      have q13 := (not_congr (xoI_eq (xsrc_31 ht) (by omega))).mp g13
      have q8 := (not_congr (xoI_m1 (xsrc_31 ht))).mp g8
      refine ⟨rfl, ?_⟩
      unfold xhd
      cases e9 : xsrc (L / 4) (L % 4) t with
      | none => exact absurd e9 q8
      | some s9 =>
        have : ¬ s9 = t := fun z => q13 (by rw [e9, z])
        simp [this]
    · have g13 := xf_ne h13
      refine xS.s1 rfl rfl ?_
      try dsimp only [Nat.reduceAdd, xi_1]
      refine xS.s1 rfl rfl ?_
      try dsimp only [Nat.reduceAdd]
      refine xS.ret rfl rfl rfl (fun _ _ => rfl) ?_
      have q13 := (xoI_eq (xsrc_31 ht) (by omega)).mp g13
      refine ⟨rfl, ?_⟩
      unfold xhd
      rw [q13]
      simp

end
