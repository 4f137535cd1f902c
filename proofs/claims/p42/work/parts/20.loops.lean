/-! LimpMirror: private methods with loops -/
section
variable {k a c n n2 m t p s d i1 j1 : Nat} {b : Nat × Nat} {g : Nat → Nat → Int32} {l : Nat → Nat → Int64} {i j x y z v w : Int32} {u w1 w2 : Int64}
variable {L G T : Nat} {Lw : Nat → Nat}
set_option maxRecDepth 10000 in
theorem c_X11_findingOfPair (hC : xce a n) (hz : xsz (g a 1) n) (hF : xce c n2) (hz2 : xsz (g c 1) n2) (ht : t < 2 ^ 31) : xT (k + 4) 130 [.ref a, .ref c, .int (nI t)] (xH b g l) (fun r M' => M' = xH b g l ∧ r = some (.int (nI (xfop (g a 1) (g (a + 1)) (g c 1) (g (c + 1)) t)))) := by
  refine xT.of rfl (Nat.le_of_ble_eq_true rfl) ?_
  dsimp only [lv_args]
  refine xS.s1 rfl rfl ?_
  try dsimp only [Nat.reduceAdd]
  refine xS.s1 rfl rfl ?_
  try dsimp only [Nat.reduceAdd]
  -- 2 yX11_findingOfSteps
  refine xS.callS rfl rfl rfl ⟨Nat.le_of_ble_eq_true rfl, rfl⟩ (c_X11_findingOfSteps hC hz ht) (fun v M1 hv => ?_)
  rw [hv.1, hv.2]
  clear hv M1 v
  try dsimp only [Nat.reduceAdd, Option.toList, List.cons_append, List.nil_append, List.drop]
  refine xS.s1 rfl rfl ?_
  try dsimp only [Nat.reduceAdd]
  refine xS.s1 rfl rfl ?_
  try dsimp only [Nat.reduceAdd]
  refine xS.br0 (c := .ne) (off := 9) (l := 3) rfl rfl (fun h7 => ?_) (fun h7 => ?_)
  · have g7 := xt_ne h7
    refine xS.s1 rfl rfl ?_
    try dsimp only [Nat.reduceAdd]
    refine xS.br0 (c := .ne) (off := 16) (l := 3) rfl rfl (fun h17 => ?_) (fun h17 => ?_)
    · have g17 := xt_ne h17
      refine xS.s1 rfl rfl ?_
      try dsimp only [Nat.reduceAdd]
      refine xS.ret rfl rfl rfl (fun _ _ => rfl) ?_
      refine ⟨rfl, ?_⟩
      unfold xfop
      have l1 := xfos_le (g a 1) (g (a + 1)) t
      have l2 := xfos_le (g c 1) (g (c + 1)) t
      have e7 : xfos (g a 1) (g (a + 1)) t ≠ 0 := fun z => g7 (by rw [z]; rfl)
      rw [if_pos e7]
    · have g17 := xf_ne h17
      refine xS.s1 rfl rfl ?_
      try dsimp only [Nat.reduceAdd]
      -- 21 yX0_size
      refine xS.cv rfl rfl rfl (hC.1 _) rfl rfl ⟨by decide, rfl, rfl⟩ (c_X0_size hC) (fun v M1 hv => ?_)
      rw [hv.1, hv.2]
      clear hv M1 v
      try dsimp only [Nat.reduceAdd, Option.toList, List.cons_append, List.nil_append, List.drop]
      refine xS.s1 rfl rfl ?_
      try dsimp only [Nat.reduceAdd]
      -- 25 yX0_size
      refine xS.cv rfl rfl rfl (hF.1 _) rfl rfl ⟨by decide, rfl, rfl⟩ (c_X0_size hF) (fun v M1 hv => ?_)
      rw [hv.1, hv.2]
      clear hv M1 v
      try dsimp only [Nat.reduceAdd, Option.toList, List.cons_append, List.nil_append, List.drop]
      refine xS.br (c := .eq) (off := 5) (l := 3) rfl rfl (fun h28 => ?_) (fun h28 => ?_)
      · have g28 := xt_eq h28
        refine xS.s1 rfl rfl ?_
        try dsimp only [Nat.reduceAdd]
        refine xS.ret rfl rfl rfl (fun _ _ => rfl) ?_
        exact absurd g17 g7
      · have g28 := xf_eq h28
        refine xS.s1 rfl rfl ?_
        try dsimp only [Nat.reduceAdd, xi_5]
        refine xS.s1 rfl rfl ?_
        try dsimp only [Nat.reduceAdd]
        refine xS.s1 rfl rfl ?_
        try dsimp only [Nat.reduceAdd]
        refine xS.ret rfl rfl rfl (fun _ _ => rfl) ?_
        exact absurd g17 g7
  · have g7 := xf_ne h7
    refine xS.s1 rfl rfl ?_
    try dsimp only [Nat.reduceAdd]
    refine xS.s1 rfl rfl ?_
    try dsimp only [Nat.reduceAdd]
    -- 12 yX11_findingOfSteps
    refine xS.callS rfl rfl rfl ⟨Nat.le_of_ble_eq_true rfl, rfl⟩ (c_X11_findingOfSteps hF hz2 ht) (fun v M1 hv => ?_)
    rw [hv.1, hv.2]
    clear hv M1 v
    try dsimp only [Nat.reduceAdd, Option.toList, List.cons_append, List.nil_append, List.drop]
    refine xS.s1 rfl rfl ?_
    try dsimp only [Nat.reduceAdd]
    refine xS.s1 rfl rfl ?_
    try dsimp only [Nat.reduceAdd]
    refine xS.br0 (c := .ne) (off := 16) (l := 3) rfl rfl (fun h17 => ?_) (fun h17 => ?_)
    · have g17 := xt_ne h17
      refine xS.s1 rfl rfl ?_
      try dsimp only [Nat.reduceAdd]
      refine xS.ret rfl rfl rfl (fun _ _ => rfl) ?_
      refine ⟨rfl, ?_⟩
      unfold xfop
      have l1 := xfos_le (g a 1) (g (a + 1)) t
      have l2 := xfos_le (g c 1) (g (c + 1)) t
      have e7 : xfos (g a 1) (g (a + 1)) t = 0 := (nI_eq (b := 0) (by omega) (by omega)).mp g7
      rw [if_neg (by omega)]
      have e17 : xfos (g c 1) (g (c + 1)) t ≠ 0 := fun z => g17 (by rw [z]; rfl)
      rw [if_pos e17]
    · have g17 := xf_ne h17
      refine xS.s1 rfl rfl ?_
      try dsimp only [Nat.reduceAdd]
      -- 21 yX0_size
      refine xS.cv rfl rfl rfl (hC.1 _) rfl rfl ⟨by decide, rfl, rfl⟩ (c_X0_size hC) (fun v M1 hv => ?_)
      rw [hv.1, hv.2]
      clear hv M1 v
      try dsimp only [Nat.reduceAdd, Option.toList, List.cons_append, List.nil_append, List.drop]
      refine xS.s1 rfl rfl ?_
      try dsimp only [Nat.reduceAdd]
      -- 25 yX0_size
      refine xS.cv rfl rfl rfl (hF.1 _) rfl rfl ⟨by decide, rfl, rfl⟩ (c_X0_size hF) (fun v M1 hv => ?_)
      rw [hv.1, hv.2]
      clear hv M1 v
      try dsimp only [Nat.reduceAdd, Option.toList, List.cons_append, List.nil_append, List.drop]
      refine xS.br (c := .eq) (off := 5) (l := 3) rfl rfl (fun h28 => ?_) (fun h28 => ?_)
      · have g28 := xt_eq h28
        refine xS.s1 rfl rfl ?_
        try dsimp only [Nat.reduceAdd]
        refine xS.ret rfl rfl rfl (fun _ _ => rfl) ?_
        refine ⟨rfl, ?_⟩
        unfold xfop
        have l1 := xfos_le (g a 1) (g (a + 1)) t
        have l2 := xfos_le (g c 1) (g (c + 1)) t
        have e7 : xfos (g a 1) (g (a + 1)) t = 0 := (nI_eq (b := 0) (by omega) (by omega)).mp g7
        rw [if_neg (by omega)]
        have e17 : xfos (g c 1) (g (c + 1)) t = 0 := (nI_eq (b := 0) (by omega) (by omega)).mp g17
        rw [if_neg (by omega)]
        rw [if_pos g28, e17]
      · have g28 := xf_eq h28
        refine xS.s1 rfl rfl ?_
        try dsimp only [Nat.reduceAdd, xi_5]
        refine xS.s1 rfl rfl ?_
        try dsimp only [Nat.reduceAdd]
        refine xS.s1 rfl rfl ?_
        try dsimp only [Nat.reduceAdd]
        refine xS.ret rfl rfl rfl (fun _ _ => rfl) ?_
        refine ⟨rfl, ?_⟩
        unfold xfop
        have l1 := xfos_le (g a 1) (g (a + 1)) t
        have l2 := xfos_le (g c 1) (g (c + 1)) t
        have e7 : xfos (g a 1) (g (a + 1)) t = 0 := (nI_eq (b := 0) (by omega) (by omega)).mp g7
        rw [if_neg (by omega)]
        have e17 : xfos (g c 1) (g (c + 1)) t = 0 := (nI_eq (b := 0) (by omega) (by omega)).mp g17
        rw [if_neg (by omega)]
        rw [if_neg g28]
        rfl

set_option maxRecDepth 10000 in
theorem c_X11_glassFact_0 (hb : xro b.1) (hR : xRm g b.1 G T Lw) (hp : xpn g) (hs : g 4 1 = nI m) (hm : m ≤ 40) (hk : s < G) : xT (k + 3) 133 [.ref 0, .int (nI s), .int (nI 0)] (xH b g l) (fun r M' => M' = xH b g l ∧ r = some (.int (nI (Lw s / 4)))) := by
  refine xT.of rfl (Nat.le_of_ble_eq_true rfl) ?_
  dsimp only [lv_args]
  refine xS.s1 rfl rfl ?_
  try dsimp only [Nat.reduceAdd]
  refine xS.s1 rfl rfl ?_
  try dsimp only [Nat.reduceAdd]
  refine xS.s1 rfl rfl ?_
  try dsimp only [Nat.reduceAdd]
  refine xS.s1 rfl rfl ?_
  try dsimp only [Nat.reduceAdd]
  -- 30 yX11_paneOf
  refine xS.cv rfl rfl rfl rfl rfl rfl ⟨by decide, rfl, rfl⟩ (c_X11_paneOf hb hR hk) (fun v M1 hv => ?_)
  rw [hv.1, hv.2]
  clear hv M1 v
  try dsimp only [Nat.reduceAdd, Option.toList, List.cons_append, List.nil_append, List.drop]
  refine xS.cKind rfl rfl hp (hR.2.2.1 s hk).2 rfl ?_
  try dsimp only [Nat.reduceAdd]
  refine xS.ret rfl rfl rfl (fun _ _ => rfl) ?_
  exact ⟨rfl, rfl⟩

set_option maxRecDepth 10000 in
theorem c_X11_glassFact_1 (hb : xro b.1) (hR : xRm g b.1 G T Lw) (hp : xpn g) (hs : g 4 1 = nI m) (hm : m ≤ 40) (hk : s < G) : xT (k + 3) 133 [.ref 0, .int (nI s), .int (nI 1)] (xH b g l) (fun r M' => M' = xH b g l ∧ r = some (.int (nI (Lw s % 4)))) := by
  refine xT.of rfl (Nat.le_of_ble_eq_true rfl) ?_
  dsimp only [lv_args]
  refine xS.s1 rfl rfl ?_
  try dsimp only [Nat.reduceAdd]
  refine xS.s1 rfl rfl ?_
  try dsimp only [Nat.reduceAdd]
  refine xS.s1 rfl rfl ?_
  try dsimp only [Nat.reduceAdd]
  refine xS.s1 rfl rfl ?_
  try dsimp only [Nat.reduceAdd]
  -- 39 yX11_paneOf
  refine xS.cv rfl rfl rfl rfl rfl rfl ⟨by decide, rfl, rfl⟩ (c_X11_paneOf hb hR hk) (fun v M1 hv => ?_)
  rw [hv.1, hv.2]
  clear hv M1 v
  try dsimp only [Nat.reduceAdd, Option.toList, List.cons_append, List.nil_append, List.drop]
  refine xS.cDelay rfl rfl hp (hR.2.2.1 s hk).2 rfl ?_
  try dsimp only [Nat.reduceAdd]
  refine xS.ret rfl rfl rfl (fun _ _ => rfl) ?_
  exact ⟨rfl, rfl⟩

set_option maxRecDepth 10000 in
theorem c_X11_glassFact_2 (hb : xro b.1) (hR : xRm g b.1 G T Lw) (hp : xpn g) (hs : g 4 1 = nI m) (hm : m ≤ 40) (hk : s < G) : xT (k + 3) 133 [.ref 0, .int (nI s), .int (nI 2)] (xH b g l) (fun r M' => M' = xH b g l ∧ r = some (.int (nI (xcnt (fun d => decide (g 5 (4 * d + 1) = nI s)) m)))) := by
  refine xT.of rfl (Nat.le_of_ble_eq_true rfl) ?_
  dsimp only [lv_args]
  refine xS.s1 rfl rfl ?_
  try dsimp only [Nat.reduceAdd]
  refine xS.s1 rfl rfl ?_
  try dsimp only [Nat.reduceAdd]
  refine xS.s1 rfl rfl ?_
  try dsimp only [Nat.reduceAdd]
  refine xS.gR rfl rfl rfl ⟨by decide, rfl⟩ rfl ?_
  try dsimp only [Nat.reduceAdd]
  refine xS.s1 rfl rfl ?_
  try dsimp only [Nat.reduceAdd]
  -- 51 yX2_howManyBefore
  refine xS.cv rfl rfl rfl (xde_deeds.1 _) rfl rfl ⟨by decide, rfl, rfl⟩ (c_X2_howManyBefore xde_deeds hs hm) (fun v M1 hv => ?_)
  rw [hv.1, hv.2]
  clear hv M1 v
  try dsimp only [Nat.reduceAdd, Option.toList, List.cons_append, List.nil_append, List.drop]
  refine xS.ret rfl rfl rfl (fun _ _ => rfl) ?_
  exact ⟨rfl, rfl⟩

set_option maxRecDepth 10000 in
theorem c_X11_glassFact_3 (hb : xro b.1) (hR : xRm g b.1 G T Lw) (hp : xpn g) (hs : g 4 1 = nI m) (hm : m ≤ 40) (hk : s < G) : xT (k + 3) 133 [.ref 0, .int (nI s), .int (nI 3)] (xH b g l) (fun r M' => M' = xH b g l ∧ r = some (.int (nI (xcnt (fun d => decide (g 5 (4 * d + 1) = nI s) && !decide (g 5 (4 * d + 3) = -9)) m)))) := by
  refine xT.of rfl (Nat.le_of_ble_eq_true rfl) ?_
  dsimp only [lv_args]
  refine xS.s1 rfl rfl ?_
  try dsimp only [Nat.reduceAdd]
  refine xS.s1 rfl rfl ?_
  try dsimp only [Nat.reduceAdd]
  refine xS.s1 rfl rfl ?_
  try dsimp only [Nat.reduceAdd]
  refine xS.gR rfl rfl rfl ⟨by decide, rfl⟩ rfl ?_
  try dsimp only [Nat.reduceAdd]
  refine xS.s1 rfl rfl ?_
  try dsimp only [Nat.reduceAdd]
  -- 60 yX2_howManyBrokeBefore
  refine xS.cv rfl rfl rfl (xde_deeds.1 _) rfl rfl ⟨by decide, rfl, rfl⟩ (c_X2_howManyBrokeBefore xde_deeds hs hm) (fun v M1 hv => ?_)
  rw [hv.1, hv.2]
  clear hv M1 v
  try dsimp only [Nat.reduceAdd, Option.toList, List.cons_append, List.nil_append, List.drop]
  refine xS.ret rfl rfl rfl (fun _ _ => rfl) ?_
  exact ⟨rfl, rfl⟩

def xgf (g : Nat → Nat → Int32) (Lw : Nat → Nat) (m s w : Nat) : Int32 := if w = 0 then nI (Lw s / 4) else if w = 1 then nI (Lw s % 4) else if w = 2 then nI (xcnt (fun d => decide (g 5 (4 * d + 1) = nI s)) m) else nI (xcnt (fun d => decide (g 5 (4 * d + 1) = nI s) && !decide (g 5 (4 * d + 3) = -9)) m)
theorem c_X11_glassFact (hb : xro b.1) (hR : xRm g b.1 G T Lw) (hp : xpn g) (hs : g 4 1 = nI m) (hm : m ≤ 40) (hk : s < G) : ∀ {t : Nat}, t < 4 → xT (k + 3) 133 [.ref 0, .int (nI s), .int (nI t)] (xH b g l) (fun r M' => M' = xH b g l ∧ r = some (.int (xgf g Lw m s t)))
  | 0, _ => c_X11_glassFact_0 hb hR hp hs hm hk
  | 1, _ => c_X11_glassFact_1 hb hR hp hs hm hk
  | 2, _ => c_X11_glassFact_2 hb hR hp hs hm hk
  | 3, _ => c_X11_glassFact_3 hb hR hp hs hm hk
  | _ + 4, h => absurd h (by omega)

set_option maxRecDepth 10000 in
theorem c_X11_noughtsAtDeeds (hb : xro b.1) (hR : xRm g b.1 G T Lw) (hp : xpn g) (hs : g 4 1 = nI m) (hm : m ≤ 40) (hx : ∀ i, i < m → xstp (g 5 (4 * i))) (hL : L < 24) : xT (k + 5) 134 [.ref 0, .ref (43 + L)] (xH b g l) (fun r M' => M' = xH b g l ∧ r = some (.int (nI (xcnt (fun i => decide (xshw (g (b.1 + 1)) (L / 4) (L % 4) (fun i => xN (g 5 (4 * i))) i = 0)) m)))) := by
  refine xT.of rfl (Nat.le_of_ble_eq_true rfl) ?_
  dsimp only [lv_args]
  refine xS.s1 rfl rfl ?_
  try dsimp only [Nat.reduceAdd, xi_0]
  refine xS.s1 rfl rfl ?_
  try dsimp only [Nat.reduceAdd]
  refine xS.s1 rfl rfl ?_
  try dsimp only [Nat.reduceAdd, xi_0]
  refine xS.s1 rfl rfl ?_
  try dsimp only [Nat.reduceAdd]
  refine xS.pick [0, 1, 2, 3] rfl ?_
  refine xS.loop (σ := Unit) (m) (fun j S => [(3, .int (nI j)), (2, .int (nI (xcnt (fun i => decide (xshw (g (b.1 + 1)) (L / 4) (L % 4) (fun i => xN (g 5 (4 * i))) i = 0)) j))), (0, .ref 0), (1, .ref (43 + L))]) (fun _ _ => xH b g l) (fun _ _ => True) (()) (rfl) (rfl) (trivial) ?_
  intro j S hj hI ih
  try dsimp only
  refine xS.s1 rfl rfl ?_
  try dsimp only [Nat.reduceAdd]
  refine xS.s1 rfl rfl ?_
  try dsimp only [Nat.reduceAdd]
  refine xS.gR rfl rfl rfl ⟨by decide, rfl⟩ rfl ?_
  try dsimp only [Nat.reduceAdd]
  -- 9 yX2_size
  refine xS.cv rfl rfl rfl (xde_deeds.1 _) rfl rfl ⟨by decide, rfl, rfl⟩ (c_X2_size xde_deeds) (fun v M1 hv => ?_)
  rw [hv.1, hv.2]
  clear hv M1 v
  try dsimp only [Nat.reduceAdd, Option.toList, List.cons_append, List.nil_append, List.drop]
  refine xS.br (c := .ge) (off := 28) (l := 3) rfl rfl (fun h12 => ?_) (fun h12 => ?_)
  · have g12 := xt_ge h12
    refine xS.s1 rfl rfl ?_
    try dsimp only [Nat.reduceAdd]
    refine xS.ret rfl rfl rfl (fun _ _ => rfl) ?_
    rw [hs] at g12
    have e := xnle g12 (by omega) (by omega)
    rw [show m = j by omega]
    exact ⟨rfl, rfl⟩
  · have g12 := xf_ge h12
    rw [hs] at g12
    have hlt := xnlt g12 (by omega) (by omega)
    refine xS.s1 rfl rfl ?_
    try dsimp only [Nat.reduceAdd]
    refine xS.gR rfl rfl rfl ⟨by decide, rfl⟩ rfl ?_
    try dsimp only [Nat.reduceAdd]
    refine xS.s1 rfl rfl ?_
    try dsimp only [Nat.reduceAdd]
    refine xS.s1 rfl rfl ?_
    try dsimp only [Nat.reduceAdd]
    refine xS.gR rfl rfl rfl ⟨by decide, rfl⟩ rfl ?_
    try dsimp only [Nat.reduceAdd]
    refine xS.s1 rfl rfl ?_
    try dsimp only [Nat.reduceAdd]
    -- 25 yX8_shown
    refine xS.cv rfl rfl rfl (hb.1 _) rfl rfl ⟨by decide, rfl, rfl⟩ (c_X8_shown_D hb xde_deeds hp hL (by omega) hs hm (fun s h => ⟨Nat.lt_of_le_of_lt (xsrc_le h) hlt, hx s (Nat.lt_of_le_of_lt (xsrc_le h) hlt)⟩)) (fun v M1 hv => ?_)
    rw [hv.1, hv.2]
    clear hv M1 v
    try dsimp only [Nat.reduceAdd, Option.toList, List.cons_append, List.nil_append, List.drop]
    refine xS.br0 (c := .ne) (off := 6) (l := 3) rfl rfl (fun h28 => ?_) (fun h28 => ?_)
    · have g28 := xt_ne h28
      refine xS.s1 rfl rfl ?_
      try dsimp only [Nat.reduceAdd, xi_1]
      rw [nI_1]
      refine xS.s1 rfl rfl ?_
      try dsimp only [Nat.reduceAdd]
      refine xS.pick [0, 1, 2, 3] rfl ?_
      have ih2 := ih () (by omega) trivial
      first | (rw [show xcnt (fun i => decide (xshw (g (b.1 + 1)) (L / 4) (L % 4) (fun i => xN (g 5 (4 * i))) i = 0)) (j + 1) = xcnt (fun i => decide (xshw (g (b.1 + 1)) (L / 4) (L % 4) (fun i => xN (g 5 (4 * i))) i = 0)) j from by simp [xcnt_s, g12, g28]] at ih2; exact ih2) | (rw [show xcnt (fun i => decide (xshw (g (b.1 + 1)) (L / 4) (L % 4) (fun i => xN (g 5 (4 * i))) i = 0)) (j + 1) = xcnt (fun i => decide (xshw (g (b.1 + 1)) (L / 4) (L % 4) (fun i => xN (g 5 (4 * i))) i = 0)) j + 1 from by simp [xcnt_s, g12, g28]] at ih2; exact ih2)
    · have g28 := xf_ne h28
      refine xS.s1 rfl rfl ?_
      try dsimp only [Nat.reduceAdd, xi_1]
      rw [nI_1]
      refine xS.s1 rfl rfl ?_
      try dsimp only [Nat.reduceAdd, xi_1]
      rw [nI_1]
      refine xS.s1 rfl rfl ?_
      try dsimp only [Nat.reduceAdd]
      refine xS.pick [0, 1, 2, 3] rfl ?_
      have ih2 := ih () (by omega) trivial
      first | (rw [show xcnt (fun i => decide (xshw (g (b.1 + 1)) (L / 4) (L % 4) (fun i => xN (g 5 (4 * i))) i = 0)) (j + 1) = xcnt (fun i => decide (xshw (g (b.1 + 1)) (L / 4) (L % 4) (fun i => xN (g 5 (4 * i))) i = 0)) j from by simp [xcnt_s, g12, g28]] at ih2; exact ih2) | (rw [show xcnt (fun i => decide (xshw (g (b.1 + 1)) (L / 4) (L % 4) (fun i => xN (g 5 (4 * i))) i = 0)) (j + 1) = xcnt (fun i => decide (xshw (g (b.1 + 1)) (L / 4) (L % 4) (fun i => xN (g 5 (4 * i))) i = 0)) j + 1 from by simp [xcnt_s, g12, g28]] at ih2; exact ih2)

set_option maxRecDepth 10000 in
theorem c_X11_glassesOf (hb : xro b.1) (hR : xRm g b.1 G T Lw) (hp : xpn g) : xT (k + 3) 136 [.ref 0, .int x] (xH b g l) (fun r M' => M' = xH b g l ∧ r = some (.int (nI (xcnt (fun k => xiso (Lw k / 4) x) G)))) := by
  refine xT.of rfl (Nat.le_of_ble_eq_true rfl) ?_
  dsimp only [lv_args]
  refine xS.s1 rfl rfl ?_
  try dsimp only [Nat.reduceAdd, xi_0]
  refine xS.s1 rfl rfl ?_
  try dsimp only [Nat.reduceAdd]
  refine xS.s1 rfl rfl ?_
  try dsimp only [Nat.reduceAdd, xi_0]
  refine xS.s1 rfl rfl ?_
  try dsimp only [Nat.reduceAdd]
  refine xS.pick [0, 1, 2, 3] rfl ?_
  refine xS.loop (σ := Unit) (G) (fun j S => [(3, .int (nI j)), (2, .int (nI (xcnt (fun k => xiso (Lw k / 4) x) j))), (0, .ref 0), (1, .int x)]) (fun _ _ => xH b g l) (fun _ _ => True) (()) (rfl) (rfl) (trivial) ?_
  intro j S hj hI ih
  try dsimp only
  refine xS.s1 rfl rfl ?_
  try dsimp only [Nat.reduceAdd]
  refine xS.s1 rfl rfl ?_
  try dsimp only [Nat.reduceAdd]
  refine xS.gR rfl rfl rfl ⟨by decide, rfl⟩ rfl ?_
  try dsimp only [Nat.reduceAdd]
  -- 9 yX8_glasses
  refine xS.cv rfl rfl rfl (hb.1 _) rfl rfl ⟨by decide, rfl, rfl⟩ (c_X8_glasses hb) (fun v M1 hv => ?_)
  rw [hv.1, hv.2]
  clear hv M1 v
  try dsimp only [Nat.reduceAdd, Option.toList, List.cons_append, List.nil_append, List.drop]
  refine xS.br (c := .ge) (off := 24) (l := 3) rfl rfl (fun h12 => ?_) (fun h12 => ?_)
  · have g12 := xt_ge h12
    refine xS.s1 rfl rfl ?_
    try dsimp only [Nat.reduceAdd]
    refine xS.ret rfl rfl rfl (fun _ _ => rfl) ?_
    have h6 := hR.1.2
    rw [hR.1.1] at g12
    have e := xnle g12 (by omega) (by omega)
    rw [show G = j by omega]
    exact ⟨rfl, rfl⟩
  · have g12 := xf_ge h12
    have h6 := hR.1.2
    rw [hR.1.1] at g12
    have hlt := xnlt g12 (by omega) (by omega)
    refine xS.s1 rfl rfl ?_
    try dsimp only [Nat.reduceAdd]
    refine xS.s1 rfl rfl ?_
    try dsimp only [Nat.reduceAdd]
    -- 17 yX11_paneOf
    refine xS.cv rfl rfl rfl rfl rfl rfl ⟨by decide, rfl, rfl⟩ (c_X11_paneOf hb hR hlt) (fun v M1 hv => ?_)
    rw [hv.1, hv.2]
    clear hv M1 v
    try dsimp only [Nat.reduceAdd, Option.toList, List.cons_append, List.nil_append, List.drop]
    refine xS.s1 rfl rfl ?_
    try dsimp only [Nat.reduceAdd]
    refine xS.cIso rfl rfl hp (hR.2.2.1 j hlt).2 rfl ?_
    try dsimp only [Nat.reduceAdd]
    refine xS.br0 (c := .eq) (off := 6) (l := 3) rfl rfl (fun h24 => ?_) (fun h24 => ?_)
    · have g24 := xt_eq h24
      have e24 := xif0 g24
      refine xS.s1 rfl rfl ?_
      try dsimp only [Nat.reduceAdd, xi_1]
      rw [nI_1]
      refine xS.s1 rfl rfl ?_
      try dsimp only [Nat.reduceAdd]
      refine xS.pick [0, 1, 2, 3] rfl ?_
      have ih2 := ih () (by omega) trivial
      first | (rw [show xcnt (fun k => xiso (Lw k / 4) x) (j + 1) = xcnt (fun k => xiso (Lw k / 4) x) j from by simp [xcnt_s, e24]] at ih2; exact ih2) | (rw [show xcnt (fun k => xiso (Lw k / 4) x) (j + 1) = xcnt (fun k => xiso (Lw k / 4) x) j + 1 from by simp [xcnt_s, e24]] at ih2; exact ih2)
    · have g24 := xf_eq h24
      have e24 := xif1 g24
      refine xS.s1 rfl rfl ?_
      try dsimp only [Nat.reduceAdd, xi_1]
      rw [nI_1]
      refine xS.s1 rfl rfl ?_
      try dsimp only [Nat.reduceAdd, xi_1]
      rw [nI_1]
      refine xS.s1 rfl rfl ?_
      try dsimp only [Nat.reduceAdd]
      refine xS.pick [0, 1, 2, 3] rfl ?_
      have ih2 := ih () (by omega) trivial
      first | (rw [show xcnt (fun k => xiso (Lw k / 4) x) (j + 1) = xcnt (fun k => xiso (Lw k / 4) x) j from by simp [xcnt_s, e24]] at ih2; exact ih2) | (rw [show xcnt (fun k => xiso (Lw k / 4) x) (j + 1) = xcnt (fun k => xiso (Lw k / 4) x) j + 1 from by simp [xcnt_s, e24]] at ih2; exact ih2)

set_option maxRecDepth 10000 in
theorem c_X11_keptOnes  : xT (k + 2) 137 [.ref 0] (xH b g l) (fun r M' => M' = xH b g l ∧ r = some (.int (nI (xcnt (fun k => !decide (g (67 + 2 * k) 1 = -1)) 3)))) := by
  refine xT.of rfl (Nat.le_of_ble_eq_true rfl) ?_
  dsimp only [lv_args]
  refine xS.s1 rfl rfl ?_
  try dsimp only [Nat.reduceAdd, xi_0]
  refine xS.s1 rfl rfl ?_
  try dsimp only [Nat.reduceAdd]
  refine xS.s1 rfl rfl ?_
  try dsimp only [Nat.reduceAdd, xi_0]
  refine xS.s1 rfl rfl ?_
  try dsimp only [Nat.reduceAdd]
  refine xS.pick [0, 1, 2] rfl ?_
  refine xS.loop (σ := Unit) (3) (fun j S => [(2, .int (nI j)), (1, .int (nI (xcnt (fun k => !decide (g (67 + 2 * k) 1 = -1)) j))), (0, .ref 0)]) (fun _ _ => xH b g l) (fun _ _ => True) (()) (rfl) (rfl) (trivial) ?_
  intro j S hj hI ih
  try dsimp only
  refine xS.s1 rfl rfl ?_
  try dsimp only [Nat.reduceAdd]
  refine xS.s1 rfl rfl ?_
  try dsimp only [Nat.reduceAdd, xi_3]
  refine xS.br (c := .ge) (off := 24) (l := 3) rfl rfl (fun h6 => ?_) (fun h6 => ?_)
  · have g6 := xt_ge h6
    refine xS.s1 rfl rfl ?_
    try dsimp only [Nat.reduceAdd]
    refine xS.ret rfl rfl rfl (fun _ _ => rfl) ?_
    have e := xnle (b := 3) g6 (by omega) (by omega)
    rw [show 3 = j by omega]
    exact ⟨rfl, rfl⟩
  · have g6 := xf_ge h6
    have hlt := xnlt (b := 3) g6 (by omega) (by omega)
    refine xS.s1 rfl rfl ?_
    try dsimp only [Nat.reduceAdd]
    refine xS.gR rfl rfl rfl ⟨by decide, rfl⟩ rfl ?_
    try dsimp only [Nat.reduceAdd]
    refine xS.s1 rfl rfl ?_
    try dsimp only [Nat.reduceAdd]
    refine xS.aR rfl rfl (by decide) (by omega) (xsh6_get (by omega)) ?_
    try dsimp only [Nat.reduceAdd]
    -- 15 yX2_isMissing
    refine xS.cv rfl rfl rfl ((xde_kept (r := j) (by omega)).1 _) rfl rfl ⟨by decide, rfl, rfl⟩ (c_X2_isMissing (xde_kept (r := j) (by omega))) (fun v M1 hv => ?_)
    rw [hv.1, hv.2]
    clear hv M1 v
    try dsimp only [Nat.reduceAdd, Option.toList, List.cons_append, List.nil_append, List.drop]
    refine xS.br0 (c := .ne) (off := 6) (l := 3) rfl rfl (fun h18 => ?_) (fun h18 => ?_)
    · have g18 := xt_ne h18
      have e18 := xif1 g18
      refine xS.s1 rfl rfl ?_
      try dsimp only [Nat.reduceAdd, xi_1]
      rw [nI_1]
      refine xS.s1 rfl rfl ?_
      try dsimp only [Nat.reduceAdd]
      refine xS.pick [0, 1, 2] rfl ?_
      have ih2 := ih () (by omega) trivial
      first | (rw [show xcnt (fun k => !decide (g (67 + 2 * k) 1 = -1)) (j + 1) = xcnt (fun k => !decide (g (67 + 2 * k) 1 = -1)) j from by simp [xcnt_s, e18]] at ih2; exact ih2) | (rw [show xcnt (fun k => !decide (g (67 + 2 * k) 1 = -1)) (j + 1) = xcnt (fun k => !decide (g (67 + 2 * k) 1 = -1)) j + 1 from by simp [xcnt_s, e18]] at ih2; exact ih2)
    · have g18 := xf_ne h18
      have e18 := xif0 g18
      refine xS.s1 rfl rfl ?_
      try dsimp only [Nat.reduceAdd, xi_1]
      rw [nI_1]
      refine xS.s1 rfl rfl ?_
      try dsimp only [Nat.reduceAdd, xi_1]
      rw [nI_1]
      refine xS.s1 rfl rfl ?_
      try dsimp only [Nat.reduceAdd]
      refine xS.pick [0, 1, 2] rfl ?_
      have ih2 := ih () (by omega) trivial
      first | (rw [show xcnt (fun k => !decide (g (67 + 2 * k) 1 = -1)) (j + 1) = xcnt (fun k => !decide (g (67 + 2 * k) 1 = -1)) j from by simp [xcnt_s, e18]] at ih2; exact ih2) | (rw [show xcnt (fun k => !decide (g (67 + 2 * k) 1 = -1)) (j + 1) = xcnt (fun k => !decide (g (67 + 2 * k) 1 = -1)) j + 1 from by simp [xcnt_s, e18]] at ih2; exact ih2)

set_option maxRecDepth 10000 in
theorem c_X11_howManyThere_rows  : xT (k + 2) 138 [.ref 1] (xH b g l) (fun r M' => M' = xH b g l ∧ r = some (.int (nI (xcnt (fun k => !decide (g (23 + 2 * k) 1 = -1)) 6)))) := by
  refine xT.of rfl (Nat.le_of_ble_eq_true rfl) ?_
  dsimp only [lv_args]
  refine xS.s1 rfl rfl ?_
  try dsimp only [Nat.reduceAdd, xi_0]
  refine xS.s1 rfl rfl ?_
  try dsimp only [Nat.reduceAdd]
  refine xS.s1 rfl rfl ?_
  try dsimp only [Nat.reduceAdd, xi_0]
  refine xS.s1 rfl rfl ?_
  try dsimp only [Nat.reduceAdd]
  refine xS.pick [0, 1, 2] rfl ?_
  refine xS.loop (σ := Unit) (6) (fun j S => [(2, .int (nI j)), (1, .int (nI (xcnt (fun k => !decide (g (23 + 2 * k) 1 = -1)) j))), (0, .ref 1)]) (fun _ _ => xH b g l) (fun _ _ => True) (()) (rfl) (rfl) (trivial) ?_
  intro j S hj hI ih
  try dsimp only
  refine xS.s1 rfl rfl ?_
  try dsimp only [Nat.reduceAdd]
  refine xS.s1 rfl rfl ?_
  try dsimp only [Nat.reduceAdd]
  refine xS.alo rfl rfl (by decide) rfl ?_
  try dsimp only [Nat.reduceAdd]
  refine xS.br (c := .ge) (off := 21) (l := 3) rfl rfl (fun h7 => ?_) (fun h7 => ?_)
  · have g7 := xt_ge h7
    refine xS.s1 rfl rfl ?_
    try dsimp only [Nat.reduceAdd]
    refine xS.ret rfl rfl rfl (fun _ _ => rfl) ?_
    have e := xnle (b := 6) g7 (by omega) (by omega)
    rw [show 6 = j by omega]
    exact ⟨rfl, rfl⟩
  · have g7 := xf_ge h7
    have hlt := xnlt (b := 6) g7 (by omega) (by omega)
    refine xS.s1 rfl rfl ?_
    try dsimp only [Nat.reduceAdd]
    refine xS.s1 rfl rfl ?_
    try dsimp only [Nat.reduceAdd]
    refine xS.aR rfl rfl (by decide) (by omega) (xsh1_get (by omega)) ?_
    try dsimp only [Nat.reduceAdd]
    -- 13 yX0_isMissing
    refine xS.cv rfl rfl rfl ((xce_row (r := j) (by omega)).1 _) rfl rfl ⟨by decide, rfl, rfl⟩ (c_X0_isMissing (xce_row (r := j) (by omega))) (fun v M1 hv => ?_)
    rw [hv.1, hv.2]
    clear hv M1 v
    try dsimp only [Nat.reduceAdd, Option.toList, List.cons_append, List.nil_append, List.drop]
    refine xS.br0 (c := .ne) (off := 6) (l := 3) rfl rfl (fun h16 => ?_) (fun h16 => ?_)
    · have g16 := xt_ne h16
      have e16 := xif1 g16
      refine xS.s1 rfl rfl ?_
      try dsimp only [Nat.reduceAdd, xi_1]
      rw [nI_1]
      refine xS.s1 rfl rfl ?_
      try dsimp only [Nat.reduceAdd]
      refine xS.pick [0, 1, 2] rfl ?_
      have ih2 := ih () (by omega) trivial
      first | (rw [show xcnt (fun k => !decide (g (23 + 2 * k) 1 = -1)) (j + 1) = xcnt (fun k => !decide (g (23 + 2 * k) 1 = -1)) j from by simp [xcnt_s, e16]] at ih2; exact ih2) | (rw [show xcnt (fun k => !decide (g (23 + 2 * k) 1 = -1)) (j + 1) = xcnt (fun k => !decide (g (23 + 2 * k) 1 = -1)) j + 1 from by simp [xcnt_s, e16]] at ih2; exact ih2)
    · have g16 := xf_ne h16
      have e16 := xif0 g16
      refine xS.s1 rfl rfl ?_
      try dsimp only [Nat.reduceAdd, xi_1]
      rw [nI_1]
      refine xS.s1 rfl rfl ?_
      try dsimp only [Nat.reduceAdd, xi_1]
      rw [nI_1]
      refine xS.s1 rfl rfl ?_
      try dsimp only [Nat.reduceAdd]
      refine xS.pick [0, 1, 2] rfl ?_
      have ih2 := ih () (by omega) trivial
      first | (rw [show xcnt (fun k => !decide (g (23 + 2 * k) 1 = -1)) (j + 1) = xcnt (fun k => !decide (g (23 + 2 * k) 1 = -1)) j from by simp [xcnt_s, e16]] at ih2; exact ih2) | (rw [show xcnt (fun k => !decide (g (23 + 2 * k) 1 = -1)) (j + 1) = xcnt (fun k => !decide (g (23 + 2 * k) 1 = -1)) j + 1 from by simp [xcnt_s, e16]] at ih2; exact ih2)

set_option maxRecDepth 10000 in
theorem c_X11_howManyThere_texts  : xT (k + 2) 138 [.ref 2] (xH b g l) (fun r M' => M' = xH b g l ∧ r = some (.int (nI (xcnt (fun k => !decide (g (35 + 2 * k) 1 = -1)) 4)))) := by
  refine xT.of rfl (Nat.le_of_ble_eq_true rfl) ?_
  dsimp only [lv_args]
  refine xS.s1 rfl rfl ?_
  try dsimp only [Nat.reduceAdd, xi_0]
  refine xS.s1 rfl rfl ?_
  try dsimp only [Nat.reduceAdd]
  refine xS.s1 rfl rfl ?_
  try dsimp only [Nat.reduceAdd, xi_0]
  refine xS.s1 rfl rfl ?_
  try dsimp only [Nat.reduceAdd]
  refine xS.pick [0, 1, 2] rfl ?_
  refine xS.loop (σ := Unit) (4) (fun j S => [(2, .int (nI j)), (1, .int (nI (xcnt (fun k => !decide (g (35 + 2 * k) 1 = -1)) j))), (0, .ref 2)]) (fun _ _ => xH b g l) (fun _ _ => True) (()) (rfl) (rfl) (trivial) ?_
  intro j S hj hI ih
  try dsimp only
  refine xS.s1 rfl rfl ?_
  try dsimp only [Nat.reduceAdd]
  refine xS.s1 rfl rfl ?_
  try dsimp only [Nat.reduceAdd]
  refine xS.alo rfl rfl (by decide) rfl ?_
  try dsimp only [Nat.reduceAdd]
  refine xS.br (c := .ge) (off := 21) (l := 3) rfl rfl (fun h7 => ?_) (fun h7 => ?_)
  · have g7 := xt_ge h7
    refine xS.s1 rfl rfl ?_
    try dsimp only [Nat.reduceAdd]
    refine xS.ret rfl rfl rfl (fun _ _ => rfl) ?_
    have e := xnle (b := 4) g7 (by omega) (by omega)
    rw [show 4 = j by omega]
    exact ⟨rfl, rfl⟩
  · have g7 := xf_ge h7
    have hlt := xnlt (b := 4) g7 (by omega) (by omega)
    refine xS.s1 rfl rfl ?_
    try dsimp only [Nat.reduceAdd]
    refine xS.s1 rfl rfl ?_
    try dsimp only [Nat.reduceAdd]
    refine xS.aR rfl rfl (by decide) (by omega) (xsh2_get (by omega)) ?_
    try dsimp only [Nat.reduceAdd]
    -- 13 yX0_isMissing
    refine xS.cv rfl rfl rfl ((xce_text (r := j) (by omega)).1 _) rfl rfl ⟨by decide, rfl, rfl⟩ (c_X0_isMissing (xce_text (r := j) (by omega))) (fun v M1 hv => ?_)
    rw [hv.1, hv.2]
    clear hv M1 v
    try dsimp only [Nat.reduceAdd, Option.toList, List.cons_append, List.nil_append, List.drop]
    refine xS.br0 (c := .ne) (off := 6) (l := 3) rfl rfl (fun h16 => ?_) (fun h16 => ?_)
    · have g16 := xt_ne h16
      have e16 := xif1 g16
      refine xS.s1 rfl rfl ?_
      try dsimp only [Nat.reduceAdd, xi_1]
      rw [nI_1]
      refine xS.s1 rfl rfl ?_
      try dsimp only [Nat.reduceAdd]
      refine xS.pick [0, 1, 2] rfl ?_
      have ih2 := ih () (by omega) trivial
      first | (rw [show xcnt (fun k => !decide (g (35 + 2 * k) 1 = -1)) (j + 1) = xcnt (fun k => !decide (g (35 + 2 * k) 1 = -1)) j from by simp [xcnt_s, e16]] at ih2; exact ih2) | (rw [show xcnt (fun k => !decide (g (35 + 2 * k) 1 = -1)) (j + 1) = xcnt (fun k => !decide (g (35 + 2 * k) 1 = -1)) j + 1 from by simp [xcnt_s, e16]] at ih2; exact ih2)
    · have g16 := xf_ne h16
      have e16 := xif0 g16
      refine xS.s1 rfl rfl ?_
      try dsimp only [Nat.reduceAdd, xi_1]
      rw [nI_1]
      refine xS.s1 rfl rfl ?_
      try dsimp only [Nat.reduceAdd, xi_1]
      rw [nI_1]
      refine xS.s1 rfl rfl ?_
      try dsimp only [Nat.reduceAdd]
      refine xS.pick [0, 1, 2] rfl ?_
      have ih2 := ih () (by omega) trivial
      first | (rw [show xcnt (fun k => !decide (g (35 + 2 * k) 1 = -1)) (j + 1) = xcnt (fun k => !decide (g (35 + 2 * k) 1 = -1)) j from by simp [xcnt_s, e16]] at ih2; exact ih2) | (rw [show xcnt (fun k => !decide (g (35 + 2 * k) 1 = -1)) (j + 1) = xcnt (fun k => !decide (g (35 + 2 * k) 1 = -1)) j + 1 from by simp [xcnt_s, e16]] at ih2; exact ih2)

end
