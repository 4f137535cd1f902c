/-! LimpMirror$Room.readGlass -/
section
variable {k a c n n2 m t p s d i1 j1 : Nat} {b : Nat × Nat} {g : Nat → Nat → Int32} {l : Nat → Nat → Int64} {i j x y z v w : Int32} {u w1 w2 : Int64}
variable {L G T κ δ : Nat} {Lw : Nat → Nat}
set_option maxRecDepth 10000 in
theorem c_X8_readGlass_bad (hC : xro a) (hF : xce c n) (hs : g c 1 = nI m) (hm : m ≤ n) (hG : g a 2 = nI G) (hG6 : G ≤ 6) (hT : g a 4 = nI T) (hT8 : T ≤ 8) (hp : p < m) (hm60 : m ≤ 60) (hbad : xkd (g (c + 1) p) = none ∨ 0 < T ∨ G = 6) : xT (k + 4) 67 [.ref a, .ref c, .int (nI p)] (xH b g l) (fun r M' => M' = xH b g l ∧ r = some (.int (nI p))) := by
  have hn := hF.2.2
  refine xT.of rfl (Nat.le_of_ble_eq_true rfl) ?_
  change xS _ _ 0 [(0, .ref a), (1, .ref c), (2, .int (nI p))] [] _ _
  refine xS.s1 rfl rfl ?_
  try dsimp only [Nat.reduceAdd]
  refine xS.s1 rfl rfl ?_
  try dsimp only [Nat.reduceAdd]
  -- 2 yX0_get
  refine xS.cv rfl rfl rfl (hF.1 _) rfl rfl ⟨by decide, rfl, rfl⟩ (c_X0_get hF hs hm hp) (fun v M1 hv => ?_)
  rw [hv.1, hv.2]
  clear hv M1 v
  try dsimp only [Nat.reduceAdd, Option.toList, List.cons_append, List.nil_append, List.drop]
  -- 5 yX8_kindOf
  refine xS.callS rfl rfl rfl ⟨Nat.le_of_ble_eq_true rfl, rfl⟩ c_X8_kindOf (fun v M1 hv => ?_)
  rw [hv.1, hv.2]
  clear hv M1 v
  try dsimp only [Nat.reduceAdd, Option.toList, List.cons_append, List.nil_append, List.drop]
  refine xS.s1 rfl rfl ?_
  try dsimp only [Nat.reduceAdd]
  refine xS.s1 rfl rfl ?_
  try dsimp only [Nat.reduceAdd]
  refine xS.s1 rfl rfl ?_
  try dsimp only [Nat.reduceAdd, xj_m9]
  refine xS.br (c := .eq) (off := 19) (l := 3) rfl rfl (fun h12 => ?_) (fun h12 => ?_)
  · have g12 := xt_eq h12
    refine xS.s1 rfl rfl ?_
    try dsimp only [Nat.reduceAdd]
    refine xS.ret rfl rfl rfl (fun _ _ => rfl) ?_
    exact ⟨rfl, rfl⟩
  · have g12 := xf_eq h12
    refine xS.s1 rfl rfl ?_
    try dsimp only [Nat.reduceAdd]
    refine xS.gI rfl (hC.1 _) rfl ⟨by decide, rfl⟩ rfl ?_
    try dsimp only [Nat.reduceAdd]
    refine xS.br0 (c := .gt) (off := 12) (l := 3) rfl rfl (fun h19 => ?_) (fun h19 => ?_)
    · have g19 := xt_gt h19
      refine xS.s1 rfl rfl ?_
      try dsimp only [Nat.reduceAdd]
      refine xS.ret rfl rfl rfl (fun _ _ => rfl) ?_
      exact ⟨rfl, rfl⟩
    · have g19 := xf_gt h19
      refine xS.s1 rfl rfl ?_
      try dsimp only [Nat.reduceAdd]
      refine xS.gI rfl (hC.1 _) rfl ⟨by decide, rfl⟩ rfl ?_
      try dsimp only [Nat.reduceAdd]
      refine xS.s1 rfl rfl ?_
      try dsimp only [Nat.reduceAdd, xj_6]
      refine xS.br (c := .lt) (off := 5) (l := 3) rfl rfl (fun h28 => ?_) (fun h28 => ?_)
      · have g28 := xt_lt h28
        exact hbad.elim (fun z => absurd (by rw [z]; rfl) g12) (fun z => z.elim (fun z => absurd (xn0 (m := T) (by rw [← hT]; exact g19) (by omega)) (by omega)) (fun z => absurd ((nI_ltI (a := G) (b := 6) (by omega) (by omega)).mp (by rw [← hG]; exact g28)) (by omega)))
      · have g28 := xf_lt h28
        refine xS.s1 rfl rfl ?_
        try dsimp only [Nat.reduceAdd]
        refine xS.ret rfl rfl rfl (fun _ _ => rfl) ?_
        exact ⟨rfl, rfl⟩

set_option maxRecDepth 10000 in
theorem c_X8_readGlass_bad1 (hC : xro a) (hF : xce c n) (hs : g c 1 = nI m) (hm : m ≤ n) (hG : g a 2 = nI G) (hG6 : G ≤ 6) (hT : g a 4 = nI T) (hT8 : T ≤ 8) (hp : p < m) (hm60 : m ≤ 60) (hk : xkd (g (c + 1) p) = some κ) (hT0 : T = 0) (hG5 : G < 6) (hf : ¬ xfg (g (c + 1)) m (p + 1) 4) : xT (k + 4) 67 [.ref a, .ref c, .int (nI p)] (xH b g l) (fun r M' => M' = xH b g l ∧ r = some (.int (nI (p + 1)))) := by
  have hn := hF.2.2
  refine xT.of rfl (Nat.le_of_ble_eq_true rfl) ?_
  change xS _ _ 0 [(0, .ref a), (1, .ref c), (2, .int (nI p))] [] _ _
  refine xS.s1 rfl rfl ?_
  try dsimp only [Nat.reduceAdd]
  refine xS.s1 rfl rfl ?_
  try dsimp only [Nat.reduceAdd]
  -- 2 yX0_get
  refine xS.cv rfl rfl rfl (hF.1 _) rfl rfl ⟨by decide, rfl, rfl⟩ (c_X0_get hF hs hm hp) (fun v M1 hv => ?_)
  rw [hv.1, hv.2]
  clear hv M1 v
  try dsimp only [Nat.reduceAdd, Option.toList, List.cons_append, List.nil_append, List.drop]
  -- 5 yX8_kindOf
  refine xS.callS rfl rfl rfl ⟨Nat.le_of_ble_eq_true rfl, rfl⟩ c_X8_kindOf (fun v M1 hv => ?_)
  rw [hv.1, hv.2]
  clear hv M1 v
  try dsimp only [Nat.reduceAdd, Option.toList, List.cons_append, List.nil_append, List.drop]
  refine xS.s1 rfl rfl ?_
  try dsimp only [Nat.reduceAdd]
  refine xS.s1 rfl rfl ?_
  try dsimp only [Nat.reduceAdd]
  refine xS.s1 rfl rfl ?_
  try dsimp only [Nat.reduceAdd, xj_m9]
  refine xS.br (c := .eq) (off := 19) (l := 3) rfl rfl (fun h12 => ?_) (fun h12 => ?_)
  · have g12 := xt_eq h12
    exfalso; rw [hk] at g12; have hk6 := (xfst_lt hk).1; exact absurd ((xfI_none (o := some κ) (fun d9 e9 => by cases e9; omega)).mp g12) (fun z => by cases z)
  · have g12 := xf_eq h12
    refine xS.s1 rfl rfl ?_
    try dsimp only [Nat.reduceAdd]
    refine xS.gI rfl (hC.1 _) rfl ⟨by decide, rfl⟩ rfl ?_
    try dsimp only [Nat.reduceAdd]
    refine xS.br0 (c := .gt) (off := 12) (l := 3) rfl rfl (fun h19 => ?_) (fun h19 => ?_)
    · have g19 := xt_gt h19
      exfalso; rw [hT, hT0] at g19; exact absurd g19 (by decide)
    · have g19 := xf_gt h19
      refine xS.s1 rfl rfl ?_
      try dsimp only [Nat.reduceAdd]
      refine xS.gI rfl (hC.1 _) rfl ⟨by decide, rfl⟩ rfl ?_
      try dsimp only [Nat.reduceAdd]
      refine xS.s1 rfl rfl ?_
      try dsimp only [Nat.reduceAdd, xj_6]
      refine xS.br (c := .lt) (off := 5) (l := 3) rfl rfl (fun h28 => ?_) (fun h28 => ?_)
      · have g28 := xt_lt h28
        refine xS.s1 rfl rfl ?_
        try dsimp only [Nat.reduceAdd]
        refine xS.s1 rfl rfl ?_
        try dsimp only [Nat.reduceAdd]
        refine xS.s1 rfl rfl ?_
        try dsimp only [Nat.reduceAdd, xi_1]
        refine xS.s1 rfl rfl ?_
        try dsimp only [Nat.reduceAdd]
        rw [nI_1]
        refine xS.s1 rfl rfl ?_
        try dsimp only [Nat.reduceAdd, xi_4]
        -- 38 yX8_isFigure
        refine xS.callS rfl rfl rfl ⟨Nat.le_of_ble_eq_true rfl, rfl⟩ (c_X8_isFigure (t := 4) hF hs hm (by omega) (by decide) (Classical.propDecidable _)) (fun v M1 hv => ?_)
        rw [hv.1, hv.2]
        clear hv M1 v
        try dsimp only [Nat.reduceAdd, Option.toList, List.cons_append, List.nil_append, List.drop]
        refine xS.br0 (c := .ne) (off := 7) (l := 3) rfl rfl (fun h41 => ?_) (fun h41 => ?_)
        · have g41 := xt_ne h41
          exact absurd (@xif1 _ (Classical.propDecidable _) g41) hf
        · have g41 := xf_ne h41
          refine xS.s1 rfl rfl ?_
          try dsimp only [Nat.reduceAdd]
          refine xS.s1 rfl rfl ?_
          try dsimp only [Nat.reduceAdd, xi_1]
          refine xS.s1 rfl rfl ?_
          try dsimp only [Nat.reduceAdd]
          rw [nI_1]
          refine xS.ret rfl rfl rfl (fun _ _ => rfl) ?_
          exact ⟨rfl, rfl⟩
      · have g28 := xf_lt h28
        exfalso; rw [hG] at g28; have := (nI_leI (a := 6) (by omega) (by omega)).mp g28; omega

set_option maxRecDepth 10000 in
theorem c_X8_readGlass_ok (hC : xro a) (hF : xce c n) (hs : g c 1 = nI m) (hm : m ≤ n) (hG : g a 2 = nI G) (hG6 : G ≤ 6) (hT : g a 4 = nI T) (hT8 : T ≤ 8) (hp : p < m) (hm60 : m ≤ 60) (hk : xkd (g (c + 1) p) = some κ) (hT0 : T = 0) (hG5 : G < 6) (hf : xfg (g (c + 1)) m (p + 1) 4) (hd : δ < 4) (hv1 : g (c + 1) (p + 1) = nI (48 + δ)) : xT (k + 4) 67 [.ref a, .ref c, .int (nI p)] (xH b g l) (fun r M' => M' = xH b (up (up g (a + 2) G (nI (4 * κ + δ))) a 2 (nI (G + 1))) l ∧ r = some (.int (-9))) := by
  have hn := hF.2.2
  refine xT.of rfl (Nat.le_of_ble_eq_true rfl) ?_
  change xS _ _ 0 [(0, .ref a), (1, .ref c), (2, .int (nI p))] [] _ _
  refine xS.s1 rfl rfl ?_
  try dsimp only [Nat.reduceAdd]
  refine xS.s1 rfl rfl ?_
  try dsimp only [Nat.reduceAdd]
  -- 2 yX0_get
  refine xS.cv rfl rfl rfl (hF.1 _) rfl rfl ⟨by decide, rfl, rfl⟩ (c_X0_get hF hs hm hp) (fun v M1 hv => ?_)
  rw [hv.1, hv.2]
  clear hv M1 v
  try dsimp only [Nat.reduceAdd, Option.toList, List.cons_append, List.nil_append, List.drop]
  -- 5 yX8_kindOf
  refine xS.callS rfl rfl rfl ⟨Nat.le_of_ble_eq_true rfl, rfl⟩ c_X8_kindOf (fun v M1 hv => ?_)
  rw [hv.1, hv.2]
  clear hv M1 v
  try dsimp only [Nat.reduceAdd, Option.toList, List.cons_append, List.nil_append, List.drop]
  refine xS.s1 rfl rfl ?_
  try dsimp only [Nat.reduceAdd]
  refine xS.s1 rfl rfl ?_
  try dsimp only [Nat.reduceAdd]
  refine xS.s1 rfl rfl ?_
  try dsimp only [Nat.reduceAdd, xj_m9]
  refine xS.br (c := .eq) (off := 19) (l := 3) rfl rfl (fun h12 => ?_) (fun h12 => ?_)
  · have g12 := xt_eq h12
    exfalso; rw [hk] at g12; have hk6 := (xfst_lt hk).1; exact absurd ((xfI_none (o := some κ) (fun d9 e9 => by cases e9; omega)).mp g12) (fun z => by cases z)
  · have g12 := xf_eq h12
    refine xS.s1 rfl rfl ?_
    try dsimp only [Nat.reduceAdd]
    refine xS.gI rfl (hC.1 _) rfl ⟨by decide, rfl⟩ rfl ?_
    try dsimp only [Nat.reduceAdd]
    refine xS.br0 (c := .gt) (off := 12) (l := 3) rfl rfl (fun h19 => ?_) (fun h19 => ?_)
    · have g19 := xt_gt h19
      exfalso; rw [hT, hT0] at g19; exact absurd g19 (by decide)
    · have g19 := xf_gt h19
      refine xS.s1 rfl rfl ?_
      try dsimp only [Nat.reduceAdd]
      refine xS.gI rfl (hC.1 _) rfl ⟨by decide, rfl⟩ rfl ?_
      try dsimp only [Nat.reduceAdd]
      refine xS.s1 rfl rfl ?_
      try dsimp only [Nat.reduceAdd, xj_6]
      refine xS.br (c := .lt) (off := 5) (l := 3) rfl rfl (fun h28 => ?_) (fun h28 => ?_)
      · have g28 := xt_lt h28
        refine xS.s1 rfl rfl ?_
        try dsimp only [Nat.reduceAdd]
        refine xS.s1 rfl rfl ?_
        try dsimp only [Nat.reduceAdd]
        refine xS.s1 rfl rfl ?_
        try dsimp only [Nat.reduceAdd, xi_1]
        refine xS.s1 rfl rfl ?_
        try dsimp only [Nat.reduceAdd]
        rw [nI_1]
        refine xS.s1 rfl rfl ?_
        try dsimp only [Nat.reduceAdd, xi_4]
        -- 38 yX8_isFigure
        refine xS.callS rfl rfl rfl ⟨Nat.le_of_ble_eq_true rfl, rfl⟩ (c_X8_isFigure (t := 4) hF hs hm (by omega) (by decide) (Classical.propDecidable _)) (fun v M1 hv => ?_)
        rw [hv.1, hv.2]
        clear hv M1 v
        try dsimp only [Nat.reduceAdd, Option.toList, List.cons_append, List.nil_append, List.drop]
        refine xS.br0 (c := .ne) (off := 7) (l := 3) rfl rfl (fun h41 => ?_) (fun h41 => ?_)
        · have g41 := xt_ne h41
          refine xS.s1 rfl rfl ?_
          try dsimp only [Nat.reduceAdd]
          refine xS.gR rfl (hC.1 _) rfl ⟨by decide, rfl⟩ rfl ?_
          try dsimp only [Nat.reduceAdd]
          refine xS.s1 rfl rfl ?_
          try dsimp only [Nat.reduceAdd]
          refine xS.gI rfl (hC.1 _) rfl ⟨by decide, rfl⟩ rfl ?_
          try dsimp only [Nat.reduceAdd]
          rw [hG]
          refine xS.s1 rfl rfl ?_
          try dsimp only [Nat.reduceAdd, xi_4]
          refine xS.s1 rfl rfl ?_
          try dsimp only [Nat.reduceAdd]
          rw [hk]
          refine xS.s1 rfl rfl ?_
          try dsimp only [Nat.reduceAdd]
          refine xS.s1 rfl rfl ?_
          try dsimp only [Nat.reduceAdd]
          refine xS.s1 rfl rfl ?_
          try dsimp only [Nat.reduceAdd]
          refine xS.s1 rfl rfl ?_
          try dsimp only [Nat.reduceAdd, xi_1]
          refine xS.s1 rfl rfl ?_
          try dsimp only [Nat.reduceAdd]
          rw [nI_1]
          -- 63 yX0_get
          refine xS.cv rfl rfl rfl (hF.1 _) rfl rfl ⟨by decide, rfl, rfl⟩ (c_X0_get hF hs hm hf.1) (fun v M1 hv => ?_)
          rw [hv.1, hv.2, hv1]
          clear hv M1 v
          try dsimp only [Nat.reduceAdd, Option.toList, List.cons_append, List.nil_append, List.drop]
          refine xS.s1 rfl rfl ?_
          try dsimp only [Nat.reduceAdd]
          refine xS.s1 rfl rfl ?_
          try dsimp only [Nat.reduceAdd, xj_48]
          refine xS.s1 rfl rfl ?_
          try dsimp only [Nat.reduceAdd]
          rw [show (4 : Int32) * xfI (some κ) + nI (48 + δ) - 48 = nI (4 * κ + δ) from by
            show nI 4 * nI κ + nI (48 + δ) - nI 48 = _
            rw [pk_mul, nI_add, pk_sub (by omega)]
            congr 1
            omega]
          refine xS.ias rfl hC.2.2.1 (by omega) ?_
          try dsimp only [Nat.reduceAdd]
          refine xS.s1 rfl rfl ?_
          try dsimp only [Nat.reduceAdd]
          refine xS.s1 rfl rfl ?_
          try dsimp only [Nat.reduceAdd]
          refine xS.gI rfl (hC.1 _) rfl ⟨by decide, rfl⟩ rfl ?_
          try dsimp only [Nat.reduceAdd]
          rw [up_na (by omega), hG]
          refine xS.s1 rfl rfl ?_
          try dsimp only [Nat.reduceAdd, xi_1]
          refine xS.s1 rfl rfl ?_
          try dsimp only [Nat.reduceAdd]
          rw [nI_1]
          refine xS.pI rfl (hC.1 _) rfl ⟨⟨by decide, rfl⟩, rfl, by decide, by decide⟩ rfl ?_
          try dsimp only [Nat.reduceAdd]
          refine xS.s1 rfl rfl ?_
          try dsimp only [Nat.reduceAdd, xj_m9]
          refine xS.ret rfl rfl rfl (fun _ _ => rfl) ?_
          exact ⟨rfl, rfl⟩
        · have g41 := xf_ne h41
          exact absurd hf (@xif0 _ (Classical.propDecidable _) g41)
      · have g28 := xf_lt h28
        exfalso; rw [hG] at g28; have := (nI_leI (a := 6) (by omega) (by omega)).mp g28; omega

end
