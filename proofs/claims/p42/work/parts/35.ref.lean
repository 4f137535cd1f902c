/-! LimpMirrorModel: laws, next, he, copy, mark -/
theorem xdn_ge {m j : Nat} (hj : j < m) : m - 1 - j < m := by omega

section
variable {k a c n n2 m t p s d i1 j1 : Nat} {b : Nat × Nat} {g : Nat → Nat → Int32} {l : Nat → Nat → Int64} {i j x y z v w : Int32} {u w1 w2 : Int64}
variable {L G T e1 q1 κ δ : Nat} {Lw f f2 : Nat → Nat} {h tx F4 Rw Rw2 O : Nat → Int32}
set_option maxRecDepth 10000 in
theorem c_X12_has  : xT (k + 1) 152 [.int x, .int (nI t)] (xH b g l) (fun r M' => M' = xH b g l ∧ r = some (.int (if (x >>> (nI t &&& 31)) &&& 1 = 1 then 1 else 0))) := by
  refine xT.of rfl (Nat.le_of_ble_eq_true rfl) ?_
  change xS _ _ 0 [(0, .int x), (1, .int (nI t))] [] _ _
  refine xS.s1 rfl rfl ?_
  try dsimp only [Nat.reduceAdd]
  refine xS.s1 rfl rfl ?_
  try dsimp only [Nat.reduceAdd]
  refine xS.s1 rfl rfl ?_
  try dsimp only [Nat.reduceAdd]
  refine xS.s1 rfl rfl ?_
  try dsimp only [Nat.reduceAdd, xi_1]
  refine xS.s1 rfl rfl ?_
  try dsimp only [Nat.reduceAdd]
  refine xS.s1 rfl rfl ?_
  try dsimp only [Nat.reduceAdd, xi_1]
  refine xS.br (c := .ne) (off := 7) (l := 3) rfl rfl (fun h6 => ?_) (fun h6 => ?_)
  · have g6 := xt_ne h6
    refine xS.s1 rfl rfl ?_
    try dsimp only [Nat.reduceAdd, xi_0]
    refine xS.ret rfl rfl rfl (fun _ _ => rfl) ?_
    exact ⟨rfl, by simp [g6]⟩
  · have g6 := xf_ne h6
    refine xS.s1 rfl rfl ?_
    try dsimp only [Nat.reduceAdd, xi_1]
    refine xS.s1 rfl rfl ?_
    try dsimp only [Nat.reduceAdd]
    refine xS.ret rfl rfl rfl (fun _ _ => rfl) ?_
    exact ⟨rfl, by simp [g6]⟩

set_option maxRecDepth 10000 in
theorem c_X12_bits  : xT (k + 1) 215 [.int x] (xH b g l) (fun r M' => M' = xH b g l ∧ r = some (.int (xbs x 24))) := by
  refine xT.of rfl (Nat.le_of_ble_eq_true rfl) ?_
  change xS _ _ 0 [(0, .int x)] [] _ _
  refine xS.s1 rfl rfl ?_
  try dsimp only [Nat.reduceAdd, xi_0]
  refine xS.s1 rfl rfl ?_
  try dsimp only [Nat.reduceAdd]
  refine xS.s1 rfl rfl ?_
  try dsimp only [Nat.reduceAdd, xi_0]
  refine xS.s1 rfl rfl ?_
  try dsimp only [Nat.reduceAdd]
  refine xS.pick [0, 1, 2] rfl ?_
  refine xS.loop (σ := Unit) (24) (fun j S => [(2, .int (nI j)), (1, .int (xbs x j)), (0, .int x)]) (fun _ _ => xH b g l) (fun _ _ => True) (()) (rfl) (rfl) (trivial) ?_
  intro j S hj hI ih
  try dsimp only
  refine xS.s1 rfl rfl ?_
  try dsimp only [Nat.reduceAdd]
  refine xS.s1 rfl rfl ?_
  try dsimp only [Nat.reduceAdd, xj_24]
  refine xS.br (c := .ge) (off := 17) (l := 3) rfl rfl (fun h7 => ?_) (fun h7 => ?_)
  · have g7 := xt_ge h7
    have e := xnle (b := 24) g7 (by omega) (by omega)
    have e2 : 24 = j := by omega
    subst e2
    refine xS.s1 rfl rfl ?_
    try dsimp only [Nat.reduceAdd]
    refine xS.ret rfl rfl rfl (fun _ _ => rfl) ?_
    exact ⟨rfl, rfl⟩
  · have g7 := xf_ge h7
    have hlt := xnlt (b := 24) g7 (by omega) (by omega)
    refine xS.s1 rfl rfl ?_
    try dsimp only [Nat.reduceAdd]
    refine xS.s1 rfl rfl ?_
    try dsimp only [Nat.reduceAdd]
    refine xS.s1 rfl rfl ?_
    try dsimp only [Nat.reduceAdd]
    refine xS.s1 rfl rfl ?_
    try dsimp only [Nat.reduceAdd]
    refine xS.s1 rfl rfl ?_
    try dsimp only [Nat.reduceAdd, xi_1]
    refine xS.s1 rfl rfl ?_
    try dsimp only [Nat.reduceAdd]
    refine xS.s1 rfl rfl ?_
    try dsimp only [Nat.reduceAdd]
    refine xS.s1 rfl rfl ?_
    try dsimp only [Nat.reduceAdd]
    refine xS.s1 rfl rfl ?_
    try dsimp only [Nat.reduceAdd, xi_1]
    rw [nI_1]
    refine xS.s1 rfl rfl ?_
    try dsimp only [Nat.reduceAdd]
    refine xS.pick [0, 1, 2] rfl ?_
    exact ih () (by omega) trivial

set_option maxRecDepth 10000 in
theorem c_X12_lawsOf (hR : xRr g h tx G T Lw) (hm : m ≤ 12) (hf90 : ∀ u, u < m → g 90 u = nI (f u) ∧ f u < 6) (hO : ∀ u, u < m → g 91 u = O u) : xT (k + 3) 213 [.ref 73, .int (nI m)] (xH b g l) (fun r M' => M' = xH b g l ∧ r = some (.int (xbits (fun q => decide (xfst (fun i => !decide (xshw h (q / 4) (q % 4) f i = O i)) m = none)) 24))) := by
  refine xT.of rfl (Nat.le_of_ble_eq_true rfl) ?_
  change xS _ _ 0 [(0, .ref 73), (1, .int (nI m))] [] _ _
  refine xS.s1 rfl rfl ?_
  try dsimp only [Nat.reduceAdd, xi_0]
  refine xS.s1 rfl rfl ?_
  try dsimp only [Nat.reduceAdd]
  refine xS.s1 rfl rfl ?_
  try dsimp only [Nat.reduceAdd, xi_0]
  refine xS.s1 rfl rfl ?_
  try dsimp only [Nat.reduceAdd]
  refine xS.pick [0, 1, 2, 3] rfl ?_
  refine xS.loop (σ := Unit) (24) (fun j S => [(3, .int (nI j)), (2, .int (xbits (fun q => decide (xfst (fun i => !decide (xshw h (q / 4) (q % 4) f i = O i)) m = none)) j)), (0, .ref 73), (1, .int (nI m))]) (fun _ _ => xH b g l) (fun _ _ => True) (()) (rfl) (rfl) (trivial) ?_
  intro j S hj hI ih
  try dsimp only
  refine xS.s1 rfl rfl ?_
  try dsimp only [Nat.reduceAdd]
  refine xS.s1 rfl rfl ?_
  try dsimp only [Nat.reduceAdd, xj_24]
  refine xS.br (c := .ge) (off := 80) (l := 3) rfl rfl (fun h7 => ?_) (fun h7 => ?_)
  · have g7 := xt_ge h7
    have e := xnle (b := 24) g7 (by omega) (by omega)
    have e2 : 24 = j := by omega
    subst e2
    refine xS.s1 rfl rfl ?_
    try dsimp only [Nat.reduceAdd]
    refine xS.ret rfl rfl rfl (fun _ _ => rfl) ?_
    exact ⟨rfl, rfl⟩
  · have g7 := xf_ge h7
    have hlt := xnlt (b := 24) g7 (by omega) (by omega)
    refine xS.s1 rfl rfl ?_
    try dsimp only [Nat.reduceAdd, xi_1]
    refine xS.s1 rfl rfl ?_
    try dsimp only [Nat.reduceAdd]
    refine xS.s1 rfl rfl ?_
    try dsimp only [Nat.reduceAdd, xi_0]
    refine xS.s1 rfl rfl ?_
    try dsimp only [Nat.reduceAdd]
    refine xS.pick [0, 1, 4, 5, 3, 2] rfl ?_
    refine xS.loop (σ := Unit) (m) (fun i S => [(5, .int (nI i)), (4, .int (if xfst (fun i => !decide (xshw h (j / 4) (j % 4) f i = O i)) i = none then 1 else 0)), (0, .ref 73), (1, .int (nI m)), (2, .int (xbits (fun q => decide (xfst (fun i => !decide (xshw h (q / 4) (q % 4) f i = O i)) m = none)) j)), (3, .int (nI j))]) (fun _ _ => xH b g l) (fun _ _ => True) (()) (rfl) (rfl) (trivial) ?_
    intro i S2 hi hI2 ih2
    try dsimp only
    refine xS.s1 rfl rfl ?_
    try dsimp only [Nat.reduceAdd]
    refine xS.s1 rfl rfl ?_
    try dsimp only [Nat.reduceAdd]
    refine xS.br (c := .ge) (off := 47) (l := 3) rfl rfl (fun h19 => ?_) (fun h19 => ?_)
    · have g19 := xt_ge h19
      have e := xnle g19 (by omega) (by omega)
      have e3 : m = i := by omega
      rw [← e3]
      refine xS.s1 rfl rfl ?_
      try dsimp only [Nat.reduceAdd]
      refine xS.s1 rfl rfl ?_
      try dsimp only [Nat.reduceAdd]
      refine xS.br0 (c := .eq) (off := 9) (l := 3) rfl rfl (fun h69 => ?_) (fun h69 => ?_)
      · have g69 := xt_eq h69
        refine xS.s1 rfl rfl ?_
        try dsimp only [Nat.reduceAdd, xi_0]
        refine xS.s1 rfl rfl ?_
        try dsimp only [Nat.reduceAdd]
        refine xS.s1 rfl rfl ?_
        try dsimp only [Nat.reduceAdd]
        refine xS.s1 rfl rfl ?_
        try dsimp only [Nat.reduceAdd, xi_1]
        rw [nI_1]
        refine xS.s1 rfl rfl ?_
        try dsimp only [Nat.reduceAdd]
        refine xS.pick [0, 1, 4, 5] rfl ?_
        have ih2b := ih () (by omega) trivial
        rw [xor0]
        rw [show xbits (fun q => decide (xfst (fun i => !decide (xshw h (q / 4) (q % 4) f i = O i)) m = none)) (j + 1) = xbits (fun q => decide (xfst (fun i => !decide (xshw h (q / 4) (q % 4) f i = O i)) m = none)) j from by rw [xbits_s]; simp only [decide_eq_false (xif0 g69), cond_false]] at ih2b
        exact ih2b
      · have g69 := xf_eq h69
        refine xS.s1 rfl rfl ?_
        try dsimp only [Nat.reduceAdd, xi_1]
        refine xS.s1 rfl rfl ?_
        try dsimp only [Nat.reduceAdd]
        refine xS.s1 rfl rfl ?_
        try dsimp only [Nat.reduceAdd]
        refine xS.s1 rfl rfl ?_
        try dsimp only [Nat.reduceAdd]
        refine xS.s1 rfl rfl ?_
        try dsimp only [Nat.reduceAdd]
        refine xS.s1 rfl rfl ?_
        try dsimp only [Nat.reduceAdd]
        refine xS.s1 rfl rfl ?_
        try dsimp only [Nat.reduceAdd, xi_1]
        rw [nI_1]
        refine xS.s1 rfl rfl ?_
        try dsimp only [Nat.reduceAdd]
        refine xS.pick [0, 1, 4, 5] rfl ?_
        have ih2b := ih () (by omega) trivial
        rw [show xbits (fun q => decide (xfst (fun i => !decide (xshw h (q / 4) (q % 4) f i = O i)) m = none)) (j + 1) = xbits (fun q => decide (xfst (fun i => !decide (xshw h (q / 4) (q % 4) f i = O i)) m = none)) j ||| (1 <<< (nI j &&& 31)) from by rw [xbits_s]; simp only [decide_eq_true (xif1 g69), cond_true]] at ih2b
        exact ih2b
    · have g19 := xf_ge h19
      have hli := xnlt g19 (by omega) (by omega)
      refine xS.s1 rfl rfl ?_
      try dsimp only [Nat.reduceAdd]
      refine xS.br0 (c := .eq) (off := 33) (l := 3) rfl rfl (fun h24 => ?_) (fun h24 => ?_)
      · have g24 := xt_eq h24
        refine xS.s1 rfl rfl ?_
        try dsimp only [Nat.reduceAdd, xi_0]
        refine xS.s1 rfl rfl ?_
        try dsimp only [Nat.reduceAdd]
        refine xS.s1 rfl rfl ?_
        try dsimp only [Nat.reduceAdd, xi_1]
        rw [nI_1]
        refine xS.s1 rfl rfl ?_
        try dsimp only [Nat.reduceAdd]
        refine xS.pick [0, 1, 2, 3, 4, 5] rfl ?_
        have ih3 := ih2 () (by omega) trivial
        have e24 := xif0 g24
        rw [if_neg (by rw [xfst_k e24]; exact e24)] at ih3
        exact ih3
      · have g24 := xf_eq h24
        refine xS.s1 rfl rfl ?_
        try dsimp only [Nat.reduceAdd]
        refine xS.s1 rfl rfl ?_
        try dsimp only [Nat.reduceAdd]
        refine xS.s1 rfl rfl ?_
        try dsimp only [Nat.reduceAdd, xi_4]
        refine xS.s1 rfl rfl ?_
        try dsimp only [Nat.reduceAdd]
        rw [xdiv4 (by omega)]
        refine xS.s1 rfl rfl ?_
        try dsimp only [Nat.reduceAdd]
        refine xS.s1 rfl rfl ?_
        try dsimp only [Nat.reduceAdd, xi_4]
        refine xS.s1 rfl rfl ?_
        try dsimp only [Nat.reduceAdd]
        rw [xrem4 (by omega)]
        refine xS.s1 rfl rfl ?_
        try dsimp only [Nat.reduceAdd]
        refine xS.gR rfl rfl rfl ⟨by decide, rfl⟩ rfl ?_
        try dsimp only [Nat.reduceAdd]
        refine xS.s1 rfl rfl ?_
        try dsimp only [Nat.reduceAdd]
        -- 40 yX12_showsBy
        refine xS.cv rfl rfl rfl rfl rfl rfl ⟨by decide, rfl, rfl⟩ (c_X12_showsBy (f := f) xar_90 hR (by omega) (by omega) (by omega) (fun u hu => ⟨by have := xat_le hu; omega, hf90 u (by have := xat_le hu; omega)⟩)) (fun v M1 hv => ?_)
        rw [hv.1, hv.2]
        clear hv M1 v
        try dsimp only [Nat.reduceAdd, Option.toList, List.cons_append, List.nil_append, List.drop]
        refine xS.s1 rfl rfl ?_
        try dsimp only [Nat.reduceAdd]
        refine xS.gR rfl rfl rfl ⟨by decide, rfl⟩ rfl ?_
        try dsimp only [Nat.reduceAdd]
        refine xS.s1 rfl rfl ?_
        try dsimp only [Nat.reduceAdd]
        refine xS.ia rfl xar_91 (by omega) ?_
        try dsimp only [Nat.reduceAdd]
        rw [hO i hli]
        refine xS.br (c := .ne) (off := 7) (l := 3) rfl rfl (fun h50 => ?_) (fun h50 => ?_)
        · have g50 := xt_ne h50
          refine xS.s1 rfl rfl ?_
          try dsimp only [Nat.reduceAdd, xi_0]
          refine xS.s1 rfl rfl ?_
          try dsimp only [Nat.reduceAdd]
          refine xS.s1 rfl rfl ?_
          try dsimp only [Nat.reduceAdd, xi_1]
          rw [nI_1]
          refine xS.s1 rfl rfl ?_
          try dsimp only [Nat.reduceAdd]
          refine xS.pick [0, 1, 2, 3, 4, 5] rfl ?_
          have ih3 := ih2 () (by omega) trivial
          have e24 := xif1 g24
          rw [if_neg (by rw [xfst_c e24 (by simp [g50])]; exact fun z => by cases z)] at ih3
          exact ih3
        · have g50 := xf_ne h50
          refine xS.s1 rfl rfl ?_
          try dsimp only [Nat.reduceAdd, xi_1]
          refine xS.s1 rfl rfl ?_
          try dsimp only [Nat.reduceAdd]
          refine xS.s1 rfl rfl ?_
          try dsimp only [Nat.reduceAdd]
          refine xS.s1 rfl rfl ?_
          try dsimp only [Nat.reduceAdd, xi_1]
          rw [nI_1]
          refine xS.s1 rfl rfl ?_
          try dsimp only [Nat.reduceAdd]
          refine xS.pick [0, 1, 2, 3, 4, 5] rfl ?_
          have ih3 := ih2 () (by omega) trivial
          have e24 := xif1 g24
          rw [if_pos (xfst_n e24 (by simp [g50]))] at ih3
          exact ih3

set_option maxRecDepth 10000 in
theorem c_X12_laws_ok (hR : xRr g h tx G T Lw) (hp1 : p < 6) (hs1 : s < 6) (hs : g 74 p = nI m) (hs2 : g 74 s = nI m) (hm : m ≤ 12) (hf : xfos (g 74 p) (fun i => g 75 (40 * p + i)) 12 = 0) (hf2 : xfos (g 74 s) (fun i => g 75 (40 * s + i)) 12 = 0) (hx : ∀ i, i < m → xstp (g 75 (40 * p + i))) (hx2 : ∀ i, i < m → xstp (g 75 (40 * s + i))) : xT (k + 5) 214 [.ref 73, .int (nI p), .int (nI s)] (xH b g l) (fun r M' => ∃ g0, xFr g g0 ∧ M' = xH b g0 l ∧ r = some (.int (xbits (fun q => decide (xfst (fun i => !decide (xshw h (q / 4) (q % 4) (fun i => xN (g 75 (40 * p + i))) i = g 75 (40 * s + i))) m = none)) 24))) := by
  refine xT.of rfl (Nat.le_of_ble_eq_true rfl) ?_
  change xS _ _ 0 [(0, .ref 73), (1, .int (nI p)), (2, .int (nI s))] [] _ _
  refine xS.s1 rfl rfl ?_
  try dsimp only [Nat.reduceAdd]
  -- 1 yX12_isRow
  refine xS.callS rfl rfl rfl ⟨Nat.le_of_ble_eq_true rfl, rfl⟩ (c_X12_isRow_in hp1) (fun v M1 hv => ?_)
  rw [hv.1, hv.2]
  clear hv M1 v
  try dsimp only [Nat.reduceAdd, Option.toList, List.cons_append, List.nil_append, List.drop]
  refine xS.br0 (c := .eq) (off := 10) (l := 3) rfl rfl (fun h4 => ?_) (fun h4 => ?_)
  · have g4 := xt_eq h4
    exfalso; first | exact absurd g4 (by decide) | (simp (disch := omega) only [Int32.lt_iff_toInt_lt, Int32.le_iff_toInt_le, nI_toInt, Int32.reduceToInt] at g4 <;> omega)
  · have g4 := xf_eq h4
    refine xS.s1 rfl rfl ?_
    try dsimp only [Nat.reduceAdd]
    -- 8 yX12_isRow
    refine xS.callS rfl rfl rfl ⟨Nat.le_of_ble_eq_true rfl, rfl⟩ (c_X12_isRow_in hs1) (fun v M1 hv => ?_)
    rw [hv.1, hv.2]
    clear hv M1 v
    try dsimp only [Nat.reduceAdd, Option.toList, List.cons_append, List.nil_append, List.drop]
    refine xS.br0 (c := .ne) (off := 5) (l := 3) rfl rfl (fun h11 => ?_) (fun h11 => ?_)
    · have g11 := xt_ne h11
      refine xS.s1 rfl rfl ?_
      try dsimp only [Nat.reduceAdd]
      refine xS.s1 rfl rfl ?_
      try dsimp only [Nat.reduceAdd]
      refine xS.s1 rfl rfl ?_
      try dsimp only [Nat.reduceAdd]
      -- 19 yX12_takeTwo
      refine xS.cv rfl rfl rfl rfl rfl rfl ⟨by decide, rfl, rfl⟩ (c_X12_takeTwo_0 hp1 hs (by omega) hs1 hs2 hf hf2) (fun v M1 hv => ?_)
      rw [hv.1, hv.2]
      clear hv M1 v
      have hF1 : xFr g (gset (gset g 90 m (fun i => g 75 (40 * p + i))) 91 m (fun i => g 75 (40 * s + i))) := xFr_t (xFr_gs (by decide)) (xFr_gs (by decide))
      have h90 : ∀ u, u < m → (gset (gset g 90 m (fun i => g 75 (40 * p + i))) 91 m (fun i => g 75 (40 * s + i))) 90 u = nI ((fun i => xN (g 75 (40 * p + i))) u) ∧ (fun i => xN (g 75 (40 * p + i))) u < 6 := fun u hu => by rw [gset_na (by decide), gset_in hu]; exact ⟨(xstp_N (hx u hu)).2, (xstp_N (hx u hu)).1⟩
      have h91 : ∀ u, u < m → (gset (gset g 90 m (fun i => g 75 (40 * p + i))) 91 m (fun i => g 75 (40 * s + i))) 91 u = g 75 (40 * s + u) := fun u hu => by rw [gset_in hu]
      have e74 : (gset (gset g 90 m (fun i => g 75 (40 * p + i))) 91 m (fun i => g 75 (40 * s + i))) 74 p = nI m := by rw [gset_na (by decide), gset_na (by decide)]; exact hs
      try dsimp only [Nat.reduceAdd, Option.toList, List.cons_append, List.nil_append, List.drop]
      refine xS.s1 rfl rfl ?_
      try dsimp only [Nat.reduceAdd]
      refine xS.s1 rfl rfl ?_
      try dsimp only [Nat.reduceAdd]
      refine xS.br0 (c := .ge) (off := 7) (l := 3) rfl rfl (fun h24 => ?_) (fun h24 => ?_)
      · have g24 := xt_ge h24
        refine xS.s1 rfl rfl ?_
        try dsimp only [Nat.reduceAdd]
        refine xS.s1 rfl rfl ?_
        try dsimp only [Nat.reduceAdd]
        refine xS.gR rfl rfl rfl ⟨by decide, rfl⟩ rfl ?_
        try dsimp only [Nat.reduceAdd]
        refine xS.s1 rfl rfl ?_
        try dsimp only [Nat.reduceAdd]
        refine xS.ia rfl xar_74 (by omega) ?_
        try dsimp only [Nat.reduceAdd]
        rw [e74]
        -- 38 yX12_lawsOf
        refine xS.cv rfl rfl rfl rfl rfl rfl ⟨by decide, rfl, rfl⟩ (c_X12_lawsOf (f := (fun i => xN (g 75 (40 * p + i)))) (O := fun i => g 75 (40 * s + i)) (xRr_F hF1 hR) hm h90 h91) (fun v M1 hv => ?_)
        rw [hv.1, hv.2]
        clear hv M1 v
        try dsimp only [Nat.reduceAdd, Option.toList, List.cons_append, List.nil_append, List.drop]
        refine xS.ret rfl rfl rfl (fun _ _ => rfl) ?_
        exact ⟨_, hF1, rfl, rfl⟩
      · have g24 := xf_ge h24
        exfalso; first | exact absurd g24 (by decide) | (simp (disch := omega) only [Int32.lt_iff_toInt_lt, Int32.le_iff_toInt_le, nI_toInt, Int32.reduceToInt] at g24 <;> omega)
    · have g11 := xf_ne h11
      exfalso; first | exact absurd g11 (by decide) | (simp (disch := omega) only [Int32.lt_iff_toInt_lt, Int32.le_iff_toInt_le, nI_toInt, Int32.reduceToInt] at g11 <;> omega)

set_option maxRecDepth 10000 in
theorem c_X12_next_12 (hp1 : p < 6) (hs1 : s < 6) (hs : g 74 p = nI m) (hs2 : g 74 s = nI m) (hm12 : m = 12) (hf : xfos (g 74 p) (fun i => g 75 (40 * p + i)) 12 = 0) (hf2 : xfos (g 74 s) (fun i => g 75 (40 * s + i)) 12 = 0) (hx : ∀ i, i < m → xstp (g 75 (40 * p + i))) (hx2 : ∀ i, i < m → xstp (g 75 (40 * s + i))) : xT (k + 5) 216 [.ref 73, .int (nI p), .int (nI s)] (xH b g l) (fun r M' => ∃ g', xFr g g' ∧ M' = xH b g' l ∧ r = some (.int (-3))) := by
  refine xT.of rfl (Nat.le_of_ble_eq_true rfl) ?_
  change xS _ _ 0 [(0, .ref 73), (1, .int (nI p)), (2, .int (nI s))] [] _ _
  refine xS.s1 rfl rfl ?_
  try dsimp only [Nat.reduceAdd]
  -- 1 yX12_isRow
  refine xS.callS rfl rfl rfl ⟨Nat.le_of_ble_eq_true rfl, rfl⟩ (c_X12_isRow_in hp1) (fun v M1 hv => ?_)
  rw [hv.1, hv.2]
  clear hv M1 v
  try dsimp only [Nat.reduceAdd, Option.toList, List.cons_append, List.nil_append, List.drop]
  refine xS.br0 (c := .eq) (off := 10) (l := 3) rfl rfl (fun h4 => ?_) (fun h4 => ?_)
  · have g4 := xt_eq h4
    exfalso; first | exact absurd g4 (by decide) | (simp (disch := omega) only [Int32.lt_iff_toInt_lt, Int32.le_iff_toInt_le, nI_toInt, Int32.reduceToInt] at g4 <;> omega)
  · have g4 := xf_eq h4
    refine xS.s1 rfl rfl ?_
    try dsimp only [Nat.reduceAdd]
    -- 8 yX12_isRow
    refine xS.callS rfl rfl rfl ⟨Nat.le_of_ble_eq_true rfl, rfl⟩ (c_X12_isRow_in hs1) (fun v M1 hv => ?_)
    rw [hv.1, hv.2]
    clear hv M1 v
    try dsimp only [Nat.reduceAdd, Option.toList, List.cons_append, List.nil_append, List.drop]
    refine xS.br0 (c := .ne) (off := 5) (l := 3) rfl rfl (fun h11 => ?_) (fun h11 => ?_)
    · have g11 := xt_ne h11
      refine xS.s1 rfl rfl ?_
      try dsimp only [Nat.reduceAdd]
      refine xS.s1 rfl rfl ?_
      try dsimp only [Nat.reduceAdd]
      refine xS.s1 rfl rfl ?_
      try dsimp only [Nat.reduceAdd]
      -- 19 yX12_takeTwo
      refine xS.cv rfl rfl rfl rfl rfl rfl ⟨by decide, rfl, rfl⟩ (c_X12_takeTwo_0 hp1 hs (by omega) hs1 hs2 hf hf2) (fun v M1 hv => ?_)
      rw [hv.1, hv.2]
      clear hv M1 v
      have hF1 : xFr g (gset (gset g 90 m (fun i => g 75 (40 * p + i))) 91 m (fun i => g 75 (40 * s + i))) := xFr_t (xFr_gs (by decide)) (xFr_gs (by decide))
      have h90 : ∀ u, u < m → (gset (gset g 90 m (fun i => g 75 (40 * p + i))) 91 m (fun i => g 75 (40 * s + i))) 90 u = nI ((fun i => xN (g 75 (40 * p + i))) u) ∧ (fun i => xN (g 75 (40 * p + i))) u < 6 := fun u hu => by rw [gset_na (by decide), gset_in hu]; exact ⟨(xstp_N (hx u hu)).2, (xstp_N (hx u hu)).1⟩
      have h91 : ∀ u, u < m → (gset (gset g 90 m (fun i => g 75 (40 * p + i))) 91 m (fun i => g 75 (40 * s + i))) 91 u = g 75 (40 * s + u) := fun u hu => by rw [gset_in hu]
      have e74 : (gset (gset g 90 m (fun i => g 75 (40 * p + i))) 91 m (fun i => g 75 (40 * s + i))) 74 p = nI m := by rw [gset_na (by decide), gset_na (by decide)]; exact hs
      try dsimp only [Nat.reduceAdd, Option.toList, List.cons_append, List.nil_append, List.drop]
      refine xS.s1 rfl rfl ?_
      try dsimp only [Nat.reduceAdd]
      refine xS.s1 rfl rfl ?_
      try dsimp only [Nat.reduceAdd]
      refine xS.br0 (c := .ge) (off := 5) (l := 3) rfl rfl (fun h24 => ?_) (fun h24 => ?_)
      · have g24 := xt_ge h24
        refine xS.s1 rfl rfl ?_
        try dsimp only [Nat.reduceAdd]
        refine xS.gR rfl rfl rfl ⟨by decide, rfl⟩ rfl ?_
        try dsimp only [Nat.reduceAdd]
        refine xS.s1 rfl rfl ?_
        try dsimp only [Nat.reduceAdd]
        refine xS.ia rfl xar_74 (by omega) ?_
        try dsimp only [Nat.reduceAdd]
        rw [e74]
        refine xS.s1 rfl rfl ?_
        try dsimp only [Nat.reduceAdd]
        refine xS.s1 rfl rfl ?_
        try dsimp only [Nat.reduceAdd]
        refine xS.s1 rfl rfl ?_
        try dsimp only [Nat.reduceAdd, xj_12]
        refine xS.br (c := .ne) (off := 9) (l := 3) rfl rfl (fun h41 => ?_) (fun h41 => ?_)
        · have g41 := xt_ne h41
          exfalso; rw [hm12] at g41; exact g41 rfl
        · have g41 := xf_ne h41
          refine xS.s1 rfl rfl ?_
          try dsimp only [Nat.reduceAdd]
          refine xS.s1 rfl rfl ?_
          try dsimp only [Nat.reduceAdd, xi_5]
          -- 46 yX12_finds
          refine xS.cv rfl rfl rfl rfl rfl rfl ⟨by decide, rfl, rfl⟩ (c_X12_finds (t := 5) (by decide)) (fun v M1 hv => ?_)
          rw [hv.1, hv.2]
          clear hv M1 v
          try dsimp only [Nat.reduceAdd, Option.toList, List.cons_append, List.nil_append, List.drop]
          refine xS.ret rfl rfl rfl (fun _ _ => rfl) ?_
          exact ⟨_, xFr_t hF1 (xFr_fR _ 5), rfl, rfl⟩
      · have g24 := xf_ge h24
        exfalso; first | exact absurd g24 (by decide) | (simp (disch := omega) only [Int32.lt_iff_toInt_lt, Int32.le_iff_toInt_le, nI_toInt, Int32.reduceToInt] at g24 <;> omega)
    · have g11 := xf_ne h11
      exfalso; first | exact absurd g11 (by decide) | (simp (disch := omega) only [Int32.lt_iff_toInt_lt, Int32.le_iff_toInt_le, nI_toInt, Int32.reduceToInt] at g11 <;> omega)

set_option maxRecDepth 10000 in
theorem c_X12_next_none (hR : xRr g h tx G T Lw) (hp1 : p < 6) (hs1 : s < 6) (hs : g 74 p = nI m) (hs2 : g 74 s = nI m) (hm : m ≤ 12) (hf : xfos (g 74 p) (fun i => g 75 (40 * p + i)) 12 = 0) (hf2 : xfos (g 74 s) (fun i => g 75 (40 * s + i)) 12 = 0) (hx : ∀ i, i < m → xstp (g 75 (40 * p + i))) (hx2 : ∀ i, i < m → xstp (g 75 (40 * s + i))) (hm11 : m ≤ 11) (hbc : xbs (xbits (fun q => decide (xfst (fun i => !decide (xshw h (q / 4) (q % 4) (fun i => xN (g 75 (40 * p + i))) i = g 75 (40 * s + i))) m = none)) 24) 24 < 2) : xT (k + 5) 216 [.ref 73, .int (nI p), .int (nI s)] (xH b g l) (fun r M' => ∃ g0, xFr g g0 ∧ M' = xH b g0 l ∧ r = some (.int (-9))) := by
  refine xT.of rfl (Nat.le_of_ble_eq_true rfl) ?_
  change xS _ _ 0 [(0, .ref 73), (1, .int (nI p)), (2, .int (nI s))] [] _ _
  refine xS.s1 rfl rfl ?_
  try dsimp only [Nat.reduceAdd]
  -- 1 yX12_isRow
  refine xS.callS rfl rfl rfl ⟨Nat.le_of_ble_eq_true rfl, rfl⟩ (c_X12_isRow_in hp1) (fun v M1 hv => ?_)
  rw [hv.1, hv.2]
  clear hv M1 v
  try dsimp only [Nat.reduceAdd, Option.toList, List.cons_append, List.nil_append, List.drop]
  refine xS.br0 (c := .eq) (off := 10) (l := 3) rfl rfl (fun h4 => ?_) (fun h4 => ?_)
  · have g4 := xt_eq h4
    exfalso; first | exact absurd g4 (by decide) | (simp (disch := omega) only [Int32.lt_iff_toInt_lt, Int32.le_iff_toInt_le, nI_toInt, Int32.reduceToInt] at g4 <;> omega)
  · have g4 := xf_eq h4
    refine xS.s1 rfl rfl ?_
    try dsimp only [Nat.reduceAdd]
    -- 8 yX12_isRow
    refine xS.callS rfl rfl rfl ⟨Nat.le_of_ble_eq_true rfl, rfl⟩ (c_X12_isRow_in hs1) (fun v M1 hv => ?_)
    rw [hv.1, hv.2]
    clear hv M1 v
    try dsimp only [Nat.reduceAdd, Option.toList, List.cons_append, List.nil_append, List.drop]
    refine xS.br0 (c := .ne) (off := 5) (l := 3) rfl rfl (fun h11 => ?_) (fun h11 => ?_)
    · have g11 := xt_ne h11
      refine xS.s1 rfl rfl ?_
      try dsimp only [Nat.reduceAdd]
      refine xS.s1 rfl rfl ?_
      try dsimp only [Nat.reduceAdd]
      refine xS.s1 rfl rfl ?_
      try dsimp only [Nat.reduceAdd]
      -- 19 yX12_takeTwo
      refine xS.cv rfl rfl rfl rfl rfl rfl ⟨by decide, rfl, rfl⟩ (c_X12_takeTwo_0 hp1 hs (by omega) hs1 hs2 hf hf2) (fun v M1 hv => ?_)
      rw [hv.1, hv.2]
      clear hv M1 v
      have hF1 : xFr g (gset (gset g 90 m (fun i => g 75 (40 * p + i))) 91 m (fun i => g 75 (40 * s + i))) := xFr_t (xFr_gs (by decide)) (xFr_gs (by decide))
      have h90 : ∀ u, u < m → (gset (gset g 90 m (fun i => g 75 (40 * p + i))) 91 m (fun i => g 75 (40 * s + i))) 90 u = nI ((fun i => xN (g 75 (40 * p + i))) u) ∧ (fun i => xN (g 75 (40 * p + i))) u < 6 := fun u hu => by rw [gset_na (by decide), gset_in hu]; exact ⟨(xstp_N (hx u hu)).2, (xstp_N (hx u hu)).1⟩
      have h91 : ∀ u, u < m → (gset (gset g 90 m (fun i => g 75 (40 * p + i))) 91 m (fun i => g 75 (40 * s + i))) 91 u = g 75 (40 * s + u) := fun u hu => by rw [gset_in hu]
      have e74 : (gset (gset g 90 m (fun i => g 75 (40 * p + i))) 91 m (fun i => g 75 (40 * s + i))) 74 p = nI m := by rw [gset_na (by decide), gset_na (by decide)]; exact hs
      try dsimp only [Nat.reduceAdd, Option.toList, List.cons_append, List.nil_append, List.drop]
      refine xS.s1 rfl rfl ?_
      try dsimp only [Nat.reduceAdd]
      refine xS.s1 rfl rfl ?_
      try dsimp only [Nat.reduceAdd]
      refine xS.br0 (c := .ge) (off := 5) (l := 3) rfl rfl (fun h24 => ?_) (fun h24 => ?_)
      · have g24 := xt_ge h24
        refine xS.s1 rfl rfl ?_
        try dsimp only [Nat.reduceAdd]
        refine xS.gR rfl rfl rfl ⟨by decide, rfl⟩ rfl ?_
        try dsimp only [Nat.reduceAdd]
        refine xS.s1 rfl rfl ?_
        try dsimp only [Nat.reduceAdd]
        refine xS.ia rfl xar_74 (by omega) ?_
        try dsimp only [Nat.reduceAdd]
        rw [e74]
        refine xS.s1 rfl rfl ?_
        try dsimp only [Nat.reduceAdd]
        refine xS.s1 rfl rfl ?_
        try dsimp only [Nat.reduceAdd]
        refine xS.s1 rfl rfl ?_
        try dsimp only [Nat.reduceAdd, xj_12]
        refine xS.br (c := .ne) (off := 9) (l := 3) rfl rfl (fun h41 => ?_) (fun h41 => ?_)
        · have g41 := xt_ne h41
          refine xS.s1 rfl rfl ?_
          try dsimp only [Nat.reduceAdd]
          refine xS.s1 rfl rfl ?_
          try dsimp only [Nat.reduceAdd]
          -- 53 yX12_lawsOf
          refine xS.cv rfl rfl rfl rfl rfl rfl ⟨by decide, rfl, rfl⟩ (c_X12_lawsOf (f := (fun i => xN (g 75 (40 * p + i)))) (O := fun i => g 75 (40 * s + i)) (xRr_F hF1 hR) hm h90 h91) (fun v M1 hv => ?_)
          rw [hv.1, hv.2]
          clear hv M1 v
          try dsimp only [Nat.reduceAdd, Option.toList, List.cons_append, List.nil_append, List.drop]
          refine xS.s1 rfl rfl ?_
          try dsimp only [Nat.reduceAdd]
          refine xS.s1 rfl rfl ?_
          try dsimp only [Nat.reduceAdd]
          -- 60 yX12_bits
          refine xS.callS rfl rfl rfl ⟨Nat.le_of_ble_eq_true rfl, rfl⟩ c_X12_bits (fun v M1 hv => ?_)
          rw [hv.1, hv.2]
          clear hv M1 v
          try dsimp only [Nat.reduceAdd, Option.toList, List.cons_append, List.nil_append, List.drop]
          refine xS.s1 rfl rfl ?_
          try dsimp only [Nat.reduceAdd, xi_2]
          refine xS.br (c := .ge) (off := 6) (l := 3) rfl rfl (fun h64 => ?_) (fun h64 => ?_)
          · have g64 := xt_ge h64
            exact absurd hbc (Int32.not_lt.mpr g64)
          · have g64 := xf_ge h64
            refine xS.s1 rfl rfl ?_
            try dsimp only [Nat.reduceAdd, xj_m9]
            refine xS.ret rfl rfl rfl (fun _ _ => rfl) ?_
            exact ⟨_, hF1, rfl, rfl⟩
        · have g41 := xf_ne h41
          exfalso; have := (nI_eq (b := 12) (by omega) (by omega)).mp g41; omega
      · have g24 := xf_ge h24
        exfalso; first | exact absurd g24 (by decide) | (simp (disch := omega) only [Int32.lt_iff_toInt_lt, Int32.le_iff_toInt_le, nI_toInt, Int32.reduceToInt] at g24 <;> omega)
    · have g11 := xf_ne h11
      exfalso; first | exact absurd g11 (by decide) | (simp (disch := omega) only [Int32.lt_iff_toInt_lt, Int32.le_iff_toInt_le, nI_toInt, Int32.reduceToInt] at g11 <;> omega)

set_option maxRecDepth 10000 in
theorem c_X12_next_ok (hR : xRr g h tx G T Lw) (hp1 : p < 6) (hs1 : s < 6) (hs : g 74 p = nI m) (hs2 : g 74 s = nI m) (hm : m ≤ 12) (hf : xfos (g 74 p) (fun i => g 75 (40 * p + i)) 12 = 0) (hf2 : xfos (g 74 s) (fun i => g 75 (40 * s + i)) 12 = 0) (hx : ∀ i, i < m → xstp (g 75 (40 * p + i))) (hx2 : ∀ i, i < m → xstp (g 75 (40 * s + i))) (hm11 : m ≤ 11) (hbc : ¬ xbs (xbits (fun q => decide (xfst (fun i => !decide (xshw h (q / 4) (q % 4) (fun i => xN (g 75 (40 * p + i))) i = g 75 (40 * s + i))) m = none)) 24) 24 < 2) : xT (k + 5) 216 [.ref 73, .int (nI p), .int (nI s)] (xH b g l) (fun r M' => ∃ g0, xFr g g0 ∧ M' = xH b (up g0 73 20 (nI (xnxr (fun y => xmv (fun v => (xcnt (fun q => decide (((xbits (fun q => decide (xfst (fun i => !decide (xshw h (q / 4) (q % 4) (fun i => xN (g 75 (40 * p + i))) i = g 75 (40 * s + i))) m = none)) 24) >>> (nI q &&& 31)) &&& 1 = 1) && decide (xshw h (q / 4) (q % 4) (fup (fun i => xN (g 75 (40 * p + i))) m y) m = nI v)) 24)) 6) 6).1)) l ∧ r = some (.int (xnxr (fun y => xmv (fun v => (xcnt (fun q => decide (((xbits (fun q => decide (xfst (fun i => !decide (xshw h (q / 4) (q % 4) (fun i => xN (g 75 (40 * p + i))) i = g 75 (40 * s + i))) m = none)) 24) >>> (nI q &&& 31)) &&& 1 = 1) && decide (xshw h (q / 4) (q % 4) (fup (fun i => xN (g 75 (40 * p + i))) m y) m = nI v)) 24)) 6) 6).2)) := by
  refine xT.of rfl (Nat.le_of_ble_eq_true rfl) ?_
  change xS _ _ 0 [(0, .ref 73), (1, .int (nI p)), (2, .int (nI s))] [] _ _
  refine xS.s1 rfl rfl ?_
  try dsimp only [Nat.reduceAdd]
  -- 1 yX12_isRow
  refine xS.callS rfl rfl rfl ⟨Nat.le_of_ble_eq_true rfl, rfl⟩ (c_X12_isRow_in hp1) (fun v M1 hv => ?_)
  rw [hv.1, hv.2]
  clear hv M1 v
  try dsimp only [Nat.reduceAdd, Option.toList, List.cons_append, List.nil_append, List.drop]
  refine xS.br0 (c := .eq) (off := 10) (l := 3) rfl rfl (fun h4 => ?_) (fun h4 => ?_)
  · have g4 := xt_eq h4
    exfalso; first | exact absurd g4 (by decide) | (simp (disch := omega) only [Int32.lt_iff_toInt_lt, Int32.le_iff_toInt_le, nI_toInt, Int32.reduceToInt] at g4 <;> omega)
  · have g4 := xf_eq h4
    refine xS.s1 rfl rfl ?_
    try dsimp only [Nat.reduceAdd]
    -- 8 yX12_isRow
    refine xS.callS rfl rfl rfl ⟨Nat.le_of_ble_eq_true rfl, rfl⟩ (c_X12_isRow_in hs1) (fun v M1 hv => ?_)
    rw [hv.1, hv.2]
    clear hv M1 v
    try dsimp only [Nat.reduceAdd, Option.toList, List.cons_append, List.nil_append, List.drop]
    refine xS.br0 (c := .ne) (off := 5) (l := 3) rfl rfl (fun h11 => ?_) (fun h11 => ?_)
    · have g11 := xt_ne h11
      refine xS.s1 rfl rfl ?_
      try dsimp only [Nat.reduceAdd]
      refine xS.s1 rfl rfl ?_
      try dsimp only [Nat.reduceAdd]
      refine xS.s1 rfl rfl ?_
      try dsimp only [Nat.reduceAdd]
      -- 19 yX12_takeTwo
      refine xS.cv rfl rfl rfl rfl rfl rfl ⟨by decide, rfl, rfl⟩ (c_X12_takeTwo_0 hp1 hs (by omega) hs1 hs2 hf hf2) (fun v M1 hv => ?_)
      rw [hv.1, hv.2]
      clear hv M1 v
      have hF1 : xFr g (gset (gset g 90 m (fun i => g 75 (40 * p + i))) 91 m (fun i => g 75 (40 * s + i))) := xFr_t (xFr_gs (by decide)) (xFr_gs (by decide))
      have h90 : ∀ u, u < m → (gset (gset g 90 m (fun i => g 75 (40 * p + i))) 91 m (fun i => g 75 (40 * s + i))) 90 u = nI ((fun i => xN (g 75 (40 * p + i))) u) ∧ (fun i => xN (g 75 (40 * p + i))) u < 6 := fun u hu => by rw [gset_na (by decide), gset_in hu]; exact ⟨(xstp_N (hx u hu)).2, (xstp_N (hx u hu)).1⟩
      have h91 : ∀ u, u < m → (gset (gset g 90 m (fun i => g 75 (40 * p + i))) 91 m (fun i => g 75 (40 * s + i))) 91 u = g 75 (40 * s + u) := fun u hu => by rw [gset_in hu]
      have e74 : (gset (gset g 90 m (fun i => g 75 (40 * p + i))) 91 m (fun i => g 75 (40 * s + i))) 74 p = nI m := by rw [gset_na (by decide), gset_na (by decide)]; exact hs
      try dsimp only [Nat.reduceAdd, Option.toList, List.cons_append, List.nil_append, List.drop]
      refine xS.s1 rfl rfl ?_
      try dsimp only [Nat.reduceAdd]
      refine xS.s1 rfl rfl ?_
      try dsimp only [Nat.reduceAdd]
      refine xS.br0 (c := .ge) (off := 5) (l := 3) rfl rfl (fun h24 => ?_) (fun h24 => ?_)
      · have g24 := xt_ge h24
        refine xS.s1 rfl rfl ?_
        try dsimp only [Nat.reduceAdd]
        refine xS.gR rfl rfl rfl ⟨by decide, rfl⟩ rfl ?_
        try dsimp only [Nat.reduceAdd]
        refine xS.s1 rfl rfl ?_
        try dsimp only [Nat.reduceAdd]
        refine xS.ia rfl xar_74 (by omega) ?_
        try dsimp only [Nat.reduceAdd]
        rw [e74]
        refine xS.s1 rfl rfl ?_
        try dsimp only [Nat.reduceAdd]
        refine xS.s1 rfl rfl ?_
        try dsimp only [Nat.reduceAdd]
        refine xS.s1 rfl rfl ?_
        try dsimp only [Nat.reduceAdd, xj_12]
        refine xS.br (c := .ne) (off := 9) (l := 3) rfl rfl (fun h41 => ?_) (fun h41 => ?_)
        · have g41 := xt_ne h41
          refine xS.s1 rfl rfl ?_
          try dsimp only [Nat.reduceAdd]
          refine xS.s1 rfl rfl ?_
          try dsimp only [Nat.reduceAdd]
          -- 53 yX12_lawsOf
          refine xS.cv rfl rfl rfl rfl rfl rfl ⟨by decide, rfl, rfl⟩ (c_X12_lawsOf (f := (fun i => xN (g 75 (40 * p + i)))) (O := fun i => g 75 (40 * s + i)) (xRr_F hF1 hR) hm h90 h91) (fun v M1 hv => ?_)
          rw [hv.1, hv.2]
          clear hv M1 v
          try dsimp only [Nat.reduceAdd, Option.toList, List.cons_append, List.nil_append, List.drop]
          refine xS.s1 rfl rfl ?_
          try dsimp only [Nat.reduceAdd]
          refine xS.s1 rfl rfl ?_
          try dsimp only [Nat.reduceAdd]
          -- 60 yX12_bits
          refine xS.callS rfl rfl rfl ⟨Nat.le_of_ble_eq_true rfl, rfl⟩ c_X12_bits (fun v M1 hv => ?_)
          rw [hv.1, hv.2]
          clear hv M1 v
          try dsimp only [Nat.reduceAdd, Option.toList, List.cons_append, List.nil_append, List.drop]
          refine xS.s1 rfl rfl ?_
          try dsimp only [Nat.reduceAdd, xi_2]
          refine xS.br (c := .ge) (off := 6) (l := 3) rfl rfl (fun h64 => ?_) (fun h64 => ?_)
          · have g64 := xt_ge h64
            refine xS.s1 rfl rfl ?_
            try dsimp only [Nat.reduceAdd, xj_m9]
            refine xS.s1 rfl rfl ?_
            try dsimp only [Nat.reduceAdd]
            refine xS.s1 rfl rfl ?_
            try dsimp only [Nat.reduceAdd, xj_99]
            refine xS.s1 rfl rfl ?_
            try dsimp only [Nat.reduceAdd]
            refine xS.s1 rfl rfl ?_
            try dsimp only [Nat.reduceAdd, xi_0]
            refine xS.s1 rfl rfl ?_
            try dsimp only [Nat.reduceAdd]
            refine xS.pick [0, 1, 2, 6, 4, 3] rfl ?_
            refine xS.loop (σ := Nat → Nat → Int32) (6) (fun j S => [(8, .int (nI j)), (7, .int (nI (xnxr (fun y => xmv (fun v => (xcnt (fun q => decide (((xbits (fun q => decide (xfst (fun i => !decide (xshw h (q / 4) (q % 4) (fun i => xN (g 75 (40 * p + i))) i = g 75 (40 * s + i))) m = none)) 24) >>> (nI q &&& 31)) &&& 1 = 1) && decide (xshw h (q / 4) (q % 4) (fup (fun i => xN (g 75 (40 * p + i))) m y) m = nI v)) 24)) 6) j).1)), (6, .int (xnxr (fun y => xmv (fun v => (xcnt (fun q => decide (((xbits (fun q => decide (xfst (fun i => !decide (xshw h (q / 4) (q % 4) (fun i => xN (g 75 (40 * p + i))) i = g 75 (40 * s + i))) m = none)) 24) >>> (nI q &&& 31)) &&& 1 = 1) && decide (xshw h (q / 4) (q % 4) (fup (fun i => xN (g 75 (40 * p + i))) m y) m = nI v)) 24)) 6) j).2), (0, .ref 73), (4, .int (nI m)), (5, .int (xbits (fun q => decide (xfst (fun i => !decide (xshw h (q / 4) (q % 4) (fun i => xN (g 75 (40 * p + i))) i = g 75 (40 * s + i))) m = none)) 24))]) (fun _ S => xH b S l) (fun _ S => (∀ a, a ≠ 90 → S a = (gset (gset g 90 m (fun i => g 75 (40 * p + i))) 91 m (fun i => g 75 (40 * s + i))) a) ∧ (∀ u, u < m → S 90 u = nI ((fun i => xN (g 75 (40 * p + i))) u) ∧ (fun i => xN (g 75 (40 * p + i))) u < 6)) ((gset (gset g 90 m (fun i => g 75 (40 * p + i))) 91 m (fun i => g 75 (40 * s + i)))) (rfl) (rfl) (⟨fun _ _ => rfl, h90⟩) ?_
            intro j S hj hI ih
            try dsimp only
            have hS73 : S 73 = (gset (gset g 90 m (fun i => g 75 (40 * p + i))) 91 m (fun i => g 75 (40 * s + i))) 73 := hI.1 73 (by decide)
            have hxl := xnxr_le (fun y => xmv (fun v => (xcnt (fun q => decide (((xbits (fun q => decide (xfst (fun i => !decide (xshw h (q / 4) (q % 4) (fun i => xN (g 75 (40 * p + i))) i = g 75 (40 * s + i))) m = none)) 24) >>> (nI q &&& 31)) &&& 1 = 1) && decide (xshw h (q / 4) (q % 4) (fup (fun i => xN (g 75 (40 * p + i))) m y) m = nI v)) 24)) 6) j
            refine xS.s1 rfl rfl ?_
            try dsimp only [Nat.reduceAdd]
            refine xS.s1 rfl rfl ?_
            try dsimp only [Nat.reduceAdd, xj_6]
            refine xS.br (c := .ge) (off := 147) (l := 3) rfl rfl (fun h85 => ?_) (fun h85 => ?_)
            · have g85 := xt_ge h85
              have e := xnle (b := 6) g85 (by omega) (by omega)
              have e6 : 6 = j := by omega
              rw [← e6]
              refine xS.s1 rfl rfl ?_
              try dsimp only [Nat.reduceAdd]
              refine xS.s1 rfl rfl ?_
              try dsimp only [Nat.reduceAdd]
              refine xS.pI rfl rfl rfl ⟨⟨by decide, rfl⟩, rfl, by decide, by decide⟩ rfl ?_
              try dsimp only [Nat.reduceAdd]
              refine xS.s1 rfl rfl ?_
              try dsimp only [Nat.reduceAdd]
              refine xS.ret rfl rfl rfl (fun _ _ => rfl) ?_
              exact ⟨S, xFr_t hF1 ⟨fun a h1 h2 => hI.1 a (by omega), fun i _ => by rw [hS73]⟩, rfl, rfl⟩
            · have g85 := xf_ge h85
              have hlt := xnlt (b := 6) g85 (by omega) (by omega)
              refine xS.s1 rfl rfl ?_
              try dsimp only [Nat.reduceAdd]
              refine xS.gR rfl rfl rfl ⟨by decide, rfl⟩ rfl ?_
              try dsimp only [Nat.reduceAdd]
              refine xS.s1 rfl rfl ?_
              try dsimp only [Nat.reduceAdd]
              refine xS.s1 rfl rfl ?_
              try dsimp only [Nat.reduceAdd]
              refine xS.ias rfl xar_90 (by omega) ?_
              try dsimp only [Nat.reduceAdd]
              have h90s : ∀ u, u ≤ m → up S 90 m (nI j) 90 u = nI ((fup (fun i => xN (g 75 (40 * p + i))) m j) u) ∧ (fup (fun i => xN (g 75 (40 * p + i))) m j) u < 6 := fun u hu => by
                unfold fup
                by_cases e : u = m
                · rw [e, up_same, if_pos rfl]
                  exact ⟨rfl, hlt⟩
                · rw [up_ne (Or.inr e), if_neg e]
                  exact hI.2 u (by omega)
              have hRs : xRr (up S 90 m (nI j)) h tx G T Lw := xRr_fr (by rw [up_na (by decide), hS73]) (by rw [up_na (by decide), hS73]) (by rw [up_na (by decide)]; exact hI.1 81 (by decide)) (by rw [up_na (by decide)]; exact hI.1 82 (by decide)) (by rw [up_na (by decide)]; exact hI.1 83 (by decide)) (xRr_F hF1 hR)
              refine xS.s1 rfl rfl ?_
              try dsimp only [Nat.reduceAdd, xi_0]
              refine xS.s1 rfl rfl ?_
              try dsimp only [Nat.reduceAdd]
              refine xS.s1 rfl rfl ?_
              try dsimp only [Nat.reduceAdd, xi_0]
              refine xS.s1 rfl rfl ?_
              try dsimp only [Nat.reduceAdd]
              refine xS.pick [0, 1, 2, 3, 4, 5, 6, 7] rfl ?_
              refine xS.loop (σ := Unit) (6) (fun i S => [(10, .int (nI i)), (9, .int (nI (xmv (fun v => (xcnt (fun q => decide (((xbits (fun q => decide (xfst (fun i => !decide (xshw h (q / 4) (q % 4) (fun i => xN (g 75 (40 * p + i))) i = g 75 (40 * s + i))) m = none)) 24) >>> (nI q &&& 31)) &&& 1 = 1) && decide (xshw h (q / 4) (q % 4) (fup (fun i => xN (g 75 (40 * p + i))) m j) m = nI v)) 24)) i))), (8, .int (nI j)), (7, .int (nI (xnxr (fun y => xmv (fun v => (xcnt (fun q => decide (((xbits (fun q => decide (xfst (fun i => !decide (xshw h (q / 4) (q % 4) (fun i => xN (g 75 (40 * p + i))) i = g 75 (40 * s + i))) m = none)) 24) >>> (nI q &&& 31)) &&& 1 = 1) && decide (xshw h (q / 4) (q % 4) (fup (fun i => xN (g 75 (40 * p + i))) m y) m = nI v)) 24)) 6) j).1)), (6, .int (xnxr (fun y => xmv (fun v => (xcnt (fun q => decide (((xbits (fun q => decide (xfst (fun i => !decide (xshw h (q / 4) (q % 4) (fun i => xN (g 75 (40 * p + i))) i = g 75 (40 * s + i))) m = none)) 24) >>> (nI q &&& 31)) &&& 1 = 1) && decide (xshw h (q / 4) (q % 4) (fup (fun i => xN (g 75 (40 * p + i))) m y) m = nI v)) 24)) 6) j).2), (0, .ref 73), (4, .int (nI m)), (5, .int (xbits (fun q => decide (xfst (fun i => !decide (xshw h (q / 4) (q % 4) (fun i => xN (g 75 (40 * p + i))) i = g 75 (40 * s + i))) m = none)) 24))]) (fun _ _ => xH b (up S 90 m (nI j)) l) (fun _ _ => True) (()) (rfl) (rfl) (trivial) ?_
              intro i S9 hi hI9 ih9
              try dsimp only
              have hmv : xmv (fun v => (xcnt (fun q => decide (((xbits (fun q => decide (xfst (fun i => !decide (xshw h (q / 4) (q % 4) (fun i => xN (g 75 (40 * p + i))) i = g 75 (40 * s + i))) m = none)) 24) >>> (nI q &&& 31)) &&& 1 = 1) && decide (xshw h (q / 4) (q % 4) (fup (fun i => xN (g 75 (40 * p + i))) m j) m = nI v)) 24)) i ≤ 24 := xmv_le (fun v => xcnt_le _ _) i
              refine xS.s1 rfl rfl ?_
              try dsimp only [Nat.reduceAdd]
              refine xS.s1 rfl rfl ?_
              try dsimp only [Nat.reduceAdd, xj_6]
              refine xS.br (c := .ge) (off := 87) (l := 3) rfl rfl (fun h107 => ?_) (fun h107 => ?_)
              · have g107 := xt_ge h107
                have e := xnle (b := 6) g107 (by omega) (by omega)
                have e9 : 6 = i := by omega
                rw [← e9]
                have hm6 : xmv (fun v => (xcnt (fun q => decide (((xbits (fun q => decide (xfst (fun i => !decide (xshw h (q / 4) (q % 4) (fun i => xN (g 75 (40 * p + i))) i = g 75 (40 * s + i))) m = none)) 24) >>> (nI q &&& 31)) &&& 1 = 1) && decide (xshw h (q / 4) (q % 4) (fup (fun i => xN (g 75 (40 * p + i))) m j) m = nI v)) 24)) 6 ≤ 24 := xmv_le (fun v => xcnt_le _ _) 6
                refine xS.s1 rfl rfl ?_
                try dsimp only [Nat.reduceAdd]
                refine xS.s1 rfl rfl ?_
                try dsimp only [Nat.reduceAdd]
                refine xS.br (c := .ge) (off := 8) (l := 3) rfl rfl (fun h198 => ?_) (fun h198 => ?_)
                · have g198 := xt_ge h198
                  refine xS.s1 rfl rfl ?_
                  try dsimp only [Nat.reduceAdd]
                  refine xS.s1 rfl rfl ?_
                  try dsimp only [Nat.reduceAdd]
                  refine xS.s1 rfl rfl ?_
                  try dsimp only [Nat.reduceAdd]
                  refine xS.s1 rfl rfl ?_
                  try dsimp only [Nat.reduceAdd]
                  refine xS.br (c := .ge) (off := 8) (l := 3) rfl rfl (fun h214 => ?_) (fun h214 => ?_)
                  · have g214 := xt_ge h214
                    refine xS.s1 rfl rfl ?_
                    try dsimp only [Nat.reduceAdd]
                    refine xS.s1 rfl rfl ?_
                    try dsimp only [Nat.reduceAdd]
                    refine xS.s1 rfl rfl ?_
                    try dsimp only [Nat.reduceAdd, xi_1]
                    rw [nI_1]
                    refine xS.s1 rfl rfl ?_
                    try dsimp only [Nat.reduceAdd]
                    refine xS.pick [0, 1, 2, 5, 6, 7] rfl ?_
                    have hw : ¬ xmv (fun v => (xcnt (fun q => decide (((xbits (fun q => decide (xfst (fun i => !decide (xshw h (q / 4) (q % 4) (fun i => xN (g 75 (40 * p + i))) i = g 75 (40 * s + i))) m = none)) 24) >>> (nI q &&& 31)) &&& 1 = 1) && decide (xshw h (q / 4) (q % 4) (fup (fun i => xN (g 75 (40 * p + i))) m j) m = nI v)) 24)) 6 < (xnxr (fun y => xmv (fun v => (xcnt (fun q => decide (((xbits (fun q => decide (xfst (fun i => !decide (xshw h (q / 4) (q % 4) (fun i => xN (g 75 (40 * p + i))) i = g 75 (40 * s + i))) m = none)) 24) >>> (nI q &&& 31)) &&& 1 = 1) && decide (xshw h (q / 4) (q % 4) (fup (fun i => xN (g 75 (40 * p + i))) m y) m = nI v)) 24)) 6) j).1 := Nat.not_lt.mpr (xnle g198 (by omega) (by omega))
                    have hnx : xnxr (fun y => xmv (fun v => (xcnt (fun q => decide (((xbits (fun q => decide (xfst (fun i => !decide (xshw h (q / 4) (q % 4) (fun i => xN (g 75 (40 * p + i))) i = g 75 (40 * s + i))) m = none)) 24) >>> (nI q &&& 31)) &&& 1 = 1) && decide (xshw h (q / 4) (q % 4) (fup (fun i => xN (g 75 (40 * p + i))) m y) m = nI v)) 24)) 6) (j + 1) = xnxr (fun y => xmv (fun v => (xcnt (fun q => decide (((xbits (fun q => decide (xfst (fun i => !decide (xshw h (q / 4) (q % 4) (fun i => xN (g 75 (40 * p + i))) i = g 75 (40 * s + i))) m = none)) 24) >>> (nI q &&& 31)) &&& 1 = 1) && decide (xshw h (q / 4) (q % 4) (fup (fun i => xN (g 75 (40 * p + i))) m y) m = nI v)) 24)) 6) j := by
                      rw [xnxr_s, if_neg hw]
                    rw [hnx] at ih
                    exact ih _ (by omega) ⟨fun a ha => by rw [up_na ha, hI.1 a ha], fun u hu => by rw [up_ne (Or.inr (by omega))]; exact hI.2 u hu⟩
                  · have g214 := xf_ge h214
                    refine xS.s1 rfl rfl ?_
                    try dsimp only [Nat.reduceAdd]
                    refine xS.s1 rfl rfl ?_
                    try dsimp only [Nat.reduceAdd]
                    refine xS.s1 rfl rfl ?_
                    try dsimp only [Nat.reduceAdd]
                    refine xS.s1 rfl rfl ?_
                    try dsimp only [Nat.reduceAdd, xi_1]
                    rw [nI_1]
                    refine xS.s1 rfl rfl ?_
                    try dsimp only [Nat.reduceAdd]
                    refine xS.pick [0, 1, 2, 5, 6, 7] rfl ?_
                    exact absurd g214 (Int32.not_lt.mpr g198)
                · have g198 := xf_ge h198
                  refine xS.s1 rfl rfl ?_
                  try dsimp only [Nat.reduceAdd]
                  refine xS.s1 rfl rfl ?_
                  try dsimp only [Nat.reduceAdd]
                  refine xS.s1 rfl rfl ?_
                  try dsimp only [Nat.reduceAdd]
                  refine xS.s1 rfl rfl ?_
                  try dsimp only [Nat.reduceAdd]
                  refine xS.s1 rfl rfl ?_
                  try dsimp only [Nat.reduceAdd]
                  refine xS.br (c := .ge) (off := 8) (l := 3) rfl rfl (fun h214 => ?_) (fun h214 => ?_)
                  · have g214 := xt_ge h214
                    refine xS.s1 rfl rfl ?_
                    try dsimp only [Nat.reduceAdd]
                    refine xS.s1 rfl rfl ?_
                    try dsimp only [Nat.reduceAdd]
                    refine xS.s1 rfl rfl ?_
                    try dsimp only [Nat.reduceAdd, xi_1]
                    rw [nI_1]
                    refine xS.s1 rfl rfl ?_
                    try dsimp only [Nat.reduceAdd]
                    refine xS.pick [0, 1, 2, 5, 6, 7] rfl ?_
                    exact absurd g198 (Int32.not_lt.mpr g214)
                  · have g214 := xf_ge h214
                    refine xS.s1 rfl rfl ?_
                    try dsimp only [Nat.reduceAdd]
                    refine xS.s1 rfl rfl ?_
                    try dsimp only [Nat.reduceAdd]
                    refine xS.s1 rfl rfl ?_
                    try dsimp only [Nat.reduceAdd]
                    refine xS.s1 rfl rfl ?_
                    try dsimp only [Nat.reduceAdd, xi_1]
                    rw [nI_1]
                    refine xS.s1 rfl rfl ?_
                    try dsimp only [Nat.reduceAdd]
                    refine xS.pick [0, 1, 2, 5, 6, 7] rfl ?_
                    have hw : xmv (fun v => (xcnt (fun q => decide (((xbits (fun q => decide (xfst (fun i => !decide (xshw h (q / 4) (q % 4) (fun i => xN (g 75 (40 * p + i))) i = g 75 (40 * s + i))) m = none)) 24) >>> (nI q &&& 31)) &&& 1 = 1) && decide (xshw h (q / 4) (q % 4) (fup (fun i => xN (g 75 (40 * p + i))) m j) m = nI v)) 24)) 6 < (xnxr (fun y => xmv (fun v => (xcnt (fun q => decide (((xbits (fun q => decide (xfst (fun i => !decide (xshw h (q / 4) (q % 4) (fun i => xN (g 75 (40 * p + i))) i = g 75 (40 * s + i))) m = none)) 24) >>> (nI q &&& 31)) &&& 1 = 1) && decide (xshw h (q / 4) (q % 4) (fup (fun i => xN (g 75 (40 * p + i))) m y) m = nI v)) 24)) 6) j).1 := xnlt g198 (by omega) (by omega)
                    have hnx : xnxr (fun y => xmv (fun v => (xcnt (fun q => decide (((xbits (fun q => decide (xfst (fun i => !decide (xshw h (q / 4) (q % 4) (fun i => xN (g 75 (40 * p + i))) i = g 75 (40 * s + i))) m = none)) 24) >>> (nI q &&& 31)) &&& 1 = 1) && decide (xshw h (q / 4) (q % 4) (fup (fun i => xN (g 75 (40 * p + i))) m y) m = nI v)) 24)) 6) (j + 1) = (xmv (fun v => (xcnt (fun q => decide (((xbits (fun q => decide (xfst (fun i => !decide (xshw h (q / 4) (q % 4) (fun i => xN (g 75 (40 * p + i))) i = g 75 (40 * s + i))) m = none)) 24) >>> (nI q &&& 31)) &&& 1 = 1) && decide (xshw h (q / 4) (q % 4) (fup (fun i => xN (g 75 (40 * p + i))) m j) m = nI v)) 24)) 6, nI j) := by
                      rw [xnxr_s, if_pos hw]
                    rw [hnx] at ih
                    exact ih _ (by omega) ⟨fun a ha => by rw [up_na ha, hI.1 a ha], fun u hu => by rw [up_ne (Or.inr (by omega))]; exact hI.2 u hu⟩
              · have g107 := xf_ge h107
                have hli := xnlt (b := 6) g107 (by omega) (by omega)
                refine xS.s1 rfl rfl ?_
                try dsimp only [Nat.reduceAdd, xi_0]
                refine xS.s1 rfl rfl ?_
                try dsimp only [Nat.reduceAdd]
                refine xS.s1 rfl rfl ?_
                try dsimp only [Nat.reduceAdd, xi_0]
                refine xS.s1 rfl rfl ?_
                try dsimp only [Nat.reduceAdd]
                refine xS.pick [0, 1, 2, 3, 4, 5, 6, 7, 8, 9] rfl ?_
                refine xS.loop (σ := Unit) (24) (fun y S => [(12, .int (nI y)), (11, .int (nI (xcnt (fun q => decide (((xbits (fun q => decide (xfst (fun i => !decide (xshw h (q / 4) (q % 4) (fun i => xN (g 75 (40 * p + i))) i = g 75 (40 * s + i))) m = none)) 24) >>> (nI q &&& 31)) &&& 1 = 1) && decide (xshw h (q / 4) (q % 4) (fup (fun i => xN (g 75 (40 * p + i))) m j) m = nI i)) y))), (10, .int (nI i)), (9, .int (nI (xmv (fun v => (xcnt (fun q => decide (((xbits (fun q => decide (xfst (fun i => !decide (xshw h (q / 4) (q % 4) (fun i => xN (g 75 (40 * p + i))) i = g 75 (40 * s + i))) m = none)) 24) >>> (nI q &&& 31)) &&& 1 = 1) && decide (xshw h (q / 4) (q % 4) (fup (fun i => xN (g 75 (40 * p + i))) m j) m = nI v)) 24)) i))), (8, .int (nI j)), (7, .int (nI (xnxr (fun y => xmv (fun v => (xcnt (fun q => decide (((xbits (fun q => decide (xfst (fun i => !decide (xshw h (q / 4) (q % 4) (fun i => xN (g 75 (40 * p + i))) i = g 75 (40 * s + i))) m = none)) 24) >>> (nI q &&& 31)) &&& 1 = 1) && decide (xshw h (q / 4) (q % 4) (fup (fun i => xN (g 75 (40 * p + i))) m y) m = nI v)) 24)) 6) j).1)), (6, .int (xnxr (fun y => xmv (fun v => (xcnt (fun q => decide (((xbits (fun q => decide (xfst (fun i => !decide (xshw h (q / 4) (q % 4) (fun i => xN (g 75 (40 * p + i))) i = g 75 (40 * s + i))) m = none)) 24) >>> (nI q &&& 31)) &&& 1 = 1) && decide (xshw h (q / 4) (q % 4) (fup (fun i => xN (g 75 (40 * p + i))) m y) m = nI v)) 24)) 6) j).2), (0, .ref 73), (4, .int (nI m)), (5, .int (xbits (fun q => decide (xfst (fun i => !decide (xshw h (q / 4) (q % 4) (fun i => xN (g 75 (40 * p + i))) i = g 75 (40 * s + i))) m = none)) 24))]) (fun _ _ => xH b (up S 90 m (nI j)) l) (fun _ _ => True) (()) (rfl) (rfl) (trivial) ?_
                intro y S12 hy hI12 ih12
                try dsimp only
                refine xS.s1 rfl rfl ?_
                try dsimp only [Nat.reduceAdd]
                refine xS.s1 rfl rfl ?_
                try dsimp only [Nat.reduceAdd, xj_24]
                refine xS.br (c := .ge) (off := 52) (l := 3) rfl rfl (fun h120 => ?_) (fun h120 => ?_)
                · have g120 := xt_ge h120
                  have e := xnle (b := 24) g120 (by omega) (by omega)
                  have e12 : 24 = y := by omega
                  rw [← e12]
                  have hc24 := xcnt_le (fun q => decide (((xbits (fun q => decide (xfst (fun i => !decide (xshw h (q / 4) (q % 4) (fun i => xN (g 75 (40 * p + i))) i = g 75 (40 * s + i))) m = none)) 24) >>> (nI q &&& 31)) &&& 1 = 1) && decide (xshw h (q / 4) (q % 4) (fup (fun i => xN (g 75 (40 * p + i))) m j) m = nI i)) 24
                  refine xS.s1 rfl rfl ?_
                  try dsimp only [Nat.reduceAdd]
                  refine xS.s1 rfl rfl ?_
                  try dsimp only [Nat.reduceAdd]
                  refine xS.br (c := .le) (off := 8) (l := 3) rfl rfl (fun h176 => ?_) (fun h176 => ?_)
                  · have g176 := xt_le h176
                    refine xS.s1 rfl rfl ?_
                    try dsimp only [Nat.reduceAdd]
                    refine xS.s1 rfl rfl ?_
                    try dsimp only [Nat.reduceAdd]
                    refine xS.s1 rfl rfl ?_
                    try dsimp only [Nat.reduceAdd, xi_1]
                    rw [nI_1]
                    refine xS.s1 rfl rfl ?_
                    try dsimp only [Nat.reduceAdd]
                    refine xS.pick [0, 1, 4, 5, 6, 7, 8, 9] rfl ?_
                    have ih10 := ih9 () (by omega) trivial
                    rw [xmv_s] at ih10
                    rw [Nat.max_eq_left (xnle g176 (by omega) (by omega))] at ih10
                    exact ih10
                  · have g176 := xf_le h176
                    refine xS.s1 rfl rfl ?_
                    try dsimp only [Nat.reduceAdd]
                    refine xS.s1 rfl rfl ?_
                    try dsimp only [Nat.reduceAdd]
                    refine xS.s1 rfl rfl ?_
                    try dsimp only [Nat.reduceAdd]
                    refine xS.s1 rfl rfl ?_
                    try dsimp only [Nat.reduceAdd, xi_1]
                    rw [nI_1]
                    refine xS.s1 rfl rfl ?_
                    try dsimp only [Nat.reduceAdd]
                    refine xS.pick [0, 1, 4, 5, 6, 7, 8, 9] rfl ?_
                    have ih10 := ih9 () (by omega) trivial
                    rw [xmv_s] at ih10
                    rw [Nat.max_eq_right (Nat.le_of_lt (xnlt g176 (by omega) (by omega)))] at ih10
                    exact ih10
                · have g120 := xf_ge h120
                  have hly := xnlt (b := 24) g120 (by omega) (by omega)
                  refine xS.s1 rfl rfl ?_
                  try dsimp only [Nat.reduceAdd]
                  refine xS.s1 rfl rfl ?_
                  try dsimp only [Nat.reduceAdd]
                  refine xS.s1 rfl rfl ?_
                  try dsimp only [Nat.reduceAdd]
                  -- 129 yX12_has
                  refine xS.callS rfl rfl rfl ⟨Nat.le_of_ble_eq_true rfl, rfl⟩ c_X12_has (fun v M1 hv => ?_)
                  rw [hv.1, hv.2]
                  clear hv M1 v
                  try dsimp only [Nat.reduceAdd, Option.toList, List.cons_append, List.nil_append, List.drop]
                  refine xS.br0 (c := .eq) (off := 30) (l := 3) rfl rfl (fun h132 => ?_) (fun h132 => ?_)
                  · have g132 := xt_eq h132
                    refine xS.s1 rfl rfl ?_
                    try dsimp only [Nat.reduceAdd, xi_0]
                    refine xS.s1 rfl rfl ?_
                    try dsimp only [Nat.reduceAdd]
                    refine xS.s1 rfl rfl ?_
                    try dsimp only [Nat.reduceAdd]
                    refine xS.s1 rfl rfl ?_
                    try dsimp only [Nat.reduceAdd, xi_1]
                    rw [nI_1]
                    refine xS.s1 rfl rfl ?_
                    try dsimp only [Nat.reduceAdd]
                    refine xS.pick [0, 1, 2, 3, 4, 5, 6, 7, 8, 9] rfl ?_
                    have ih13 := ih12 () (by omega) trivial
                    rw [show nI (xcnt (fun q => decide (((xbits (fun q => decide (xfst (fun i => !decide (xshw h (q / 4) (q % 4) (fun i => xN (g 75 (40 * p + i))) i = g 75 (40 * s + i))) m = none)) 24) >>> (nI q &&& 31)) &&& 1 = 1) && decide (xshw h (q / 4) (q % 4) (fup (fun i => xN (g 75 (40 * p + i))) m j) m = nI i)) y) + 0 = nI (xcnt (fun q => decide (((xbits (fun q => decide (xfst (fun i => !decide (xshw h (q / 4) (q % 4) (fun i => xN (g 75 (40 * p + i))) i = g 75 (40 * s + i))) m = none)) 24) >>> (nI q &&& 31)) &&& 1 = 1) && decide (xshw h (q / 4) (q % 4) (fup (fun i => xN (g 75 (40 * p + i))) m j) m = nI i)) y) from nI_add _ 0]
                    rw [show xcnt (fun q => decide (((xbits (fun q => decide (xfst (fun i => !decide (xshw h (q / 4) (q % 4) (fun i => xN (g 75 (40 * p + i))) i = g 75 (40 * s + i))) m = none)) 24) >>> (nI q &&& 31)) &&& 1 = 1) && decide (xshw h (q / 4) (q % 4) (fup (fun i => xN (g 75 (40 * p + i))) m j) m = nI i)) (y + 1) = xcnt (fun q => decide (((xbits (fun q => decide (xfst (fun i => !decide (xshw h (q / 4) (q % 4) (fun i => xN (g 75 (40 * p + i))) i = g 75 (40 * s + i))) m = none)) 24) >>> (nI q &&& 31)) &&& 1 = 1) && decide (xshw h (q / 4) (q % 4) (fup (fun i => xN (g 75 (40 * p + i))) m j) m = nI i)) y from by rw [xcnt_s]; simp only [decide_eq_false (xif0 g132), Bool.false_and, cond_false]] at ih13
                    exact ih13
                  · have g132 := xf_eq h132
                    refine xS.s1 rfl rfl ?_
                    try dsimp only [Nat.reduceAdd]
                    refine xS.s1 rfl rfl ?_
                    try dsimp only [Nat.reduceAdd]
                    refine xS.s1 rfl rfl ?_
                    try dsimp only [Nat.reduceAdd, xi_4]
                    refine xS.s1 rfl rfl ?_
                    try dsimp only [Nat.reduceAdd]
                    rw [xdiv4 (by omega)]
                    refine xS.s1 rfl rfl ?_
                    try dsimp only [Nat.reduceAdd]
                    refine xS.s1 rfl rfl ?_
                    try dsimp only [Nat.reduceAdd, xi_4]
                    refine xS.s1 rfl rfl ?_
                    try dsimp only [Nat.reduceAdd]
                    rw [xrem4 (by omega)]
                    refine xS.s1 rfl rfl ?_
                    try dsimp only [Nat.reduceAdd]
                    refine xS.gR rfl rfl rfl ⟨by decide, rfl⟩ rfl ?_
                    try dsimp only [Nat.reduceAdd]
                    refine xS.s1 rfl rfl ?_
                    try dsimp only [Nat.reduceAdd]
                    -- 150 yX12_showsBy
                    refine xS.cv rfl rfl rfl rfl rfl rfl ⟨by decide, rfl, rfl⟩ (c_X12_showsBy (f := (fup (fun i => xN (g 75 (40 * p + i))) m j)) xar_90 hRs (by omega) (by omega) (by omega) (fun u hu => ⟨by have := xat_le hu; omega, h90s u (xat_le hu)⟩)) (fun v M1 hv => ?_)
                    rw [hv.1, hv.2]
                    clear hv M1 v
                    try dsimp only [Nat.reduceAdd, Option.toList, List.cons_append, List.nil_append, List.drop]
                    refine xS.s1 rfl rfl ?_
                    try dsimp only [Nat.reduceAdd]
                    refine xS.br (c := .ne) (off := 7) (l := 3) rfl rfl (fun h155 => ?_) (fun h155 => ?_)
                    · have g155 := xt_ne h155
                      refine xS.s1 rfl rfl ?_
                      try dsimp only [Nat.reduceAdd, xi_0]
                      refine xS.s1 rfl rfl ?_
                      try dsimp only [Nat.reduceAdd]
                      refine xS.s1 rfl rfl ?_
                      try dsimp only [Nat.reduceAdd]
                      refine xS.s1 rfl rfl ?_
                      try dsimp only [Nat.reduceAdd, xi_1]
                      rw [nI_1]
                      refine xS.s1 rfl rfl ?_
                      try dsimp only [Nat.reduceAdd]
                      refine xS.pick [0, 1, 2, 3, 4, 5, 6, 7, 8, 9] rfl ?_
                      have ih13 := ih12 () (by omega) trivial
                      rw [show nI (xcnt (fun q => decide (((xbits (fun q => decide (xfst (fun i => !decide (xshw h (q / 4) (q % 4) (fun i => xN (g 75 (40 * p + i))) i = g 75 (40 * s + i))) m = none)) 24) >>> (nI q &&& 31)) &&& 1 = 1) && decide (xshw h (q / 4) (q % 4) (fup (fun i => xN (g 75 (40 * p + i))) m j) m = nI i)) y) + 0 = nI (xcnt (fun q => decide (((xbits (fun q => decide (xfst (fun i => !decide (xshw h (q / 4) (q % 4) (fun i => xN (g 75 (40 * p + i))) i = g 75 (40 * s + i))) m = none)) 24) >>> (nI q &&& 31)) &&& 1 = 1) && decide (xshw h (q / 4) (q % 4) (fup (fun i => xN (g 75 (40 * p + i))) m j) m = nI i)) y) from nI_add _ 0]
                      rw [show xcnt (fun q => decide (((xbits (fun q => decide (xfst (fun i => !decide (xshw h (q / 4) (q % 4) (fun i => xN (g 75 (40 * p + i))) i = g 75 (40 * s + i))) m = none)) 24) >>> (nI q &&& 31)) &&& 1 = 1) && decide (xshw h (q / 4) (q % 4) (fup (fun i => xN (g 75 (40 * p + i))) m j) m = nI i)) (y + 1) = xcnt (fun q => decide (((xbits (fun q => decide (xfst (fun i => !decide (xshw h (q / 4) (q % 4) (fun i => xN (g 75 (40 * p + i))) i = g 75 (40 * s + i))) m = none)) 24) >>> (nI q &&& 31)) &&& 1 = 1) && decide (xshw h (q / 4) (q % 4) (fup (fun i => xN (g 75 (40 * p + i))) m j) m = nI i)) y from by rw [xcnt_s]; simp only [decide_eq_false g155, Bool.and_false, cond_false]] at ih13
                      exact ih13
                    · have g155 := xf_ne h155
                      refine xS.s1 rfl rfl ?_
                      try dsimp only [Nat.reduceAdd, xi_1]
                      refine xS.s1 rfl rfl ?_
                      try dsimp only [Nat.reduceAdd]
                      refine xS.s1 rfl rfl ?_
                      try dsimp only [Nat.reduceAdd]
                      refine xS.s1 rfl rfl ?_
                      try dsimp only [Nat.reduceAdd]
                      refine xS.s1 rfl rfl ?_
                      try dsimp only [Nat.reduceAdd, xi_1]
                      rw [nI_1]
                      refine xS.s1 rfl rfl ?_
                      try dsimp only [Nat.reduceAdd]
                      refine xS.pick [0, 1, 2, 3, 4, 5, 6, 7, 8, 9] rfl ?_
                      have ih13 := ih12 () (by omega) trivial
                      rw [nI_1]
                      rw [show xcnt (fun q => decide (((xbits (fun q => decide (xfst (fun i => !decide (xshw h (q / 4) (q % 4) (fun i => xN (g 75 (40 * p + i))) i = g 75 (40 * s + i))) m = none)) 24) >>> (nI q &&& 31)) &&& 1 = 1) && decide (xshw h (q / 4) (q % 4) (fup (fun i => xN (g 75 (40 * p + i))) m j) m = nI i)) (y + 1) = xcnt (fun q => decide (((xbits (fun q => decide (xfst (fun i => !decide (xshw h (q / 4) (q % 4) (fun i => xN (g 75 (40 * p + i))) i = g 75 (40 * s + i))) m = none)) 24) >>> (nI q &&& 31)) &&& 1 = 1) && decide (xshw h (q / 4) (q % 4) (fup (fun i => xN (g 75 (40 * p + i))) m j) m = nI i)) y + 1 from by rw [xcnt_s]; simp only [decide_eq_true (xif1 g132), decide_eq_true g155, Bool.and_true, cond_true]] at ih13
                      exact ih13
          · have g64 := xf_ge h64
            exact absurd g64 hbc
        · have g41 := xf_ne h41
          exfalso; have := (nI_eq (b := 12) (by omega) (by omega)).mp g41; omega
      · have g24 := xf_ge h24
        exfalso; first | exact absurd g24 (by decide) | (simp (disch := omega) only [Int32.lt_iff_toInt_lt, Int32.le_iff_toInt_le, nI_toInt, Int32.reduceToInt] at g24 <;> omega)
    · have g11 := xf_ne h11
      exfalso; first | exact absurd g11 (by decide) | (simp (disch := omega) only [Int32.lt_iff_toInt_lt, Int32.le_iff_toInt_le, nI_toInt, Int32.reduceToInt] at g11 <;> omega)

end
