/-! LimpMirrorModel: keeps, still -/
theorem xfw_n {p : Nat → Bool} {st : Nat → Nat} {n : Nat} (h : p n = false) : xfw p st (n + 1) = xfw p st n := by
  rw [xfw_s, h]
  rfl
theorem xfw_0 {p : Nat → Bool} {st : Nat → Nat} {n : Nat} (h : p n = true) (h0 : xfw p st n = none) : xfw p st (n + 1) = some (st n) := by
  rw [xfw_s, h, h0]
  rfl
theorem xfw_l {p : Nat → Bool} {st : Nat → Nat} {n d : Nat} (h : p n = true) (h0 : xfw p st n = some d) (hl : st n < d) : xfw p st (n + 1) = some (st n) := by
  rw [xfw_s, h, h0]
  show some (if st n < d then st n else d) = _
  rw [if_pos hl]
theorem xfw_g {p : Nat → Bool} {st : Nat → Nat} {n d : Nat} (h : p n = true) (h0 : xfw p st n = some d) (hl : ¬ st n < d) : xfw p st (n + 1) = some d := by
  rw [xfw_s, h, h0]
  show some (if st n < d then st n else d) = _
  rw [if_neg hl]

section
variable {k a c n n2 m t p s d i1 j1 : Nat} {b : Nat × Nat} {g : Nat → Nat → Int32} {l : Nat → Nat → Int64} {i j x y z v w : Int32} {u w1 w2 : Int64}
variable {L G T e1 q1 κ δ : Nat} {Lw f f2 : Nat → Nat} {h tx F4 Rw Rw2 O : Nat → Int32}
set_option maxRecDepth 10000 in
theorem c_X12_keeps_bad (hR : xRr g h tx G T Lw) (hx : ¬ ((0 ≤ x ∧ x < nI G) ∧ 0 ≤ y ∧ y ≤ 5)) : xT (k + 6) 219 [.ref 73, .int x, .int y] (xH b g l) (fun r M' => M' = xH b g l ∧ r = some (.int (-1))) := by
  refine xT.of rfl (Nat.le_of_ble_eq_true rfl) ?_
  change xS _ _ 0 [(0, .ref 73), (1, .int x), (2, .int y)] [] _ _
  refine xS.s1 rfl rfl ?_
  try dsimp only [Nat.reduceAdd]
  refine xS.s1 rfl rfl ?_
  try dsimp only [Nat.reduceAdd]
  -- 2 yX12_isGlass
  refine xS.cv rfl rfl rfl rfl rfl rfl ⟨by decide, rfl, rfl⟩ (c_X12_isGlass hR.1.1 hR.1.2) (fun v M1 hv => ?_)
  rw [hv.1, hv.2]
  clear hv M1 v
  try dsimp only [Nat.reduceAdd, Option.toList, List.cons_append, List.nil_append, List.drop]
  refine xS.br0 (c := .eq) (off := 12) (l := 3) rfl rfl (fun h5 => ?_) (fun h5 => ?_)
  · have g5 := xt_eq h5
    refine xS.s1 rfl rfl ?_
    try dsimp only [Nat.reduceAdd, xi_m1]
    refine xS.ret rfl rfl rfl (fun _ _ => rfl) ?_
    exact ⟨rfl, rfl⟩
  · have g5 := xf_eq h5
    refine xS.s1 rfl rfl ?_
    try dsimp only [Nat.reduceAdd]
    refine xS.s1 rfl rfl ?_
    try dsimp only [Nat.reduceAdd, xi_0]
    refine xS.s1 rfl rfl ?_
    try dsimp only [Nat.reduceAdd, xi_5]
    -- 11 yX12_in
    refine xS.callS rfl rfl rfl ⟨Nat.le_of_ble_eq_true rfl, rfl⟩ c_in_x (fun v M1 hv => ?_)
    rw [hv.1, hv.2]
    clear hv M1 v
    try dsimp only [Nat.reduceAdd, Option.toList, List.cons_append, List.nil_append, List.drop]
    refine xS.br0 (c := .ne) (off := 5) (l := 3) rfl rfl (fun h14 => ?_) (fun h14 => ?_)
    · have g14 := xt_ne h14
      exact absurd ⟨xif1 g5, xif1 g14⟩ hx
    · have g14 := xf_ne h14
      refine xS.s1 rfl rfl ?_
      try dsimp only [Nat.reduceAdd, xi_m1]
      refine xS.ret rfl rfl rfl (fun _ _ => rfl) ?_
      exact ⟨rfl, rfl⟩

set_option maxRecDepth 10000 in
theorem c_X12_still_bad (hR : xRr g h tx G T Lw) (hx : ¬ ((0 ≤ x ∧ x < nI G) ∧ 0 ≤ y ∧ y ≤ 5)) : xT (k + 6) 220 [.ref 73, .int x, .int y] (xH b g l) (fun r M' => M' = xH b g l ∧ r = some (.int (-1))) := by
  refine xT.of rfl (Nat.le_of_ble_eq_true rfl) ?_
  change xS _ _ 0 [(0, .ref 73), (1, .int x), (2, .int y)] [] _ _
  refine xS.s1 rfl rfl ?_
  try dsimp only [Nat.reduceAdd]
  refine xS.s1 rfl rfl ?_
  try dsimp only [Nat.reduceAdd]
  -- 2 yX12_isGlass
  refine xS.cv rfl rfl rfl rfl rfl rfl ⟨by decide, rfl, rfl⟩ (c_X12_isGlass hR.1.1 hR.1.2) (fun v M1 hv => ?_)
  rw [hv.1, hv.2]
  clear hv M1 v
  try dsimp only [Nat.reduceAdd, Option.toList, List.cons_append, List.nil_append, List.drop]
  refine xS.br0 (c := .eq) (off := 12) (l := 3) rfl rfl (fun h5 => ?_) (fun h5 => ?_)
  · have g5 := xt_eq h5
    refine xS.s1 rfl rfl ?_
    try dsimp only [Nat.reduceAdd, xi_m1]
    refine xS.ret rfl rfl rfl (fun _ _ => rfl) ?_
    exact ⟨rfl, rfl⟩
  · have g5 := xf_eq h5
    refine xS.s1 rfl rfl ?_
    try dsimp only [Nat.reduceAdd]
    refine xS.s1 rfl rfl ?_
    try dsimp only [Nat.reduceAdd, xi_0]
    refine xS.s1 rfl rfl ?_
    try dsimp only [Nat.reduceAdd, xi_5]
    -- 11 yX12_in
    refine xS.callS rfl rfl rfl ⟨Nat.le_of_ble_eq_true rfl, rfl⟩ c_in_x (fun v M1 hv => ?_)
    rw [hv.1, hv.2]
    clear hv M1 v
    try dsimp only [Nat.reduceAdd, Option.toList, List.cons_append, List.nil_append, List.drop]
    refine xS.br0 (c := .ne) (off := 5) (l := 3) rfl rfl (fun h14 => ?_) (fun h14 => ?_)
    · have g14 := xt_ne h14
      exact absurd ⟨xif1 g5, xif1 g14⟩ hx
    · have g14 := xf_ne h14
      refine xS.s1 rfl rfl ?_
      try dsimp only [Nat.reduceAdd, xi_m1]
      refine xS.ret rfl rfl rfl (fun _ _ => rfl) ?_
      exact ⟨rfl, rfl⟩

set_option maxRecDepth 10000 in
theorem c_X12_keeps_0 (hR : xRr g h tx G T Lw) (hk : s < G) (hn : n ≤ 5) (hn0 : n = 0) : xT (k + 6) 219 [.ref 73, .int (nI s), .int (nI n)] (xH b g l) (fun r M' => ∃ g0, xFr g g0 ∧ M' = xH b (up g0 73 20 (0 : Int32)) (up (up l 73 21 (lN (xcnt (fun c => decide (xfst (fun i => !decide (xfb tx T (nI (xd6 n c i)) (xshw h (Lw s / 4) (Lw s % 4) (xd6 n c) i) = none)) n = none)) (6 ^ n) / 1))) 73 22 1) ∧ r = some (.int 1)) := by
  refine xT.of rfl (Nat.le_of_ble_eq_true rfl) ?_
  change xS _ _ 0 [(0, .ref 73), (1, .int (nI s)), (2, .int (nI n))] [] _ _
  refine xS.s1 rfl rfl ?_
  try dsimp only [Nat.reduceAdd]
  refine xS.s1 rfl rfl ?_
  try dsimp only [Nat.reduceAdd]
  -- 2 yX12_isGlass
  refine xS.cv rfl rfl rfl rfl rfl rfl ⟨by decide, rfl, rfl⟩ (c_X12_isGlass_in hR.1.1 hR.1.2 hk) (fun v M1 hv => ?_)
  rw [hv.1, hv.2]
  clear hv M1 v
  try dsimp only [Nat.reduceAdd, Option.toList, List.cons_append, List.nil_append, List.drop]
  refine xS.br0 (c := .eq) (off := 12) (l := 3) rfl rfl (fun h5 => ?_) (fun h5 => ?_)
  · have g5 := xt_eq h5
    exfalso; first | exact absurd g5 (by decide) | (simp (disch := omega) only [Int32.lt_iff_toInt_lt, Int32.le_iff_toInt_le, nI_toInt, Int32.reduceToInt] at g5 <;> omega)
  · have g5 := xf_eq h5
    refine xS.s1 rfl rfl ?_
    try dsimp only [Nat.reduceAdd]
    refine xS.s1 rfl rfl ?_
    try dsimp only [Nat.reduceAdd, xi_0]
    refine xS.s1 rfl rfl ?_
    try dsimp only [Nat.reduceAdd, xi_5]
    -- 11 yX12_in
    refine xS.callS rfl rfl rfl ⟨Nat.le_of_ble_eq_true rfl, rfl⟩ (c_in_n1 (s := 0) (m := 5) (by omega) hn (by decide)) (fun v M1 hv => ?_)
    rw [hv.1, hv.2]
    clear hv M1 v
    try dsimp only [Nat.reduceAdd, Option.toList, List.cons_append, List.nil_append, List.drop]
    refine xS.br0 (c := .ne) (off := 5) (l := 3) rfl rfl (fun h14 => ?_) (fun h14 => ?_)
    · have g14 := xt_ne h14
      refine xS.s1 rfl rfl ?_
      try dsimp only [Nat.reduceAdd, xi_0]
      refine xS.s1 rfl rfl ?_
      try dsimp only [Nat.reduceAdd]
      refine xS.s1 rfl rfl ?_
      try dsimp only [Nat.reduceAdd, xi_0]
      refine xS.s1 rfl rfl ?_
      try dsimp only [Nat.reduceAdd]
      refine xS.s1 rfl rfl ?_
      try dsimp only [Nat.reduceAdd, xi_0]
      refine xS.s1 rfl rfl ?_
      try dsimp only [Nat.reduceAdd]
      refine xS.pick [0, 2, 1, 3, 4, 5] rfl ?_
      refine xS.loop (σ := Nat → Nat → Int32) (6 ^ n) (fun j S => [(5, .int (nI j)), (3, .int (nI (xcnt (fun c => decide (xfst (fun i => !decide (xfb tx T (nI (xd6 n c i)) (xshw h (Lw s / 4) (Lw s % 4) (xd6 n c) i) = none)) n = none)) j))), (4, .int (0 : Int32)), (0, .ref 73), (1, .int (nI s)), (2, .int (nI n))]) (fun _ S => xH b S l) (fun _ S => ∀ a, a ≠ 90 → S a = g a) (g) (rfl) (rfl) (fun _ _ => rfl) ?_
      intro j S hj hI ih
      try dsimp only
      have hp6 := pow6 (n := n) (by omega)
      have hRj : xRr S h tx G T Lw := xRr_fr (by rw [hI 73 (by decide)]) (by rw [hI 73 (by decide)]) (hI 81 (by decide)) (hI 82 (by decide)) (hI 83 (by decide)) hR
      refine xS.s1 rfl rfl ?_
      try dsimp only [Nat.reduceAdd]
      refine xS.s1 rfl rfl ?_
      try dsimp only [Nat.reduceAdd]
      -- 30 yX12_rowsOf
      refine xS.callS rfl rfl rfl ⟨Nat.le_of_ble_eq_true rfl, rfl⟩ (c_X12_rowsOf (by omega)) (fun v M1 hv => ?_)
      rw [hv.1, hv.2]
      clear hv M1 v
      try dsimp only [Nat.reduceAdd, Option.toList, List.cons_append, List.nil_append, List.drop]
      refine xS.br (c := .ge) (off := 49) (l := 3) rfl rfl (fun h33 => ?_) (fun h33 => ?_)
      · have g33 := xt_ge h33
        have e := xnle (b := 6 ^ n) g33 (by omega) (by omega)
        have e2 : 6 ^ n = j := by omega
        rw [← e2]
        have hcl := xcnt_le (fun c => decide (xfst (fun i => !decide (xfb tx T (nI (xd6 n c i)) (xshw h (Lw s / 4) (Lw s % 4) (xd6 n c) i) = none)) n = none)) (6 ^ n)
        refine xS.s1 rfl rfl ?_
        try dsimp only [Nat.reduceAdd]
        refine xS.s1 rfl rfl ?_
        try dsimp only [Nat.reduceAdd]
        refine xS.s1 rfl rfl ?_
        try dsimp only [Nat.reduceAdd]
        rw [nI_l (by omega)]
        refine xS.s1 rfl rfl ?_
        try dsimp only [Nat.reduceAdd]
        -- 86 yX12_tellParts
        refine xS.cv rfl rfl rfl rfl rfl rfl ⟨by decide, rfl, rfl⟩ (c_X12_tellParts (p := xcnt (fun c => decide (xfst (fun i => !decide (xfb tx T (nI (xd6 n c i)) (xshw h (Lw s / 4) (Lw s % 4) (xd6 n c) i) = none)) n = none)) (6 ^ n)) (d := 1) (by omega) (by omega) (by omega)) (fun v M1 hv => ?_)
        rw [hv.1, hv.2, Nat.gcd_one_right]
        clear hv M1 v
        try dsimp only [Nat.reduceAdd, Option.toList, List.cons_append, List.nil_append, List.drop]
        refine xS.s1 rfl rfl ?_
        try dsimp only [Nat.reduceAdd]
        refine xS.s1 rfl rfl ?_
        try dsimp only [Nat.reduceAdd]
        -- 92 yX12_tells
        refine xS.cv rfl rfl rfl rfl rfl rfl ⟨by decide, rfl, rfl⟩ c_X12_tells (fun v M1 hv => ?_)
        rw [hv.1, hv.2]
        clear hv M1 v
        try dsimp only [Nat.reduceAdd, Option.toList, List.cons_append, List.nil_append, List.drop]
        refine xS.ret rfl rfl rfl (fun _ _ => rfl) ?_
        exact ⟨S, ⟨fun a h1 h2 => hI a (by omega), fun i _ => by rw [hI 73 (by decide)]⟩, rfl, rfl⟩
      · have g33 := xf_ge h33
        have hlt := xnlt (b := 6 ^ n) g33 (by omega) (by omega)
        refine xS.s1 rfl rfl ?_
        try dsimp only [Nat.reduceAdd]
        refine xS.s1 rfl rfl ?_
        try dsimp only [Nat.reduceAdd]
        refine xS.s1 rfl rfl ?_
        try dsimp only [Nat.reduceAdd]
        -- 40 yX12_layDoings
        refine xS.cv rfl rfl rfl rfl rfl rfl ⟨by decide, rfl, rfl⟩ (c_X12_layDoings (by omega) (by omega)) (fun v M1 hv => ?_)
        rw [hv.1, hv.2]
        clear hv M1 v
        have hRg : xRr (glay S n j n) h tx G T Lw := xRr_fr (by rw [glay_na (by decide)]) (by rw [glay_na (by decide)]) (glay_na (by decide)) (glay_na (by decide)) (glay_na (by decide)) hRj
        try dsimp only [Nat.reduceAdd, Option.toList, List.cons_append, List.nil_append, List.drop]
        refine xS.s1 rfl rfl ?_
        try dsimp only [Nat.reduceAdd]
        refine xS.s1 rfl rfl ?_
        try dsimp only [Nat.reduceAdd]
        refine xS.s1 rfl rfl ?_
        try dsimp only [Nat.reduceAdd]
        -- 46 yX12_breaksNone
        refine xS.cv rfl rfl rfl rfl rfl rfl ⟨by decide, rfl, rfl⟩ (c_X12_breaksNone (f := xd6 n j) hRg hk (by omega) (fun u hu => ⟨glay_in hu, xd6_lt _ _ _⟩)) (fun v M1 hv => ?_)
        rw [hv.1, hv.2]
        clear hv M1 v
        try dsimp only [Nat.reduceAdd, Option.toList, List.cons_append, List.nil_append, List.drop]
        refine xS.br0 (c := .eq) (off := 27) (l := 3) rfl rfl (fun h49 => ?_) (fun h49 => ?_)
        · have g49 := xt_eq h49
          refine xS.s1 rfl rfl ?_
          try dsimp only [Nat.reduceAdd, xi_1]
          rw [nI_1]
          refine xS.s1 rfl rfl ?_
          try dsimp only [Nat.reduceAdd]
          refine xS.pick [0, 1, 2, 3, 4, 5] rfl ?_
          have ih2 := ih (glay S n j n) (by omega) (fun a ha => by rw [glay_na ha, hI a ha])
          have q49 := decide_eq_false (xif0 g49)
          rw [show xcnt (fun c => decide (xfst (fun i => !decide (xfb tx T (nI (xd6 n c i)) (xshw h (Lw s / 4) (Lw s % 4) (xd6 n c) i) = none)) n = none)) (j + 1) = xcnt (fun c => decide (xfst (fun i => !decide (xfb tx T (nI (xd6 n c i)) (xshw h (Lw s / 4) (Lw s % 4) (xd6 n c) i) = none)) n = none)) j from by rw [xcnt_s]; simp only [q49, cond_false]] at ih2
          exact ih2
        · have g49 := xf_eq h49
          refine xS.s1 rfl rfl ?_
          try dsimp only [Nat.reduceAdd, xi_1]
          rw [nI_1]
          refine xS.s1 rfl rfl ?_
          try dsimp only [Nat.reduceAdd]
          refine xS.s1 rfl rfl ?_
          try dsimp only [Nat.reduceAdd]
          refine xS.br0 (c := .le) (off := 14) (l := 3) rfl rfl (fun h58 => ?_) (fun h58 => ?_)
          · have g58 := xt_le h58
            refine xS.s1 rfl rfl ?_
            try dsimp only [Nat.reduceAdd, xi_0]
            refine xS.s1 rfl rfl ?_
            try dsimp only [Nat.reduceAdd]
            refine xS.s1 rfl rfl ?_
            try dsimp only [Nat.reduceAdd]
            refine xS.s1 rfl rfl ?_
            try dsimp only [Nat.reduceAdd, xi_1]
            rw [nI_1]
            refine xS.s1 rfl rfl ?_
            try dsimp only [Nat.reduceAdd]
            refine xS.pick [0, 2, 1, 3, 4, 5] rfl ?_
            rw [xor0]
            have ih2 := ih (glay S n j n) (by omega) (fun a ha => by rw [glay_na ha, hI a ha])
            have q49 := decide_eq_true (xif1 g49)
            rw [show xcnt (fun c => decide (xfst (fun i => !decide (xfb tx T (nI (xd6 n c i)) (xshw h (Lw s / 4) (Lw s % 4) (xd6 n c) i) = none)) n = none)) (j + 1) = xcnt (fun c => decide (xfst (fun i => !decide (xfb tx T (nI (xd6 n c i)) (xshw h (Lw s / 4) (Lw s % 4) (xd6 n c) i) = none)) n = none)) j + 1 from by rw [xcnt_s]; simp only [q49, cond_true]] at ih2
            exact ih2
          · have g58 := xf_le h58
            exfalso; rw [hn0] at g58; exact absurd g58 (by decide)
    · have g14 := xf_ne h14
      exfalso; first | exact absurd g14 (by decide) | (simp (disch := omega) only [Int32.lt_iff_toInt_lt, Int32.le_iff_toInt_le, nI_toInt, Int32.reduceToInt] at g14 <;> omega)

set_option maxRecDepth 10000 in
theorem c_X12_keeps_ok (hR : xRr g h tx G T Lw) (hk : s < G) (hn : n ≤ 5) (hn0 : 0 < n) : xT (k + 6) 219 [.ref 73, .int (nI s), .int (nI n)] (xH b g l) (fun r M' => ∃ g0, xFr g g0 ∧ M' = xH b (up g0 73 20 (xorf (fun c => decide (xfst (fun i => !decide (xfb tx T (nI (xd6 n c i)) (xshw h (Lw s / 4) (Lw s % 4) (xd6 n c) i) = none)) n = none)) (fun c => xd6 n c 0) (6 ^ n))) (up (up l 73 21 (lN (xcnt (fun c => decide (xfst (fun i => !decide (xfb tx T (nI (xd6 n c i)) (xshw h (Lw s / 4) (Lw s % 4) (xd6 n c) i) = none)) n = none)) (6 ^ n) / 1))) 73 22 1) ∧ r = some (.int 1)) := by
  refine xT.of rfl (Nat.le_of_ble_eq_true rfl) ?_
  change xS _ _ 0 [(0, .ref 73), (1, .int (nI s)), (2, .int (nI n))] [] _ _
  refine xS.s1 rfl rfl ?_
  try dsimp only [Nat.reduceAdd]
  refine xS.s1 rfl rfl ?_
  try dsimp only [Nat.reduceAdd]
  -- 2 yX12_isGlass
  refine xS.cv rfl rfl rfl rfl rfl rfl ⟨by decide, rfl, rfl⟩ (c_X12_isGlass_in hR.1.1 hR.1.2 hk) (fun v M1 hv => ?_)
  rw [hv.1, hv.2]
  clear hv M1 v
  try dsimp only [Nat.reduceAdd, Option.toList, List.cons_append, List.nil_append, List.drop]
  refine xS.br0 (c := .eq) (off := 12) (l := 3) rfl rfl (fun h5 => ?_) (fun h5 => ?_)
  · have g5 := xt_eq h5
    exfalso; first | exact absurd g5 (by decide) | (simp (disch := omega) only [Int32.lt_iff_toInt_lt, Int32.le_iff_toInt_le, nI_toInt, Int32.reduceToInt] at g5 <;> omega)
  · have g5 := xf_eq h5
    refine xS.s1 rfl rfl ?_
    try dsimp only [Nat.reduceAdd]
    refine xS.s1 rfl rfl ?_
    try dsimp only [Nat.reduceAdd, xi_0]
    refine xS.s1 rfl rfl ?_
    try dsimp only [Nat.reduceAdd, xi_5]
    -- 11 yX12_in
    refine xS.callS rfl rfl rfl ⟨Nat.le_of_ble_eq_true rfl, rfl⟩ (c_in_n1 (s := 0) (m := 5) (by omega) hn (by decide)) (fun v M1 hv => ?_)
    rw [hv.1, hv.2]
    clear hv M1 v
    try dsimp only [Nat.reduceAdd, Option.toList, List.cons_append, List.nil_append, List.drop]
    refine xS.br0 (c := .ne) (off := 5) (l := 3) rfl rfl (fun h14 => ?_) (fun h14 => ?_)
    · have g14 := xt_ne h14
      refine xS.s1 rfl rfl ?_
      try dsimp only [Nat.reduceAdd, xi_0]
      refine xS.s1 rfl rfl ?_
      try dsimp only [Nat.reduceAdd]
      refine xS.s1 rfl rfl ?_
      try dsimp only [Nat.reduceAdd, xi_0]
      refine xS.s1 rfl rfl ?_
      try dsimp only [Nat.reduceAdd]
      refine xS.s1 rfl rfl ?_
      try dsimp only [Nat.reduceAdd, xi_0]
      refine xS.s1 rfl rfl ?_
      try dsimp only [Nat.reduceAdd]
      refine xS.pick [0, 2, 1, 3, 4, 5] rfl ?_
      refine xS.loop (σ := Nat → Nat → Int32) (6 ^ n) (fun j S => [(5, .int (nI j)), (3, .int (nI (xcnt (fun c => decide (xfst (fun i => !decide (xfb tx T (nI (xd6 n c i)) (xshw h (Lw s / 4) (Lw s % 4) (xd6 n c) i) = none)) n = none)) j))), (4, .int (xorf (fun c => decide (xfst (fun i => !decide (xfb tx T (nI (xd6 n c i)) (xshw h (Lw s / 4) (Lw s % 4) (xd6 n c) i) = none)) n = none)) (fun c => xd6 n c 0) j)), (0, .ref 73), (1, .int (nI s)), (2, .int (nI n))]) (fun _ S => xH b S l) (fun _ S => ∀ a, a ≠ 90 → S a = g a) (g) (rfl) (rfl) (fun _ _ => rfl) ?_
      intro j S hj hI ih
      try dsimp only
      have hp6 := pow6 (n := n) (by omega)
      have hRj : xRr S h tx G T Lw := xRr_fr (by rw [hI 73 (by decide)]) (by rw [hI 73 (by decide)]) (hI 81 (by decide)) (hI 82 (by decide)) (hI 83 (by decide)) hR
      refine xS.s1 rfl rfl ?_
      try dsimp only [Nat.reduceAdd]
      refine xS.s1 rfl rfl ?_
      try dsimp only [Nat.reduceAdd]
      -- 30 yX12_rowsOf
      refine xS.callS rfl rfl rfl ⟨Nat.le_of_ble_eq_true rfl, rfl⟩ (c_X12_rowsOf (by omega)) (fun v M1 hv => ?_)
      rw [hv.1, hv.2]
      clear hv M1 v
      try dsimp only [Nat.reduceAdd, Option.toList, List.cons_append, List.nil_append, List.drop]
      refine xS.br (c := .ge) (off := 49) (l := 3) rfl rfl (fun h33 => ?_) (fun h33 => ?_)
      · have g33 := xt_ge h33
        have e := xnle (b := 6 ^ n) g33 (by omega) (by omega)
        have e2 : 6 ^ n = j := by omega
        rw [← e2]
        have hcl := xcnt_le (fun c => decide (xfst (fun i => !decide (xfb tx T (nI (xd6 n c i)) (xshw h (Lw s / 4) (Lw s % 4) (xd6 n c) i) = none)) n = none)) (6 ^ n)
        refine xS.s1 rfl rfl ?_
        try dsimp only [Nat.reduceAdd]
        refine xS.s1 rfl rfl ?_
        try dsimp only [Nat.reduceAdd]
        refine xS.s1 rfl rfl ?_
        try dsimp only [Nat.reduceAdd]
        rw [nI_l (by omega)]
        refine xS.s1 rfl rfl ?_
        try dsimp only [Nat.reduceAdd]
        -- 86 yX12_tellParts
        refine xS.cv rfl rfl rfl rfl rfl rfl ⟨by decide, rfl, rfl⟩ (c_X12_tellParts (p := xcnt (fun c => decide (xfst (fun i => !decide (xfb tx T (nI (xd6 n c i)) (xshw h (Lw s / 4) (Lw s % 4) (xd6 n c) i) = none)) n = none)) (6 ^ n)) (d := 1) (by omega) (by omega) (by omega)) (fun v M1 hv => ?_)
        rw [hv.1, hv.2, Nat.gcd_one_right]
        clear hv M1 v
        try dsimp only [Nat.reduceAdd, Option.toList, List.cons_append, List.nil_append, List.drop]
        refine xS.s1 rfl rfl ?_
        try dsimp only [Nat.reduceAdd]
        refine xS.s1 rfl rfl ?_
        try dsimp only [Nat.reduceAdd]
        -- 92 yX12_tells
        refine xS.cv rfl rfl rfl rfl rfl rfl ⟨by decide, rfl, rfl⟩ c_X12_tells (fun v M1 hv => ?_)
        rw [hv.1, hv.2]
        clear hv M1 v
        try dsimp only [Nat.reduceAdd, Option.toList, List.cons_append, List.nil_append, List.drop]
        refine xS.ret rfl rfl rfl (fun _ _ => rfl) ?_
        exact ⟨S, ⟨fun a h1 h2 => hI a (by omega), fun i _ => by rw [hI 73 (by decide)]⟩, rfl, rfl⟩
      · have g33 := xf_ge h33
        have hlt := xnlt (b := 6 ^ n) g33 (by omega) (by omega)
        refine xS.s1 rfl rfl ?_
        try dsimp only [Nat.reduceAdd]
        refine xS.s1 rfl rfl ?_
        try dsimp only [Nat.reduceAdd]
        refine xS.s1 rfl rfl ?_
        try dsimp only [Nat.reduceAdd]
        -- 40 yX12_layDoings
        refine xS.cv rfl rfl rfl rfl rfl rfl ⟨by decide, rfl, rfl⟩ (c_X12_layDoings (by omega) (by omega)) (fun v M1 hv => ?_)
        rw [hv.1, hv.2]
        clear hv M1 v
        have hRg : xRr (glay S n j n) h tx G T Lw := xRr_fr (by rw [glay_na (by decide)]) (by rw [glay_na (by decide)]) (glay_na (by decide)) (glay_na (by decide)) (glay_na (by decide)) hRj
        try dsimp only [Nat.reduceAdd, Option.toList, List.cons_append, List.nil_append, List.drop]
        refine xS.s1 rfl rfl ?_
        try dsimp only [Nat.reduceAdd]
        refine xS.s1 rfl rfl ?_
        try dsimp only [Nat.reduceAdd]
        refine xS.s1 rfl rfl ?_
        try dsimp only [Nat.reduceAdd]
        -- 46 yX12_breaksNone
        refine xS.cv rfl rfl rfl rfl rfl rfl ⟨by decide, rfl, rfl⟩ (c_X12_breaksNone (f := xd6 n j) hRg hk (by omega) (fun u hu => ⟨glay_in hu, xd6_lt _ _ _⟩)) (fun v M1 hv => ?_)
        rw [hv.1, hv.2]
        clear hv M1 v
        try dsimp only [Nat.reduceAdd, Option.toList, List.cons_append, List.nil_append, List.drop]
        refine xS.br0 (c := .eq) (off := 27) (l := 3) rfl rfl (fun h49 => ?_) (fun h49 => ?_)
        · have g49 := xt_eq h49
          refine xS.s1 rfl rfl ?_
          try dsimp only [Nat.reduceAdd, xi_1]
          rw [nI_1]
          refine xS.s1 rfl rfl ?_
          try dsimp only [Nat.reduceAdd]
          refine xS.pick [0, 1, 2, 3, 4, 5] rfl ?_
          have ih2 := ih (glay S n j n) (by omega) (fun a ha => by rw [glay_na ha, hI a ha])
          have q49 := decide_eq_false (xif0 g49)
          rw [show xcnt (fun c => decide (xfst (fun i => !decide (xfb tx T (nI (xd6 n c i)) (xshw h (Lw s / 4) (Lw s % 4) (xd6 n c) i) = none)) n = none)) (j + 1) = xcnt (fun c => decide (xfst (fun i => !decide (xfb tx T (nI (xd6 n c i)) (xshw h (Lw s / 4) (Lw s % 4) (xd6 n c) i) = none)) n = none)) j from by rw [xcnt_s]; simp only [q49, cond_false], show xorf (fun c => decide (xfst (fun i => !decide (xfb tx T (nI (xd6 n c i)) (xshw h (Lw s / 4) (Lw s % 4) (xd6 n c) i) = none)) n = none)) (fun c => xd6 n c 0) (j + 1) = xorf (fun c => decide (xfst (fun i => !decide (xfb tx T (nI (xd6 n c i)) (xshw h (Lw s / 4) (Lw s % 4) (xd6 n c) i) = none)) n = none)) (fun c => xd6 n c 0) j from by rw [xorf_s]; simp only [q49, cond_false]] at ih2
          exact ih2
        · have g49 := xf_eq h49
          refine xS.s1 rfl rfl ?_
          try dsimp only [Nat.reduceAdd, xi_1]
          rw [nI_1]
          refine xS.s1 rfl rfl ?_
          try dsimp only [Nat.reduceAdd]
          refine xS.s1 rfl rfl ?_
          try dsimp only [Nat.reduceAdd]
          refine xS.br0 (c := .le) (off := 14) (l := 3) rfl rfl (fun h58 => ?_) (fun h58 => ?_)
          · have g58 := xt_le h58
            exact absurd (xn0 g58 (by omega)) (by omega)
          · have g58 := xf_le h58
            refine xS.s1 rfl rfl ?_
            try dsimp only [Nat.reduceAdd, xi_1]
            refine xS.s1 rfl rfl ?_
            try dsimp only [Nat.reduceAdd]
            refine xS.gR rfl rfl rfl ⟨by decide, rfl⟩ rfl ?_
            try dsimp only [Nat.reduceAdd]
            refine xS.s1 rfl rfl ?_
            try dsimp only [Nat.reduceAdd, xi_0]
            refine xS.ia (t := 0) rfl xar_90 (by omega) ?_
            try dsimp only [Nat.reduceAdd]
            rw [glay_in hn0]
            refine xS.s1 rfl rfl ?_
            try dsimp only [Nat.reduceAdd]
            refine xS.s1 rfl rfl ?_
            try dsimp only [Nat.reduceAdd]
            refine xS.s1 rfl rfl ?_
            try dsimp only [Nat.reduceAdd]
            refine xS.s1 rfl rfl ?_
            try dsimp only [Nat.reduceAdd]
            refine xS.s1 rfl rfl ?_
            try dsimp only [Nat.reduceAdd, xi_1]
            rw [nI_1]
            refine xS.s1 rfl rfl ?_
            try dsimp only [Nat.reduceAdd]
            refine xS.pick [0, 2, 1, 3, 4, 5] rfl ?_
            have ih2 := ih (glay S n j n) (by omega) (fun a ha => by rw [glay_na ha, hI a ha])
            have q49 := decide_eq_true (xif1 g49)
            rw [show xcnt (fun c => decide (xfst (fun i => !decide (xfb tx T (nI (xd6 n c i)) (xshw h (Lw s / 4) (Lw s % 4) (xd6 n c) i) = none)) n = none)) (j + 1) = xcnt (fun c => decide (xfst (fun i => !decide (xfb tx T (nI (xd6 n c i)) (xshw h (Lw s / 4) (Lw s % 4) (xd6 n c) i) = none)) n = none)) j + 1 from by rw [xcnt_s]; simp only [q49, cond_true], show xorf (fun c => decide (xfst (fun i => !decide (xfb tx T (nI (xd6 n c i)) (xshw h (Lw s / 4) (Lw s % 4) (xd6 n c) i) = none)) n = none)) (fun c => xd6 n c 0) (j + 1) = xorf (fun c => decide (xfst (fun i => !decide (xfb tx T (nI (xd6 n c i)) (xshw h (Lw s / 4) (Lw s % 4) (xd6 n c) i) = none)) n = none)) (fun c => xd6 n c 0) j ||| (1 <<< (nI (xd6 n j 0) &&& 31)) from by rw [xorf_s]; simp only [q49, cond_true]] at ih2
            exact ih2
    · have g14 := xf_ne h14
      exfalso; first | exact absurd g14 (by decide) | (simp (disch := omega) only [Int32.lt_iff_toInt_lt, Int32.le_iff_toInt_le, nI_toInt, Int32.reduceToInt] at g14 <;> omega)

set_option maxRecDepth 10000 in
theorem c_X12_still_ok (hR : xRr g h tx G T Lw) (hk : s < G) (hn : n ≤ 5) : xT (k + 6) 220 [.ref 73, .int (nI s), .int (nI n)] (xH b g l) (fun r M' => ∃ g0, xFr g g0 ∧ M' = xH b g0 l ∧ r = some (.int (xfI (xfw (fun c => decide (xfst (fun i => !decide (xfb tx T (nI (xd6 n c i)) (xshw h (Lw s / 4) (Lw s % 4) (xd6 n c) i) = none)) n = none)) (fun c => xcnt (fun i => decide (xd6 n c i = 0)) n) (6 ^ n))))) := by
  refine xT.of rfl (Nat.le_of_ble_eq_true rfl) ?_
  change xS _ _ 0 [(0, .ref 73), (1, .int (nI s)), (2, .int (nI n))] [] _ _
  refine xS.s1 rfl rfl ?_
  try dsimp only [Nat.reduceAdd]
  refine xS.s1 rfl rfl ?_
  try dsimp only [Nat.reduceAdd]
  -- 2 yX12_isGlass
  refine xS.cv rfl rfl rfl rfl rfl rfl ⟨by decide, rfl, rfl⟩ (c_X12_isGlass_in hR.1.1 hR.1.2 hk) (fun v M1 hv => ?_)
  rw [hv.1, hv.2]
  clear hv M1 v
  try dsimp only [Nat.reduceAdd, Option.toList, List.cons_append, List.nil_append, List.drop]
  refine xS.br0 (c := .eq) (off := 12) (l := 3) rfl rfl (fun h5 => ?_) (fun h5 => ?_)
  · have g5 := xt_eq h5
    exfalso; first | exact absurd g5 (by decide) | (simp (disch := omega) only [Int32.lt_iff_toInt_lt, Int32.le_iff_toInt_le, nI_toInt, Int32.reduceToInt] at g5 <;> omega)
  · have g5 := xf_eq h5
    refine xS.s1 rfl rfl ?_
    try dsimp only [Nat.reduceAdd]
    refine xS.s1 rfl rfl ?_
    try dsimp only [Nat.reduceAdd, xi_0]
    refine xS.s1 rfl rfl ?_
    try dsimp only [Nat.reduceAdd, xi_5]
    -- 11 yX12_in
    refine xS.callS rfl rfl rfl ⟨Nat.le_of_ble_eq_true rfl, rfl⟩ (c_in_n1 (s := 0) (m := 5) (by omega) hn (by decide)) (fun v M1 hv => ?_)
    rw [hv.1, hv.2]
    clear hv M1 v
    try dsimp only [Nat.reduceAdd, Option.toList, List.cons_append, List.nil_append, List.drop]
    refine xS.br0 (c := .ne) (off := 5) (l := 3) rfl rfl (fun h14 => ?_) (fun h14 => ?_)
    · have g14 := xt_ne h14
      refine xS.s1 rfl rfl ?_
      try dsimp only [Nat.reduceAdd, xj_m9]
      refine xS.s1 rfl rfl ?_
      try dsimp only [Nat.reduceAdd]
      refine xS.s1 rfl rfl ?_
      try dsimp only [Nat.reduceAdd, xi_0]
      refine xS.s1 rfl rfl ?_
      try dsimp only [Nat.reduceAdd]
      refine xS.pick [0, 1, 2, 3, 4] rfl ?_
      refine xS.loop (σ := Nat → Nat → Int32) (6 ^ n) (fun j S => [(4, .int (nI j)), (3, .int (xfI (xfw (fun c => decide (xfst (fun i => !decide (xfb tx T (nI (xd6 n c i)) (xshw h (Lw s / 4) (Lw s % 4) (xd6 n c) i) = none)) n = none)) (fun c => xcnt (fun i => decide (xd6 n c i = 0)) n) j))), (0, .ref 73), (1, .int (nI s)), (2, .int (nI n))]) (fun _ S => xH b S l) (fun _ S => ∀ a, a ≠ 90 → S a = g a) (g) (rfl) (rfl) (fun _ _ => rfl) ?_
      intro j S hj hI ih
      try dsimp only
      have hp6 := pow6 (n := n) (by omega)
      have hRj : xRr S h tx G T Lw := xRr_fr (by rw [hI 73 (by decide)]) (by rw [hI 73 (by decide)]) (hI 81 (by decide)) (hI 82 (by decide)) (hI 83 (by decide)) hR
      have hfb : ∀ d9, (xfw (fun c => decide (xfst (fun i => !decide (xfb tx T (nI (xd6 n c i)) (xshw h (Lw s / 4) (Lw s % 4) (xd6 n c) i) = none)) n = none)) (fun c => xcnt (fun i => decide (xd6 n c i = 0)) n) j) = some d9 → d9 < 2 ^ 31 := fun d9 e9 => by have := xfw_b (p := (fun c => decide (xfst (fun i => !decide (xfb tx T (nI (xd6 n c i)) (xshw h (Lw s / 4) (Lw s % 4) (xd6 n c) i) = none)) n = none))) (st := (fun c => xcnt (fun i => decide (xd6 n c i = 0)) n)) (q := n) (fun c => xcnt_le _ _) j d9 e9; omega
      refine xS.s1 rfl rfl ?_
      try dsimp only [Nat.reduceAdd]
      refine xS.s1 rfl rfl ?_
      try dsimp only [Nat.reduceAdd]
      -- 28 yX12_rowsOf
      refine xS.callS rfl rfl rfl ⟨Nat.le_of_ble_eq_true rfl, rfl⟩ (c_X12_rowsOf (by omega)) (fun v M1 hv => ?_)
      rw [hv.1, hv.2]
      clear hv M1 v
      try dsimp only [Nat.reduceAdd, Option.toList, List.cons_append, List.nil_append, List.drop]
      refine xS.br (c := .ge) (off := 80) (l := 3) rfl rfl (fun h31 => ?_) (fun h31 => ?_)
      · have g31 := xt_ge h31
        have e := xnle (b := 6 ^ n) g31 (by omega) (by omega)
        have e2 : 6 ^ n = j := by omega
        rw [← e2]
        refine xS.s1 rfl rfl ?_
        try dsimp only [Nat.reduceAdd]
        refine xS.ret rfl rfl rfl (fun _ _ => rfl) ?_
        exact ⟨S, ⟨fun a h1 h2 => hI a (by omega), fun i _ => by rw [hI 73 (by decide)]⟩, rfl, rfl⟩
      · have g31 := xf_ge h31
        have hlt := xnlt (b := 6 ^ n) g31 (by omega) (by omega)
        refine xS.s1 rfl rfl ?_
        try dsimp only [Nat.reduceAdd]
        refine xS.s1 rfl rfl ?_
        try dsimp only [Nat.reduceAdd]
        refine xS.s1 rfl rfl ?_
        try dsimp only [Nat.reduceAdd]
        -- 38 yX12_layDoings
        refine xS.cv rfl rfl rfl rfl rfl rfl ⟨by decide, rfl, rfl⟩ (c_X12_layDoings (by omega) (by omega)) (fun v M1 hv => ?_)
        rw [hv.1, hv.2]
        clear hv M1 v
        have hRg : xRr (glay S n j n) h tx G T Lw := xRr_fr (by rw [glay_na (by decide)]) (by rw [glay_na (by decide)]) (glay_na (by decide)) (glay_na (by decide)) (glay_na (by decide)) hRj
        try dsimp only [Nat.reduceAdd, Option.toList, List.cons_append, List.nil_append, List.drop]
        refine xS.s1 rfl rfl ?_
        try dsimp only [Nat.reduceAdd]
        refine xS.s1 rfl rfl ?_
        try dsimp only [Nat.reduceAdd]
        refine xS.s1 rfl rfl ?_
        try dsimp only [Nat.reduceAdd]
        -- 44 yX12_breaksNone
        refine xS.cv rfl rfl rfl rfl rfl rfl ⟨by decide, rfl, rfl⟩ (c_X12_breaksNone (f := xd6 n j) hRg hk (by omega) (fun u hu => ⟨glay_in hu, xd6_lt _ _ _⟩)) (fun v M1 hv => ?_)
        rw [hv.1, hv.2]
        clear hv M1 v
        try dsimp only [Nat.reduceAdd, Option.toList, List.cons_append, List.nil_append, List.drop]
        refine xS.br0 (c := .eq) (off := 58) (l := 3) rfl rfl (fun h47 => ?_) (fun h47 => ?_)
        · have g47 := xt_eq h47
          refine xS.s1 rfl rfl ?_
          try dsimp only [Nat.reduceAdd, xi_1]
          rw [nI_1]
          refine xS.s1 rfl rfl ?_
          try dsimp only [Nat.reduceAdd]
          refine xS.pick [0, 1, 2, 3, 4] rfl ?_
          have ih2 := ih (glay S n j n) (by omega) (fun a ha => by rw [glay_na ha, hI a ha])
          rw [xfw_n (p := (fun c => decide (xfst (fun i => !decide (xfb tx T (nI (xd6 n c i)) (xshw h (Lw s / 4) (Lw s % 4) (xd6 n c) i) = none)) n = none))) (decide_eq_false (xif0 g47))] at ih2
          exact ih2
        · have g47 := xf_eq h47
          refine xS.s1 rfl rfl ?_
          try dsimp only [Nat.reduceAdd, xi_0]
          refine xS.s1 rfl rfl ?_
          try dsimp only [Nat.reduceAdd]
          refine xS.s1 rfl rfl ?_
          try dsimp only [Nat.reduceAdd, xi_0]
          refine xS.s1 rfl rfl ?_
          try dsimp only [Nat.reduceAdd]
          refine xS.pick [0, 1, 4, 5, 6, 3, 2] rfl ?_
          refine xS.loop (σ := Unit) (n) (fun i S => [(6, .int (nI i)), (5, .int (nI (xcnt (fun i => decide (xd6 n j i = 0)) i))), (0, .ref 73), (1, .int (nI s)), (2, .int (nI n)), (3, .int (xfI (xfw (fun c => decide (xfst (fun i => !decide (xfb tx T (nI (xd6 n c i)) (xshw h (Lw s / 4) (Lw s % 4) (xd6 n c) i) = none)) n = none)) (fun c => xcnt (fun i => decide (xd6 n c i = 0)) n) j))), (4, .int (nI j))]) (fun _ _ => xH b (glay S n j n) l) (fun _ _ => True) (()) (rfl) (rfl) (trivial) ?_
          intro i S2 hi hI9 ih2
          try dsimp only
          refine xS.s1 rfl rfl ?_
          try dsimp only [Nat.reduceAdd]
          refine xS.s1 rfl rfl ?_
          try dsimp only [Nat.reduceAdd]
          refine xS.br (c := .ge) (off := 29) (l := 3) rfl rfl (fun h59 => ?_) (fun h59 => ?_)
          · have g59 := xt_ge h59
            have e := xnle g59 (by omega) (by omega)
            have e3 : n = i := by omega
            rw [← e3]
            have hxc := xcnt_le (fun i => decide (xd6 n j i = 0)) n
            refine xS.s1 rfl rfl ?_
            try dsimp only [Nat.reduceAdd]
            refine xS.br0 (c := .lt) (off := 9) (l := 3) rfl rfl (fun h89 => ?_) (fun h89 => ?_)
            · have g89 := xt_lt h89
              refine xS.s1 rfl rfl ?_
              try dsimp only [Nat.reduceAdd]
              refine xS.s1 rfl rfl ?_
              try dsimp only [Nat.reduceAdd]
              refine xS.s1 rfl rfl ?_
              try dsimp only [Nat.reduceAdd]
              refine xS.s1 rfl rfl ?_
              try dsimp only [Nat.reduceAdd, xi_1]
              rw [nI_1]
              refine xS.s1 rfl rfl ?_
              try dsimp only [Nat.reduceAdd]
              refine xS.pick [0, 1, 4, 5, 6] rfl ?_
              have ih2 := ih (glay S n j n) (by omega) (fun a ha => by rw [glay_na ha, hI a ha])
              have q47 : (fun c => decide (xfst (fun i => !decide (xfb tx T (nI (xd6 n c i)) (xshw h (Lw s / 4) (Lw s % 4) (xd6 n c) i) = none)) n = none)) j = true := decide_eq_true (xif1 g47)
              rw [xfw_0 q47 ((xfI_neg hfb).mp g89)] at ih2
              exact ih2
            · have g89 := xf_lt h89
              refine xS.s1 rfl rfl ?_
              try dsimp only [Nat.reduceAdd]
              refine xS.s1 rfl rfl ?_
              try dsimp only [Nat.reduceAdd]
              refine xS.br (c := .ge) (off := 8) (l := 3) rfl rfl (fun h95 => ?_) (fun h95 => ?_)
              · have g95 := xt_ge h95
                refine xS.s1 rfl rfl ?_
                try dsimp only [Nat.reduceAdd]
                refine xS.s1 rfl rfl ?_
                try dsimp only [Nat.reduceAdd]
                refine xS.s1 rfl rfl ?_
                try dsimp only [Nat.reduceAdd, xi_1]
                rw [nI_1]
                refine xS.s1 rfl rfl ?_
                try dsimp only [Nat.reduceAdd]
                refine xS.pick [0, 1, 4, 5, 6] rfl ?_
                have ih2 := ih (glay S n j n) (by omega) (fun a ha => by rw [glay_na ha, hI a ha])
                have q47 : (fun c => decide (xfst (fun i => !decide (xfb tx T (nI (xd6 n c i)) (xshw h (Lw s / 4) (Lw s % 4) (xd6 n c) i) = none)) n = none)) j = true := decide_eq_true (xif1 g47)
                obtain ⟨d9, e9⟩ : ∃ d9, (xfw (fun c => decide (xfst (fun i => !decide (xfb tx T (nI (xd6 n c i)) (xshw h (Lw s / 4) (Lw s % 4) (xd6 n c) i) = none)) n = none)) (fun c => xcnt (fun i => decide (xd6 n c i = 0)) n) j) = some d9 := by
                  cases eo : (xfw (fun c => decide (xfst (fun i => !decide (xfb tx T (nI (xd6 n c i)) (xshw h (Lw s / 4) (Lw s % 4) (xd6 n c) i) = none)) n = none)) (fun c => xcnt (fun i => decide (xd6 n c i = 0)) n) j) with
                  | none => rw [eo] at g89; exact absurd g89 (by decide)
                  | some d9 => exact ⟨d9, rfl⟩
                have b9 := xfw_b (p := (fun c => decide (xfst (fun i => !decide (xfb tx T (nI (xd6 n c i)) (xshw h (Lw s / 4) (Lw s % 4) (xd6 n c) i) = none)) n = none))) (st := (fun c => xcnt (fun i => decide (xd6 n c i = 0)) n)) (q := n) (fun c => xcnt_le _ _) j d9 e9
                rw [e9] at g95
                rw [xfw_g q47 e9 (Nat.not_lt.mpr (xnle (a := (fun c => xcnt (fun i => decide (xd6 n c i = 0)) n) j) (b := d9) g95 (by show xcnt _ _ < _; omega) (by omega)))] at ih2
                rw [e9]
                exact ih2
              · have g95 := xf_ge h95
                refine xS.s1 rfl rfl ?_
                try dsimp only [Nat.reduceAdd]
                refine xS.s1 rfl rfl ?_
                try dsimp only [Nat.reduceAdd]
                refine xS.s1 rfl rfl ?_
                try dsimp only [Nat.reduceAdd]
                refine xS.s1 rfl rfl ?_
                try dsimp only [Nat.reduceAdd, xi_1]
                rw [nI_1]
                refine xS.s1 rfl rfl ?_
                try dsimp only [Nat.reduceAdd]
                refine xS.pick [0, 1, 4, 5, 6] rfl ?_
                have ih2 := ih (glay S n j n) (by omega) (fun a ha => by rw [glay_na ha, hI a ha])
                have q47 : (fun c => decide (xfst (fun i => !decide (xfb tx T (nI (xd6 n c i)) (xshw h (Lw s / 4) (Lw s % 4) (xd6 n c) i) = none)) n = none)) j = true := decide_eq_true (xif1 g47)
                obtain ⟨d9, e9⟩ : ∃ d9, (xfw (fun c => decide (xfst (fun i => !decide (xfb tx T (nI (xd6 n c i)) (xshw h (Lw s / 4) (Lw s % 4) (xd6 n c) i) = none)) n = none)) (fun c => xcnt (fun i => decide (xd6 n c i = 0)) n) j) = some d9 := by
                  cases eo : (xfw (fun c => decide (xfst (fun i => !decide (xfb tx T (nI (xd6 n c i)) (xshw h (Lw s / 4) (Lw s % 4) (xd6 n c) i) = none)) n = none)) (fun c => xcnt (fun i => decide (xd6 n c i = 0)) n) j) with
                  | none => rw [eo] at g89; exact absurd g89 (by decide)
                  | some d9 => exact ⟨d9, rfl⟩
                have b9 := xfw_b (p := (fun c => decide (xfst (fun i => !decide (xfb tx T (nI (xd6 n c i)) (xshw h (Lw s / 4) (Lw s % 4) (xd6 n c) i) = none)) n = none))) (st := (fun c => xcnt (fun i => decide (xd6 n c i = 0)) n)) (q := n) (fun c => xcnt_le _ _) j d9 e9
                rw [e9] at g95
                rw [xfw_l q47 e9 (xnlt (a := (fun c => xcnt (fun i => decide (xd6 n c i = 0)) n) j) (b := d9) g95 (by show xcnt _ _ < _; omega) (by omega))] at ih2
                exact ih2
          · have g59 := xf_ge h59
            have hli := xnlt g59 (by omega) (by omega)
            refine xS.s1 rfl rfl ?_
            try dsimp only [Nat.reduceAdd]
            refine xS.s1 rfl rfl ?_
            try dsimp only [Nat.reduceAdd]
            refine xS.gR rfl rfl rfl ⟨by decide, rfl⟩ rfl ?_
            try dsimp only [Nat.reduceAdd]
            refine xS.s1 rfl rfl ?_
            try dsimp only [Nat.reduceAdd]
            refine xS.ia rfl xar_90 (by omega) ?_
            try dsimp only [Nat.reduceAdd]
            rw [glay_in hli]
            refine xS.br0 (c := .ne) (off := 7) (l := 3) rfl rfl (fun h71 => ?_) (fun h71 => ?_)
            · have g71 := xt_ne h71
              refine xS.s1 rfl rfl ?_
              try dsimp only [Nat.reduceAdd, xi_0]
              refine xS.s1 rfl rfl ?_
              try dsimp only [Nat.reduceAdd]
              refine xS.s1 rfl rfl ?_
              try dsimp only [Nat.reduceAdd]
              refine xS.s1 rfl rfl ?_
              try dsimp only [Nat.reduceAdd, xi_1]
              rw [nI_1]
              refine xS.s1 rfl rfl ?_
              try dsimp only [Nat.reduceAdd]
              refine xS.pick [0, 1, 2, 3, 4, 5, 6] rfl ?_
              rw [show nI (xcnt (fun i => decide (xd6 n j i = 0)) i) + 0 = nI (xcnt (fun i => decide (xd6 n j i = 0)) i) from nI_add _ 0]
              have q71 : ¬ xd6 n j i = 0 := fun z => g71 (by rw [z]; rfl)
              have ih8 := ih2 () (by omega) trivial
              first | (rw [show xcnt (fun i => decide (xd6 n j i = 0)) (i + 1) = xcnt (fun i => decide (xd6 n j i = 0)) i from by simp [xcnt_s, q71]] at ih8; exact ih8) | (rw [show xcnt (fun i => decide (xd6 n j i = 0)) (i + 1) = xcnt (fun i => decide (xd6 n j i = 0)) i + 1 from by simp [xcnt_s, q71]] at ih8; exact ih8)
            · have g71 := xf_ne h71
              refine xS.s1 rfl rfl ?_
              try dsimp only [Nat.reduceAdd, xi_1]
              refine xS.s1 rfl rfl ?_
              try dsimp only [Nat.reduceAdd]
              refine xS.s1 rfl rfl ?_
              try dsimp only [Nat.reduceAdd]
              refine xS.s1 rfl rfl ?_
              try dsimp only [Nat.reduceAdd]
              refine xS.s1 rfl rfl ?_
              try dsimp only [Nat.reduceAdd, xi_1]
              rw [nI_1]
              refine xS.s1 rfl rfl ?_
              try dsimp only [Nat.reduceAdd]
              refine xS.pick [0, 1, 2, 3, 4, 5, 6] rfl ?_
              rw [nI_1]
              have q71 := nI_inj (b := 0) (by have := xd6_lt n j i; omega) (by omega) g71
              have ih8 := ih2 () (by omega) trivial
              first | (rw [show xcnt (fun i => decide (xd6 n j i = 0)) (i + 1) = xcnt (fun i => decide (xd6 n j i = 0)) i from by simp [xcnt_s, q71]] at ih8; exact ih8) | (rw [show xcnt (fun i => decide (xd6 n j i = 0)) (i + 1) = xcnt (fun i => decide (xd6 n j i = 0)) i + 1 from by simp [xcnt_s, q71]] at ih8; exact ih8)
    · have g14 := xf_ne h14
      exfalso; first | exact absurd g14 (by decide) | (simp (disch := omega) only [Int32.lt_iff_toInt_lt, Int32.le_iff_toInt_le, nI_toInt, Int32.reduceToInt] at g14 <;> omega)

end
