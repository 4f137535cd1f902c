/-! the reference's fault, room -/
section
variable {k a c n n2 m t p s d i1 j1 : Nat} {b : Nat × Nat} {g : Nat → Nat → Int32} {l : Nat → Nat → Int64} {i j x y z v w : Int32} {u w1 w2 : Int64}
variable {L G T κ δ o : Nat} {Lw : Nat → Nat} {f tx : Nat → Int32} {R : xPR}
set_option maxRecDepth 10000 in
theorem c_X12_fault_bad (hx : ¬ (0 ≤ x ∧ x < 4)) : xT (k + 5) 176 [.ref 73, .int x] (xH b g l) (fun r M' => M' = xH b g l ∧ r = some (.int (-1))) := by
  refine xT.of rfl (Nat.le_of_ble_eq_true rfl) ?_
  change xS _ _ 0 [(0, .ref 73), (1, .int x)] [] _ _
  refine xS.s1 rfl rfl ?_
  try dsimp only [Nat.reduceAdd]
  -- 1 yX12_isText
  refine xS.callS rfl rfl rfl ⟨Nat.le_of_ble_eq_true rfl, rfl⟩ (c_X12_isText ..) (fun v M1 hv => ?_)
  rw [hv.1, hv.2]
  clear hv M1 v
  try dsimp only [Nat.reduceAdd, Option.toList, List.cons_append, List.nil_append, List.drop]
  refine xS.br0 (c := .ne) (off := 5) (l := 3) rfl rfl (fun h4 => ?_) (fun h4 => ?_)
  · have g4 := xt_ne h4
    exact absurd (xif1 g4) hx
  · have g4 := xf_ne h4
    refine xS.s1 rfl rfl ?_
    try dsimp only [Nat.reduceAdd, xi_m1]
    refine xS.ret rfl rfl rfl (fun _ _ => rfl) ?_
    exact ⟨rfl, rfl⟩

set_option maxRecDepth 10000 in
theorem c_X12_fault_no (ht : t < 4) (hs : g 76 t = -1) : xT (k + 5) 176 [.ref 73, .int (nI t)] (xH b g l) (fun r M' => M' = xH b (xfR g 1) l ∧ r = some (.int (-3))) := by
  refine xT.of rfl (Nat.le_of_ble_eq_true rfl) ?_
  change xS _ _ 0 [(0, .ref 73), (1, .int (nI t))] [] _ _
  refine xS.s1 rfl rfl ?_
  try dsimp only [Nat.reduceAdd]
  -- 1 yX12_isText
  refine xS.callS rfl rfl rfl ⟨Nat.le_of_ble_eq_true rfl, rfl⟩ (c_X12_isText_in ht) (fun v M1 hv => ?_)
  rw [hv.1, hv.2]
  clear hv M1 v
  try dsimp only [Nat.reduceAdd, Option.toList, List.cons_append, List.nil_append, List.drop]
  refine xS.br0 (c := .ne) (off := 5) (l := 3) rfl rfl (fun h4 => ?_) (fun h4 => ?_)
  · have g4 := xt_ne h4
    refine xS.s1 rfl rfl ?_
    try dsimp only [Nat.reduceAdd]
    refine xS.gR rfl rfl rfl ⟨by decide, rfl⟩ rfl ?_
    try dsimp only [Nat.reduceAdd]
    refine xS.s1 rfl rfl ?_
    try dsimp only [Nat.reduceAdd]
    refine xS.ia rfl xar_76 (by omega) ?_
    try dsimp only [Nat.reduceAdd]
    rw [hs]
    refine xS.br0 (c := .ge) (off := 9) (l := 3) rfl rfl (fun h15 => ?_) (fun h15 => ?_)
    · have g15 := xt_ge h15
      exact absurd g15 (by decide)
    · have g15 := xf_ge h15
      refine xS.s1 rfl rfl ?_
      try dsimp only [Nat.reduceAdd]
      refine xS.s1 rfl rfl ?_
      try dsimp only [Nat.reduceAdd, xi_1]
      -- 20 yX12_finds
      refine xS.cv rfl rfl rfl rfl rfl rfl ⟨by decide, rfl, rfl⟩ (c_X12_finds (t := 1) (by decide)) (fun v M1 hv => ?_)
      rw [hv.1, hv.2]
      clear hv M1 v
      try dsimp only [Nat.reduceAdd, Option.toList, List.cons_append, List.nil_append, List.drop]
      refine xS.ret rfl rfl rfl (fun _ _ => rfl) ?_
      exact ⟨rfl, rfl⟩
  · have g4 := xf_ne h4
    exfalso; first | exact absurd g4 (by decide) | (simp (disch := omega) only [Int32.lt_iff_toInt_lt, Int32.le_iff_toInt_le, nI_toInt, Int32.reduceToInt] at g4 <;> omega)

set_option maxRecDepth 10000 in
theorem c_X12_room_bad (hx : ¬ (0 ≤ x ∧ x < 4)) : xT (k + 5) 177 [.ref 73, .int x] (xH b g l) (fun r M' => M' = xH b g l ∧ r = some (.int (-1))) := by
  refine xT.of rfl (Nat.le_of_ble_eq_true rfl) ?_
  change xS _ _ 0 [(0, .ref 73), (1, .int x)] [] _ _
  refine xS.s1 rfl rfl ?_
  try dsimp only [Nat.reduceAdd]
  -- 1 yX12_isText
  refine xS.callS rfl rfl rfl ⟨Nat.le_of_ble_eq_true rfl, rfl⟩ (c_X12_isText ..) (fun v M1 hv => ?_)
  rw [hv.1, hv.2]
  clear hv M1 v
  try dsimp only [Nat.reduceAdd, Option.toList, List.cons_append, List.nil_append, List.drop]
  refine xS.br0 (c := .ne) (off := 5) (l := 3) rfl rfl (fun h4 => ?_) (fun h4 => ?_)
  · have g4 := xt_ne h4
    exact absurd (xif1 g4) hx
  · have g4 := xf_ne h4
    refine xS.s1 rfl rfl ?_
    try dsimp only [Nat.reduceAdd, xi_m1]
    refine xS.ret rfl rfl rfl (fun _ _ => rfl) ?_
    exact ⟨rfl, rfl⟩

set_option maxRecDepth 10000 in
theorem c_X12_room_no (ht : t < 4) (hs : g 76 t = -1) : xT (k + 5) 177 [.ref 73, .int (nI t)] (xH b g l) (fun r M' => M' = xH b (xfR g 1) l ∧ r = some (.int (-3))) := by
  refine xT.of rfl (Nat.le_of_ble_eq_true rfl) ?_
  change xS _ _ 0 [(0, .ref 73), (1, .int (nI t))] [] _ _
  refine xS.s1 rfl rfl ?_
  try dsimp only [Nat.reduceAdd]
  -- 1 yX12_isText
  refine xS.callS rfl rfl rfl ⟨Nat.le_of_ble_eq_true rfl, rfl⟩ (c_X12_isText_in ht) (fun v M1 hv => ?_)
  rw [hv.1, hv.2]
  clear hv M1 v
  try dsimp only [Nat.reduceAdd, Option.toList, List.cons_append, List.nil_append, List.drop]
  refine xS.br0 (c := .ne) (off := 5) (l := 3) rfl rfl (fun h4 => ?_) (fun h4 => ?_)
  · have g4 := xt_ne h4
    refine xS.s1 rfl rfl ?_
    try dsimp only [Nat.reduceAdd]
    refine xS.gR rfl rfl rfl ⟨by decide, rfl⟩ rfl ?_
    try dsimp only [Nat.reduceAdd]
    refine xS.s1 rfl rfl ?_
    try dsimp only [Nat.reduceAdd]
    refine xS.ia rfl xar_76 (by omega) ?_
    try dsimp only [Nat.reduceAdd]
    rw [hs]
    refine xS.br0 (c := .ge) (off := 9) (l := 3) rfl rfl (fun h15 => ?_) (fun h15 => ?_)
    · have g15 := xt_ge h15
      exact absurd g15 (by decide)
    · have g15 := xf_ge h15
      refine xS.s1 rfl rfl ?_
      try dsimp only [Nat.reduceAdd]
      refine xS.s1 rfl rfl ?_
      try dsimp only [Nat.reduceAdd, xi_1]
      -- 20 yX12_finds
      refine xS.cv rfl rfl rfl rfl rfl rfl ⟨by decide, rfl, rfl⟩ (c_X12_finds (t := 1) (by decide)) (fun v M1 hv => ?_)
      rw [hv.1, hv.2]
      clear hv M1 v
      try dsimp only [Nat.reduceAdd, Option.toList, List.cons_append, List.nil_append, List.drop]
      refine xS.ret rfl rfl rfl (fun _ _ => rfl) ?_
      exact ⟨rfl, rfl⟩
  · have g4 := xf_ne h4
    exfalso; first | exact absurd g4 (by decide) | (simp (disch := omega) only [Int32.lt_iff_toInt_lt, Int32.le_iff_toInt_le, nI_toInt, Int32.reduceToInt] at g4 <;> omega)

set_option maxRecDepth 10000 in
theorem c_X12_fault_ok (ht : t < 4) (hs : g 76 t = nI n) (hn : n ≤ 60) (hfv : ∀ i, i < n → g 77 (60 * t + i) = f i) : xT (k + 5) 176 [.ref 73, .int (nI t)] (xH b g l) (fun r M' => ∃ g', M' = xH b g' l ∧ xFp g g' ∧ r = some (.int (xfI (xprs f n).1))) := by
  refine xT.of rfl (Nat.le_of_ble_eq_true rfl) ?_
  change xS _ _ 0 [(0, .ref 73), (1, .int (nI t))] [] _ _
  refine xS.s1 rfl rfl ?_
  try dsimp only [Nat.reduceAdd]
  -- 1 yX12_isText
  refine xS.callS rfl rfl rfl ⟨Nat.le_of_ble_eq_true rfl, rfl⟩ (c_X12_isText_in ht) (fun v M1 hv => ?_)
  rw [hv.1, hv.2]
  clear hv M1 v
  try dsimp only [Nat.reduceAdd, Option.toList, List.cons_append, List.nil_append, List.drop]
  refine xS.br0 (c := .ne) (off := 5) (l := 3) rfl rfl (fun h4 => ?_) (fun h4 => ?_)
  · have g4 := xt_ne h4
    refine xS.s1 rfl rfl ?_
    try dsimp only [Nat.reduceAdd]
    refine xS.gR rfl rfl rfl ⟨by decide, rfl⟩ rfl ?_
    try dsimp only [Nat.reduceAdd]
    refine xS.s1 rfl rfl ?_
    try dsimp only [Nat.reduceAdd]
    refine xS.ia rfl xar_76 (by omega) ?_
    try dsimp only [Nat.reduceAdd]
    rw [hs]
    refine xS.br0 (c := .ge) (off := 9) (l := 3) rfl rfl (fun h15 => ?_) (fun h15 => ?_)
    · have g15 := xt_ge h15
      refine xS.s1 rfl rfl ?_
      try dsimp only [Nat.reduceAdd]
      refine xS.s1 rfl rfl ?_
      try dsimp only [Nat.reduceAdd]
      -- 26 yX12_isRoom
      refine xS.cv rfl rfl rfl rfl rfl rfl ⟨by decide, rfl, rfl⟩ (c_X12_isRoom ht hs hn hfv rfl) (fun v M1 hv => ?_)
      obtain ⟨g2, rfl, hF2, rfl, hb2, hR2⟩ := hv
      try dsimp only [Nat.reduceAdd, Option.toList, List.cons_append, List.nil_append, List.drop]
      refine xS.br0 (c := .eq) (off := 8) (l := 3) rfl rfl (fun h29 => ?_) (fun h29 => ?_)
      · have g29 := xt_eq h29
        refine xS.s1 rfl rfl ?_
        try dsimp only [Nat.reduceAdd]
        refine xS.gI rfl rfl rfl ⟨by decide, rfl⟩ rfl ?_
        try dsimp only [Nat.reduceAdd]
        refine xS.ret rfl rfl rfl (fun _ _ => rfl) ?_
        obtain ⟨e, he⟩ := xb1_0 g29
        exact ⟨g2, rfl, hF2, by rw [he, (hb2 e he).2]; rfl⟩
      · have g29 := xf_eq h29
        refine xS.s1 rfl rfl ?_
        try dsimp only [Nat.reduceAdd, xj_m9]
        refine xS.s1 rfl rfl ?_
        try dsimp only [Nat.reduceAdd]
        refine xS.ret rfl rfl rfl (fun _ _ => rfl) ?_
        have on := xb1_1 g29
        exact ⟨g2, rfl, hF2, by rw [on]; rfl⟩
    · have g15 := xf_ge h15
      exact absurd g15 (nI_pos (by omega))
  · have g4 := xf_ne h4
    exfalso; first | exact absurd g4 (by decide) | (simp (disch := omega) only [Int32.lt_iff_toInt_lt, Int32.le_iff_toInt_le, nI_toInt, Int32.reduceToInt] at g4 <;> omega)

set_option maxRecDepth 10000 in
theorem c_X12_room_st (ht : t < 4) (hs : g 76 t = nI n) (hn : n ≤ 60) (hfv : ∀ i, i < n → g 77 (60 * t + i) = f i) (hR : (xprs f n).1 ≠ none) : xT (k + 5) 177 [.ref 73, .int (nI t)] (xH b g l) (fun r M' => ∃ g', M' = xH b g' l ∧ xFp g g' ∧ r = some (.int (-4))) := by
  refine xT.of rfl (Nat.le_of_ble_eq_true rfl) ?_
  change xS _ _ 0 [(0, .ref 73), (1, .int (nI t))] [] _ _
  refine xS.s1 rfl rfl ?_
  try dsimp only [Nat.reduceAdd]
  -- 1 yX12_isText
  refine xS.callS rfl rfl rfl ⟨Nat.le_of_ble_eq_true rfl, rfl⟩ (c_X12_isText_in ht) (fun v M1 hv => ?_)
  rw [hv.1, hv.2]
  clear hv M1 v
  try dsimp only [Nat.reduceAdd, Option.toList, List.cons_append, List.nil_append, List.drop]
  refine xS.br0 (c := .ne) (off := 5) (l := 3) rfl rfl (fun h4 => ?_) (fun h4 => ?_)
  · have g4 := xt_ne h4
    refine xS.s1 rfl rfl ?_
    try dsimp only [Nat.reduceAdd]
    refine xS.gR rfl rfl rfl ⟨by decide, rfl⟩ rfl ?_
    try dsimp only [Nat.reduceAdd]
    refine xS.s1 rfl rfl ?_
    try dsimp only [Nat.reduceAdd]
    refine xS.ia rfl xar_76 (by omega) ?_
    try dsimp only [Nat.reduceAdd]
    rw [hs]
    refine xS.br0 (c := .ge) (off := 9) (l := 3) rfl rfl (fun h15 => ?_) (fun h15 => ?_)
    · have g15 := xt_ge h15
      refine xS.s1 rfl rfl ?_
      try dsimp only [Nat.reduceAdd]
      refine xS.s1 rfl rfl ?_
      try dsimp only [Nat.reduceAdd]
      -- 26 yX12_isRoom
      refine xS.cv rfl rfl rfl rfl rfl rfl ⟨by decide, rfl, rfl⟩ (c_X12_isRoom ht hs hn hfv rfl) (fun v M1 hv => ?_)
      obtain ⟨g2, rfl, hF2, rfl, hb2, hR2⟩ := hv
      try dsimp only [Nat.reduceAdd, Option.toList, List.cons_append, List.nil_append, List.drop]
      refine xS.br0 (c := .ne) (off := 6) (l := 3) rfl rfl (fun h29 => ?_) (fun h29 => ?_)
      · have g29 := xt_ne h29
        exact absurd (xb1_1 g29) hR
      · have g29 := xf_ne h29
        refine xS.s1 rfl rfl ?_
        try dsimp only [Nat.reduceAdd, xj_m4]
        refine xS.ret rfl rfl rfl (fun _ _ => rfl) ?_
        exact ⟨g2, rfl, hF2, rfl⟩
    · have g15 := xf_ge h15
      exact absurd g15 (nI_pos (by omega))
  · have g4 := xf_ne h4
    exfalso; first | exact absurd g4 (by decide) | (simp (disch := omega) only [Int32.lt_iff_toInt_lt, Int32.le_iff_toInt_le, nI_toInt, Int32.reduceToInt] at g4 <;> omega)

set_option maxRecDepth 10000 in
theorem c_X12_room_ok (ht : t < 4) (hs : g 76 t = nI n) (hn : n ≤ 60) (hfv : ∀ i, i < n → g 77 (60 * t + i) = f i) (hRR : xprs f n = (none, G, T, Lw, tx)) : xT (k + 5) 177 [.ref 73, .int (nI t)] (xH b g l) (fun r M' => ∃ g2, M' = xH b (gset (gset (gset (gset (up (up (up g2 73 10 (nI G)) 73 12 (nI T)) 73 14 0) 81 6 (g2 78)) 82 (2 * G) (g2 79)) 83 (2 * T) (g2 80)) 86 3 (fun _ => -1)) l ∧ xFp g g2 ∧ r = some (.int (nI G)) ∧ xRw g2 G T Lw tx ∧ ∀ s, s < 6 → g2 78 s = nI (xfv (f (xab f n 0 + 1 + s))) ∧ xfv (f (xab f n 0 + 1 + s)) < 6) := by
  refine xT.of rfl (Nat.le_of_ble_eq_true rfl) ?_
  change xS _ _ 0 [(0, .ref 73), (1, .int (nI t))] [] _ _
  refine xS.s1 rfl rfl ?_
  try dsimp only [Nat.reduceAdd]
  -- 1 yX12_isText
  refine xS.callS rfl rfl rfl ⟨Nat.le_of_ble_eq_true rfl, rfl⟩ (c_X12_isText_in ht) (fun v M1 hv => ?_)
  rw [hv.1, hv.2]
  clear hv M1 v
  try dsimp only [Nat.reduceAdd, Option.toList, List.cons_append, List.nil_append, List.drop]
  refine xS.br0 (c := .ne) (off := 5) (l := 3) rfl rfl (fun h4 => ?_) (fun h4 => ?_)
  · have g4 := xt_ne h4
    refine xS.s1 rfl rfl ?_
    try dsimp only [Nat.reduceAdd]
    refine xS.gR rfl rfl rfl ⟨by decide, rfl⟩ rfl ?_
    try dsimp only [Nat.reduceAdd]
    refine xS.s1 rfl rfl ?_
    try dsimp only [Nat.reduceAdd]
    refine xS.ia rfl xar_76 (by omega) ?_
    try dsimp only [Nat.reduceAdd]
    rw [hs]
    refine xS.br0 (c := .ge) (off := 9) (l := 3) rfl rfl (fun h15 => ?_) (fun h15 => ?_)
    · have g15 := xt_ge h15
      refine xS.s1 rfl rfl ?_
      try dsimp only [Nat.reduceAdd]
      refine xS.s1 rfl rfl ?_
      try dsimp only [Nat.reduceAdd]
      -- 26 yX12_isRoom
      refine xS.cv rfl rfl rfl rfl rfl rfl ⟨by decide, rfl, rfl⟩ (c_X12_isRoom ht hs hn hfv hRR) (fun v M1 hv => ?_)
      obtain ⟨g2, rfl, hF2, rfl, hb2, hR2⟩ := hv
      obtain ⟨hRw, hH2⟩ := hR2 rfl
      dsimp only at hRw
      have hG6 := hRw.1.2
      have hT8 := hRw.2.1.2
      clear hb2 hR2
      show xS _ _ _ _ [.int 1] _ _
      try dsimp only [Nat.reduceAdd, Option.toList, List.cons_append, List.nil_append, List.drop]
      refine xS.br0 (c := .ne) (off := 6) (l := 3) rfl rfl (fun h29 => ?_) (fun h29 => ?_)
      · have g29 := xt_ne h29
        refine xS.s1 rfl rfl ?_
        try dsimp only [Nat.reduceAdd]
        refine xS.s1 rfl rfl ?_
        try dsimp only [Nat.reduceAdd]
        refine xS.gI rfl rfl rfl ⟨by decide, rfl⟩ rfl ?_
        try dsimp only [Nat.reduceAdd]
        rw [hRw.1.1]
        refine xS.pI rfl rfl rfl ⟨⟨by decide, rfl⟩, rfl, by decide, by decide⟩ rfl ?_
        try dsimp only [Nat.reduceAdd]
        refine xS.s1 rfl rfl ?_
        try dsimp only [Nat.reduceAdd]
        refine xS.s1 rfl rfl ?_
        try dsimp only [Nat.reduceAdd]
        refine xS.gI rfl rfl rfl ⟨by decide, rfl⟩ rfl ?_
        try dsimp only [Nat.reduceAdd]
        rw [up_ne (Or.inr (by decide)), hRw.2.1.1]
        refine xS.pI rfl rfl rfl ⟨⟨by decide, rfl⟩, rfl, by decide, by decide⟩ rfl ?_
        try dsimp only [Nat.reduceAdd]
        refine xS.s1 rfl rfl ?_
        try dsimp only [Nat.reduceAdd]
        refine xS.s1 rfl rfl ?_
        try dsimp only [Nat.reduceAdd, xi_0]
        refine xS.pI rfl rfl rfl ⟨⟨by decide, rfl⟩, rfl, by decide, by decide⟩ rfl ?_
        try dsimp only [Nat.reduceAdd]
        refine xS.s1 rfl rfl ?_
        try dsimp only [Nat.reduceAdd, xi_0]
        refine xS.s1 rfl rfl ?_
        try dsimp only [Nat.reduceAdd]
        refine xS.pick [0, 1] rfl ?_
        refine xS.loop (σ := Unit) (6) (fun j S => [(2, .int (nI j)), (0, .ref 73)]) (fun j _ => xH b (gset (up (up (up g2 73 10 (nI G)) 73 12 (nI T)) 73 14 0) 81 j (g2 78)) l) (fun _ _ => True) (()) (rfl) (by rw [gset_0]) (trivial) ?_
        intro j S hj hI ih
        try dsimp only
        refine xS.s1 rfl rfl ?_
        try dsimp only [Nat.reduceAdd]
        refine xS.s1 rfl rfl ?_
        try dsimp only [Nat.reduceAdd, xj_6]
        refine xS.br (c := .ge) (off := 21) (l := 3) rfl rfl (fun h61 => ?_) (fun h61 => ?_)
        · have g61 := xt_ge h61
          have hjx := xnle (b := 6) g61 (by omega) (by omega)
          obtain rfl : j = 6 := by omega
          refine xS.s1 rfl rfl ?_
          try dsimp only [Nat.reduceAdd, xi_0]
          refine xS.s1 rfl rfl ?_
          try dsimp only [Nat.reduceAdd]
          refine xS.pick [0, 1] rfl ?_
          refine xS.loop (σ := Unit) (2 * G) (fun j S => [(2, .int (nI j)), (0, .ref 73)]) (fun j _ => xH b (gset (gset (up (up (up g2 73 10 (nI G)) 73 12 (nI T)) 73 14 0) 81 6 (g2 78)) 82 j (g2 79)) l) (fun _ _ => True) (()) (rfl) (by rw [gset_0]) (trivial) ?_
          intro j S hj hI ih
          try dsimp only
          refine xS.s1 rfl rfl ?_
          try dsimp only [Nat.reduceAdd]
          refine xS.s1 rfl rfl ?_
          try dsimp only [Nat.reduceAdd, xi_2]
          refine xS.s1 rfl rfl ?_
          try dsimp only [Nat.reduceAdd]
          refine xS.gI rfl rfl rfl ⟨by decide, rfl⟩ rfl ?_
          try dsimp only [Nat.reduceAdd]
          rw [gset_na (by decide), gset_na (by decide), up_ne (Or.inr (by decide)), up_ne (Or.inr (by decide)), up_same]
          refine xS.s1 rfl rfl ?_
          try dsimp only [Nat.reduceAdd]
          rw [show (2 * nI G : Int32) = nI (2 * G) from pk_mul 2 G]
          refine xS.br (c := .ge) (off := 21) (l := 3) rfl rfl (fun h91 => ?_) (fun h91 => ?_)
          · have g91 := xt_ge h91
            have hjx := xnle (b := 2 * G) g91 (by omega) (by omega)
            obtain rfl : j = 2 * G := by omega
            refine xS.s1 rfl rfl ?_
            try dsimp only [Nat.reduceAdd, xi_0]
            refine xS.s1 rfl rfl ?_
            try dsimp only [Nat.reduceAdd]
            refine xS.pick [0, 1] rfl ?_
            refine xS.loop (σ := Unit) (2 * T) (fun j S => [(2, .int (nI j)), (0, .ref 73)]) (fun j _ => xH b (gset (gset (gset (up (up (up g2 73 10 (nI G)) 73 12 (nI T)) 73 14 0) 81 6 (g2 78)) 82 (2 * G) (g2 79)) 83 j (g2 80)) l) (fun _ _ => True) (()) (rfl) (by rw [gset_0]) (trivial) ?_
            intro j S hj hI ih
            try dsimp only
            refine xS.s1 rfl rfl ?_
            try dsimp only [Nat.reduceAdd]
            refine xS.s1 rfl rfl ?_
            try dsimp only [Nat.reduceAdd, xi_2]
            refine xS.s1 rfl rfl ?_
            try dsimp only [Nat.reduceAdd]
            refine xS.gI rfl rfl rfl ⟨by decide, rfl⟩ rfl ?_
            try dsimp only [Nat.reduceAdd]
            rw [gset_na (by decide), gset_na (by decide), gset_na (by decide), up_ne (Or.inr (by decide)), up_same]
            refine xS.s1 rfl rfl ?_
            try dsimp only [Nat.reduceAdd]
            rw [show (2 * nI T : Int32) = nI (2 * T) from pk_mul 2 T]
            refine xS.br (c := .ge) (off := 21) (l := 3) rfl rfl (fun h121 => ?_) (fun h121 => ?_)
            · have g121 := xt_ge h121
              have hjx := xnle (b := 2 * T) g121 (by omega) (by omega)
              obtain rfl : j = 2 * T := by omega
              refine xS.s1 rfl rfl ?_
              try dsimp only [Nat.reduceAdd, xi_0]
              refine xS.s1 rfl rfl ?_
              try dsimp only [Nat.reduceAdd]
              refine xS.pick [0, 1] rfl ?_
              refine xS.loop (σ := Unit) (3) (fun j S => [(2, .int (nI j)), (0, .ref 73)]) (fun j _ => xH b (gset (gset (gset (gset (up (up (up g2 73 10 (nI G)) 73 12 (nI T)) 73 14 0) 81 6 (g2 78)) 82 (2 * G) (g2 79)) 83 (2 * T) (g2 80)) 86 j (fun _ => -1)) l) (fun _ _ => True) (()) (rfl) (by rw [gset_0]) (trivial) ?_
              intro j S hj hI ih
              try dsimp only
              refine xS.s1 rfl rfl ?_
              try dsimp only [Nat.reduceAdd]
              refine xS.s1 rfl rfl ?_
              try dsimp only [Nat.reduceAdd, xi_3]
              refine xS.br (c := .ge) (off := 16) (l := 3) rfl rfl (fun h146 => ?_) (fun h146 => ?_)
              · have g146 := xt_ge h146
                have hjx := xnle (b := 3) g146 (by omega) (by omega)
                obtain rfl : j = 3 := by omega
                refine xS.s1 rfl rfl ?_
                try dsimp only [Nat.reduceAdd]
                refine xS.gI rfl rfl rfl ⟨by decide, rfl⟩ rfl ?_
                try dsimp only [Nat.reduceAdd]
                rw [gset_na (by decide), gset_na (by decide), gset_na (by decide), gset_na (by decide), up_ne (Or.inr (by decide)), up_ne (Or.inr (by decide)), up_same]
                refine xS.ret rfl rfl rfl (fun _ _ => rfl) ?_
                exact ⟨g2, rfl, hF2, rfl, hRw, hH2⟩
              · have g146 := xf_ge h146
                have hjl := xnlt (b := 3) g146 (by omega) (by omega)
                refine xS.s1 rfl rfl ?_
                try dsimp only [Nat.reduceAdd]
                refine xS.gR rfl rfl rfl ⟨by decide, rfl⟩ rfl ?_
                try dsimp only [Nat.reduceAdd]
                refine xS.s1 rfl rfl ?_
                try dsimp only [Nat.reduceAdd]
                refine xS.s1 rfl rfl ?_
                try dsimp only [Nat.reduceAdd, xi_m1]
                refine xS.ias rfl xar_86 (by omega) ?_
                try dsimp only [Nat.reduceAdd]
                refine xS.s1 rfl rfl ?_
                try dsimp only [Nat.reduceAdd, xi_1]
                rw [nI_1]
                refine xS.s1 rfl rfl ?_
                try dsimp only [Nat.reduceAdd]
                refine xS.pick [0, 1] rfl ?_
                have ih2 := ih () (by omega) trivial
                rw [← gset_s] at ih2
                exact ih2
            · have g121 := xf_ge h121
              have hjl := xnlt (b := 2 * T) g121 (by omega) (by omega)
              refine xS.s1 rfl rfl ?_
              try dsimp only [Nat.reduceAdd]
              refine xS.gR rfl rfl rfl ⟨by decide, rfl⟩ rfl ?_
              try dsimp only [Nat.reduceAdd]
              refine xS.s1 rfl rfl ?_
              try dsimp only [Nat.reduceAdd]
              refine xS.s1 rfl rfl ?_
              try dsimp only [Nat.reduceAdd]
              refine xS.gR rfl rfl rfl ⟨by decide, rfl⟩ rfl ?_
              try dsimp only [Nat.reduceAdd]
              refine xS.s1 rfl rfl ?_
              try dsimp only [Nat.reduceAdd]
              refine xS.ia rfl xar_80 (by omega) ?_
              try dsimp only [Nat.reduceAdd]
              rw [gset_na (by decide), gset_na (by decide), gset_na (by decide), up_na (by decide), up_na (by decide), up_na (by decide)]
              refine xS.ias rfl xar_83 (by omega) ?_
              try dsimp only [Nat.reduceAdd]
              refine xS.s1 rfl rfl ?_
              try dsimp only [Nat.reduceAdd, xi_1]
              rw [nI_1]
              refine xS.s1 rfl rfl ?_
              try dsimp only [Nat.reduceAdd]
              refine xS.pick [0, 1] rfl ?_
              have ih2 := ih () (by omega) trivial
              rw [← gset_s] at ih2
              exact ih2
          · have g91 := xf_ge h91
            have hjl := xnlt (b := 2 * G) g91 (by omega) (by omega)
            refine xS.s1 rfl rfl ?_
            try dsimp only [Nat.reduceAdd]
            refine xS.gR rfl rfl rfl ⟨by decide, rfl⟩ rfl ?_
            try dsimp only [Nat.reduceAdd]
            refine xS.s1 rfl rfl ?_
            try dsimp only [Nat.reduceAdd]
            refine xS.s1 rfl rfl ?_
            try dsimp only [Nat.reduceAdd]
            refine xS.gR rfl rfl rfl ⟨by decide, rfl⟩ rfl ?_
            try dsimp only [Nat.reduceAdd]
            refine xS.s1 rfl rfl ?_
            try dsimp only [Nat.reduceAdd]
            refine xS.ia rfl xar_79 (by omega) ?_
            try dsimp only [Nat.reduceAdd]
            rw [gset_na (by decide), gset_na (by decide), up_na (by decide), up_na (by decide), up_na (by decide)]
            refine xS.ias rfl xar_82 (by omega) ?_
            try dsimp only [Nat.reduceAdd]
            refine xS.s1 rfl rfl ?_
            try dsimp only [Nat.reduceAdd, xi_1]
            rw [nI_1]
            refine xS.s1 rfl rfl ?_
            try dsimp only [Nat.reduceAdd]
            refine xS.pick [0, 1] rfl ?_
            have ih2 := ih () (by omega) trivial
            rw [← gset_s] at ih2
            exact ih2
        · have g61 := xf_ge h61
          have hjl := xnlt (b := 6) g61 (by omega) (by omega)
          refine xS.s1 rfl rfl ?_
          try dsimp only [Nat.reduceAdd]
          refine xS.gR rfl rfl rfl ⟨by decide, rfl⟩ rfl ?_
          try dsimp only [Nat.reduceAdd]
          refine xS.s1 rfl rfl ?_
          try dsimp only [Nat.reduceAdd]
          refine xS.s1 rfl rfl ?_
          try dsimp only [Nat.reduceAdd]
          refine xS.gR rfl rfl rfl ⟨by decide, rfl⟩ rfl ?_
          try dsimp only [Nat.reduceAdd]
          refine xS.s1 rfl rfl ?_
          try dsimp only [Nat.reduceAdd]
          refine xS.ia rfl xar_78 (by omega) ?_
          try dsimp only [Nat.reduceAdd]
          rw [gset_na (by decide), up_na (by decide), up_na (by decide), up_na (by decide)]
          refine xS.ias rfl xar_81 (by omega) ?_
          try dsimp only [Nat.reduceAdd]
          refine xS.s1 rfl rfl ?_
          try dsimp only [Nat.reduceAdd, xi_1]
          rw [nI_1]
          refine xS.s1 rfl rfl ?_
          try dsimp only [Nat.reduceAdd]
          refine xS.pick [0, 1] rfl ?_
          have ih2 := ih () (by omega) trivial
          rw [← gset_s] at ih2
          exact ih2
      · have g29 := xf_ne h29
        exact absurd g29 (by decide)
    · have g15 := xf_ge h15
      exact absurd g15 (nI_pos (by omega))
  · have g4 := xf_ne h4
    exfalso; first | exact absurd g4 (by decide) | (simp (disch := omega) only [Int32.lt_iff_toInt_lt, Int32.le_iff_toInt_le, nI_toInt, Int32.reduceToInt] at g4 <;> omega)

end
