/-! LimpMirror: lots, digest, mark -/
theorem xlc_lt {a b : Nat} (h : a < b) (hb : b < 2 ^ 63) : lg_cmp (lN a) (lN b) < 0 := by
  rw [lg_cmp_lt, Int64.lt_iff_toInt_lt]
  unfold lN
  rw [lg_ofNat_toInt (by omega), lg_ofNat_toInt hb]
  omega
theorem lN_0 {a : Nat} (h0 : 0 < a) (h : a < 2 ^ 63) : ¬ lN a = 0 := fun z => by
  have := (lN_inj (b := 0) h (by omega)).mp z
  omega
def xdG (f : Nat → Nat → Int32) (w : Nat) (h : Int64) (n : Nat) : Int64 := Nat.rec (motive := fun _ => Int64) h (fun k c => xdl (f k) c w) n

section
variable {k a c n n2 m t p s d i1 j1 : Nat} {b : Nat × Nat} {g : Nat → Nat → Int32} {l : Nat → Nat → Int64} {i j x y z v w : Int32} {u w1 w2 : Int64}
variable {L G T e1 q1 : Nat} {Lw : Nat → Nat}
set_option maxRecDepth 10000 in
theorem c_X11_lots_bad (hx : ¬ ((1 ≤ x ∧ x ≤ 20) ∧ 1 ≤ y ∧ y.toInt64 < 2147483647)) : xT (k + 6) 114 [.ref 0, .int x, .int y] (xH b g l) (fun r M' => M' = xH b g l ∧ r = some (.int (-1))) := by
  refine xT.of rfl (Nat.le_of_ble_eq_true rfl) ?_
  change xS _ _ 0 [(0, .ref 0), (1, .int x), (2, .int y)] [] _ _
  refine xS.s1 rfl rfl ?_
  try dsimp only [Nat.reduceAdd]
  refine xS.s1 rfl rfl ?_
  try dsimp only [Nat.reduceAdd, xi_1]
  refine xS.br (c := .lt) (off := 23) (l := 3) rfl rfl (fun h2 => ?_) (fun h2 => ?_)
  · have g2 := xt_lt h2
    refine xS.s1 rfl rfl ?_
    try dsimp only [Nat.reduceAdd, xi_m1]
    refine xS.ret rfl rfl rfl (fun _ _ => rfl) ?_
    exact ⟨rfl, rfl⟩
  · have g2 := xf_lt h2
    refine xS.s1 rfl rfl ?_
    try dsimp only [Nat.reduceAdd]
    refine xS.s1 rfl rfl ?_
    try dsimp only [Nat.reduceAdd, xj_20]
    refine xS.br (c := .gt) (off := 17) (l := 3) rfl rfl (fun h8 => ?_) (fun h8 => ?_)
    · have g8 := xt_gt h8
      refine xS.s1 rfl rfl ?_
      try dsimp only [Nat.reduceAdd, xi_m1]
      refine xS.ret rfl rfl rfl (fun _ _ => rfl) ?_
      exact ⟨rfl, rfl⟩
    · have g8 := xf_gt h8
      refine xS.s1 rfl rfl ?_
      try dsimp only [Nat.reduceAdd]
      refine xS.s1 rfl rfl ?_
      try dsimp only [Nat.reduceAdd, xi_1]
      refine xS.br (c := .lt) (off := 12) (l := 3) rfl rfl (fun h13 => ?_) (fun h13 => ?_)
      · have g13 := xt_lt h13
        refine xS.s1 rfl rfl ?_
        try dsimp only [Nat.reduceAdd, xi_m1]
        refine xS.ret rfl rfl rfl (fun _ _ => rfl) ?_
        exact ⟨rfl, rfl⟩
      · have g13 := xf_lt h13
        refine xS.s1 rfl rfl ?_
        try dsimp only [Nat.reduceAdd]
        refine xS.s1 rfl rfl ?_
        try dsimp only [Nat.reduceAdd]
        refine xS.s1 rfl rfl ?_
        try dsimp only [Nat.reduceAdd]
        refine xS.s1 rfl rfl ?_
        try dsimp only [Nat.reduceAdd]
        refine xS.br0 (c := .lt) (off := 5) (l := 3) rfl rfl (fun h22 => ?_) (fun h22 => ?_)
        · have g22 := xt_lt h22
          exact absurd ⟨⟨g2, g8⟩, g13, (lg_cmp_lt _ _).mp g22⟩ hx
        · have g22 := xf_lt h22
          refine xS.s1 rfl rfl ?_
          try dsimp only [Nat.reduceAdd, xi_m1]
          refine xS.ret rfl rfl rfl (fun _ _ => rfl) ?_
          exact ⟨rfl, rfl⟩

set_option maxRecDepth 10000 in
theorem c_X11_lots_state (hn1 : 1 ≤ n) (hn : n ≤ 20) (hq : 1 ≤ q1) (hq2 : q1 < 2147483647) (hb : xro b.1) (hg : g b.1 2 = 0) : xT (k + 6) 114 [.ref 0, .int (nI n), .int (nI q1)] (xH b g l) (fun r M' => M' = xH b g l ∧ r = some (.int (-4))) := by
  refine xT.of rfl (Nat.le_of_ble_eq_true rfl) ?_
  change xS _ _ 0 [(0, .ref 0), (1, .int (nI n)), (2, .int (nI q1))] [] _ _
  refine xS.s1 rfl rfl ?_
  try dsimp only [Nat.reduceAdd]
  refine xS.s1 rfl rfl ?_
  try dsimp only [Nat.reduceAdd, xi_1]
  refine xS.br (c := .lt) (off := 23) (l := 3) rfl rfl (fun h2 => ?_) (fun h2 => ?_)
  · have g2 := xt_lt h2
    exfalso; first | exact absurd g2 (by decide) | (simp (disch := omega) only [Int32.lt_iff_toInt_lt, Int32.le_iff_toInt_le, nI_toInt, Int32.reduceToInt] at g2 <;> omega)
  · have g2 := xf_lt h2
    refine xS.s1 rfl rfl ?_
    try dsimp only [Nat.reduceAdd]
    refine xS.s1 rfl rfl ?_
    try dsimp only [Nat.reduceAdd, xj_20]
    refine xS.br (c := .gt) (off := 17) (l := 3) rfl rfl (fun h8 => ?_) (fun h8 => ?_)
    · have g8 := xt_gt h8
      exfalso; first | exact absurd g8 (by decide) | (simp (disch := omega) only [Int32.lt_iff_toInt_lt, Int32.le_iff_toInt_le, nI_toInt, Int32.reduceToInt] at g8 <;> omega)
    · have g8 := xf_gt h8
      refine xS.s1 rfl rfl ?_
      try dsimp only [Nat.reduceAdd]
      refine xS.s1 rfl rfl ?_
      try dsimp only [Nat.reduceAdd, xi_1]
      refine xS.br (c := .lt) (off := 12) (l := 3) rfl rfl (fun h13 => ?_) (fun h13 => ?_)
      · have g13 := xt_lt h13
        exfalso; first | exact absurd g13 (by decide) | (simp (disch := omega) only [Int32.lt_iff_toInt_lt, Int32.le_iff_toInt_le, nI_toInt, Int32.reduceToInt] at g13 <;> omega)
      · have g13 := xf_lt h13
        refine xS.s1 rfl rfl ?_
        try dsimp only [Nat.reduceAdd]
        refine xS.s1 rfl rfl ?_
        try dsimp only [Nat.reduceAdd]
        refine xS.s1 rfl rfl ?_
        try dsimp only [Nat.reduceAdd]
        refine xS.s1 rfl rfl ?_
        try dsimp only [Nat.reduceAdd]
        refine xS.br0 (c := .lt) (off := 5) (l := 3) rfl rfl (fun h22 => ?_) (fun h22 => ?_)
        · have g22 := xt_lt h22
          refine xS.s1 rfl rfl ?_
          try dsimp only [Nat.reduceAdd]
          refine xS.gR rfl rfl rfl ⟨by decide, rfl⟩ rfl ?_
          try dsimp only [Nat.reduceAdd]
          -- 31 yX8_glasses
          refine xS.cv rfl rfl rfl (hb.1 _) rfl rfl ⟨by decide, rfl, rfl⟩ (c_X8_glasses hb) (fun v M1 hv => ?_)
          rw [hv.1, hv.2]
          clear hv M1 v
          try dsimp only [Nat.reduceAdd, Option.toList, List.cons_append, List.nil_append, List.drop]
          refine xS.s1 rfl rfl ?_
          try dsimp only [Nat.reduceAdd]
          refine xS.s1 rfl rfl ?_
          try dsimp only [Nat.reduceAdd]
          refine xS.br0 (c := .ne) (off := 6) (l := 3) rfl rfl (fun h36 => ?_) (fun h36 => ?_)
          · have g36 := xt_ne h36
            exact absurd hg g36
          · have g36 := xf_ne h36
            refine xS.s1 rfl rfl ?_
            try dsimp only [Nat.reduceAdd, xj_m4]
            refine xS.ret rfl rfl rfl (fun _ _ => rfl) ?_
            exact ⟨rfl, rfl⟩
        · have g22 := xf_lt h22
          exact absurd g22 (Int32.not_le.mpr (by rw [nI_l (by omega)]; exact xlc_lt (b := 2147483647) hq2 (by omega)))

set_option maxRecDepth 10000 in
theorem c_X11_lots_full (hn1 : 1 ≤ n) (hn : n ≤ 20) (hq : 1 ≤ q1) (hq2 : q1 < 2147483647) (hb : xro b.1) (hR : xRm g b.1 G T Lw) (hp : xpn g) (hs : g 4 1 = nI m) (hm : m ≤ 40) (hG : 0 < G) (hmn : 40 < m + n) : xT (k + 6) 114 [.ref 0, .int (nI n), .int (nI q1)] (xH b g l) (fun r M' => M' = xH b g l ∧ r = some (.int (-2))) := by
  refine xT.of rfl (Nat.le_of_ble_eq_true rfl) ?_
  change xS _ _ 0 [(0, .ref 0), (1, .int (nI n)), (2, .int (nI q1))] [] _ _
  refine xS.s1 rfl rfl ?_
  try dsimp only [Nat.reduceAdd]
  refine xS.s1 rfl rfl ?_
  try dsimp only [Nat.reduceAdd, xi_1]
  refine xS.br (c := .lt) (off := 23) (l := 3) rfl rfl (fun h2 => ?_) (fun h2 => ?_)
  · have g2 := xt_lt h2
    exfalso; first | exact absurd g2 (by decide) | (simp (disch := omega) only [Int32.lt_iff_toInt_lt, Int32.le_iff_toInt_le, nI_toInt, Int32.reduceToInt] at g2 <;> omega)
  · have g2 := xf_lt h2
    refine xS.s1 rfl rfl ?_
    try dsimp only [Nat.reduceAdd]
    refine xS.s1 rfl rfl ?_
    try dsimp only [Nat.reduceAdd, xj_20]
    refine xS.br (c := .gt) (off := 17) (l := 3) rfl rfl (fun h8 => ?_) (fun h8 => ?_)
    · have g8 := xt_gt h8
      exfalso; first | exact absurd g8 (by decide) | (simp (disch := omega) only [Int32.lt_iff_toInt_lt, Int32.le_iff_toInt_le, nI_toInt, Int32.reduceToInt] at g8 <;> omega)
    · have g8 := xf_gt h8
      refine xS.s1 rfl rfl ?_
      try dsimp only [Nat.reduceAdd]
      refine xS.s1 rfl rfl ?_
      try dsimp only [Nat.reduceAdd, xi_1]
      refine xS.br (c := .lt) (off := 12) (l := 3) rfl rfl (fun h13 => ?_) (fun h13 => ?_)
      · have g13 := xt_lt h13
        exfalso; first | exact absurd g13 (by decide) | (simp (disch := omega) only [Int32.lt_iff_toInt_lt, Int32.le_iff_toInt_le, nI_toInt, Int32.reduceToInt] at g13 <;> omega)
      · have g13 := xf_lt h13
        refine xS.s1 rfl rfl ?_
        try dsimp only [Nat.reduceAdd]
        refine xS.s1 rfl rfl ?_
        try dsimp only [Nat.reduceAdd]
        refine xS.s1 rfl rfl ?_
        try dsimp only [Nat.reduceAdd]
        refine xS.s1 rfl rfl ?_
        try dsimp only [Nat.reduceAdd]
        refine xS.br0 (c := .lt) (off := 5) (l := 3) rfl rfl (fun h22 => ?_) (fun h22 => ?_)
        · have g22 := xt_lt h22
          refine xS.s1 rfl rfl ?_
          try dsimp only [Nat.reduceAdd]
          refine xS.gR rfl rfl rfl ⟨by decide, rfl⟩ rfl ?_
          try dsimp only [Nat.reduceAdd]
          -- 31 yX8_glasses
          refine xS.cv rfl rfl rfl (hb.1 _) rfl rfl ⟨by decide, rfl, rfl⟩ (c_X8_glasses hb) (fun v M1 hv => ?_)
          rw [hv.1, hv.2, hR.1.1]
          clear hv M1 v
          try dsimp only [Nat.reduceAdd, Option.toList, List.cons_append, List.nil_append, List.drop]
          refine xS.s1 rfl rfl ?_
          try dsimp only [Nat.reduceAdd]
          refine xS.s1 rfl rfl ?_
          try dsimp only [Nat.reduceAdd]
          refine xS.br0 (c := .ne) (off := 6) (l := 3) rfl rfl (fun h36 => ?_) (fun h36 => ?_)
          · have g36 := xt_ne h36
            refine xS.s1 rfl rfl ?_
            try dsimp only [Nat.reduceAdd]
            refine xS.gR rfl rfl rfl ⟨by decide, rfl⟩ rfl ?_
            try dsimp only [Nat.reduceAdd]
            -- 46 yX2_size
            refine xS.cv rfl rfl rfl (xde_deeds.1 _) rfl rfl ⟨by decide, rfl, rfl⟩ (c_X2_size xde_deeds) (fun v M1 hv => ?_)
            rw [hv.1, hv.2, hs]
            clear hv M1 v
            try dsimp only [Nat.reduceAdd, Option.toList, List.cons_append, List.nil_append, List.drop]
            refine xS.s1 rfl rfl ?_
            try dsimp only [Nat.reduceAdd]
            refine xS.s1 rfl rfl ?_
            try dsimp only [Nat.reduceAdd]
            refine xS.s1 rfl rfl ?_
            try dsimp only [Nat.reduceAdd]
            refine xS.s1 rfl rfl ?_
            try dsimp only [Nat.reduceAdd]
            rw [nI_add]
            refine xS.s1 rfl rfl ?_
            try dsimp only [Nat.reduceAdd, xj_40]
            refine xS.br (c := .le) (off := 6) (l := 3) rfl rfl (fun h57 => ?_) (fun h57 => ?_)
            · have g57 := xt_le h57
              exfalso; have := (nI_leI (a := m + n) (b := 40) (by omega) (by omega)).mp g57; omega
            · have g57 := xf_le h57
              refine xS.s1 rfl rfl ?_
              try dsimp only [Nat.reduceAdd, xj_m2]
              refine xS.ret rfl rfl rfl (fun _ _ => rfl) ?_
              exact ⟨rfl, rfl⟩
          · have g36 := xf_ne h36
            exact absurd g36 (nI_ne0 hG (by have := hR.1.2; omega))
        · have g22 := xf_lt h22
          exact absurd g22 (Int32.not_le.mpr (by rw [nI_l (by omega)]; exact xlc_lt (b := 2147483647) hq2 (by omega)))

set_option maxRecDepth 10000 in
theorem c_X11_lots_ok (hn1 : 1 ≤ n) (hn : n ≤ 20) (hq : 1 ≤ q1) (hq2 : q1 < 2147483647) (hb : xro b.1) (hR : xRm g b.1 G T Lw) (hp : xpn g) (hbv : b.1 = 7 ∨ b.1 = 11) (hs : g 4 1 = nI m) (hm : m ≤ 40) (hG : 0 < G) (hmn : m + n ≤ 40) (hD : xDk g (g (b.1 + 1)) (g (b.1 + 3)) T G Lw 5 m) : xT (k + 6) 114 [.ref 0, .int (nI n), .int (nI q1)] (xH b g l) (fun r M' => ∃ S, ((∀ a, a ≠ 4 → a ≠ 5 → S a = g a) ∧ S 4 1 = nI (m + n) ∧ xDk S (g (b.1 + 1)) (g (b.1 + 3)) T G Lw 5 (m + n) ∧ (∀ i, i < 4 * m → S 5 i = g 5 i) ∧ (∀ u, u < n → S 5 (4 * (m + u)) = nI (xlot q1 (u + 1) / 8 % 6) ∧ S 5 (4 * (m + u) + 1) = nI (xlot q1 (u + 1) % G))) ∧ M' = xH b S l ∧ r = some (.int (nI (xcnt (fun d => !decide (S 5 (4 * (m + d) + 3) = -9)) n)))) := by
  refine xT.of rfl (Nat.le_of_ble_eq_true rfl) ?_
  change xS _ _ 0 [(0, .ref 0), (1, .int (nI n)), (2, .int (nI q1))] [] _ _
  refine xS.s1 rfl rfl ?_
  try dsimp only [Nat.reduceAdd]
  refine xS.s1 rfl rfl ?_
  try dsimp only [Nat.reduceAdd, xi_1]
  refine xS.br (c := .lt) (off := 23) (l := 3) rfl rfl (fun h2 => ?_) (fun h2 => ?_)
  · have g2 := xt_lt h2
    exfalso; first | exact absurd g2 (by decide) | (simp (disch := omega) only [Int32.lt_iff_toInt_lt, Int32.le_iff_toInt_le, nI_toInt, Int32.reduceToInt] at g2 <;> omega)
  · have g2 := xf_lt h2
    refine xS.s1 rfl rfl ?_
    try dsimp only [Nat.reduceAdd]
    refine xS.s1 rfl rfl ?_
    try dsimp only [Nat.reduceAdd, xj_20]
    refine xS.br (c := .gt) (off := 17) (l := 3) rfl rfl (fun h8 => ?_) (fun h8 => ?_)
    · have g8 := xt_gt h8
      exfalso; first | exact absurd g8 (by decide) | (simp (disch := omega) only [Int32.lt_iff_toInt_lt, Int32.le_iff_toInt_le, nI_toInt, Int32.reduceToInt] at g8 <;> omega)
    · have g8 := xf_gt h8
      refine xS.s1 rfl rfl ?_
      try dsimp only [Nat.reduceAdd]
      refine xS.s1 rfl rfl ?_
      try dsimp only [Nat.reduceAdd, xi_1]
      refine xS.br (c := .lt) (off := 12) (l := 3) rfl rfl (fun h13 => ?_) (fun h13 => ?_)
      · have g13 := xt_lt h13
        exfalso; first | exact absurd g13 (by decide) | (simp (disch := omega) only [Int32.lt_iff_toInt_lt, Int32.le_iff_toInt_le, nI_toInt, Int32.reduceToInt] at g13 <;> omega)
      · have g13 := xf_lt h13
        refine xS.s1 rfl rfl ?_
        try dsimp only [Nat.reduceAdd]
        refine xS.s1 rfl rfl ?_
        try dsimp only [Nat.reduceAdd]
        refine xS.s1 rfl rfl ?_
        try dsimp only [Nat.reduceAdd]
        refine xS.s1 rfl rfl ?_
        try dsimp only [Nat.reduceAdd]
        refine xS.br0 (c := .lt) (off := 5) (l := 3) rfl rfl (fun h22 => ?_) (fun h22 => ?_)
        · have g22 := xt_lt h22
          refine xS.s1 rfl rfl ?_
          try dsimp only [Nat.reduceAdd]
          refine xS.gR rfl rfl rfl ⟨by decide, rfl⟩ rfl ?_
          try dsimp only [Nat.reduceAdd]
          -- 31 yX8_glasses
          refine xS.cv rfl rfl rfl (hb.1 _) rfl rfl ⟨by decide, rfl, rfl⟩ (c_X8_glasses hb) (fun v M1 hv => ?_)
          rw [hv.1, hv.2, hR.1.1]
          clear hv M1 v
          try dsimp only [Nat.reduceAdd, Option.toList, List.cons_append, List.nil_append, List.drop]
          refine xS.s1 rfl rfl ?_
          try dsimp only [Nat.reduceAdd]
          refine xS.s1 rfl rfl ?_
          try dsimp only [Nat.reduceAdd]
          refine xS.br0 (c := .ne) (off := 6) (l := 3) rfl rfl (fun h36 => ?_) (fun h36 => ?_)
          · have g36 := xt_ne h36
            refine xS.s1 rfl rfl ?_
            try dsimp only [Nat.reduceAdd]
            refine xS.gR rfl rfl rfl ⟨by decide, rfl⟩ rfl ?_
            try dsimp only [Nat.reduceAdd]
            -- 46 yX2_size
            refine xS.cv rfl rfl rfl (xde_deeds.1 _) rfl rfl ⟨by decide, rfl, rfl⟩ (c_X2_size xde_deeds) (fun v M1 hv => ?_)
            rw [hv.1, hv.2, hs]
            clear hv M1 v
            try dsimp only [Nat.reduceAdd, Option.toList, List.cons_append, List.nil_append, List.drop]
            refine xS.s1 rfl rfl ?_
            try dsimp only [Nat.reduceAdd]
            refine xS.s1 rfl rfl ?_
            try dsimp only [Nat.reduceAdd]
            refine xS.s1 rfl rfl ?_
            try dsimp only [Nat.reduceAdd]
            refine xS.s1 rfl rfl ?_
            try dsimp only [Nat.reduceAdd]
            rw [nI_add]
            refine xS.s1 rfl rfl ?_
            try dsimp only [Nat.reduceAdd, xj_40]
            refine xS.br (c := .le) (off := 6) (l := 3) rfl rfl (fun h57 => ?_) (fun h57 => ?_)
            · have g57 := xt_le h57
              refine xS.s1 rfl rfl ?_
              try dsimp only [Nat.reduceAdd]
              refine xS.s1 rfl rfl ?_
              try dsimp only [Nat.reduceAdd]
              refine xS.s1 rfl rfl ?_
              try dsimp only [Nat.reduceAdd]
              refine xS.s1 rfl rfl ?_
              try dsimp only [Nat.reduceAdd, xi_0]
              refine xS.s1 rfl rfl ?_
              try dsimp only [Nat.reduceAdd]
              refine xS.pick [0, 1, 4, 5, 3, 2] rfl ?_
              refine xS.loop (σ := Nat → Nat → Int32) (n) (fun j S => [(7, .int (nI j)), (5, .long (lN (xlot q1 j))), (0, .ref 0), (1, .int (nI n)), (3, .int (nI G)), (4, .int (nI m))]) (fun _ S => xH b S l) (fun j S => (∀ a, a ≠ 4 → a ≠ 5 → S a = g a) ∧ S 4 1 = nI (m + j) ∧ xDk S (g (b.1 + 1)) (g (b.1 + 3)) T G Lw 5 (m + j) ∧ (∀ i, i < 4 * m → S 5 i = g 5 i) ∧ (∀ u, u < j → S 5 (4 * (m + u)) = nI (xlot q1 (u + 1) / 8 % 6) ∧ S 5 (4 * (m + u) + 1) = nI (xlot q1 (u + 1) % G))) (g) (by show _ = [_, (5, Value.long (lN q1)), _, _, _, _]; rw [← nI_l (by omega)]; rfl) (rfl) (⟨fun _ _ _ => rfl, hs, hD, fun _ _ => rfl, fun u h => absurd h (by omega)⟩) ?_
              intro j S hj hI ih
              obtain ⟨i1, i2, i3, i4, i5⟩ := hI
              try dsimp only
              have h6 := hR.1.2
              have e1 : S (b.1 + 1) = g (b.1 + 1) := i1 _ (by omega) (by omega)
              have e3 : S (b.1 + 3) = g (b.1 + 3) := i1 _ (by omega) (by omega)
              refine xS.s1 rfl rfl ?_
              try dsimp only [Nat.reduceAdd]
              refine xS.s1 rfl rfl ?_
              try dsimp only [Nat.reduceAdd]
              refine xS.br (c := .ge) (off := 43) (l := 3) rfl rfl (fun h73 => ?_) (fun h73 => ?_)
              · have g73 := xt_ge h73
                have e := xnle g73 (by omega) (by omega)
                have e2 : n = j := by omega
                subst e2
                refine xS.s1 rfl rfl ?_
                try dsimp only [Nat.reduceAdd]
                refine xS.gR rfl rfl rfl ⟨by decide, rfl⟩ rfl ?_
                try dsimp only [Nat.reduceAdd]
                refine xS.s1 rfl rfl ?_
                try dsimp only [Nat.reduceAdd]
                -- 122 yX2_howManyBroke
                refine xS.cv rfl rfl rfl (xde_deeds.1 _) rfl rfl ⟨by decide, rfl, rfl⟩ (c_X2_howManyBroke (s := m) (m := m + n) xde_deeds i2 (by omega) (by omega)) (fun v M1 hv => ?_)
                rw [hv.1, hv.2, show m + n - m = n by omega]
                clear hv M1 v
                try dsimp only [Nat.reduceAdd, Option.toList, List.cons_append, List.nil_append, List.drop]
                refine xS.ret rfl rfl rfl (fun _ _ => rfl) ?_
                exact ⟨S, ⟨i1, i2, i3, i4, i5⟩, rfl, rfl⟩
              · have g73 := xf_ge h73
                have hlt := xnlt g73 (by omega) (by omega)
                refine xS.s1 rfl rfl ?_
                try dsimp only [Nat.reduceAdd]
                refine xS.s1 rfl rfl ?_
                try dsimp only [Nat.reduceAdd]
                refine xS.s1 rfl rfl ?_
                try dsimp only [Nat.reduceAdd]
                refine xS.s1 rfl rfl ?_
                try dsimp only [Nat.reduceAdd]
                refine xS.lrem rfl (by decide) ?_
                try dsimp only [Nat.reduceAdd]
                rw [show (48271 : Int64) * lN (xlot q1 j) = lN (48271 * xlot q1 j) from lN_mul 48271 _]
                rw [show lN (48271 * xlot q1 j) - lN (48271 * xlot q1 j) / 2147483647 * 2147483647 = lN (xlot q1 (j + 1)) from pk_lRem (b := 2147483647) (by have := xlot_lt hq2 j; omega) (by omega) (by omega)]
                have hxl := xlot_lt hq2 (j + 1)
                refine xS.s1 rfl rfl ?_
                try dsimp only [Nat.reduceAdd]
                refine xS.s1 rfl rfl ?_
                try dsimp only [Nat.reduceAdd]
                refine xS.s1 rfl rfl ?_
                try dsimp only [Nat.reduceAdd]
                refine xS.s1 rfl rfl ?_
                try dsimp only [Nat.reduceAdd]
                refine xS.s1 rfl rfl ?_
                try dsimp only [Nat.reduceAdd]
                rw [nI_l (n := G) (by omega)]
                refine xS.lrem rfl (lN_0 hG (by omega)) ?_
                try dsimp only [Nat.reduceAdd]
                rw [pk_lRem (by omega) hG (by omega)]
                refine xS.s1 rfl rfl ?_
                try dsimp only [Nat.reduceAdd]
                rw [lN_i]
                refine xS.s1 rfl rfl ?_
                try dsimp only [Nat.reduceAdd]
                refine xS.s1 rfl rfl ?_
                try dsimp only [Nat.reduceAdd]
                refine xS.ldiv rfl (by decide) ?_
                try dsimp only [Nat.reduceAdd]
                rw [show lN (xlot q1 (j + 1)) / 8 = lN (xlot q1 (j + 1) / 8) from pk_lDiv (b := 8) (by omega) (by omega) (by omega)]
                refine xS.s1 rfl rfl ?_
                try dsimp only [Nat.reduceAdd]
                refine xS.lrem rfl (by decide) ?_
                try dsimp only [Nat.reduceAdd]
                rw [show lN (xlot q1 (j + 1) / 8) - lN (xlot q1 (j + 1) / 8) / 6 * 6 = lN (xlot q1 (j + 1) / 8 % 6) from pk_lRem (b := 6) (by omega) (by omega) (by omega)]
                refine xS.s1 rfl rfl ?_
                try dsimp only [Nat.reduceAdd]
                rw [lN_i]
                -- 106 yX11_doStep
                refine xS.cv rfl rfl rfl rfl rfl rfl ⟨by decide, rfl, rfl⟩ (c_X11_doStep (m := m + j) hb (xRm_fr (fun i _ _ => i1 i (by omega) (by omega)) hR) (xpn_fr (fun i _ _ => i1 i (by omega) (by omega)) hp) hbv i2 (by omega) (xDk_x i3) (Nat.mod_lt _ hG) (Nat.mod_lt _ (by omega))) (fun v M1 hv => ?_)
                rw [hv.1, hv.2, e1, e3]
                clear hv M1 v
                try dsimp only [Nat.reduceAdd, Option.toList, List.cons_append, List.nil_append, List.drop]
                refine xS.s1 rfl rfl ?_
                try dsimp only [Nat.reduceAdd]
                refine xS.s1 rfl rfl ?_
                try dsimp only [Nat.reduceAdd, xi_1]
                rw [nI_1]
                refine xS.s1 rfl rfl ?_
                try dsimp only [Nat.reduceAdd]
                refine xS.pick [0, 1, 2, 3, 4, 5] rfl ?_
                refine ih _ (by omega) ⟨fun a h4 h5 => by rw [xdo_na h4 h5, i1 a h4 h5], by rw [xdo_41]; rfl, xDk_do i3 (Nat.mod_lt _ (by omega)) (Nat.mod_lt _ hG), fun i hi => by rw [xdo_o (by omega)]; exact i4 i hi, fun u hu => ?_⟩
                by_cases eu : u = j
                · subst eu
                  exact ⟨xdo_5.1, xdo_5.2.1⟩
                · rw [xdo_o (by omega), xdo_o (by omega)]
                  exact i5 u (by omega)
            · have g57 := xf_le h57
              exfalso; have := (nI_ltI (a := 40) (b := m + n) (by omega) (by omega)).mp g57; omega
          · have g36 := xf_ne h36
            exact absurd g36 (nI_ne0 hG (by have := hR.1.2; omega))
        · have g22 := xf_lt h22
          exact absurd g22 (Int32.not_le.mpr (by rw [nI_l (by omega)]; exact xlc_lt (b := 2147483647) hq2 (by omega)))

set_option maxRecDepth 10000 in
theorem c_X11_digest (hb : xro b.1) (hR : xRm g b.1 G T Lw) (hp : xpn g) (hs : g 4 1 = nI m) (hm : m ≤ 40) (hzr : ∀ r, r < 6 → xsz (g (23 + 2 * r) 1) 40) (hzt : ∀ r, r < 4 → xsz (g (35 + 2 * r) 1) 60) : xT (k + 5) 121 [.ref 0] (xH b g l) (fun r M' => M' = xH b g l ∧ r = some (.long (xda (fun r => g (35 + 2 * r) 1) (fun r => g (35 + 2 * r + 1)) (xda (fun r => g (23 + 2 * r) 1) (fun r => g (23 + 2 * r + 1)) (xdl (fun k => g (67 + 2 * k) 1) (xdl (g 5) (xdl (g (b.1 + 3)) (xdG (xgf g Lw m) 4 (xdl (g (b.1 + 1)) (xdl (xct g G T m Lw) 17 9) 6) G) (2 * T)) (4 * m)) 3) 6) 4))) := by
  have h6 := hR.1.2
  have h8 := hR.2.1.2
  refine xT.of rfl (Nat.le_of_ble_eq_true rfl) ?_
  change xS _ _ 0 [(0, .ref 0)] [] _ _
  refine xS.s1 rfl rfl ?_
  try dsimp only [Nat.reduceAdd]
  refine xS.s1 rfl rfl ?_
  try dsimp only [Nat.reduceAdd]
  refine xS.s1 rfl rfl ?_
  try dsimp only [Nat.reduceAdd, xi_0]
  refine xS.s1 rfl rfl ?_
  try dsimp only [Nat.reduceAdd]
  refine xS.pick [0, 1, 2] rfl ?_
  refine xS.loop (σ := Unit) (9) (fun j S => [(3, .int (nI j)), (1, .long (xdl (xct g G T m Lw) 17 j)), (0, .ref 0)]) (fun _ _ => xH b g l) (fun _ _ => True) (()) (rfl) (rfl) (trivial) ?_
  intro j S6 hj hI6 ih
  try dsimp only
  refine xS.s1 rfl rfl ?_
  try dsimp only [Nat.reduceAdd]
  refine xS.s1 rfl rfl ?_
  try dsimp only [Nat.reduceAdd, xj_8]
  refine xS.br (c := .gt) (off := 22) (l := 3) rfl rfl (fun h9 => ?_) (fun h9 => ?_)
  · have g9 := xt_gt h9
    have e := (nI_ltI (a := 8) (b := j) (by omega) (by omega)).mp g9
    have e2 : 9 = j := by omega
    subst e2
    refine xS.s1 rfl rfl ?_
    try dsimp only [Nat.reduceAdd, xi_0]
    refine xS.s1 rfl rfl ?_
    try dsimp only [Nat.reduceAdd]
    refine xS.pick [0, 1, 2] rfl ?_
    refine xS.loop (σ := Unit) (6) (fun j S => [(3, .int (nI j)), (1, .long (xdl (g (b.1 + 1)) (xdl (xct g G T m Lw) 17 9) j)), (0, .ref 0)]) (fun _ _ => xH b g l) (fun _ _ => True) (()) (rfl) (rfl) (trivial) ?_
    intro j S33 hj hI33 ih
    try dsimp only
    refine xS.s1 rfl rfl ?_
    try dsimp only [Nat.reduceAdd]
    refine xS.s1 rfl rfl ?_
    try dsimp only [Nat.reduceAdd, xj_6]
    refine xS.br (c := .ge) (off := 25) (l := 3) rfl rfl (fun h36 => ?_) (fun h36 => ?_)
    · have g36 := xt_ge h36
      have e := xnle (b := 6) g36 (by omega) (by omega)
      have e2 : 6 = j := by omega
      subst e2
      refine xS.s1 rfl rfl ?_
      try dsimp only [Nat.reduceAdd, xi_0]
      refine xS.s1 rfl rfl ?_
      try dsimp only [Nat.reduceAdd]
      refine xS.pick [0, 1, 2] rfl ?_
      refine xS.loop (σ := Unit) (G) (fun j S => [(3, .int (nI j)), (1, .long (xdG (xgf g Lw m) 4 (xdl (g (b.1 + 1)) (xdl (xct g G T m Lw) 17 9) 6) j)), (0, .ref 0)]) (fun _ _ => xH b g l) (fun _ _ => True) (()) (rfl) (rfl) (trivial) ?_
      intro j S63 hj hI63 ih
      try dsimp only
      refine xS.s1 rfl rfl ?_
      try dsimp only [Nat.reduceAdd]
      refine xS.s1 rfl rfl ?_
      try dsimp only [Nat.reduceAdd]
      refine xS.gR rfl rfl rfl ⟨by decide, rfl⟩ rfl ?_
      try dsimp only [Nat.reduceAdd]
      -- 68 yX8_glasses
      refine xS.cv rfl rfl rfl (hb.1 _) rfl rfl ⟨by decide, rfl, rfl⟩ (c_X8_glasses hb) (fun v M1 hv => ?_)
      rw [hv.1, hv.2]
      clear hv M1 v
      try dsimp only [Nat.reduceAdd, Option.toList, List.cons_append, List.nil_append, List.drop]
      refine xS.br (c := .ge) (off := 39) (l := 3) rfl rfl (fun h71 => ?_) (fun h71 => ?_)
      · have g71 := xt_ge h71
        rw [hR.1.1] at g71
        have e := xnle (b := G) g71 (by omega) (by omega)
        have e2 : G = j := by omega
        subst e2
        refine xS.s1 rfl rfl ?_
        try dsimp only [Nat.reduceAdd, xi_0]
        refine xS.s1 rfl rfl ?_
        try dsimp only [Nat.reduceAdd]
        refine xS.pick [0, 1, 2] rfl ?_
        refine xS.loop (σ := Unit) (T) (fun j S => [(3, .int (nI j)), (1, .long (xdl (g (b.1 + 3)) (xdG (xgf g Lw m) 4 (xdl (g (b.1 + 1)) (xdl (xct g G T m Lw) 17 9) 6) G) (2 * j))), (0, .ref 0)]) (fun _ _ => xH b g l) (fun _ _ => True) (()) (rfl) (rfl) (trivial) ?_
        intro j S112 hj hI112 ih
        try dsimp only
        refine xS.s1 rfl rfl ?_
        try dsimp only [Nat.reduceAdd]
        refine xS.s1 rfl rfl ?_
        try dsimp only [Nat.reduceAdd]
        refine xS.gR rfl rfl rfl ⟨by decide, rfl⟩ rfl ?_
        try dsimp only [Nat.reduceAdd]
        -- 117 yX8_terms
        refine xS.cv rfl rfl rfl (hb.1 _) rfl rfl ⟨by decide, rfl, rfl⟩ (c_X8_terms hb) (fun v M1 hv => ?_)
        rw [hv.1, hv.2]
        clear hv M1 v
        try dsimp only [Nat.reduceAdd, Option.toList, List.cons_append, List.nil_append, List.drop]
        refine xS.br (c := .ge) (off := 41) (l := 3) rfl rfl (fun h120 => ?_) (fun h120 => ?_)
        · have g120 := xt_ge h120
          rw [hR.2.1.1] at g120
          have e := xnle (b := T) g120 (by omega) (by omega)
          have e2 : T = j := by omega
          subst e2
          refine xS.s1 rfl rfl ?_
          try dsimp only [Nat.reduceAdd, xi_0]
          refine xS.s1 rfl rfl ?_
          try dsimp only [Nat.reduceAdd]
          refine xS.pick [0, 1, 2] rfl ?_
          refine xS.loop (σ := Unit) (m) (fun j S => [(3, .int (nI j)), (1, .long (xdl (g 5) (xdl (g (b.1 + 3)) (xdG (xgf g Lw m) 4 (xdl (g (b.1 + 1)) (xdl (xct g G T m Lw) 17 9) 6) G) (2 * T)) (4 * j))), (0, .ref 0)]) (fun _ _ => xH b g l) (fun _ _ => True) (()) (rfl) (rfl) (trivial) ?_
          intro j S163 hj hI163 ih
          try dsimp only
          refine xS.s1 rfl rfl ?_
          try dsimp only [Nat.reduceAdd]
          refine xS.s1 rfl rfl ?_
          try dsimp only [Nat.reduceAdd]
          refine xS.gR rfl rfl rfl ⟨by decide, rfl⟩ rfl ?_
          try dsimp only [Nat.reduceAdd]
          -- 168 yX2_size
          refine xS.cv rfl rfl rfl (xde_deeds.1 _) rfl rfl ⟨by decide, rfl, rfl⟩ (c_X2_size xde_deeds) (fun v M1 hv => ?_)
          rw [hv.1, hv.2]
          clear hv M1 v
          try dsimp only [Nat.reduceAdd, Option.toList, List.cons_append, List.nil_append, List.drop]
          refine xS.br (c := .ge) (off := 42) (l := 3) rfl rfl (fun h171 => ?_) (fun h171 => ?_)
          · have g171 := xt_ge h171
            rw [hs] at g171
            have e := xnle (b := m) g171 (by omega) (by omega)
            have e2 : m = j := by omega
            subst e2
            refine xS.s1 rfl rfl ?_
            try dsimp only [Nat.reduceAdd, xi_0]
            refine xS.s1 rfl rfl ?_
            try dsimp only [Nat.reduceAdd]
            refine xS.pick [0, 1, 2] rfl ?_
            refine xS.loop (σ := Unit) (3) (fun j S => [(3, .int (nI j)), (1, .long (xdl (fun k => g (67 + 2 * k) 1) (xdl (g 5) (xdl (g (b.1 + 3)) (xdG (xgf g Lw m) 4 (xdl (g (b.1 + 1)) (xdl (xct g G T m Lw) 17 9) 6) G) (2 * T)) (4 * m)) j)), (0, .ref 0)]) (fun _ _ => xH b g l) (fun _ _ => True) (()) (rfl) (rfl) (trivial) ?_
            intro j S215 hj hI215 ih
            try dsimp only
            refine xS.s1 rfl rfl ?_
            try dsimp only [Nat.reduceAdd]
            refine xS.s1 rfl rfl ?_
            try dsimp only [Nat.reduceAdd, xi_3]
            refine xS.br (c := .ge) (off := 26) (l := 3) rfl rfl (fun h217 => ?_) (fun h217 => ?_)
            · have g217 := xt_ge h217
              have e := xnle (b := 3) g217 (by omega) (by omega)
              have e2 : 3 = j := by omega
              subst e2
              refine xS.s1 rfl rfl ?_
              try dsimp only [Nat.reduceAdd]
              refine xS.gR rfl rfl rfl ⟨by decide, rfl⟩ rfl ?_
              try dsimp only [Nat.reduceAdd]
              refine xS.s1 rfl rfl ?_
              try dsimp only [Nat.reduceAdd]
              refine xS.gR rfl rfl rfl ⟨by decide, rfl⟩ rfl ?_
              try dsimp only [Nat.reduceAdd]
              refine xS.s1 rfl rfl ?_
              try dsimp only [Nat.reduceAdd]
              -- 252 yX11_digestOf
              refine xS.callS rfl rfl rfl ⟨Nat.le_of_ble_eq_true rfl, rfl⟩ (c_X11_digestOf_rows hzr) (fun v M1 hv => ?_)
              rw [hv.1, hv.2]
              clear hv M1 v
              try dsimp only [Nat.reduceAdd, Option.toList, List.cons_append, List.nil_append, List.drop]
              -- 255 yX11_digestOf
              refine xS.callS rfl rfl rfl ⟨Nat.le_of_ble_eq_true rfl, rfl⟩ (c_X11_digestOf_texts hzt) (fun v M1 hv => ?_)
              rw [hv.1, hv.2]
              clear hv M1 v
              try dsimp only [Nat.reduceAdd, Option.toList, List.cons_append, List.nil_append, List.drop]
              refine xS.ret rfl rfl rfl (fun _ _ => rfl) ?_
              exact ⟨rfl, rfl⟩
            · have g217 := xf_ge h217
              have hlt := xnlt (b := 3) g217 (by omega) (by omega)
              refine xS.s1 rfl rfl ?_
              try dsimp only [Nat.reduceAdd]
              refine xS.s1 rfl rfl ?_
              try dsimp only [Nat.reduceAdd]
              refine xS.s1 rfl rfl ?_
              try dsimp only [Nat.reduceAdd]
              refine xS.s1 rfl rfl ?_
              try dsimp only [Nat.reduceAdd]
              refine xS.gR rfl rfl rfl ⟨by decide, rfl⟩ rfl ?_
              try dsimp only [Nat.reduceAdd]
              refine xS.s1 rfl rfl ?_
              try dsimp only [Nat.reduceAdd]
              refine xS.aR rfl rfl (by decide) (by omega) (xsh6_get (by omega)) ?_
              try dsimp only [Nat.reduceAdd]
              -- 231 yX2_size
              refine xS.cv rfl rfl rfl ((xde_kept (r := j) (by omega)).1 _) rfl rfl ⟨by decide, rfl, rfl⟩ (c_X2_size (xde_kept (r := j) (by omega))) (fun v M1 hv => ?_)
              rw [hv.1, hv.2]
              clear hv M1 v
              try dsimp only [Nat.reduceAdd, Option.toList, List.cons_append, List.nil_append, List.drop]
              refine xS.s1 rfl rfl ?_
              try dsimp only [Nat.reduceAdd]
              refine xS.s1 rfl rfl ?_
              try dsimp only [Nat.reduceAdd]
              refine xS.s1 rfl rfl ?_
              try dsimp only [Nat.reduceAdd]
              refine xS.s1 rfl rfl ?_
              try dsimp only [Nat.reduceAdd, xi_1]
              rw [nI_1]
              refine xS.s1 rfl rfl ?_
              try dsimp only [Nat.reduceAdd]
              refine xS.pick [0, 1, 2] rfl ?_
              exact ih () (by omega) trivial
          · have g171 := xf_ge h171
            rw [hs] at g171
            have hlt := xnlt (b := m) g171 (by omega) (by omega)
            refine xS.s1 rfl rfl ?_
            try dsimp only [Nat.reduceAdd, xi_0]
            refine xS.s1 rfl rfl ?_
            try dsimp only [Nat.reduceAdd]
            refine xS.pick [0, 2, 3, 1] rfl ?_
            refine xS.loop (σ := Unit) (4) (fun i S => [(4, .int (nI i)), (1, .long (xdl (g 5) (xdl (g (b.1 + 3)) (xdG (xgf g Lw m) 4 (xdl (g (b.1 + 1)) (xdl (xct g G T m Lw) 17 9) 6) G) (2 * T)) (4 * j + i))), (0, .ref 0), (3, .int (nI j))]) (fun _ _ => xH b g l) (fun _ _ => True) (()) (rfl) (rfl) (trivial) ?_
            intro i S177 hi hI177 ih2
            try dsimp only
            refine xS.s1 rfl rfl ?_
            try dsimp only [Nat.reduceAdd]
            refine xS.s1 rfl rfl ?_
            try dsimp only [Nat.reduceAdd, xi_3]
            refine xS.br (c := .gt) (off := 27) (l := 3) rfl rfl (fun h180 => ?_) (fun h180 => ?_)
            · have g180 := xt_gt h180
              have e := (nI_ltI (a := 3) (b := i) (by omega) (by omega)).mp g180
              have e2 : 4 = i := by omega
              subst e2
              refine xS.s1 rfl rfl ?_
              try dsimp only [Nat.reduceAdd, xi_1]
              rw [nI_1]
              refine xS.s1 rfl rfl ?_
              try dsimp only [Nat.reduceAdd]
              refine xS.pick [0, 2, 3] rfl ?_
              exact ih () (by omega) trivial
            · have g180 := xf_gt h180
              have hlt2 := (nI_leI (a := i) (b := 3) (by omega) (by omega)).mp g180
              refine xS.s1 rfl rfl ?_
              try dsimp only [Nat.reduceAdd]
              refine xS.s1 rfl rfl ?_
              try dsimp only [Nat.reduceAdd]
              refine xS.s1 rfl rfl ?_
              try dsimp only [Nat.reduceAdd]
              refine xS.s1 rfl rfl ?_
              try dsimp only [Nat.reduceAdd]
              refine xS.gR rfl rfl rfl ⟨by decide, rfl⟩ rfl ?_
              try dsimp only [Nat.reduceAdd]
              refine xS.s1 rfl rfl ?_
              try dsimp only [Nat.reduceAdd]
              refine xS.s1 rfl rfl ?_
              try dsimp only [Nat.reduceAdd]
              -- 195 yX2_fact
              refine xS.cv rfl rfl rfl (xde_deeds.1 _) rfl rfl ⟨by decide, rfl, rfl⟩ (c_X2_fact xde_deeds hs hm hlt (by omega)) (fun v M1 hv => ?_)
              rw [hv.1, hv.2]
              clear hv M1 v
              try dsimp only [Nat.reduceAdd, Option.toList, List.cons_append, List.nil_append, List.drop]
              refine xS.s1 rfl rfl ?_
              try dsimp only [Nat.reduceAdd]
              refine xS.s1 rfl rfl ?_
              try dsimp only [Nat.reduceAdd]
              refine xS.s1 rfl rfl ?_
              try dsimp only [Nat.reduceAdd]
              refine xS.s1 rfl rfl ?_
              try dsimp only [Nat.reduceAdd, xi_1]
              rw [nI_1]
              refine xS.s1 rfl rfl ?_
              try dsimp only [Nat.reduceAdd]
              refine xS.pick [0, 1, 2, 3] rfl ?_
              exact ih2 () (by omega) trivial
        · have g120 := xf_ge h120
          rw [hR.2.1.1] at g120
          have hlt := xnlt (b := T) g120 (by omega) (by omega)
          refine xS.s1 rfl rfl ?_
          try dsimp only [Nat.reduceAdd]
          refine xS.s1 rfl rfl ?_
          try dsimp only [Nat.reduceAdd]
          refine xS.s1 rfl rfl ?_
          try dsimp only [Nat.reduceAdd]
          refine xS.s1 rfl rfl ?_
          try dsimp only [Nat.reduceAdd]
          refine xS.s1 rfl rfl ?_
          try dsimp only [Nat.reduceAdd]
          refine xS.gR rfl rfl rfl ⟨by decide, rfl⟩ rfl ?_
          try dsimp only [Nat.reduceAdd]
          refine xS.s1 rfl rfl ?_
          try dsimp only [Nat.reduceAdd]
          refine xS.s1 rfl rfl ?_
          try dsimp only [Nat.reduceAdd, xi_0]
          -- 137 yX8_termStep
          refine xS.cv rfl rfl rfl (hb.1 _) rfl rfl ⟨by decide, rfl, rfl⟩ (c_X8_termStep (t := 0) hb hR.2.1.1 hR.2.1.2 hlt (by decide)) (fun v M1 hv => ?_)
          rw [hv.1, hv.2]
          clear hv M1 v
          try dsimp only [Nat.reduceAdd, Option.toList, List.cons_append, List.nil_append, List.drop]
          refine xS.s1 rfl rfl ?_
          try dsimp only [Nat.reduceAdd]
          refine xS.s1 rfl rfl ?_
          try dsimp only [Nat.reduceAdd]
          refine xS.s1 rfl rfl ?_
          try dsimp only [Nat.reduceAdd]
          refine xS.s1 rfl rfl ?_
          try dsimp only [Nat.reduceAdd]
          refine xS.gR rfl rfl rfl ⟨by decide, rfl⟩ rfl ?_
          try dsimp only [Nat.reduceAdd]
          refine xS.s1 rfl rfl ?_
          try dsimp only [Nat.reduceAdd]
          refine xS.s1 rfl rfl ?_
          try dsimp only [Nat.reduceAdd, xi_1]
          -- 149 yX8_termStep
          refine xS.cv rfl rfl rfl (hb.1 _) rfl rfl ⟨by decide, rfl, rfl⟩ (c_X8_termStep (t := 1) hb hR.2.1.1 hR.2.1.2 hlt (by decide)) (fun v M1 hv => ?_)
          rw [hv.1, hv.2]
          clear hv M1 v
          try dsimp only [Nat.reduceAdd, Option.toList, List.cons_append, List.nil_append, List.drop]
          refine xS.s1 rfl rfl ?_
          try dsimp only [Nat.reduceAdd]
          refine xS.s1 rfl rfl ?_
          try dsimp only [Nat.reduceAdd]
          refine xS.s1 rfl rfl ?_
          try dsimp only [Nat.reduceAdd]
          refine xS.s1 rfl rfl ?_
          try dsimp only [Nat.reduceAdd, xi_1]
          rw [nI_1]
          refine xS.s1 rfl rfl ?_
          try dsimp only [Nat.reduceAdd]
          refine xS.pick [0, 1, 2] rfl ?_
          exact ih () (by omega) trivial
      · have g71 := xf_ge h71
        rw [hR.1.1] at g71
        have hlt := xnlt (b := G) g71 (by omega) (by omega)
        refine xS.s1 rfl rfl ?_
        try dsimp only [Nat.reduceAdd, xi_0]
        refine xS.s1 rfl rfl ?_
        try dsimp only [Nat.reduceAdd]
        refine xS.pick [0, 2, 3, 1] rfl ?_
        refine xS.loop (σ := Unit) (4) (fun i S => [(4, .int (nI i)), (1, .long (xdl (xgf g Lw m j) (xdG (xgf g Lw m) 4 (xdl (g (b.1 + 1)) (xdl (xct g G T m Lw) 17 9) 6) j) i)), (0, .ref 0), (3, .int (nI j))]) (fun _ _ => xH b g l) (fun _ _ => True) (()) (rfl) (rfl) (trivial) ?_
        intro i S77 hi hI77 ih2
        try dsimp only
        refine xS.s1 rfl rfl ?_
        try dsimp only [Nat.reduceAdd]
        refine xS.s1 rfl rfl ?_
        try dsimp only [Nat.reduceAdd, xi_3]
        refine xS.br (c := .gt) (off := 24) (l := 3) rfl rfl (fun h80 => ?_) (fun h80 => ?_)
        · have g80 := xt_gt h80
          have e := (nI_ltI (a := 3) (b := i) (by omega) (by omega)).mp g80
          have e2 : 4 = i := by omega
          subst e2
          refine xS.s1 rfl rfl ?_
          try dsimp only [Nat.reduceAdd, xi_1]
          rw [nI_1]
          refine xS.s1 rfl rfl ?_
          try dsimp only [Nat.reduceAdd]
          refine xS.pick [0, 2, 3] rfl ?_
          exact ih () (by omega) trivial
        · have g80 := xf_gt h80
          have hlt2 := (nI_leI (a := i) (b := 3) (by omega) (by omega)).mp g80
          refine xS.s1 rfl rfl ?_
          try dsimp only [Nat.reduceAdd]
          refine xS.s1 rfl rfl ?_
          try dsimp only [Nat.reduceAdd]
          refine xS.s1 rfl rfl ?_
          try dsimp only [Nat.reduceAdd]
          refine xS.s1 rfl rfl ?_
          try dsimp only [Nat.reduceAdd]
          refine xS.s1 rfl rfl ?_
          try dsimp only [Nat.reduceAdd]
          refine xS.s1 rfl rfl ?_
          try dsimp only [Nat.reduceAdd]
          -- 92 yX11_glassFact
          refine xS.cv rfl rfl rfl rfl rfl rfl ⟨by decide, rfl, rfl⟩ (c_X11_glassFact hb hR hp hs hm hlt (by omega)) (fun v M1 hv => ?_)
          rw [hv.1, hv.2]
          clear hv M1 v
          try dsimp only [Nat.reduceAdd, Option.toList, List.cons_append, List.nil_append, List.drop]
          refine xS.s1 rfl rfl ?_
          try dsimp only [Nat.reduceAdd]
          refine xS.s1 rfl rfl ?_
          try dsimp only [Nat.reduceAdd]
          refine xS.s1 rfl rfl ?_
          try dsimp only [Nat.reduceAdd]
          refine xS.s1 rfl rfl ?_
          try dsimp only [Nat.reduceAdd, xi_1]
          rw [nI_1]
          refine xS.s1 rfl rfl ?_
          try dsimp only [Nat.reduceAdd]
          refine xS.pick [0, 1, 2, 3] rfl ?_
          exact ih2 () (by omega) trivial
    · have g36 := xf_ge h36
      have hlt := xnlt (b := 6) g36 (by omega) (by omega)
      refine xS.s1 rfl rfl ?_
      try dsimp only [Nat.reduceAdd]
      refine xS.s1 rfl rfl ?_
      try dsimp only [Nat.reduceAdd]
      refine xS.s1 rfl rfl ?_
      try dsimp only [Nat.reduceAdd]
      refine xS.s1 rfl rfl ?_
      try dsimp only [Nat.reduceAdd]
      refine xS.gR rfl rfl rfl ⟨by decide, rfl⟩ rfl ?_
      try dsimp only [Nat.reduceAdd]
      refine xS.s1 rfl rfl ?_
      try dsimp only [Nat.reduceAdd]
      -- 49 yX8_thought
      refine xS.cv rfl rfl rfl (hb.1 _) rfl rfl ⟨by decide, rfl, rfl⟩ (c_X8_thought hb hlt) (fun v M1 hv => ?_)
      rw [hv.1, hv.2]
      clear hv M1 v
      try dsimp only [Nat.reduceAdd, Option.toList, List.cons_append, List.nil_append, List.drop]
      refine xS.s1 rfl rfl ?_
      try dsimp only [Nat.reduceAdd]
      refine xS.s1 rfl rfl ?_
      try dsimp only [Nat.reduceAdd]
      refine xS.s1 rfl rfl ?_
      try dsimp only [Nat.reduceAdd]
      refine xS.s1 rfl rfl ?_
      try dsimp only [Nat.reduceAdd, xi_1]
      rw [nI_1]
      refine xS.s1 rfl rfl ?_
      try dsimp only [Nat.reduceAdd]
      refine xS.pick [0, 1, 2] rfl ?_
      exact ih () (by omega) trivial
  · have g9 := xf_gt h9
    have hlt := (nI_leI (a := j) (b := 8) (by omega) (by omega)).mp g9
    refine xS.s1 rfl rfl ?_
    try dsimp only [Nat.reduceAdd]
    refine xS.s1 rfl rfl ?_
    try dsimp only [Nat.reduceAdd]
    refine xS.s1 rfl rfl ?_
    try dsimp only [Nat.reduceAdd]
    refine xS.s1 rfl rfl ?_
    try dsimp only [Nat.reduceAdd]
    refine xS.s1 rfl rfl ?_
    try dsimp only [Nat.reduceAdd]
    -- 19 yX11_count
    refine xS.cv rfl rfl rfl rfl rfl rfl ⟨by decide, rfl, rfl⟩ (c_X11_count hb hR hp hs hm (by omega)) (fun v M1 hv => ?_)
    rw [hv.1, hv.2]
    clear hv M1 v
    try dsimp only [Nat.reduceAdd, Option.toList, List.cons_append, List.nil_append, List.drop]
    refine xS.s1 rfl rfl ?_
    try dsimp only [Nat.reduceAdd]
    refine xS.s1 rfl rfl ?_
    try dsimp only [Nat.reduceAdd]
    refine xS.s1 rfl rfl ?_
    try dsimp only [Nat.reduceAdd]
    refine xS.s1 rfl rfl ?_
    try dsimp only [Nat.reduceAdd, xi_1]
    rw [nI_1]
    refine xS.s1 rfl rfl ?_
    try dsimp only [Nat.reduceAdd]
    refine xS.pick [0, 1, 2] rfl ?_
    exact ih () (by omega) trivial

set_option maxRecDepth 10000 in
theorem c_X11_mark_bad (hb : xro b.1) (hx : ¬ ((0 ≤ x ∧ x < g b.1 2) ∧ 1 ≤ y ∧ y ≤ 5)) : xT (k + 6) 89 [.ref 0, .int x, .int y] (xH b g l) (fun r M' => M' = xH b g l ∧ r = some (.int (-1))) := by
  refine xT.of rfl (Nat.le_of_ble_eq_true rfl) ?_
  change xS _ _ 0 [(0, .ref 0), (1, .int x), (2, .int y)] [] _ _
  refine xS.s1 rfl rfl ?_
  try dsimp only [Nat.reduceAdd]
  refine xS.s1 rfl rfl ?_
  try dsimp only [Nat.reduceAdd]
  -- 2 yX11_isGlass
  refine xS.cv rfl rfl rfl rfl rfl rfl ⟨by decide, rfl, rfl⟩ (c_X11_isGlass hb) (fun v M1 hv => ?_)
  rw [hv.1, hv.2]
  clear hv M1 v
  try dsimp only [Nat.reduceAdd, Option.toList, List.cons_append, List.nil_append, List.drop]
  refine xS.br0 (c := .eq) (off := 13) (l := 3) rfl rfl (fun h5 => ?_) (fun h5 => ?_)
  · have g5 := xt_eq h5
    refine xS.s1 rfl rfl ?_
    try dsimp only [Nat.reduceAdd, xi_m1]
    refine xS.ret rfl rfl rfl (fun _ _ => rfl) ?_
    exact ⟨rfl, rfl⟩
  · have g5 := xf_eq h5
    refine xS.s1 rfl rfl ?_
    try dsimp only [Nat.reduceAdd]
    refine xS.s1 rfl rfl ?_
    try dsimp only [Nat.reduceAdd, xi_1]
    refine xS.br (c := .lt) (off := 8) (l := 3) rfl rfl (fun h10 => ?_) (fun h10 => ?_)
    · have g10 := xt_lt h10
      refine xS.s1 rfl rfl ?_
      try dsimp only [Nat.reduceAdd, xi_m1]
      refine xS.ret rfl rfl rfl (fun _ _ => rfl) ?_
      exact ⟨rfl, rfl⟩
    · have g10 := xf_lt h10
      refine xS.s1 rfl rfl ?_
      try dsimp only [Nat.reduceAdd]
      refine xS.s1 rfl rfl ?_
      try dsimp only [Nat.reduceAdd, xi_5]
      refine xS.br (c := .le) (off := 5) (l := 3) rfl rfl (fun h15 => ?_) (fun h15 => ?_)
      · have g15 := xt_le h15
        exact absurd ⟨xif1 g5, g10, g15⟩ hx
      · have g15 := xf_le h15
        refine xS.s1 rfl rfl ?_
        try dsimp only [Nat.reduceAdd, xi_m1]
        refine xS.ret rfl rfl rfl (fun _ _ => rfl) ?_
        exact ⟨rfl, rfl⟩

set_option maxRecDepth 10000 in
theorem c_X11_mark_ref (hb : xro b.1) (hR : xRm g b.1 G T Lw) (hp : xpn g) (hs : g 4 1 = nI m) (hm : m ≤ 40) (hk : s < G) (ht1 : 1 ≤ t) (ht : t ≤ 5) (hi : xiso (Lw s / 4) (nI t) = false) : xT (k + 6) 89 [.ref 0, .int (nI s), .int (nI t)] (xH b g l) (fun r M' => M' = xH b (xfC g 3) l ∧ r = some (.int (-3))) := by
  refine xT.of rfl (Nat.le_of_ble_eq_true rfl) ?_
  change xS _ _ 0 [(0, .ref 0), (1, .int (nI s)), (2, .int (nI t))] [] _ _
  refine xS.s1 rfl rfl ?_
  try dsimp only [Nat.reduceAdd]
  refine xS.s1 rfl rfl ?_
  try dsimp only [Nat.reduceAdd]
  -- 2 yX11_isGlass
  refine xS.cv rfl rfl rfl rfl rfl rfl ⟨by decide, rfl, rfl⟩ (c_X11_isGlass_in hb hR hk) (fun v M1 hv => ?_)
  rw [hv.1, hv.2]
  clear hv M1 v
  try dsimp only [Nat.reduceAdd, Option.toList, List.cons_append, List.nil_append, List.drop]
  refine xS.br0 (c := .eq) (off := 13) (l := 3) rfl rfl (fun h5 => ?_) (fun h5 => ?_)
  · have g5 := xt_eq h5
    exfalso; first | exact absurd g5 (by decide) | (simp (disch := omega) only [Int32.lt_iff_toInt_lt, Int32.le_iff_toInt_le, nI_toInt, Int32.reduceToInt] at g5 <;> omega)
  · have g5 := xf_eq h5
    refine xS.s1 rfl rfl ?_
    try dsimp only [Nat.reduceAdd]
    refine xS.s1 rfl rfl ?_
    try dsimp only [Nat.reduceAdd, xi_1]
    refine xS.br (c := .lt) (off := 8) (l := 3) rfl rfl (fun h10 => ?_) (fun h10 => ?_)
    · have g10 := xt_lt h10
      exfalso; first | exact absurd g10 (by decide) | (simp (disch := omega) only [Int32.lt_iff_toInt_lt, Int32.le_iff_toInt_le, nI_toInt, Int32.reduceToInt] at g10 <;> omega)
    · have g10 := xf_lt h10
      refine xS.s1 rfl rfl ?_
      try dsimp only [Nat.reduceAdd]
      refine xS.s1 rfl rfl ?_
      try dsimp only [Nat.reduceAdd, xi_5]
      refine xS.br (c := .le) (off := 5) (l := 3) rfl rfl (fun h15 => ?_) (fun h15 => ?_)
      · have g15 := xt_le h15
        refine xS.s1 rfl rfl ?_
        try dsimp only [Nat.reduceAdd]
        refine xS.s1 rfl rfl ?_
        try dsimp only [Nat.reduceAdd]
        -- 22 yX11_paneOf
        refine xS.cv rfl rfl rfl rfl rfl rfl ⟨by decide, rfl, rfl⟩ (c_X11_paneOf hb hR hk) (fun v M1 hv => ?_)
        rw [hv.1, hv.2]
        clear hv M1 v
        try dsimp only [Nat.reduceAdd, Option.toList, List.cons_append, List.nil_append, List.drop]
        refine xS.s1 rfl rfl ?_
        try dsimp only [Nat.reduceAdd]
        refine xS.s1 rfl rfl ?_
        try dsimp only [Nat.reduceAdd]
        refine xS.gR rfl rfl rfl ⟨by decide, rfl⟩ rfl ?_
        try dsimp only [Nat.reduceAdd]
        -- 30 yX2_size
        refine xS.cv rfl rfl rfl (xde_deeds.1 _) rfl rfl ⟨by decide, rfl, rfl⟩ (c_X2_size xde_deeds) (fun v M1 hv => ?_)
        rw [hv.1, hv.2, hs]
        clear hv M1 v
        try dsimp only [Nat.reduceAdd, Option.toList, List.cons_append, List.nil_append, List.drop]
        refine xS.s1 rfl rfl ?_
        try dsimp only [Nat.reduceAdd]
        refine xS.s1 rfl rfl ?_
        try dsimp only [Nat.reduceAdd]
        refine xS.s1 rfl rfl ?_
        try dsimp only [Nat.reduceAdd]
        refine xS.cIso rfl rfl hp (hR.2.2.1 s hk).2 rfl ?_
        try dsimp only [Nat.reduceAdd]
        refine xS.br0 (c := .ne) (off := 9) (l := 3) rfl rfl (fun h40 => ?_) (fun h40 => ?_)
        · have g40 := xt_ne h40
          exact absurd (xif1 g40) (by rw [hi]; decide)
        · have g40 := xf_ne h40
          refine xS.s1 rfl rfl ?_
          try dsimp only [Nat.reduceAdd]
          refine xS.s1 rfl rfl ?_
          try dsimp only [Nat.reduceAdd, xi_3]
          -- 45 yX11_refuse
          refine xS.cv rfl rfl rfl rfl rfl rfl ⟨by decide, rfl, rfl⟩ (c_X11_refuse (t := 3) (by decide) (by decide)) (fun v M1 hv => ?_)
          rw [hv.1, hv.2]
          clear hv M1 v
          try dsimp only [Nat.reduceAdd, Option.toList, List.cons_append, List.nil_append, List.drop]
          refine xS.ret rfl rfl rfl (fun _ _ => rfl) ?_
          exact ⟨rfl, rfl⟩
      · have g15 := xf_le h15
        exfalso; first | exact absurd g15 (by decide) | (simp (disch := omega) only [Int32.lt_iff_toInt_lt, Int32.le_iff_toInt_le, nI_toInt, Int32.reduceToInt] at g15 <;> omega)

theorem xiso_1 {κ : Nat} (hk : κ < 6) (h : xiso κ (nI 1) = true) : κ = 1 ∨ κ = 4 := by
  have : ∀ κ, κ < 6 → xiso κ (nI 1) = true → κ = 1 ∨ κ = 4 := by decide
  exact this κ hk h
theorem xsrc_lt {κ δ i s : Nat} (hk : κ = 1 ∨ κ = 4) (hd : 0 < δ) (h : xsrc κ δ i = some s) : s < i := by
  unfold xsrc at h
  rcases hk with rfl | rfl
  · rw [if_pos rfl] at h
    split at h
    · cases h
    · cases h; omega
  · rw [if_neg (by decide), if_pos rfl] at h
    split at h
    · cases h
    · split at h
      · cases h
      · cases h; omega

set_option maxRecDepth 10000 in
theorem c_X11_mark_1 (hb : xro b.1) (hR : xRm g b.1 G T Lw) (hp : xpn g) (hs : g 4 1 = nI m) (hm : m ≤ 40) (hx : ∀ i, i < m → xstp (g 5 (4 * i))) (hk : s < G) (hi : xiso (Lw s / 4) (nI 1) = true) : xT (k + 6) 89 [.ref 0, .int (nI s), .int (nI 1)] (xH b g l) (fun r M' => M' = xH b g l ∧ r = some (.int ((if Lw s % 4 = 0 then -9 else xshw (g (b.1 + 1)) (Lw s / 4) (Lw s % 4) (fun i => xN (g 5 (4 * i))) m)))) := by
  refine xT.of rfl (Nat.le_of_ble_eq_true rfl) ?_
  change xS _ _ 0 [(0, .ref 0), (1, .int (nI s)), (2, .int (nI 1))] [] _ _
  refine xS.s1 rfl rfl ?_
  try dsimp only [Nat.reduceAdd]
  refine xS.s1 rfl rfl ?_
  try dsimp only [Nat.reduceAdd]
  -- 2 yX11_isGlass
  refine xS.cv rfl rfl rfl rfl rfl rfl ⟨by decide, rfl, rfl⟩ (c_X11_isGlass_in hb hR hk) (fun v M1 hv => ?_)
  rw [hv.1, hv.2]
  clear hv M1 v
  try dsimp only [Nat.reduceAdd, Option.toList, List.cons_append, List.nil_append, List.drop]
  refine xS.br0 (c := .eq) (off := 13) (l := 3) rfl rfl (fun h5 => ?_) (fun h5 => ?_)
  · have g5 := xt_eq h5
    exfalso; first | exact absurd g5 (by decide) | (simp (disch := omega) only [Int32.lt_iff_toInt_lt, Int32.le_iff_toInt_le, nI_toInt, Int32.reduceToInt] at g5 <;> omega)
  · have g5 := xf_eq h5
    refine xS.s1 rfl rfl ?_
    try dsimp only [Nat.reduceAdd]
    refine xS.s1 rfl rfl ?_
    try dsimp only [Nat.reduceAdd, xi_1]
    refine xS.br (c := .lt) (off := 8) (l := 3) rfl rfl (fun h10 => ?_) (fun h10 => ?_)
    · have g10 := xt_lt h10
      exfalso; first | exact absurd g10 (by decide) | (simp (disch := omega) only [Int32.lt_iff_toInt_lt, Int32.le_iff_toInt_le, nI_toInt, Int32.reduceToInt] at g10 <;> omega)
    · have g10 := xf_lt h10
      refine xS.s1 rfl rfl ?_
      try dsimp only [Nat.reduceAdd]
      refine xS.s1 rfl rfl ?_
      try dsimp only [Nat.reduceAdd, xi_5]
      refine xS.br (c := .le) (off := 5) (l := 3) rfl rfl (fun h15 => ?_) (fun h15 => ?_)
      · have g15 := xt_le h15
        refine xS.s1 rfl rfl ?_
        try dsimp only [Nat.reduceAdd]
        refine xS.s1 rfl rfl ?_
        try dsimp only [Nat.reduceAdd]
        -- 22 yX11_paneOf
        refine xS.cv rfl rfl rfl rfl rfl rfl ⟨by decide, rfl, rfl⟩ (c_X11_paneOf hb hR hk) (fun v M1 hv => ?_)
        rw [hv.1, hv.2]
        clear hv M1 v
        try dsimp only [Nat.reduceAdd, Option.toList, List.cons_append, List.nil_append, List.drop]
        refine xS.s1 rfl rfl ?_
        try dsimp only [Nat.reduceAdd]
        refine xS.s1 rfl rfl ?_
        try dsimp only [Nat.reduceAdd]
        refine xS.gR rfl rfl rfl ⟨by decide, rfl⟩ rfl ?_
        try dsimp only [Nat.reduceAdd]
        -- 30 yX2_size
        refine xS.cv rfl rfl rfl (xde_deeds.1 _) rfl rfl ⟨by decide, rfl, rfl⟩ (c_X2_size xde_deeds) (fun v M1 hv => ?_)
        rw [hv.1, hv.2, hs]
        clear hv M1 v
        try dsimp only [Nat.reduceAdd, Option.toList, List.cons_append, List.nil_append, List.drop]
        refine xS.s1 rfl rfl ?_
        try dsimp only [Nat.reduceAdd]
        refine xS.s1 rfl rfl ?_
        try dsimp only [Nat.reduceAdd]
        refine xS.s1 rfl rfl ?_
        try dsimp only [Nat.reduceAdd]
        refine xS.cIso rfl rfl hp (hR.2.2.1 s hk).2 rfl ?_
        try dsimp only [Nat.reduceAdd]
        refine xS.br0 (c := .ne) (off := 9) (l := 3) rfl rfl (fun h40 => ?_) (fun h40 => ?_)
        · have g40 := xt_ne h40
          refine xS.s1 rfl rfl ?_
          try dsimp only [Nat.reduceAdd]
          refine xS.s1 rfl rfl ?_
          try dsimp only [Nat.reduceAdd]
          refine xS.s1 rfl rfl ?_
          try dsimp only [Nat.reduceAdd]
          refine xS.cDelay rfl rfl hp (hR.2.2.1 s hk).2 rfl ?_
          try dsimp only [Nat.reduceAdd]
          refine xS.br0 (c := .ne) (off := 8) (l := 3) rfl rfl (fun h84 => ?_) (fun h84 => ?_)
          · have g84 := xt_ne h84
            have e84 : ¬ Lw s % 4 = 0 := fun z => g84 (by rw [z]; rfl)
            refine xS.s1 rfl rfl ?_
            try dsimp only [Nat.reduceAdd]
            refine xS.gR rfl rfl rfl ⟨by decide, rfl⟩ rfl ?_
            try dsimp only [Nat.reduceAdd]
            refine xS.s1 rfl rfl ?_
            try dsimp only [Nat.reduceAdd]
            refine xS.s1 rfl rfl ?_
            try dsimp only [Nat.reduceAdd]
            refine xS.gR rfl rfl rfl ⟨by decide, rfl⟩ rfl ?_
            try dsimp only [Nat.reduceAdd]
            refine xS.s1 rfl rfl ?_
            try dsimp only [Nat.reduceAdd]
            -- 103 yX8_shown
            refine xS.cv rfl rfl rfl (hb.1 _) rfl rfl ⟨by decide, rfl, rfl⟩ (c_X8_shown_D hb xde_deeds hp (hR.2.2.1 s hk).2 (by omega) hs hm (fun u h => have hlt := xsrc_lt (xiso_1 (by have := (hR.2.2.1 s hk).2; omega) hi) (by omega) h; ⟨hlt, hx u hlt⟩)) (fun v M1 hv => ?_)
            rw [hv.1, hv.2]
            clear hv M1 v
            try dsimp only [Nat.reduceAdd, Option.toList, List.cons_append, List.nil_append, List.drop]
            refine xS.ret rfl rfl rfl (fun _ _ => rfl) ?_
            rw [if_neg e84]
            exact ⟨rfl, rfl⟩
          · have g84 := xf_ne h84
            refine xS.s1 rfl rfl ?_
            try dsimp only [Nat.reduceAdd, xj_m9]
            refine xS.s1 rfl rfl ?_
            try dsimp only [Nat.reduceAdd]
            refine xS.ret rfl rfl rfl (fun _ _ => rfl) ?_
            rw [if_pos ((nI_eq (b := 0) (by omega) (by omega)).mp g84)]
            exact ⟨rfl, rfl⟩
        · have g40 := xf_ne h40
          exact absurd hi (xif0 g40)
      · have g15 := xf_le h15
        exfalso; first | exact absurd g15 (by decide) | (simp (disch := omega) only [Int32.lt_iff_toInt_lt, Int32.le_iff_toInt_le, nI_toInt, Int32.reduceToInt] at g15 <;> omega)

set_option maxRecDepth 10000 in
theorem c_X11_mark_2 (hb : xro b.1) (hR : xRm g b.1 G T Lw) (hp : xpn g) (hs : g 4 1 = nI m) (hm : m ≤ 40) (hx : ∀ i, i < m → xstp (g 5 (4 * i))) (hk : s < G) (hi : xiso (Lw s / 4) (nI 2) = true) : xT (k + 6) 89 [.ref 0, .int (nI s), .int (nI 2)] (xH b g l) (fun r M' => M' = xH b g l ∧ r = some (.int (nI (xcnt (fun i => decide (xshw (g (b.1 + 1)) (Lw s / 4) (Lw s % 4) (fun i => xN (g 5 (4 * i))) i = 0)) m)))) := by
  refine xT.of rfl (Nat.le_of_ble_eq_true rfl) ?_
  change xS _ _ 0 [(0, .ref 0), (1, .int (nI s)), (2, .int (nI 2))] [] _ _
  refine xS.s1 rfl rfl ?_
  try dsimp only [Nat.reduceAdd]
  refine xS.s1 rfl rfl ?_
  try dsimp only [Nat.reduceAdd]
  -- 2 yX11_isGlass
  refine xS.cv rfl rfl rfl rfl rfl rfl ⟨by decide, rfl, rfl⟩ (c_X11_isGlass_in hb hR hk) (fun v M1 hv => ?_)
  rw [hv.1, hv.2]
  clear hv M1 v
  try dsimp only [Nat.reduceAdd, Option.toList, List.cons_append, List.nil_append, List.drop]
  refine xS.br0 (c := .eq) (off := 13) (l := 3) rfl rfl (fun h5 => ?_) (fun h5 => ?_)
  · have g5 := xt_eq h5
    exfalso; first | exact absurd g5 (by decide) | (simp (disch := omega) only [Int32.lt_iff_toInt_lt, Int32.le_iff_toInt_le, nI_toInt, Int32.reduceToInt] at g5 <;> omega)
  · have g5 := xf_eq h5
    refine xS.s1 rfl rfl ?_
    try dsimp only [Nat.reduceAdd]
    refine xS.s1 rfl rfl ?_
    try dsimp only [Nat.reduceAdd, xi_1]
    refine xS.br (c := .lt) (off := 8) (l := 3) rfl rfl (fun h10 => ?_) (fun h10 => ?_)
    · have g10 := xt_lt h10
      exfalso; first | exact absurd g10 (by decide) | (simp (disch := omega) only [Int32.lt_iff_toInt_lt, Int32.le_iff_toInt_le, nI_toInt, Int32.reduceToInt] at g10 <;> omega)
    · have g10 := xf_lt h10
      refine xS.s1 rfl rfl ?_
      try dsimp only [Nat.reduceAdd]
      refine xS.s1 rfl rfl ?_
      try dsimp only [Nat.reduceAdd, xi_5]
      refine xS.br (c := .le) (off := 5) (l := 3) rfl rfl (fun h15 => ?_) (fun h15 => ?_)
      · have g15 := xt_le h15
        refine xS.s1 rfl rfl ?_
        try dsimp only [Nat.reduceAdd]
        refine xS.s1 rfl rfl ?_
        try dsimp only [Nat.reduceAdd]
        -- 22 yX11_paneOf
        refine xS.cv rfl rfl rfl rfl rfl rfl ⟨by decide, rfl, rfl⟩ (c_X11_paneOf hb hR hk) (fun v M1 hv => ?_)
        rw [hv.1, hv.2]
        clear hv M1 v
        try dsimp only [Nat.reduceAdd, Option.toList, List.cons_append, List.nil_append, List.drop]
        refine xS.s1 rfl rfl ?_
        try dsimp only [Nat.reduceAdd]
        refine xS.s1 rfl rfl ?_
        try dsimp only [Nat.reduceAdd]
        refine xS.gR rfl rfl rfl ⟨by decide, rfl⟩ rfl ?_
        try dsimp only [Nat.reduceAdd]
        -- 30 yX2_size
        refine xS.cv rfl rfl rfl (xde_deeds.1 _) rfl rfl ⟨by decide, rfl, rfl⟩ (c_X2_size xde_deeds) (fun v M1 hv => ?_)
        rw [hv.1, hv.2, hs]
        clear hv M1 v
        try dsimp only [Nat.reduceAdd, Option.toList, List.cons_append, List.nil_append, List.drop]
        refine xS.s1 rfl rfl ?_
        try dsimp only [Nat.reduceAdd]
        refine xS.s1 rfl rfl ?_
        try dsimp only [Nat.reduceAdd]
        refine xS.s1 rfl rfl ?_
        try dsimp only [Nat.reduceAdd]
        refine xS.cIso rfl rfl hp (hR.2.2.1 s hk).2 rfl ?_
        try dsimp only [Nat.reduceAdd]
        refine xS.br0 (c := .ne) (off := 9) (l := 3) rfl rfl (fun h40 => ?_) (fun h40 => ?_)
        · have g40 := xt_ne h40
          refine xS.s1 rfl rfl ?_
          try dsimp only [Nat.reduceAdd]
          refine xS.s1 rfl rfl ?_
          try dsimp only [Nat.reduceAdd]
          refine xS.s1 rfl rfl ?_
          try dsimp only [Nat.reduceAdd]
          refine xS.s1 rfl rfl ?_
          try dsimp only [Nat.reduceAdd]
          -- 109 yX11_noughtsAtDeeds
          refine xS.cv rfl rfl rfl rfl rfl rfl ⟨by decide, rfl, rfl⟩ (c_X11_noughtsAtDeeds hb hR hp hs hm hx (hR.2.2.1 s hk).2) (fun v M1 hv => ?_)
          rw [hv.1, hv.2]
          clear hv M1 v
          try dsimp only [Nat.reduceAdd, Option.toList, List.cons_append, List.nil_append, List.drop]
          refine xS.ret rfl rfl rfl (fun _ _ => rfl) ?_
          exact ⟨rfl, rfl⟩
        · have g40 := xf_ne h40
          exact absurd hi (xif0 g40)
      · have g15 := xf_le h15
        exfalso; first | exact absurd g15 (by decide) | (simp (disch := omega) only [Int32.lt_iff_toInt_lt, Int32.le_iff_toInt_le, nI_toInt, Int32.reduceToInt] at g15 <;> omega)

set_option maxRecDepth 10000 in
theorem c_X11_mark_3 (hb : xro b.1) (hR : xRm g b.1 G T Lw) (hp : xpn g) (hs : g 4 1 = nI m) (hm : m ≤ 40) (hx : ∀ i, i < m → xstp (g 5 (4 * i))) (hk : s < G) (hi : xiso (Lw s / 4) (nI 3) = true) : xT (k + 6) 89 [.ref 0, .int (nI s), .int (nI 3)] (xH b g l) (fun r M' => M' = xH b g l ∧ r = some (.int (xbc (xbits (fun q => decide (xseen (g (b.1 + 1)) (Lw s / 4) m q = 0)) 6)))) := by
  refine xT.of rfl (Nat.le_of_ble_eq_true rfl) ?_
  change xS _ _ 0 [(0, .ref 0), (1, .int (nI s)), (2, .int (nI 3))] [] _ _
  refine xS.s1 rfl rfl ?_
  try dsimp only [Nat.reduceAdd]
  refine xS.s1 rfl rfl ?_
  try dsimp only [Nat.reduceAdd]
  -- 2 yX11_isGlass
  refine xS.cv rfl rfl rfl rfl rfl rfl ⟨by decide, rfl, rfl⟩ (c_X11_isGlass_in hb hR hk) (fun v M1 hv => ?_)
  rw [hv.1, hv.2]
  clear hv M1 v
  try dsimp only [Nat.reduceAdd, Option.toList, List.cons_append, List.nil_append, List.drop]
  refine xS.br0 (c := .eq) (off := 13) (l := 3) rfl rfl (fun h5 => ?_) (fun h5 => ?_)
  · have g5 := xt_eq h5
    exfalso; first | exact absurd g5 (by decide) | (simp (disch := omega) only [Int32.lt_iff_toInt_lt, Int32.le_iff_toInt_le, nI_toInt, Int32.reduceToInt] at g5 <;> omega)
  · have g5 := xf_eq h5
    refine xS.s1 rfl rfl ?_
    try dsimp only [Nat.reduceAdd]
    refine xS.s1 rfl rfl ?_
    try dsimp only [Nat.reduceAdd, xi_1]
    refine xS.br (c := .lt) (off := 8) (l := 3) rfl rfl (fun h10 => ?_) (fun h10 => ?_)
    · have g10 := xt_lt h10
      exfalso; first | exact absurd g10 (by decide) | (simp (disch := omega) only [Int32.lt_iff_toInt_lt, Int32.le_iff_toInt_le, nI_toInt, Int32.reduceToInt] at g10 <;> omega)
    · have g10 := xf_lt h10
      refine xS.s1 rfl rfl ?_
      try dsimp only [Nat.reduceAdd]
      refine xS.s1 rfl rfl ?_
      try dsimp only [Nat.reduceAdd, xi_5]
      refine xS.br (c := .le) (off := 5) (l := 3) rfl rfl (fun h15 => ?_) (fun h15 => ?_)
      · have g15 := xt_le h15
        refine xS.s1 rfl rfl ?_
        try dsimp only [Nat.reduceAdd]
        refine xS.s1 rfl rfl ?_
        try dsimp only [Nat.reduceAdd]
        -- 22 yX11_paneOf
        refine xS.cv rfl rfl rfl rfl rfl rfl ⟨by decide, rfl, rfl⟩ (c_X11_paneOf hb hR hk) (fun v M1 hv => ?_)
        rw [hv.1, hv.2]
        clear hv M1 v
        try dsimp only [Nat.reduceAdd, Option.toList, List.cons_append, List.nil_append, List.drop]
        refine xS.s1 rfl rfl ?_
        try dsimp only [Nat.reduceAdd]
        refine xS.s1 rfl rfl ?_
        try dsimp only [Nat.reduceAdd]
        refine xS.gR rfl rfl rfl ⟨by decide, rfl⟩ rfl ?_
        try dsimp only [Nat.reduceAdd]
        -- 30 yX2_size
        refine xS.cv rfl rfl rfl (xde_deeds.1 _) rfl rfl ⟨by decide, rfl, rfl⟩ (c_X2_size xde_deeds) (fun v M1 hv => ?_)
        rw [hv.1, hv.2, hs]
        clear hv M1 v
        try dsimp only [Nat.reduceAdd, Option.toList, List.cons_append, List.nil_append, List.drop]
        refine xS.s1 rfl rfl ?_
        try dsimp only [Nat.reduceAdd]
        refine xS.s1 rfl rfl ?_
        try dsimp only [Nat.reduceAdd]
        refine xS.s1 rfl rfl ?_
        try dsimp only [Nat.reduceAdd]
        refine xS.cIso rfl rfl hp (hR.2.2.1 s hk).2 rfl ?_
        try dsimp only [Nat.reduceAdd]
        refine xS.br0 (c := .ne) (off := 9) (l := 3) rfl rfl (fun h40 => ?_) (fun h40 => ?_)
        · have g40 := xt_ne h40
          refine xS.s1 rfl rfl ?_
          try dsimp only [Nat.reduceAdd]
          refine xS.s1 rfl rfl ?_
          try dsimp only [Nat.reduceAdd]
          refine xS.s1 rfl rfl ?_
          try dsimp only [Nat.reduceAdd]
          refine xS.gR rfl rfl rfl ⟨by decide, rfl⟩ rfl ?_
          try dsimp only [Nat.reduceAdd]
          refine xS.s1 rfl rfl ?_
          try dsimp only [Nat.reduceAdd]
          refine xS.s1 rfl rfl ?_
          try dsimp only [Nat.reduceAdd]
          refine xS.s1 rfl rfl ?_
          try dsimp only [Nat.reduceAdd, xi_0]
          -- 121 yX8_stepsSeenAs
          refine xS.cv rfl rfl rfl (hb.1 _) rfl rfl ⟨by decide, rfl, rfl⟩ (c_X8_stepsSeenAs hb (hR.2.2.1 s hk).2 (by omega)) (fun v M1 hv => ?_)
          rw [hv.1, hv.2]
          clear hv M1 v
          try dsimp only [Nat.reduceAdd, Option.toList, List.cons_append, List.nil_append, List.drop]
          -- 124 yJ6_bitCount_0f7a4
          refine xS.callS rfl rfl rfl ⟨Nat.le_of_ble_eq_true rfl, rfl⟩ c_J6_bitCount (fun v M1 hv => ?_)
          rw [hv.1, hv.2]
          clear hv M1 v
          try dsimp only [Nat.reduceAdd, Option.toList, List.cons_append, List.nil_append, List.drop]
          refine xS.ret rfl rfl rfl (fun _ _ => rfl) ?_
          exact ⟨rfl, rfl⟩
        · have g40 := xf_ne h40
          exact absurd hi (xif0 g40)
      · have g15 := xf_le h15
        exfalso; first | exact absurd g15 (by decide) | (simp (disch := omega) only [Int32.lt_iff_toInt_lt, Int32.le_iff_toInt_le, nI_toInt, Int32.reduceToInt] at g15 <;> omega)

set_option maxRecDepth 10000 in
theorem c_X11_mark_4 (hb : xro b.1) (hR : xRm g b.1 G T Lw) (hp : xpn g) (hs : g 4 1 = nI m) (hm : m ≤ 40) (hx : ∀ i, i < m → xstp (g 5 (4 * i))) (hk : s < G) (hi : xiso (Lw s / 4) (nI 4) = true) : xT (k + 6) 89 [.ref 0, .int (nI s), .int (nI 4)] (xH b g l) (fun r M' => M' = xH b g l ∧ r = some (.int (2 - nI (m % 3)))) := by
  refine xT.of rfl (Nat.le_of_ble_eq_true rfl) ?_
  change xS _ _ 0 [(0, .ref 0), (1, .int (nI s)), (2, .int (nI 4))] [] _ _
  refine xS.s1 rfl rfl ?_
  try dsimp only [Nat.reduceAdd]
  refine xS.s1 rfl rfl ?_
  try dsimp only [Nat.reduceAdd]
  -- 2 yX11_isGlass
  refine xS.cv rfl rfl rfl rfl rfl rfl ⟨by decide, rfl, rfl⟩ (c_X11_isGlass_in hb hR hk) (fun v M1 hv => ?_)
  rw [hv.1, hv.2]
  clear hv M1 v
  try dsimp only [Nat.reduceAdd, Option.toList, List.cons_append, List.nil_append, List.drop]
  refine xS.br0 (c := .eq) (off := 13) (l := 3) rfl rfl (fun h5 => ?_) (fun h5 => ?_)
  · have g5 := xt_eq h5
    exfalso; first | exact absurd g5 (by decide) | (simp (disch := omega) only [Int32.lt_iff_toInt_lt, Int32.le_iff_toInt_le, nI_toInt, Int32.reduceToInt] at g5 <;> omega)
  · have g5 := xf_eq h5
    refine xS.s1 rfl rfl ?_
    try dsimp only [Nat.reduceAdd]
    refine xS.s1 rfl rfl ?_
    try dsimp only [Nat.reduceAdd, xi_1]
    refine xS.br (c := .lt) (off := 8) (l := 3) rfl rfl (fun h10 => ?_) (fun h10 => ?_)
    · have g10 := xt_lt h10
      exfalso; first | exact absurd g10 (by decide) | (simp (disch := omega) only [Int32.lt_iff_toInt_lt, Int32.le_iff_toInt_le, nI_toInt, Int32.reduceToInt] at g10 <;> omega)
    · have g10 := xf_lt h10
      refine xS.s1 rfl rfl ?_
      try dsimp only [Nat.reduceAdd]
      refine xS.s1 rfl rfl ?_
      try dsimp only [Nat.reduceAdd, xi_5]
      refine xS.br (c := .le) (off := 5) (l := 3) rfl rfl (fun h15 => ?_) (fun h15 => ?_)
      · have g15 := xt_le h15
        refine xS.s1 rfl rfl ?_
        try dsimp only [Nat.reduceAdd]
        refine xS.s1 rfl rfl ?_
        try dsimp only [Nat.reduceAdd]
        -- 22 yX11_paneOf
        refine xS.cv rfl rfl rfl rfl rfl rfl ⟨by decide, rfl, rfl⟩ (c_X11_paneOf hb hR hk) (fun v M1 hv => ?_)
        rw [hv.1, hv.2]
        clear hv M1 v
        try dsimp only [Nat.reduceAdd, Option.toList, List.cons_append, List.nil_append, List.drop]
        refine xS.s1 rfl rfl ?_
        try dsimp only [Nat.reduceAdd]
        refine xS.s1 rfl rfl ?_
        try dsimp only [Nat.reduceAdd]
        refine xS.gR rfl rfl rfl ⟨by decide, rfl⟩ rfl ?_
        try dsimp only [Nat.reduceAdd]
        -- 30 yX2_size
        refine xS.cv rfl rfl rfl (xde_deeds.1 _) rfl rfl ⟨by decide, rfl, rfl⟩ (c_X2_size xde_deeds) (fun v M1 hv => ?_)
        rw [hv.1, hv.2, hs]
        clear hv M1 v
        try dsimp only [Nat.reduceAdd, Option.toList, List.cons_append, List.nil_append, List.drop]
        refine xS.s1 rfl rfl ?_
        try dsimp only [Nat.reduceAdd]
        refine xS.s1 rfl rfl ?_
        try dsimp only [Nat.reduceAdd]
        refine xS.s1 rfl rfl ?_
        try dsimp only [Nat.reduceAdd]
        refine xS.cIso rfl rfl hp (hR.2.2.1 s hk).2 rfl ?_
        try dsimp only [Nat.reduceAdd]
        refine xS.br0 (c := .ne) (off := 9) (l := 3) rfl rfl (fun h40 => ?_) (fun h40 => ?_)
        · have g40 := xt_ne h40
          refine xS.s1 rfl rfl ?_
          try dsimp only [Nat.reduceAdd]
          refine xS.s1 rfl rfl ?_
          try dsimp only [Nat.reduceAdd]
          refine xS.s1 rfl rfl ?_
          try dsimp only [Nat.reduceAdd]
          -- 130 yX6_placesToLimp
          refine xS.callS rfl rfl rfl ⟨Nat.le_of_ble_eq_true rfl, rfl⟩ (c_X6_placesToLimp (by omega)) (fun v M1 hv => ?_)
          rw [hv.1, hv.2]
          clear hv M1 v
          try dsimp only [Nat.reduceAdd, Option.toList, List.cons_append, List.nil_append, List.drop]
          refine xS.ret rfl rfl rfl (fun _ _ => rfl) ?_
          exact ⟨rfl, rfl⟩
        · have g40 := xf_ne h40
          exact absurd hi (xif0 g40)
      · have g15 := xf_le h15
        exfalso; first | exact absurd g15 (by decide) | (simp (disch := omega) only [Int32.lt_iff_toInt_lt, Int32.le_iff_toInt_le, nI_toInt, Int32.reduceToInt] at g15 <;> omega)

set_option maxRecDepth 10000 in
theorem c_X11_mark_5 (hb : xro b.1) (hR : xRm g b.1 G T Lw) (hp : xpn g) (hs : g 4 1 = nI m) (hm : m ≤ 40) (hx : ∀ i, i < m → xstp (g 5 (4 * i))) (hk : s < G) (hi : xiso (Lw s / 4) (nI 5) = true) : xT (k + 6) 89 [.ref 0, .int (nI s), .int (nI 5)] (xH b g l) (fun r M' => M' = xH b g l ∧ r = some (.int (xseen (g (b.1 + 1)) (Lw s / 4) m 0))) := by
  refine xT.of rfl (Nat.le_of_ble_eq_true rfl) ?_
  change xS _ _ 0 [(0, .ref 0), (1, .int (nI s)), (2, .int (nI 5))] [] _ _
  refine xS.s1 rfl rfl ?_
  try dsimp only [Nat.reduceAdd]
  refine xS.s1 rfl rfl ?_
  try dsimp only [Nat.reduceAdd]
  -- 2 yX11_isGlass
  refine xS.cv rfl rfl rfl rfl rfl rfl ⟨by decide, rfl, rfl⟩ (c_X11_isGlass_in hb hR hk) (fun v M1 hv => ?_)
  rw [hv.1, hv.2]
  clear hv M1 v
  try dsimp only [Nat.reduceAdd, Option.toList, List.cons_append, List.nil_append, List.drop]
  refine xS.br0 (c := .eq) (off := 13) (l := 3) rfl rfl (fun h5 => ?_) (fun h5 => ?_)
  · have g5 := xt_eq h5
    exfalso; first | exact absurd g5 (by decide) | (simp (disch := omega) only [Int32.lt_iff_toInt_lt, Int32.le_iff_toInt_le, nI_toInt, Int32.reduceToInt] at g5 <;> omega)
  · have g5 := xf_eq h5
    refine xS.s1 rfl rfl ?_
    try dsimp only [Nat.reduceAdd]
    refine xS.s1 rfl rfl ?_
    try dsimp only [Nat.reduceAdd, xi_1]
    refine xS.br (c := .lt) (off := 8) (l := 3) rfl rfl (fun h10 => ?_) (fun h10 => ?_)
    · have g10 := xt_lt h10
      exfalso; first | exact absurd g10 (by decide) | (simp (disch := omega) only [Int32.lt_iff_toInt_lt, Int32.le_iff_toInt_le, nI_toInt, Int32.reduceToInt] at g10 <;> omega)
    · have g10 := xf_lt h10
      refine xS.s1 rfl rfl ?_
      try dsimp only [Nat.reduceAdd]
      refine xS.s1 rfl rfl ?_
      try dsimp only [Nat.reduceAdd, xi_5]
      refine xS.br (c := .le) (off := 5) (l := 3) rfl rfl (fun h15 => ?_) (fun h15 => ?_)
      · have g15 := xt_le h15
        refine xS.s1 rfl rfl ?_
        try dsimp only [Nat.reduceAdd]
        refine xS.s1 rfl rfl ?_
        try dsimp only [Nat.reduceAdd]
        -- 22 yX11_paneOf
        refine xS.cv rfl rfl rfl rfl rfl rfl ⟨by decide, rfl, rfl⟩ (c_X11_paneOf hb hR hk) (fun v M1 hv => ?_)
        rw [hv.1, hv.2]
        clear hv M1 v
        try dsimp only [Nat.reduceAdd, Option.toList, List.cons_append, List.nil_append, List.drop]
        refine xS.s1 rfl rfl ?_
        try dsimp only [Nat.reduceAdd]
        refine xS.s1 rfl rfl ?_
        try dsimp only [Nat.reduceAdd]
        refine xS.gR rfl rfl rfl ⟨by decide, rfl⟩ rfl ?_
        try dsimp only [Nat.reduceAdd]
        -- 30 yX2_size
        refine xS.cv rfl rfl rfl (xde_deeds.1 _) rfl rfl ⟨by decide, rfl, rfl⟩ (c_X2_size xde_deeds) (fun v M1 hv => ?_)
        rw [hv.1, hv.2, hs]
        clear hv M1 v
        try dsimp only [Nat.reduceAdd, Option.toList, List.cons_append, List.nil_append, List.drop]
        refine xS.s1 rfl rfl ?_
        try dsimp only [Nat.reduceAdd]
        refine xS.s1 rfl rfl ?_
        try dsimp only [Nat.reduceAdd]
        refine xS.s1 rfl rfl ?_
        try dsimp only [Nat.reduceAdd]
        refine xS.cIso rfl rfl hp (hR.2.2.1 s hk).2 rfl ?_
        try dsimp only [Nat.reduceAdd]
        refine xS.br0 (c := .ne) (off := 9) (l := 3) rfl rfl (fun h40 => ?_) (fun h40 => ?_)
        · have g40 := xt_ne h40
          refine xS.s1 rfl rfl ?_
          try dsimp only [Nat.reduceAdd]
          refine xS.s1 rfl rfl ?_
          try dsimp only [Nat.reduceAdd]
          refine xS.s1 rfl rfl ?_
          try dsimp only [Nat.reduceAdd]
          refine xS.gR rfl rfl rfl ⟨by decide, rfl⟩ rfl ?_
          try dsimp only [Nat.reduceAdd]
          refine xS.s1 rfl rfl ?_
          try dsimp only [Nat.reduceAdd]
          refine xS.s1 rfl rfl ?_
          try dsimp only [Nat.reduceAdd]
          refine xS.s1 rfl rfl ?_
          try dsimp only [Nat.reduceAdd, xi_0]
          -- 142 yX8_seen
          refine xS.cv rfl rfl rfl (hb.1 _) rfl rfl ⟨by decide, rfl, rfl⟩ (c_X8_seen (s := 0) hb (hR.2.2.1 s hk).2 (by omega) (by omega)) (fun v M1 hv => ?_)
          rw [hv.1, hv.2]
          clear hv M1 v
          try dsimp only [Nat.reduceAdd, Option.toList, List.cons_append, List.nil_append, List.drop]
          refine xS.ret rfl rfl rfl (fun _ _ => rfl) ?_
          exact ⟨rfl, rfl⟩
        · have g40 := xf_ne h40
          exact absurd hi (xif0 g40)
      · have g15 := xf_le h15
        exfalso; first | exact absurd g15 (by decide) | (simp (disch := omega) only [Int32.lt_iff_toInt_lt, Int32.le_iff_toInt_le, nI_toInt, Int32.reduceToInt] at g15 <;> omega)

end
