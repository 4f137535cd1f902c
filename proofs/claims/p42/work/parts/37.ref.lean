/-! LimpMirrorModel: turns, chances, lots, what is told -/
theorem xbt_12 {A B : Prop} {dA : Decidable A} {dB : Decidable B} {e : Nat} (he : e ≤ 12) : (@ite _ B dB (12 - nI e) 0) + (@ite _ A dA (nI e) 0) = nI (12 - xbt A B e) := by
  unfold xbt
  rw [show (12 : Int32) - nI e = nI (12 - e) from pk_sub (a := 12) he]
  by_cases h1 : A <;> by_cases h2 : B
  · rw [if_pos h1, if_pos h2, if_pos h1, if_pos h2, nI_add]; try (congr 1; try omega)
  · rw [if_pos h1, if_neg h2, if_pos h1, if_neg h2, show (0 : Int32) = nI 0 from rfl, nI_add]; try (congr 1; try omega)
  · rw [if_neg h1, if_pos h2, if_neg h1, if_pos h2, show (0 : Int32) = nI 0 from rfl, nI_add]; try (congr 1; try omega)
  · rw [if_neg h1, if_neg h2, if_neg h1, if_neg h2, show (0 : Int32) = nI 0 from rfl, nI_add]; try (congr 1; try omega)
def xFv (h tx : Nat → Int32) (T G : Nat) (Lw : Nat → Nat) (F4 : Nat → Int32) (m : Nat) : Prop := ∀ d, d < m → ∃ s k, s < 6 ∧ k < G ∧ F4 (4 * d) = nI s ∧ F4 (4 * d + 1) = nI k ∧ F4 (4 * d + 2) = xshw h (Lw k / 4) (Lw k % 4) (fun i => xN (F4 (4 * i))) d ∧ F4 (4 * d + 3) = xfI (xfb tx T (nI s) (xshw h (Lw k / 4) (Lw k % 4) (fun i => xN (F4 (4 * i))) d))
theorem nI_inj {a b : Nat} (ha : a < 2 ^ 31) (hb : b < 2 ^ 31) (h : nI a = nI b) : a = b := (nI_eq ha hb).mp h
theorem xDr_nx {g : Nat → Nat → Int32} {h tx F4 : Nat → Int32} {T G m s t : Nat} {Lw : Nat → Nat} (hV : xFv h tx T G Lw F4 (m + 1)) (hD : xDr g h tx T G Lw F4 m) (h0 : F4 (4 * m) = nI s) (h1 : F4 (4 * m + 1) = nI t) (hs : s < 6) (ht : t < 2 ^ 31) (hG : G ≤ 6) : xDr (up (up (up g 84 m (nI s)) 85 m (nI t)) 73 14 (nI (m + 1))) h tx T G Lw F4 (m + 1) := by
  intro d hd
  obtain ⟨s', k', q1, q2, q3, q4, q5, q6⟩ := hV d hd
  refine ⟨s', k', q1, q2, q3, q4, q5, q6, ?_, ?_⟩
  · rw [up_na (by decide), up_na (by decide)]
    by_cases e : d = m
    · subst e
      rw [up_same, ← h0, q3]
    · rw [up_ne (Or.inr e)]
      obtain ⟨s2, k2, r1, r2, r3, r4, r5, r6, r7, r8⟩ := hD d (by omega)
      rw [r7, ← r3, q3]
  · rw [up_na (by decide)]
    by_cases e : d = m
    · subst e
      rw [up_same, ← h1, q4]
    · rw [up_ne (Or.inr e), up_na (by decide)]
      obtain ⟨s2, k2, r1, r2, r3, r4, r5, r6, r7, r8⟩ := hD d (by omega)
      rw [r8, ← r4, q4]

section
variable {k a c n n2 m t p s d i1 j1 : Nat} {b : Nat × Nat} {g : Nat → Nat → Int32} {l : Nat → Nat → Int64} {i j x y z v w : Int32} {u w1 w2 : Int64}
variable {L G T e1 q1 κ δ : Nat} {Lw f f2 : Nat → Nat} {h tx F4 Rw Rw2 O : Nat → Int32}
set_option maxRecDepth 10000 in
theorem c_X12_isSafe (hR : xRr g h tx G T Lw) (hd : d < 13) (hf : ∀ u, u ≤ d → g 90 u = nI (f u) ∧ f u < 6) : xT (k + 5) 221 [.ref 73, .int (nI d)] (xH b g l) (fun r M' => M' = xH b g l ∧ r = some (.int (if xsafe h tx T G Lw f d = true then 1 else 0))) := by
  refine xT.of rfl (Nat.le_of_ble_eq_true rfl) ?_
  change xS _ _ 0 [(0, .ref 73), (1, .int (nI d))] [] _ _
  refine xS.s1 rfl rfl ?_
  try dsimp only [Nat.reduceAdd, xi_1]
  refine xS.s1 rfl rfl ?_
  try dsimp only [Nat.reduceAdd]
  refine xS.s1 rfl rfl ?_
  try dsimp only [Nat.reduceAdd, xi_0]
  refine xS.s1 rfl rfl ?_
  try dsimp only [Nat.reduceAdd]
  refine xS.pick [0, 1, 2, 3] rfl ?_
  refine xS.loop (σ := Unit) (G) (fun j S => [(3, .int (nI j)), (2, .int (if xfst (fun q => !decide (xfb tx T (nI (f d)) (xshw h (Lw q / 4) (Lw q % 4) f d) = none)) j = none then 1 else 0)), (0, .ref 73), (1, .int (nI d))]) (fun _ _ => xH b g l) (fun _ _ => True) (()) (rfl) (rfl) (trivial) ?_
  intro j S hj hI ih
  try dsimp only
  have h6 := hR.1.2
  refine xS.s1 rfl rfl ?_
  try dsimp only [Nat.reduceAdd]
  refine xS.s1 rfl rfl ?_
  try dsimp only [Nat.reduceAdd]
  refine xS.gI rfl rfl rfl ⟨by decide, rfl⟩ rfl ?_
  try dsimp only [Nat.reduceAdd]
  refine xS.br (c := .ge) (off := 28) (l := 3) rfl rfl (fun h9 => ?_) (fun h9 => ?_)
  · have g9 := xt_ge h9
    rw [hR.1.1] at g9
    have e := xnle g9 (by omega) (by omega)
    have e2 : G = j := by omega
    rw [← e2]
    refine xS.s1 rfl rfl ?_
    try dsimp only [Nat.reduceAdd]
    refine xS.retB rfl rfl ?_
    exact ⟨rfl, by simp only [xsafe, decide_eq_true_eq]⟩
  · have g9 := xf_ge h9
    rw [hR.1.1] at g9
    have hlt := xnlt g9 (by omega) (by omega)
    refine xS.s1 rfl rfl ?_
    try dsimp only [Nat.reduceAdd]
    refine xS.br0 (c := .eq) (off := 16) (l := 3) rfl rfl (fun h13 => ?_) (fun h13 => ?_)
    · have g13 := xt_eq h13
      refine xS.s1 rfl rfl ?_
      try dsimp only [Nat.reduceAdd, xi_0]
      refine xS.s1 rfl rfl ?_
      try dsimp only [Nat.reduceAdd]
      refine xS.s1 rfl rfl ?_
      try dsimp only [Nat.reduceAdd, xi_1]
      rw [nI_1]
      refine xS.s1 rfl rfl ?_
      try dsimp only [Nat.reduceAdd]
      refine xS.pick [0, 1, 2, 3] rfl ?_
      have ih2 := ih () (by omega) trivial
      have e13 := xif0 g13
      rw [if_neg (by rw [xfst_k e13]; exact e13)] at ih2
      exact ih2
    · have g13 := xf_eq h13
      refine xS.s1 rfl rfl ?_
      try dsimp only [Nat.reduceAdd]
      refine xS.s1 rfl rfl ?_
      try dsimp only [Nat.reduceAdd]
      refine xS.s1 rfl rfl ?_
      try dsimp only [Nat.reduceAdd]
      -- 19 yX12_breaksAt
      refine xS.cv rfl rfl rfl rfl rfl rfl ⟨by decide, rfl, rfl⟩ (c_X12_breaksAt hR hlt hd hf) (fun v M1 hv => ?_)
      rw [hv.1, hv.2]
      clear hv M1 v
      try dsimp only [Nat.reduceAdd, Option.toList, List.cons_append, List.nil_append, List.drop]
      refine xS.br0 (c := .ne) (off := 7) (l := 3) rfl rfl (fun h22 => ?_) (fun h22 => ?_)
      · have g22 := xt_ne h22
        refine xS.s1 rfl rfl ?_
        try dsimp only [Nat.reduceAdd, xi_0]
        refine xS.s1 rfl rfl ?_
        try dsimp only [Nat.reduceAdd]
        refine xS.s1 rfl rfl ?_
        try dsimp only [Nat.reduceAdd, xi_1]
        rw [nI_1]
        refine xS.s1 rfl rfl ?_
        try dsimp only [Nat.reduceAdd]
        refine xS.pick [0, 1, 2, 3] rfl ?_
        have ih2 := ih () (by omega) trivial
        have e13 := xif1 g13
        rw [if_neg (by rw [xfst_c e13 (by simp [xif1n g22])]; exact fun z => by cases z)] at ih2
        exact ih2
      · have g22 := xf_ne h22
        refine xS.s1 rfl rfl ?_
        try dsimp only [Nat.reduceAdd, xi_1]
        refine xS.s1 rfl rfl ?_
        try dsimp only [Nat.reduceAdd]
        refine xS.s1 rfl rfl ?_
        try dsimp only [Nat.reduceAdd]
        refine xS.s1 rfl rfl ?_
        try dsimp only [Nat.reduceAdd, xi_1]
        rw [nI_1]
        refine xS.s1 rfl rfl ?_
        try dsimp only [Nat.reduceAdd]
        refine xS.pick [0, 1, 2, 3] rfl ?_
        have ih2 := ih () (by omega) trivial
        have e13 := xif1 g13
        rw [if_pos (xfst_n e13 (by simp [xif0n g22]))] at ih2
        exact ih2

set_option maxRecDepth 10000 in
theorem c_X12_gameBy (hR : xRr g h tx G T Lw) (hn : n ≤ 3) : xT (k + 6) 222 [.ref 73, .int (nI n)] (xH b g l) (fun r M' => ∃ g0, xFr g g0 ∧ (∀ c, xfst (fun c => decide (xfst (fun i => !xsafe h tx T G Lw (xd6 n c) i) n = none)) (6 ^ n) = some c → ∀ u, u < n → g0 90 u = nI (xd6 n c u)) ∧ M' = xH b g0 l ∧ r = some (.int (xoI (xfst (fun c => decide (xfst (fun i => !xsafe h tx T G Lw (xd6 n c) i) n = none)) (6 ^ n))))) := by
  refine xT.of rfl (Nat.le_of_ble_eq_true rfl) ?_
  change xS _ _ 0 [(0, .ref 73), (1, .int (nI n))] [] _ _
  refine xS.s1 rfl rfl ?_
  try dsimp only [Nat.reduceAdd, xi_0]
  refine xS.s1 rfl rfl ?_
  try dsimp only [Nat.reduceAdd]
  refine xS.pick [0, 1, 2] rfl ?_
  refine xS.loop (σ := Nat → Nat → Int32) (6 ^ n) (fun j S => [(2, .int (nI j)), (0, .ref 73), (1, .int (nI n))]) (fun _ S => xH b S l) (fun j S => (∀ a, a ≠ 90 → S a = g a) ∧ xfst (fun c => decide (xfst (fun i => !xsafe h tx T G Lw (xd6 n c) i) n = none)) j = none) (g) (rfl) (rfl) (⟨fun _ _ => rfl, rfl⟩) ?_
  intro j S hj hI0 ih
  obtain ⟨hI, hI2⟩ := hI0
  try dsimp only
  have hp6 := pow6 (n := n) (by omega)
  refine xS.s1 rfl rfl ?_
  try dsimp only [Nat.reduceAdd]
  refine xS.s1 rfl rfl ?_
  try dsimp only [Nat.reduceAdd]
  -- 4 yX12_rowsOf
  refine xS.callS rfl rfl rfl ⟨Nat.le_of_ble_eq_true rfl, rfl⟩ (c_X12_rowsOf (by omega)) (fun v M1 hv => ?_)
  rw [hv.1, hv.2]
  clear hv M1 v
  try dsimp only [Nat.reduceAdd, Option.toList, List.cons_append, List.nil_append, List.drop]
  refine xS.br (c := .ge) (off := 57) (l := 3) rfl rfl (fun h7 => ?_) (fun h7 => ?_)
  · have g7 := xt_ge h7
    have e := xnle (b := 6 ^ n) g7 (by omega) (by omega)
    have e2 : 6 ^ n = j := by omega
    refine xS.s1 rfl rfl ?_
    try dsimp only [Nat.reduceAdd, xi_m1]
    refine xS.ret rfl rfl rfl (fun _ _ => rfl) ?_
    refine ⟨S, ⟨fun a h1 h2 => by rw [hI a (by omega)], fun i _ => by rw [hI 73 (by decide)]⟩, fun c hc2 => ?_, rfl, ?_⟩
    · rw [e2, hI2] at hc2
      cases hc2
    · rw [e2, hI2]
      rfl
  · have g7 := xf_ge h7
    have hlt := xnlt (b := 6 ^ n) g7 (by omega) (by omega)
    refine xS.s1 rfl rfl ?_
    try dsimp only [Nat.reduceAdd]
    refine xS.s1 rfl rfl ?_
    try dsimp only [Nat.reduceAdd]
    refine xS.s1 rfl rfl ?_
    try dsimp only [Nat.reduceAdd]
    -- 13 yX12_layDoings
    refine xS.cv rfl rfl rfl rfl rfl rfl ⟨by decide, rfl, rfl⟩ (c_X12_layDoings (by omega) (by omega)) (fun v M1 hv => ?_)
    rw [hv.1, hv.2]
    clear hv M1 v
    have hRg : xRr (glay S n j n) h tx G T Lw := xRr_fr (by rw [glay_na (by decide), hI 73 (by decide)]) (by rw [glay_na (by decide), hI 73 (by decide)]) (by rw [glay_na (by decide), hI 81 (by decide)]) (by rw [glay_na (by decide), hI 82 (by decide)]) (by rw [glay_na (by decide), hI 83 (by decide)]) hR
    try dsimp only [Nat.reduceAdd, Option.toList, List.cons_append, List.nil_append, List.drop]
    refine xS.s1 rfl rfl ?_
    try dsimp only [Nat.reduceAdd, xi_1]
    refine xS.s1 rfl rfl ?_
    try dsimp only [Nat.reduceAdd]
    refine xS.s1 rfl rfl ?_
    try dsimp only [Nat.reduceAdd, xi_0]
    refine xS.s1 rfl rfl ?_
    try dsimp only [Nat.reduceAdd]
    refine xS.pick [0, 1, 3, 4, 2] rfl ?_
    refine xS.loop (σ := Unit) (n) (fun i S => [(4, .int (nI i)), (3, .int (if xfst (fun i => !xsafe h tx T G Lw (xd6 n j) i) i = none then 1 else 0)), (0, .ref 73), (1, .int (nI n)), (2, .int (nI j))]) (fun _ _ => xH b (glay S n j n) l) (fun _ _ => True) (()) (rfl) (rfl) (trivial) ?_
    intro i S2 hi hI9 ih2
    try dsimp only
    refine xS.s1 rfl rfl ?_
    try dsimp only [Nat.reduceAdd]
    refine xS.s1 rfl rfl ?_
    try dsimp only [Nat.reduceAdd]
    refine xS.br (c := .ge) (off := 28) (l := 3) rfl rfl (fun h24 => ?_) (fun h24 => ?_)
    · have g24 := xt_ge h24
      have e := xnle g24 (by omega) (by omega)
      have e3 : n = i := by omega
      rw [← e3]
      refine xS.s1 rfl rfl ?_
      try dsimp only [Nat.reduceAdd]
      refine xS.br0 (c := .eq) (off := 5) (l := 3) rfl rfl (fun h53 => ?_) (fun h53 => ?_)
      · have g53 := xt_eq h53
        refine xS.s1 rfl rfl ?_
        try dsimp only [Nat.reduceAdd, xi_1]
        rw [nI_1]
        refine xS.s1 rfl rfl ?_
        try dsimp only [Nat.reduceAdd]
        refine xS.pick [0, 3, 4] rfl ?_
        exact ih (glay S n j n) (by omega) ⟨fun a ha => by rw [glay_na ha, hI a ha], xfst_n hI2 (decide_eq_false (xif0 g53))⟩
      · have g53 := xf_eq h53
        refine xS.s1 rfl rfl ?_
        try dsimp only [Nat.reduceAdd]
        refine xS.ret rfl rfl rfl (fun _ _ => rfl) ?_
        have hc := xfst_at hI2 (decide_eq_true (xif1 g53)) hlt
        refine ⟨glay S n j n, ⟨fun a h1 h2 => by rw [glay_na (by omega), hI a (by omega)], fun i _ => by rw [glay_na (by decide), hI 73 (by decide)]⟩, fun c hc2 u hu => ?_, rfl, by rw [hc]; rfl⟩
        rw [hc] at hc2
        have ec : j = c := Option.some.inj hc2
        rw [← ec]
        exact glay_in hu
    · have g24 := xf_ge h24
      have hli := xnlt g24 (by omega) (by omega)
      refine xS.s1 rfl rfl ?_
      try dsimp only [Nat.reduceAdd]
      refine xS.br0 (c := .eq) (off := 16) (l := 3) rfl rfl (fun h28 => ?_) (fun h28 => ?_)
      · have g28 := xt_eq h28
        refine xS.s1 rfl rfl ?_
        try dsimp only [Nat.reduceAdd, xi_0]
        refine xS.s1 rfl rfl ?_
        try dsimp only [Nat.reduceAdd]
        refine xS.s1 rfl rfl ?_
        try dsimp only [Nat.reduceAdd, xi_1]
        rw [nI_1]
        refine xS.s1 rfl rfl ?_
        try dsimp only [Nat.reduceAdd]
        refine xS.pick [0, 1, 2, 3, 4] rfl ?_
        have ih3 := ih2 () (by omega) trivial
        have e28 := xif0 g28
        rw [if_neg (by rw [xfst_k e28]; exact e28)] at ih3
        exact ih3
      · have g28 := xf_eq h28
        refine xS.s1 rfl rfl ?_
        try dsimp only [Nat.reduceAdd]
        refine xS.s1 rfl rfl ?_
        try dsimp only [Nat.reduceAdd]
        -- 34 yX12_isSafe
        refine xS.cv rfl rfl rfl rfl rfl rfl ⟨by decide, rfl, rfl⟩ (c_X12_isSafe (f := xd6 n j) hRg (by omega) (fun u hu => ⟨glay_in (by omega), xd6_lt _ _ _⟩)) (fun v M1 hv => ?_)
        rw [hv.1, hv.2]
        clear hv M1 v
        try dsimp only [Nat.reduceAdd, Option.toList, List.cons_append, List.nil_append, List.drop]
        refine xS.br0 (c := .eq) (off := 7) (l := 3) rfl rfl (fun h37 => ?_) (fun h37 => ?_)
        · have g37 := xt_eq h37
          refine xS.s1 rfl rfl ?_
          try dsimp only [Nat.reduceAdd, xi_0]
          refine xS.s1 rfl rfl ?_
          try dsimp only [Nat.reduceAdd]
          refine xS.s1 rfl rfl ?_
          try dsimp only [Nat.reduceAdd, xi_1]
          rw [nI_1]
          refine xS.s1 rfl rfl ?_
          try dsimp only [Nat.reduceAdd]
          refine xS.pick [0, 1, 2, 3, 4] rfl ?_
          have ih3 := ih2 () (by omega) trivial
          have e28 := xif1 g28
          rw [if_neg (by rw [xfst_c e28 (by simp [xif0 g37])]; exact fun z => by cases z)] at ih3
          exact ih3
        · have g37 := xf_eq h37
          refine xS.s1 rfl rfl ?_
          try dsimp only [Nat.reduceAdd, xi_1]
          refine xS.s1 rfl rfl ?_
          try dsimp only [Nat.reduceAdd]
          refine xS.s1 rfl rfl ?_
          try dsimp only [Nat.reduceAdd]
          refine xS.s1 rfl rfl ?_
          try dsimp only [Nat.reduceAdd, xi_1]
          rw [nI_1]
          refine xS.s1 rfl rfl ?_
          try dsimp only [Nat.reduceAdd]
          refine xS.pick [0, 1, 2, 3, 4] rfl ?_
          have ih3 := ih2 () (by omega) trivial
          have e28 := xif1 g28
          rw [if_pos (xfst_n e28 (by simp [xif1 g37]))] at ih3
          exact ih3

set_option maxRecDepth 10000 in
theorem c_X12_game_bad (hx : ¬ (0 ≤ x ∧ x ≤ 3)) : xT (k + 7) 223 [.ref 73, .int x] (xH b g l) (fun r M' => M' = xH b g l ∧ r = some (.int (-1))) := by
  refine xT.of rfl (Nat.le_of_ble_eq_true rfl) ?_
  change xS _ _ 0 [(0, .ref 73), (1, .int x)] [] _ _
  refine xS.s1 rfl rfl ?_
  try dsimp only [Nat.reduceAdd]
  refine xS.s1 rfl rfl ?_
  try dsimp only [Nat.reduceAdd, xi_0]
  refine xS.s1 rfl rfl ?_
  try dsimp only [Nat.reduceAdd, xi_3]
  -- 3 yX12_in
  refine xS.callS rfl rfl rfl ⟨Nat.le_of_ble_eq_true rfl, rfl⟩ c_in_x (fun v M1 hv => ?_)
  rw [hv.1, hv.2]
  clear hv M1 v
  try dsimp only [Nat.reduceAdd, Option.toList, List.cons_append, List.nil_append, List.drop]
  refine xS.br0 (c := .ne) (off := 5) (l := 3) rfl rfl (fun h6 => ?_) (fun h6 => ?_)
  · have g6 := xt_ne h6
    exact absurd (xif1 g6) hx
  · have g6 := xf_ne h6
    refine xS.s1 rfl rfl ?_
    try dsimp only [Nat.reduceAdd, xi_m1]
    refine xS.ret rfl rfl rfl (fun _ _ => rfl) ?_
    exact ⟨rfl, rfl⟩

set_option maxRecDepth 10000 in
theorem c_X12_game_state (hn : n ≤ 3) (hg : g 73 10 = 0) : xT (k + 7) 223 [.ref 73, .int (nI n)] (xH b g l) (fun r M' => M' = xH b g l ∧ r = some (.int (-4))) := by
  refine xT.of rfl (Nat.le_of_ble_eq_true rfl) ?_
  change xS _ _ 0 [(0, .ref 73), (1, .int (nI n))] [] _ _
  refine xS.s1 rfl rfl ?_
  try dsimp only [Nat.reduceAdd]
  refine xS.s1 rfl rfl ?_
  try dsimp only [Nat.reduceAdd, xi_0]
  refine xS.s1 rfl rfl ?_
  try dsimp only [Nat.reduceAdd, xi_3]
  -- 3 yX12_in
  refine xS.callS rfl rfl rfl ⟨Nat.le_of_ble_eq_true rfl, rfl⟩ (c_in_n1 (s := 0) (m := 3) (by omega) (by omega) (by decide)) (fun v M1 hv => ?_)
  rw [hv.1, hv.2]
  clear hv M1 v
  try dsimp only [Nat.reduceAdd, Option.toList, List.cons_append, List.nil_append, List.drop]
  refine xS.br0 (c := .ne) (off := 5) (l := 3) rfl rfl (fun h6 => ?_) (fun h6 => ?_)
  · have g6 := xt_ne h6
    refine xS.s1 rfl rfl ?_
    try dsimp only [Nat.reduceAdd]
    refine xS.gI rfl rfl rfl ⟨by decide, rfl⟩ rfl ?_
    try dsimp only [Nat.reduceAdd]
    refine xS.br0 (c := .ne) (off := 6) (l := 3) rfl rfl (fun h15 => ?_) (fun h15 => ?_)
    · have g15 := xt_ne h15
      exact absurd hg g15
    · have g15 := xf_ne h15
      refine xS.s1 rfl rfl ?_
      try dsimp only [Nat.reduceAdd, xj_m4]
      refine xS.ret rfl rfl rfl (fun _ _ => rfl) ?_
      exact ⟨rfl, rfl⟩
  · have g6 := xf_ne h6
    exfalso; first | exact absurd g6 (by decide) | (simp (disch := omega) only [Int32.lt_iff_toInt_lt, Int32.le_iff_toInt_le, nI_toInt, Int32.reduceToInt] at g6 <;> omega)

theorem xfst_b6 {p : Nat → Bool} {n : Nat} (hn : n ≤ 6) : ∀ s, xfst p (6 ^ n) = some s → s < 2 ^ 31 := fun s e => by
  have := (xfst_lt e).1
  have := pow6 hn
  omega

set_option maxRecDepth 10000 in
theorem c_X12_game_ok (hR : xRr g h tx G T Lw) (hn : n ≤ 3) (hg : ¬ g 73 10 = 0) : xT (k + 7) 223 [.ref 73, .int (nI n)] (xH b g l) (fun r M' => ∃ g0, xFr g g0 ∧ M' = xH b g0 l ∧ r = some (.int (if xfst (fun c => decide (xfst (fun i => !xsafe h tx T G Lw (xd6 n c) i) n = none)) (6 ^ n) = none then 0 else 1))) := by
  refine xT.of rfl (Nat.le_of_ble_eq_true rfl) ?_
  change xS _ _ 0 [(0, .ref 73), (1, .int (nI n))] [] _ _
  refine xS.s1 rfl rfl ?_
  try dsimp only [Nat.reduceAdd]
  refine xS.s1 rfl rfl ?_
  try dsimp only [Nat.reduceAdd, xi_0]
  refine xS.s1 rfl rfl ?_
  try dsimp only [Nat.reduceAdd, xi_3]
  -- 3 yX12_in
  refine xS.callS rfl rfl rfl ⟨Nat.le_of_ble_eq_true rfl, rfl⟩ (c_in_n1 (s := 0) (m := 3) (by omega) (by omega) (by decide)) (fun v M1 hv => ?_)
  rw [hv.1, hv.2]
  clear hv M1 v
  try dsimp only [Nat.reduceAdd, Option.toList, List.cons_append, List.nil_append, List.drop]
  refine xS.br0 (c := .ne) (off := 5) (l := 3) rfl rfl (fun h6 => ?_) (fun h6 => ?_)
  · have g6 := xt_ne h6
    refine xS.s1 rfl rfl ?_
    try dsimp only [Nat.reduceAdd]
    refine xS.gI rfl rfl rfl ⟨by decide, rfl⟩ rfl ?_
    try dsimp only [Nat.reduceAdd]
    refine xS.br0 (c := .ne) (off := 6) (l := 3) rfl rfl (fun h15 => ?_) (fun h15 => ?_)
    · have g15 := xt_ne h15
      refine xS.s1 rfl rfl ?_
      try dsimp only [Nat.reduceAdd]
      refine xS.s1 rfl rfl ?_
      try dsimp only [Nat.reduceAdd]
      -- 23 yX12_gameBy
      refine xS.cv rfl rfl rfl rfl rfl rfl ⟨by decide, rfl, rfl⟩ (c_X12_gameBy hR hn) (fun v M1 hv => ?_)
      obtain ⟨g2, hF2, hd2, hM2, hv2⟩ := hv
      rw [hM2, hv2]
      clear hM2 hv2 M1 v
      try dsimp only [Nat.reduceAdd, Option.toList, List.cons_append, List.nil_append, List.drop]
      refine xS.br0 (c := .lt) (off := 7) (l := 3) rfl rfl (fun h26 => ?_) (fun h26 => ?_)
      · have g26 := xt_lt h26
        refine xS.s1 rfl rfl ?_
        try dsimp only [Nat.reduceAdd, xi_0]
        refine xS.ret rfl rfl rfl (fun _ _ => rfl) ?_
        have q26 : xfst (fun c => decide (xfst (fun i => !xsafe h tx T G Lw (xd6 n c) i) n = none)) (6 ^ n) = none := (xsrc_pos (xfst_b6 (by omega))).mp g26
        refine ⟨g2, hF2, rfl, ?_⟩
        rw [if_pos q26]
      · have g26 := xf_lt h26
        refine xS.s1 rfl rfl ?_
        try dsimp only [Nat.reduceAdd, xi_1]
        refine xS.s1 rfl rfl ?_
        try dsimp only [Nat.reduceAdd]
        refine xS.ret rfl rfl rfl (fun _ _ => rfl) ?_
        have q26 : ¬ xfst (fun c => decide (xfst (fun i => !xsafe h tx T G Lw (xd6 n c) i) n = none)) (6 ^ n) = none := fun z => absurd ((xsrc_pos (xfst_b6 (by omega))).mpr z) (Int32.not_lt.mpr g26)
        refine ⟨g2, hF2, rfl, ?_⟩
        rw [if_neg q26]
    · have g15 := xf_ne h15
      exact absurd g15 hg
  · have g6 := xf_ne h6
    exfalso; first | exact absurd g6 (by decide) | (simp (disch := omega) only [Int32.lt_iff_toInt_lt, Int32.le_iff_toInt_le, nI_toInt, Int32.reduceToInt] at g6 <;> omega)

set_option maxRecDepth 10000 in
theorem c_X12_picks_bad (hx : ¬ (1 ≤ x ∧ x ≤ 3)) : xT (k + 7) 224 [.ref 73, .int x] (xH b g l) (fun r M' => M' = xH b g l ∧ r = some (.int (-1))) := by
  refine xT.of rfl (Nat.le_of_ble_eq_true rfl) ?_
  change xS _ _ 0 [(0, .ref 73), (1, .int x)] [] _ _
  refine xS.s1 rfl rfl ?_
  try dsimp only [Nat.reduceAdd]
  refine xS.s1 rfl rfl ?_
  try dsimp only [Nat.reduceAdd, xi_1]
  refine xS.s1 rfl rfl ?_
  try dsimp only [Nat.reduceAdd, xi_3]
  -- 3 yX12_in
  refine xS.callS rfl rfl rfl ⟨Nat.le_of_ble_eq_true rfl, rfl⟩ c_in_x (fun v M1 hv => ?_)
  rw [hv.1, hv.2]
  clear hv M1 v
  try dsimp only [Nat.reduceAdd, Option.toList, List.cons_append, List.nil_append, List.drop]
  refine xS.br0 (c := .ne) (off := 5) (l := 3) rfl rfl (fun h6 => ?_) (fun h6 => ?_)
  · have g6 := xt_ne h6
    exact absurd (xif1 g6) hx
  · have g6 := xf_ne h6
    refine xS.s1 rfl rfl ?_
    try dsimp only [Nat.reduceAdd, xi_m1]
    refine xS.ret rfl rfl rfl (fun _ _ => rfl) ?_
    exact ⟨rfl, rfl⟩

set_option maxRecDepth 10000 in
theorem c_X12_picks_state (hn : n ≤ 3) (hn0 : 0 < n) (hg : g 73 10 = 0) : xT (k + 7) 224 [.ref 73, .int (nI n)] (xH b g l) (fun r M' => M' = xH b g l ∧ r = some (.int (-4))) := by
  refine xT.of rfl (Nat.le_of_ble_eq_true rfl) ?_
  change xS _ _ 0 [(0, .ref 73), (1, .int (nI n))] [] _ _
  refine xS.s1 rfl rfl ?_
  try dsimp only [Nat.reduceAdd]
  refine xS.s1 rfl rfl ?_
  try dsimp only [Nat.reduceAdd, xi_1]
  refine xS.s1 rfl rfl ?_
  try dsimp only [Nat.reduceAdd, xi_3]
  -- 3 yX12_in
  refine xS.callS rfl rfl rfl ⟨Nat.le_of_ble_eq_true rfl, rfl⟩ (c_in_n1 (s := 1) (m := 3) (by omega) (by omega) (by decide)) (fun v M1 hv => ?_)
  rw [hv.1, hv.2]
  clear hv M1 v
  try dsimp only [Nat.reduceAdd, Option.toList, List.cons_append, List.nil_append, List.drop]
  refine xS.br0 (c := .ne) (off := 5) (l := 3) rfl rfl (fun h6 => ?_) (fun h6 => ?_)
  · have g6 := xt_ne h6
    refine xS.s1 rfl rfl ?_
    try dsimp only [Nat.reduceAdd]
    refine xS.gI rfl rfl rfl ⟨by decide, rfl⟩ rfl ?_
    try dsimp only [Nat.reduceAdd]
    refine xS.br0 (c := .ne) (off := 6) (l := 3) rfl rfl (fun h15 => ?_) (fun h15 => ?_)
    · have g15 := xt_ne h15
      exact absurd hg g15
    · have g15 := xf_ne h15
      refine xS.s1 rfl rfl ?_
      try dsimp only [Nat.reduceAdd, xj_m4]
      refine xS.ret rfl rfl rfl (fun _ _ => rfl) ?_
      exact ⟨rfl, rfl⟩
  · have g6 := xf_ne h6
    exfalso; first | exact absurd g6 (by decide) | (simp (disch := omega) only [Int32.lt_iff_toInt_lt, Int32.le_iff_toInt_le, nI_toInt, Int32.reduceToInt] at g6 <;> omega)

set_option maxRecDepth 10000 in
theorem c_X12_picks_ok (hR : xRr g h tx G T Lw) (hn : n ≤ 3) (hn0 : 0 < n) (hg : ¬ g 73 10 = 0) : xT (k + 7) 224 [.ref 73, .int (nI n)] (xH b g l) (fun r M' => ∃ g0, xFr g g0 ∧ M' = xH b g0 l ∧ r = some (.int (match xfst (fun c => decide (xfst (fun i => !xsafe h tx T G Lw (xd6 n c) i) n = none)) (6 ^ n) with | none => -9 | some c => nI (xd6 n c 0)))) := by
  refine xT.of rfl (Nat.le_of_ble_eq_true rfl) ?_
  change xS _ _ 0 [(0, .ref 73), (1, .int (nI n))] [] _ _
  refine xS.s1 rfl rfl ?_
  try dsimp only [Nat.reduceAdd]
  refine xS.s1 rfl rfl ?_
  try dsimp only [Nat.reduceAdd, xi_1]
  refine xS.s1 rfl rfl ?_
  try dsimp only [Nat.reduceAdd, xi_3]
  -- 3 yX12_in
  refine xS.callS rfl rfl rfl ⟨Nat.le_of_ble_eq_true rfl, rfl⟩ (c_in_n1 (s := 1) (m := 3) (by omega) (by omega) (by decide)) (fun v M1 hv => ?_)
  rw [hv.1, hv.2]
  clear hv M1 v
  try dsimp only [Nat.reduceAdd, Option.toList, List.cons_append, List.nil_append, List.drop]
  refine xS.br0 (c := .ne) (off := 5) (l := 3) rfl rfl (fun h6 => ?_) (fun h6 => ?_)
  · have g6 := xt_ne h6
    refine xS.s1 rfl rfl ?_
    try dsimp only [Nat.reduceAdd]
    refine xS.gI rfl rfl rfl ⟨by decide, rfl⟩ rfl ?_
    try dsimp only [Nat.reduceAdd]
    refine xS.br0 (c := .ne) (off := 6) (l := 3) rfl rfl (fun h15 => ?_) (fun h15 => ?_)
    · have g15 := xt_ne h15
      refine xS.s1 rfl rfl ?_
      try dsimp only [Nat.reduceAdd]
      refine xS.s1 rfl rfl ?_
      try dsimp only [Nat.reduceAdd]
      -- 23 yX12_gameBy
      refine xS.cv rfl rfl rfl rfl rfl rfl ⟨by decide, rfl, rfl⟩ (c_X12_gameBy hR hn) (fun v M1 hv => ?_)
      obtain ⟨g2, hF2, hd2, hM2, hv2⟩ := hv
      rw [hM2, hv2]
      clear hM2 hv2 M1 v
      try dsimp only [Nat.reduceAdd, Option.toList, List.cons_append, List.nil_append, List.drop]
      refine xS.br0 (c := .lt) (off := 12) (l := 3) rfl rfl (fun h26 => ?_) (fun h26 => ?_)
      · have g26 := xt_lt h26
        refine xS.s1 rfl rfl ?_
        try dsimp only [Nat.reduceAdd, xj_m9]
        refine xS.ret rfl rfl rfl (fun _ _ => rfl) ?_
        have q26 := (xsrc_pos (xfst_b6 (by omega))).mp g26
        exact ⟨g2, hF2, rfl, by rw [q26]⟩
      · have g26 := xf_lt h26
        refine xS.s1 rfl rfl ?_
        try dsimp only [Nat.reduceAdd]
        refine xS.gR rfl rfl rfl ⟨by decide, rfl⟩ rfl ?_
        try dsimp only [Nat.reduceAdd]
        refine xS.s1 rfl rfl ?_
        try dsimp only [Nat.reduceAdd, xi_0]
        refine xS.ia (t := 0) rfl xar_90 (by omega) ?_
        try dsimp only [Nat.reduceAdd]
        refine xS.s1 rfl rfl ?_
        try dsimp only [Nat.reduceAdd]
        refine xS.ret rfl rfl rfl (fun _ _ => rfl) ?_
        cases ec : xfst (fun c => decide (xfst (fun i => !xsafe h tx T G Lw (xd6 n c) i) n = none)) (6 ^ n) with
        | none => rw [ec] at g26; exact absurd g26 (by decide)
        | some c => exact ⟨g2, hF2, rfl, by rw [hd2 c ec 0 hn0]⟩
    · have g15 := xf_ne h15
      exact absurd g15 hg
  · have g6 := xf_ne h6
    exfalso; first | exact absurd g6 (by decide) | (simp (disch := omega) only [Int32.lt_iff_toInt_lt, Int32.le_iff_toInt_le, nI_toInt, Int32.reduceToInt] at g6 <;> omega)

set_option maxRecDepth 10000 in
theorem c_X12_odds_bad (hR : xRr g h tx G T Lw) (hx : ¬ ((0 ≤ x ∧ x < nI G) ∧ (0 ≤ y ∧ y < 6) ∧ 0 ≤ z ∧ z ≤ 12)) : xT (k + 5) 225 [.ref 73, .int x, .int y, .int z] (xH b g l) (fun r M' => M' = xH b g l ∧ r = some (.int (-1))) := by
  refine xT.of rfl (Nat.le_of_ble_eq_true rfl) ?_
  change xS _ _ 0 [(0, .ref 73), (1, .int x), (2, .int y), (3, .int z)] [] _ _
  refine xS.s1 rfl rfl ?_
  try dsimp only [Nat.reduceAdd]
  refine xS.s1 rfl rfl ?_
  try dsimp only [Nat.reduceAdd]
  -- 2 yX12_isGlass
  refine xS.cv rfl rfl rfl rfl rfl rfl ⟨by decide, rfl, rfl⟩ (c_X12_isGlass hR.1.1 hR.1.2) (fun v M1 hv => ?_)
  rw [hv.1, hv.2]
  clear hv M1 v
  try dsimp only [Nat.reduceAdd, Option.toList, List.cons_append, List.nil_append, List.drop]
  refine xS.br0 (c := .eq) (off := 20) (l := 3) rfl rfl (fun h5 => ?_) (fun h5 => ?_)
  · have g5 := xt_eq h5
    refine xS.s1 rfl rfl ?_
    try dsimp only [Nat.reduceAdd, xi_m1]
    refine xS.ret rfl rfl rfl (fun _ _ => rfl) ?_
    exact ⟨rfl, rfl⟩
  · have g5 := xf_eq h5
    refine xS.s1 rfl rfl ?_
    try dsimp only [Nat.reduceAdd]
    -- 9 yX12_isRow
    refine xS.callS rfl rfl rfl ⟨Nat.le_of_ble_eq_true rfl, rfl⟩ c_X12_isRow (fun v M1 hv => ?_)
    rw [hv.1, hv.2]
    clear hv M1 v
    try dsimp only [Nat.reduceAdd, Option.toList, List.cons_append, List.nil_append, List.drop]
    refine xS.br0 (c := .eq) (off := 13) (l := 3) rfl rfl (fun h12 => ?_) (fun h12 => ?_)
    · have g12 := xt_eq h12
      refine xS.s1 rfl rfl ?_
      try dsimp only [Nat.reduceAdd, xi_m1]
      refine xS.ret rfl rfl rfl (fun _ _ => rfl) ?_
      exact ⟨rfl, rfl⟩
    · have g12 := xf_eq h12
      refine xS.s1 rfl rfl ?_
      try dsimp only [Nat.reduceAdd]
      refine xS.s1 rfl rfl ?_
      try dsimp only [Nat.reduceAdd, xi_0]
      refine xS.s1 rfl rfl ?_
      try dsimp only [Nat.reduceAdd, xj_12]
      -- 19 yX12_in
      refine xS.callS rfl rfl rfl ⟨Nat.le_of_ble_eq_true rfl, rfl⟩ c_in_x (fun v M1 hv => ?_)
      rw [hv.1, hv.2]
      clear hv M1 v
      try dsimp only [Nat.reduceAdd, Option.toList, List.cons_append, List.nil_append, List.drop]
      refine xS.br0 (c := .ne) (off := 5) (l := 3) rfl rfl (fun h22 => ?_) (fun h22 => ?_)
      · have g22 := xt_ne h22
        exact absurd ⟨xif1 g5, xif1 g12, xif1 g22⟩ hx
      · have g22 := xf_ne h22
        refine xS.s1 rfl rfl ?_
        try dsimp only [Nat.reduceAdd, xi_m1]
        refine xS.ret rfl rfl rfl (fun _ _ => rfl) ?_
        exact ⟨rfl, rfl⟩

set_option maxRecDepth 10000 in
theorem c_X12_odds_ref (hR : xRr g h tx G T Lw) (hk : s < G) (hp1 : p < 6) (he : e1 ≤ 12) (hz : xsz (g 74 p) 40) (hf : xfos (g 74 p) (fun i => g 75 (40 * p + i)) 12 ≠ 0) : xT (k + 5) 225 [.ref 73, .int (nI s), .int (nI p), .int (nI e1)] (xH b g l) (fun r M' => ∃ g', xFr g g' ∧ M' = xH b g' l ∧ r = some (.int (-3))) := by
  refine xT.of rfl (Nat.le_of_ble_eq_true rfl) ?_
  change xS _ _ 0 [(0, .ref 73), (1, .int (nI s)), (2, .int (nI p)), (3, .int (nI e1))] [] _ _
  refine xS.s1 rfl rfl ?_
  try dsimp only [Nat.reduceAdd]
  refine xS.s1 rfl rfl ?_
  try dsimp only [Nat.reduceAdd]
  -- 2 yX12_isGlass
  refine xS.cv rfl rfl rfl rfl rfl rfl ⟨by decide, rfl, rfl⟩ (c_X12_isGlass_in hR.1.1 hR.1.2 hk) (fun v M1 hv => ?_)
  rw [hv.1, hv.2]
  clear hv M1 v
  try dsimp only [Nat.reduceAdd, Option.toList, List.cons_append, List.nil_append, List.drop]
  refine xS.br0 (c := .eq) (off := 20) (l := 3) rfl rfl (fun h5 => ?_) (fun h5 => ?_)
  · have g5 := xt_eq h5
    exfalso; first | exact absurd g5 (by decide) | (simp (disch := omega) only [Int32.lt_iff_toInt_lt, Int32.le_iff_toInt_le, nI_toInt, Int32.reduceToInt] at g5 <;> omega)
  · have g5 := xf_eq h5
    refine xS.s1 rfl rfl ?_
    try dsimp only [Nat.reduceAdd]
    -- 9 yX12_isRow
    refine xS.callS rfl rfl rfl ⟨Nat.le_of_ble_eq_true rfl, rfl⟩ (c_X12_isRow_in hp1) (fun v M1 hv => ?_)
    rw [hv.1, hv.2]
    clear hv M1 v
    try dsimp only [Nat.reduceAdd, Option.toList, List.cons_append, List.nil_append, List.drop]
    refine xS.br0 (c := .eq) (off := 13) (l := 3) rfl rfl (fun h12 => ?_) (fun h12 => ?_)
    · have g12 := xt_eq h12
      exfalso; first | exact absurd g12 (by decide) | (simp (disch := omega) only [Int32.lt_iff_toInt_lt, Int32.le_iff_toInt_le, nI_toInt, Int32.reduceToInt] at g12 <;> omega)
    · have g12 := xf_eq h12
      refine xS.s1 rfl rfl ?_
      try dsimp only [Nat.reduceAdd]
      refine xS.s1 rfl rfl ?_
      try dsimp only [Nat.reduceAdd, xi_0]
      refine xS.s1 rfl rfl ?_
      try dsimp only [Nat.reduceAdd, xj_12]
      -- 19 yX12_in
      refine xS.callS rfl rfl rfl ⟨Nat.le_of_ble_eq_true rfl, rfl⟩ (c_in_n1 (s := 0) (m := 12) (by omega) he (by decide)) (fun v M1 hv => ?_)
      rw [hv.1, hv.2]
      clear hv M1 v
      try dsimp only [Nat.reduceAdd, Option.toList, List.cons_append, List.nil_append, List.drop]
      refine xS.br0 (c := .ne) (off := 5) (l := 3) rfl rfl (fun h22 => ?_) (fun h22 => ?_)
      · have g22 := xt_ne h22
        refine xS.s1 rfl rfl ?_
        try dsimp only [Nat.reduceAdd]
        refine xS.s1 rfl rfl ?_
        try dsimp only [Nat.reduceAdd]
        refine xS.s1 rfl rfl ?_
        try dsimp only [Nat.reduceAdd, xj_12]
        refine xS.s1 rfl rfl ?_
        try dsimp only [Nat.reduceAdd]
        refine xS.gR rfl rfl rfl ⟨by decide, rfl⟩ rfl ?_
        try dsimp only [Nat.reduceAdd]
        -- 35 yX12_takeOut
        refine xS.cv rfl rfl rfl rfl rfl rfl ⟨by decide, rfl, rfl⟩ (c_X12_takeOut_ref xar_90 (by decide) hp1 hz (by decide) hf) (fun v M1 hv => ?_)
        obtain ⟨g2, hF2, hM2, hv2⟩ := hv
        rw [hM2, hv2]
        clear hM2 hv2 M1 v
        try dsimp only [Nat.reduceAdd, Option.toList, List.cons_append, List.nil_append, List.drop]
        refine xS.s1 rfl rfl ?_
        try dsimp only [Nat.reduceAdd]
        refine xS.s1 rfl rfl ?_
        try dsimp only [Nat.reduceAdd]
        refine xS.br0 (c := .ge) (off := 6) (l := 3) rfl rfl (fun h42 => ?_) (fun h42 => ?_)
        · have g42 := xt_ge h42
          exfalso; first | exact absurd g42 (by decide) | (simp (disch := omega) only [Int32.lt_iff_toInt_lt, Int32.le_iff_toInt_le, nI_toInt, Int32.reduceToInt] at g42 <;> omega)
        · have g42 := xf_ge h42
          refine xS.s1 rfl rfl ?_
          try dsimp only [Nat.reduceAdd]
          refine xS.ret rfl rfl rfl (fun _ _ => rfl) ?_
          exact ⟨g2, hF2, rfl, rfl⟩
      · have g22 := xf_ne h22
        exfalso; first | exact absurd g22 (by decide) | (simp (disch := omega) only [Int32.lt_iff_toInt_lt, Int32.le_iff_toInt_le, nI_toInt, Int32.reduceToInt] at g22 <;> omega)

set_option maxRecDepth 10000 in
theorem c_X12_mid_bad (hR : xRr g h tx G T Lw) (hx : ¬ ((0 ≤ x ∧ x < nI G) ∧ (0 ≤ y ∧ y < 6) ∧ 0 ≤ z ∧ z ≤ 12)) : xT (k + 5) 226 [.ref 73, .int x, .int y, .int z] (xH b g l) (fun r M' => M' = xH b g l ∧ r = some (.int (-1))) := by
  refine xT.of rfl (Nat.le_of_ble_eq_true rfl) ?_
  change xS _ _ 0 [(0, .ref 73), (1, .int x), (2, .int y), (3, .int z)] [] _ _
  refine xS.s1 rfl rfl ?_
  try dsimp only [Nat.reduceAdd]
  refine xS.s1 rfl rfl ?_
  try dsimp only [Nat.reduceAdd]
  -- 2 yX12_isGlass
  refine xS.cv rfl rfl rfl rfl rfl rfl ⟨by decide, rfl, rfl⟩ (c_X12_isGlass hR.1.1 hR.1.2) (fun v M1 hv => ?_)
  rw [hv.1, hv.2]
  clear hv M1 v
  try dsimp only [Nat.reduceAdd, Option.toList, List.cons_append, List.nil_append, List.drop]
  refine xS.br0 (c := .eq) (off := 20) (l := 3) rfl rfl (fun h5 => ?_) (fun h5 => ?_)
  · have g5 := xt_eq h5
    refine xS.s1 rfl rfl ?_
    try dsimp only [Nat.reduceAdd, xi_m1]
    refine xS.ret rfl rfl rfl (fun _ _ => rfl) ?_
    exact ⟨rfl, rfl⟩
  · have g5 := xf_eq h5
    refine xS.s1 rfl rfl ?_
    try dsimp only [Nat.reduceAdd]
    -- 9 yX12_isRow
    refine xS.callS rfl rfl rfl ⟨Nat.le_of_ble_eq_true rfl, rfl⟩ c_X12_isRow (fun v M1 hv => ?_)
    rw [hv.1, hv.2]
    clear hv M1 v
    try dsimp only [Nat.reduceAdd, Option.toList, List.cons_append, List.nil_append, List.drop]
    refine xS.br0 (c := .eq) (off := 13) (l := 3) rfl rfl (fun h12 => ?_) (fun h12 => ?_)
    · have g12 := xt_eq h12
      refine xS.s1 rfl rfl ?_
      try dsimp only [Nat.reduceAdd, xi_m1]
      refine xS.ret rfl rfl rfl (fun _ _ => rfl) ?_
      exact ⟨rfl, rfl⟩
    · have g12 := xf_eq h12
      refine xS.s1 rfl rfl ?_
      try dsimp only [Nat.reduceAdd]
      refine xS.s1 rfl rfl ?_
      try dsimp only [Nat.reduceAdd, xi_0]
      refine xS.s1 rfl rfl ?_
      try dsimp only [Nat.reduceAdd, xj_12]
      -- 19 yX12_in
      refine xS.callS rfl rfl rfl ⟨Nat.le_of_ble_eq_true rfl, rfl⟩ c_in_x (fun v M1 hv => ?_)
      rw [hv.1, hv.2]
      clear hv M1 v
      try dsimp only [Nat.reduceAdd, Option.toList, List.cons_append, List.nil_append, List.drop]
      refine xS.br0 (c := .ne) (off := 5) (l := 3) rfl rfl (fun h22 => ?_) (fun h22 => ?_)
      · have g22 := xt_ne h22
        exact absurd ⟨xif1 g5, xif1 g12, xif1 g22⟩ hx
      · have g22 := xf_ne h22
        refine xS.s1 rfl rfl ?_
        try dsimp only [Nat.reduceAdd, xi_m1]
        refine xS.ret rfl rfl rfl (fun _ _ => rfl) ?_
        exact ⟨rfl, rfl⟩

set_option maxRecDepth 10000 in
theorem c_X12_mid_ref (hR : xRr g h tx G T Lw) (hk : s < G) (hp1 : p < 6) (he : e1 ≤ 12) (hz : xsz (g 74 p) 40) (hf : xfos (g 74 p) (fun i => g 75 (40 * p + i)) 12 ≠ 0) : xT (k + 5) 226 [.ref 73, .int (nI s), .int (nI p), .int (nI e1)] (xH b g l) (fun r M' => ∃ g', xFr g g' ∧ M' = xH b g' l ∧ r = some (.int (-3))) := by
  refine xT.of rfl (Nat.le_of_ble_eq_true rfl) ?_
  change xS _ _ 0 [(0, .ref 73), (1, .int (nI s)), (2, .int (nI p)), (3, .int (nI e1))] [] _ _
  refine xS.s1 rfl rfl ?_
  try dsimp only [Nat.reduceAdd]
  refine xS.s1 rfl rfl ?_
  try dsimp only [Nat.reduceAdd]
  -- 2 yX12_isGlass
  refine xS.cv rfl rfl rfl rfl rfl rfl ⟨by decide, rfl, rfl⟩ (c_X12_isGlass_in hR.1.1 hR.1.2 hk) (fun v M1 hv => ?_)
  rw [hv.1, hv.2]
  clear hv M1 v
  try dsimp only [Nat.reduceAdd, Option.toList, List.cons_append, List.nil_append, List.drop]
  refine xS.br0 (c := .eq) (off := 20) (l := 3) rfl rfl (fun h5 => ?_) (fun h5 => ?_)
  · have g5 := xt_eq h5
    exfalso; first | exact absurd g5 (by decide) | (simp (disch := omega) only [Int32.lt_iff_toInt_lt, Int32.le_iff_toInt_le, nI_toInt, Int32.reduceToInt] at g5 <;> omega)
  · have g5 := xf_eq h5
    refine xS.s1 rfl rfl ?_
    try dsimp only [Nat.reduceAdd]
    -- 9 yX12_isRow
    refine xS.callS rfl rfl rfl ⟨Nat.le_of_ble_eq_true rfl, rfl⟩ (c_X12_isRow_in hp1) (fun v M1 hv => ?_)
    rw [hv.1, hv.2]
    clear hv M1 v
    try dsimp only [Nat.reduceAdd, Option.toList, List.cons_append, List.nil_append, List.drop]
    refine xS.br0 (c := .eq) (off := 13) (l := 3) rfl rfl (fun h12 => ?_) (fun h12 => ?_)
    · have g12 := xt_eq h12
      exfalso; first | exact absurd g12 (by decide) | (simp (disch := omega) only [Int32.lt_iff_toInt_lt, Int32.le_iff_toInt_le, nI_toInt, Int32.reduceToInt] at g12 <;> omega)
    · have g12 := xf_eq h12
      refine xS.s1 rfl rfl ?_
      try dsimp only [Nat.reduceAdd]
      refine xS.s1 rfl rfl ?_
      try dsimp only [Nat.reduceAdd, xi_0]
      refine xS.s1 rfl rfl ?_
      try dsimp only [Nat.reduceAdd, xj_12]
      -- 19 yX12_in
      refine xS.callS rfl rfl rfl ⟨Nat.le_of_ble_eq_true rfl, rfl⟩ (c_in_n1 (s := 0) (m := 12) (by omega) he (by decide)) (fun v M1 hv => ?_)
      rw [hv.1, hv.2]
      clear hv M1 v
      try dsimp only [Nat.reduceAdd, Option.toList, List.cons_append, List.nil_append, List.drop]
      refine xS.br0 (c := .ne) (off := 5) (l := 3) rfl rfl (fun h22 => ?_) (fun h22 => ?_)
      · have g22 := xt_ne h22
        refine xS.s1 rfl rfl ?_
        try dsimp only [Nat.reduceAdd]
        refine xS.s1 rfl rfl ?_
        try dsimp only [Nat.reduceAdd]
        refine xS.s1 rfl rfl ?_
        try dsimp only [Nat.reduceAdd, xj_12]
        refine xS.s1 rfl rfl ?_
        try dsimp only [Nat.reduceAdd]
        refine xS.gR rfl rfl rfl ⟨by decide, rfl⟩ rfl ?_
        try dsimp only [Nat.reduceAdd]
        -- 35 yX12_takeOut
        refine xS.cv rfl rfl rfl rfl rfl rfl ⟨by decide, rfl, rfl⟩ (c_X12_takeOut_ref xar_90 (by decide) hp1 hz (by decide) hf) (fun v M1 hv => ?_)
        obtain ⟨g2, hF2, hM2, hv2⟩ := hv
        rw [hM2, hv2]
        clear hM2 hv2 M1 v
        try dsimp only [Nat.reduceAdd, Option.toList, List.cons_append, List.nil_append, List.drop]
        refine xS.s1 rfl rfl ?_
        try dsimp only [Nat.reduceAdd]
        refine xS.s1 rfl rfl ?_
        try dsimp only [Nat.reduceAdd]
        refine xS.br0 (c := .ge) (off := 6) (l := 3) rfl rfl (fun h42 => ?_) (fun h42 => ?_)
        · have g42 := xt_ge h42
          exfalso; first | exact absurd g42 (by decide) | (simp (disch := omega) only [Int32.lt_iff_toInt_lt, Int32.le_iff_toInt_le, nI_toInt, Int32.reduceToInt] at g42 <;> omega)
        · have g42 := xf_ge h42
          refine xS.s1 rfl rfl ?_
          try dsimp only [Nat.reduceAdd]
          refine xS.ret rfl rfl rfl (fun _ _ => rfl) ?_
          exact ⟨g2, hF2, rfl, rfl⟩
      · have g22 := xf_ne h22
        exfalso; first | exact absurd g22 (by decide) | (simp (disch := omega) only [Int32.lt_iff_toInt_lt, Int32.le_iff_toInt_le, nI_toInt, Int32.reduceToInt] at g22 <;> omega)

set_option maxRecDepth 10000 in
theorem c_X12_odds_ok (hR : xRr g h tx G T Lw) (hk : s < G) (he : e1 ≤ 12) (hp1 : p < 6) (hs : g 74 p = nI m) (hm : m ≤ 12) (hf : xfos (g 74 p) (fun i => g 75 (40 * p + i)) 12 = 0) (hx : ∀ i, i < m → xstp (g 75 (40 * p + i))) : xT (k + 5) 225 [.ref 73, .int (nI s), .int (nI p), .int (nI e1)] (xH b g l) (fun r M' => ∃ g0, xFr g g0 ∧ M' = xH b g0 (up (up l 73 21 (lN (xpr (fun i => 12 - xbt (xfb tx T (nI ((fun i => xN (g 75 (40 * p + i))) i)) 0 = none) (xfb tx T (nI ((fun i => xN (g 75 (40 * p + i))) i)) ((xshw h (Lw s / 4) (Lw s % 4) (fun i => xN (g 75 (40 * p + i)))) i) = none) e1) 1 m / Nat.gcd (xpr (fun i => 12 - xbt (xfb tx T (nI ((fun i => xN (g 75 (40 * p + i))) i)) 0 = none) (xfb tx T (nI ((fun i => xN (g 75 (40 * p + i))) i)) ((xshw h (Lw s / 4) (Lw s % 4) (fun i => xN (g 75 (40 * p + i)))) i) = none) e1) 1 m) (12 ^ m)))) 73 22 (lN (12 ^ m / Nat.gcd (xpr (fun i => 12 - xbt (xfb tx T (nI ((fun i => xN (g 75 (40 * p + i))) i)) 0 = none) (xfb tx T (nI ((fun i => xN (g 75 (40 * p + i))) i)) ((xshw h (Lw s / 4) (Lw s % 4) (fun i => xN (g 75 (40 * p + i)))) i) = none) e1) 1 m) (12 ^ m)))) ∧ r = some (.int 1)) := by
  refine xT.of rfl (Nat.le_of_ble_eq_true rfl) ?_
  change xS _ _ 0 [(0, .ref 73), (1, .int (nI s)), (2, .int (nI p)), (3, .int (nI e1))] [] _ _
  refine xS.s1 rfl rfl ?_
  try dsimp only [Nat.reduceAdd]
  refine xS.s1 rfl rfl ?_
  try dsimp only [Nat.reduceAdd]
  -- 2 yX12_isGlass
  refine xS.cv rfl rfl rfl rfl rfl rfl ⟨by decide, rfl, rfl⟩ (c_X12_isGlass_in hR.1.1 hR.1.2 hk) (fun v M1 hv => ?_)
  rw [hv.1, hv.2]
  clear hv M1 v
  try dsimp only [Nat.reduceAdd, Option.toList, List.cons_append, List.nil_append, List.drop]
  refine xS.br0 (c := .eq) (off := 20) (l := 3) rfl rfl (fun h5 => ?_) (fun h5 => ?_)
  · have g5 := xt_eq h5
    exfalso; first | exact absurd g5 (by decide) | (simp (disch := omega) only [Int32.lt_iff_toInt_lt, Int32.le_iff_toInt_le, nI_toInt, Int32.reduceToInt] at g5 <;> omega)
  · have g5 := xf_eq h5
    refine xS.s1 rfl rfl ?_
    try dsimp only [Nat.reduceAdd]
    -- 9 yX12_isRow
    refine xS.callS rfl rfl rfl ⟨Nat.le_of_ble_eq_true rfl, rfl⟩ (c_X12_isRow_in hp1) (fun v M1 hv => ?_)
    rw [hv.1, hv.2]
    clear hv M1 v
    try dsimp only [Nat.reduceAdd, Option.toList, List.cons_append, List.nil_append, List.drop]
    refine xS.br0 (c := .eq) (off := 13) (l := 3) rfl rfl (fun h12 => ?_) (fun h12 => ?_)
    · have g12 := xt_eq h12
      exfalso; first | exact absurd g12 (by decide) | (simp (disch := omega) only [Int32.lt_iff_toInt_lt, Int32.le_iff_toInt_le, nI_toInt, Int32.reduceToInt] at g12 <;> omega)
    · have g12 := xf_eq h12
      refine xS.s1 rfl rfl ?_
      try dsimp only [Nat.reduceAdd]
      refine xS.s1 rfl rfl ?_
      try dsimp only [Nat.reduceAdd, xi_0]
      refine xS.s1 rfl rfl ?_
      try dsimp only [Nat.reduceAdd, xj_12]
      -- 19 yX12_in
      refine xS.callS rfl rfl rfl ⟨Nat.le_of_ble_eq_true rfl, rfl⟩ (c_in_n1 (s := 0) (m := 12) (by omega) he (by decide)) (fun v M1 hv => ?_)
      rw [hv.1, hv.2]
      clear hv M1 v
      try dsimp only [Nat.reduceAdd, Option.toList, List.cons_append, List.nil_append, List.drop]
      refine xS.br0 (c := .ne) (off := 5) (l := 3) rfl rfl (fun h22 => ?_) (fun h22 => ?_)
      · have g22 := xt_ne h22
        refine xS.s1 rfl rfl ?_
        try dsimp only [Nat.reduceAdd]
        refine xS.s1 rfl rfl ?_
        try dsimp only [Nat.reduceAdd]
        refine xS.s1 rfl rfl ?_
        try dsimp only [Nat.reduceAdd, xj_12]
        refine xS.s1 rfl rfl ?_
        try dsimp only [Nat.reduceAdd]
        refine xS.gR rfl rfl rfl ⟨by decide, rfl⟩ rfl ?_
        try dsimp only [Nat.reduceAdd]
        -- 35 yX12_takeOut
        refine xS.cv rfl rfl rfl rfl rfl rfl ⟨by decide, rfl, rfl⟩ (c_X12_takeOut_0 xar_90 (by decide) hp1 hs (by omega) (by decide) hf) (fun v M1 hv => ?_)
        rw [hv.1, hv.2]
        clear hv M1 v
        have hR1 := xRr_F (xFr_gs (n := m) (S := (fun i => g 75 (40 * p + i))) (by decide : 89 ≤ 90)) hR
        have h90 : ∀ u, u < m → gset g 90 m (fun i => g 75 (40 * p + i)) 90 u = nI ((fun i => xN (g 75 (40 * p + i))) u) ∧ (fun i => xN (g 75 (40 * p + i))) u < 6 := fun u hu => by rw [gset_in hu]; exact ⟨(xstp_N (hx u hu)).2, (xstp_N (hx u hu)).1⟩
        have e74 : gset g 90 m (fun i => g 75 (40 * p + i)) 74 p = nI m := by rw [gset_na (by decide)]; exact hs
        try dsimp only [Nat.reduceAdd, Option.toList, List.cons_append, List.nil_append, List.drop]
        refine xS.s1 rfl rfl ?_
        try dsimp only [Nat.reduceAdd]
        refine xS.s1 rfl rfl ?_
        try dsimp only [Nat.reduceAdd]
        refine xS.br0 (c := .ge) (off := 6) (l := 3) rfl rfl (fun h42 => ?_) (fun h42 => ?_)
        · have g42 := xt_ge h42
          refine xS.s1 rfl rfl ?_
          try dsimp only [Nat.reduceAdd]
          refine xS.s1 rfl rfl ?_
          try dsimp only [Nat.reduceAdd]
          refine xS.s1 rfl rfl ?_
          try dsimp only [Nat.reduceAdd]
          refine xS.s1 rfl rfl ?_
          try dsimp only [Nat.reduceAdd]
          refine xS.s1 rfl rfl ?_
          try dsimp only [Nat.reduceAdd, xi_0]
          refine xS.s1 rfl rfl ?_
          try dsimp only [Nat.reduceAdd]
          refine xS.pick [0, 2, 1, 4, 5, 6, 7] rfl ?_
          refine xS.loop (σ := Unit) (m) (fun j S => [(9, .int (nI j)), (5, .long (lN (xpr (fun i => 12 - xbt (xfb tx T (nI ((fun i => xN (g 75 (40 * p + i))) i)) 0 = none) (xfb tx T (nI ((fun i => xN (g 75 (40 * p + i))) i)) ((xshw h (Lw s / 4) (Lw s % 4) (fun i => xN (g 75 (40 * p + i)))) i) = none) e1) 1 j))), (7, .long (lN (12 ^ j))), (0, .ref 73), (1, .int (nI s)), (2, .int (nI p)), (3, .int (nI e1))]) (fun _ _ => xH b (gset g 90 m (fun i => g 75 (40 * p + i))) l) (fun _ _ => True) (()) (rfl) (rfl) (trivial) ?_
          intro j S hj hI ih
          try dsimp only
          have hb1 := xpr_le (f := (fun i => 12 - xbt (xfb tx T (nI ((fun i => xN (g 75 (40 * p + i))) i)) 0 = none) (xfb tx T (nI ((fun i => xN (g 75 (40 * p + i))) i)) ((xshw h (Lw s / 4) (Lw s % 4) (fun i => xN (g 75 (40 * p + i)))) i) = none) e1)) (a := 1) (q := 12) (fun i => Nat.sub_le _ _) j
          have hb2 : 12 ^ j ≤ 12 ^ 12 := Nat.pow_le_pow_right (by omega) (by omega)
          have hb0 : 0 < 12 ^ j := Nat.pow_pos (by omega)
          refine xS.s1 rfl rfl ?_
          try dsimp only [Nat.reduceAdd]
          refine xS.s1 rfl rfl ?_
          try dsimp only [Nat.reduceAdd]
          refine xS.gR rfl rfl rfl ⟨by decide, rfl⟩ rfl ?_
          try dsimp only [Nat.reduceAdd]
          refine xS.s1 rfl rfl ?_
          try dsimp only [Nat.reduceAdd]
          refine xS.ia rfl xar_74 (by omega) ?_
          try dsimp only [Nat.reduceAdd]
          refine xS.br (c := .ge) (off := 64) (l := 3) rfl rfl (fun h65 => ?_) (fun h65 => ?_)
          · have g65 := xt_ge h65
            rw [e74] at g65
            have e := xnle g65 (by omega) (by omega)
            have e2 : m = j := by omega
            subst e2
            refine xS.s1 rfl rfl ?_
            try dsimp only [Nat.reduceAdd]
            refine xS.s1 rfl rfl ?_
            try dsimp only [Nat.reduceAdd]
            refine xS.s1 rfl rfl ?_
            try dsimp only [Nat.reduceAdd]
            -- 134 yX12_tellParts
            refine xS.cv rfl rfl rfl rfl rfl rfl ⟨by decide, rfl, rfl⟩ (c_X12_tellParts (p := xpr (fun i => 12 - xbt (xfb tx T (nI ((fun i => xN (g 75 (40 * p + i))) i)) 0 = none) (xfb tx T (nI ((fun i => xN (g 75 (40 * p + i))) i)) ((xshw h (Lw s / 4) (Lw s % 4) (fun i => xN (g 75 (40 * p + i)))) i) = none) e1) 1 m) (d := 12 ^ m) (by omega) (by omega) hb0) (fun v M1 hv => ?_)
            rw [hv.1, hv.2]
            clear hv M1 v
            try dsimp only [Nat.reduceAdd, Option.toList, List.cons_append, List.nil_append, List.drop]
            refine xS.s1 rfl rfl ?_
            try dsimp only [Nat.reduceAdd, xi_1]
            refine xS.ret rfl rfl rfl (fun _ _ => rfl) ?_
            exact ⟨_, xFr_gs (a := 90) (by decide), rfl, rfl⟩
          · have g65 := xf_ge h65
            rw [e74] at g65
            have hlt := xnlt g65 (by omega) (by omega)
            refine xS.s1 rfl rfl ?_
            try dsimp only [Nat.reduceAdd]
            refine xS.s1 rfl rfl ?_
            try dsimp only [Nat.reduceAdd]
            refine xS.s1 rfl rfl ?_
            try dsimp only [Nat.reduceAdd]
            refine xS.s1 rfl rfl ?_
            try dsimp only [Nat.reduceAdd]
            -- 74 yX12_breaksAt
            refine xS.cv rfl rfl rfl rfl rfl rfl ⟨by decide, rfl, rfl⟩ (c_X12_breaksAt (f := (fun i => xN (g 75 (40 * p + i)))) hR1 hk (by omega) (fun u hu => h90 u (by omega))) (fun v M1 hv => ?_)
            rw [hv.1, hv.2]
            clear hv M1 v
            try dsimp only [Nat.reduceAdd, Option.toList, List.cons_append, List.nil_append, List.drop]
            refine xS.br0 (c := .eq) (off := 7) (l := 3) rfl rfl (fun h77 => ?_) (fun h77 => ?_)
            · have g77 := xt_eq h77
              refine xS.s1 rfl rfl ?_
              try dsimp only [Nat.reduceAdd, xj_12]
              refine xS.s1 rfl rfl ?_
              try dsimp only [Nat.reduceAdd]
              refine xS.s1 rfl rfl ?_
              try dsimp only [Nat.reduceAdd]
              refine xS.s1 rfl rfl ?_
              try dsimp only [Nat.reduceAdd]
              refine xS.s1 rfl rfl ?_
              try dsimp only [Nat.reduceAdd]
              refine xS.gR rfl rfl rfl ⟨by decide, rfl⟩ rfl ?_
              try dsimp only [Nat.reduceAdd]
              refine xS.s1 rfl rfl ?_
              try dsimp only [Nat.reduceAdd]
              refine xS.ia rfl xar_90 (by omega) ?_
              try dsimp only [Nat.reduceAdd]
              rw [(h90 j hlt).1]
              refine xS.s1 rfl rfl ?_
              try dsimp only [Nat.reduceAdd, xi_0]
              -- 97 yX12_termBy
              refine xS.cv rfl rfl rfl rfl rfl rfl ⟨by decide, rfl, rfl⟩ (c_X12_termBy hR1) (fun v M1 hv => ?_)
              rw [hv.1, hv.2]
              clear hv M1 v
              try dsimp only [Nat.reduceAdd, Option.toList, List.cons_append, List.nil_append, List.drop]
              refine xS.s1 rfl rfl ?_
              try dsimp only [Nat.reduceAdd, xj_m9]
              refine xS.br (c := .ne) (off := 7) (l := 3) rfl rfl (fun h102 => ?_) (fun h102 => ?_)
              · have g102 := xt_ne h102
                refine xS.s1 rfl rfl ?_
                try dsimp only [Nat.reduceAdd, xi_0]
                have qB := xif0n g77
                have qA := (not_congr (xfb_n hR.2.1.2)).mp g102
                refine xS.s1 rfl rfl ?_
                try dsimp only [Nat.reduceAdd]
                rw [show (12 - nI e1 : Int32) + 0 = nI (12 - (xbt (xfb tx T (nI ((fun i => xN (g 75 (40 * p + i))) j)) 0 = none) (xfb tx T (nI ((fun i => xN (g 75 (40 * p + i))) j)) ((xshw h (Lw s / 4) (Lw s % 4) (fun i => xN (g 75 (40 * p + i)))) j) = none) e1)) from by have := xbt_12 (A := (xfb tx T (nI ((fun i => xN (g 75 (40 * p + i))) j)) 0 = none)) (B := (xfb tx T (nI ((fun i => xN (g 75 (40 * p + i))) j)) ((xshw h (Lw s / 4) (Lw s % 4) (fun i => xN (g 75 (40 * p + i)))) j) = none)) (dA := inferInstance) (dB := inferInstance) he; rw [if_pos qB, if_neg qA] at this; exact this]
                refine xS.s1 rfl rfl ?_
                try dsimp only [Nat.reduceAdd]
                refine xS.s1 rfl rfl ?_
                try dsimp only [Nat.reduceAdd]
                rw [nI_l (by omega), lN_mul]
                refine xS.s1 rfl rfl ?_
                try dsimp only [Nat.reduceAdd]
                refine xS.s1 rfl rfl ?_
                try dsimp only [Nat.reduceAdd]
                refine xS.s1 rfl rfl ?_
                try dsimp only [Nat.reduceAdd]
                refine xS.s1 rfl rfl ?_
                try dsimp only [Nat.reduceAdd]
                rw [show lN (12 ^ j) * 12 = lN (12 ^ (j + 1)) from lN_mul (12 ^ j) 12]
                refine xS.s1 rfl rfl ?_
                try dsimp only [Nat.reduceAdd]
                refine xS.s1 rfl rfl ?_
                try dsimp only [Nat.reduceAdd, xi_1]
                rw [nI_1]
                refine xS.s1 rfl rfl ?_
                try dsimp only [Nat.reduceAdd]
                refine xS.pick [0, 2, 1, 3, 4, 5, 6] rfl ?_
                exact ih () (by omega) trivial
              · have g102 := xf_ne h102
                refine xS.s1 rfl rfl ?_
                try dsimp only [Nat.reduceAdd]
                refine xS.s1 rfl rfl ?_
                try dsimp only [Nat.reduceAdd]
                have qB := xif0n g77
                have qA := (xfb_n hR.2.1.2).mp g102
                refine xS.s1 rfl rfl ?_
                try dsimp only [Nat.reduceAdd]
                rw [show (12 - nI e1 : Int32) + nI e1 = nI (12 - (xbt (xfb tx T (nI ((fun i => xN (g 75 (40 * p + i))) j)) 0 = none) (xfb tx T (nI ((fun i => xN (g 75 (40 * p + i))) j)) ((xshw h (Lw s / 4) (Lw s % 4) (fun i => xN (g 75 (40 * p + i)))) j) = none) e1)) from by have := xbt_12 (A := (xfb tx T (nI ((fun i => xN (g 75 (40 * p + i))) j)) 0 = none)) (B := (xfb tx T (nI ((fun i => xN (g 75 (40 * p + i))) j)) ((xshw h (Lw s / 4) (Lw s % 4) (fun i => xN (g 75 (40 * p + i)))) j) = none)) (dA := inferInstance) (dB := inferInstance) he; rw [if_pos qB, if_pos qA] at this; exact this]
                refine xS.s1 rfl rfl ?_
                try dsimp only [Nat.reduceAdd]
                refine xS.s1 rfl rfl ?_
                try dsimp only [Nat.reduceAdd]
                rw [nI_l (by omega), lN_mul]
                refine xS.s1 rfl rfl ?_
                try dsimp only [Nat.reduceAdd]
                refine xS.s1 rfl rfl ?_
                try dsimp only [Nat.reduceAdd]
                refine xS.s1 rfl rfl ?_
                try dsimp only [Nat.reduceAdd]
                refine xS.s1 rfl rfl ?_
                try dsimp only [Nat.reduceAdd]
                rw [show lN (12 ^ j) * 12 = lN (12 ^ (j + 1)) from lN_mul (12 ^ j) 12]
                refine xS.s1 rfl rfl ?_
                try dsimp only [Nat.reduceAdd]
                refine xS.s1 rfl rfl ?_
                try dsimp only [Nat.reduceAdd, xi_1]
                rw [nI_1]
                refine xS.s1 rfl rfl ?_
                try dsimp only [Nat.reduceAdd]
                refine xS.pick [0, 2, 1, 3, 4, 5, 6] rfl ?_
                exact ih () (by omega) trivial
            · have g77 := xf_eq h77
              refine xS.s1 rfl rfl ?_
              try dsimp only [Nat.reduceAdd, xi_0]
              refine xS.s1 rfl rfl ?_
              try dsimp only [Nat.reduceAdd]
              refine xS.s1 rfl rfl ?_
              try dsimp only [Nat.reduceAdd]
              refine xS.s1 rfl rfl ?_
              try dsimp only [Nat.reduceAdd]
              refine xS.gR rfl rfl rfl ⟨by decide, rfl⟩ rfl ?_
              try dsimp only [Nat.reduceAdd]
              refine xS.s1 rfl rfl ?_
              try dsimp only [Nat.reduceAdd]
              refine xS.ia rfl xar_90 (by omega) ?_
              try dsimp only [Nat.reduceAdd]
              rw [(h90 j hlt).1]
              refine xS.s1 rfl rfl ?_
              try dsimp only [Nat.reduceAdd, xi_0]
              -- 97 yX12_termBy
              refine xS.cv rfl rfl rfl rfl rfl rfl ⟨by decide, rfl, rfl⟩ (c_X12_termBy hR1) (fun v M1 hv => ?_)
              rw [hv.1, hv.2]
              clear hv M1 v
              try dsimp only [Nat.reduceAdd, Option.toList, List.cons_append, List.nil_append, List.drop]
              refine xS.s1 rfl rfl ?_
              try dsimp only [Nat.reduceAdd, xj_m9]
              refine xS.br (c := .ne) (off := 7) (l := 3) rfl rfl (fun h102 => ?_) (fun h102 => ?_)
              · have g102 := xt_ne h102
                refine xS.s1 rfl rfl ?_
                try dsimp only [Nat.reduceAdd, xi_0]
                have qB := xif1n g77
                have qA := (not_congr (xfb_n hR.2.1.2)).mp g102
                refine xS.s1 rfl rfl ?_
                try dsimp only [Nat.reduceAdd]
                rw [show (0 : Int32) + 0 = nI (12 - (xbt (xfb tx T (nI ((fun i => xN (g 75 (40 * p + i))) j)) 0 = none) (xfb tx T (nI ((fun i => xN (g 75 (40 * p + i))) j)) ((xshw h (Lw s / 4) (Lw s % 4) (fun i => xN (g 75 (40 * p + i)))) j) = none) e1)) from by have := xbt_12 (A := (xfb tx T (nI ((fun i => xN (g 75 (40 * p + i))) j)) 0 = none)) (B := (xfb tx T (nI ((fun i => xN (g 75 (40 * p + i))) j)) ((xshw h (Lw s / 4) (Lw s % 4) (fun i => xN (g 75 (40 * p + i)))) j) = none)) (dA := inferInstance) (dB := inferInstance) he; rw [if_neg qB, if_neg qA] at this; exact this]
                refine xS.s1 rfl rfl ?_
                try dsimp only [Nat.reduceAdd]
                refine xS.s1 rfl rfl ?_
                try dsimp only [Nat.reduceAdd]
                rw [nI_l (by omega), lN_mul]
                refine xS.s1 rfl rfl ?_
                try dsimp only [Nat.reduceAdd]
                refine xS.s1 rfl rfl ?_
                try dsimp only [Nat.reduceAdd]
                refine xS.s1 rfl rfl ?_
                try dsimp only [Nat.reduceAdd]
                refine xS.s1 rfl rfl ?_
                try dsimp only [Nat.reduceAdd]
                rw [show lN (12 ^ j) * 12 = lN (12 ^ (j + 1)) from lN_mul (12 ^ j) 12]
                refine xS.s1 rfl rfl ?_
                try dsimp only [Nat.reduceAdd]
                refine xS.s1 rfl rfl ?_
                try dsimp only [Nat.reduceAdd, xi_1]
                rw [nI_1]
                refine xS.s1 rfl rfl ?_
                try dsimp only [Nat.reduceAdd]
                refine xS.pick [0, 2, 1, 3, 4, 5, 6] rfl ?_
                exact ih () (by omega) trivial
              · have g102 := xf_ne h102
                refine xS.s1 rfl rfl ?_
                try dsimp only [Nat.reduceAdd]
                refine xS.s1 rfl rfl ?_
                try dsimp only [Nat.reduceAdd]
                have qB := xif1n g77
                have qA := (xfb_n hR.2.1.2).mp g102
                refine xS.s1 rfl rfl ?_
                try dsimp only [Nat.reduceAdd]
                rw [show (0 : Int32) + nI e1 = nI (12 - (xbt (xfb tx T (nI ((fun i => xN (g 75 (40 * p + i))) j)) 0 = none) (xfb tx T (nI ((fun i => xN (g 75 (40 * p + i))) j)) ((xshw h (Lw s / 4) (Lw s % 4) (fun i => xN (g 75 (40 * p + i)))) j) = none) e1)) from by have := xbt_12 (A := (xfb tx T (nI ((fun i => xN (g 75 (40 * p + i))) j)) 0 = none)) (B := (xfb tx T (nI ((fun i => xN (g 75 (40 * p + i))) j)) ((xshw h (Lw s / 4) (Lw s % 4) (fun i => xN (g 75 (40 * p + i)))) j) = none)) (dA := inferInstance) (dB := inferInstance) he; rw [if_neg qB, if_pos qA] at this; exact this]
                refine xS.s1 rfl rfl ?_
                try dsimp only [Nat.reduceAdd]
                refine xS.s1 rfl rfl ?_
                try dsimp only [Nat.reduceAdd]
                rw [nI_l (by omega), lN_mul]
                refine xS.s1 rfl rfl ?_
                try dsimp only [Nat.reduceAdd]
                refine xS.s1 rfl rfl ?_
                try dsimp only [Nat.reduceAdd]
                refine xS.s1 rfl rfl ?_
                try dsimp only [Nat.reduceAdd]
                refine xS.s1 rfl rfl ?_
                try dsimp only [Nat.reduceAdd]
                rw [show lN (12 ^ j) * 12 = lN (12 ^ (j + 1)) from lN_mul (12 ^ j) 12]
                refine xS.s1 rfl rfl ?_
                try dsimp only [Nat.reduceAdd]
                refine xS.s1 rfl rfl ?_
                try dsimp only [Nat.reduceAdd, xi_1]
                rw [nI_1]
                refine xS.s1 rfl rfl ?_
                try dsimp only [Nat.reduceAdd]
                refine xS.pick [0, 2, 1, 3, 4, 5, 6] rfl ?_
                exact ih () (by omega) trivial
        · have g42 := xf_ge h42
          exfalso; first | exact absurd g42 (by decide) | (simp (disch := omega) only [Int32.lt_iff_toInt_lt, Int32.le_iff_toInt_le, nI_toInt, Int32.reduceToInt] at g42 <;> omega)
      · have g22 := xf_ne h22
        exfalso; first | exact absurd g22 (by decide) | (simp (disch := omega) only [Int32.lt_iff_toInt_lt, Int32.le_iff_toInt_le, nI_toInt, Int32.reduceToInt] at g22 <;> omega)

set_option maxRecDepth 10000 in
theorem c_X12_mid_ok (hR : xRr g h tx G T Lw) (hk : s < G) (he : e1 ≤ 12) (hp1 : p < 6) (hs : g 74 p = nI m) (hm : m ≤ 12) (hf : xfos (g 74 p) (fun i => g 75 (40 * p + i)) 12 = 0) (hx : ∀ i, i < m → xstp (g 75 (40 * p + i))) : xT (k + 5) 226 [.ref 73, .int (nI s), .int (nI p), .int (nI e1)] (xH b g l) (fun r M' => ∃ g0, xFr g g0 ∧ M' = xH b g0 (up (up l 73 21 (lN (xsm (fun i => xbt (xfb tx T (nI ((fun i => xN (g 75 (40 * p + i))) i)) 0 = none) (xfb tx T (nI ((fun i => xN (g 75 (40 * p + i))) i)) ((xshw h (Lw s / 4) (Lw s % 4) (fun i => xN (g 75 (40 * p + i)))) i) = none) e1) m / Nat.gcd (xsm (fun i => xbt (xfb tx T (nI ((fun i => xN (g 75 (40 * p + i))) i)) 0 = none) (xfb tx T (nI ((fun i => xN (g 75 (40 * p + i))) i)) ((xshw h (Lw s / 4) (Lw s % 4) (fun i => xN (g 75 (40 * p + i)))) i) = none) e1) m) 12))) 73 22 (lN (12 / Nat.gcd (xsm (fun i => xbt (xfb tx T (nI ((fun i => xN (g 75 (40 * p + i))) i)) 0 = none) (xfb tx T (nI ((fun i => xN (g 75 (40 * p + i))) i)) ((xshw h (Lw s / 4) (Lw s % 4) (fun i => xN (g 75 (40 * p + i)))) i) = none) e1) m) 12))) ∧ r = some (.int 1)) := by
  refine xT.of rfl (Nat.le_of_ble_eq_true rfl) ?_
  change xS _ _ 0 [(0, .ref 73), (1, .int (nI s)), (2, .int (nI p)), (3, .int (nI e1))] [] _ _
  refine xS.s1 rfl rfl ?_
  try dsimp only [Nat.reduceAdd]
  refine xS.s1 rfl rfl ?_
  try dsimp only [Nat.reduceAdd]
  -- 2 yX12_isGlass
  refine xS.cv rfl rfl rfl rfl rfl rfl ⟨by decide, rfl, rfl⟩ (c_X12_isGlass_in hR.1.1 hR.1.2 hk) (fun v M1 hv => ?_)
  rw [hv.1, hv.2]
  clear hv M1 v
  try dsimp only [Nat.reduceAdd, Option.toList, List.cons_append, List.nil_append, List.drop]
  refine xS.br0 (c := .eq) (off := 20) (l := 3) rfl rfl (fun h5 => ?_) (fun h5 => ?_)
  · have g5 := xt_eq h5
    exfalso; first | exact absurd g5 (by decide) | (simp (disch := omega) only [Int32.lt_iff_toInt_lt, Int32.le_iff_toInt_le, nI_toInt, Int32.reduceToInt] at g5 <;> omega)
  · have g5 := xf_eq h5
    refine xS.s1 rfl rfl ?_
    try dsimp only [Nat.reduceAdd]
    -- 9 yX12_isRow
    refine xS.callS rfl rfl rfl ⟨Nat.le_of_ble_eq_true rfl, rfl⟩ (c_X12_isRow_in hp1) (fun v M1 hv => ?_)
    rw [hv.1, hv.2]
    clear hv M1 v
    try dsimp only [Nat.reduceAdd, Option.toList, List.cons_append, List.nil_append, List.drop]
    refine xS.br0 (c := .eq) (off := 13) (l := 3) rfl rfl (fun h12 => ?_) (fun h12 => ?_)
    · have g12 := xt_eq h12
      exfalso; first | exact absurd g12 (by decide) | (simp (disch := omega) only [Int32.lt_iff_toInt_lt, Int32.le_iff_toInt_le, nI_toInt, Int32.reduceToInt] at g12 <;> omega)
    · have g12 := xf_eq h12
      refine xS.s1 rfl rfl ?_
      try dsimp only [Nat.reduceAdd]
      refine xS.s1 rfl rfl ?_
      try dsimp only [Nat.reduceAdd, xi_0]
      refine xS.s1 rfl rfl ?_
      try dsimp only [Nat.reduceAdd, xj_12]
      -- 19 yX12_in
      refine xS.callS rfl rfl rfl ⟨Nat.le_of_ble_eq_true rfl, rfl⟩ (c_in_n1 (s := 0) (m := 12) (by omega) he (by decide)) (fun v M1 hv => ?_)
      rw [hv.1, hv.2]
      clear hv M1 v
      try dsimp only [Nat.reduceAdd, Option.toList, List.cons_append, List.nil_append, List.drop]
      refine xS.br0 (c := .ne) (off := 5) (l := 3) rfl rfl (fun h22 => ?_) (fun h22 => ?_)
      · have g22 := xt_ne h22
        refine xS.s1 rfl rfl ?_
        try dsimp only [Nat.reduceAdd]
        refine xS.s1 rfl rfl ?_
        try dsimp only [Nat.reduceAdd]
        refine xS.s1 rfl rfl ?_
        try dsimp only [Nat.reduceAdd, xj_12]
        refine xS.s1 rfl rfl ?_
        try dsimp only [Nat.reduceAdd]
        refine xS.gR rfl rfl rfl ⟨by decide, rfl⟩ rfl ?_
        try dsimp only [Nat.reduceAdd]
        -- 35 yX12_takeOut
        refine xS.cv rfl rfl rfl rfl rfl rfl ⟨by decide, rfl, rfl⟩ (c_X12_takeOut_0 xar_90 (by decide) hp1 hs (by omega) (by decide) hf) (fun v M1 hv => ?_)
        rw [hv.1, hv.2]
        clear hv M1 v
        have hR1 := xRr_F (xFr_gs (n := m) (S := (fun i => g 75 (40 * p + i))) (by decide : 89 ≤ 90)) hR
        have h90 : ∀ u, u < m → gset g 90 m (fun i => g 75 (40 * p + i)) 90 u = nI ((fun i => xN (g 75 (40 * p + i))) u) ∧ (fun i => xN (g 75 (40 * p + i))) u < 6 := fun u hu => by rw [gset_in hu]; exact ⟨(xstp_N (hx u hu)).2, (xstp_N (hx u hu)).1⟩
        have e74 : gset g 90 m (fun i => g 75 (40 * p + i)) 74 p = nI m := by rw [gset_na (by decide)]; exact hs
        try dsimp only [Nat.reduceAdd, Option.toList, List.cons_append, List.nil_append, List.drop]
        refine xS.s1 rfl rfl ?_
        try dsimp only [Nat.reduceAdd]
        refine xS.s1 rfl rfl ?_
        try dsimp only [Nat.reduceAdd]
        refine xS.br0 (c := .ge) (off := 6) (l := 3) rfl rfl (fun h42 => ?_) (fun h42 => ?_)
        · have g42 := xt_ge h42
          refine xS.s1 rfl rfl ?_
          try dsimp only [Nat.reduceAdd]
          refine xS.s1 rfl rfl ?_
          try dsimp only [Nat.reduceAdd]
          refine xS.s1 rfl rfl ?_
          try dsimp only [Nat.reduceAdd, xi_0]
          refine xS.s1 rfl rfl ?_
          try dsimp only [Nat.reduceAdd]
          refine xS.pick [0, 1, 3, 4, 5, 6] rfl ?_
          refine xS.loop (σ := Unit) (m) (fun j S => [(7, .int (nI j)), (5, .long (lN (xsm (fun i => xbt (xfb tx T (nI ((fun i => xN (g 75 (40 * p + i))) i)) 0 = none) (xfb tx T (nI ((fun i => xN (g 75 (40 * p + i))) i)) ((xshw h (Lw s / 4) (Lw s % 4) (fun i => xN (g 75 (40 * p + i)))) i) = none) e1) j))), (0, .ref 73), (1, .int (nI s)), (2, .int (nI p)), (3, .int (nI e1))]) (fun _ _ => xH b (gset g 90 m (fun i => g 75 (40 * p + i))) l) (fun _ _ => True) (()) (rfl) (rfl) (trivial) ?_
          intro j S hj hI ih
          try dsimp only
          have hb1 := xsm_le (f := (fun i => xbt (xfb tx T (nI ((fun i => xN (g 75 (40 * p + i))) i)) 0 = none) (xfb tx T (nI ((fun i => xN (g 75 (40 * p + i))) i)) ((xshw h (Lw s / 4) (Lw s % 4) (fun i => xN (g 75 (40 * p + i)))) i) = none) e1)) (q := 12) (fun i => xbt_le he) j
          refine xS.s1 rfl rfl ?_
          try dsimp only [Nat.reduceAdd]
          refine xS.s1 rfl rfl ?_
          try dsimp only [Nat.reduceAdd]
          refine xS.gR rfl rfl rfl ⟨by decide, rfl⟩ rfl ?_
          try dsimp only [Nat.reduceAdd]
          refine xS.s1 rfl rfl ?_
          try dsimp only [Nat.reduceAdd]
          refine xS.ia rfl xar_74 (by omega) ?_
          try dsimp only [Nat.reduceAdd]
          refine xS.br (c := .ge) (off := 56) (l := 3) rfl rfl (fun h62 => ?_) (fun h62 => ?_)
          · have g62 := xt_ge h62
            rw [e74] at g62
            have e := xnle g62 (by omega) (by omega)
            have e2 : m = j := by omega
            subst e2
            refine xS.s1 rfl rfl ?_
            try dsimp only [Nat.reduceAdd]
            refine xS.s1 rfl rfl ?_
            try dsimp only [Nat.reduceAdd]
            refine xS.s1 rfl rfl ?_
            try dsimp only [Nat.reduceAdd]
            -- 124 yX12_tellParts
            refine xS.cv rfl rfl rfl rfl rfl rfl ⟨by decide, rfl, rfl⟩ (c_X12_tellParts (p := xsm (fun i => xbt (xfb tx T (nI ((fun i => xN (g 75 (40 * p + i))) i)) 0 = none) (xfb tx T (nI ((fun i => xN (g 75 (40 * p + i))) i)) ((xshw h (Lw s / 4) (Lw s % 4) (fun i => xN (g 75 (40 * p + i)))) i) = none) e1) m) (d := 12) (by omega) (by omega) (by omega)) (fun v M1 hv => ?_)
            rw [hv.1, hv.2]
            clear hv M1 v
            try dsimp only [Nat.reduceAdd, Option.toList, List.cons_append, List.nil_append, List.drop]
            refine xS.s1 rfl rfl ?_
            try dsimp only [Nat.reduceAdd, xi_1]
            refine xS.ret rfl rfl rfl (fun _ _ => rfl) ?_
            exact ⟨_, xFr_gs (a := 90) (by decide), rfl, rfl⟩
          · have g62 := xf_ge h62
            rw [e74] at g62
            have hlt := xnlt g62 (by omega) (by omega)
            refine xS.s1 rfl rfl ?_
            try dsimp only [Nat.reduceAdd]
            refine xS.s1 rfl rfl ?_
            try dsimp only [Nat.reduceAdd]
            refine xS.s1 rfl rfl ?_
            try dsimp only [Nat.reduceAdd]
            refine xS.s1 rfl rfl ?_
            try dsimp only [Nat.reduceAdd]
            -- 71 yX12_breaksAt
            refine xS.cv rfl rfl rfl rfl rfl rfl ⟨by decide, rfl, rfl⟩ (c_X12_breaksAt (f := (fun i => xN (g 75 (40 * p + i)))) hR1 hk (by omega) (fun u hu => h90 u (by omega))) (fun v M1 hv => ?_)
            rw [hv.1, hv.2]
            clear hv M1 v
            try dsimp only [Nat.reduceAdd, Option.toList, List.cons_append, List.nil_append, List.drop]
            refine xS.br0 (c := .eq) (off := 10) (l := 3) rfl rfl (fun h74 => ?_) (fun h74 => ?_)
            · have g74 := xt_eq h74
              refine xS.s1 rfl rfl ?_
              try dsimp only [Nat.reduceAdd, xi_0]
              refine xS.s1 rfl rfl ?_
              try dsimp only [Nat.reduceAdd]
              refine xS.s1 rfl rfl ?_
              try dsimp only [Nat.reduceAdd]
              refine xS.gR rfl rfl rfl ⟨by decide, rfl⟩ rfl ?_
              try dsimp only [Nat.reduceAdd]
              refine xS.s1 rfl rfl ?_
              try dsimp only [Nat.reduceAdd]
              refine xS.ia rfl xar_90 (by omega) ?_
              try dsimp only [Nat.reduceAdd]
              rw [(h90 j hlt).1]
              refine xS.s1 rfl rfl ?_
              try dsimp only [Nat.reduceAdd, xi_0]
              -- 94 yX12_termBy
              refine xS.cv rfl rfl rfl rfl rfl rfl ⟨by decide, rfl, rfl⟩ (c_X12_termBy hR1) (fun v M1 hv => ?_)
              rw [hv.1, hv.2]
              clear hv M1 v
              try dsimp only [Nat.reduceAdd, Option.toList, List.cons_append, List.nil_append, List.drop]
              refine xS.s1 rfl rfl ?_
              try dsimp only [Nat.reduceAdd, xj_m9]
              refine xS.br (c := .ne) (off := 7) (l := 3) rfl rfl (fun h99 => ?_) (fun h99 => ?_)
              · have g99 := xt_ne h99
                refine xS.s1 rfl rfl ?_
                try dsimp only [Nat.reduceAdd]
                have qB := xif0n g74
                have qA := (not_congr (xfb_n hR.2.1.2)).mp g99
                refine xS.s1 rfl rfl ?_
                try dsimp only [Nat.reduceAdd]
                rw [show (0 : Int32) + nI e1 = nI (xbt (xfb tx T (nI ((fun i => xN (g 75 (40 * p + i))) j)) 0 = none) (xfb tx T (nI ((fun i => xN (g 75 (40 * p + i))) j)) ((xshw h (Lw s / 4) (Lw s % 4) (fun i => xN (g 75 (40 * p + i)))) j) = none) e1) from by have := xbt_e (A := (xfb tx T (nI ((fun i => xN (g 75 (40 * p + i))) j)) 0 = none)) (B := (xfb tx T (nI ((fun i => xN (g 75 (40 * p + i))) j)) ((xshw h (Lw s / 4) (Lw s % 4) (fun i => xN (g 75 (40 * p + i)))) j) = none)) (dA := inferInstance) (dB := inferInstance) he; rw [if_pos qB, if_neg qA, Int32.add_comm] at this; exact this]
                refine xS.s1 rfl rfl ?_
                try dsimp only [Nat.reduceAdd]
                refine xS.s1 rfl rfl ?_
                try dsimp only [Nat.reduceAdd]
                rw [nI_l (Nat.lt_of_le_of_lt (xbt_le he) (by decide)), lN_add]
                refine xS.s1 rfl rfl ?_
                try dsimp only [Nat.reduceAdd]
                refine xS.s1 rfl rfl ?_
                try dsimp only [Nat.reduceAdd, xi_1]
                rw [nI_1]
                refine xS.s1 rfl rfl ?_
                try dsimp only [Nat.reduceAdd]
                refine xS.pick [0, 1, 2, 3, 4, 5] rfl ?_
                exact ih () (by omega) trivial
              · have g99 := xf_ne h99
                refine xS.s1 rfl rfl ?_
                try dsimp only [Nat.reduceAdd, xi_0]
                refine xS.s1 rfl rfl ?_
                try dsimp only [Nat.reduceAdd]
                have qB := xif0n g74
                have qA := (xfb_n hR.2.1.2).mp g99
                refine xS.s1 rfl rfl ?_
                try dsimp only [Nat.reduceAdd]
                rw [show (0 : Int32) + 0 = nI (xbt (xfb tx T (nI ((fun i => xN (g 75 (40 * p + i))) j)) 0 = none) (xfb tx T (nI ((fun i => xN (g 75 (40 * p + i))) j)) ((xshw h (Lw s / 4) (Lw s % 4) (fun i => xN (g 75 (40 * p + i)))) j) = none) e1) from by have := xbt_e (A := (xfb tx T (nI ((fun i => xN (g 75 (40 * p + i))) j)) 0 = none)) (B := (xfb tx T (nI ((fun i => xN (g 75 (40 * p + i))) j)) ((xshw h (Lw s / 4) (Lw s % 4) (fun i => xN (g 75 (40 * p + i)))) j) = none)) (dA := inferInstance) (dB := inferInstance) he; rw [if_pos qB, if_pos qA, Int32.add_comm] at this; exact this]
                refine xS.s1 rfl rfl ?_
                try dsimp only [Nat.reduceAdd]
                refine xS.s1 rfl rfl ?_
                try dsimp only [Nat.reduceAdd]
                rw [nI_l (Nat.lt_of_le_of_lt (xbt_le he) (by decide)), lN_add]
                refine xS.s1 rfl rfl ?_
                try dsimp only [Nat.reduceAdd]
                refine xS.s1 rfl rfl ?_
                try dsimp only [Nat.reduceAdd, xi_1]
                rw [nI_1]
                refine xS.s1 rfl rfl ?_
                try dsimp only [Nat.reduceAdd]
                refine xS.pick [0, 1, 2, 3, 4, 5] rfl ?_
                exact ih () (by omega) trivial
            · have g74 := xf_eq h74
              refine xS.s1 rfl rfl ?_
              try dsimp only [Nat.reduceAdd, xj_12]
              refine xS.s1 rfl rfl ?_
              try dsimp only [Nat.reduceAdd]
              refine xS.s1 rfl rfl ?_
              try dsimp only [Nat.reduceAdd]
              refine xS.s1 rfl rfl ?_
              try dsimp only [Nat.reduceAdd]
              refine xS.s1 rfl rfl ?_
              try dsimp only [Nat.reduceAdd]
              refine xS.s1 rfl rfl ?_
              try dsimp only [Nat.reduceAdd]
              refine xS.gR rfl rfl rfl ⟨by decide, rfl⟩ rfl ?_
              try dsimp only [Nat.reduceAdd]
              refine xS.s1 rfl rfl ?_
              try dsimp only [Nat.reduceAdd]
              refine xS.ia rfl xar_90 (by omega) ?_
              try dsimp only [Nat.reduceAdd]
              rw [(h90 j hlt).1]
              refine xS.s1 rfl rfl ?_
              try dsimp only [Nat.reduceAdd, xi_0]
              -- 94 yX12_termBy
              refine xS.cv rfl rfl rfl rfl rfl rfl ⟨by decide, rfl, rfl⟩ (c_X12_termBy hR1) (fun v M1 hv => ?_)
              rw [hv.1, hv.2]
              clear hv M1 v
              try dsimp only [Nat.reduceAdd, Option.toList, List.cons_append, List.nil_append, List.drop]
              refine xS.s1 rfl rfl ?_
              try dsimp only [Nat.reduceAdd, xj_m9]
              refine xS.br (c := .ne) (off := 7) (l := 3) rfl rfl (fun h99 => ?_) (fun h99 => ?_)
              · have g99 := xt_ne h99
                refine xS.s1 rfl rfl ?_
                try dsimp only [Nat.reduceAdd]
                have qB := xif1n g74
                have qA := (not_congr (xfb_n hR.2.1.2)).mp g99
                refine xS.s1 rfl rfl ?_
                try dsimp only [Nat.reduceAdd]
                rw [show (12 - nI e1 : Int32) + nI e1 = nI (xbt (xfb tx T (nI ((fun i => xN (g 75 (40 * p + i))) j)) 0 = none) (xfb tx T (nI ((fun i => xN (g 75 (40 * p + i))) j)) ((xshw h (Lw s / 4) (Lw s % 4) (fun i => xN (g 75 (40 * p + i)))) j) = none) e1) from by have := xbt_e (A := (xfb tx T (nI ((fun i => xN (g 75 (40 * p + i))) j)) 0 = none)) (B := (xfb tx T (nI ((fun i => xN (g 75 (40 * p + i))) j)) ((xshw h (Lw s / 4) (Lw s % 4) (fun i => xN (g 75 (40 * p + i)))) j) = none)) (dA := inferInstance) (dB := inferInstance) he; rw [if_neg qB, if_neg qA, Int32.add_comm] at this; exact this]
                refine xS.s1 rfl rfl ?_
                try dsimp only [Nat.reduceAdd]
                refine xS.s1 rfl rfl ?_
                try dsimp only [Nat.reduceAdd]
                rw [nI_l (Nat.lt_of_le_of_lt (xbt_le he) (by decide)), lN_add]
                refine xS.s1 rfl rfl ?_
                try dsimp only [Nat.reduceAdd]
                refine xS.s1 rfl rfl ?_
                try dsimp only [Nat.reduceAdd, xi_1]
                rw [nI_1]
                refine xS.s1 rfl rfl ?_
                try dsimp only [Nat.reduceAdd]
                refine xS.pick [0, 1, 2, 3, 4, 5] rfl ?_
                exact ih () (by omega) trivial
              · have g99 := xf_ne h99
                refine xS.s1 rfl rfl ?_
                try dsimp only [Nat.reduceAdd, xi_0]
                refine xS.s1 rfl rfl ?_
                try dsimp only [Nat.reduceAdd]
                have qB := xif1n g74
                have qA := (xfb_n hR.2.1.2).mp g99
                refine xS.s1 rfl rfl ?_
                try dsimp only [Nat.reduceAdd]
                rw [show (12 - nI e1 : Int32) + 0 = nI (xbt (xfb tx T (nI ((fun i => xN (g 75 (40 * p + i))) j)) 0 = none) (xfb tx T (nI ((fun i => xN (g 75 (40 * p + i))) j)) ((xshw h (Lw s / 4) (Lw s % 4) (fun i => xN (g 75 (40 * p + i)))) j) = none) e1) from by have := xbt_e (A := (xfb tx T (nI ((fun i => xN (g 75 (40 * p + i))) j)) 0 = none)) (B := (xfb tx T (nI ((fun i => xN (g 75 (40 * p + i))) j)) ((xshw h (Lw s / 4) (Lw s % 4) (fun i => xN (g 75 (40 * p + i)))) j) = none)) (dA := inferInstance) (dB := inferInstance) he; rw [if_neg qB, if_pos qA, Int32.add_comm] at this; exact this]
                refine xS.s1 rfl rfl ?_
                try dsimp only [Nat.reduceAdd]
                refine xS.s1 rfl rfl ?_
                try dsimp only [Nat.reduceAdd]
                rw [nI_l (Nat.lt_of_le_of_lt (xbt_le he) (by decide)), lN_add]
                refine xS.s1 rfl rfl ?_
                try dsimp only [Nat.reduceAdd]
                refine xS.s1 rfl rfl ?_
                try dsimp only [Nat.reduceAdd, xi_1]
                rw [nI_1]
                refine xS.s1 rfl rfl ?_
                try dsimp only [Nat.reduceAdd]
                refine xS.pick [0, 1, 2, 3, 4, 5] rfl ?_
                exact ih () (by omega) trivial
        · have g42 := xf_ge h42
          exfalso; first | exact absurd g42 (by decide) | (simp (disch := omega) only [Int32.lt_iff_toInt_lt, Int32.le_iff_toInt_le, nI_toInt, Int32.reduceToInt] at g42 <;> omega)
      · have g22 := xf_ne h22
        exfalso; first | exact absurd g22 (by decide) | (simp (disch := omega) only [Int32.lt_iff_toInt_lt, Int32.le_iff_toInt_le, nI_toInt, Int32.reduceToInt] at g22 <;> omega)

end
