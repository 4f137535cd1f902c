/-! LimpMirrorModel: lots, counts, digest, keeps, still -/
theorem up_up {α : Type} {g : Nat → Nat → α} {a i : Nat} {v w : α} : up (up g a i v) a i w = up g a i w := by
  funext x y
  unfold up
  by_cases e : x = a ∧ y = i
  · rw [if_pos e, if_pos e]
  · rw [if_neg e, if_neg e]
    exact (if_neg e).symm
def xfw (p : Nat → Bool) (st : Nat → Nat) (n : Nat) : Option Nat := Nat.rec (motive := fun _ => Option Nat) none (fun c o => bif p c then (match o with
  | none => some (st c)
  | some f => some (if st c < f then st c else f)) else o) n
theorem xfw_s (p : Nat → Bool) (st : Nat → Nat) (n : Nat) : xfw p st (n + 1) = bif p n then (match xfw p st n with
  | none => some (st n)
  | some f => some (if st n < f then st n else f)) else xfw p st n := rfl
theorem xfw_b {p : Nat → Bool} {st : Nat → Nat} {q : Nat} (h : ∀ c, st c ≤ q) : ∀ n d, xfw p st n = some d → d ≤ q := by
  intro n
  induction n with
  | zero => intro d e; cases e
  | succ n ih =>
    intro d e
    rw [xfw_s] at e
    cases hp : p n with
    | false => rw [hp] at e; exact ih d e
    | true =>
      rw [hp] at e
      cases eo : xfw p st n with
      | none => rw [eo] at e; cases e; exact h n
      | some f =>
        rw [eo] at e
        have e := Option.some.inj e
        have h1 := ih f eo
        have h2 := h n
        rw [← e]
        split <;> omega
theorem xfI_neg {o : Option Nat} (h : ∀ d, o = some d → d < 2 ^ 31) : xfI o < 0 ↔ o = none := by
  cases o with
  | none => exact ⟨fun _ => rfl, fun _ => by decide⟩
  | some d => exact ⟨fun z => absurd z (nI_pos (h d rfl)), fun z => by cases z⟩

section
variable {k a c n n2 m t p s d i1 j1 : Nat} {b : Nat × Nat} {g : Nat → Nat → Int32} {l : Nat → Nat → Int64} {i j x y z v w : Int32} {u w1 w2 : Int64}
variable {L G T e1 q1 κ δ : Nat} {Lw f f2 : Nat → Nat} {h tx F4 Rw Rw2 O : Nat → Int32}
set_option maxRecDepth 10000 in
theorem c_X12_lots_bad (hx : ¬ ((1 ≤ x ∧ x ≤ 20) ∧ 1 ≤ y ∧ y ≤ 2147483646)) : xT (k + 6) 227 [.ref 73, .int x, .int y] (xH b g l) (fun r M' => M' = xH b g l ∧ r = some (.int (-1))) := by
  refine xT.of rfl (Nat.le_of_ble_eq_true rfl) ?_
  change xS _ _ 0 [(0, .ref 73), (1, .int x), (2, .int y)] [] _ _
  refine xS.s1 rfl rfl ?_
  try dsimp only [Nat.reduceAdd]
  refine xS.s1 rfl rfl ?_
  try dsimp only [Nat.reduceAdd, xi_1]
  refine xS.s1 rfl rfl ?_
  try dsimp only [Nat.reduceAdd, xj_20]
  -- 4 yX12_in
  refine xS.callS rfl rfl rfl ⟨Nat.le_of_ble_eq_true rfl, rfl⟩ c_in_x (fun v M1 hv => ?_)
  rw [hv.1, hv.2]
  clear hv M1 v
  try dsimp only [Nat.reduceAdd, Option.toList, List.cons_append, List.nil_append, List.drop]
  refine xS.br0 (c := .eq) (off := 13) (l := 3) rfl rfl (fun h7 => ?_) (fun h7 => ?_)
  · have g7 := xt_eq h7
    refine xS.s1 rfl rfl ?_
    try dsimp only [Nat.reduceAdd, xi_m1]
    refine xS.ret rfl rfl rfl (fun _ _ => rfl) ?_
    exact ⟨rfl, rfl⟩
  · have g7 := xf_eq h7
    refine xS.s1 rfl rfl ?_
    try dsimp only [Nat.reduceAdd]
    refine xS.s1 rfl rfl ?_
    try dsimp only [Nat.reduceAdd, xi_1]
    refine xS.s1 rfl rfl ?_
    try dsimp only [Nat.reduceAdd]
    -- 14 yX12_in
    refine xS.callS rfl rfl rfl ⟨Nat.le_of_ble_eq_true rfl, rfl⟩ c_in_x (fun v M1 hv => ?_)
    rw [hv.1, hv.2]
    clear hv M1 v
    try dsimp only [Nat.reduceAdd, Option.toList, List.cons_append, List.nil_append, List.drop]
    refine xS.br0 (c := .ne) (off := 5) (l := 3) rfl rfl (fun h17 => ?_) (fun h17 => ?_)
    · have g17 := xt_ne h17
      exact absurd ⟨xif1 g7, xif1 g17⟩ hx
    · have g17 := xf_ne h17
      refine xS.s1 rfl rfl ?_
      try dsimp only [Nat.reduceAdd, xi_m1]
      refine xS.ret rfl rfl rfl (fun _ _ => rfl) ?_
      exact ⟨rfl, rfl⟩

set_option maxRecDepth 10000 in
theorem c_X12_lots_state (hn1 : 1 ≤ n) (hn : n ≤ 20) (hq : 1 ≤ q1) (hq2 : q1 < 2147483647) (hg : g 73 10 = 0) : xT (k + 6) 227 [.ref 73, .int (nI n), .int (nI q1)] (xH b g l) (fun r M' => M' = xH b g l ∧ r = some (.int (-4))) := by
  refine xT.of rfl (Nat.le_of_ble_eq_true rfl) ?_
  change xS _ _ 0 [(0, .ref 73), (1, .int (nI n)), (2, .int (nI q1))] [] _ _
  refine xS.s1 rfl rfl ?_
  try dsimp only [Nat.reduceAdd]
  refine xS.s1 rfl rfl ?_
  try dsimp only [Nat.reduceAdd, xi_1]
  refine xS.s1 rfl rfl ?_
  try dsimp only [Nat.reduceAdd, xj_20]
  -- 4 yX12_in
  refine xS.callS rfl rfl rfl ⟨Nat.le_of_ble_eq_true rfl, rfl⟩ (c_in_n1 (s := 1) (m := 20) hn1 hn (by decide)) (fun v M1 hv => ?_)
  rw [hv.1, hv.2]
  clear hv M1 v
  try dsimp only [Nat.reduceAdd, Option.toList, List.cons_append, List.nil_append, List.drop]
  refine xS.br0 (c := .eq) (off := 13) (l := 3) rfl rfl (fun h7 => ?_) (fun h7 => ?_)
  · have g7 := xt_eq h7
    exfalso; first | exact absurd g7 (by decide) | (simp (disch := omega) only [Int32.lt_iff_toInt_lt, Int32.le_iff_toInt_le, nI_toInt, Int32.reduceToInt] at g7 <;> omega)
  · have g7 := xf_eq h7
    refine xS.s1 rfl rfl ?_
    try dsimp only [Nat.reduceAdd]
    refine xS.s1 rfl rfl ?_
    try dsimp only [Nat.reduceAdd, xi_1]
    refine xS.s1 rfl rfl ?_
    try dsimp only [Nat.reduceAdd]
    -- 14 yX12_in
    refine xS.callS rfl rfl rfl ⟨Nat.le_of_ble_eq_true rfl, rfl⟩ (c_in_n1 (s := 1) (m := 2147483646) hq (by omega) (by decide)) (fun v M1 hv => ?_)
    rw [hv.1, hv.2]
    clear hv M1 v
    try dsimp only [Nat.reduceAdd, Option.toList, List.cons_append, List.nil_append, List.drop]
    refine xS.br0 (c := .ne) (off := 5) (l := 3) rfl rfl (fun h17 => ?_) (fun h17 => ?_)
    · have g17 := xt_ne h17
      refine xS.s1 rfl rfl ?_
      try dsimp only [Nat.reduceAdd]
      refine xS.gI rfl rfl rfl ⟨by decide, rfl⟩ rfl ?_
      try dsimp only [Nat.reduceAdd]
      refine xS.br0 (c := .ne) (off := 6) (l := 3) rfl rfl (fun h26 => ?_) (fun h26 => ?_)
      · have g26 := xt_ne h26
        exact absurd hg g26
      · have g26 := xf_ne h26
        refine xS.s1 rfl rfl ?_
        try dsimp only [Nat.reduceAdd, xj_m4]
        refine xS.ret rfl rfl rfl (fun _ _ => rfl) ?_
        exact ⟨rfl, rfl⟩
    · have g17 := xf_ne h17
      exfalso; first | exact absurd g17 (by decide) | (simp (disch := omega) only [Int32.lt_iff_toInt_lt, Int32.le_iff_toInt_le, nI_toInt, Int32.reduceToInt] at g17 <;> omega)

set_option maxRecDepth 10000 in
theorem c_X12_lots_full (hn1 : 1 ≤ n) (hn : n ≤ 20) (hq : 1 ≤ q1) (hq2 : q1 < 2147483647) (hg : ¬ g 73 10 = 0) (hs : g 73 14 = nI m) (hm : m ≤ 40) (hmn : 40 < m + n) : xT (k + 6) 227 [.ref 73, .int (nI n), .int (nI q1)] (xH b g l) (fun r M' => M' = xH b g l ∧ r = some (.int (-2))) := by
  refine xT.of rfl (Nat.le_of_ble_eq_true rfl) ?_
  change xS _ _ 0 [(0, .ref 73), (1, .int (nI n)), (2, .int (nI q1))] [] _ _
  refine xS.s1 rfl rfl ?_
  try dsimp only [Nat.reduceAdd]
  refine xS.s1 rfl rfl ?_
  try dsimp only [Nat.reduceAdd, xi_1]
  refine xS.s1 rfl rfl ?_
  try dsimp only [Nat.reduceAdd, xj_20]
  -- 4 yX12_in
  refine xS.callS rfl rfl rfl ⟨Nat.le_of_ble_eq_true rfl, rfl⟩ (c_in_n1 (s := 1) (m := 20) hn1 hn (by decide)) (fun v M1 hv => ?_)
  rw [hv.1, hv.2]
  clear hv M1 v
  try dsimp only [Nat.reduceAdd, Option.toList, List.cons_append, List.nil_append, List.drop]
  refine xS.br0 (c := .eq) (off := 13) (l := 3) rfl rfl (fun h7 => ?_) (fun h7 => ?_)
  · have g7 := xt_eq h7
    exfalso; first | exact absurd g7 (by decide) | (simp (disch := omega) only [Int32.lt_iff_toInt_lt, Int32.le_iff_toInt_le, nI_toInt, Int32.reduceToInt] at g7 <;> omega)
  · have g7 := xf_eq h7
    refine xS.s1 rfl rfl ?_
    try dsimp only [Nat.reduceAdd]
    refine xS.s1 rfl rfl ?_
    try dsimp only [Nat.reduceAdd, xi_1]
    refine xS.s1 rfl rfl ?_
    try dsimp only [Nat.reduceAdd]
    -- 14 yX12_in
    refine xS.callS rfl rfl rfl ⟨Nat.le_of_ble_eq_true rfl, rfl⟩ (c_in_n1 (s := 1) (m := 2147483646) hq (by omega) (by decide)) (fun v M1 hv => ?_)
    rw [hv.1, hv.2]
    clear hv M1 v
    try dsimp only [Nat.reduceAdd, Option.toList, List.cons_append, List.nil_append, List.drop]
    refine xS.br0 (c := .ne) (off := 5) (l := 3) rfl rfl (fun h17 => ?_) (fun h17 => ?_)
    · have g17 := xt_ne h17
      refine xS.s1 rfl rfl ?_
      try dsimp only [Nat.reduceAdd]
      refine xS.gI rfl rfl rfl ⟨by decide, rfl⟩ rfl ?_
      try dsimp only [Nat.reduceAdd]
      refine xS.br0 (c := .ne) (off := 6) (l := 3) rfl rfl (fun h26 => ?_) (fun h26 => ?_)
      · have g26 := xt_ne h26
        refine xS.s1 rfl rfl ?_
        try dsimp only [Nat.reduceAdd]
        refine xS.gI rfl rfl rfl ⟨by decide, rfl⟩ rfl ?_
        try dsimp only [Nat.reduceAdd]
        rw [hs]
        refine xS.s1 rfl rfl ?_
        try dsimp only [Nat.reduceAdd]
        refine xS.s1 rfl rfl ?_
        try dsimp only [Nat.reduceAdd]
        rw [nI_add]
        refine xS.s1 rfl rfl ?_
        try dsimp only [Nat.reduceAdd, xj_40]
        refine xS.br (c := .le) (off := 6) (l := 3) rfl rfl (fun h40 => ?_) (fun h40 => ?_)
        · have g40 := xt_le h40
          exfalso; have := (nI_leI (a := m + n) (b := 40) (by omega) (by omega)).mp g40; omega
        · have g40 := xf_le h40
          refine xS.s1 rfl rfl ?_
          try dsimp only [Nat.reduceAdd, xj_m2]
          refine xS.ret rfl rfl rfl (fun _ _ => rfl) ?_
          exact ⟨rfl, rfl⟩
      · have g26 := xf_ne h26
        exact absurd g26 hg
    · have g17 := xf_ne h17
      exfalso; first | exact absurd g17 (by decide) | (simp (disch := omega) only [Int32.lt_iff_toInt_lt, Int32.le_iff_toInt_le, nI_toInt, Int32.reduceToInt] at g17 <;> omega)

set_option maxRecDepth 10000 in
theorem c_X12_lots_ok (hn1 : 1 ≤ n) (hn : n ≤ 20) (hq : 1 ≤ q1) (hq2 : q1 < 2147483647) (hR : xRr g h tx G T Lw) (hG : 0 < G) (hs : g 73 14 = nI m) (hmn : m + n ≤ 40) (hD : xDr g h tx T G Lw F4 m) (hV : xFv h tx T G Lw F4 (m + n)) (hFx : ∀ u, u < n → F4 (4 * (m + u)) = nI (xlot q1 (u + 1) / 8 % 6) ∧ F4 (4 * (m + u) + 1) = nI (xlot q1 (u + 1) % G)) : xT (k + 6) 227 [.ref 73, .int (nI n), .int (nI q1)] (xH b g l) (fun r M' => ∃ S, ((∀ a, a ≠ 73 → a ≠ 84 → a ≠ 85 → S a = g a) ∧ (∀ i, i ≠ 14 → S 73 i = g 73 i) ∧ S 73 14 = nI (m + n) ∧ xDr S h tx T G Lw F4 (m + n)) ∧ M' = xH b S l ∧ r = some (.int (nI (xcnt (fun d => !decide (F4 (4 * (m + d) + 3) = -9)) n)))) := by
  refine xT.of rfl (Nat.le_of_ble_eq_true rfl) ?_
  change xS _ _ 0 [(0, .ref 73), (1, .int (nI n)), (2, .int (nI q1))] [] _ _
  refine xS.s1 rfl rfl ?_
  try dsimp only [Nat.reduceAdd]
  refine xS.s1 rfl rfl ?_
  try dsimp only [Nat.reduceAdd, xi_1]
  refine xS.s1 rfl rfl ?_
  try dsimp only [Nat.reduceAdd, xj_20]
  -- 4 yX12_in
  refine xS.callS rfl rfl rfl ⟨Nat.le_of_ble_eq_true rfl, rfl⟩ (c_in_n1 (s := 1) (m := 20) hn1 hn (by decide)) (fun v M1 hv => ?_)
  rw [hv.1, hv.2]
  clear hv M1 v
  try dsimp only [Nat.reduceAdd, Option.toList, List.cons_append, List.nil_append, List.drop]
  refine xS.br0 (c := .eq) (off := 13) (l := 3) rfl rfl (fun h7 => ?_) (fun h7 => ?_)
  · have g7 := xt_eq h7
    exfalso; first | exact absurd g7 (by decide) | (simp (disch := omega) only [Int32.lt_iff_toInt_lt, Int32.le_iff_toInt_le, nI_toInt, Int32.reduceToInt] at g7 <;> omega)
  · have g7 := xf_eq h7
    refine xS.s1 rfl rfl ?_
    try dsimp only [Nat.reduceAdd]
    refine xS.s1 rfl rfl ?_
    try dsimp only [Nat.reduceAdd, xi_1]
    refine xS.s1 rfl rfl ?_
    try dsimp only [Nat.reduceAdd]
    -- 14 yX12_in
    refine xS.callS rfl rfl rfl ⟨Nat.le_of_ble_eq_true rfl, rfl⟩ (c_in_n1 (s := 1) (m := 2147483646) hq (by omega) (by decide)) (fun v M1 hv => ?_)
    rw [hv.1, hv.2]
    clear hv M1 v
    try dsimp only [Nat.reduceAdd, Option.toList, List.cons_append, List.nil_append, List.drop]
    refine xS.br0 (c := .ne) (off := 5) (l := 3) rfl rfl (fun h17 => ?_) (fun h17 => ?_)
    · have g17 := xt_ne h17
      refine xS.s1 rfl rfl ?_
      try dsimp only [Nat.reduceAdd]
      refine xS.gI rfl rfl rfl ⟨by decide, rfl⟩ rfl ?_
      try dsimp only [Nat.reduceAdd]
      refine xS.br0 (c := .ne) (off := 6) (l := 3) rfl rfl (fun h26 => ?_) (fun h26 => ?_)
      · have g26 := xt_ne h26
        refine xS.s1 rfl rfl ?_
        try dsimp only [Nat.reduceAdd]
        refine xS.gI rfl rfl rfl ⟨by decide, rfl⟩ rfl ?_
        try dsimp only [Nat.reduceAdd]
        rw [hs]
        refine xS.s1 rfl rfl ?_
        try dsimp only [Nat.reduceAdd]
        refine xS.s1 rfl rfl ?_
        try dsimp only [Nat.reduceAdd]
        rw [nI_add]
        refine xS.s1 rfl rfl ?_
        try dsimp only [Nat.reduceAdd, xj_40]
        refine xS.br (c := .le) (off := 6) (l := 3) rfl rfl (fun h40 => ?_) (fun h40 => ?_)
        · have g40 := xt_le h40
          refine xS.s1 rfl rfl ?_
          try dsimp only [Nat.reduceAdd]
          refine xS.s1 rfl rfl ?_
          try dsimp only [Nat.reduceAdd]
          refine xS.s1 rfl rfl ?_
          try dsimp only [Nat.reduceAdd]
          refine xS.s1 rfl rfl ?_
          try dsimp only [Nat.reduceAdd, xi_0]
          refine xS.s1 rfl rfl ?_
          try dsimp only [Nat.reduceAdd]
          refine xS.s1 rfl rfl ?_
          try dsimp only [Nat.reduceAdd, xi_0]
          refine xS.s1 rfl rfl ?_
          try dsimp only [Nat.reduceAdd]
          refine xS.pick [0, 2, 1, 3, 4] rfl ?_
          refine xS.loop (σ := Nat → Nat → Int32) (n) (fun j S => [(6, .int (nI j)), (3, .long (lN (xlot q1 j))), (5, .int (nI (xcnt (fun d => !decide (F4 (4 * (m + d) + 3) = -9)) j))), (0, .ref 73), (1, .int (nI n))]) (fun _ S => xH b S l) (fun j S => (∀ a, a ≠ 73 → a ≠ 84 → a ≠ 85 → S a = g a) ∧ (∀ i, i ≠ 14 → S 73 i = g 73 i) ∧ S 73 14 = nI (m + j) ∧ xDr S h tx T G Lw F4 (m + j)) (g) (by show _ = [_, (3, Value.long (lN q1)), _, _, _]; rw [← nI_l (by omega)]; rfl) (rfl) (⟨fun _ _ _ _ => rfl, fun _ _ => rfl, hs, hD⟩) ?_
          intro j S hj hI ih
          obtain ⟨i1, i2, i3, i4⟩ := hI
          try dsimp only
          have h6 := hR.1.2
          have hRS : xRr S h tx G T Lw := xRr_fr (i2 10 (by decide)) (i2 12 (by decide)) (i1 81 (by decide) (by decide) (by decide)) (i1 82 (by decide) (by decide) (by decide)) (i1 83 (by decide) (by decide) (by decide)) hR
          refine xS.s1 rfl rfl ?_
          try dsimp only [Nat.reduceAdd]
          refine xS.s1 rfl rfl ?_
          try dsimp only [Nat.reduceAdd]
          refine xS.br (c := .ge) (off := 67) (l := 3) rfl rfl (fun h58 => ?_) (fun h58 => ?_)
          · have g58 := xt_ge h58
            have e := xnle g58 (by omega) (by omega)
            have e2 : n = j := by omega
            subst e2
            refine xS.s1 rfl rfl ?_
            try dsimp only [Nat.reduceAdd]
            refine xS.ret rfl rfl rfl (fun _ _ => rfl) ?_
            exact ⟨S, ⟨i1, i2, i3, i4⟩, rfl, rfl⟩
          · have g58 := xf_ge h58
            have hlt := xnlt g58 (by omega) (by omega)
            refine xS.s1 rfl rfl ?_
            try dsimp only [Nat.reduceAdd]
            refine xS.s1 rfl rfl ?_
            try dsimp only [Nat.reduceAdd]
            refine xS.s1 rfl rfl ?_
            try dsimp only [Nat.reduceAdd]
            refine xS.s1 rfl rfl ?_
            try dsimp only [Nat.reduceAdd]
            refine xS.lrem rfl (by decide) ?_
            try dsimp only [Nat.reduceAdd]
            rw [show lN (xlot q1 j) * 48271 = lN (48271 * xlot q1 j) from by rw [Nat.mul_comm]; exact lN_mul _ 48271]
            rw [show lN (48271 * xlot q1 j) - lN (48271 * xlot q1 j) / 2147483647 * 2147483647 = lN (xlot q1 (j + 1)) from pk_lRem (b := 2147483647) (by have := xlot_lt hq2 j; omega) (by omega) (by omega)]
            have hxl := xlot_lt hq2 (j + 1)
            refine xS.s1 rfl rfl ?_
            try dsimp only [Nat.reduceAdd]
            refine xS.s1 rfl rfl ?_
            try dsimp only [Nat.reduceAdd]
            refine xS.s1 rfl rfl ?_
            try dsimp only [Nat.reduceAdd]
            refine xS.s1 rfl rfl ?_
            try dsimp only [Nat.reduceAdd]
            refine xS.gI rfl rfl rfl ⟨by decide, rfl⟩ rfl ?_
            try dsimp only [Nat.reduceAdd]
            refine xS.s1 rfl rfl ?_
            try dsimp only [Nat.reduceAdd]
            rw [i2 10 (by decide), hR.1.1, nI_l (n := G) (by omega)]
            refine xS.lrem rfl (lN_0 hG (by omega)) ?_
            try dsimp only [Nat.reduceAdd]
            rw [pk_lRem (by omega) hG (by omega)]
            refine xS.s1 rfl rfl ?_
            try dsimp only [Nat.reduceAdd]
            rw [lN_i]
            refine xS.s1 rfl rfl ?_
            try dsimp only [Nat.reduceAdd]
            refine xS.s1 rfl rfl ?_
            try dsimp only [Nat.reduceAdd]
            refine xS.ldiv rfl (by decide) ?_
            try dsimp only [Nat.reduceAdd]
            rw [show lN (xlot q1 (j + 1)) / 8 = lN (xlot q1 (j + 1) / 8) from pk_lDiv (b := 8) (by omega) (by omega) (by omega)]
            refine xS.s1 rfl rfl ?_
            try dsimp only [Nat.reduceAdd]
            refine xS.lrem rfl (by decide) ?_
            try dsimp only [Nat.reduceAdd]
            rw [show lN (xlot q1 (j + 1) / 8) - lN (xlot q1 (j + 1) / 8) / 6 * 6 = lN (xlot q1 (j + 1) / 8 % 6) from pk_lRem (b := 6) (by omega) (by omega) (by omega)]
            refine xS.s1 rfl rfl ?_
            try dsimp only [Nat.reduceAdd]
            rw [lN_i]
            -- 90 yX12_doStep
            refine xS.cv rfl rfl rfl rfl rfl rfl ⟨by decide, rfl, rfl⟩ (c_X12_doStep (m := m + j) (F4 := F4) hRS i3 (by omega) i4 (Nat.mod_lt _ hG) (Nat.mod_lt _ (by omega))) (fun v M1 hv => ?_)
            rw [hv.1, hv.2]
            clear hv M1 v
            have hD2 : xDr (up (up (up S 84 (m + j) (nI (xlot q1 (j + 1) / 8 % 6))) 85 (m + j) (nI (xlot q1 (j + 1) % G))) 73 14 (nI (m + j + 1))) h tx T G Lw F4 (m + j + 1) := xDr_nx (fun d hd => hV d (by omega)) i4 (hFx j hlt).1 (hFx j hlt).2 (Nat.mod_lt _ (by omega)) (by have := Nat.mod_lt (xlot q1 (j + 1)) hG; omega) hR.1.2
            have hR2 : xRr (up (up (up S 84 (m + j) (nI (xlot q1 (j + 1) / 8 % 6))) 85 (m + j) (nI (xlot q1 (j + 1) % G))) 73 14 (nI (m + j + 1))) h tx G T Lw := xRr_fr (by rw [up_ne (Or.inr (by decide)), up_na (by decide), up_na (by decide)]; exact i2 10 (by decide)) (by rw [up_ne (Or.inr (by decide)), up_na (by decide), up_na (by decide)]; exact i2 12 (by decide)) (by rw [up_na (by decide), up_na (by decide), up_na (by decide)]; exact i1 81 (by decide) (by decide) (by decide)) (by rw [up_na (by decide), up_na (by decide), up_na (by decide)]; exact i1 82 (by decide) (by decide) (by decide)) (by rw [up_na (by decide), up_na (by decide), up_na (by decide)]; exact i1 83 (by decide) (by decide) (by decide)) hR
            try dsimp only [Nat.reduceAdd, Option.toList, List.cons_append, List.nil_append, List.drop]
            refine xS.s1 rfl rfl ?_
            try dsimp only [Nat.reduceAdd]
            refine xS.s1 rfl rfl ?_
            try dsimp only [Nat.reduceAdd]
            refine xS.s1 rfl rfl ?_
            try dsimp only [Nat.reduceAdd]
            refine xS.s1 rfl rfl ?_
            try dsimp only [Nat.reduceAdd]
            refine xS.gI rfl rfl rfl ⟨by decide, rfl⟩ rfl ?_
            try dsimp only [Nat.reduceAdd]
            rw [up_same]
            refine xS.s1 rfl rfl ?_
            try dsimp only [Nat.reduceAdd, xi_1]
            refine xS.s1 rfl rfl ?_
            try dsimp only [Nat.reduceAdd]
            rw [nI_pred]
            -- 103 yX12_brokenBy
            refine xS.cv rfl rfl rfl rfl rfl rfl ⟨by decide, rfl, rfl⟩ (c_X12_brokenBy (m := m + j + 1) hR2 hD2 (by omega) (by omega)) (fun v M1 hv => ?_)
            rw [hv.1, hv.2]
            clear hv M1 v
            try dsimp only [Nat.reduceAdd, Option.toList, List.cons_append, List.nil_append, List.drop]
            refine xS.s1 rfl rfl ?_
            try dsimp only [Nat.reduceAdd, xj_m9]
            refine xS.br (c := .ne) (off := 7) (l := 3) rfl rfl (fun h108 => ?_) (fun h108 => ?_)
            · have g108 := xt_ne h108
              refine xS.s1 rfl rfl ?_
              try dsimp only [Nat.reduceAdd, xi_1]
              refine xS.s1 rfl rfl ?_
              try dsimp only [Nat.reduceAdd]
              refine xS.s1 rfl rfl ?_
              try dsimp only [Nat.reduceAdd]
              refine xS.s1 rfl rfl ?_
              try dsimp only [Nat.reduceAdd, xi_1]
              rw [nI_1]
              refine xS.s1 rfl rfl ?_
              try dsimp only [Nat.reduceAdd]
              refine xS.pick [0, 2, 1, 3, 4] rfl ?_
              rw [nI_1]
              have ih2 := ih (up (up (up S 84 (m + j) (nI (xlot q1 (j + 1) / 8 % 6))) 85 (m + j) (nI (xlot q1 (j + 1) % G))) 73 14 (nI (m + j + 1))) (by omega) ⟨fun a h1 h2 h3 => by rw [up_na h1, up_na h3, up_na h2, i1 a h1 h2 h3], fun i hi => by rw [up_ne (Or.inr hi), up_na (by decide), up_na (by decide), i2 i hi], up_same .., hD2⟩
              rw [show xcnt (fun d => !decide (F4 (4 * (m + d) + 3) = -9)) (j + 1) = xcnt (fun d => !decide (F4 (4 * (m + d) + 3) = -9)) j + 1 from by simp [xcnt_s, g108]] at ih2
              exact ih2
            · have g108 := xf_ne h108
              refine xS.s1 rfl rfl ?_
              try dsimp only [Nat.reduceAdd, xi_0]
              refine xS.s1 rfl rfl ?_
              try dsimp only [Nat.reduceAdd]
              refine xS.s1 rfl rfl ?_
              try dsimp only [Nat.reduceAdd]
              refine xS.s1 rfl rfl ?_
              try dsimp only [Nat.reduceAdd]
              refine xS.s1 rfl rfl ?_
              try dsimp only [Nat.reduceAdd, xi_1]
              rw [nI_1]
              refine xS.s1 rfl rfl ?_
              try dsimp only [Nat.reduceAdd]
              refine xS.pick [0, 2, 1, 3, 4] rfl ?_
              rw [show nI (xcnt (fun d => !decide (F4 (4 * (m + d) + 3) = -9)) j) + 0 = nI (xcnt (fun d => !decide (F4 (4 * (m + d) + 3) = -9)) j) from nI_add _ 0]
              have ih2 := ih (up (up (up S 84 (m + j) (nI (xlot q1 (j + 1) / 8 % 6))) 85 (m + j) (nI (xlot q1 (j + 1) % G))) 73 14 (nI (m + j + 1))) (by omega) ⟨fun a h1 h2 h3 => by rw [up_na h1, up_na h3, up_na h2, i1 a h1 h2 h3], fun i hi => by rw [up_ne (Or.inr hi), up_na (by decide), up_na (by decide), i2 i hi], up_same .., hD2⟩
              rw [show xcnt (fun d => !decide (F4 (4 * (m + d) + 3) = -9)) (j + 1) = xcnt (fun d => !decide (F4 (4 * (m + d) + 3) = -9)) j from by simp [xcnt_s, g108]] at ih2
              exact ih2
        · have g40 := xf_le h40
          exfalso; have := (nI_ltI (a := 40) (b := m + n) (by omega) (by omega)).mp g40; omega
      · have g26 := xf_ne h26
        rw [hR.1.1] at g26; exact absurd g26 (nI_ne0 hG (by have := hR.1.2; omega))
    · have g17 := xf_ne h17
      exfalso; first | exact absurd g17 (by decide) | (simp (disch := omega) only [Int32.lt_iff_toInt_lt, Int32.le_iff_toInt_le, nI_toInt, Int32.reduceToInt] at g17 <;> omega)

set_option maxRecDepth 10000 in
theorem c_X12_asked  : xT (k + 1) 228 [.ref 73] (xH b g l) (fun r M' => M' = xH b g l ∧ r = some (.int (g 73 20))) := by
  refine xT.of rfl (Nat.le_of_ble_eq_true rfl) ?_
  change xS _ _ 0 [(0, .ref 73)] [] _ _
  refine xS.s1 rfl rfl ?_
  try dsimp only [Nat.reduceAdd]
  refine xS.gI rfl rfl rfl ⟨by decide, rfl⟩ rfl ?_
  try dsimp only [Nat.reduceAdd]
  refine xS.ret rfl rfl rfl (fun _ _ => rfl) ?_
  exact ⟨rfl, rfl⟩

set_option maxRecDepth 10000 in
theorem c_X12_upper  : xT (k + 1) 229 [.ref 73] (xH b g l) (fun r M' => M' = xH b g l ∧ r = some (.long (l 73 21))) := by
  refine xT.of rfl (Nat.le_of_ble_eq_true rfl) ?_
  change xS _ _ 0 [(0, .ref 73)] [] _ _
  refine xS.s1 rfl rfl ?_
  try dsimp only [Nat.reduceAdd]
  refine xS.gL rfl rfl rfl ⟨by decide, rfl⟩ rfl ?_
  try dsimp only [Nat.reduceAdd]
  refine xS.ret rfl rfl rfl (fun _ _ => rfl) ?_
  exact ⟨rfl, rfl⟩

set_option maxRecDepth 10000 in
theorem c_X12_lower  : xT (k + 1) 230 [.ref 73] (xH b g l) (fun r M' => M' = xH b g l ∧ r = some (.long (l 73 22))) := by
  refine xT.of rfl (Nat.le_of_ble_eq_true rfl) ?_
  change xS _ _ 0 [(0, .ref 73)] [] _ _
  refine xS.s1 rfl rfl ?_
  try dsimp only [Nat.reduceAdd]
  refine xS.gL rfl rfl rfl ⟨by decide, rfl⟩ rfl ?_
  try dsimp only [Nat.reduceAdd]
  refine xS.ret rfl rfl rfl (fun _ _ => rfl) ?_
  exact ⟨rfl, rfl⟩

set_option maxRecDepth 10000 in
theorem c_X12_finding  : xT (k + 1) 235 [.ref 73] (xH b g l) (fun r M' => M' = xH b g l ∧ r = some (.int (g 73 23))) := by
  refine xT.of rfl (Nat.le_of_ble_eq_true rfl) ?_
  change xS _ _ 0 [(0, .ref 73)] [] _ _
  refine xS.s1 rfl rfl ?_
  try dsimp only [Nat.reduceAdd]
  refine xS.gI rfl rfl rfl ⟨by decide, rfl⟩ rfl ?_
  try dsimp only [Nat.reduceAdd]
  refine xS.ret rfl rfl rfl (fun _ _ => rfl) ?_
  exact ⟨rfl, rfl⟩

set_option maxRecDepth 10000 in
theorem c_X12_findings_bad (hx : ¬ (1 ≤ x ∧ x ≤ 5)) : xT (k + 2) 236 [.ref 73, .int x] (xH b g l) (fun r M' => M' = xH b g l ∧ r = some (.int (-1))) := by
  refine xT.of rfl (Nat.le_of_ble_eq_true rfl) ?_
  change xS _ _ 0 [(0, .ref 73), (1, .int x)] [] _ _
  refine xS.s1 rfl rfl ?_
  try dsimp only [Nat.reduceAdd]
  refine xS.s1 rfl rfl ?_
  try dsimp only [Nat.reduceAdd, xi_1]
  refine xS.s1 rfl rfl ?_
  try dsimp only [Nat.reduceAdd, xi_5]
  -- 3 yX12_in
  refine xS.callS rfl rfl rfl ⟨Nat.le_of_ble_eq_true rfl, rfl⟩ c_in_x (fun v M1 hv => ?_)
  rw [hv.1, hv.2]
  clear hv M1 v
  try dsimp only [Nat.reduceAdd, Option.toList, List.cons_append, List.nil_append, List.drop]
  refine xS.br0 (c := .eq) (off := 12) (l := 3) rfl rfl (fun h6 => ?_) (fun h6 => ?_)
  · have g6 := xt_eq h6
    refine xS.s1 rfl rfl ?_
    try dsimp only [Nat.reduceAdd, xi_m1]
    refine xS.ret rfl rfl rfl (fun _ _ => rfl) ?_
    exact ⟨rfl, rfl⟩
  · have g6 := xf_eq h6
    exact absurd (xif1 g6) hx

set_option maxRecDepth 10000 in
theorem c_X12_findings_ok (ht1 : 1 ≤ t) (ht : t ≤ 5) : xT (k + 2) 236 [.ref 73, .int (nI t)] (xH b g l) (fun r M' => M' = xH b g l ∧ r = some (.int (g 89 t))) := by
  refine xT.of rfl (Nat.le_of_ble_eq_true rfl) ?_
  change xS _ _ 0 [(0, .ref 73), (1, .int (nI t))] [] _ _
  refine xS.s1 rfl rfl ?_
  try dsimp only [Nat.reduceAdd]
  refine xS.s1 rfl rfl ?_
  try dsimp only [Nat.reduceAdd, xi_1]
  refine xS.s1 rfl rfl ?_
  try dsimp only [Nat.reduceAdd, xi_5]
  -- 3 yX12_in
  refine xS.callS rfl rfl rfl ⟨Nat.le_of_ble_eq_true rfl, rfl⟩ (c_in_n1 (s := 1) (m := 5) ht1 ht (by decide)) (fun v M1 hv => ?_)
  rw [hv.1, hv.2]
  clear hv M1 v
  try dsimp only [Nat.reduceAdd, Option.toList, List.cons_append, List.nil_append, List.drop]
  refine xS.br0 (c := .eq) (off := 12) (l := 3) rfl rfl (fun h6 => ?_) (fun h6 => ?_)
  · have g6 := xt_eq h6
    exfalso; first | exact absurd g6 (by decide) | (simp (disch := omega) only [Int32.lt_iff_toInt_lt, Int32.le_iff_toInt_le, nI_toInt, Int32.reduceToInt] at g6 <;> omega)
  · have g6 := xf_eq h6
    refine xS.s1 rfl rfl ?_
    try dsimp only [Nat.reduceAdd]
    refine xS.gR rfl rfl rfl ⟨by decide, rfl⟩ rfl ?_
    try dsimp only [Nat.reduceAdd]
    refine xS.s1 rfl rfl ?_
    try dsimp only [Nat.reduceAdd]
    refine xS.ia rfl xar_89 (by omega) ?_
    try dsimp only [Nat.reduceAdd]
    refine xS.s1 rfl rfl ?_
    try dsimp only [Nat.reduceAdd]
    refine xS.ret rfl rfl rfl (fun _ _ => rfl) ?_
    exact ⟨rfl, rfl⟩

set_option maxRecDepth 10000 in
theorem c_X12_kindsOf (hR : xRr g h tx G T Lw) (ht1 : 1 ≤ t) (ht : t ≤ 5) : xT (k + 2) 231 [.ref 73, .int (nI t)] (xH b g l) (fun r M' => M' = xH b g l ∧ r = some (.int (nI (xcnt (fun q => xiso (Lw q / 4) (nI t)) G)))) := by
  refine xT.of rfl (Nat.le_of_ble_eq_true rfl) ?_
  change xS _ _ 0 [(0, .ref 73), (1, .int (nI t))] [] _ _
  refine xS.s1 rfl rfl ?_
  try dsimp only [Nat.reduceAdd, xi_0]
  refine xS.s1 rfl rfl ?_
  try dsimp only [Nat.reduceAdd]
  refine xS.s1 rfl rfl ?_
  try dsimp only [Nat.reduceAdd, xi_0]
  refine xS.s1 rfl rfl ?_
  try dsimp only [Nat.reduceAdd]
  refine xS.pick [0, 1, 2, 3] rfl ?_
  refine xS.loop (σ := Unit) (G) (fun j S => [(3, .int (nI j)), (2, .int (nI (xcnt (fun q => xiso (Lw q / 4) (nI t)) j))), (0, .ref 73), (1, .int (nI t))]) (fun _ _ => xH b g l) (fun _ _ => True) (()) (rfl) (rfl) (trivial) ?_
  intro j S hj hI ih
  try dsimp only
  have h6 := hR.1.2
  refine xS.s1 rfl rfl ?_
  try dsimp only [Nat.reduceAdd]
  refine xS.s1 rfl rfl ?_
  try dsimp only [Nat.reduceAdd]
  refine xS.gI rfl rfl rfl ⟨by decide, rfl⟩ rfl ?_
  try dsimp only [Nat.reduceAdd]
  refine xS.br (c := .ge) (off := 32) (l := 3) rfl rfl (fun h9 => ?_) (fun h9 => ?_)
  · have g9 := xt_ge h9
    rw [hR.1.1] at g9
    have e := xnle g9 (by omega) (by omega)
    have e2 : G = j := by omega
    rw [← e2]
    refine xS.s1 rfl rfl ?_
    try dsimp only [Nat.reduceAdd]
    refine xS.ret rfl rfl rfl (fun _ _ => rfl) ?_
    exact ⟨rfl, rfl⟩
  · have g9 := xf_ge h9
    rw [hR.1.1] at g9
    have hlt := xnlt g9 (by omega) (by omega)
    obtain ⟨r1, r2, r3⟩ := hR.2.2.1 j hlt
    refine xS.s1 rfl rfl ?_
    try dsimp only [Nat.reduceAdd]
    refine xS.s1 rfl rfl ?_
    try dsimp only [Nat.reduceAdd]
    refine xS.gR rfl rfl rfl ⟨by decide, rfl⟩ rfl ?_
    try dsimp only [Nat.reduceAdd]
    refine xS.s1 rfl rfl ?_
    try dsimp only [Nat.reduceAdd, xi_2]
    refine xS.s1 rfl rfl ?_
    try dsimp only [Nat.reduceAdd]
    refine xS.s1 rfl rfl ?_
    try dsimp only [Nat.reduceAdd]
    rw [show ((2 * nI j) : Int32) = nI (2 * j) from by simp only [← nI_add, ← pk_mul]; rfl]
    refine xS.ia rfl xar_82 (by omega) ?_
    try dsimp only [Nat.reduceAdd]
    rw [r1]
    refine xS.s1 rfl rfl ?_
    try dsimp only [Nat.reduceAdd]
    -- 22 yX12_isOf
    refine xS.callS rfl rfl rfl ⟨Nat.le_of_ble_eq_true rfl, rfl⟩ (c_X12_isOf (by omega) ht1 ht) (fun v M1 hv => ?_)
    rw [hv.1, hv.2]
    clear hv M1 v
    try dsimp only [Nat.reduceAdd, Option.toList, List.cons_append, List.nil_append, List.drop]
    refine xS.br0 (c := .eq) (off := 7) (l := 3) rfl rfl (fun h25 => ?_) (fun h25 => ?_)
    · have g25 := xt_eq h25
      refine xS.s1 rfl rfl ?_
      try dsimp only [Nat.reduceAdd, xi_0]
      refine xS.s1 rfl rfl ?_
      try dsimp only [Nat.reduceAdd]
      refine xS.s1 rfl rfl ?_
      try dsimp only [Nat.reduceAdd]
      refine xS.s1 rfl rfl ?_
      try dsimp only [Nat.reduceAdd, xi_1]
      rw [nI_1]
      refine xS.s1 rfl rfl ?_
      try dsimp only [Nat.reduceAdd]
      refine xS.pick [0, 1, 2, 3] rfl ?_
      rw [show nI (xcnt (fun q => xiso (Lw q / 4) (nI t)) j) + 0 = nI (xcnt (fun q => xiso (Lw q / 4) (nI t)) j) from nI_add _ 0]
      have e25 := xif0 g25
      have ih2 := ih () (by omega) trivial
      first | (rw [show xcnt (fun q => xiso (Lw q / 4) (nI t)) (j + 1) = xcnt (fun q => xiso (Lw q / 4) (nI t)) j from by simp [xcnt_s, e25]] at ih2; exact ih2) | (rw [show xcnt (fun q => xiso (Lw q / 4) (nI t)) (j + 1) = xcnt (fun q => xiso (Lw q / 4) (nI t)) j + 1 from by simp [xcnt_s, e25]] at ih2; exact ih2)
    · have g25 := xf_eq h25
      refine xS.s1 rfl rfl ?_
      try dsimp only [Nat.reduceAdd, xi_1]
      refine xS.s1 rfl rfl ?_
      try dsimp only [Nat.reduceAdd]
      refine xS.s1 rfl rfl ?_
      try dsimp only [Nat.reduceAdd]
      refine xS.s1 rfl rfl ?_
      try dsimp only [Nat.reduceAdd]
      refine xS.s1 rfl rfl ?_
      try dsimp only [Nat.reduceAdd, xi_1]
      rw [nI_1]
      refine xS.s1 rfl rfl ?_
      try dsimp only [Nat.reduceAdd]
      refine xS.pick [0, 1, 2, 3] rfl ?_
      rw [nI_1]
      have e25 := xif1 g25
      have ih2 := ih () (by omega) trivial
      first | (rw [show xcnt (fun q => xiso (Lw q / 4) (nI t)) (j + 1) = xcnt (fun q => xiso (Lw q / 4) (nI t)) j from by simp [xcnt_s, e25]] at ih2; exact ih2) | (rw [show xcnt (fun q => xiso (Lw q / 4) (nI t)) (j + 1) = xcnt (fun q => xiso (Lw q / 4) (nI t)) j + 1 from by simp [xcnt_s, e25]] at ih2; exact ih2)

theorem xsz_neg {S : Int32} {n : Nat} (hz : xsz S n) (hn : n < 2 ^ 31) : S < 0 ↔ S = -1 := by
  rcases hz with rfl | ⟨m, h1, rfl⟩
  · exact ⟨fun _ => rfl, fun _ => by decide⟩
  · exact ⟨fun z => absurd z (nI_pos (by omega)), fun z => absurd z (nI_nm1 (by omega))⟩

set_option maxRecDepth 10000 in
theorem c_X12_thereOf (hA : xar a n) (hmn : m ≤ n) (hz : ∀ q, q < m → xsz (g a q) 60) : xT (k + 1) 232 [.ref a, .int (nI m)] (xH b g l) (fun r M' => M' = xH b g l ∧ r = some (.int (nI (xcnt (fun q => !decide (g a q = -1)) m)))) := by
  refine xT.of rfl (Nat.le_of_ble_eq_true rfl) ?_
  change xS _ _ 0 [(0, .ref a), (1, .int (nI m))] [] _ _
  refine xS.s1 rfl rfl ?_
  try dsimp only [Nat.reduceAdd, xi_0]
  refine xS.s1 rfl rfl ?_
  try dsimp only [Nat.reduceAdd]
  refine xS.s1 rfl rfl ?_
  try dsimp only [Nat.reduceAdd, xi_0]
  refine xS.s1 rfl rfl ?_
  try dsimp only [Nat.reduceAdd]
  refine xS.pick [0, 1, 2, 3] rfl ?_
  refine xS.loop (σ := Unit) (m) (fun j S => [(3, .int (nI j)), (2, .int (nI (xcnt (fun q => !decide (g a q = -1)) j))), (0, .ref a), (1, .int (nI m))]) (fun _ _ => xH b g l) (fun _ _ => True) (()) (rfl) (rfl) (trivial) ?_
  intro j S hj hI ih
  try dsimp only
  have hA2 := hA.2
  refine xS.s1 rfl rfl ?_
  try dsimp only [Nat.reduceAdd]
  refine xS.s1 rfl rfl ?_
  try dsimp only [Nat.reduceAdd]
  refine xS.br (c := .ge) (off := 23) (l := 3) rfl rfl (fun h6 => ?_) (fun h6 => ?_)
  · have g6 := xt_ge h6
    have e := xnle g6 (by omega) (by omega)
    have e2 : m = j := by omega
    rw [← e2]
    refine xS.s1 rfl rfl ?_
    try dsimp only [Nat.reduceAdd]
    refine xS.ret rfl rfl rfl (fun _ _ => rfl) ?_
    exact ⟨rfl, rfl⟩
  · have g6 := xf_ge h6
    have hlt := xnlt g6 (by omega) (by omega)
    refine xS.s1 rfl rfl ?_
    try dsimp only [Nat.reduceAdd]
    refine xS.s1 rfl rfl ?_
    try dsimp only [Nat.reduceAdd]
    refine xS.s1 rfl rfl ?_
    try dsimp only [Nat.reduceAdd]
    refine xS.ia rfl hA (by omega) ?_
    try dsimp only [Nat.reduceAdd]
    refine xS.br0 (c := .ge) (off := 7) (l := 3) rfl rfl (fun h13 => ?_) (fun h13 => ?_)
    · have g13 := xt_ge h13
      refine xS.s1 rfl rfl ?_
      try dsimp only [Nat.reduceAdd, xi_1]
      refine xS.s1 rfl rfl ?_
      try dsimp only [Nat.reduceAdd]
      refine xS.s1 rfl rfl ?_
      try dsimp only [Nat.reduceAdd]
      refine xS.s1 rfl rfl ?_
      try dsimp only [Nat.reduceAdd, xi_1]
      rw [nI_1]
      refine xS.s1 rfl rfl ?_
      try dsimp only [Nat.reduceAdd]
      refine xS.pick [0, 1, 2, 3] rfl ?_
      rw [nI_1]
      have e13 : ¬ g a j = -1 := fun z => absurd ((xsz_neg (hz j hlt) (by omega)).mpr z) (Int32.not_lt.mpr g13)
      have ih2 := ih () (by omega) trivial
      first | (rw [show xcnt (fun q => !decide (g a q = -1)) (j + 1) = xcnt (fun q => !decide (g a q = -1)) j from by simp [xcnt_s, e13]] at ih2; exact ih2) | (rw [show xcnt (fun q => !decide (g a q = -1)) (j + 1) = xcnt (fun q => !decide (g a q = -1)) j + 1 from by simp [xcnt_s, e13]] at ih2; exact ih2)
    · have g13 := xf_ge h13
      refine xS.s1 rfl rfl ?_
      try dsimp only [Nat.reduceAdd, xi_0]
      refine xS.s1 rfl rfl ?_
      try dsimp only [Nat.reduceAdd]
      refine xS.s1 rfl rfl ?_
      try dsimp only [Nat.reduceAdd]
      refine xS.s1 rfl rfl ?_
      try dsimp only [Nat.reduceAdd]
      refine xS.s1 rfl rfl ?_
      try dsimp only [Nat.reduceAdd, xi_1]
      rw [nI_1]
      refine xS.s1 rfl rfl ?_
      try dsimp only [Nat.reduceAdd]
      refine xS.pick [0, 1, 2, 3] rfl ?_
      rw [show nI (xcnt (fun q => !decide (g a q = -1)) j) + 0 = nI (xcnt (fun q => !decide (g a q = -1)) j) from nI_add _ 0]
      have e13 := (xsz_neg (hz j hlt) (by omega)).mp g13
      have ih2 := ih () (by omega) trivial
      first | (rw [show xcnt (fun q => !decide (g a q = -1)) (j + 1) = xcnt (fun q => !decide (g a q = -1)) j from by simp [xcnt_s, e13]] at ih2; exact ih2) | (rw [show xcnt (fun q => !decide (g a q = -1)) (j + 1) = xcnt (fun q => !decide (g a q = -1)) j + 1 from by simp [xcnt_s, e13]] at ih2; exact ih2)

set_option maxRecDepth 10000 in
theorem c_X12_countOf_0 (hR : xRr g h tx G T Lw) (hD : xDr g h tx T G Lw F4 m) (hm : m ≤ 40) (hs : g 73 14 = nI m) (hz1 : ∀ q, q < 6 → xsz (g 74 q) 60) (hz2 : ∀ q, q < 4 → xsz (g 76 q) 60) (hz3 : ∀ q, q < 3 → xsz (g 86 q) 60) : xT (k + 7) 233 [.ref 73, .int (nI 0)] (xH b g l) (fun r M' => M' = xH b g l ∧ r = some (.int (nI G))) := by
  refine xT.of rfl (Nat.le_of_ble_eq_true rfl) ?_
  change xS _ _ 0 [(0, .ref 73), (1, .int (nI 0))] [] _ _
  refine xS.s1 rfl rfl ?_
  try dsimp only [Nat.reduceAdd]
  refine xS.s1 rfl rfl ?_
  try dsimp only [Nat.reduceAdd]
  refine xS.s1 rfl rfl ?_
  try dsimp only [Nat.reduceAdd]
  refine xS.gI rfl rfl rfl ⟨by decide, rfl⟩ rfl ?_
  try dsimp only [Nat.reduceAdd]
  rw [hR.1.1]
  refine xS.ret rfl rfl rfl (fun _ _ => rfl) ?_
  exact ⟨rfl, rfl⟩

set_option maxRecDepth 10000 in
theorem c_X12_countOf_1 (hR : xRr g h tx G T Lw) (hD : xDr g h tx T G Lw F4 m) (hm : m ≤ 40) (hs : g 73 14 = nI m) (hz1 : ∀ q, q < 6 → xsz (g 74 q) 60) (hz2 : ∀ q, q < 4 → xsz (g 76 q) 60) (hz3 : ∀ q, q < 3 → xsz (g 86 q) 60) : xT (k + 7) 233 [.ref 73, .int (nI 1)] (xH b g l) (fun r M' => M' = xH b g l ∧ r = some (.int (nI T))) := by
  refine xT.of rfl (Nat.le_of_ble_eq_true rfl) ?_
  change xS _ _ 0 [(0, .ref 73), (1, .int (nI 1))] [] _ _
  refine xS.s1 rfl rfl ?_
  try dsimp only [Nat.reduceAdd]
  refine xS.s1 rfl rfl ?_
  try dsimp only [Nat.reduceAdd]
  refine xS.s1 rfl rfl ?_
  try dsimp only [Nat.reduceAdd]
  refine xS.gI rfl rfl rfl ⟨by decide, rfl⟩ rfl ?_
  try dsimp only [Nat.reduceAdd]
  rw [hR.2.1.1]
  refine xS.ret rfl rfl rfl (fun _ _ => rfl) ?_
  exact ⟨rfl, rfl⟩

set_option maxRecDepth 10000 in
theorem c_X12_countOf_2 (hR : xRr g h tx G T Lw) (hD : xDr g h tx T G Lw F4 m) (hm : m ≤ 40) (hs : g 73 14 = nI m) (hz1 : ∀ q, q < 6 → xsz (g 74 q) 60) (hz2 : ∀ q, q < 4 → xsz (g 76 q) 60) (hz3 : ∀ q, q < 3 → xsz (g 86 q) 60) : xT (k + 7) 233 [.ref 73, .int (nI 2)] (xH b g l) (fun r M' => M' = xH b g l ∧ r = some (.int (nI m))) := by
  refine xT.of rfl (Nat.le_of_ble_eq_true rfl) ?_
  change xS _ _ 0 [(0, .ref 73), (1, .int (nI 2))] [] _ _
  refine xS.s1 rfl rfl ?_
  try dsimp only [Nat.reduceAdd]
  refine xS.s1 rfl rfl ?_
  try dsimp only [Nat.reduceAdd]
  refine xS.s1 rfl rfl ?_
  try dsimp only [Nat.reduceAdd]
  refine xS.gI rfl rfl rfl ⟨by decide, rfl⟩ rfl ?_
  try dsimp only [Nat.reduceAdd]
  rw [hs]
  refine xS.ret rfl rfl rfl (fun _ _ => rfl) ?_
  exact ⟨rfl, rfl⟩

set_option maxRecDepth 10000 in
theorem c_X12_countOf_3 (hR : xRr g h tx G T Lw) (hD : xDr g h tx T G Lw F4 m) (hm : m ≤ 40) (hs : g 73 14 = nI m) (hz1 : ∀ q, q < 6 → xsz (g 74 q) 60) (hz2 : ∀ q, q < 4 → xsz (g 76 q) 60) (hz3 : ∀ q, q < 3 → xsz (g 86 q) 60) : xT (k + 7) 233 [.ref 73, .int (nI 3)] (xH b g l) (fun r M' => M' = xH b g l ∧ r = some (.int (nI (xcnt (fun d => !decide (F4 (4 * d + 3) = -9)) m)))) := by
  refine xT.of rfl (Nat.le_of_ble_eq_true rfl) ?_
  change xS _ _ 0 [(0, .ref 73), (1, .int (nI 3))] [] _ _
  refine xS.s1 rfl rfl ?_
  try dsimp only [Nat.reduceAdd]
  refine xS.s1 rfl rfl ?_
  try dsimp only [Nat.reduceAdd]
  refine xS.s1 rfl rfl ?_
  try dsimp only [Nat.reduceAdd]
  -- 68 yX12_brokenMany
  refine xS.cv rfl rfl rfl rfl rfl rfl ⟨by decide, rfl, rfl⟩ (c_X12_brokenMany hR hD hm hs) (fun v M1 hv => ?_)
  rw [hv.1, hv.2]
  clear hv M1 v
  try dsimp only [Nat.reduceAdd, Option.toList, List.cons_append, List.nil_append, List.drop]
  refine xS.ret rfl rfl rfl (fun _ _ => rfl) ?_
  exact ⟨rfl, rfl⟩

set_option maxRecDepth 10000 in
theorem c_X12_countOf_4 (hR : xRr g h tx G T Lw) (hD : xDr g h tx T G Lw F4 m) (hm : m ≤ 40) (hs : g 73 14 = nI m) (hz1 : ∀ q, q < 6 → xsz (g 74 q) 60) (hz2 : ∀ q, q < 4 → xsz (g 76 q) 60) (hz3 : ∀ q, q < 3 → xsz (g 86 q) 60) : xT (k + 7) 233 [.ref 73, .int (nI 4)] (xH b g l) (fun r M' => M' = xH b g l ∧ r = some (.int (nI (xcnt (fun q => xiso (Lw q / 4) 1) G)))) := by
  refine xT.of rfl (Nat.le_of_ble_eq_true rfl) ?_
  change xS _ _ 0 [(0, .ref 73), (1, .int (nI 4))] [] _ _
  refine xS.s1 rfl rfl ?_
  try dsimp only [Nat.reduceAdd]
  refine xS.s1 rfl rfl ?_
  try dsimp only [Nat.reduceAdd]
  refine xS.s1 rfl rfl ?_
  try dsimp only [Nat.reduceAdd]
  refine xS.s1 rfl rfl ?_
  try dsimp only [Nat.reduceAdd, xi_1]
  -- 74 yX12_kindsOf
  refine xS.cv rfl rfl rfl rfl rfl rfl ⟨by decide, rfl, rfl⟩ (c_X12_kindsOf (t := 1) hR (by decide) (by decide)) (fun v M1 hv => ?_)
  rw [hv.1, hv.2]
  clear hv M1 v
  try dsimp only [Nat.reduceAdd, Option.toList, List.cons_append, List.nil_append, List.drop]
  refine xS.ret rfl rfl rfl (fun _ _ => rfl) ?_
  exact ⟨rfl, rfl⟩

set_option maxRecDepth 10000 in
theorem c_X12_countOf_5 (hR : xRr g h tx G T Lw) (hD : xDr g h tx T G Lw F4 m) (hm : m ≤ 40) (hs : g 73 14 = nI m) (hz1 : ∀ q, q < 6 → xsz (g 74 q) 60) (hz2 : ∀ q, q < 4 → xsz (g 76 q) 60) (hz3 : ∀ q, q < 3 → xsz (g 86 q) 60) : xT (k + 7) 233 [.ref 73, .int (nI 5)] (xH b g l) (fun r M' => M' = xH b g l ∧ r = some (.int (nI (xcnt (fun q => xiso (Lw q / 4) 2) G)))) := by
  refine xT.of rfl (Nat.le_of_ble_eq_true rfl) ?_
  change xS _ _ 0 [(0, .ref 73), (1, .int (nI 5))] [] _ _
  refine xS.s1 rfl rfl ?_
  try dsimp only [Nat.reduceAdd]
  refine xS.s1 rfl rfl ?_
  try dsimp only [Nat.reduceAdd]
  refine xS.s1 rfl rfl ?_
  try dsimp only [Nat.reduceAdd]
  refine xS.s1 rfl rfl ?_
  try dsimp only [Nat.reduceAdd, xi_2]
  -- 80 yX12_kindsOf
  refine xS.cv rfl rfl rfl rfl rfl rfl ⟨by decide, rfl, rfl⟩ (c_X12_kindsOf (t := 2) hR (by decide) (by decide)) (fun v M1 hv => ?_)
  rw [hv.1, hv.2]
  clear hv M1 v
  try dsimp only [Nat.reduceAdd, Option.toList, List.cons_append, List.nil_append, List.drop]
  refine xS.ret rfl rfl rfl (fun _ _ => rfl) ?_
  exact ⟨rfl, rfl⟩

set_option maxRecDepth 10000 in
theorem c_X12_countOf_6 (hR : xRr g h tx G T Lw) (hD : xDr g h tx T G Lw F4 m) (hm : m ≤ 40) (hs : g 73 14 = nI m) (hz1 : ∀ q, q < 6 → xsz (g 74 q) 60) (hz2 : ∀ q, q < 4 → xsz (g 76 q) 60) (hz3 : ∀ q, q < 3 → xsz (g 86 q) 60) : xT (k + 7) 233 [.ref 73, .int (nI 6)] (xH b g l) (fun r M' => M' = xH b g l ∧ r = some (.int (nI (xcnt (fun q => !decide (g 74 q = -1)) 6)))) := by
  refine xT.of rfl (Nat.le_of_ble_eq_true rfl) ?_
  change xS _ _ 0 [(0, .ref 73), (1, .int (nI 6))] [] _ _
  refine xS.s1 rfl rfl ?_
  try dsimp only [Nat.reduceAdd]
  refine xS.s1 rfl rfl ?_
  try dsimp only [Nat.reduceAdd]
  refine xS.s1 rfl rfl ?_
  try dsimp only [Nat.reduceAdd]
  refine xS.gR rfl rfl rfl ⟨by decide, rfl⟩ rfl ?_
  try dsimp only [Nat.reduceAdd]
  refine xS.s1 rfl rfl ?_
  try dsimp only [Nat.reduceAdd, xj_6]
  -- 90 yX12_thereOf
  refine xS.callS rfl rfl rfl ⟨Nat.le_of_ble_eq_true rfl, rfl⟩ (c_X12_thereOf (m := 6) xar_74 (by decide) hz1) (fun v M1 hv => ?_)
  rw [hv.1, hv.2]
  clear hv M1 v
  try dsimp only [Nat.reduceAdd, Option.toList, List.cons_append, List.nil_append, List.drop]
  refine xS.ret rfl rfl rfl (fun _ _ => rfl) ?_
  exact ⟨rfl, rfl⟩

set_option maxRecDepth 10000 in
theorem c_X12_countOf_7 (hR : xRr g h tx G T Lw) (hD : xDr g h tx T G Lw F4 m) (hm : m ≤ 40) (hs : g 73 14 = nI m) (hz1 : ∀ q, q < 6 → xsz (g 74 q) 60) (hz2 : ∀ q, q < 4 → xsz (g 76 q) 60) (hz3 : ∀ q, q < 3 → xsz (g 86 q) 60) : xT (k + 7) 233 [.ref 73, .int (nI 7)] (xH b g l) (fun r M' => M' = xH b g l ∧ r = some (.int (nI (xcnt (fun q => !decide (g 76 q = -1)) 4)))) := by
  refine xT.of rfl (Nat.le_of_ble_eq_true rfl) ?_
  change xS _ _ 0 [(0, .ref 73), (1, .int (nI 7))] [] _ _
  refine xS.s1 rfl rfl ?_
  try dsimp only [Nat.reduceAdd]
  refine xS.s1 rfl rfl ?_
  try dsimp only [Nat.reduceAdd]
  refine xS.s1 rfl rfl ?_
  try dsimp only [Nat.reduceAdd]
  refine xS.gR rfl rfl rfl ⟨by decide, rfl⟩ rfl ?_
  try dsimp only [Nat.reduceAdd]
  refine xS.s1 rfl rfl ?_
  try dsimp only [Nat.reduceAdd, xi_4]
  -- 99 yX12_thereOf
  refine xS.callS rfl rfl rfl ⟨Nat.le_of_ble_eq_true rfl, rfl⟩ (c_X12_thereOf (m := 4) xar_76 (by decide) hz2) (fun v M1 hv => ?_)
  rw [hv.1, hv.2]
  clear hv M1 v
  try dsimp only [Nat.reduceAdd, Option.toList, List.cons_append, List.nil_append, List.drop]
  refine xS.ret rfl rfl rfl (fun _ _ => rfl) ?_
  exact ⟨rfl, rfl⟩

set_option maxRecDepth 10000 in
theorem c_X12_countOf_8 (hR : xRr g h tx G T Lw) (hD : xDr g h tx T G Lw F4 m) (hm : m ≤ 40) (hs : g 73 14 = nI m) (hz1 : ∀ q, q < 6 → xsz (g 74 q) 60) (hz2 : ∀ q, q < 4 → xsz (g 76 q) 60) (hz3 : ∀ q, q < 3 → xsz (g 86 q) 60) : xT (k + 7) 233 [.ref 73, .int (nI 8)] (xH b g l) (fun r M' => M' = xH b g l ∧ r = some (.int (nI (xcnt (fun q => !decide (g 86 q = -1)) 3)))) := by
  refine xT.of rfl (Nat.le_of_ble_eq_true rfl) ?_
  change xS _ _ 0 [(0, .ref 73), (1, .int (nI 8))] [] _ _
  refine xS.s1 rfl rfl ?_
  try dsimp only [Nat.reduceAdd]
  refine xS.s1 rfl rfl ?_
  try dsimp only [Nat.reduceAdd]
  refine xS.s1 rfl rfl ?_
  try dsimp only [Nat.reduceAdd]
  refine xS.gR rfl rfl rfl ⟨by decide, rfl⟩ rfl ?_
  try dsimp only [Nat.reduceAdd]
  refine xS.s1 rfl rfl ?_
  try dsimp only [Nat.reduceAdd, xi_3]
  -- 108 yX12_thereOf
  refine xS.callS rfl rfl rfl ⟨Nat.le_of_ble_eq_true rfl, rfl⟩ (c_X12_thereOf (m := 3) xar_86 (by decide) hz3) (fun v M1 hv => ?_)
  rw [hv.1, hv.2]
  clear hv M1 v
  try dsimp only [Nat.reduceAdd, Option.toList, List.cons_append, List.nil_append, List.drop]
  refine xS.ret rfl rfl rfl (fun _ _ => rfl) ?_
  exact ⟨rfl, rfl⟩

def xctr (g : Nat → Nat → Int32) (F4 : Nat → Int32) (G T m : Nat) (Lw : Nat → Nat) (t : Nat) : Int32 := if t = 0 then nI G else if t = 1 then nI T else if t = 2 then nI m else if t = 3 then nI (xcnt (fun d => !decide (F4 (4 * d + 3) = -9)) m) else if t = 4 then nI (xcnt (fun q => xiso (Lw q / 4) 1) G) else if t = 5 then nI (xcnt (fun q => xiso (Lw q / 4) 2) G) else if t = 6 then nI (xcnt (fun q => !decide (g 74 q = -1)) 6) else if t = 7 then nI (xcnt (fun q => !decide (g 76 q = -1)) 4) else nI (xcnt (fun q => !decide (g 86 q = -1)) 3)
theorem c_X12_countOf (hR : xRr g h tx G T Lw) (hD : xDr g h tx T G Lw F4 m) (hm : m ≤ 40) (hs : g 73 14 = nI m) (hz1 : ∀ q, q < 6 → xsz (g 74 q) 60) (hz2 : ∀ q, q < 4 → xsz (g 76 q) 60) (hz3 : ∀ q, q < 3 → xsz (g 86 q) 60) : ∀ {t : Nat}, t < 9 → xT (k + 7) 233 [.ref 73, .int (nI t)] (xH b g l) (fun r M' => M' = xH b g l ∧ r = some (.int (xctr g F4 G T m Lw t)))
  | 0, _ => c_X12_countOf_0 hR hD hm hs hz1 hz2 hz3
  | 1, _ => c_X12_countOf_1 hR hD hm hs hz1 hz2 hz3
  | 2, _ => c_X12_countOf_2 hR hD hm hs hz1 hz2 hz3
  | 3, _ => c_X12_countOf_3 hR hD hm hs hz1 hz2 hz3
  | 4, _ => c_X12_countOf_4 hR hD hm hs hz1 hz2 hz3
  | 5, _ => c_X12_countOf_5 hR hD hm hs hz1 hz2 hz3
  | 6, _ => c_X12_countOf_6 hR hD hm hs hz1 hz2 hz3
  | 7, _ => c_X12_countOf_7 hR hD hm hs hz1 hz2 hz3
  | 8, _ => c_X12_countOf_8 hR hD hm hs hz1 hz2 hz3
  | _ + 9, h => absurd h (by omega)
set_option maxRecDepth 10000 in
theorem c_X12_countOf_bad (hx : ¬ (0 ≤ x ∧ x < 9)) : xT (k + 7) 233 [.ref 73, .int x] (xH b g l) (fun r M' => M' = xH b g l ∧ r = some (.int (-1))) := by
  refine xT.of rfl (Nat.le_of_ble_eq_true rfl) ?_
  change xS _ _ 0 [(0, .ref 73), (1, .int x)] [] _ _
  refine xS.s1 rfl rfl ?_
  try dsimp only [Nat.reduceAdd]
  refine xS.tsd (t := 112) rfl (by simp only [Int32.le_iff_toInt_le, Int32.lt_iff_toInt_lt, Int32.reduceToInt] at hx; omega) rfl ?_
  try dsimp only [Nat.reduceAdd]
  refine xS.s1 rfl rfl ?_
  try dsimp only [Nat.reduceAdd, xi_m1]
  refine xS.ret rfl rfl rfl (fun _ _ => rfl) ?_
  exact ⟨rfl, rfl⟩

set_option maxRecDepth 10000 in
theorem c_X12_count_bad (hx : ¬ (0 ≤ x ∧ x < 9)) : xT (k + 8) 234 [.ref 73, .int x] (xH b g l) (fun r M' => M' = xH b g l ∧ r = some (.int (-1))) := by
  refine xT.of rfl (Nat.le_of_ble_eq_true rfl) ?_
  change xS _ _ 0 [(0, .ref 73), (1, .int x)] [] _ _
  refine xS.s1 rfl rfl ?_
  try dsimp only [Nat.reduceAdd]
  refine xS.s1 rfl rfl ?_
  try dsimp only [Nat.reduceAdd]
  -- 2 yX12_countOf
  refine xS.cv rfl rfl rfl rfl rfl rfl ⟨by decide, rfl, rfl⟩ (c_X12_countOf_bad hx) (fun v M1 hv => ?_)
  rw [hv.1, hv.2]
  clear hv M1 v
  try dsimp only [Nat.reduceAdd, Option.toList, List.cons_append, List.nil_append, List.drop]
  refine xS.ret rfl rfl rfl (fun _ _ => rfl) ?_
  exact ⟨rfl, rfl⟩

set_option maxRecDepth 10000 in
theorem c_X12_count_ok (hR : xRr g h tx G T Lw) (hD : xDr g h tx T G Lw F4 m) (hm : m ≤ 40) (hs : g 73 14 = nI m) (hz1 : ∀ q, q < 6 → xsz (g 74 q) 60) (hz2 : ∀ q, q < 4 → xsz (g 76 q) 60) (hz3 : ∀ q, q < 3 → xsz (g 86 q) 60) (ht : t < 9) : xT (k + 8) 234 [.ref 73, .int (nI t)] (xH b g l) (fun r M' => M' = xH b g l ∧ r = some (.int (xctr g F4 G T m Lw t))) := by
  refine xT.of rfl (Nat.le_of_ble_eq_true rfl) ?_
  change xS _ _ 0 [(0, .ref 73), (1, .int (nI t))] [] _ _
  refine xS.s1 rfl rfl ?_
  try dsimp only [Nat.reduceAdd]
  refine xS.s1 rfl rfl ?_
  try dsimp only [Nat.reduceAdd]
  -- 2 yX12_countOf
  refine xS.cv rfl rfl rfl rfl rfl rfl ⟨by decide, rfl, rfl⟩ (c_X12_countOf hR hD hm hs hz1 hz2 hz3 ht) (fun v M1 hv => ?_)
  rw [hv.1, hv.2]
  clear hv M1 v
  try dsimp only [Nat.reduceAdd, Option.toList, List.cons_append, List.nil_append, List.drop]
  refine xS.ret rfl rfl rfl (fun _ _ => rfl) ?_
  exact ⟨rfl, rfl⟩

set_option maxRecDepth 10000 in
theorem c_X12_add  : xT (k + 1) 237 [.ref 73, .int x] (xH b g (up l 73 31 u)) (fun r M' => M' = xH b g (up l 73 31 (xdg u x)) ∧ r = none) := by
  refine xT.of rfl (Nat.le_of_ble_eq_true rfl) ?_
  change xS _ _ 0 [(0, .ref 73), (1, .int x)] [] _ _
  refine xS.s1 rfl rfl ?_
  try dsimp only [Nat.reduceAdd]
  refine xS.s1 rfl rfl ?_
  try dsimp only [Nat.reduceAdd]
  refine xS.s1 rfl rfl ?_
  try dsimp only [Nat.reduceAdd]
  refine xS.gL rfl rfl rfl ⟨by decide, rfl⟩ rfl ?_
  try dsimp only [Nat.reduceAdd]
  refine xS.s1 rfl rfl ?_
  try dsimp only [Nat.reduceAdd]
  refine xS.s1 rfl rfl ?_
  try dsimp only [Nat.reduceAdd]
  refine xS.s1 rfl rfl ?_
  try dsimp only [Nat.reduceAdd]
  refine xS.s1 rfl rfl ?_
  try dsimp only [Nat.reduceAdd]
  refine xS.pL rfl rfl rfl ⟨⟨by decide, rfl⟩, rfl, by decide, by decide⟩ rfl ?_
  try dsimp only [Nat.reduceAdd]
  refine xS.ret rfl rfl rfl (fun _ _ => rfl) ?_
  rw [up_same, up_up]
  exact ⟨rfl, rfl⟩

end
