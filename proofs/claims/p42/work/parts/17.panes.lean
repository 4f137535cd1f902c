/-! counts, firsts; panes; what a room tells -/
def xcnt (p : Nat → Bool) (n : Nat) : Nat := Nat.rec (motive := fun _ => Nat) 0 (fun j c => bif p j then c + 1 else c) n
theorem xcnt_0 (p : Nat → Bool) : xcnt p 0 = 0 := rfl
theorem xcnt_s (p : Nat → Bool) (n : Nat) : xcnt p (n + 1) = bif p n then xcnt p n + 1 else xcnt p n := rfl
theorem xcnt_le (p : Nat → Bool) : ∀ n, xcnt p n ≤ n
  | 0 => Nat.le_refl 0
  | n + 1 => by
    have := xcnt_le p n
    rw [xcnt_s]
    cases p n <;> simp only [cond_true, cond_false] <;> omega
def xfst (p : Nat → Bool) (n : Nat) : Option Nat := Nat.rec (motive := fun _ => Option Nat) none (fun j o => match o with
  | some d => some d
  | none => bif p j then some j else none) n
theorem xfst_0 (p : Nat → Bool) : xfst p 0 = none := rfl
theorem xfst_s (p : Nat → Bool) (n : Nat) : xfst p (n + 1) = (match xfst p n with
  | some d => some d
  | none => bif p n then some n else none) := rfl
theorem xfst_n {p : Nat → Bool} {n : Nat} (h : xfst p n = none) (hp : p n = false) : xfst p (n + 1) = none := by
  rw [xfst_s, h, hp]
  rfl
theorem xfst_up {p : Nat → Bool} {j d : Nat} (h : xfst p j = some d) : ∀ t, xfst p (j + t) = some d
  | 0 => h
  | t + 1 => by
    show xfst p (j + t + 1) = _
    rw [xfst_s, xfst_up h t]
theorem xfst_at {p : Nat → Bool} {j m : Nat} (h : xfst p j = none) (hp : p j = true) (hm : j < m) : xfst p m = some j := by
  have h1 : xfst p (j + 1) = some j := by
    rw [xfst_s, h, hp]
    rfl
  have h2 := xfst_up h1 (m - (j + 1))
  rwa [show j + 1 + (m - (j + 1)) = m by omega] at h2
def xfI (o : Option Nat) : Int32 := match o with
  | none => -9
  | some d => nI d

section
variable {k a c n n2 m t p s d i1 j1 : Nat} {b : Nat × Nat} {g : Nat → Nat → Int32} {l : Nat → Nat → Int64} {i j x y z v w : Int32} {u w1 w2 : Int64}

set_option maxRecDepth 10000 in
theorem c_X2_howManyBefore (hC : xde a) (hs : g a 1 = nI m) (hm : m ≤ 40) : xT (k + 2) 32 [.ref a, .int x] (xH b g l) (fun r M' => M' = xH b g l ∧ r = some (.int (nI (xcnt (fun d => decide (g (a + 1) (4 * d + 1) = x)) m)))) := by
  refine xT.of rfl (Nat.le_of_ble_eq_true rfl) ?_
  dsimp only [lv_args]
  refine xS.s1 rfl rfl ?_
  try dsimp only [Nat.reduceAdd, xi_0]
  refine xS.s1 rfl rfl ?_
  try dsimp only [Nat.reduceAdd]
  refine xS.s1 rfl rfl ?_
  try dsimp only [Nat.reduceAdd, xi_0]
  refine xS.s1 rfl rfl ?_
  try dsimp only [Nat.reduceAdd]
  refine xS.pick [0, 1, 2, 3] rfl ?_
  refine xS.loop (σ := Unit) (m) (fun j S => [(3, .int (nI j)), (2, .int (nI (xcnt (fun d => decide (g (a + 1) (4 * d + 1) = x)) j))), (0, .ref a), (1, .int x)]) (fun _ _ => xH b g l) (fun _ _ => True) (()) (rfl) (rfl) (trivial) ?_
  intro j S hj hI ih
  try dsimp only
  refine xS.s1 rfl rfl ?_
  try dsimp only [Nat.reduceAdd]
  refine xS.s1 rfl rfl ?_
  try dsimp only [Nat.reduceAdd]
  refine xS.gI rfl (hC.1 _) rfl ⟨by decide, rfl⟩ rfl ?_
  try dsimp only [Nat.reduceAdd]
  refine xS.br (c := .ge) (off := 22) (l := 3) rfl rfl (fun h9 => ?_) (fun h9 => ?_)
  · have g9 := xt_ge h9
    refine xS.s1 rfl rfl ?_
    try dsimp only [Nat.reduceAdd]
    refine xS.ret rfl rfl rfl (fun _ _ => rfl) ?_
    rw [hs] at g9
    have e := xnle g9 (by omega) (by omega)
    rw [show m = j by omega]
    exact ⟨rfl, rfl⟩
  · have g9 := xf_ge h9
    rw [hs] at g9
    have hlt := xnlt g9 (by omega) (by omega)
    refine xS.s1 rfl rfl ?_
    try dsimp only [Nat.reduceAdd]
    refine xS.s1 rfl rfl ?_
    try dsimp only [Nat.reduceAdd]
    refine xS.s1 rfl rfl ?_
    try dsimp only [Nat.reduceAdd, xi_1]
    -- 15 yX2_fact
    refine xS.cv rfl rfl rfl (hC.1 _) rfl rfl ⟨by decide, rfl, rfl⟩ (c_X2_fact (t := 1) hC hs hm hlt (by decide)) (fun v M1 hv => ?_)
    rw [hv.1, hv.2]
    clear hv M1 v
    try dsimp only [Nat.reduceAdd, Option.toList, List.cons_append, List.nil_append, List.drop]
    refine xS.s1 rfl rfl ?_
    try dsimp only [Nat.reduceAdd]
    refine xS.br (c := .ne) (off := 6) (l := 3) rfl rfl (fun h19 => ?_) (fun h19 => ?_)
    · have g19 := xt_ne h19
      refine xS.s1 rfl rfl ?_
      try dsimp only [Nat.reduceAdd, xi_1]
      rw [nI_1]
      refine xS.s1 rfl rfl ?_
      try dsimp only [Nat.reduceAdd]
      refine xS.pick [0, 1, 2, 3] rfl ?_
      have ih2 := ih () (by omega) trivial
      first | (rw [show xcnt (fun d => decide (g (a + 1) (4 * d + 1) = x)) (j + 1) = xcnt (fun d => decide (g (a + 1) (4 * d + 1) = x)) j from by simp [xcnt_s, g9, g19]] at ih2; exact ih2) | (rw [show xcnt (fun d => decide (g (a + 1) (4 * d + 1) = x)) (j + 1) = xcnt (fun d => decide (g (a + 1) (4 * d + 1) = x)) j + 1 from by simp [xcnt_s, g9, g19]] at ih2; exact ih2)
    · have g19 := xf_ne h19
      refine xS.s1 rfl rfl ?_
      try dsimp only [Nat.reduceAdd, xi_1]
      rw [nI_1]
      refine xS.s1 rfl rfl ?_
      try dsimp only [Nat.reduceAdd, xi_1]
      rw [nI_1]
      refine xS.s1 rfl rfl ?_
      try dsimp only [Nat.reduceAdd]
      refine xS.pick [0, 1, 2, 3] rfl ?_
      have ih2 := ih () (by omega) trivial
      first | (rw [show xcnt (fun d => decide (g (a + 1) (4 * d + 1) = x)) (j + 1) = xcnt (fun d => decide (g (a + 1) (4 * d + 1) = x)) j from by simp [xcnt_s, g9, g19]] at ih2; exact ih2) | (rw [show xcnt (fun d => decide (g (a + 1) (4 * d + 1) = x)) (j + 1) = xcnt (fun d => decide (g (a + 1) (4 * d + 1) = x)) j + 1 from by simp [xcnt_s, g9, g19]] at ih2; exact ih2)

set_option maxRecDepth 10000 in
theorem c_X2_howManyBrokeBefore (hC : xde a) (hs : g a 1 = nI m) (hm : m ≤ 40) : xT (k + 2) 33 [.ref a, .int x] (xH b g l) (fun r M' => M' = xH b g l ∧ r = some (.int (nI (xcnt (fun d => decide (g (a + 1) (4 * d + 1) = x) && !decide (g (a + 1) (4 * d + 3) = -9)) m)))) := by
  refine xT.of rfl (Nat.le_of_ble_eq_true rfl) ?_
  dsimp only [lv_args]
  refine xS.s1 rfl rfl ?_
  try dsimp only [Nat.reduceAdd, xi_0]
  refine xS.s1 rfl rfl ?_
  try dsimp only [Nat.reduceAdd]
  refine xS.s1 rfl rfl ?_
  try dsimp only [Nat.reduceAdd, xi_0]
  refine xS.s1 rfl rfl ?_
  try dsimp only [Nat.reduceAdd]
  refine xS.pick [0, 1, 2, 3] rfl ?_
  refine xS.loop (σ := Unit) (m) (fun j S => [(3, .int (nI j)), (2, .int (nI (xcnt (fun d => decide (g (a + 1) (4 * d + 1) = x) && !decide (g (a + 1) (4 * d + 3) = -9)) j))), (0, .ref a), (1, .int x)]) (fun _ _ => xH b g l) (fun _ _ => True) (()) (rfl) (rfl) (trivial) ?_
  intro j S hj hI ih
  try dsimp only
  refine xS.s1 rfl rfl ?_
  try dsimp only [Nat.reduceAdd]
  refine xS.s1 rfl rfl ?_
  try dsimp only [Nat.reduceAdd]
  refine xS.gI rfl (hC.1 _) rfl ⟨by decide, rfl⟩ rfl ?_
  try dsimp only [Nat.reduceAdd]
  refine xS.br (c := .ge) (off := 33) (l := 3) rfl rfl (fun h9 => ?_) (fun h9 => ?_)
  · have g9 := xt_ge h9
    refine xS.s1 rfl rfl ?_
    try dsimp only [Nat.reduceAdd]
    refine xS.ret rfl rfl rfl (fun _ _ => rfl) ?_
    rw [hs] at g9
    have e := xnle g9 (by omega) (by omega)
    rw [show m = j by omega]
    exact ⟨rfl, rfl⟩
  · have g9 := xf_ge h9
    rw [hs] at g9
    have hlt := xnlt g9 (by omega) (by omega)
    refine xS.s1 rfl rfl ?_
    try dsimp only [Nat.reduceAdd]
    refine xS.s1 rfl rfl ?_
    try dsimp only [Nat.reduceAdd]
    refine xS.s1 rfl rfl ?_
    try dsimp only [Nat.reduceAdd, xi_1]
    -- 15 yX2_fact
    refine xS.cv rfl rfl rfl (hC.1 _) rfl rfl ⟨by decide, rfl, rfl⟩ (c_X2_fact (t := 1) hC hs hm hlt (by decide)) (fun v M1 hv => ?_)
    rw [hv.1, hv.2]
    clear hv M1 v
    try dsimp only [Nat.reduceAdd, Option.toList, List.cons_append, List.nil_append, List.drop]
    refine xS.s1 rfl rfl ?_
    try dsimp only [Nat.reduceAdd]
    refine xS.br (c := .ne) (off := 17) (l := 3) rfl rfl (fun h19 => ?_) (fun h19 => ?_)
    · have g19 := xt_ne h19
      refine xS.s1 rfl rfl ?_
      try dsimp only [Nat.reduceAdd, xi_1]
      rw [nI_1]
      refine xS.s1 rfl rfl ?_
      try dsimp only [Nat.reduceAdd]
      refine xS.pick [0, 1, 2, 3] rfl ?_
      have ih2 := ih () (by omega) trivial
      first | (rw [show xcnt (fun d => decide (g (a + 1) (4 * d + 1) = x) && !decide (g (a + 1) (4 * d + 3) = -9)) (j + 1) = xcnt (fun d => decide (g (a + 1) (4 * d + 1) = x) && !decide (g (a + 1) (4 * d + 3) = -9)) j from by simp [xcnt_s, g9, g19]] at ih2; exact ih2) | (rw [show xcnt (fun d => decide (g (a + 1) (4 * d + 1) = x) && !decide (g (a + 1) (4 * d + 3) = -9)) (j + 1) = xcnt (fun d => decide (g (a + 1) (4 * d + 1) = x) && !decide (g (a + 1) (4 * d + 3) = -9)) j + 1 from by simp [xcnt_s, g9, g19]] at ih2; exact ih2)
    · have g19 := xf_ne h19
      refine xS.s1 rfl rfl ?_
      try dsimp only [Nat.reduceAdd]
      refine xS.s1 rfl rfl ?_
      try dsimp only [Nat.reduceAdd]
      refine xS.s1 rfl rfl ?_
      try dsimp only [Nat.reduceAdd, xi_3]
      -- 25 yX2_fact
      refine xS.cv rfl rfl rfl (hC.1 _) rfl rfl ⟨by decide, rfl, rfl⟩ (c_X2_fact (t := 3) hC hs hm hlt (by decide)) (fun v M1 hv => ?_)
      rw [hv.1, hv.2]
      clear hv M1 v
      try dsimp only [Nat.reduceAdd, Option.toList, List.cons_append, List.nil_append, List.drop]
      refine xS.s1 rfl rfl ?_
      try dsimp only [Nat.reduceAdd, xj_m9]
      refine xS.br (c := .eq) (off := 6) (l := 3) rfl rfl (fun h30 => ?_) (fun h30 => ?_)
      · have g30 := xt_eq h30
        refine xS.s1 rfl rfl ?_
        try dsimp only [Nat.reduceAdd, xi_1]
        rw [nI_1]
        refine xS.s1 rfl rfl ?_
        try dsimp only [Nat.reduceAdd]
        refine xS.pick [0, 1, 2, 3] rfl ?_
        have ih2 := ih () (by omega) trivial
        first | (rw [show xcnt (fun d => decide (g (a + 1) (4 * d + 1) = x) && !decide (g (a + 1) (4 * d + 3) = -9)) (j + 1) = xcnt (fun d => decide (g (a + 1) (4 * d + 1) = x) && !decide (g (a + 1) (4 * d + 3) = -9)) j from by simp [xcnt_s, g9, g19, g30]] at ih2; exact ih2) | (rw [show xcnt (fun d => decide (g (a + 1) (4 * d + 1) = x) && !decide (g (a + 1) (4 * d + 3) = -9)) (j + 1) = xcnt (fun d => decide (g (a + 1) (4 * d + 1) = x) && !decide (g (a + 1) (4 * d + 3) = -9)) j + 1 from by simp [xcnt_s, g9, g19, g30]] at ih2; exact ih2)
      · have g30 := xf_eq h30
        refine xS.s1 rfl rfl ?_
        try dsimp only [Nat.reduceAdd, xi_1]
        rw [nI_1]
        refine xS.s1 rfl rfl ?_
        try dsimp only [Nat.reduceAdd, xi_1]
        rw [nI_1]
        refine xS.s1 rfl rfl ?_
        try dsimp only [Nat.reduceAdd]
        refine xS.pick [0, 1, 2, 3] rfl ?_
        have ih2 := ih () (by omega) trivial
        first | (rw [show xcnt (fun d => decide (g (a + 1) (4 * d + 1) = x) && !decide (g (a + 1) (4 * d + 3) = -9)) (j + 1) = xcnt (fun d => decide (g (a + 1) (4 * d + 1) = x) && !decide (g (a + 1) (4 * d + 3) = -9)) j from by simp [xcnt_s, g9, g19, g30]] at ih2; exact ih2) | (rw [show xcnt (fun d => decide (g (a + 1) (4 * d + 1) = x) && !decide (g (a + 1) (4 * d + 3) = -9)) (j + 1) = xcnt (fun d => decide (g (a + 1) (4 * d + 1) = x) && !decide (g (a + 1) (4 * d + 3) = -9)) j + 1 from by simp [xcnt_s, g9, g19, g30]] at ih2; exact ih2)

set_option maxRecDepth 10000 in
theorem c_X2_howManyBroke (hC : xde a) (hs : g a 1 = nI m) (hm : m ≤ 40) (hf : s ≤ m) : xT (k + 2) 34 [.ref a, .int (nI s)] (xH b g l) (fun r M' => M' = xH b g l ∧ r = some (.int (nI (xcnt (fun d => !decide (g (a + 1) (4 * (s + d) + 3) = -9)) (m - s))))) := by
  refine xT.of rfl (Nat.le_of_ble_eq_true rfl) ?_
  dsimp only [lv_args]
  refine xS.s1 rfl rfl ?_
  try dsimp only [Nat.reduceAdd, xi_0]
  refine xS.s1 rfl rfl ?_
  try dsimp only [Nat.reduceAdd]
  refine xS.s1 rfl rfl ?_
  try dsimp only [Nat.reduceAdd]
  refine xS.s1 rfl rfl ?_
  try dsimp only [Nat.reduceAdd]
  refine xS.pick [0, 1, 2] rfl ?_
  refine xS.loop (σ := Unit) (m - s) (fun j S => [(3, .int (nI (s + j))), (2, .int (nI (xcnt (fun d => !decide (g (a + 1) (4 * (s + d) + 3) = -9)) j))), (0, .ref a)]) (fun _ _ => xH b g l) (fun _ _ => True) (()) (rfl) (rfl) (trivial) ?_
  intro j S hj hI ih
  try dsimp only
  refine xS.s1 rfl rfl ?_
  try dsimp only [Nat.reduceAdd]
  refine xS.s1 rfl rfl ?_
  try dsimp only [Nat.reduceAdd]
  refine xS.gI rfl (hC.1 _) rfl ⟨by decide, rfl⟩ rfl ?_
  try dsimp only [Nat.reduceAdd]
  refine xS.br (c := .ge) (off := 23) (l := 3) rfl rfl (fun h9 => ?_) (fun h9 => ?_)
  · have g9 := xt_ge h9
    refine xS.s1 rfl rfl ?_
    try dsimp only [Nat.reduceAdd]
    refine xS.ret rfl rfl rfl (fun _ _ => rfl) ?_
    rw [hs] at g9
    have e := xnle g9 (by omega) (by omega)
    rw [show m - s = j by omega]
    exact ⟨rfl, rfl⟩
  · have g9 := xf_ge h9
    rw [hs] at g9
    have hlt := xnlt g9 (by omega) (by omega)
    refine xS.s1 rfl rfl ?_
    try dsimp only [Nat.reduceAdd]
    refine xS.s1 rfl rfl ?_
    try dsimp only [Nat.reduceAdd]
    refine xS.s1 rfl rfl ?_
    try dsimp only [Nat.reduceAdd, xi_3]
    -- 15 yX2_fact
    refine xS.cv rfl rfl rfl (hC.1 _) rfl rfl ⟨by decide, rfl, rfl⟩ (c_X2_fact (t := 3) hC hs hm hlt (by decide)) (fun v M1 hv => ?_)
    rw [hv.1, hv.2]
    clear hv M1 v
    try dsimp only [Nat.reduceAdd, Option.toList, List.cons_append, List.nil_append, List.drop]
    refine xS.s1 rfl rfl ?_
    try dsimp only [Nat.reduceAdd, xj_m9]
    refine xS.br (c := .eq) (off := 6) (l := 3) rfl rfl (fun h20 => ?_) (fun h20 => ?_)
    · have g20 := xt_eq h20
      refine xS.s1 rfl rfl ?_
      try dsimp only [Nat.reduceAdd, xi_1]
      rw [nI_1]
      refine xS.s1 rfl rfl ?_
      try dsimp only [Nat.reduceAdd]
      refine xS.pick [0, 1, 2] rfl ?_
      have ih2 := ih () (by omega) trivial
      first | (rw [show xcnt (fun d => !decide (g (a + 1) (4 * (s + d) + 3) = -9)) (j + 1) = xcnt (fun d => !decide (g (a + 1) (4 * (s + d) + 3) = -9)) j from by simp [xcnt_s, g9, g20]] at ih2; exact ih2) | (rw [show xcnt (fun d => !decide (g (a + 1) (4 * (s + d) + 3) = -9)) (j + 1) = xcnt (fun d => !decide (g (a + 1) (4 * (s + d) + 3) = -9)) j + 1 from by simp [xcnt_s, g9, g20]] at ih2; exact ih2)
    · have g20 := xf_eq h20
      refine xS.s1 rfl rfl ?_
      try dsimp only [Nat.reduceAdd, xi_1]
      rw [nI_1]
      refine xS.s1 rfl rfl ?_
      try dsimp only [Nat.reduceAdd, xi_1]
      rw [nI_1]
      refine xS.s1 rfl rfl ?_
      try dsimp only [Nat.reduceAdd]
      refine xS.pick [0, 1, 2] rfl ?_
      have ih2 := ih () (by omega) trivial
      first | (rw [show xcnt (fun d => !decide (g (a + 1) (4 * (s + d) + 3) = -9)) (j + 1) = xcnt (fun d => !decide (g (a + 1) (4 * (s + d) + 3) = -9)) j from by simp [xcnt_s, g9, g20]] at ih2; exact ih2) | (rw [show xcnt (fun d => !decide (g (a + 1) (4 * (s + d) + 3) = -9)) (j + 1) = xcnt (fun d => !decide (g (a + 1) (4 * (s + d) + 3) = -9)) j + 1 from by simp [xcnt_s, g9, g20]] at ih2; exact ih2)

set_option maxRecDepth 10000 in
theorem c_X2_firstThatBroke (hC : xde a) (hs : g a 1 = nI m) (hm : m ≤ 40) : xT (k + 2) 35 [.ref a] (xH b g l) (fun r M' => M' = xH b g l ∧ r = some (.int (xfI (xfst (fun d => !decide (g (a + 1) (4 * d + 3) = -9)) m)))) := by
  refine xT.of rfl (Nat.le_of_ble_eq_true rfl) ?_
  dsimp only [lv_args]
  refine xS.s1 rfl rfl ?_
  try dsimp only [Nat.reduceAdd, xi_0]
  refine xS.s1 rfl rfl ?_
  try dsimp only [Nat.reduceAdd]
  refine xS.pick [0, 1] rfl ?_
  refine xS.loop (σ := Unit) (m) (fun j S => [(1, .int (nI j)), (0, .ref a)]) (fun _ _ => xH b g l) (fun j _ => xfst (fun d => !decide (g (a + 1) (4 * d + 3) = -9)) j = none) (()) (rfl) (rfl) (rfl) ?_
  intro j S hj hI ih
  try dsimp only
  refine xS.s1 rfl rfl ?_
  try dsimp only [Nat.reduceAdd]
  refine xS.s1 rfl rfl ?_
  try dsimp only [Nat.reduceAdd]
  refine xS.gI rfl (hC.1 _) rfl ⟨by decide, rfl⟩ rfl ?_
  try dsimp only [Nat.reduceAdd]
  refine xS.br (c := .ge) (off := 22) (l := 3) rfl rfl (fun h7 => ?_) (fun h7 => ?_)
  · have g7 := xt_ge h7
    refine xS.s1 rfl rfl ?_
    try dsimp only [Nat.reduceAdd, xj_m9]
    refine xS.ret rfl rfl rfl (fun _ _ => rfl) ?_
    rw [hs] at g7
    have e := xnle g7 (by omega) (by omega)
    rw [show m = j by omega, hI]
    exact ⟨rfl, rfl⟩
  · have g7 := xf_ge h7
    rw [hs] at g7
    have hlt := xnlt g7 (by omega) (by omega)
    refine xS.s1 rfl rfl ?_
    try dsimp only [Nat.reduceAdd]
    refine xS.s1 rfl rfl ?_
    try dsimp only [Nat.reduceAdd]
    refine xS.s1 rfl rfl ?_
    try dsimp only [Nat.reduceAdd, xi_3]
    -- 13 yX2_fact
    refine xS.cv rfl rfl rfl (hC.1 _) rfl rfl ⟨by decide, rfl, rfl⟩ (c_X2_fact (t := 3) hC hs hm hlt (by decide)) (fun v M1 hv => ?_)
    rw [hv.1, hv.2]
    clear hv M1 v
    try dsimp only [Nat.reduceAdd, Option.toList, List.cons_append, List.nil_append, List.drop]
    refine xS.s1 rfl rfl ?_
    try dsimp only [Nat.reduceAdd, xj_m9]
    refine xS.br (c := .eq) (off := 5) (l := 3) rfl rfl (fun h18 => ?_) (fun h18 => ?_)
    · have g18 := xt_eq h18
      refine xS.s1 rfl rfl ?_
      try dsimp only [Nat.reduceAdd, xi_1]
      rw [nI_1]
      refine xS.s1 rfl rfl ?_
      try dsimp only [Nat.reduceAdd]
      refine xS.pick [0, 1] rfl ?_
      exact ih () (by omega) (xfst_n hI (by simp [g18]))
    · have g18 := xf_eq h18
      refine xS.s1 rfl rfl ?_
      try dsimp only [Nat.reduceAdd]
      refine xS.ret rfl rfl rfl (fun _ _ => rfl) ?_
      rw [xfst_at hI (by simp [g18]) hlt]
      exact ⟨rfl, rfl⟩

def xsrc (κ δ i : Nat) : Option Nat := if κ = 1 then (if i < δ then none else some (i - δ)) else if κ = 4 then (if i % 3 = 2 then none else if i < δ then none else some (i - δ)) else if κ = 2 then (if i % 2 = 1 then none else some i) else some i
def xoI (o : Option Nat) : Int32 := match o with
  | none => -1
  | some d => nI d
def xth (κ i : Nat) : Bool := decide (κ = 3) || (decide (κ = 5) && decide (i % 2 = 1))
def xmir (x : Int32) : Int32 := if x = 1 ∨ x = 2 then 3 - x else x
def xseen (h : Nat → Int32) (κ i s : Nat) : Int32 := xmir (bif xth κ i then h s else nI s)
def xshw (h : Nat → Int32) (κ δ : Nat) (f : Nat → Nat) (i : Nat) : Int32 := match xsrc κ δ i with
  | none => 0
  | some s => xseen h κ i (f s)
def xpn (g : Nat → Nat → Int32) : Prop := ∀ L, L < 24 → g (43 + L) 0 = nI (L / 4) ∧ g (43 + L) 1 = nI (L % 4)
theorem xpsh : ∀ {L : Nat}, L < 24 → (L / 4 = 0 ∧ xob (43 + L) 6 [.int 0, .int 0]) ∨ (L / 4 = 1 ∧ xob (43 + L) 4 [.int 0, .int 0]) ∨ (L / 4 = 2 ∧ xob (43 + L) 8 [.int 0, .int 0]) ∨ (L / 4 = 3 ∧ xob (43 + L) 9 [.int 0, .int 0]) ∨ (L / 4 = 4 ∧ xob (43 + L) 5 [.int 0, .int 0]) ∨ (L / 4 = 5 ∧ xob (43 + L) 3 [.int 0, .int 0])
  | 0, _ | 1, _ | 2, _ | 3, _ => Or.inl ⟨rfl, fun _ => rfl⟩
  | 4, _ | 5, _ | 6, _ | 7, _ => Or.inr (Or.inl ⟨rfl, fun _ => rfl⟩)
  | 8, _ | 9, _ | 10, _ | 11, _ => Or.inr (Or.inr (Or.inl ⟨rfl, fun _ => rfl⟩))
  | 12, _ | 13, _ | 14, _ | 15, _ => Or.inr (Or.inr (Or.inr (Or.inl ⟨rfl, fun _ => rfl⟩)))
  | 16, _ | 17, _ | 18, _ | 19, _ => Or.inr (Or.inr (Or.inr (Or.inr (Or.inl ⟨rfl, fun _ => rfl⟩))))
  | 20, _ | 21, _ | 22, _ | 23, _ => Or.inr (Or.inr (Or.inr (Or.inr (Or.inr ⟨rfl, fun _ => rfl⟩))))
  | _ + 24, h => absurd h (by omega)
theorem xand1 {t : Nat} (h : t < 2 ^ 32) : nI t &&& 1 = nI (t % 2) := pk_andN h 1 rfl

set_option maxRecDepth 10000 in
theorem c_X7_kind_3 (hC : xob a 3 [.int 0, .int 0]) : xT (k + 1) 48 [.ref a] (xH b g l) (fun r M' => M' = xH b g l ∧ r = some (.int (g a 0))) := by
  refine xT.of rfl (Nat.le_of_ble_eq_true rfl) ?_
  dsimp only [lv_args]
  refine xS.s1 rfl rfl ?_
  try dsimp only [Nat.reduceAdd]
  refine xS.gI rfl (hC _) rfl ⟨by decide, rfl⟩ rfl ?_
  try dsimp only [Nat.reduceAdd]
  refine xS.ret rfl rfl rfl (fun _ _ => rfl) ?_
  exact ⟨rfl, rfl⟩

set_option maxRecDepth 10000 in
theorem c_X7_delay_3 (hC : xob a 3 [.int 0, .int 0]) : xT (k + 1) 49 [.ref a] (xH b g l) (fun r M' => M' = xH b g l ∧ r = some (.int (g a 1))) := by
  refine xT.of rfl (Nat.le_of_ble_eq_true rfl) ?_
  dsimp only [lv_args]
  refine xS.s1 rfl rfl ?_
  try dsimp only [Nat.reduceAdd]
  refine xS.gI rfl (hC _) rfl ⟨by decide, rfl⟩ rfl ?_
  try dsimp only [Nat.reduceAdd]
  refine xS.ret rfl rfl rfl (fun _ _ => rfl) ?_
  exact ⟨rfl, rfl⟩

set_option maxRecDepth 10000 in
theorem c_X7_isOf_3 (hC : xob a 3 [.int 0, .int 0]) : xT (k + 1) 50 [.ref a, .int x] (xH b g l) (fun r M' => M' = xH b g l ∧ r = some (.int (if x = g a 0 ∨ x = 0 then 1 else 0))) := by
  refine xT.of rfl (Nat.le_of_ble_eq_true rfl) ?_
  dsimp only [lv_args]
  refine xS.s1 rfl rfl ?_
  try dsimp only [Nat.reduceAdd]
  refine xS.s1 rfl rfl ?_
  try dsimp only [Nat.reduceAdd]
  refine xS.gI rfl (hC _) rfl ⟨by decide, rfl⟩ rfl ?_
  try dsimp only [Nat.reduceAdd]
  refine xS.br (c := .eq) (off := 7) (l := 3) rfl rfl (fun h5 => ?_) (fun h5 => ?_)
  · have g5 := xt_eq h5
    refine xS.s1 rfl rfl ?_
    try dsimp only [Nat.reduceAdd, xi_1]
    refine xS.s1 rfl rfl ?_
    try dsimp only [Nat.reduceAdd]
    refine xS.ret rfl rfl rfl (fun _ _ => rfl) ?_
    exact ⟨rfl, by split <;> first | rfl | (exfalso; simp_all)⟩
  · have g5 := xf_eq h5
    refine xS.s1 rfl rfl ?_
    try dsimp only [Nat.reduceAdd]
    refine xS.br0 (c := .ne) (off := 7) (l := 3) rfl rfl (fun h9 => ?_) (fun h9 => ?_)
    · have g9 := xt_ne h9
      refine xS.s1 rfl rfl ?_
      try dsimp only [Nat.reduceAdd, xi_0]
      refine xS.ret rfl rfl rfl (fun _ _ => rfl) ?_
      exact ⟨rfl, by split <;> first | rfl | (exfalso; simp_all)⟩
    · have g9 := xf_ne h9
      refine xS.s1 rfl rfl ?_
      try dsimp only [Nat.reduceAdd, xi_1]
      refine xS.s1 rfl rfl ?_
      try dsimp only [Nat.reduceAdd]
      refine xS.ret rfl rfl rfl (fun _ _ => rfl) ?_
      exact ⟨rfl, by split <;> first | rfl | (exfalso; simp_all)⟩

set_option maxRecDepth 10000 in
theorem c_X7_kind_4 (hC : xob a 4 [.int 0, .int 0]) : xT (k + 1) 48 [.ref a] (xH b g l) (fun r M' => M' = xH b g l ∧ r = some (.int (g a 0))) := by
  refine xT.of rfl (Nat.le_of_ble_eq_true rfl) ?_
  dsimp only [lv_args]
  refine xS.s1 rfl rfl ?_
  try dsimp only [Nat.reduceAdd]
  refine xS.gI rfl (hC _) rfl ⟨by decide, rfl⟩ rfl ?_
  try dsimp only [Nat.reduceAdd]
  refine xS.ret rfl rfl rfl (fun _ _ => rfl) ?_
  exact ⟨rfl, rfl⟩

set_option maxRecDepth 10000 in
theorem c_X7_delay_4 (hC : xob a 4 [.int 0, .int 0]) : xT (k + 1) 49 [.ref a] (xH b g l) (fun r M' => M' = xH b g l ∧ r = some (.int (g a 1))) := by
  refine xT.of rfl (Nat.le_of_ble_eq_true rfl) ?_
  dsimp only [lv_args]
  refine xS.s1 rfl rfl ?_
  try dsimp only [Nat.reduceAdd]
  refine xS.gI rfl (hC _) rfl ⟨by decide, rfl⟩ rfl ?_
  try dsimp only [Nat.reduceAdd]
  refine xS.ret rfl rfl rfl (fun _ _ => rfl) ?_
  exact ⟨rfl, rfl⟩

set_option maxRecDepth 10000 in
theorem c_X7_isOf_4 (hC : xob a 4 [.int 0, .int 0]) : xT (k + 1) 50 [.ref a, .int x] (xH b g l) (fun r M' => M' = xH b g l ∧ r = some (.int (if x = g a 0 ∨ x = 0 then 1 else 0))) := by
  refine xT.of rfl (Nat.le_of_ble_eq_true rfl) ?_
  dsimp only [lv_args]
  refine xS.s1 rfl rfl ?_
  try dsimp only [Nat.reduceAdd]
  refine xS.s1 rfl rfl ?_
  try dsimp only [Nat.reduceAdd]
  refine xS.gI rfl (hC _) rfl ⟨by decide, rfl⟩ rfl ?_
  try dsimp only [Nat.reduceAdd]
  refine xS.br (c := .eq) (off := 7) (l := 3) rfl rfl (fun h5 => ?_) (fun h5 => ?_)
  · have g5 := xt_eq h5
    refine xS.s1 rfl rfl ?_
    try dsimp only [Nat.reduceAdd, xi_1]
    refine xS.s1 rfl rfl ?_
    try dsimp only [Nat.reduceAdd]
    refine xS.ret rfl rfl rfl (fun _ _ => rfl) ?_
    exact ⟨rfl, by split <;> first | rfl | (exfalso; simp_all)⟩
  · have g5 := xf_eq h5
    refine xS.s1 rfl rfl ?_
    try dsimp only [Nat.reduceAdd]
    refine xS.br0 (c := .ne) (off := 7) (l := 3) rfl rfl (fun h9 => ?_) (fun h9 => ?_)
    · have g9 := xt_ne h9
      refine xS.s1 rfl rfl ?_
      try dsimp only [Nat.reduceAdd, xi_0]
      refine xS.ret rfl rfl rfl (fun _ _ => rfl) ?_
      exact ⟨rfl, by split <;> first | rfl | (exfalso; simp_all)⟩
    · have g9 := xf_ne h9
      refine xS.s1 rfl rfl ?_
      try dsimp only [Nat.reduceAdd, xi_1]
      refine xS.s1 rfl rfl ?_
      try dsimp only [Nat.reduceAdd]
      refine xS.ret rfl rfl rfl (fun _ _ => rfl) ?_
      exact ⟨rfl, by split <;> first | rfl | (exfalso; simp_all)⟩

set_option maxRecDepth 10000 in
theorem c_X7_kind_5 (hC : xob a 5 [.int 0, .int 0]) : xT (k + 1) 48 [.ref a] (xH b g l) (fun r M' => M' = xH b g l ∧ r = some (.int (g a 0))) := by
  refine xT.of rfl (Nat.le_of_ble_eq_true rfl) ?_
  dsimp only [lv_args]
  refine xS.s1 rfl rfl ?_
  try dsimp only [Nat.reduceAdd]
  refine xS.gI rfl (hC _) rfl ⟨by decide, rfl⟩ rfl ?_
  try dsimp only [Nat.reduceAdd]
  refine xS.ret rfl rfl rfl (fun _ _ => rfl) ?_
  exact ⟨rfl, rfl⟩

set_option maxRecDepth 10000 in
theorem c_X7_delay_5 (hC : xob a 5 [.int 0, .int 0]) : xT (k + 1) 49 [.ref a] (xH b g l) (fun r M' => M' = xH b g l ∧ r = some (.int (g a 1))) := by
  refine xT.of rfl (Nat.le_of_ble_eq_true rfl) ?_
  dsimp only [lv_args]
  refine xS.s1 rfl rfl ?_
  try dsimp only [Nat.reduceAdd]
  refine xS.gI rfl (hC _) rfl ⟨by decide, rfl⟩ rfl ?_
  try dsimp only [Nat.reduceAdd]
  refine xS.ret rfl rfl rfl (fun _ _ => rfl) ?_
  exact ⟨rfl, rfl⟩

set_option maxRecDepth 10000 in
theorem c_X7_isOf_5 (hC : xob a 5 [.int 0, .int 0]) : xT (k + 1) 50 [.ref a, .int x] (xH b g l) (fun r M' => M' = xH b g l ∧ r = some (.int (if x = g a 0 ∨ x = 0 then 1 else 0))) := by
  refine xT.of rfl (Nat.le_of_ble_eq_true rfl) ?_
  dsimp only [lv_args]
  refine xS.s1 rfl rfl ?_
  try dsimp only [Nat.reduceAdd]
  refine xS.s1 rfl rfl ?_
  try dsimp only [Nat.reduceAdd]
  refine xS.gI rfl (hC _) rfl ⟨by decide, rfl⟩ rfl ?_
  try dsimp only [Nat.reduceAdd]
  refine xS.br (c := .eq) (off := 7) (l := 3) rfl rfl (fun h5 => ?_) (fun h5 => ?_)
  · have g5 := xt_eq h5
    refine xS.s1 rfl rfl ?_
    try dsimp only [Nat.reduceAdd, xi_1]
    refine xS.s1 rfl rfl ?_
    try dsimp only [Nat.reduceAdd]
    refine xS.ret rfl rfl rfl (fun _ _ => rfl) ?_
    exact ⟨rfl, by split <;> first | rfl | (exfalso; simp_all)⟩
  · have g5 := xf_eq h5
    refine xS.s1 rfl rfl ?_
    try dsimp only [Nat.reduceAdd]
    refine xS.br0 (c := .ne) (off := 7) (l := 3) rfl rfl (fun h9 => ?_) (fun h9 => ?_)
    · have g9 := xt_ne h9
      refine xS.s1 rfl rfl ?_
      try dsimp only [Nat.reduceAdd, xi_0]
      refine xS.ret rfl rfl rfl (fun _ _ => rfl) ?_
      exact ⟨rfl, by split <;> first | rfl | (exfalso; simp_all)⟩
    · have g9 := xf_ne h9
      refine xS.s1 rfl rfl ?_
      try dsimp only [Nat.reduceAdd, xi_1]
      refine xS.s1 rfl rfl ?_
      try dsimp only [Nat.reduceAdd]
      refine xS.ret rfl rfl rfl (fun _ _ => rfl) ?_
      exact ⟨rfl, by split <;> first | rfl | (exfalso; simp_all)⟩

set_option maxRecDepth 10000 in
theorem c_X7_kind_6 (hC : xob a 6 [.int 0, .int 0]) : xT (k + 1) 48 [.ref a] (xH b g l) (fun r M' => M' = xH b g l ∧ r = some (.int (g a 0))) := by
  refine xT.of rfl (Nat.le_of_ble_eq_true rfl) ?_
  dsimp only [lv_args]
  refine xS.s1 rfl rfl ?_
  try dsimp only [Nat.reduceAdd]
  refine xS.gI rfl (hC _) rfl ⟨by decide, rfl⟩ rfl ?_
  try dsimp only [Nat.reduceAdd]
  refine xS.ret rfl rfl rfl (fun _ _ => rfl) ?_
  exact ⟨rfl, rfl⟩

set_option maxRecDepth 10000 in
theorem c_X7_delay_6 (hC : xob a 6 [.int 0, .int 0]) : xT (k + 1) 49 [.ref a] (xH b g l) (fun r M' => M' = xH b g l ∧ r = some (.int (g a 1))) := by
  refine xT.of rfl (Nat.le_of_ble_eq_true rfl) ?_
  dsimp only [lv_args]
  refine xS.s1 rfl rfl ?_
  try dsimp only [Nat.reduceAdd]
  refine xS.gI rfl (hC _) rfl ⟨by decide, rfl⟩ rfl ?_
  try dsimp only [Nat.reduceAdd]
  refine xS.ret rfl rfl rfl (fun _ _ => rfl) ?_
  exact ⟨rfl, rfl⟩

set_option maxRecDepth 10000 in
theorem c_X7_isOf_6 (hC : xob a 6 [.int 0, .int 0]) : xT (k + 1) 50 [.ref a, .int x] (xH b g l) (fun r M' => M' = xH b g l ∧ r = some (.int (if x = g a 0 ∨ x = 0 then 1 else 0))) := by
  refine xT.of rfl (Nat.le_of_ble_eq_true rfl) ?_
  dsimp only [lv_args]
  refine xS.s1 rfl rfl ?_
  try dsimp only [Nat.reduceAdd]
  refine xS.s1 rfl rfl ?_
  try dsimp only [Nat.reduceAdd]
  refine xS.gI rfl (hC _) rfl ⟨by decide, rfl⟩ rfl ?_
  try dsimp only [Nat.reduceAdd]
  refine xS.br (c := .eq) (off := 7) (l := 3) rfl rfl (fun h5 => ?_) (fun h5 => ?_)
  · have g5 := xt_eq h5
    refine xS.s1 rfl rfl ?_
    try dsimp only [Nat.reduceAdd, xi_1]
    refine xS.s1 rfl rfl ?_
    try dsimp only [Nat.reduceAdd]
    refine xS.ret rfl rfl rfl (fun _ _ => rfl) ?_
    exact ⟨rfl, by split <;> first | rfl | (exfalso; simp_all)⟩
  · have g5 := xf_eq h5
    refine xS.s1 rfl rfl ?_
    try dsimp only [Nat.reduceAdd]
    refine xS.br0 (c := .ne) (off := 7) (l := 3) rfl rfl (fun h9 => ?_) (fun h9 => ?_)
    · have g9 := xt_ne h9
      refine xS.s1 rfl rfl ?_
      try dsimp only [Nat.reduceAdd, xi_0]
      refine xS.ret rfl rfl rfl (fun _ _ => rfl) ?_
      exact ⟨rfl, by split <;> first | rfl | (exfalso; simp_all)⟩
    · have g9 := xf_ne h9
      refine xS.s1 rfl rfl ?_
      try dsimp only [Nat.reduceAdd, xi_1]
      refine xS.s1 rfl rfl ?_
      try dsimp only [Nat.reduceAdd]
      refine xS.ret rfl rfl rfl (fun _ _ => rfl) ?_
      exact ⟨rfl, by split <;> first | rfl | (exfalso; simp_all)⟩

set_option maxRecDepth 10000 in
theorem c_X7_kind_8 (hC : xob a 8 [.int 0, .int 0]) : xT (k + 1) 48 [.ref a] (xH b g l) (fun r M' => M' = xH b g l ∧ r = some (.int (g a 0))) := by
  refine xT.of rfl (Nat.le_of_ble_eq_true rfl) ?_
  dsimp only [lv_args]
  refine xS.s1 rfl rfl ?_
  try dsimp only [Nat.reduceAdd]
  refine xS.gI rfl (hC _) rfl ⟨by decide, rfl⟩ rfl ?_
  try dsimp only [Nat.reduceAdd]
  refine xS.ret rfl rfl rfl (fun _ _ => rfl) ?_
  exact ⟨rfl, rfl⟩

set_option maxRecDepth 10000 in
theorem c_X7_delay_8 (hC : xob a 8 [.int 0, .int 0]) : xT (k + 1) 49 [.ref a] (xH b g l) (fun r M' => M' = xH b g l ∧ r = some (.int (g a 1))) := by
  refine xT.of rfl (Nat.le_of_ble_eq_true rfl) ?_
  dsimp only [lv_args]
  refine xS.s1 rfl rfl ?_
  try dsimp only [Nat.reduceAdd]
  refine xS.gI rfl (hC _) rfl ⟨by decide, rfl⟩ rfl ?_
  try dsimp only [Nat.reduceAdd]
  refine xS.ret rfl rfl rfl (fun _ _ => rfl) ?_
  exact ⟨rfl, rfl⟩

set_option maxRecDepth 10000 in
theorem c_X7_isOf_8 (hC : xob a 8 [.int 0, .int 0]) : xT (k + 1) 50 [.ref a, .int x] (xH b g l) (fun r M' => M' = xH b g l ∧ r = some (.int (if x = g a 0 ∨ x = 0 then 1 else 0))) := by
  refine xT.of rfl (Nat.le_of_ble_eq_true rfl) ?_
  dsimp only [lv_args]
  refine xS.s1 rfl rfl ?_
  try dsimp only [Nat.reduceAdd]
  refine xS.s1 rfl rfl ?_
  try dsimp only [Nat.reduceAdd]
  refine xS.gI rfl (hC _) rfl ⟨by decide, rfl⟩ rfl ?_
  try dsimp only [Nat.reduceAdd]
  refine xS.br (c := .eq) (off := 7) (l := 3) rfl rfl (fun h5 => ?_) (fun h5 => ?_)
  · have g5 := xt_eq h5
    refine xS.s1 rfl rfl ?_
    try dsimp only [Nat.reduceAdd, xi_1]
    refine xS.s1 rfl rfl ?_
    try dsimp only [Nat.reduceAdd]
    refine xS.ret rfl rfl rfl (fun _ _ => rfl) ?_
    exact ⟨rfl, by split <;> first | rfl | (exfalso; simp_all)⟩
  · have g5 := xf_eq h5
    refine xS.s1 rfl rfl ?_
    try dsimp only [Nat.reduceAdd]
    refine xS.br0 (c := .ne) (off := 7) (l := 3) rfl rfl (fun h9 => ?_) (fun h9 => ?_)
    · have g9 := xt_ne h9
      refine xS.s1 rfl rfl ?_
      try dsimp only [Nat.reduceAdd, xi_0]
      refine xS.ret rfl rfl rfl (fun _ _ => rfl) ?_
      exact ⟨rfl, by split <;> first | rfl | (exfalso; simp_all)⟩
    · have g9 := xf_ne h9
      refine xS.s1 rfl rfl ?_
      try dsimp only [Nat.reduceAdd, xi_1]
      refine xS.s1 rfl rfl ?_
      try dsimp only [Nat.reduceAdd]
      refine xS.ret rfl rfl rfl (fun _ _ => rfl) ?_
      exact ⟨rfl, by split <;> first | rfl | (exfalso; simp_all)⟩

set_option maxRecDepth 10000 in
theorem c_X7_kind_9 (hC : xob a 9 [.int 0, .int 0]) : xT (k + 1) 48 [.ref a] (xH b g l) (fun r M' => M' = xH b g l ∧ r = some (.int (g a 0))) := by
  refine xT.of rfl (Nat.le_of_ble_eq_true rfl) ?_
  dsimp only [lv_args]
  refine xS.s1 rfl rfl ?_
  try dsimp only [Nat.reduceAdd]
  refine xS.gI rfl (hC _) rfl ⟨by decide, rfl⟩ rfl ?_
  try dsimp only [Nat.reduceAdd]
  refine xS.ret rfl rfl rfl (fun _ _ => rfl) ?_
  exact ⟨rfl, rfl⟩

set_option maxRecDepth 10000 in
theorem c_X7_delay_9 (hC : xob a 9 [.int 0, .int 0]) : xT (k + 1) 49 [.ref a] (xH b g l) (fun r M' => M' = xH b g l ∧ r = some (.int (g a 1))) := by
  refine xT.of rfl (Nat.le_of_ble_eq_true rfl) ?_
  dsimp only [lv_args]
  refine xS.s1 rfl rfl ?_
  try dsimp only [Nat.reduceAdd]
  refine xS.gI rfl (hC _) rfl ⟨by decide, rfl⟩ rfl ?_
  try dsimp only [Nat.reduceAdd]
  refine xS.ret rfl rfl rfl (fun _ _ => rfl) ?_
  exact ⟨rfl, rfl⟩

set_option maxRecDepth 10000 in
theorem c_X7_isOf_9 (hC : xob a 9 [.int 0, .int 0]) : xT (k + 1) 50 [.ref a, .int x] (xH b g l) (fun r M' => M' = xH b g l ∧ r = some (.int (if x = g a 0 ∨ x = 0 then 1 else 0))) := by
  refine xT.of rfl (Nat.le_of_ble_eq_true rfl) ?_
  dsimp only [lv_args]
  refine xS.s1 rfl rfl ?_
  try dsimp only [Nat.reduceAdd]
  refine xS.s1 rfl rfl ?_
  try dsimp only [Nat.reduceAdd]
  refine xS.gI rfl (hC _) rfl ⟨by decide, rfl⟩ rfl ?_
  try dsimp only [Nat.reduceAdd]
  refine xS.br (c := .eq) (off := 7) (l := 3) rfl rfl (fun h5 => ?_) (fun h5 => ?_)
  · have g5 := xt_eq h5
    refine xS.s1 rfl rfl ?_
    try dsimp only [Nat.reduceAdd, xi_1]
    refine xS.s1 rfl rfl ?_
    try dsimp only [Nat.reduceAdd]
    refine xS.ret rfl rfl rfl (fun _ _ => rfl) ?_
    exact ⟨rfl, by split <;> first | rfl | (exfalso; simp_all)⟩
  · have g5 := xf_eq h5
    refine xS.s1 rfl rfl ?_
    try dsimp only [Nat.reduceAdd]
    refine xS.br0 (c := .ne) (off := 7) (l := 3) rfl rfl (fun h9 => ?_) (fun h9 => ?_)
    · have g9 := xt_ne h9
      refine xS.s1 rfl rfl ?_
      try dsimp only [Nat.reduceAdd, xi_0]
      refine xS.ret rfl rfl rfl (fun _ _ => rfl) ?_
      exact ⟨rfl, by split <;> first | rfl | (exfalso; simp_all)⟩
    · have g9 := xf_ne h9
      refine xS.s1 rfl rfl ?_
      try dsimp only [Nat.reduceAdd, xi_1]
      refine xS.s1 rfl rfl ?_
      try dsimp only [Nat.reduceAdd]
      refine xS.ret rfl rfl rfl (fun _ _ => rfl) ?_
      exact ⟨rfl, by split <;> first | rfl | (exfalso; simp_all)⟩

set_option maxRecDepth 10000 in
theorem c_X7_source  : xT (k + 1) 51 [.ref a, .int x] (xH b g l) (fun r M' => M' = xH b g l ∧ r = some (.int (x))) := by
  refine xT.of rfl (Nat.le_of_ble_eq_true rfl) ?_
  dsimp only [lv_args]
  refine xS.s1 rfl rfl ?_
  try dsimp only [Nat.reduceAdd]
  refine xS.ret rfl rfl rfl (fun _ _ => rfl) ?_
  exact ⟨rfl, rfl⟩

set_option maxRecDepth 10000 in
theorem c_X4_source  : xT (k + 1) 39 [.ref a, .int x] (xH b g l) (fun r M' => M' = xH b g l ∧ r = some (.int (x))) := by
  refine xT.of rfl (Nat.le_of_ble_eq_true rfl) ?_
  dsimp only [lv_args]
  refine xS.s1 rfl rfl ?_
  try dsimp only [Nat.reduceAdd]
  refine xS.ret rfl rfl rfl (fun _ _ => rfl) ?_
  exact ⟨rfl, rfl⟩

set_option maxRecDepth 10000 in
theorem c_X7_thinks  : xT (k + 1) 52 [.ref a, .int x] (xH b g l) (fun r M' => M' = xH b g l ∧ r = some (.int (0))) := by
  refine xT.of rfl (Nat.le_of_ble_eq_true rfl) ?_
  dsimp only [lv_args]
  refine xS.s1 rfl rfl ?_
  try dsimp only [Nat.reduceAdd, xi_0]
  refine xS.ret rfl rfl rfl (fun _ _ => rfl) ?_
  exact ⟨rfl, rfl⟩

set_option maxRecDepth 10000 in
theorem c_X10_thinks  : xT (k + 1) 76 [.ref a, .int x] (xH b g l) (fun r M' => M' = xH b g l ∧ r = some (.int (1))) := by
  refine xT.of rfl (Nat.le_of_ble_eq_true rfl) ?_
  dsimp only [lv_args]
  refine xS.s1 rfl rfl ?_
  try dsimp only [Nat.reduceAdd, xi_1]
  refine xS.ret rfl rfl rfl (fun _ _ => rfl) ?_
  exact ⟨rfl, rfl⟩

theorem xodd {t : Nat} (h : t < 2 ^ 31) : nI t &&& 1 = 1 ↔ t % 2 = 1 := by
  rw [xand1 (by omega)]
  exact nI_eq (a := t % 2) (b := 1) (by omega) (by omega)

set_option maxRecDepth 10000 in
theorem c_X7_isOdd (ht : t < 2 ^ 31) : xT (k + 1) 53 [.int (nI t)] (xH b g l) (fun r M' => M' = xH b g l ∧ r = some (.int (if t % 2 = 1 then 1 else 0))) := by
  refine xT.of rfl (Nat.le_of_ble_eq_true rfl) ?_
  dsimp only [lv_args]
  refine xS.s1 rfl rfl ?_
  try dsimp only [Nat.reduceAdd]
  refine xS.s1 rfl rfl ?_
  try dsimp only [Nat.reduceAdd, xi_1]
  refine xS.s1 rfl rfl ?_
  try dsimp only [Nat.reduceAdd]
  refine xS.s1 rfl rfl ?_
  try dsimp only [Nat.reduceAdd, xi_1]
  refine xS.br (c := .ne) (off := 7) (l := 3) rfl rfl (fun h4 => ?_) (fun h4 => ?_)
  · have g4 := xt_ne h4
    refine xS.s1 rfl rfl ?_
    try dsimp only [Nat.reduceAdd, xi_0]
    refine xS.ret rfl rfl rfl (fun _ _ => rfl) ?_
    rw [xodd ht] at g4
    exact ⟨rfl, by simp [g4]⟩
  · have g4 := xf_ne h4
    refine xS.s1 rfl rfl ?_
    try dsimp only [Nat.reduceAdd, xi_1]
    refine xS.s1 rfl rfl ?_
    try dsimp only [Nat.reduceAdd]
    refine xS.ret rfl rfl rfl (fun _ _ => rfl) ?_
    rw [xodd ht] at g4
    exact ⟨rfl, by simp [g4]⟩

set_option maxRecDepth 10000 in
theorem c_X4_thinks (ht : t < 2 ^ 31) : xT (k + 2) 40 [.ref a, .int (nI t)] (xH b g l) (fun r M' => M' = xH b g l ∧ r = some (.int (if t % 2 = 1 then 1 else 0))) := by
  refine xT.of rfl (Nat.le_of_ble_eq_true rfl) ?_
  dsimp only [lv_args]
  refine xS.s1 rfl rfl ?_
  try dsimp only [Nat.reduceAdd]
  -- 1 yX7_isOdd
  refine xS.callO rfl rfl rfl ⟨Nat.le_of_ble_eq_true rfl, rfl⟩ (c_X7_isOdd ht) (fun v M1 hv => ?_)
  rw [hv.1, hv.2]
  clear hv M1 v
  try dsimp only [Nat.reduceAdd, Option.toList, List.cons_append, List.nil_append, List.drop]
  refine xS.retB rfl rfl ?_
  exact ⟨rfl, rfl⟩

set_option maxRecDepth 10000 in
theorem c_X9_source (ht : t < 2 ^ 31) : xT (k + 2) 73 [.ref a, .int (nI t)] (xH b g l) (fun r M' => M' = xH b g l ∧ r = some (.int (if t % 2 = 1 then -1 else nI t))) := by
  refine xT.of rfl (Nat.le_of_ble_eq_true rfl) ?_
  dsimp only [lv_args]
  refine xS.s1 rfl rfl ?_
  try dsimp only [Nat.reduceAdd]
  -- 1 yX7_isOdd
  refine xS.callO rfl rfl rfl ⟨Nat.le_of_ble_eq_true rfl, rfl⟩ (c_X7_isOdd ht) (fun v M1 hv => ?_)
  rw [hv.1, hv.2]
  clear hv M1 v
  try dsimp only [Nat.reduceAdd, Option.toList, List.cons_append, List.nil_append, List.drop]
  refine xS.br0 (c := .eq) (off := 7) (l := 3) rfl rfl (fun h4 => ?_) (fun h4 => ?_)
  · have g4 := xt_eq h4
    refine xS.s1 rfl rfl ?_
    try dsimp only [Nat.reduceAdd]
    refine xS.ret rfl rfl rfl (fun _ _ => rfl) ?_
    first | (rw [if_neg (xif0 g4)]; exact ⟨rfl, rfl⟩) | (rw [if_pos (xif1 g4)]; exact ⟨rfl, rfl⟩)
  · have g4 := xf_eq h4
    refine xS.s1 rfl rfl ?_
    try dsimp only [Nat.reduceAdd, xi_m1]
    refine xS.s1 rfl rfl ?_
    try dsimp only [Nat.reduceAdd]
    refine xS.ret rfl rfl rfl (fun _ _ => rfl) ?_
    first | (rw [if_neg (xif0 g4)]; exact ⟨rfl, rfl⟩) | (rw [if_pos (xif1 g4)]; exact ⟨rfl, rfl⟩)

theorem xrem3 {t : Nat} (h : t < 2 ^ 31) : nI t - nI t / 3 * 3 = nI (t % 3) := pk_rem (d := 3) h (by omega) (by omega)
theorem xlimp {t : Nat} : (2 : Int32) - nI (t % 3) = 0 ↔ t % 3 = 2 := by
  have h : t % 3 < 3 := Nat.mod_lt _ (by omega)
  generalize t % 3 = u at h
  match u, h with
  | 0, _ => decide
  | 1, _ => decide
  | 2, _ => decide

set_option maxRecDepth 10000 in
theorem c_X6_placesToLimp (ht : t < 2 ^ 31) : xT (k + 1) 46 [.int (nI t)] (xH b g l) (fun r M' => M' = xH b g l ∧ r = some (.int (2 - nI (t % 3)))) := by
  refine xT.of rfl (Nat.le_of_ble_eq_true rfl) ?_
  dsimp only [lv_args]
  refine xS.s1 rfl rfl ?_
  try dsimp only [Nat.reduceAdd, xi_2]
  refine xS.s1 rfl rfl ?_
  try dsimp only [Nat.reduceAdd]
  refine xS.s1 rfl rfl ?_
  try dsimp only [Nat.reduceAdd, xi_3]
  refine xS.s1 rfl rfl ?_
  try dsimp only [Nat.reduceAdd]
  refine xS.s1 rfl rfl ?_
  try dsimp only [Nat.reduceAdd]
  refine xS.ret rfl rfl rfl (fun _ _ => rfl) ?_
  rw [xrem3 ht]
  exact ⟨rfl, rfl⟩

set_option maxRecDepth 10000 in
theorem c_X5_source_4 (hC : xob a 4 [.int 0, .int 0]) (hd : g a 1 = nI d) (hd4 : d < 4) (ht : t < 2 ^ 30) : xT (k + 2) 42 [.ref a, .int (nI t)] (xH b g l) (fun r M' => M' = xH b g l ∧ r = some (.int (xoI (if t < d then none else some (t - d))))) := by
  refine xT.of rfl (Nat.le_of_ble_eq_true rfl) ?_
  dsimp only [lv_args]
  refine xS.s1 rfl rfl ?_
  try dsimp only [Nat.reduceAdd]
  refine xS.s1 rfl rfl ?_
  try dsimp only [Nat.reduceAdd]
  -- 2 yX7_delay
  refine xS.cv rfl rfl rfl (hC _) rfl rfl ⟨by decide, rfl, rfl⟩ (c_X7_delay_4 hC) (fun v M1 hv => ?_)
  rw [hv.1, hv.2]
  clear hv M1 v
  try dsimp only [Nat.reduceAdd, Option.toList, List.cons_append, List.nil_append, List.drop]
  refine xS.br (c := .ge) (off := 7) (l := 3) rfl rfl (fun h5 => ?_) (fun h5 => ?_)
  · have g5 := xt_ge h5
    refine xS.s1 rfl rfl ?_
    try dsimp only [Nat.reduceAdd]
    refine xS.s1 rfl rfl ?_
    try dsimp only [Nat.reduceAdd]
    -- 14 yX7_delay
    refine xS.cv rfl rfl rfl (hC _) rfl rfl ⟨by decide, rfl, rfl⟩ (c_X7_delay_4 hC) (fun v M1 hv => ?_)
    rw [hv.1, hv.2]
    clear hv M1 v
    try dsimp only [Nat.reduceAdd, Option.toList, List.cons_append, List.nil_append, List.drop]
    refine xS.s1 rfl rfl ?_
    try dsimp only [Nat.reduceAdd]
    refine xS.ret rfl rfl rfl (fun _ _ => rfl) ?_
    rw [hd] at g5
    have e := xnle g5 (by omega) (by omega)
    rw [if_neg (by omega), hd, pk_sub e]
    exact ⟨rfl, rfl⟩
  · have g5 := xf_ge h5
    refine xS.s1 rfl rfl ?_
    try dsimp only [Nat.reduceAdd, xi_m1]
    refine xS.s1 rfl rfl ?_
    try dsimp only [Nat.reduceAdd]
    refine xS.ret rfl rfl rfl (fun _ _ => rfl) ?_
    rw [hd] at g5
    have e := xnlt g5 (by omega) (by omega)
    rw [if_pos e]
    exact ⟨rfl, rfl⟩

set_option maxRecDepth 10000 in
theorem c_X5_source_5 (hC : xob a 5 [.int 0, .int 0]) (hd : g a 1 = nI d) (hd4 : d < 4) (ht : t < 2 ^ 30) : xT (k + 2) 42 [.ref a, .int (nI t)] (xH b g l) (fun r M' => M' = xH b g l ∧ r = some (.int (xoI (if t < d then none else some (t - d))))) := by
  refine xT.of rfl (Nat.le_of_ble_eq_true rfl) ?_
  dsimp only [lv_args]
  refine xS.s1 rfl rfl ?_
  try dsimp only [Nat.reduceAdd]
  refine xS.s1 rfl rfl ?_
  try dsimp only [Nat.reduceAdd]
  -- 2 yX7_delay
  refine xS.cv rfl rfl rfl (hC _) rfl rfl ⟨by decide, rfl, rfl⟩ (c_X7_delay_5 hC) (fun v M1 hv => ?_)
  rw [hv.1, hv.2]
  clear hv M1 v
  try dsimp only [Nat.reduceAdd, Option.toList, List.cons_append, List.nil_append, List.drop]
  refine xS.br (c := .ge) (off := 7) (l := 3) rfl rfl (fun h5 => ?_) (fun h5 => ?_)
  · have g5 := xt_ge h5
    refine xS.s1 rfl rfl ?_
    try dsimp only [Nat.reduceAdd]
    refine xS.s1 rfl rfl ?_
    try dsimp only [Nat.reduceAdd]
    -- 14 yX7_delay
    refine xS.cv rfl rfl rfl (hC _) rfl rfl ⟨by decide, rfl, rfl⟩ (c_X7_delay_5 hC) (fun v M1 hv => ?_)
    rw [hv.1, hv.2]
    clear hv M1 v
    try dsimp only [Nat.reduceAdd, Option.toList, List.cons_append, List.nil_append, List.drop]
    refine xS.s1 rfl rfl ?_
    try dsimp only [Nat.reduceAdd]
    refine xS.ret rfl rfl rfl (fun _ _ => rfl) ?_
    rw [hd] at g5
    have e := xnle g5 (by omega) (by omega)
    rw [if_neg (by omega), hd, pk_sub e]
    exact ⟨rfl, rfl⟩
  · have g5 := xf_ge h5
    refine xS.s1 rfl rfl ?_
    try dsimp only [Nat.reduceAdd, xi_m1]
    refine xS.s1 rfl rfl ?_
    try dsimp only [Nat.reduceAdd]
    refine xS.ret rfl rfl rfl (fun _ _ => rfl) ?_
    rw [hd] at g5
    have e := xnlt g5 (by omega) (by omega)
    rw [if_pos e]
    exact ⟨rfl, rfl⟩

set_option maxRecDepth 10000 in
theorem c_X6_source (hC : xob a 5 [.int 0, .int 0]) (hd : g a 1 = nI d) (hd4 : d < 4) (ht : t < 2 ^ 30) : xT (k + 3) 45 [.ref a, .int (nI t)] (xH b g l) (fun r M' => M' = xH b g l ∧ r = some (.int (xoI (if t % 3 = 2 then none else if t < d then none else some (t - d))))) := by
  refine xT.of rfl (Nat.le_of_ble_eq_true rfl) ?_
  dsimp only [lv_args]
  refine xS.s1 rfl rfl ?_
  try dsimp only [Nat.reduceAdd]
  -- 1 yX6_placesToLimp
  refine xS.callS rfl rfl rfl ⟨Nat.le_of_ble_eq_true rfl, rfl⟩ (c_X6_placesToLimp (by omega)) (fun v M1 hv => ?_)
  rw [hv.1, hv.2]
  clear hv M1 v
  try dsimp only [Nat.reduceAdd, Option.toList, List.cons_append, List.nil_append, List.drop]
  refine xS.br0 (c := .ne) (off := 7) (l := 3) rfl rfl (fun h4 => ?_) (fun h4 => ?_)
  · have g4 := xt_ne h4
    refine xS.s1 rfl rfl ?_
    try dsimp only [Nat.reduceAdd]
    refine xS.s1 rfl rfl ?_
    try dsimp only [Nat.reduceAdd]
    -- 13 yX5_source
    refine xS.csup rfl rfl rfl rfl (hC _) ⟨by decide, rfl⟩ (c_X5_source_5 hC hd hd4 ht) (fun v M1 hv => ?_)
    rw [hv.1, hv.2]
    clear hv M1 v
    try dsimp only [Nat.reduceAdd, Option.toList, List.cons_append, List.nil_append, List.drop]
    refine xS.ret rfl rfl rfl (fun _ _ => rfl) ?_
    rw [xlimp] at g4
    simp [g4]
  · have g4 := xf_ne h4
    refine xS.s1 rfl rfl ?_
    try dsimp only [Nat.reduceAdd, xi_m1]
    refine xS.s1 rfl rfl ?_
    try dsimp only [Nat.reduceAdd]
    refine xS.ret rfl rfl rfl (fun _ _ => rfl) ?_
    rw [xlimp] at g4
    simp [g4, xoI]

set_option maxRecDepth 10000 in
theorem c_X5_isOf_4 (hC : xob a 4 [.int 0, .int 0]) : xT (k + 2) 43 [.ref a, .int x] (xH b g l) (fun r M' => M' = xH b g l ∧ r = some (.int (if x = 1 ∨ x = g a 0 ∨ x = 0 then 1 else 0))) := by
  refine xT.of rfl (Nat.le_of_ble_eq_true rfl) ?_
  dsimp only [lv_args]
  refine xS.s1 rfl rfl ?_
  try dsimp only [Nat.reduceAdd]
  refine xS.s1 rfl rfl ?_
  try dsimp only [Nat.reduceAdd, xi_1]
  refine xS.br (c := .eq) (off := 11) (l := 3) rfl rfl (fun h2 => ?_) (fun h2 => ?_)
  · have g2 := xt_eq h2
    refine xS.s1 rfl rfl ?_
    try dsimp only [Nat.reduceAdd, xi_1]
    refine xS.s1 rfl rfl ?_
    try dsimp only [Nat.reduceAdd]
    refine xS.ret rfl rfl rfl (fun _ _ => rfl) ?_
    refine ⟨rfl, ?_⟩
    simp [g2]
  · have g2 := xf_eq h2
    refine xS.s1 rfl rfl ?_
    try dsimp only [Nat.reduceAdd]
    refine xS.s1 rfl rfl ?_
    try dsimp only [Nat.reduceAdd]
    -- 7 yX7_isOf
    refine xS.csup rfl rfl rfl rfl (hC _) ⟨by decide, rfl⟩ (c_X7_isOf_4 hC) (fun v M1 hv => ?_)
    rw [hv.1, hv.2]
    clear hv M1 v
    try dsimp only [Nat.reduceAdd, Option.toList, List.cons_append, List.nil_append, List.drop]
    refine xS.br0 (c := .eq) (off := 7) (l := 3) rfl rfl (fun h10 => ?_) (fun h10 => ?_)
    · have g10 := xt_eq h10
      refine xS.s1 rfl rfl ?_
      try dsimp only [Nat.reduceAdd, xi_0]
      refine xS.ret rfl rfl rfl (fun _ _ => rfl) ?_
      refine ⟨rfl, ?_⟩
      first | (have e := xif0 g10; simp [g2, e]; done) | (have e := xif1 g10; simp [e]; done)
    · have g10 := xf_eq h10
      refine xS.s1 rfl rfl ?_
      try dsimp only [Nat.reduceAdd, xi_1]
      refine xS.s1 rfl rfl ?_
      try dsimp only [Nat.reduceAdd]
      refine xS.ret rfl rfl rfl (fun _ _ => rfl) ?_
      refine ⟨rfl, ?_⟩
      first | (have e := xif0 g10; simp [g2, e]; done) | (have e := xif1 g10; simp [e]; done)

set_option maxRecDepth 10000 in
theorem c_X5_isOf_5 (hC : xob a 5 [.int 0, .int 0]) : xT (k + 2) 43 [.ref a, .int x] (xH b g l) (fun r M' => M' = xH b g l ∧ r = some (.int (if x = 1 ∨ x = g a 0 ∨ x = 0 then 1 else 0))) := by
  refine xT.of rfl (Nat.le_of_ble_eq_true rfl) ?_
  dsimp only [lv_args]
  refine xS.s1 rfl rfl ?_
  try dsimp only [Nat.reduceAdd]
  refine xS.s1 rfl rfl ?_
  try dsimp only [Nat.reduceAdd, xi_1]
  refine xS.br (c := .eq) (off := 11) (l := 3) rfl rfl (fun h2 => ?_) (fun h2 => ?_)
  · have g2 := xt_eq h2
    refine xS.s1 rfl rfl ?_
    try dsimp only [Nat.reduceAdd, xi_1]
    refine xS.s1 rfl rfl ?_
    try dsimp only [Nat.reduceAdd]
    refine xS.ret rfl rfl rfl (fun _ _ => rfl) ?_
    refine ⟨rfl, ?_⟩
    simp [g2]
  · have g2 := xf_eq h2
    refine xS.s1 rfl rfl ?_
    try dsimp only [Nat.reduceAdd]
    refine xS.s1 rfl rfl ?_
    try dsimp only [Nat.reduceAdd]
    -- 7 yX7_isOf
    refine xS.csup rfl rfl rfl rfl (hC _) ⟨by decide, rfl⟩ (c_X7_isOf_5 hC) (fun v M1 hv => ?_)
    rw [hv.1, hv.2]
    clear hv M1 v
    try dsimp only [Nat.reduceAdd, Option.toList, List.cons_append, List.nil_append, List.drop]
    refine xS.br0 (c := .eq) (off := 7) (l := 3) rfl rfl (fun h10 => ?_) (fun h10 => ?_)
    · have g10 := xt_eq h10
      refine xS.s1 rfl rfl ?_
      try dsimp only [Nat.reduceAdd, xi_0]
      refine xS.ret rfl rfl rfl (fun _ _ => rfl) ?_
      refine ⟨rfl, ?_⟩
      first | (have e := xif0 g10; simp [g2, e]; done) | (have e := xif1 g10; simp [e]; done)
    · have g10 := xf_eq h10
      refine xS.s1 rfl rfl ?_
      try dsimp only [Nat.reduceAdd, xi_1]
      refine xS.s1 rfl rfl ?_
      try dsimp only [Nat.reduceAdd]
      refine xS.ret rfl rfl rfl (fun _ _ => rfl) ?_
      refine ⟨rfl, ?_⟩
      first | (have e := xif0 g10; simp [g2, e]; done) | (have e := xif1 g10; simp [e]; done)

set_option maxRecDepth 10000 in
theorem c_X9_isOf_8 (hC : xob a 8 [.int 0, .int 0]) : xT (k + 2) 74 [.ref a, .int x] (xH b g l) (fun r M' => M' = xH b g l ∧ r = some (.int (if x = 2 ∨ x = g a 0 ∨ x = 0 then 1 else 0))) := by
  refine xT.of rfl (Nat.le_of_ble_eq_true rfl) ?_
  dsimp only [lv_args]
  refine xS.s1 rfl rfl ?_
  try dsimp only [Nat.reduceAdd]
  refine xS.s1 rfl rfl ?_
  try dsimp only [Nat.reduceAdd, xi_2]
  refine xS.br (c := .eq) (off := 11) (l := 3) rfl rfl (fun h2 => ?_) (fun h2 => ?_)
  · have g2 := xt_eq h2
    refine xS.s1 rfl rfl ?_
    try dsimp only [Nat.reduceAdd, xi_1]
    refine xS.s1 rfl rfl ?_
    try dsimp only [Nat.reduceAdd]
    refine xS.ret rfl rfl rfl (fun _ _ => rfl) ?_
    refine ⟨rfl, ?_⟩
    simp [g2]
  · have g2 := xf_eq h2
    refine xS.s1 rfl rfl ?_
    try dsimp only [Nat.reduceAdd]
    refine xS.s1 rfl rfl ?_
    try dsimp only [Nat.reduceAdd]
    -- 7 yX7_isOf
    refine xS.csup rfl rfl rfl rfl (hC _) ⟨by decide, rfl⟩ (c_X7_isOf_8 hC) (fun v M1 hv => ?_)
    rw [hv.1, hv.2]
    clear hv M1 v
    try dsimp only [Nat.reduceAdd, Option.toList, List.cons_append, List.nil_append, List.drop]
    refine xS.br0 (c := .eq) (off := 7) (l := 3) rfl rfl (fun h10 => ?_) (fun h10 => ?_)
    · have g10 := xt_eq h10
      refine xS.s1 rfl rfl ?_
      try dsimp only [Nat.reduceAdd, xi_0]
      refine xS.ret rfl rfl rfl (fun _ _ => rfl) ?_
      refine ⟨rfl, ?_⟩
      first | (have e := xif0 g10; simp [g2, e]; done) | (have e := xif1 g10; simp [e]; done)
    · have g10 := xf_eq h10
      refine xS.s1 rfl rfl ?_
      try dsimp only [Nat.reduceAdd, xi_1]
      refine xS.s1 rfl rfl ?_
      try dsimp only [Nat.reduceAdd]
      refine xS.ret rfl rfl rfl (fun _ _ => rfl) ?_
      refine ⟨rfl, ?_⟩
      first | (have e := xif0 g10; simp [g2, e]; done) | (have e := xif1 g10; simp [e]; done)

set_option maxRecDepth 10000 in
theorem c_X9_isOf_3 (hC : xob a 3 [.int 0, .int 0]) : xT (k + 2) 74 [.ref a, .int x] (xH b g l) (fun r M' => M' = xH b g l ∧ r = some (.int (if x = 2 ∨ x = g a 0 ∨ x = 0 then 1 else 0))) := by
  refine xT.of rfl (Nat.le_of_ble_eq_true rfl) ?_
  dsimp only [lv_args]
  refine xS.s1 rfl rfl ?_
  try dsimp only [Nat.reduceAdd]
  refine xS.s1 rfl rfl ?_
  try dsimp only [Nat.reduceAdd, xi_2]
  refine xS.br (c := .eq) (off := 11) (l := 3) rfl rfl (fun h2 => ?_) (fun h2 => ?_)
  · have g2 := xt_eq h2
    refine xS.s1 rfl rfl ?_
    try dsimp only [Nat.reduceAdd, xi_1]
    refine xS.s1 rfl rfl ?_
    try dsimp only [Nat.reduceAdd]
    refine xS.ret rfl rfl rfl (fun _ _ => rfl) ?_
    refine ⟨rfl, ?_⟩
    simp [g2]
  · have g2 := xf_eq h2
    refine xS.s1 rfl rfl ?_
    try dsimp only [Nat.reduceAdd]
    refine xS.s1 rfl rfl ?_
    try dsimp only [Nat.reduceAdd]
    -- 7 yX7_isOf
    refine xS.csup rfl rfl rfl rfl (hC _) ⟨by decide, rfl⟩ (c_X7_isOf_3 hC) (fun v M1 hv => ?_)
    rw [hv.1, hv.2]
    clear hv M1 v
    try dsimp only [Nat.reduceAdd, Option.toList, List.cons_append, List.nil_append, List.drop]
    refine xS.br0 (c := .eq) (off := 7) (l := 3) rfl rfl (fun h10 => ?_) (fun h10 => ?_)
    · have g10 := xt_eq h10
      refine xS.s1 rfl rfl ?_
      try dsimp only [Nat.reduceAdd, xi_0]
      refine xS.ret rfl rfl rfl (fun _ _ => rfl) ?_
      refine ⟨rfl, ?_⟩
      first | (have e := xif0 g10; simp [g2, e]; done) | (have e := xif1 g10; simp [e]; done)
    · have g10 := xf_eq h10
      refine xS.s1 rfl rfl ?_
      try dsimp only [Nat.reduceAdd, xi_1]
      refine xS.s1 rfl rfl ?_
      try dsimp only [Nat.reduceAdd]
      refine xS.ret rfl rfl rfl (fun _ _ => rfl) ?_
      refine ⟨rfl, ?_⟩
      first | (have e := xif0 g10; simp [g2, e]; done) | (have e := xif1 g10; simp [e]; done)

end
