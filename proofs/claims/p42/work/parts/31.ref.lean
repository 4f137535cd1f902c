/-! LimpMirrorModel: glasses, deeds, rows taken out -/
theorem xfst_congr {p p' : Nat → Bool} : ∀ {n : Nat}, (∀ i, i < n → p i = p' i) → xfst p n = xfst p' n
  | 0, _ => rfl
  | n + 1, h => by
    rw [xfst_s, xfst_s, xfst_congr (fun i hi => h i (by omega)), h n (by omega)]
theorem xcnt_congr {p p' : Nat → Bool} : ∀ {n : Nat}, (∀ i, i < n → p i = p' i) → xcnt p n = xcnt p' n
  | 0, _ => rfl
  | n + 1, h => by
    rw [xcnt_s, xcnt_s, xcnt_congr (fun i hi => h i (by omega)), h n (by omega)]
theorem xfb_congr {tx tx' : Nat → Int32} {T : Nat} {x y : Int32} (h : ∀ i, i < 2 * T → tx i = tx' i) : xfb tx T x y = xfb tx' T x y := xfst_congr (fun i hi => by unfold xtm; rw [h _ (by omega), h _ (by omega)])
def xat (κ δ t : Nat) : Option Nat := if κ = 1 ∨ κ = 4 then (if t < δ then none else some (t - δ)) else some t
theorem xat_le {κ δ t u : Nat} (h : xat κ δ t = some u) : u ≤ t := by
  unfold xat at h
  repeat' split at h
  all_goals first | (cases h; done) | (cases h; omega)
def xDr (g : Nat → Nat → Int32) (h tx : Nat → Int32) (T G : Nat) (Lw : Nat → Nat) (F4 : Nat → Int32) (m : Nat) : Prop := ∀ d, d < m → ∃ s k, s < 6 ∧ k < G ∧ F4 (4 * d) = nI s ∧ F4 (4 * d + 1) = nI k ∧ F4 (4 * d + 2) = xshw h (Lw k / 4) (Lw k % 4) (fun i => xN (F4 (4 * i))) d ∧ F4 (4 * d + 3) = xfI (xfb tx T (nI s) (xshw h (Lw k / 4) (Lw k % 4) (fun i => xN (F4 (4 * i))) d)) ∧ g 84 d = nI s ∧ g 85 d = nI k
theorem xDr_84 {g : Nat → Nat → Int32} {h tx : Nat → Int32} {T G : Nat} {Lw : Nat → Nat} {F4 : Nat → Int32} {m : Nat} (hD : xDr g h tx T G Lw F4 m) : ∀ d, d < m → g 84 d = nI (xN (F4 (4 * d))) ∧ xN (F4 (4 * d)) < 6 := fun d hd => by
  obtain ⟨s, k, h1, h2, h3, h4, h5, h6, h7, h8⟩ := hD d hd
  rw [h3, xN_nI (by omega)]
  exact ⟨h7, h1⟩
theorem xDr_fr {g g' : Nat → Nat → Int32} {h tx : Nat → Int32} {T G : Nat} {Lw : Nat → Nat} {F4 : Nat → Int32} {m : Nat} (h84 : g' 84 = g 84) (h85 : g' 85 = g 85) (hD : xDr g h tx T G Lw F4 m) : xDr g' h tx T G Lw F4 m := by
  intro d hd
  rw [h84, h85]
  exact hD d hd

section
variable {k a c n n2 m t p s d i1 j1 : Nat} {b : Nat × Nat} {g : Nat → Nat → Int32} {l : Nat → Nat → Int64} {i j x y z v w : Int32} {u w1 w2 : Int64}
variable {L G T e1 q1 κ δ : Nat} {Lw f : Nat → Nat} {h tx F4 Rw Rw2 : Nat → Int32}
theorem c_X12_showsBy (hA : xar a n) (hR : xRr g h tx G T Lw) (ht : t < 2 ^ 30) (hd4 : d < 4) (hk : κ < 6) (hu : ∀ u, xat κ d t = some u → u < n ∧ g a u = nI (f u) ∧ f u < 6) : xT (k + 2) 181 [.ref 73, .int (nI κ), .int (nI d), .ref a, .int (nI t)] (xH b g l) (fun r M' => M' = xH b g l ∧ r = some (.int (xshw h κ d f t))) := by
  have e : κ = 0 ∨ κ = 1 ∨ κ = 2 ∨ κ = 3 ∨ κ = 4 ∨ κ = 5 := by omega
  rcases e with rfl | rfl | rfl | rfl | rfl | rfl
  · obtain ⟨h1, h2, h3⟩ := hu t rfl
    exact c_X12_showsBy_0 hA hR ht hd4 h1 h2 h3
  · by_cases c : t < d
    · exact c_X12_showsBy_1a hA hR ht hd4 c
    · obtain ⟨h1, h2, h3⟩ := hu (t - d) (by unfold xat; rw [if_pos (Or.inl rfl), if_neg c])
      exact c_X12_showsBy_1b hA hR ht hd4 (by omega) h1 h2 h3
  · obtain ⟨h1, h2, h3⟩ := hu t rfl
    exact c_X12_showsBy_2 hA hR ht hd4 h1 h2 h3
  · obtain ⟨h1, h2, h3⟩ := hu t rfl
    exact c_X12_showsBy_3 hA hR ht hd4 h1 h2 h3
  · by_cases c : t < d
    · exact c_X12_showsBy_4a hA hR ht hd4 c
    · obtain ⟨h1, h2, h3⟩ := hu (t - d) (by unfold xat; rw [if_pos (Or.inr rfl), if_neg c])
      exact c_X12_showsBy_4b hA hR ht hd4 (by omega) h1 h2 h3
  · obtain ⟨h1, h2, h3⟩ := hu t rfl
    exact c_X12_showsBy_5 hA hR ht hd4 h1 h2 h3

set_option maxRecDepth 10000 in
theorem c_X12_showsOf_u (hA : xar a n) (hR : xRr g h tx G T Lw) (ht : t < 2 ^ 30) (hk : s < G) (hu : ∀ u, xat (Lw s / 4) (Lw s % 4) t = some u → u < n ∧ g a u = nI (f u) ∧ f u < 6) : xT (k + 3) 182 [.ref 73, .int (nI s), .ref a, .int (nI t)] (xH b g l) (fun r M' => M' = xH b g l ∧ r = some (.int (xshw h (Lw s / 4) (Lw s % 4) f t))) := by
  have h6 := hR.1.2
  obtain ⟨q1, q2, q3⟩ := hR.2.2.1 s hk
  refine xT.of rfl (Nat.le_of_ble_eq_true rfl) ?_
  change xS _ _ 0 [(0, .ref 73), (1, .int (nI s)), (2, .ref a), (3, .int (nI t))] [] _ _
  refine xS.s1 rfl rfl ?_
  try dsimp only [Nat.reduceAdd]
  refine xS.s1 rfl rfl ?_
  try dsimp only [Nat.reduceAdd]
  refine xS.gR rfl rfl rfl ⟨by decide, rfl⟩ rfl ?_
  try dsimp only [Nat.reduceAdd]
  refine xS.s1 rfl rfl ?_
  try dsimp only [Nat.reduceAdd, xi_2]
  refine xS.s1 rfl rfl ?_
  try dsimp only [Nat.reduceAdd]
  refine xS.s1 rfl rfl ?_
  try dsimp only [Nat.reduceAdd]
  rw [show ((2 * nI s) : Int32) = nI (2 * s) from by simp only [← nI_add, ← pk_mul]; rfl]
  refine xS.ia rfl xar_82 (by omega) ?_
  try dsimp only [Nat.reduceAdd]
  rw [q1]
  refine xS.s1 rfl rfl ?_
  try dsimp only [Nat.reduceAdd]
  refine xS.gR rfl rfl rfl ⟨by decide, rfl⟩ rfl ?_
  try dsimp only [Nat.reduceAdd]
  refine xS.s1 rfl rfl ?_
  try dsimp only [Nat.reduceAdd, xi_2]
  refine xS.s1 rfl rfl ?_
  try dsimp only [Nat.reduceAdd]
  refine xS.s1 rfl rfl ?_
  try dsimp only [Nat.reduceAdd]
  refine xS.s1 rfl rfl ?_
  try dsimp only [Nat.reduceAdd, xi_1]
  refine xS.s1 rfl rfl ?_
  try dsimp only [Nat.reduceAdd]
  rw [show (((2 * nI s) + 1) : Int32) = nI ((2 * s) + 1) from by simp only [← nI_add, ← pk_mul]; rfl]
  refine xS.ia rfl xar_82 (by omega) ?_
  try dsimp only [Nat.reduceAdd]
  rw [q2]
  refine xS.s1 rfl rfl ?_
  try dsimp only [Nat.reduceAdd]
  refine xS.s1 rfl rfl ?_
  try dsimp only [Nat.reduceAdd]
  -- 21 yX12_showsBy
  refine xS.cv rfl rfl rfl rfl rfl rfl ⟨by decide, rfl, rfl⟩ (c_X12_showsBy hA hR ht (by omega) (by omega) hu) (fun v M1 hv => ?_)
  rw [hv.1, hv.2]
  clear hv M1 v
  try dsimp only [Nat.reduceAdd, Option.toList, List.cons_append, List.nil_append, List.drop]
  refine xS.ret rfl rfl rfl (fun _ _ => rfl) ?_
  exact ⟨rfl, rfl⟩

theorem c_X12_showsOf (hA : xar a n) (hR : xRr g h tx G T Lw) (ht : t < n) (hk : s < G) (hf : ∀ u, u ≤ t → g a u = nI (f u) ∧ f u < 6) : xT (k + 3) 182 [.ref 73, .int (nI s), .ref a, .int (nI t)] (xH b g l) (fun r M' => M' = xH b g l ∧ r = some (.int (xshw h (Lw s / 4) (Lw s % 4) f t))) :=
  c_X12_showsOf_u hA hR (by have := hA.2; omega) hk (fun u hu => ⟨by have := xat_le hu; omega, hf u (xat_le hu)⟩)

set_option maxRecDepth 10000 in
theorem c_X12_termBy (hR : xRr g h tx G T Lw) : xT (k + 1) 183 [.ref 73, .int x, .int y] (xH b g l) (fun r M' => M' = xH b g l ∧ r = some (.int (xfI (xfb tx T x y)))) := by
  have h8 := hR.2.1.2
  rw [show xfb tx T x y = xfb (g 83) T x y from xfb_congr (fun i hi => (hR.2.2.2.2 i hi).symm)]
  refine xT.of rfl (Nat.le_of_ble_eq_true rfl) ?_
  change xS _ _ 0 [(0, .ref 73), (1, .int x), (2, .int y)] [] _ _
  refine xS.s1 rfl rfl ?_
  try dsimp only [Nat.reduceAdd, xi_0]
  refine xS.s1 rfl rfl ?_
  try dsimp only [Nat.reduceAdd]
  refine xS.pick [0, 1, 2, 3] rfl ?_
  refine xS.loop (σ := Unit) (T) (fun j S => [(3, .int (nI j)), (0, .ref 73), (1, .int x), (2, .int y)]) (fun _ _ => xH b g l) (fun j _ => xfst (xtm (g 83) x y) j = none) (()) (rfl) (rfl) (rfl) ?_
  intro j S hj hI ih
  try dsimp only
  refine xS.s1 rfl rfl ?_
  try dsimp only [Nat.reduceAdd]
  refine xS.s1 rfl rfl ?_
  try dsimp only [Nat.reduceAdd]
  refine xS.gI rfl rfl rfl ⟨by decide, rfl⟩ rfl ?_
  try dsimp only [Nat.reduceAdd]
  refine xS.br (c := .ge) (off := 37) (l := 3) rfl rfl (fun h7 => ?_) (fun h7 => ?_)
  · have g7 := xt_ge h7
    refine xS.s1 rfl rfl ?_
    try dsimp only [Nat.reduceAdd, xj_m9]
    refine xS.ret rfl rfl rfl (fun _ _ => rfl) ?_
    rw [hR.2.1.1] at g7
    have e := xnle g7 (by omega) (by omega)
    unfold xfb
    rw [show T = j by omega, hI]
    exact ⟨rfl, rfl⟩
  · have g7 := xf_ge h7
    rw [hR.2.1.1] at g7
    have hlt := xnlt g7 (by omega) (by omega)
    refine xS.s1 rfl rfl ?_
    try dsimp only [Nat.reduceAdd]
    refine xS.gR rfl rfl rfl ⟨by decide, rfl⟩ rfl ?_
    try dsimp only [Nat.reduceAdd]
    refine xS.s1 rfl rfl ?_
    try dsimp only [Nat.reduceAdd, xi_2]
    refine xS.s1 rfl rfl ?_
    try dsimp only [Nat.reduceAdd]
    refine xS.s1 rfl rfl ?_
    try dsimp only [Nat.reduceAdd]
    rw [show ((2 * nI j) : Int32) = nI (2 * j) from by simp only [← nI_add, ← pk_mul]; rfl]
    refine xS.ia rfl xar_83 (by omega) ?_
    try dsimp only [Nat.reduceAdd]
    refine xS.s1 rfl rfl ?_
    try dsimp only [Nat.reduceAdd]
    refine xS.br (c := .ne) (off := 19) (l := 3) rfl rfl (fun h19 => ?_) (fun h19 => ?_)
    · have g19 := xt_ne h19
      refine xS.s1 rfl rfl ?_
      try dsimp only [Nat.reduceAdd, xi_1]
      rw [nI_1]
      refine xS.s1 rfl rfl ?_
      try dsimp only [Nat.reduceAdd]
      refine xS.pick [0, 1, 2, 3] rfl ?_
      exact ih () (by omega) (xfst_n hI (by simp [xtm, g19]))
    · have g19 := xf_ne h19
      refine xS.s1 rfl rfl ?_
      try dsimp only [Nat.reduceAdd]
      refine xS.gR rfl rfl rfl ⟨by decide, rfl⟩ rfl ?_
      try dsimp only [Nat.reduceAdd]
      refine xS.s1 rfl rfl ?_
      try dsimp only [Nat.reduceAdd, xi_2]
      refine xS.s1 rfl rfl ?_
      try dsimp only [Nat.reduceAdd]
      refine xS.s1 rfl rfl ?_
      try dsimp only [Nat.reduceAdd]
      refine xS.s1 rfl rfl ?_
      try dsimp only [Nat.reduceAdd, xi_1]
      refine xS.s1 rfl rfl ?_
      try dsimp only [Nat.reduceAdd]
      rw [show (((2 * nI j) + 1) : Int32) = nI ((2 * j) + 1) from by simp only [← nI_add, ← pk_mul]; rfl]
      refine xS.ia rfl xar_83 (by omega) ?_
      try dsimp only [Nat.reduceAdd]
      refine xS.s1 rfl rfl ?_
      try dsimp only [Nat.reduceAdd]
      refine xS.br (c := .ne) (off := 5) (l := 3) rfl rfl (fun h33 => ?_) (fun h33 => ?_)
      · have g33 := xt_ne h33
        refine xS.s1 rfl rfl ?_
        try dsimp only [Nat.reduceAdd, xi_1]
        rw [nI_1]
        refine xS.s1 rfl rfl ?_
        try dsimp only [Nat.reduceAdd]
        refine xS.pick [0, 1, 2, 3] rfl ?_
        exact ih () (by omega) (xfst_n hI (by simp [xtm, g19, g33]))
      · have g33 := xf_ne h33
        refine xS.s1 rfl rfl ?_
        try dsimp only [Nat.reduceAdd]
        refine xS.ret rfl rfl rfl (fun _ _ => rfl) ?_
        unfold xfb
        rw [xfst_at hI (by simp [xtm, g19, g33]) hlt]
        exact ⟨rfl, rfl⟩

set_option maxRecDepth 10000 in
theorem c_X12_shownOf (hR : xRr g h tx G T Lw) (hD : xDr g h tx T G Lw F4 m) (hm : m ≤ 40) (hd : d < m) : xT (k + 4) 184 [.ref 73, .int (nI d)] (xH b g l) (fun r M' => M' = xH b g l ∧ r = some (.int (F4 (4 * d + 2)))) := by
  obtain ⟨s, k1, h1, h2, h3, h4, h5, h6, h7, h8⟩ := hD d hd
  refine xT.of rfl (Nat.le_of_ble_eq_true rfl) ?_
  change xS _ _ 0 [(0, .ref 73), (1, .int (nI d))] [] _ _
  refine xS.s1 rfl rfl ?_
  try dsimp only [Nat.reduceAdd]
  refine xS.s1 rfl rfl ?_
  try dsimp only [Nat.reduceAdd]
  refine xS.gR rfl rfl rfl ⟨by decide, rfl⟩ rfl ?_
  try dsimp only [Nat.reduceAdd]
  refine xS.s1 rfl rfl ?_
  try dsimp only [Nat.reduceAdd]
  refine xS.ia rfl xar_85 (by omega) ?_
  try dsimp only [Nat.reduceAdd]
  rw [h8]
  refine xS.s1 rfl rfl ?_
  try dsimp only [Nat.reduceAdd]
  refine xS.gR rfl rfl rfl ⟨by decide, rfl⟩ rfl ?_
  try dsimp only [Nat.reduceAdd]
  refine xS.s1 rfl rfl ?_
  try dsimp only [Nat.reduceAdd]
  -- 12 yX12_showsOf
  refine xS.cv rfl rfl rfl rfl rfl rfl ⟨by decide, rfl, rfl⟩ (c_X12_showsOf (f := fun i => xN (F4 (4 * i))) xar_84 hR (by omega) h2 (fun u hu => xDr_84 hD u (by omega))) (fun v M1 hv => ?_)
  rw [hv.1, hv.2]
  clear hv M1 v
  try dsimp only [Nat.reduceAdd, Option.toList, List.cons_append, List.nil_append, List.drop]
  refine xS.ret rfl rfl rfl (fun _ _ => rfl) ?_
  rw [h5]
  exact ⟨rfl, rfl⟩

set_option maxRecDepth 10000 in
theorem c_X12_brokenBy (hR : xRr g h tx G T Lw) (hD : xDr g h tx T G Lw F4 m) (hm : m ≤ 40) (hd : d < m) : xT (k + 5) 185 [.ref 73, .int (nI d)] (xH b g l) (fun r M' => M' = xH b g l ∧ r = some (.int (F4 (4 * d + 3)))) := by
  obtain ⟨s, k1, h1, h2, h3, h4, h5, h6, h7, h8⟩ := hD d hd
  refine xT.of rfl (Nat.le_of_ble_eq_true rfl) ?_
  change xS _ _ 0 [(0, .ref 73), (1, .int (nI d))] [] _ _
  refine xS.s1 rfl rfl ?_
  try dsimp only [Nat.reduceAdd]
  refine xS.s1 rfl rfl ?_
  try dsimp only [Nat.reduceAdd]
  refine xS.gR rfl rfl rfl ⟨by decide, rfl⟩ rfl ?_
  try dsimp only [Nat.reduceAdd]
  refine xS.s1 rfl rfl ?_
  try dsimp only [Nat.reduceAdd]
  refine xS.ia rfl xar_84 (by omega) ?_
  try dsimp only [Nat.reduceAdd]
  rw [h7]
  refine xS.s1 rfl rfl ?_
  try dsimp only [Nat.reduceAdd]
  refine xS.s1 rfl rfl ?_
  try dsimp only [Nat.reduceAdd]
  -- 9 yX12_shownOf
  refine xS.cv rfl rfl rfl rfl rfl rfl ⟨by decide, rfl, rfl⟩ (c_X12_shownOf hR hD hm hd) (fun v M1 hv => ?_)
  rw [hv.1, hv.2, h5]
  clear hv M1 v
  try dsimp only [Nat.reduceAdd, Option.toList, List.cons_append, List.nil_append, List.drop]
  -- 12 yX12_termBy
  refine xS.cv rfl rfl rfl rfl rfl rfl ⟨by decide, rfl, rfl⟩ (c_X12_termBy hR) (fun v M1 hv => ?_)
  rw [hv.1, hv.2]
  clear hv M1 v
  try dsimp only [Nat.reduceAdd, Option.toList, List.cons_append, List.nil_append, List.drop]
  refine xS.ret rfl rfl rfl (fun _ _ => rfl) ?_
  rw [h6]
  exact ⟨rfl, rfl⟩

theorem xiso_r {κ t : Nat} (hk : κ < 6) (ht1 : 1 ≤ t) (ht : t ≤ 5) : (xiso κ (nI t) = true) ↔ (κ = t ∨ (κ = 4 ∧ t = 1) ∨ (κ = 5 ∧ t = 2)) := by
  have hd : ∀ κ t : Fin 6, 1 ≤ t.val → decide ((xiso κ.val (nI t.val) = true) ↔ (κ.val = t.val ∨ (κ.val = 4 ∧ t.val = 1) ∨ (κ.val = 5 ∧ t.val = 2))) = true := by decide
  exact of_decide_eq_true (hd ⟨κ, hk⟩ ⟨t, by omega⟩ ht1)

set_option maxRecDepth 10000 in
theorem c_X12_isOf (hk : κ < 6) (ht1 : 1 ≤ t) (ht : t ≤ 5) : xT (k + 1) 186 [.int (nI κ), .int (nI t)] (xH b g l) (fun r M' => M' = xH b g l ∧ r = some (.int (if xiso κ (nI t) = true then 1 else 0))) := by
  refine xT.of rfl (Nat.le_of_ble_eq_true rfl) ?_
  change xS _ _ 0 [(0, .int (nI κ)), (1, .int (nI t))] [] _ _
  refine xS.s1 rfl rfl ?_
  try dsimp only [Nat.reduceAdd]
  refine xS.s1 rfl rfl ?_
  try dsimp only [Nat.reduceAdd]
  refine xS.br (c := .eq) (off := 23) (l := 3) rfl rfl (fun h2 => ?_) (fun h2 => ?_)
  · have g2 := xt_eq h2
    refine xS.s1 rfl rfl ?_
    try dsimp only [Nat.reduceAdd, xi_1]
    refine xS.s1 rfl rfl ?_
    try dsimp only [Nat.reduceAdd]
    refine xS.ret rfl rfl rfl (fun _ _ => rfl) ?_
    have e2 : κ = t := (nI_eq (a := κ) (b := t) (by omega) (by omega)).mp g2
    refine ⟨rfl, ?_⟩
    have hr := xiso_r hk ht1 ht
    by_cases c : xiso κ (nI t) = true
    · first | (rw [if_pos c]; done) | (exfalso; have := hr.mp c; omega)
    · first | (rw [if_neg c]; done) | (exfalso; have := (not_congr hr).mp c; omega)
  · have g2 := xf_eq h2
    refine xS.s1 rfl rfl ?_
    try dsimp only [Nat.reduceAdd]
    refine xS.s1 rfl rfl ?_
    try dsimp only [Nat.reduceAdd, xi_4]
    refine xS.br (c := .ne) (off := 8) (l := 3) rfl rfl (fun h7 => ?_) (fun h7 => ?_)
    · have g7 := xt_ne h7
      refine xS.s1 rfl rfl ?_
      try dsimp only [Nat.reduceAdd]
      refine xS.s1 rfl rfl ?_
      try dsimp only [Nat.reduceAdd, xi_5]
      refine xS.br (c := .ne) (off := 12) (l := 3) rfl rfl (fun h17 => ?_) (fun h17 => ?_)
      · have g17 := xt_ne h17
        refine xS.s1 rfl rfl ?_
        try dsimp only [Nat.reduceAdd, xi_0]
        refine xS.ret rfl rfl rfl (fun _ _ => rfl) ?_
        have e2 : ¬ κ = t := fun z => g2 (congrArg nI z)
        have e7 : ¬ κ = 4 := fun z => g7 (congrArg nI z)
        have e17 : ¬ κ = 5 := fun z => g17 (congrArg nI z)
        refine ⟨rfl, ?_⟩
        have hr := xiso_r hk ht1 ht
        by_cases c : xiso κ (nI t) = true
        · first | (rw [if_pos c]; done) | (exfalso; have := hr.mp c; omega)
        · first | (rw [if_neg c]; done) | (exfalso; have := (not_congr hr).mp c; omega)
      · have g17 := xf_ne h17
        refine xS.s1 rfl rfl ?_
        try dsimp only [Nat.reduceAdd]
        refine xS.s1 rfl rfl ?_
        try dsimp only [Nat.reduceAdd, xi_2]
        refine xS.br (c := .ne) (off := 7) (l := 3) rfl rfl (fun h22 => ?_) (fun h22 => ?_)
        · have g22 := xt_ne h22
          refine xS.s1 rfl rfl ?_
          try dsimp only [Nat.reduceAdd, xi_0]
          refine xS.ret rfl rfl rfl (fun _ _ => rfl) ?_
          have e2 : ¬ κ = t := fun z => g2 (congrArg nI z)
          have e7 : ¬ κ = 4 := fun z => g7 (congrArg nI z)
          have e17 : κ = 5 := (nI_eq (a := κ) (b := 5) (by omega) (by omega)).mp g17
          have e22 : ¬ t = 2 := fun z => g22 (congrArg nI z)
          refine ⟨rfl, ?_⟩
          have hr := xiso_r hk ht1 ht
          by_cases c : xiso κ (nI t) = true
          · first | (rw [if_pos c]; done) | (exfalso; have := hr.mp c; omega)
          · first | (rw [if_neg c]; done) | (exfalso; have := (not_congr hr).mp c; omega)
        · have g22 := xf_ne h22
          refine xS.s1 rfl rfl ?_
          try dsimp only [Nat.reduceAdd, xi_1]
          refine xS.s1 rfl rfl ?_
          try dsimp only [Nat.reduceAdd]
          refine xS.ret rfl rfl rfl (fun _ _ => rfl) ?_
          have e2 : ¬ κ = t := fun z => g2 (congrArg nI z)
          have e7 : ¬ κ = 4 := fun z => g7 (congrArg nI z)
          have e17 : κ = 5 := (nI_eq (a := κ) (b := 5) (by omega) (by omega)).mp g17
          have e22 : t = 2 := (nI_eq (a := t) (b := 2) (by omega) (by omega)).mp g22
          refine ⟨rfl, ?_⟩
          have hr := xiso_r hk ht1 ht
          by_cases c : xiso κ (nI t) = true
          · first | (rw [if_pos c]; done) | (exfalso; have := hr.mp c; omega)
          · first | (rw [if_neg c]; done) | (exfalso; have := (not_congr hr).mp c; omega)
    · have g7 := xf_ne h7
      refine xS.s1 rfl rfl ?_
      try dsimp only [Nat.reduceAdd]
      refine xS.s1 rfl rfl ?_
      try dsimp only [Nat.reduceAdd, xi_1]
      refine xS.br (c := .eq) (off := 13) (l := 3) rfl rfl (fun h12 => ?_) (fun h12 => ?_)
      · have g12 := xt_eq h12
        refine xS.s1 rfl rfl ?_
        try dsimp only [Nat.reduceAdd, xi_1]
        refine xS.s1 rfl rfl ?_
        try dsimp only [Nat.reduceAdd]
        refine xS.ret rfl rfl rfl (fun _ _ => rfl) ?_
        have e2 : ¬ κ = t := fun z => g2 (congrArg nI z)
        have e7 : κ = 4 := (nI_eq (a := κ) (b := 4) (by omega) (by omega)).mp g7
        have e12 : t = 1 := (nI_eq (a := t) (b := 1) (by omega) (by omega)).mp g12
        refine ⟨rfl, ?_⟩
        have hr := xiso_r hk ht1 ht
        by_cases c : xiso κ (nI t) = true
        · first | (rw [if_pos c]; done) | (exfalso; have := hr.mp c; omega)
        · first | (rw [if_neg c]; done) | (exfalso; have := (not_congr hr).mp c; omega)
      · have g12 := xf_eq h12
        refine xS.s1 rfl rfl ?_
        try dsimp only [Nat.reduceAdd]
        refine xS.s1 rfl rfl ?_
        try dsimp only [Nat.reduceAdd, xi_5]
        refine xS.br (c := .ne) (off := 12) (l := 3) rfl rfl (fun h17 => ?_) (fun h17 => ?_)
        · have g17 := xt_ne h17
          refine xS.s1 rfl rfl ?_
          try dsimp only [Nat.reduceAdd, xi_0]
          refine xS.ret rfl rfl rfl (fun _ _ => rfl) ?_
          have e2 : ¬ κ = t := fun z => g2 (congrArg nI z)
          have e7 : κ = 4 := (nI_eq (a := κ) (b := 4) (by omega) (by omega)).mp g7
          have e12 : ¬ t = 1 := fun z => g12 (congrArg nI z)
          have e17 : ¬ κ = 5 := fun z => g17 (congrArg nI z)
          refine ⟨rfl, ?_⟩
          have hr := xiso_r hk ht1 ht
          by_cases c : xiso κ (nI t) = true
          · first | (rw [if_pos c]; done) | (exfalso; have := hr.mp c; omega)
          · first | (rw [if_neg c]; done) | (exfalso; have := (not_congr hr).mp c; omega)
        · have g17 := xf_ne h17
          refine xS.s1 rfl rfl ?_
          try dsimp only [Nat.reduceAdd]
          refine xS.s1 rfl rfl ?_
          try dsimp only [Nat.reduceAdd, xi_2]
          refine xS.br (c := .ne) (off := 7) (l := 3) rfl rfl (fun h22 => ?_) (fun h22 => ?_)
          · have g22 := xt_ne h22
            refine xS.s1 rfl rfl ?_
            try dsimp only [Nat.reduceAdd, xi_0]
            refine xS.ret rfl rfl rfl (fun _ _ => rfl) ?_
            have e2 : ¬ κ = t := fun z => g2 (congrArg nI z)
            have e7 : κ = 4 := (nI_eq (a := κ) (b := 4) (by omega) (by omega)).mp g7
            have e12 : ¬ t = 1 := fun z => g12 (congrArg nI z)
            have e17 : κ = 5 := (nI_eq (a := κ) (b := 5) (by omega) (by omega)).mp g17
            have e22 : ¬ t = 2 := fun z => g22 (congrArg nI z)
            refine ⟨rfl, ?_⟩
            have hr := xiso_r hk ht1 ht
            by_cases c : xiso κ (nI t) = true
            · first | (rw [if_pos c]; done) | (exfalso; have := hr.mp c; omega)
            · first | (rw [if_neg c]; done) | (exfalso; have := (not_congr hr).mp c; omega)
          · have g22 := xf_ne h22
            refine xS.s1 rfl rfl ?_
            try dsimp only [Nat.reduceAdd, xi_1]
            refine xS.s1 rfl rfl ?_
            try dsimp only [Nat.reduceAdd]
            refine xS.ret rfl rfl rfl (fun _ _ => rfl) ?_
            have e2 : ¬ κ = t := fun z => g2 (congrArg nI z)
            have e7 : κ = 4 := (nI_eq (a := κ) (b := 4) (by omega) (by omega)).mp g7
            have e12 : ¬ t = 1 := fun z => g12 (congrArg nI z)
            have e17 : κ = 5 := (nI_eq (a := κ) (b := 5) (by omega) (by omega)).mp g17
            have e22 : t = 2 := (nI_eq (a := t) (b := 2) (by omega) (by omega)).mp g22
            refine ⟨rfl, ?_⟩
            have hr := xiso_r hk ht1 ht
            by_cases c : xiso κ (nI t) = true
            · first | (rw [if_pos c]; done) | (exfalso; have := hr.mp c; omega)
            · first | (rw [if_neg c]; done) | (exfalso; have := (not_congr hr).mp c; omega)

theorem c_in_x : xT (k + 1) 151 [.int x, .int y, .int z] (xH b g l) (fun r M' => M' = xH b g l ∧ r = some (.int (if y ≤ x ∧ x ≤ z then 1 else 0))) := c_X12_in

set_option maxRecDepth 10000 in
theorem c_X12_glass_bad (hR : xRr g h tx G T Lw) (hx : ¬ ((0 ≤ x ∧ x < nI G) ∧ 0 ≤ y ∧ y ≤ 3)) : xT (k + 6) 187 [.ref 73, .int x, .int y] (xH b g l) (fun r M' => M' = xH b g l ∧ r = some (.int (-1))) := by
  refine xT.of rfl (Nat.le_of_ble_eq_true rfl) ?_
  change xS _ _ 0 [(0, .ref 73), (1, .int x), (2, .int y)] [] _ _
  refine xS.s1 rfl rfl ?_
  try dsimp only [Nat.reduceAdd]
  refine xS.s1 rfl rfl ?_
  try dsimp only [Nat.reduceAdd]
  -- 2 yX12_isGlass
  refine xS.cv rfl rfl rfl rfl rfl rfl ⟨by decide, rfl, rfl⟩ (c_X12_isGlass hR.1.1 hR.1.2) (fun v M1 hv => ?_)
  rw [hv.1, hv.2]
  clear hv M1 v
  try dsimp only [Nat.reduceAdd, Option.toList, List.cons_append, List.nil_append, List.drop]
  refine xS.br0 (c := .eq) (off := 12) (l := 3) rfl rfl (fun h5 => ?_) (fun h5 => ?_)
  · have g5 := xt_eq h5
    refine xS.s1 rfl rfl ?_
    try dsimp only [Nat.reduceAdd, xi_m1]
    refine xS.ret rfl rfl rfl (fun _ _ => rfl) ?_
    exact ⟨rfl, rfl⟩
  · have g5 := xf_eq h5
    refine xS.s1 rfl rfl ?_
    try dsimp only [Nat.reduceAdd]
    refine xS.s1 rfl rfl ?_
    try dsimp only [Nat.reduceAdd, xi_0]
    refine xS.s1 rfl rfl ?_
    try dsimp only [Nat.reduceAdd, xi_3]
    -- 11 yX12_in
    refine xS.callS rfl rfl rfl ⟨Nat.le_of_ble_eq_true rfl, rfl⟩ c_in_x (fun v M1 hv => ?_)
    rw [hv.1, hv.2]
    clear hv M1 v
    try dsimp only [Nat.reduceAdd, Option.toList, List.cons_append, List.nil_append, List.drop]
    refine xS.br0 (c := .ne) (off := 5) (l := 3) rfl rfl (fun h14 => ?_) (fun h14 => ?_)
    · have g14 := xt_ne h14
      exact absurd ⟨xif1 g5, xif1 g14⟩ hx
    · have g14 := xf_ne h14
      refine xS.s1 rfl rfl ?_
      try dsimp only [Nat.reduceAdd, xi_m1]
      refine xS.ret rfl rfl rfl (fun _ _ => rfl) ?_
      exact ⟨rfl, rfl⟩

set_option maxRecDepth 10000 in
theorem c_X12_glass_0 (hR : xRr g h tx G T Lw) (hk : s < G) (hD : xDr g h tx T G Lw F4 m) (hm : m ≤ 40) (hs : g 73 14 = nI m) : xT (k + 6) 187 [.ref 73, .int (nI s), .int (nI 0)] (xH b g l) (fun r M' => M' = xH b (up g 73 20 (nI (Lw s / 4))) l ∧ r = some (.int 1)) := by
  have h6 := hR.1.2
  obtain ⟨q1, q2, q3⟩ := hR.2.2.1 s hk
  refine xT.of rfl (Nat.le_of_ble_eq_true rfl) ?_
  change xS _ _ 0 [(0, .ref 73), (1, .int (nI s)), (2, .int (nI 0))] [] _ _
  refine xS.s1 rfl rfl ?_
  try dsimp only [Nat.reduceAdd]
  refine xS.s1 rfl rfl ?_
  try dsimp only [Nat.reduceAdd]
  -- 2 yX12_isGlass
  refine xS.cv rfl rfl rfl rfl rfl rfl ⟨by decide, rfl, rfl⟩ (c_X12_isGlass_in hR.1.1 hR.1.2 hk) (fun v M1 hv => ?_)
  rw [hv.1, hv.2]
  clear hv M1 v
  try dsimp only [Nat.reduceAdd, Option.toList, List.cons_append, List.nil_append, List.drop]
  refine xS.br0 (c := .eq) (off := 12) (l := 3) rfl rfl (fun h5 => ?_) (fun h5 => ?_)
  · have g5 := xt_eq h5
    exfalso; first | exact absurd g5 (by decide) | (simp (disch := omega) only [Int32.lt_iff_toInt_lt, Int32.le_iff_toInt_le, nI_toInt, Int32.reduceToInt] at g5 <;> omega)
  · have g5 := xf_eq h5
    refine xS.s1 rfl rfl ?_
    try dsimp only [Nat.reduceAdd]
    refine xS.s1 rfl rfl ?_
    try dsimp only [Nat.reduceAdd, xi_0]
    refine xS.s1 rfl rfl ?_
    try dsimp only [Nat.reduceAdd, xi_3]
    -- 11 yX12_in
    refine xS.callS rfl rfl rfl ⟨Nat.le_of_ble_eq_true rfl, rfl⟩ (c_in_n1 (t := 0) (s := 0) (m := 3) (by decide) (by decide) (by decide)) (fun v M1 hv => ?_)
    rw [hv.1, hv.2]
    clear hv M1 v
    try dsimp only [Nat.reduceAdd, Option.toList, List.cons_append, List.nil_append, List.drop]
    refine xS.br0 (c := .ne) (off := 5) (l := 3) rfl rfl (fun h14 => ?_) (fun h14 => ?_)
    · have g14 := xt_ne h14
      refine xS.s1 rfl rfl ?_
      try dsimp only [Nat.reduceAdd]
      refine xS.s1 rfl rfl ?_
      try dsimp only [Nat.reduceAdd, xi_2]
      refine xS.br (c := .ge) (off := 18) (l := 3) rfl rfl (fun h21 => ?_) (fun h21 => ?_)
      · have g21 := xt_ge h21
        exfalso; first | exact absurd g21 (by decide) | (simp (disch := omega) only [Int32.lt_iff_toInt_lt, Int32.le_iff_toInt_le, nI_toInt, Int32.reduceToInt] at g21 <;> omega)
      · have g21 := xf_ge h21
        refine xS.s1 rfl rfl ?_
        try dsimp only [Nat.reduceAdd]
        refine xS.s1 rfl rfl ?_
        try dsimp only [Nat.reduceAdd]
        refine xS.gR rfl rfl rfl ⟨by decide, rfl⟩ rfl ?_
        try dsimp only [Nat.reduceAdd]
        refine xS.s1 rfl rfl ?_
        try dsimp only [Nat.reduceAdd, xi_2]
        refine xS.s1 rfl rfl ?_
        try dsimp only [Nat.reduceAdd]
        refine xS.s1 rfl rfl ?_
        try dsimp only [Nat.reduceAdd]
        refine xS.s1 rfl rfl ?_
        try dsimp only [Nat.reduceAdd]
        refine xS.s1 rfl rfl ?_
        try dsimp only [Nat.reduceAdd]
        rw [show (((2 * nI s) + nI 0) : Int32) = nI ((2 * s) + 0) from by simp only [← nI_add, ← pk_mul]; rfl]
        refine xS.ia rfl xar_82 (by omega) ?_
        try dsimp only [Nat.reduceAdd]
        rw [show 2 * s + 0 = 2 * s from rfl, q1]
        -- 35 yX12_tells
        refine xS.cv rfl rfl rfl rfl rfl rfl ⟨by decide, rfl, rfl⟩ c_X12_tells (fun v M1 hv => ?_)
        rw [hv.1, hv.2]
        clear hv M1 v
        try dsimp only [Nat.reduceAdd, Option.toList, List.cons_append, List.nil_append, List.drop]
        refine xS.ret rfl rfl rfl (fun _ _ => rfl) ?_
        exact ⟨rfl, rfl⟩
    · have g14 := xf_ne h14
      exfalso; first | exact absurd g14 (by decide) | (simp (disch := omega) only [Int32.lt_iff_toInt_lt, Int32.le_iff_toInt_le, nI_toInt, Int32.reduceToInt] at g14 <;> omega)

set_option maxRecDepth 10000 in
theorem c_X12_glass_1 (hR : xRr g h tx G T Lw) (hk : s < G) (hD : xDr g h tx T G Lw F4 m) (hm : m ≤ 40) (hs : g 73 14 = nI m) : xT (k + 6) 187 [.ref 73, .int (nI s), .int (nI 1)] (xH b g l) (fun r M' => M' = xH b (up g 73 20 (nI (Lw s % 4))) l ∧ r = some (.int 1)) := by
  have h6 := hR.1.2
  obtain ⟨q1, q2, q3⟩ := hR.2.2.1 s hk
  refine xT.of rfl (Nat.le_of_ble_eq_true rfl) ?_
  change xS _ _ 0 [(0, .ref 73), (1, .int (nI s)), (2, .int (nI 1))] [] _ _
  refine xS.s1 rfl rfl ?_
  try dsimp only [Nat.reduceAdd]
  refine xS.s1 rfl rfl ?_
  try dsimp only [Nat.reduceAdd]
  -- 2 yX12_isGlass
  refine xS.cv rfl rfl rfl rfl rfl rfl ⟨by decide, rfl, rfl⟩ (c_X12_isGlass_in hR.1.1 hR.1.2 hk) (fun v M1 hv => ?_)
  rw [hv.1, hv.2]
  clear hv M1 v
  try dsimp only [Nat.reduceAdd, Option.toList, List.cons_append, List.nil_append, List.drop]
  refine xS.br0 (c := .eq) (off := 12) (l := 3) rfl rfl (fun h5 => ?_) (fun h5 => ?_)
  · have g5 := xt_eq h5
    exfalso; first | exact absurd g5 (by decide) | (simp (disch := omega) only [Int32.lt_iff_toInt_lt, Int32.le_iff_toInt_le, nI_toInt, Int32.reduceToInt] at g5 <;> omega)
  · have g5 := xf_eq h5
    refine xS.s1 rfl rfl ?_
    try dsimp only [Nat.reduceAdd]
    refine xS.s1 rfl rfl ?_
    try dsimp only [Nat.reduceAdd, xi_0]
    refine xS.s1 rfl rfl ?_
    try dsimp only [Nat.reduceAdd, xi_3]
    -- 11 yX12_in
    refine xS.callS rfl rfl rfl ⟨Nat.le_of_ble_eq_true rfl, rfl⟩ (c_in_n1 (t := 1) (s := 0) (m := 3) (by decide) (by decide) (by decide)) (fun v M1 hv => ?_)
    rw [hv.1, hv.2]
    clear hv M1 v
    try dsimp only [Nat.reduceAdd, Option.toList, List.cons_append, List.nil_append, List.drop]
    refine xS.br0 (c := .ne) (off := 5) (l := 3) rfl rfl (fun h14 => ?_) (fun h14 => ?_)
    · have g14 := xt_ne h14
      refine xS.s1 rfl rfl ?_
      try dsimp only [Nat.reduceAdd]
      refine xS.s1 rfl rfl ?_
      try dsimp only [Nat.reduceAdd, xi_2]
      refine xS.br (c := .ge) (off := 18) (l := 3) rfl rfl (fun h21 => ?_) (fun h21 => ?_)
      · have g21 := xt_ge h21
        exfalso; first | exact absurd g21 (by decide) | (simp (disch := omega) only [Int32.lt_iff_toInt_lt, Int32.le_iff_toInt_le, nI_toInt, Int32.reduceToInt] at g21 <;> omega)
      · have g21 := xf_ge h21
        refine xS.s1 rfl rfl ?_
        try dsimp only [Nat.reduceAdd]
        refine xS.s1 rfl rfl ?_
        try dsimp only [Nat.reduceAdd]
        refine xS.gR rfl rfl rfl ⟨by decide, rfl⟩ rfl ?_
        try dsimp only [Nat.reduceAdd]
        refine xS.s1 rfl rfl ?_
        try dsimp only [Nat.reduceAdd, xi_2]
        refine xS.s1 rfl rfl ?_
        try dsimp only [Nat.reduceAdd]
        refine xS.s1 rfl rfl ?_
        try dsimp only [Nat.reduceAdd]
        refine xS.s1 rfl rfl ?_
        try dsimp only [Nat.reduceAdd]
        refine xS.s1 rfl rfl ?_
        try dsimp only [Nat.reduceAdd]
        rw [show (((2 * nI s) + nI 1) : Int32) = nI ((2 * s) + 1) from by simp only [← nI_add, ← pk_mul]; rfl]
        refine xS.ia rfl xar_82 (by omega) ?_
        try dsimp only [Nat.reduceAdd]
        rw [q2]
        -- 35 yX12_tells
        refine xS.cv rfl rfl rfl rfl rfl rfl ⟨by decide, rfl, rfl⟩ c_X12_tells (fun v M1 hv => ?_)
        rw [hv.1, hv.2]
        clear hv M1 v
        try dsimp only [Nat.reduceAdd, Option.toList, List.cons_append, List.nil_append, List.drop]
        refine xS.ret rfl rfl rfl (fun _ _ => rfl) ?_
        exact ⟨rfl, rfl⟩
    · have g14 := xf_ne h14
      exfalso; first | exact absurd g14 (by decide) | (simp (disch := omega) only [Int32.lt_iff_toInt_lt, Int32.le_iff_toInt_le, nI_toInt, Int32.reduceToInt] at g14 <;> omega)

set_option maxRecDepth 10000 in
theorem c_X12_glass_2 (hR : xRr g h tx G T Lw) (hk : s < G) (hD : xDr g h tx T G Lw F4 m) (hm : m ≤ 40) (hs : g 73 14 = nI m) : xT (k + 6) 187 [.ref 73, .int (nI s), .int (nI 2)] (xH b g l) (fun r M' => M' = xH b (up g 73 20 (nI (xcnt (fun d => decide (F4 (4 * d + 1) = nI s)) m))) l ∧ r = some (.int 1)) := by
  have h6 := hR.1.2
  obtain ⟨q1, q2, q3⟩ := hR.2.2.1 s hk
  refine xT.of rfl (Nat.le_of_ble_eq_true rfl) ?_
  change xS _ _ 0 [(0, .ref 73), (1, .int (nI s)), (2, .int (nI 2))] [] _ _
  refine xS.s1 rfl rfl ?_
  try dsimp only [Nat.reduceAdd]
  refine xS.s1 rfl rfl ?_
  try dsimp only [Nat.reduceAdd]
  -- 2 yX12_isGlass
  refine xS.cv rfl rfl rfl rfl rfl rfl ⟨by decide, rfl, rfl⟩ (c_X12_isGlass_in hR.1.1 hR.1.2 hk) (fun v M1 hv => ?_)
  rw [hv.1, hv.2]
  clear hv M1 v
  try dsimp only [Nat.reduceAdd, Option.toList, List.cons_append, List.nil_append, List.drop]
  refine xS.br0 (c := .eq) (off := 12) (l := 3) rfl rfl (fun h5 => ?_) (fun h5 => ?_)
  · have g5 := xt_eq h5
    exfalso; first | exact absurd g5 (by decide) | (simp (disch := omega) only [Int32.lt_iff_toInt_lt, Int32.le_iff_toInt_le, nI_toInt, Int32.reduceToInt] at g5 <;> omega)
  · have g5 := xf_eq h5
    refine xS.s1 rfl rfl ?_
    try dsimp only [Nat.reduceAdd]
    refine xS.s1 rfl rfl ?_
    try dsimp only [Nat.reduceAdd, xi_0]
    refine xS.s1 rfl rfl ?_
    try dsimp only [Nat.reduceAdd, xi_3]
    -- 11 yX12_in
    refine xS.callS rfl rfl rfl ⟨Nat.le_of_ble_eq_true rfl, rfl⟩ (c_in_n1 (t := 2) (s := 0) (m := 3) (by decide) (by decide) (by decide)) (fun v M1 hv => ?_)
    rw [hv.1, hv.2]
    clear hv M1 v
    try dsimp only [Nat.reduceAdd, Option.toList, List.cons_append, List.nil_append, List.drop]
    refine xS.br0 (c := .ne) (off := 5) (l := 3) rfl rfl (fun h14 => ?_) (fun h14 => ?_)
    · have g14 := xt_ne h14
      refine xS.s1 rfl rfl ?_
      try dsimp only [Nat.reduceAdd]
      refine xS.s1 rfl rfl ?_
      try dsimp only [Nat.reduceAdd, xi_2]
      refine xS.br (c := .ge) (off := 18) (l := 3) rfl rfl (fun h21 => ?_) (fun h21 => ?_)
      · have g21 := xt_ge h21
        refine xS.s1 rfl rfl ?_
        try dsimp only [Nat.reduceAdd, xi_0]
        refine xS.s1 rfl rfl ?_
        try dsimp only [Nat.reduceAdd]
        refine xS.s1 rfl rfl ?_
        try dsimp only [Nat.reduceAdd, xi_0]
        refine xS.s1 rfl rfl ?_
        try dsimp only [Nat.reduceAdd]
        refine xS.pick [0, 1, 2, 3, 4] rfl ?_
        refine xS.loop (σ := Unit) (m) (fun j S => [(4, .int (nI j)), (3, .int (nI (xcnt (fun d => decide (F4 (4 * d + 1) = nI s)) j))), (0, .ref 73), (1, .int (nI s)), (2, .int (nI 2))]) (fun _ _ => xH b g l) (fun _ _ => True) (()) (rfl) (rfl) (trivial) ?_
        intro j S hj hI ih
        try dsimp only
        refine xS.s1 rfl rfl ?_
        try dsimp only [Nat.reduceAdd]
        refine xS.s1 rfl rfl ?_
        try dsimp only [Nat.reduceAdd]
        refine xS.gI rfl rfl rfl ⟨by decide, rfl⟩ rfl ?_
        try dsimp only [Nat.reduceAdd]
        refine xS.br (c := .ge) (off := 44) (l := 3) rfl rfl (fun h50 => ?_) (fun h50 => ?_)
        · have g50 := xt_ge h50
          rw [hs] at g50
          have e := xnle g50 (by omega) (by omega)
          have e2 : m = j := by omega
          subst e2
          refine xS.s1 rfl rfl ?_
          try dsimp only [Nat.reduceAdd]
          refine xS.s1 rfl rfl ?_
          try dsimp only [Nat.reduceAdd]
          -- 96 yX12_tells
          refine xS.cv rfl rfl rfl rfl rfl rfl ⟨by decide, rfl, rfl⟩ c_X12_tells (fun v M1 hv => ?_)
          rw [hv.1, hv.2]
          clear hv M1 v
          try dsimp only [Nat.reduceAdd, Option.toList, List.cons_append, List.nil_append, List.drop]
          refine xS.ret rfl rfl rfl (fun _ _ => rfl) ?_
          exact ⟨rfl, rfl⟩
        · have g50 := xf_ge h50
          rw [hs] at g50
          have hlt := xnlt g50 (by omega) (by omega)
          obtain ⟨s9, k9, r1, r2, r3, r4, r5, r6, r7, r8⟩ := hD j hlt
          refine xS.s1 rfl rfl ?_
          try dsimp only [Nat.reduceAdd]
          refine xS.s1 rfl rfl ?_
          try dsimp only [Nat.reduceAdd]
          refine xS.gR rfl rfl rfl ⟨by decide, rfl⟩ rfl ?_
          try dsimp only [Nat.reduceAdd]
          refine xS.s1 rfl rfl ?_
          try dsimp only [Nat.reduceAdd]
          refine xS.ia rfl xar_85 (by omega) ?_
          try dsimp only [Nat.reduceAdd]
          rw [r8, ← r4]
          refine xS.s1 rfl rfl ?_
          try dsimp only [Nat.reduceAdd]
          refine xS.br (c := .ne) (off := 23) (l := 3) rfl rfl (fun h62 => ?_) (fun h62 => ?_)
          · have g62 := xt_ne h62
            refine xS.s1 rfl rfl ?_
            try dsimp only [Nat.reduceAdd, xi_0]
            refine xS.s1 rfl rfl ?_
            try dsimp only [Nat.reduceAdd]
            refine xS.s1 rfl rfl ?_
            try dsimp only [Nat.reduceAdd]
            refine xS.s1 rfl rfl ?_
            try dsimp only [Nat.reduceAdd, xi_1]
            rw [nI_1]
            refine xS.s1 rfl rfl ?_
            try dsimp only [Nat.reduceAdd]
            refine xS.pick [0, 1, 2, 3, 4] rfl ?_
            rw [show nI (xcnt (fun d => decide (F4 (4 * d + 1) = nI s)) j) + 0 = nI (xcnt (fun d => decide (F4 (4 * d + 1) = nI s)) j) from nI_add _ 0]
            have ih2 := ih () (by omega) trivial
            first | (rw [show xcnt (fun d => decide (F4 (4 * d + 1) = nI s)) (j + 1) = xcnt (fun d => decide (F4 (4 * d + 1) = nI s)) j from by simp [xcnt_s, g62]] at ih2; exact ih2) | (rw [show xcnt (fun d => decide (F4 (4 * d + 1) = nI s)) (j + 1) = xcnt (fun d => decide (F4 (4 * d + 1) = nI s)) j + 1 from by simp [xcnt_s, g62]] at ih2; exact ih2)
          · have g62 := xf_ne h62
            refine xS.s1 rfl rfl ?_
            try dsimp only [Nat.reduceAdd]
            refine xS.s1 rfl rfl ?_
            try dsimp only [Nat.reduceAdd, xi_2]
            refine xS.br (c := .eq) (off := 14) (l := 3) rfl rfl (fun h67 => ?_) (fun h67 => ?_)
            · have g67 := xt_eq h67
              refine xS.s1 rfl rfl ?_
              try dsimp only [Nat.reduceAdd, xi_1]
              refine xS.s1 rfl rfl ?_
              try dsimp only [Nat.reduceAdd]
              refine xS.s1 rfl rfl ?_
              try dsimp only [Nat.reduceAdd]
              refine xS.s1 rfl rfl ?_
              try dsimp only [Nat.reduceAdd]
              refine xS.s1 rfl rfl ?_
              try dsimp only [Nat.reduceAdd, xi_1]
              rw [nI_1]
              refine xS.s1 rfl rfl ?_
              try dsimp only [Nat.reduceAdd]
              refine xS.pick [0, 1, 2, 3, 4] rfl ?_
              rw [nI_1]
              have ih2 := ih () (by omega) trivial
              first | (rw [show xcnt (fun d => decide (F4 (4 * d + 1) = nI s)) (j + 1) = xcnt (fun d => decide (F4 (4 * d + 1) = nI s)) j from by simp [xcnt_s, g62]] at ih2; exact ih2) | (rw [show xcnt (fun d => decide (F4 (4 * d + 1) = nI s)) (j + 1) = xcnt (fun d => decide (F4 (4 * d + 1) = nI s)) j + 1 from by simp [xcnt_s, g62]] at ih2; exact ih2)
            · have g67 := xf_eq h67
              exfalso; first | exact absurd g67 (by decide) | (simp (disch := omega) only [Int32.lt_iff_toInt_lt, Int32.le_iff_toInt_le, nI_toInt, Int32.reduceToInt] at g67 <;> omega)
      · have g21 := xf_ge h21
        exfalso; first | exact absurd g21 (by decide) | (simp (disch := omega) only [Int32.lt_iff_toInt_lt, Int32.le_iff_toInt_le, nI_toInt, Int32.reduceToInt] at g21 <;> omega)
    · have g14 := xf_ne h14
      exfalso; first | exact absurd g14 (by decide) | (simp (disch := omega) only [Int32.lt_iff_toInt_lt, Int32.le_iff_toInt_le, nI_toInt, Int32.reduceToInt] at g14 <;> omega)

set_option maxRecDepth 10000 in
theorem c_X12_glass_3 (hR : xRr g h tx G T Lw) (hk : s < G) (hD : xDr g h tx T G Lw F4 m) (hm : m ≤ 40) (hs : g 73 14 = nI m) : xT (k + 6) 187 [.ref 73, .int (nI s), .int (nI 3)] (xH b g l) (fun r M' => M' = xH b (up g 73 20 (nI (xcnt (fun d => decide (F4 (4 * d + 1) = nI s) && !decide (F4 (4 * d + 3) = -9)) m))) l ∧ r = some (.int 1)) := by
  have h6 := hR.1.2
  obtain ⟨q1, q2, q3⟩ := hR.2.2.1 s hk
  refine xT.of rfl (Nat.le_of_ble_eq_true rfl) ?_
  change xS _ _ 0 [(0, .ref 73), (1, .int (nI s)), (2, .int (nI 3))] [] _ _
  refine xS.s1 rfl rfl ?_
  try dsimp only [Nat.reduceAdd]
  refine xS.s1 rfl rfl ?_
  try dsimp only [Nat.reduceAdd]
  -- 2 yX12_isGlass
  refine xS.cv rfl rfl rfl rfl rfl rfl ⟨by decide, rfl, rfl⟩ (c_X12_isGlass_in hR.1.1 hR.1.2 hk) (fun v M1 hv => ?_)
  rw [hv.1, hv.2]
  clear hv M1 v
  try dsimp only [Nat.reduceAdd, Option.toList, List.cons_append, List.nil_append, List.drop]
  refine xS.br0 (c := .eq) (off := 12) (l := 3) rfl rfl (fun h5 => ?_) (fun h5 => ?_)
  · have g5 := xt_eq h5
    exfalso; first | exact absurd g5 (by decide) | (simp (disch := omega) only [Int32.lt_iff_toInt_lt, Int32.le_iff_toInt_le, nI_toInt, Int32.reduceToInt] at g5 <;> omega)
  · have g5 := xf_eq h5
    refine xS.s1 rfl rfl ?_
    try dsimp only [Nat.reduceAdd]
    refine xS.s1 rfl rfl ?_
    try dsimp only [Nat.reduceAdd, xi_0]
    refine xS.s1 rfl rfl ?_
    try dsimp only [Nat.reduceAdd, xi_3]
    -- 11 yX12_in
    refine xS.callS rfl rfl rfl ⟨Nat.le_of_ble_eq_true rfl, rfl⟩ (c_in_n1 (t := 3) (s := 0) (m := 3) (by decide) (by decide) (by decide)) (fun v M1 hv => ?_)
    rw [hv.1, hv.2]
    clear hv M1 v
    try dsimp only [Nat.reduceAdd, Option.toList, List.cons_append, List.nil_append, List.drop]
    refine xS.br0 (c := .ne) (off := 5) (l := 3) rfl rfl (fun h14 => ?_) (fun h14 => ?_)
    · have g14 := xt_ne h14
      refine xS.s1 rfl rfl ?_
      try dsimp only [Nat.reduceAdd]
      refine xS.s1 rfl rfl ?_
      try dsimp only [Nat.reduceAdd, xi_2]
      refine xS.br (c := .ge) (off := 18) (l := 3) rfl rfl (fun h21 => ?_) (fun h21 => ?_)
      · have g21 := xt_ge h21
        refine xS.s1 rfl rfl ?_
        try dsimp only [Nat.reduceAdd, xi_0]
        refine xS.s1 rfl rfl ?_
        try dsimp only [Nat.reduceAdd]
        refine xS.s1 rfl rfl ?_
        try dsimp only [Nat.reduceAdd, xi_0]
        refine xS.s1 rfl rfl ?_
        try dsimp only [Nat.reduceAdd]
        refine xS.pick [0, 1, 2, 3, 4] rfl ?_
        refine xS.loop (σ := Unit) (m) (fun j S => [(4, .int (nI j)), (3, .int (nI (xcnt (fun d => decide (F4 (4 * d + 1) = nI s) && !decide (F4 (4 * d + 3) = -9)) j))), (0, .ref 73), (1, .int (nI s)), (2, .int (nI 3))]) (fun _ _ => xH b g l) (fun _ _ => True) (()) (rfl) (rfl) (trivial) ?_
        intro j S hj hI ih
        try dsimp only
        refine xS.s1 rfl rfl ?_
        try dsimp only [Nat.reduceAdd]
        refine xS.s1 rfl rfl ?_
        try dsimp only [Nat.reduceAdd]
        refine xS.gI rfl rfl rfl ⟨by decide, rfl⟩ rfl ?_
        try dsimp only [Nat.reduceAdd]
        refine xS.br (c := .ge) (off := 44) (l := 3) rfl rfl (fun h50 => ?_) (fun h50 => ?_)
        · have g50 := xt_ge h50
          rw [hs] at g50
          have e := xnle g50 (by omega) (by omega)
          have e2 : m = j := by omega
          subst e2
          refine xS.s1 rfl rfl ?_
          try dsimp only [Nat.reduceAdd]
          refine xS.s1 rfl rfl ?_
          try dsimp only [Nat.reduceAdd]
          -- 96 yX12_tells
          refine xS.cv rfl rfl rfl rfl rfl rfl ⟨by decide, rfl, rfl⟩ c_X12_tells (fun v M1 hv => ?_)
          rw [hv.1, hv.2]
          clear hv M1 v
          try dsimp only [Nat.reduceAdd, Option.toList, List.cons_append, List.nil_append, List.drop]
          refine xS.ret rfl rfl rfl (fun _ _ => rfl) ?_
          exact ⟨rfl, rfl⟩
        · have g50 := xf_ge h50
          rw [hs] at g50
          have hlt := xnlt g50 (by omega) (by omega)
          obtain ⟨s9, k9, r1, r2, r3, r4, r5, r6, r7, r8⟩ := hD j hlt
          refine xS.s1 rfl rfl ?_
          try dsimp only [Nat.reduceAdd]
          refine xS.s1 rfl rfl ?_
          try dsimp only [Nat.reduceAdd]
          refine xS.gR rfl rfl rfl ⟨by decide, rfl⟩ rfl ?_
          try dsimp only [Nat.reduceAdd]
          refine xS.s1 rfl rfl ?_
          try dsimp only [Nat.reduceAdd]
          refine xS.ia rfl xar_85 (by omega) ?_
          try dsimp only [Nat.reduceAdd]
          rw [r8, ← r4]
          refine xS.s1 rfl rfl ?_
          try dsimp only [Nat.reduceAdd]
          refine xS.br (c := .ne) (off := 23) (l := 3) rfl rfl (fun h62 => ?_) (fun h62 => ?_)
          · have g62 := xt_ne h62
            refine xS.s1 rfl rfl ?_
            try dsimp only [Nat.reduceAdd, xi_0]
            refine xS.s1 rfl rfl ?_
            try dsimp only [Nat.reduceAdd]
            refine xS.s1 rfl rfl ?_
            try dsimp only [Nat.reduceAdd]
            refine xS.s1 rfl rfl ?_
            try dsimp only [Nat.reduceAdd, xi_1]
            rw [nI_1]
            refine xS.s1 rfl rfl ?_
            try dsimp only [Nat.reduceAdd]
            refine xS.pick [0, 1, 2, 3, 4] rfl ?_
            rw [show nI (xcnt (fun d => decide (F4 (4 * d + 1) = nI s) && !decide (F4 (4 * d + 3) = -9)) j) + 0 = nI (xcnt (fun d => decide (F4 (4 * d + 1) = nI s) && !decide (F4 (4 * d + 3) = -9)) j) from nI_add _ 0]
            have ih2 := ih () (by omega) trivial
            first | (rw [show xcnt (fun d => decide (F4 (4 * d + 1) = nI s) && !decide (F4 (4 * d + 3) = -9)) (j + 1) = xcnt (fun d => decide (F4 (4 * d + 1) = nI s) && !decide (F4 (4 * d + 3) = -9)) j from by simp [xcnt_s, g62]] at ih2; exact ih2) | (rw [show xcnt (fun d => decide (F4 (4 * d + 1) = nI s) && !decide (F4 (4 * d + 3) = -9)) (j + 1) = xcnt (fun d => decide (F4 (4 * d + 1) = nI s) && !decide (F4 (4 * d + 3) = -9)) j + 1 from by simp [xcnt_s, g62]] at ih2; exact ih2)
          · have g62 := xf_ne h62
            refine xS.s1 rfl rfl ?_
            try dsimp only [Nat.reduceAdd]
            refine xS.s1 rfl rfl ?_
            try dsimp only [Nat.reduceAdd, xi_2]
            refine xS.br (c := .eq) (off := 14) (l := 3) rfl rfl (fun h67 => ?_) (fun h67 => ?_)
            · have g67 := xt_eq h67
              exfalso; first | exact absurd g67 (by decide) | (simp (disch := omega) only [Int32.lt_iff_toInt_lt, Int32.le_iff_toInt_le, nI_toInt, Int32.reduceToInt] at g67 <;> omega)
            · have g67 := xf_eq h67
              refine xS.s1 rfl rfl ?_
              try dsimp only [Nat.reduceAdd]
              refine xS.s1 rfl rfl ?_
              try dsimp only [Nat.reduceAdd]
              -- 73 yX12_brokenBy
              refine xS.cv rfl rfl rfl rfl rfl rfl ⟨by decide, rfl, rfl⟩ (c_X12_brokenBy hR hD hm hlt) (fun v M1 hv => ?_)
              rw [hv.1, hv.2]
              clear hv M1 v
              try dsimp only [Nat.reduceAdd, Option.toList, List.cons_append, List.nil_append, List.drop]
              refine xS.s1 rfl rfl ?_
              try dsimp only [Nat.reduceAdd, xj_m9]
              refine xS.br (c := .eq) (off := 7) (l := 3) rfl rfl (fun h78 => ?_) (fun h78 => ?_)
              · have g78 := xt_eq h78
                refine xS.s1 rfl rfl ?_
                try dsimp only [Nat.reduceAdd, xi_0]
                refine xS.s1 rfl rfl ?_
                try dsimp only [Nat.reduceAdd]
                refine xS.s1 rfl rfl ?_
                try dsimp only [Nat.reduceAdd]
                refine xS.s1 rfl rfl ?_
                try dsimp only [Nat.reduceAdd, xi_1]
                rw [nI_1]
                refine xS.s1 rfl rfl ?_
                try dsimp only [Nat.reduceAdd]
                refine xS.pick [0, 1, 2, 3, 4] rfl ?_
                rw [show nI (xcnt (fun d => decide (F4 (4 * d + 1) = nI s) && !decide (F4 (4 * d + 3) = -9)) j) + 0 = nI (xcnt (fun d => decide (F4 (4 * d + 1) = nI s) && !decide (F4 (4 * d + 3) = -9)) j) from nI_add _ 0]
                have ih2 := ih () (by omega) trivial
                first | (rw [show xcnt (fun d => decide (F4 (4 * d + 1) = nI s) && !decide (F4 (4 * d + 3) = -9)) (j + 1) = xcnt (fun d => decide (F4 (4 * d + 1) = nI s) && !decide (F4 (4 * d + 3) = -9)) j from by simp [xcnt_s, g62, g78]] at ih2; exact ih2) | (rw [show xcnt (fun d => decide (F4 (4 * d + 1) = nI s) && !decide (F4 (4 * d + 3) = -9)) (j + 1) = xcnt (fun d => decide (F4 (4 * d + 1) = nI s) && !decide (F4 (4 * d + 3) = -9)) j + 1 from by simp [xcnt_s, g62, g78]] at ih2; exact ih2)
              · have g78 := xf_eq h78
                refine xS.s1 rfl rfl ?_
                try dsimp only [Nat.reduceAdd, xi_1]
                refine xS.s1 rfl rfl ?_
                try dsimp only [Nat.reduceAdd]
                refine xS.s1 rfl rfl ?_
                try dsimp only [Nat.reduceAdd]
                refine xS.s1 rfl rfl ?_
                try dsimp only [Nat.reduceAdd]
                refine xS.s1 rfl rfl ?_
                try dsimp only [Nat.reduceAdd, xi_1]
                rw [nI_1]
                refine xS.s1 rfl rfl ?_
                try dsimp only [Nat.reduceAdd]
                refine xS.pick [0, 1, 2, 3, 4] rfl ?_
                rw [nI_1]
                have ih2 := ih () (by omega) trivial
                first | (rw [show xcnt (fun d => decide (F4 (4 * d + 1) = nI s) && !decide (F4 (4 * d + 3) = -9)) (j + 1) = xcnt (fun d => decide (F4 (4 * d + 1) = nI s) && !decide (F4 (4 * d + 3) = -9)) j from by simp [xcnt_s, g62, g78]] at ih2; exact ih2) | (rw [show xcnt (fun d => decide (F4 (4 * d + 1) = nI s) && !decide (F4 (4 * d + 3) = -9)) (j + 1) = xcnt (fun d => decide (F4 (4 * d + 1) = nI s) && !decide (F4 (4 * d + 3) = -9)) j + 1 from by simp [xcnt_s, g62, g78]] at ih2; exact ih2)
      · have g21 := xf_ge h21
        exfalso; first | exact absurd g21 (by decide) | (simp (disch := omega) only [Int32.lt_iff_toInt_lt, Int32.le_iff_toInt_le, nI_toInt, Int32.reduceToInt] at g21 <;> omega)
    · have g14 := xf_ne h14
      exfalso; first | exact absurd g14 (by decide) | (simp (disch := omega) only [Int32.lt_iff_toInt_lt, Int32.le_iff_toInt_le, nI_toInt, Int32.reduceToInt] at g14 <;> omega)

end
