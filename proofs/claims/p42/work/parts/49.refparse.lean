/-! the reference's parser: habits, items -/
def xFh (g g' : Nat → Nat → Int32) : Prop := (∀ e, e ≠ 73 → e ≠ 78 → g' e = g e) ∧ (∀ i, i ≠ 28 → g' 73 i = g 73 i)
def xFq (g g' : Nat → Nat → Int32) : Prop := (∀ e, e ≠ 73 → e ≠ 79 → e ≠ 80 → g' e = g e) ∧ (∀ i, i ≠ 28 → i ≠ 5 → i ≠ 7 → g' 73 i = g 73 i)
theorem xFq_t {g g1 g2 : Nat → Nat → Int32} (h1 : xFq g g1) (h2 : xFq g1 g2) : xFq g g2 := ⟨fun e p q r => by rw [h2.1 e p q r, h1.1 e p q r], fun i p q r => by rw [h2.2 i p q r, h1.2 i p q r]⟩
/-- what has been read -/
def xRw (g : Nat → Nat → Int32) (G T : Nat) (Lw : Nat → Nat) (tx : Nat → Int32) : Prop := (g 73 5 = nI G ∧ G ≤ 6) ∧ (g 73 7 = nI T ∧ T ≤ 8) ∧ (∀ k, k < G → g 79 (2 * k) = nI (Lw k / 4) ∧ g 79 (2 * k + 1) = nI (Lw k % 4) ∧ Lw k < 24) ∧ (∀ k, k < 2 * T → g 80 k = tx k ∧ xstp (tx k))
def xItR (b : Nat × Nat) (l : Nat → Nat → Int64) (f : Nat → Int32) (n : Nat) (g : Nat → Nat → Int32) (p G T : Nat) (Lw : Nat → Nat) (tx : Nat → Int32) (st : Nat) (r : Option Value) (M' : xM) : Prop := ∃ (o : Option Nat) (g' : Nat → Nat → Int32), r = some (.int (xb1 o)) ∧ M' = xH b g' l ∧ xFq g g' ∧ (∀ e, o = some e → e < 2 ^ 31 ∧ g' 73 28 = nI e ∧ ∀ q, xpi f n (q + 1) p G T Lw tx = xbd e) ∧ (o = none → ∃ G' T' Lw' tx', xRw g' G' T' Lw' tx' ∧ g' 73 28 = nI (p + st) ∧ p + st ≤ n ∧ ∀ q, xpi f n (q + 1) p G T Lw tx = xpi f n q (xab f n (p + st)) G' T' Lw' tx')

section
variable {k a c n n2 m t p s d i1 j1 : Nat} {b : Nat × Nat} {g : Nat → Nat → Int32} {l : Nat → Nat → Int64} {i j x y z v w : Int32} {u w1 w2 : Int64}
variable {L G T κ δ o : Nat} {Lw : Nat → Nat} {f tx : Nat → Int32}
set_option maxRecDepth 10000 in
theorem c_X12_areHabits (hP : g 73 28 = nI 0) (hO : g 73 29 = nI o) (hN : g 73 30 = nI n) (hfv : ∀ i, i < n → g 77 (o + i) = f i) (hn : n ≤ 60) (ho : o ≤ 180) : xT (k + 3) 172 [.ref 73] (xH b g l) (fun r M' => ∃ (o : Option Nat) (g' : Nat → Nat → Int32), r = some (.int (xb1 o)) ∧ M' = xH b g' l ∧ xFh g g' ∧ (∀ e, o = some e → xprs f n = xbd e ∧ g' 73 28 = nI e ∧ e < 2 ^ 31) ∧ (o = none → (xab f n 0 < n ∧ f (xab f n 0) = 104) ∧ xfst (fun s => !xfgb f n (xab f n 0 + 1 + s) 6) 6 = none ∧ g' 73 28 = nI (xab f n 0 + 7) ∧ xab f n 0 + 7 ≤ n ∧ ∀ s, s < 6 → g' 78 s = nI (xfv (f (xab f n 0 + 1 + s))) ∧ xfv (f (xab f n 0 + 1 + s)) < 6)) := by
  have hxb := xab_le (f := f) (n := n) (i := 0) (by omega)
  refine xT.of rfl (Nat.le_of_ble_eq_true rfl) ?_
  change xS _ _ 0 [(0, .ref 73)] [] _ _
  refine xS.s1 rfl rfl ?_
  try dsimp only [Nat.reduceAdd]
  -- 1 yX12_skip
  refine xS.cv rfl rfl rfl rfl rfl rfl ⟨by decide, rfl, rfl⟩ (c_X12_skip (p := 0) hP hO hN hfv hn ho (by omega)) (fun v M1 hv => ?_)
  rw [hv.1, hv.2]
  clear hv M1 v
  try dsimp only [Nat.reduceAdd, Option.toList, List.cons_append, List.nil_append, List.drop]
  refine xS.s1 rfl rfl ?_
  try dsimp only [Nat.reduceAdd]
  -- 5 yX12_letter
  refine xS.cv rfl rfl rfl rfl rfl rfl ⟨by decide, rfl, rfl⟩ (c_X12_letter (p := xab f n 0) (o := o) (n := n) (f := f) (up_same ..) (by rw [up_ne (Or.inr (by decide))]; exact hO) (by rw [up_ne (Or.inr (by decide))]; exact hN) (fun i hi => by rw [up_na (by decide)]; exact hfv i hi) hn ho (by omega)) (fun v M1 hv => ?_)
  rw [hv.1, hv.2]
  clear hv M1 v
  try dsimp only [Nat.reduceAdd, Option.toList, List.cons_append, List.nil_append, List.drop]
  refine xS.s1 rfl rfl ?_
  try dsimp only [Nat.reduceAdd, xj_104]
  refine xS.br (c := .eq) (off := 5) (l := 3) rfl rfl (fun h10 => ?_) (fun h10 => ?_)
  · have g10 := xt_eq h10
    have hq := xlr_at (by decide) g10
    refine xS.s1 rfl rfl ?_
    try dsimp only [Nat.reduceAdd]
    refine xS.s1 rfl rfl ?_
    try dsimp only [Nat.reduceAdd]
    refine xS.gI rfl rfl rfl ⟨by decide, rfl⟩ rfl ?_
    try dsimp only [Nat.reduceAdd]
    rw [up_same]
    refine xS.s1 rfl rfl ?_
    try dsimp only [Nat.reduceAdd, xi_1]
    refine xS.s1 rfl rfl ?_
    try dsimp only [Nat.reduceAdd]
    rw [nI_1]
    refine xS.pI rfl rfl rfl ⟨⟨by decide, rfl⟩, rfl, by decide, by decide⟩ rfl ?_
    try dsimp only [Nat.reduceAdd]
    rw [up_up]
    refine xS.s1 rfl rfl ?_
    try dsimp only [Nat.reduceAdd, xi_0]
    refine xS.s1 rfl rfl ?_
    try dsimp only [Nat.reduceAdd]
    refine xS.pick [0, 1] rfl ?_
    refine xS.loop (σ := Unit) (6) (fun j S => [(1, .int (nI j)), (0, .ref 73)]) (fun j _ => xH b (gset (up g 73 28 (nI (xab f n 0 + 1 + j))) 78 j (fun s => nI (xfv (f (xab f n 0 + 1 + s))))) l) (fun j _ => xab f n 0 + 1 + j ≤ n ∧ xfst (fun s => !xfgb f n (xab f n 0 + 1 + s) 6) j = none) (()) (rfl) (by rw [gset_0]) (⟨by have := hq.1; omega, rfl⟩) ?_
    intro j S hj hI ih
    try dsimp only
    refine xS.s1 rfl rfl ?_
    try dsimp only [Nat.reduceAdd]
    refine xS.s1 rfl rfl ?_
    try dsimp only [Nat.reduceAdd, xj_6]
    refine xS.br (c := .ge) (off := 28) (l := 3) rfl rfl (fun h30 => ?_) (fun h30 => ?_)
    · have g30 := xt_ge h30
      have hj6 := xnle (b := 6) g30 (by omega) (by omega)
      have hIc := hI.1
      refine xS.s1 rfl rfl ?_
      try dsimp only [Nat.reduceAdd, xi_1]
      refine xS.ret rfl rfl rfl (fun _ _ => rfl) ?_
      obtain rfl : j = 6 := by omega
      refine ⟨none, _, rfl, rfl, ⟨fun e h1 h2 => by rw [gset_na h2, up_na h1], fun i hi => by rw [gset_na (by decide), up_ne (Or.inr hi)]⟩, fun e he => (by cases he), fun _ => ⟨hq, hI.2, by rw [gset_na (by decide), up_same], by omega, fun s hs => ?_⟩⟩
      have q := xfgb_i (by have := xfst_none.mp hI.2 s hs; revert this; cases xfgb f n (xab f n 0 + 1 + s) 6 <;> simp)
      exact ⟨gset_in hs, (xfv_e (by decide) q).1⟩
    · have g30 := xf_ge h30
      have hj6 := xnlt (b := 6) g30 (by omega) (by omega)
      have hIc := hI.1
      refine xS.s1 rfl rfl ?_
      try dsimp only [Nat.reduceAdd]
      refine xS.s1 rfl rfl ?_
      try dsimp only [Nat.reduceAdd, xi_5]
      -- 35 yX12_figure
      refine xS.cv rfl rfl rfl rfl rfl rfl ⟨by decide, rfl, rfl⟩ (c_X12_figureP (t := 5) (p := xab f n 0 + 1 + j) (o := o) (n := n) (f := f) (by rw [gset_na (by decide), up_same]) (by rw [gset_na (by decide), up_ne (Or.inr (by decide))]; exact hO) (by rw [gset_na (by decide), up_ne (Or.inr (by decide))]; exact hN) (fun i hi => by rw [gset_na (by decide), up_na (by decide)]; exact hfv i hi) hn ho (by omega) (by decide)) (fun v M1 hv => ?_)
      obtain ⟨z, g2, rfl, rfl, hz⟩ := hv
      try dsimp only [Nat.reduceAdd, Option.toList, List.cons_append, List.nil_append, List.drop]
      refine xS.s1 rfl rfl ?_
      try dsimp only [Nat.reduceAdd]
      refine xS.s1 rfl rfl ?_
      try dsimp only [Nat.reduceAdd]
      refine xS.br0 (c := .ge) (off := 5) (l := 3) rfl rfl (fun h40 => ?_) (fun h40 => ?_)
      · have g40 := xt_ge h40
        obtain ⟨hfg, rfl, rfl⟩ := xFg_ge hz g40
        refine xS.s1 rfl rfl ?_
        try dsimp only [Nat.reduceAdd]
        refine xS.gR rfl rfl rfl ⟨by decide, rfl⟩ rfl ?_
        try dsimp only [Nat.reduceAdd]
        refine xS.s1 rfl rfl ?_
        try dsimp only [Nat.reduceAdd]
        refine xS.s1 rfl rfl ?_
        try dsimp only [Nat.reduceAdd]
        refine xS.ias rfl xar_78 (by omega) ?_
        try dsimp only [Nat.reduceAdd]
        refine xS.s1 rfl rfl ?_
        try dsimp only [Nat.reduceAdd, xi_1]
        rw [nI_1]
        refine xS.s1 rfl rfl ?_
        try dsimp only [Nat.reduceAdd]
        refine xS.pick [0, 2] rfl ?_
        rw [gset_un (by decide), up_up]
        have ih2 := ih () (by omega) ⟨by have := hfg.1; omega, xfst_n hI.2 (by rw [xfgb_t hfg]; rfl)⟩
        rw [← gset_s] at ih2
        exact ih2
      · have g40 := xf_ge h40
        refine xS.s1 rfl rfl ?_
        try dsimp only [Nat.reduceAdd, xi_0]
        refine xS.ret rfl rfl rfl (fun _ _ => rfl) ?_
        obtain ⟨hnf, rfl, rfl⟩ := xFg_lt (by decide) hz g40
        refine ⟨some (xab f n 0 + 1 + j), _, rfl, rfl, ⟨fun e h1 h2 => by rw [gset_na h2, up_na h1], fun i hi => by rw [gset_na (by decide), up_ne (Or.inr hi)]⟩, fun e he => ?_, fun z => by cases z⟩
        cases he
        exact ⟨xprs_1 hq (xfst_at hI.2 (by rw [xfgb_f hnf]; rfl) hj6), by rw [gset_na (by decide), up_same], by omega⟩
  · have g10 := xf_eq h10
    refine xS.s1 rfl rfl ?_
    try dsimp only [Nat.reduceAdd, xi_0]
    refine xS.ret rfl rfl rfl (fun _ _ => rfl) ?_
    refine ⟨some (xab f n 0), _, rfl, rfl, ⟨fun e h1 h2 => up_na h1, fun i hi => up_ne (Or.inr hi)⟩, fun e he => ?_, fun z => by cases z⟩
    cases he
    exact ⟨xprs_0 (fun z => g10 ((xlr_in z.1).trans z.2)), up_same .., by omega⟩

set_option maxRecDepth 10000 in
theorem c_X12_isGlassItem (hP : g 73 28 = nI p) (hO : g 73 29 = nI o) (hN : g 73 30 = nI n) (hfv : ∀ i, i < n → g 77 (o + i) = f i) (hn : n ≤ 60) (ho : o ≤ 180) (hp : p ≤ n) (hR : xRw g G T Lw tx) (hpn : p < n) (hk : xkd (f p) = some κ) : xT (k + 3) 173 [.ref 73] (xH b g l) (fun r M' => xItR b l f n g p G T Lw tx 2 r M') := by
  have k6 := xkd_lt hk
  have hG6 := hR.1.2
  have hT8 := hR.2.1.2
  refine xT.of rfl (Nat.le_of_ble_eq_true rfl) ?_
  change xS _ _ 0 [(0, .ref 73)] [] _ _
  refine xS.s1 rfl rfl ?_
  try dsimp only [Nat.reduceAdd]
  refine xS.gI rfl rfl rfl ⟨by decide, rfl⟩ rfl ?_
  try dsimp only [Nat.reduceAdd]
  refine xS.s1 rfl rfl ?_
  try dsimp only [Nat.reduceAdd, xj_6]
  refine xS.br (c := .eq) (off := 10) (l := 3) rfl rfl (fun h6 => ?_) (fun h6 => ?_)
  · have g6 := xt_eq h6
    refine xS.s1 rfl rfl ?_
    try dsimp only [Nat.reduceAdd, xi_0]
    refine xS.ret rfl rfl rfl (fun _ _ => rfl) ?_
    exact ⟨some p, g, rfl, rfl, ⟨fun _ _ _ _ => rfl, fun _ _ _ _ => rfl⟩, fun e he => by cases he; exact ⟨by omega, hP, fun q => xpi_g0 hpn (xkd_110 hk) (Or.inr (Or.inr (nI_inj (b := 6) (by omega) (by omega) (hR.1.1.symm.trans g6))))⟩, fun z => by cases z⟩
  · have g6 := xf_eq h6
    refine xS.s1 rfl rfl ?_
    try dsimp only [Nat.reduceAdd]
    refine xS.gI rfl rfl rfl ⟨by decide, rfl⟩ rfl ?_
    try dsimp only [Nat.reduceAdd]
    refine xS.br0 (c := .le) (off := 5) (l := 3) rfl rfl (fun h13 => ?_) (fun h13 => ?_)
    · have g13 := xt_le h13
      have hT0 : T = 0 := by have z := g13; rw [hR.2.1.1] at z; exact xn0 z (by omega)
      have hG5 : G < 6 := by have z : G ≠ 6 := fun z => g6 (by rw [hR.1.1, z]; rfl); omega
      have hnb : ¬ (xkd (f p) = none ∨ 0 < T ∨ G = 6) := fun z => by rcases z with z | z | z; (rw [hk] at z; cases z); (omega); (omega)
      refine xS.s1 rfl rfl ?_
      try dsimp only [Nat.reduceAdd]
      -- 19 yX12_letter
      refine xS.cv rfl rfl rfl rfl rfl rfl ⟨by decide, rfl, rfl⟩ (c_X12_letter hP hO hN hfv hn ho hp) (fun v M1 hv => ?_)
      rw [hv.1, hv.2, xlr_in hpn]
      clear hv M1 v
      try dsimp only [Nat.reduceAdd, Option.toList, List.cons_append, List.nil_append, List.drop]
      -- 22 yX12_kindBy
      refine xS.callS rfl rfl rfl ⟨Nat.le_of_ble_eq_true rfl, rfl⟩ c_X12_kindBy (fun v M1 hv => ?_)
      rw [hv.1, hv.2, xkI_s hk]
      clear hv M1 v
      try dsimp only [Nat.reduceAdd, Option.toList, List.cons_append, List.nil_append, List.drop]
      refine xS.s1 rfl rfl ?_
      try dsimp only [Nat.reduceAdd]
      refine xS.s1 rfl rfl ?_
      try dsimp only [Nat.reduceAdd]
      refine xS.s1 rfl rfl ?_
      try dsimp only [Nat.reduceAdd]
      refine xS.gI rfl rfl rfl ⟨by decide, rfl⟩ rfl ?_
      try dsimp only [Nat.reduceAdd]
      rw [hP]
      refine xS.s1 rfl rfl ?_
      try dsimp only [Nat.reduceAdd, xi_1]
      refine xS.s1 rfl rfl ?_
      try dsimp only [Nat.reduceAdd]
      rw [nI_1]
      refine xS.pI rfl rfl rfl ⟨⟨by decide, rfl⟩, rfl, by decide, by decide⟩ rfl ?_
      try dsimp only [Nat.reduceAdd]
      refine xS.s1 rfl rfl ?_
      try dsimp only [Nat.reduceAdd]
      refine xS.s1 rfl rfl ?_
      try dsimp only [Nat.reduceAdd, xi_3]
      -- 38 yX12_figure
      refine xS.cv rfl rfl rfl rfl rfl rfl ⟨by decide, rfl, rfl⟩ (c_X12_figureP (t := 3) (p := p + 1) (o := o) (n := n) (f := f) (up_same ..) (by rw [up_ne (Or.inr (by decide))]; exact hO) (by rw [up_ne (Or.inr (by decide))]; exact hN) (fun i hi => by rw [up_na (by decide)]; exact hfv i hi) hn ho (by omega) (by decide)) (fun v M1 hv => ?_)
      obtain ⟨z, g2, rfl, rfl, hz⟩ := hv
      try dsimp only [Nat.reduceAdd, Option.toList, List.cons_append, List.nil_append, List.drop]
      refine xS.s1 rfl rfl ?_
      try dsimp only [Nat.reduceAdd]
      refine xS.s1 rfl rfl ?_
      try dsimp only [Nat.reduceAdd]
      refine xS.br0 (c := .ge) (off := 5) (l := 3) rfl rfl (fun h43 => ?_) (fun h43 => ?_)
      · have g43 := xt_ge h43
        obtain ⟨hfg, rfl, rfl⟩ := xFg_ge hz g43
        refine xS.s1 rfl rfl ?_
        try dsimp only [Nat.reduceAdd]
        refine xS.gR rfl rfl rfl ⟨by decide, rfl⟩ rfl ?_
        try dsimp only [Nat.reduceAdd]
        refine xS.s1 rfl rfl ?_
        try dsimp only [Nat.reduceAdd, xi_2]
        refine xS.s1 rfl rfl ?_
        try dsimp only [Nat.reduceAdd]
        refine xS.gI rfl rfl rfl ⟨by decide, rfl⟩ rfl ?_
        try dsimp only [Nat.reduceAdd]
        rw [up_ne (Or.inr (by decide)), up_ne (Or.inr (by decide)), hR.1.1]
        refine xS.s1 rfl rfl ?_
        try dsimp only [Nat.reduceAdd]
        refine xS.s1 rfl rfl ?_
        try dsimp only [Nat.reduceAdd]
        rw [show ((2 * nI G) : Int32) = nI (2 * G) from by simp only [← nI_add, ← pk_mul] <;> rfl]
        refine xS.ias rfl xar_79 (by omega) ?_
        try dsimp only [Nat.reduceAdd]
        refine xS.s1 rfl rfl ?_
        try dsimp only [Nat.reduceAdd]
        refine xS.gR rfl rfl rfl ⟨by decide, rfl⟩ rfl ?_
        try dsimp only [Nat.reduceAdd]
        refine xS.s1 rfl rfl ?_
        try dsimp only [Nat.reduceAdd, xi_2]
        refine xS.s1 rfl rfl ?_
        try dsimp only [Nat.reduceAdd]
        refine xS.gI rfl rfl rfl ⟨by decide, rfl⟩ rfl ?_
        try dsimp only [Nat.reduceAdd]
        rw [up_na (by decide), up_ne (Or.inr (by decide)), up_ne (Or.inr (by decide)), hR.1.1]
        refine xS.s1 rfl rfl ?_
        try dsimp only [Nat.reduceAdd]
        refine xS.s1 rfl rfl ?_
        try dsimp only [Nat.reduceAdd, xi_1]
        refine xS.s1 rfl rfl ?_
        try dsimp only [Nat.reduceAdd]
        refine xS.s1 rfl rfl ?_
        try dsimp only [Nat.reduceAdd]
        rw [show (((2 * nI G) + 1) : Int32) = nI ((2 * G) + 1) from by simp only [← nI_add, ← pk_mul] <;> rfl]
        refine xS.ias rfl xar_79 (by omega) ?_
        try dsimp only [Nat.reduceAdd]
        refine xS.s1 rfl rfl ?_
        try dsimp only [Nat.reduceAdd]
        refine xS.s1 rfl rfl ?_
        try dsimp only [Nat.reduceAdd]
        refine xS.gI rfl rfl rfl ⟨by decide, rfl⟩ rfl ?_
        try dsimp only [Nat.reduceAdd]
        rw [up_na (by decide), up_na (by decide), up_ne (Or.inr (by decide)), up_ne (Or.inr (by decide)), hR.1.1]
        refine xS.s1 rfl rfl ?_
        try dsimp only [Nat.reduceAdd, xi_1]
        refine xS.s1 rfl rfl ?_
        try dsimp only [Nat.reduceAdd]
        rw [nI_1]
        refine xS.pI rfl rfl rfl ⟨⟨by decide, rfl⟩, rfl, by decide, by decide⟩ rfl ?_
        try dsimp only [Nat.reduceAdd]
        refine xS.s1 rfl rfl ?_
        try dsimp only [Nat.reduceAdd, xi_1]
        refine xS.ret rfl rfl rfl (fun _ _ => rfl) ?_
        have v1 := xfv_e (by decide) hfg
        have hq : ∀ q, xpi f n (q + 1) p G T Lw tx = xpi f n q (xab f n (p + 2)) (G + 1) T (uf Lw G (4 * κ + xfv (f (p + 1)))) tx := fun q => by rw [xpi_g2 hpn (xkd_110 hk) hnb hfg, hk]; rfl
        have d1 : (4 * κ + xfv (f (p + 1))) / 4 = κ := by have := v1.1; omega
        have d2 : (4 * κ + xfv (f (p + 1))) % 4 = xfv (f (p + 1)) := by have := v1.1; omega
        refine ⟨none, _, rfl, rfl, ⟨fun e h1 h2 h3 => by rw [up_na h1, up_na h2, up_na h2, up_na h1, up_na h1], fun i h1 h2 h3 => by rw [up_ne (Or.inr h2), up_na (by decide), up_na (by decide), up_ne (Or.inr h1), up_ne (Or.inr h1)]⟩, fun e he => (by cases he), fun _ => ⟨G + 1, T, _, tx, ⟨⟨up_same .., by omega⟩, ⟨by rw [up_ne (Or.inr (by decide)), up_na (by decide), up_na (by decide), up_ne (Or.inr (by decide)), up_ne (Or.inr (by decide))]; exact hR.2.1.1, hR.2.1.2⟩, fun t ht => ?_, fun t ht => absurd ht (by omega)⟩, by rw [up_ne (Or.inr (by decide)), up_na (by decide), up_na (by decide), up_same], by have := hfg.1; omega, hq⟩⟩
        by_cases e1 : t = G
        · subst e1
          rw [uf_i, d1, d2]
          refine ⟨?_, ?_, by have := v1.1; omega⟩
          · rw [up_na (by decide), up_ne (Or.inr (by omega)), up_same]
          · rw [up_na (by decide), up_same]
        · rw [uf_n e1]
          refine ⟨?_, ?_, (hR.2.2.1 t (by omega)).2.2⟩
          · rw [up_na (by decide), up_ne (Or.inr (by omega)), up_ne (Or.inr (by omega)), up_na (by decide), up_na (by decide)]
            exact (hR.2.2.1 t (by omega)).1
          · rw [up_na (by decide), up_ne (Or.inr (by omega)), up_ne (Or.inr (by omega)), up_na (by decide), up_na (by decide)]
            exact (hR.2.2.1 t (by omega)).2.1
      · have g43 := xf_ge h43
        refine xS.s1 rfl rfl ?_
        try dsimp only [Nat.reduceAdd, xi_0]
        refine xS.ret rfl rfl rfl (fun _ _ => rfl) ?_
        obtain ⟨hnf, rfl, rfl⟩ := xFg_lt (by decide) hz g43
        exact ⟨some (p + 1), _, rfl, rfl, ⟨fun e h1 _ _ => up_na h1, fun i h1 _ _ => up_ne (Or.inr h1)⟩, fun e he => by cases he; exact ⟨by omega, up_same .., fun q => xpi_g1 hpn (xkd_110 hk) hnb hnf⟩, fun z => by cases z⟩
    · have g13 := xf_le h13
      refine xS.s1 rfl rfl ?_
      try dsimp only [Nat.reduceAdd, xi_0]
      refine xS.ret rfl rfl rfl (fun _ _ => rfl) ?_
      exact ⟨some p, g, rfl, rfl, ⟨fun _ _ _ _ => rfl, fun _ _ _ _ => rfl⟩, fun e he => by cases he; exact ⟨by omega, hP, fun q => xpi_g0 hpn (xkd_110 hk) (Or.inr (Or.inl (by have z := g13; rw [hR.2.1.1] at z; exact (nI_ltI (a := 0) (b := T) (by omega) (by omega)).mp z)))⟩, fun z => by cases z⟩

set_option maxRecDepth 10000 in
theorem c_X12_isTermItem (hP : g 73 28 = nI p) (hO : g 73 29 = nI o) (hN : g 73 30 = nI n) (hfv : ∀ i, i < n → g 77 (o + i) = f i) (hn : n ≤ 60) (ho : o ≤ 180) (hp : p ≤ n) (hR : xRw g G T Lw tx) (hpn : p < n) (hk : f p = 110) : xT (k + 3) 174 [.ref 73] (xH b g l) (fun r M' => xItR b l f n g p G T Lw tx 3 r M') := by
  have hG6 := hR.1.2
  have hT8 := hR.2.1.2
  refine xT.of rfl (Nat.le_of_ble_eq_true rfl) ?_
  change xS _ _ 0 [(0, .ref 73)] [] _ _
  refine xS.s1 rfl rfl ?_
  try dsimp only [Nat.reduceAdd]
  refine xS.gI rfl rfl rfl ⟨by decide, rfl⟩ rfl ?_
  try dsimp only [Nat.reduceAdd]
  refine xS.s1 rfl rfl ?_
  try dsimp only [Nat.reduceAdd, xj_8]
  refine xS.br (c := .eq) (off := 10) (l := 3) rfl rfl (fun h6 => ?_) (fun h6 => ?_)
  · have g6 := xt_eq h6
    refine xS.s1 rfl rfl ?_
    try dsimp only [Nat.reduceAdd, xi_0]
    refine xS.ret rfl rfl rfl (fun _ _ => rfl) ?_
    exact ⟨some p, g, rfl, rfl, ⟨fun _ _ _ _ => rfl, fun _ _ _ _ => rfl⟩, fun e he => by cases he; exact ⟨by omega, hP, fun q => xpi_t0 hpn hk (Or.inr (nI_inj (b := 8) (by omega) (by omega) (hR.2.1.1.symm.trans g6)))⟩, fun z => by cases z⟩
  · have g6 := xf_eq h6
    refine xS.s1 rfl rfl ?_
    try dsimp only [Nat.reduceAdd]
    refine xS.gI rfl rfl rfl ⟨by decide, rfl⟩ rfl ?_
    try dsimp only [Nat.reduceAdd]
    refine xS.br0 (c := .ne) (off := 5) (l := 3) rfl rfl (fun h13 => ?_) (fun h13 => ?_)
    · have g13 := xt_ne h13
      have hnb : ¬ (G = 0 ∨ T = 8) := fun z => by rcases z with z | z; (exact g13 (by rw [hR.1.1, z]; rfl)); (exact g6 (by rw [hR.2.1.1, z]; rfl))
      have hT7 : T < 8 := by have := fun z => hnb (Or.inr z); omega
      refine xS.s1 rfl rfl ?_
      try dsimp only [Nat.reduceAdd]
      refine xS.s1 rfl rfl ?_
      try dsimp only [Nat.reduceAdd]
      refine xS.gI rfl rfl rfl ⟨by decide, rfl⟩ rfl ?_
      try dsimp only [Nat.reduceAdd]
      rw [hP]
      refine xS.s1 rfl rfl ?_
      try dsimp only [Nat.reduceAdd, xi_1]
      refine xS.s1 rfl rfl ?_
      try dsimp only [Nat.reduceAdd]
      rw [nI_1]
      refine xS.pI rfl rfl rfl ⟨⟨by decide, rfl⟩, rfl, by decide, by decide⟩ rfl ?_
      try dsimp only [Nat.reduceAdd]
      refine xS.s1 rfl rfl ?_
      try dsimp only [Nat.reduceAdd, xi_0]
      refine xS.s1 rfl rfl ?_
      try dsimp only [Nat.reduceAdd]
      refine xS.s1 rfl rfl ?_
      try dsimp only [Nat.reduceAdd]
      refine xS.s1 rfl rfl ?_
      try dsimp only [Nat.reduceAdd, xi_2]
      refine xS.br (c := .ge) (off := 35) (l := 3) rfl rfl (fun h32 => ?_) (fun h32 => ?_)
      · have g32 := xt_ge h32
        exfalso; first | exact absurd g32 (by decide) | (simp (disch := omega) only [Int32.lt_iff_toInt_lt, Int32.le_iff_toInt_le, nI_toInt, Int32.reduceToInt] at g32 <;> omega)
      · have g32 := xf_ge h32
        refine xS.s1 rfl rfl ?_
        try dsimp only [Nat.reduceAdd]
        refine xS.s1 rfl rfl ?_
        try dsimp only [Nat.reduceAdd, xi_5]
        -- 37 yX12_figure
        refine xS.cv rfl rfl rfl rfl rfl rfl ⟨by decide, rfl, rfl⟩ (c_X12_figureP (t := 5) (p := p + 1) (o := o) (n := n) (f := f) (up_same ..) (by rw [up_ne (Or.inr (by decide))]; exact hO) (by rw [up_ne (Or.inr (by decide))]; exact hN) (fun i hi => by rw [up_na (by decide)]; exact hfv i hi) hn ho (by omega) (by decide)) (fun v M1 hv => ?_)
        obtain ⟨z1, g2, rfl, rfl, hz1⟩ := hv
        try dsimp only [Nat.reduceAdd, Option.toList, List.cons_append, List.nil_append, List.drop]
        refine xS.s1 rfl rfl ?_
        try dsimp only [Nat.reduceAdd]
        refine xS.s1 rfl rfl ?_
        try dsimp only [Nat.reduceAdd]
        refine xS.br0 (c := .ge) (off := 5) (l := 3) rfl rfl (fun h42 => ?_) (fun h42 => ?_)
        · have g42 := xt_ge h42
          obtain ⟨hfg1, rfl, rfl⟩ := xFg_ge hz1 g42
          refine xS.s1 rfl rfl ?_
          try dsimp only [Nat.reduceAdd]
          refine xS.gR rfl rfl rfl ⟨by decide, rfl⟩ rfl ?_
          try dsimp only [Nat.reduceAdd]
          refine xS.s1 rfl rfl ?_
          try dsimp only [Nat.reduceAdd, xi_2]
          refine xS.s1 rfl rfl ?_
          try dsimp only [Nat.reduceAdd]
          refine xS.gI rfl rfl rfl ⟨by decide, rfl⟩ rfl ?_
          try dsimp only [Nat.reduceAdd]
          rw [up_ne (Or.inr (by decide)), up_ne (Or.inr (by decide)), hR.2.1.1]
          refine xS.s1 rfl rfl ?_
          try dsimp only [Nat.reduceAdd]
          refine xS.s1 rfl rfl ?_
          try dsimp only [Nat.reduceAdd]
          refine xS.s1 rfl rfl ?_
          try dsimp only [Nat.reduceAdd]
          refine xS.s1 rfl rfl ?_
          try dsimp only [Nat.reduceAdd]
          rw [show (((2 * nI T) + 0) : Int32) = nI ((2 * T) + 0) from by simp only [← nI_add, ← pk_mul] <;> rfl]
          refine xS.ias rfl xar_80 (by omega) ?_
          try dsimp only [Nat.reduceAdd]
          refine xS.s1 rfl rfl ?_
          try dsimp only [Nat.reduceAdd, xi_1]
          refine xS.s1 rfl rfl ?_
          try dsimp only [Nat.reduceAdd]
          rw [show (0 + 1 : Int32) = 1 from rfl]
          refine xS.s1 rfl rfl ?_
          try dsimp only [Nat.reduceAdd]
          refine xS.s1 rfl rfl ?_
          try dsimp only [Nat.reduceAdd, xi_2]
          refine xS.br (c := .ge) (off := 35) (l := 3) rfl rfl (fun h32 => ?_) (fun h32 => ?_)
          · have g32 := xt_ge h32
            exfalso; first | exact absurd g32 (by decide) | (simp (disch := omega) only [Int32.lt_iff_toInt_lt, Int32.le_iff_toInt_le, nI_toInt, Int32.reduceToInt] at g32 <;> omega)
          · have g32 := xf_ge h32
            refine xS.s1 rfl rfl ?_
            try dsimp only [Nat.reduceAdd]
            refine xS.s1 rfl rfl ?_
            try dsimp only [Nat.reduceAdd, xi_5]
            -- 37 yX12_figure
            refine xS.cv rfl rfl rfl rfl rfl rfl ⟨by decide, rfl, rfl⟩ (c_X12_figureP (t := 5) (p := p + 2) (o := o) (n := n) (f := f) (by rw [up_na (by decide), up_same]) (by rw [up_na (by decide), up_ne (Or.inr (by decide)), up_ne (Or.inr (by decide))]; exact hO) (by rw [up_na (by decide), up_ne (Or.inr (by decide)), up_ne (Or.inr (by decide))]; exact hN) (fun i hi => by rw [up_na (by decide), up_na (by decide), up_na (by decide)]; exact hfv i hi) hn ho (by have := hfg1.1; omega) (by decide)) (fun v M1 hv => ?_)
            obtain ⟨z2, g3, rfl, rfl, hz2⟩ := hv
            try dsimp only [Nat.reduceAdd, Option.toList, List.cons_append, List.nil_append, List.drop]
            refine xS.s1 rfl rfl ?_
            try dsimp only [Nat.reduceAdd]
            refine xS.s1 rfl rfl ?_
            try dsimp only [Nat.reduceAdd]
            refine xS.br0 (c := .ge) (off := 5) (l := 3) rfl rfl (fun h42 => ?_) (fun h42 => ?_)
            · have g42 := xt_ge h42
              obtain ⟨hfg2, rfl, rfl⟩ := xFg_ge hz2 g42
              refine xS.s1 rfl rfl ?_
              try dsimp only [Nat.reduceAdd]
              refine xS.gR rfl rfl rfl ⟨by decide, rfl⟩ rfl ?_
              try dsimp only [Nat.reduceAdd]
              refine xS.s1 rfl rfl ?_
              try dsimp only [Nat.reduceAdd, xi_2]
              refine xS.s1 rfl rfl ?_
              try dsimp only [Nat.reduceAdd]
              refine xS.gI rfl rfl rfl ⟨by decide, rfl⟩ rfl ?_
              try dsimp only [Nat.reduceAdd]
              rw [up_ne (Or.inr (by decide)), up_na (by decide), up_ne (Or.inr (by decide)), up_ne (Or.inr (by decide)), hR.2.1.1]
              refine xS.s1 rfl rfl ?_
              try dsimp only [Nat.reduceAdd]
              refine xS.s1 rfl rfl ?_
              try dsimp only [Nat.reduceAdd]
              refine xS.s1 rfl rfl ?_
              try dsimp only [Nat.reduceAdd]
              refine xS.s1 rfl rfl ?_
              try dsimp only [Nat.reduceAdd]
              rw [show (((2 * nI T) + 1) : Int32) = nI ((2 * T) + 1) from by simp only [← nI_add, ← pk_mul] <;> rfl]
              refine xS.ias rfl xar_80 (by omega) ?_
              try dsimp only [Nat.reduceAdd]
              refine xS.s1 rfl rfl ?_
              try dsimp only [Nat.reduceAdd, xi_1]
              refine xS.s1 rfl rfl ?_
              try dsimp only [Nat.reduceAdd]
              rw [show (1 + 1 : Int32) = 2 from rfl]
              refine xS.s1 rfl rfl ?_
              try dsimp only [Nat.reduceAdd]
              refine xS.s1 rfl rfl ?_
              try dsimp only [Nat.reduceAdd, xi_2]
              refine xS.br (c := .ge) (off := 35) (l := 3) rfl rfl (fun h32 => ?_) (fun h32 => ?_)
              · have g32 := xt_ge h32
                refine xS.s1 rfl rfl ?_
                try dsimp only [Nat.reduceAdd]
                refine xS.s1 rfl rfl ?_
                try dsimp only [Nat.reduceAdd]
                refine xS.gI rfl rfl rfl ⟨by decide, rfl⟩ rfl ?_
                try dsimp only [Nat.reduceAdd]
                rw [up_na (by decide), up_ne (Or.inr (by decide)), up_na (by decide), up_ne (Or.inr (by decide)), up_ne (Or.inr (by decide)), hR.2.1.1]
                refine xS.s1 rfl rfl ?_
                try dsimp only [Nat.reduceAdd, xi_1]
                refine xS.s1 rfl rfl ?_
                try dsimp only [Nat.reduceAdd]
                rw [nI_1]
                refine xS.pI rfl rfl rfl ⟨⟨by decide, rfl⟩, rfl, by decide, by decide⟩ rfl ?_
                try dsimp only [Nat.reduceAdd]
                refine xS.s1 rfl rfl ?_
                try dsimp only [Nat.reduceAdd, xi_1]
                refine xS.ret rfl rfl rfl (fun _ _ => rfl) ?_
                have v1 := xfv_e (by decide) hfg1
                have v2 := xfv_e (by decide) hfg2
                refine ⟨none, _, rfl, rfl, ⟨fun e h1 h2 h3 => by rw [up_na h1, up_na h3, up_na h1, up_na h3, up_na h1, up_na h1], fun i h1 h2 h3 => by rw [up_ne (Or.inr h3), up_na (by decide), up_ne (Or.inr h1), up_na (by decide), up_ne (Or.inr h1), up_ne (Or.inr h1)]⟩, fun e he => (by cases he), fun _ => ⟨G, T + 1, Lw, _, ⟨⟨by rw [up_ne (Or.inr (by decide)), up_na (by decide), up_ne (Or.inr (by decide)), up_na (by decide), up_ne (Or.inr (by decide)), up_ne (Or.inr (by decide))]; exact hR.1.1, hG6⟩, ⟨up_same .., by omega⟩, fun t ht => by rw [up_na (by decide), up_na (by decide), up_na (by decide), up_na (by decide), up_na (by decide), up_na (by decide)]; exact hR.2.2.1 t ht, fun t ht => ?_⟩, by rw [up_ne (Or.inr (by decide)), up_na (by decide), up_same], by have := hfg2.1; omega, fun q => xpi_t3 hpn hk hnb hfg1 hfg2⟩⟩
                rw [up_na (by decide)]
                by_cases e1 : t = 2 * T + 1
                · subst e1
                  rw [up_same, uf_i]
                  exact ⟨rfl, _, v2.1, rfl⟩
                · rw [up_ne (Or.inr e1), up_na (by decide), uf_n e1]
                  by_cases e2 : t = 2 * T
                  · subst e2
                    rw [show up (up (up g 73 28 (nI (p + 1))) 73 28 (nI (p + 1 + 1))) 80 (2 * T + 0) (nI (xfv (f (p + 1)))) 80 (2 * T) = nI (xfv (f (p + 1))) from up_same .., uf_i]
                    exact ⟨rfl, _, v1.1, rfl⟩
                  · rw [up_ne (Or.inr (show t ≠ 2 * T + 0 from e2)), up_na (by decide), up_na (by decide), uf_n e2]
                    exact hR.2.2.2 t (by omega)
              · have g32 := xf_ge h32
                exfalso; first | exact absurd g32 (by decide) | (simp (disch := omega) only [Int32.lt_iff_toInt_lt, Int32.le_iff_toInt_le, nI_toInt, Int32.reduceToInt] at g32 <;> omega)
            · have g42 := xf_ge h42
              refine xS.s1 rfl rfl ?_
              try dsimp only [Nat.reduceAdd, xi_0]
              refine xS.ret rfl rfl rfl (fun _ _ => rfl) ?_
              obtain ⟨hnf, rfl, rfl⟩ := xFg_lt (by decide) hz2 g42
              exact ⟨some (p + 2), _, rfl, rfl, ⟨fun e h1 h2 h3 => by rw [up_na h3, up_na h1, up_na h1], fun i h1 _ _ => by rw [up_na (by decide), up_ne (Or.inr h1), up_ne (Or.inr h1)]⟩, fun e he => by cases he; exact ⟨by omega, by rw [up_na (by decide), up_same], fun q => xpi_t2 hpn hk hnb hfg1 hnf⟩, fun z => by cases z⟩
        · have g42 := xf_ge h42
          refine xS.s1 rfl rfl ?_
          try dsimp only [Nat.reduceAdd, xi_0]
          refine xS.ret rfl rfl rfl (fun _ _ => rfl) ?_
          obtain ⟨hnf, rfl, rfl⟩ := xFg_lt (by decide) hz1 g42
          exact ⟨some (p + 1), _, rfl, rfl, ⟨fun e h1 _ _ => up_na h1, fun i h1 _ _ => up_ne (Or.inr h1)⟩, fun e he => by cases he; exact ⟨by omega, up_same .., fun q => xpi_t1 hpn hk hnb hnf⟩, fun z => by cases z⟩
    · have g13 := xf_ne h13
      refine xS.s1 rfl rfl ?_
      try dsimp only [Nat.reduceAdd, xi_0]
      refine xS.ret rfl rfl rfl (fun _ _ => rfl) ?_
      exact ⟨some p, g, rfl, rfl, ⟨fun _ _ _ _ => rfl, fun _ _ _ _ => rfl⟩, fun e he => by cases he; exact ⟨by omega, hP, fun q => xpi_t0 hpn hk (Or.inl (nI_inj (b := 0) (by omega) (by omega) (hR.1.1.symm.trans g13)))⟩, fun z => by cases z⟩

end
