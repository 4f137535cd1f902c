/-! the reference's isRoom, fault, room -/
def xFp (g g' : Nat → Nat → Int32) : Prop := (∀ e, e ≠ 73 → e ≠ 78 → e ≠ 79 → e ≠ 80 → g' e = g e) ∧ (∀ i, i ≠ 28 → i ≠ 29 → i ≠ 30 → i ≠ 5 → i ≠ 7 → g' 73 i = g 73 i)
def xLR (f : Nat → Int32) (n : Nat) (g1 : Nat → Nat → Int32) (R : xPR) (j i G T : Nat) (Lw : Nat → Nat) (tx : Nat → Int32) (g' : Nat → Nat → Int32) : Prop := 2 * j ≤ i ∧ i ≤ n ∧ xpi f n (61 - j) i G T Lw tx = R ∧ xRw g' G T Lw tx ∧ g' 73 28 = nI i ∧ xFq g1 g'
theorem xFh_p {g g' : Nat → Nat → Int32} (h : xFh g g') : xFp g g' := ⟨fun e h1 h2 _ _ => h.1 e h1 h2, fun i h1 _ _ _ _ => h.2 i h1⟩
theorem xFq_p {g g' : Nat → Nat → Int32} (h : xFq g g') : xFp g g' := ⟨fun e h1 _ h3 h4 => h.1 e h1 h3 h4, fun i h1 _ _ h4 h5 => h.2 i h1 h4 h5⟩
theorem xFp_t {g g1 g2 : Nat → Nat → Int32} (h1 : xFp g g1) (h2 : xFp g1 g2) : xFp g g2 := ⟨fun e p q r s => by rw [h2.1 e p q r s, h1.1 e p q r s], fun i p q r s t => by rw [h2.2 i p q r s t, h1.2 i p q r s t]⟩
theorem xFp_u {g g' : Nat → Nat → Int32} {v : Int32} {i : Nat} (hi : i = 28 ∨ i = 29 ∨ i = 30 ∨ i = 5 ∨ i = 7) (h : xFp g g') : xFp g (up g' 73 i v) := ⟨fun e p q r s => by rw [up_na p, h.1 e p q r s], fun j p q r s t => by rw [up_ne (Or.inr (by rcases hi with z | z | z | z | z <;> (rw [z]; assumption))), h.2 j p q r s t]⟩

section
variable {k a c n n2 m t p s d i1 j1 : Nat} {b : Nat × Nat} {g : Nat → Nat → Int32} {l : Nat → Nat → Int64} {i j x y z v w : Int32} {u w1 w2 : Int64}
variable {L G T κ δ o : Nat} {Lw : Nat → Nat} {f tx : Nat → Int32} {R : xPR}
set_option maxRecDepth 10000 in
theorem c_X12_isRoom (ht : t < 4) (hs : g 76 t = nI n) (hn : n ≤ 60) (hfv : ∀ i, i < n → g 77 (60 * t + i) = f i) (hRR : xprs f n = R) : xT (k + 4) 175 [.ref 73, .int (nI t)] (xH b g l) (fun r M' => ∃ g', M' = xH b g' l ∧ xFp g g' ∧ r = some (.int (xb1 R.1)) ∧ (∀ e, R.1 = some e → e < 2 ^ 31 ∧ g' 73 28 = nI e) ∧ (R.1 = none → xRw g' R.2.1 R.2.2.1 R.2.2.2.1 R.2.2.2.2 ∧ ∀ s, s < 6 → g' 78 s = nI (xfv (f (xab f n 0 + 1 + s))) ∧ xfv (f (xab f n 0 + 1 + s)) < 6)) := by
  have hP5 : (up (up (up (up (up g 73 29 (nI (60 * t))) 73 30 (nI n)) 73 28 0) 73 5 0) 73 7 0) 73 28 = nI 0 := by rw [up_ne (Or.inr (by decide)), up_ne (Or.inr (by decide)), up_same]; rfl
  have hO5 : (up (up (up (up (up g 73 29 (nI (60 * t))) 73 30 (nI n)) 73 28 0) 73 5 0) 73 7 0) 73 29 = nI (60 * t) := by rw [up_ne (Or.inr (by decide)), up_ne (Or.inr (by decide)), up_ne (Or.inr (by decide)), up_ne (Or.inr (by decide)), up_same]
  have hN5 : (up (up (up (up (up g 73 29 (nI (60 * t))) 73 30 (nI n)) 73 28 0) 73 5 0) 73 7 0) 73 30 = nI n := by rw [up_ne (Or.inr (by decide)), up_ne (Or.inr (by decide)), up_ne (Or.inr (by decide)), up_same]
  have hf5 : ∀ i, i < n → (up (up (up (up (up g 73 29 (nI (60 * t))) 73 30 (nI n)) 73 28 0) 73 5 0) 73 7 0) 77 (60 * t + i) = f i := fun i hi => by rw [up_na (by decide), up_na (by decide), up_na (by decide), up_na (by decide), up_na (by decide)]; exact hfv i hi
  have hF5 : xFp g (up (up (up (up (up g 73 29 (nI (60 * t))) 73 30 (nI n)) 73 28 0) 73 5 0) 73 7 0) := xFp_u (by decide) (xFp_u (by decide) (xFp_u (by decide) (xFp_u (by decide) (xFp_u (by decide) ⟨fun _ _ _ _ _ => rfl, fun _ _ _ _ _ _ => rfl⟩))))
  refine xT.of rfl (Nat.le_of_ble_eq_true rfl) ?_
  change xS _ _ 0 [(0, .ref 73), (1, .int (nI t))] [] _ _
  refine xS.s1 rfl rfl ?_
  try dsimp only [Nat.reduceAdd]
  refine xS.s1 rfl rfl ?_
  try dsimp only [Nat.reduceAdd, xj_60]
  refine xS.s1 rfl rfl ?_
  try dsimp only [Nat.reduceAdd]
  refine xS.s1 rfl rfl ?_
  try dsimp only [Nat.reduceAdd]
  rw [show (60 * nI t : Int32) = nI (60 * t) from pk_mul 60 t]
  refine xS.pI rfl rfl rfl ⟨⟨by decide, rfl⟩, rfl, by decide, by decide⟩ rfl ?_
  try dsimp only [Nat.reduceAdd]
  refine xS.s1 rfl rfl ?_
  try dsimp only [Nat.reduceAdd]
  refine xS.s1 rfl rfl ?_
  try dsimp only [Nat.reduceAdd]
  refine xS.gR rfl rfl rfl ⟨by decide, rfl⟩ rfl ?_
  try dsimp only [Nat.reduceAdd]
  refine xS.s1 rfl rfl ?_
  try dsimp only [Nat.reduceAdd]
  refine xS.ia rfl xar_76 (by omega) ?_
  try dsimp only [Nat.reduceAdd]
  rw [up_na (by decide), hs]
  refine xS.pI rfl rfl rfl ⟨⟨by decide, rfl⟩, rfl, by decide, by decide⟩ rfl ?_
  try dsimp only [Nat.reduceAdd]
  refine xS.s1 rfl rfl ?_
  try dsimp only [Nat.reduceAdd]
  refine xS.s1 rfl rfl ?_
  try dsimp only [Nat.reduceAdd, xi_0]
  refine xS.pI rfl rfl rfl ⟨⟨by decide, rfl⟩, rfl, by decide, by decide⟩ rfl ?_
  try dsimp only [Nat.reduceAdd]
  refine xS.s1 rfl rfl ?_
  try dsimp only [Nat.reduceAdd]
  refine xS.s1 rfl rfl ?_
  try dsimp only [Nat.reduceAdd, xi_0]
  refine xS.pI rfl rfl rfl ⟨⟨by decide, rfl⟩, rfl, by decide, by decide⟩ rfl ?_
  try dsimp only [Nat.reduceAdd]
  refine xS.s1 rfl rfl ?_
  try dsimp only [Nat.reduceAdd]
  refine xS.s1 rfl rfl ?_
  try dsimp only [Nat.reduceAdd, xi_0]
  refine xS.pI rfl rfl rfl ⟨⟨by decide, rfl⟩, rfl, by decide, by decide⟩ rfl ?_
  try dsimp only [Nat.reduceAdd]
  refine xS.s1 rfl rfl ?_
  try dsimp only [Nat.reduceAdd]
  -- 34 yX12_areHabits
  refine xS.cv rfl rfl rfl rfl rfl rfl ⟨by decide, rfl, rfl⟩ (c_X12_areHabits hP5 hO5 hN5 hf5 hn (by omega)) (fun v M1 hv => ?_)
  obtain ⟨o1, g1, rfl, rfl, hFh, hbh, hoh⟩ := hv
  have hO1 : g1 73 29 = nI (60 * t) := by rw [hFh.2 29 (by decide)]; exact hO5
  have hN1 : g1 73 30 = nI n := by rw [hFh.2 30 (by decide)]; exact hN5
  have hf1 : ∀ i, i < n → g1 77 (60 * t + i) = f i := fun i hi => by rw [hFh.1 77 (by decide) (by decide)]; exact hf5 i hi
  try dsimp only [Nat.reduceAdd, Option.toList, List.cons_append, List.nil_append, List.drop]
  refine xS.br0 (c := .ne) (off := 5) (l := 3) rfl rfl (fun h37 => ?_) (fun h37 => ?_)
  · have g37 := xt_ne h37
    have on := xb1_1 g37
    obtain ⟨hq1, hqn, hp7, hl7, hh6⟩ := hoh on
    have hR0 : xpi f n 61 (xab f n (xab f n 0 + 7)) 0 0 (fun _ => 0) (fun _ => 0) = R := by rw [← hRR, xprs_2 hq1 hqn]
    have zz := xab_le (f := f) hl7
    refine xS.s1 rfl rfl ?_
    try dsimp only [Nat.reduceAdd]
    -- 43 yX12_skip
    refine xS.cv rfl rfl rfl rfl rfl rfl ⟨by decide, rfl, rfl⟩ (c_X12_skip (p := xab f n 0 + 7) (o := 60 * t) (n := n) (f := f) hp7 hO1 hN1 hf1 hn (by omega) hl7) (fun v M1 hv => ?_)
    rw [hv.1, hv.2]
    clear hv M1 v
    try dsimp only [Nat.reduceAdd, Option.toList, List.cons_append, List.nil_append, List.drop]
    refine xS.pick [0] rfl ?_
    refine xS.loop (σ := Nat × Nat × Nat × (Nat → Nat) × (Nat → Int32) × (Nat → Nat → Int32)) (61) (fun j S => [(0, .ref 73)]) (fun _ S => xH b S.2.2.2.2.2 l) (fun j S => xLR f n (up g1 73 28 (nI (xab f n (xab f n 0 + 7)))) R j S.1 S.2.1 S.2.2.1 S.2.2.2.1 S.2.2.2.2.1 S.2.2.2.2.2) ((xab f n (xab f n 0 + 7), 0, 0, (fun _ => 0), (fun _ => 0), (up g1 73 28 (nI (xab f n (xab f n 0 + 7)))))) (rfl) (rfl) (show xLR f n (up g1 73 28 (nI (xab f n (xab f n 0 + 7)))) R 0 (xab f n (xab f n 0 + 7)) 0 0 (fun _ => 0) (fun _ => 0) (up g1 73 28 (nI (xab f n (xab f n 0 + 7)))) from ⟨Nat.zero_le _, zz.1, hR0, ⟨⟨by rw [up_ne (Or.inr (by decide)), hFh.2 5 (by decide), up_ne (Or.inr (by decide)), up_same]; rfl, by decide⟩, ⟨by rw [up_ne (Or.inr (by decide)), hFh.2 7 (by decide), up_same]; rfl, by decide⟩, fun k hk => absurd hk (by omega), fun k hk => absurd hk (by omega)⟩, up_same .., ⟨fun _ _ _ _ => rfl, fun _ _ _ _ => rfl⟩⟩) ?_
    have hFF : xFp g (up g1 73 28 (nI (xab f n (xab f n 0 + 7)))) := xFp_u (by decide) (xFp_t hF5 (xFh_p hFh))
    intro j S hj hI ih
    obtain ⟨i1, G1, T1, Lw1, tx1, g2⟩ := S
    obtain ⟨hj2, hi1, hq2, hR2, hP2, hFq⟩ := hI
    dsimp only at hj2 hi1 hq2 hR2 hP2 hFq
    have hO2 : g2 73 29 = nI (60 * t) := by rw [hFq.2 29 (by decide) (by decide) (by decide), up_ne (Or.inr (by decide))]; exact hO1
    have hN2 : g2 73 30 = nI n := by rw [hFq.2 30 (by decide) (by decide) (by decide), up_ne (Or.inr (by decide))]; exact hN1
    have hf2 : ∀ i, i < n → g2 77 (60 * t + i) = f i := fun i hi => by rw [hFq.1 77 (by decide) (by decide) (by decide), up_na (by decide)]; exact hf1 i hi
    try dsimp only
    refine xS.s1 rfl rfl ?_
    try dsimp only [Nat.reduceAdd]
    refine xS.gI rfl rfl rfl ⟨by decide, rfl⟩ rfl ?_
    try dsimp only [Nat.reduceAdd]
    rw [hP2]
    refine xS.s1 rfl rfl ?_
    try dsimp only [Nat.reduceAdd]
    refine xS.gI rfl rfl rfl ⟨by decide, rfl⟩ rfl ?_
    try dsimp only [Nat.reduceAdd]
    rw [hN2]
    refine xS.br (c := .ge) (off := 54) (l := 3) rfl rfl (fun h54 => ?_) (fun h54 => ?_)
    · have g54 := xt_ge h54
      have hge := xnle g54 (by omega) (by omega)
      refine xS.s1 rfl rfl ?_
      try dsimp only [Nat.reduceAdd]
      refine xS.gI rfl rfl rfl ⟨by decide, rfl⟩ rfl ?_
      try dsimp only [Nat.reduceAdd]
      rw [hR2.1.1]
      refine xS.br0 (c := .le) (off := 7) (l := 3) rfl rfl (fun h112 => ?_) (fun h112 => ?_)
      · have g112 := xt_le h112
        refine xS.s1 rfl rfl ?_
        try dsimp only [Nat.reduceAdd, xi_0]
        refine xS.ret rfl rfl rfl (fun _ _ => rfl) ?_
        have e1 := xpi_e (q := 60 - j) (f := f) (n := n) (i := i1) (G := G1) (T := T1) (Lw := Lw1) (tx := tx1) (by omega)
        rw [show 60 - j + 1 = 61 - j by omega, hq2] at e1
        rw [if_pos (xn0 g112 (by have := hR2.1.2; omega))] at e1
        rw [e1]
        exact ⟨g2, rfl, xFp_t hFF (xFq_p hFq), rfl, fun d hd => by cases hd; exact ⟨by omega, by rw [hP2]; congr 1; omega⟩, fun z => by cases z⟩
      · have g112 := xf_le h112
        refine xS.s1 rfl rfl ?_
        try dsimp only [Nat.reduceAdd, xi_1]
        refine xS.s1 rfl rfl ?_
        try dsimp only [Nat.reduceAdd]
        refine xS.ret rfl rfl rfl (fun _ _ => rfl) ?_
        have e1 := xpi_e (q := 60 - j) (f := f) (n := n) (i := i1) (G := G1) (T := T1) (Lw := Lw1) (tx := tx1) (by omega)
        rw [show 60 - j + 1 = 61 - j by omega, hq2] at e1
        rw [if_neg (fun z => absurd g112 (by rw [z]; decide))] at e1
        rw [e1]
        exact ⟨g2, rfl, xFp_t hFF (xFq_p hFq), rfl, fun d hd => (by cases hd), fun _ => ⟨hR2, fun s hs => by rw [hFq.1 78 (by decide) (by decide) (by decide), up_na (by decide)]; exact hh6 s hs⟩⟩
    · have g54 := xf_ge h54
      have hlt := xnlt g54 (by omega) (by omega)
      refine xS.s1 rfl rfl ?_
      try dsimp only [Nat.reduceAdd]
      -- 58 yX12_letter
      refine xS.cv rfl rfl rfl rfl rfl rfl ⟨by decide, rfl, rfl⟩ (c_X12_letter hP2 hO2 hN2 hf2 hn (by omega) hi1) (fun v M1 hv => ?_)
      rw [hv.1, hv.2, xlr_in hlt]
      clear hv M1 v
      try dsimp only [Nat.reduceAdd, Option.toList, List.cons_append, List.nil_append, List.drop]
      refine xS.s1 rfl rfl ?_
      try dsimp only [Nat.reduceAdd]
      refine xS.s1 rfl rfl ?_
      try dsimp only [Nat.reduceAdd]
      -- 63 yX12_kindBy
      refine xS.callS rfl rfl rfl ⟨Nat.le_of_ble_eq_true rfl, rfl⟩ c_X12_kindBy (fun v M1 hv => ?_)
      rw [hv.1, hv.2]
      clear hv M1 v
      try dsimp only [Nat.reduceAdd, Option.toList, List.cons_append, List.nil_append, List.drop]
      refine xS.br0 (c := .lt) (off := 10) (l := 3) rfl rfl (fun h66 => ?_) (fun h66 => ?_)
      · have g66 := xt_lt h66
        refine xS.s1 rfl rfl ?_
        try dsimp only [Nat.reduceAdd]
        refine xS.s1 rfl rfl ?_
        try dsimp only [Nat.reduceAdd, xj_110]
        refine xS.br (c := .ne) (off := 14) (l := 3) rfl rfl (fun h79 => ?_) (fun h79 => ?_)
        · have g79 := xt_ne h79
          refine xS.s1 rfl rfl ?_
          try dsimp only [Nat.reduceAdd, xi_0]
          refine xS.s1 rfl rfl ?_
          try dsimp only [Nat.reduceAdd]
          refine xS.s1 rfl rfl ?_
          try dsimp only [Nat.reduceAdd]
          refine xS.br0 (c := .ne) (off := 5) (l := 3) rfl rfl (fun h96 => ?_) (fun h96 => ?_)
          · have g96 := xt_ne h96
            exact absurd rfl g96
          · have g96 := xf_ne h96
            refine xS.s1 rfl rfl ?_
            try dsimp only [Nat.reduceAdd, xi_0]
            refine xS.ret rfl rfl rfl (fun _ _ => rfl) ?_
            have e1 := xpi_g0 (q := 60 - j) (f := f) (n := n) (i := i1) (G := G1) (T := T1) (Lw := Lw1) (tx := tx1) hlt g79 (Or.inl (xkI_lt g66))
            rw [show 60 - j + 1 = 61 - j by omega, hq2] at e1
            rw [e1]
            exact ⟨g2, rfl, xFp_t hFF (xFq_p hFq), rfl, fun d hd => by cases hd; exact ⟨by omega, hP2⟩, fun z => by cases z⟩
        · have g79 := xf_ne h79
          refine xS.s1 rfl rfl ?_
          try dsimp only [Nat.reduceAdd]
          -- 83 yX12_isTermItem
          refine xS.cv rfl rfl rfl rfl rfl rfl ⟨by decide, rfl, rfl⟩ (c_X12_isTermItem hP2 hO2 hN2 hf2 hn (by omega) hi1 hR2 hlt g79) (fun v M1 hv => ?_)
          obtain ⟨o2, g3, rfl, rfl, hF3, hb3, ho3⟩ := hv
          have hO3 : g3 73 29 = nI (60 * t) := by rw [hF3.2 29 (by decide) (by decide) (by decide)]; exact hO2
          have hN3 : g3 73 30 = nI n := by rw [hF3.2 30 (by decide) (by decide) (by decide)]; exact hN2
          have hf3 : ∀ i, i < n → g3 77 (60 * t + i) = f i := fun i hi => by rw [hF3.1 77 (by decide) (by decide) (by decide)]; exact hf2 i hi
          try dsimp only [Nat.reduceAdd, Option.toList, List.cons_append, List.nil_append, List.drop]
          refine xS.br0 (c := .eq) (off := 7) (l := 3) rfl rfl (fun h86 => ?_) (fun h86 => ?_)
          · have g86 := xt_eq h86
            refine xS.s1 rfl rfl ?_
            try dsimp only [Nat.reduceAdd, xi_0]
            refine xS.s1 rfl rfl ?_
            try dsimp only [Nat.reduceAdd]
            refine xS.s1 rfl rfl ?_
            try dsimp only [Nat.reduceAdd]
            refine xS.br0 (c := .ne) (off := 5) (l := 3) rfl rfl (fun h96 => ?_) (fun h96 => ?_)
            · have g96 := xt_ne h96
              exact absurd rfl g96
            · have g96 := xf_ne h96
              refine xS.s1 rfl rfl ?_
              try dsimp only [Nat.reduceAdd, xi_0]
              refine xS.ret rfl rfl rfl (fun _ _ => rfl) ?_
              obtain ⟨e, he⟩ := xb1_0 g86
              obtain ⟨q1, q2, q3⟩ := hb3 e he
              have e1 := q3 (60 - j)
              rw [show 60 - j + 1 = 61 - j by omega, hq2] at e1
              rw [e1]
              exact ⟨g3, rfl, xFp_t hFF (xFq_p (xFq_t hFq hF3)), rfl, fun d hd => by cases hd; exact ⟨q1, q2⟩, fun z => by cases z⟩
          · have g86 := xf_eq h86
            refine xS.s1 rfl rfl ?_
            try dsimp only [Nat.reduceAdd, xi_1]
            refine xS.s1 rfl rfl ?_
            try dsimp only [Nat.reduceAdd]
            refine xS.s1 rfl rfl ?_
            try dsimp only [Nat.reduceAdd]
            refine xS.s1 rfl rfl ?_
            try dsimp only [Nat.reduceAdd]
            refine xS.br0 (c := .ne) (off := 5) (l := 3) rfl rfl (fun h96 => ?_) (fun h96 => ?_)
            · have g96 := xt_ne h96
              refine xS.s1 rfl rfl ?_
              try dsimp only [Nat.reduceAdd]
              -- 102 yX12_skip
              refine xS.cv rfl rfl rfl rfl rfl rfl ⟨by decide, rfl, rfl⟩ (c_X12_skip (p := i1 + 3) (o := 60 * t) (n := n) (f := f) ((ho3 (xb1_1 g86)).choose_spec.choose_spec.choose_spec.choose_spec.2.1) hO3 hN3 hf3 hn (by omega) ((ho3 (xb1_1 g86)).choose_spec.choose_spec.choose_spec.choose_spec.2.2.1)) (fun v M1 hv => ?_)
              rw [hv.1, hv.2]
              clear hv M1 v
              try dsimp only [Nat.reduceAdd, Option.toList, List.cons_append, List.nil_append, List.drop]
              refine xS.s1 rfl rfl ?_
              try dsimp only [Nat.reduceAdd]
              refine xS.pick [2] rfl ?_
              obtain ⟨G2, T2, Lw2, tx2, hR4, hp4, hl4, hq4⟩ := ho3 (xb1_1 g86)
              have e2 := hq4 (60 - j)
              rw [show 60 - j + 1 = 61 - j by omega, hq2] at e2
              have z2 := xab_le (f := f) hl4
              exact ih (xab f n (i1 + 3), G2, T2, Lw2, tx2, up g3 73 28 (nI (xab f n (i1 + 3)))) (by omega) (show xLR f n (up g1 73 28 (nI (xab f n (xab f n 0 + 7)))) R (j + 1) (xab f n (i1 + 3)) G2 T2 Lw2 tx2 (up g3 73 28 (nI (xab f n (i1 + 3)))) from ⟨by omega, z2.1, by rw [show 61 - (j + 1) = 60 - j by omega]; exact e2.symm, ⟨⟨by rw [up_ne (Or.inr (by decide))]; exact hR4.1.1, hR4.1.2⟩, ⟨by rw [up_ne (Or.inr (by decide))]; exact hR4.2.1.1, hR4.2.1.2⟩, fun k hk => by rw [up_na (by decide)]; exact hR4.2.2.1 k hk, fun k hk => by rw [up_na (by decide)]; exact hR4.2.2.2 k hk⟩, up_same .., xFq_t (xFq_t hFq hF3) ⟨fun e h1 _ _ => up_na h1, fun i h1 _ _ => up_ne (Or.inr h1)⟩⟩)
            · have g96 := xf_ne h96
              exact absurd g96 (by decide)
      · have g66 := xf_lt h66
        obtain ⟨κ, hk⟩ := xkI_ge g66
        refine xS.s1 rfl rfl ?_
        try dsimp only [Nat.reduceAdd]
        -- 70 yX12_isGlassItem
        refine xS.cv rfl rfl rfl rfl rfl rfl ⟨by decide, rfl, rfl⟩ (c_X12_isGlassItem hP2 hO2 hN2 hf2 hn (by omega) hi1 hR2 hlt hk) (fun v M1 hv => ?_)
        obtain ⟨o2, g3, rfl, rfl, hF3, hb3, ho3⟩ := hv
        have hO3 : g3 73 29 = nI (60 * t) := by rw [hF3.2 29 (by decide) (by decide) (by decide)]; exact hO2
        have hN3 : g3 73 30 = nI n := by rw [hF3.2 30 (by decide) (by decide) (by decide)]; exact hN2
        have hf3 : ∀ i, i < n → g3 77 (60 * t + i) = f i := fun i hi => by rw [hF3.1 77 (by decide) (by decide) (by decide)]; exact hf2 i hi
        try dsimp only [Nat.reduceAdd, Option.toList, List.cons_append, List.nil_append, List.drop]
        refine xS.s1 rfl rfl ?_
        try dsimp only [Nat.reduceAdd]
        refine xS.s1 rfl rfl ?_
        try dsimp only [Nat.reduceAdd]
        refine xS.s1 rfl rfl ?_
        try dsimp only [Nat.reduceAdd]
        refine xS.br0 (c := .ne) (off := 5) (l := 3) rfl rfl (fun h96 => ?_) (fun h96 => ?_)
        · have g96 := xt_ne h96
          refine xS.s1 rfl rfl ?_
          try dsimp only [Nat.reduceAdd]
          -- 102 yX12_skip
          refine xS.cv rfl rfl rfl rfl rfl rfl ⟨by decide, rfl, rfl⟩ (c_X12_skip (p := i1 + 2) (o := 60 * t) (n := n) (f := f) ((ho3 (xb1_1 g96)).choose_spec.choose_spec.choose_spec.choose_spec.2.1) hO3 hN3 hf3 hn (by omega) ((ho3 (xb1_1 g96)).choose_spec.choose_spec.choose_spec.choose_spec.2.2.1)) (fun v M1 hv => ?_)
          rw [hv.1, hv.2]
          clear hv M1 v
          try dsimp only [Nat.reduceAdd, Option.toList, List.cons_append, List.nil_append, List.drop]
          refine xS.s1 rfl rfl ?_
          try dsimp only [Nat.reduceAdd]
          refine xS.pick [2] rfl ?_
          obtain ⟨G2, T2, Lw2, tx2, hR4, hp4, hl4, hq4⟩ := ho3 (xb1_1 g96)
          have e2 := hq4 (60 - j)
          rw [show 60 - j + 1 = 61 - j by omega, hq2] at e2
          have z2 := xab_le (f := f) hl4
          exact ih (xab f n (i1 + 2), G2, T2, Lw2, tx2, up g3 73 28 (nI (xab f n (i1 + 2)))) (by omega) (show xLR f n (up g1 73 28 (nI (xab f n (xab f n 0 + 7)))) R (j + 1) (xab f n (i1 + 2)) G2 T2 Lw2 tx2 (up g3 73 28 (nI (xab f n (i1 + 2)))) from ⟨by omega, z2.1, by rw [show 61 - (j + 1) = 60 - j by omega]; exact e2.symm, ⟨⟨by rw [up_ne (Or.inr (by decide))]; exact hR4.1.1, hR4.1.2⟩, ⟨by rw [up_ne (Or.inr (by decide))]; exact hR4.2.1.1, hR4.2.1.2⟩, fun k hk => by rw [up_na (by decide)]; exact hR4.2.2.1 k hk, fun k hk => by rw [up_na (by decide)]; exact hR4.2.2.2 k hk⟩, up_same .., xFq_t (xFq_t hFq hF3) ⟨fun e h1 _ _ => up_na h1, fun i h1 _ _ => up_ne (Or.inr h1)⟩⟩)
        · have g96 := xf_ne h96
          refine xS.s1 rfl rfl ?_
          try dsimp only [Nat.reduceAdd, xi_0]
          refine xS.ret rfl rfl rfl (fun _ _ => rfl) ?_
          obtain ⟨e, he⟩ := xb1_0 g96
          obtain ⟨q1, q2, q3⟩ := hb3 e he
          have e1 := q3 (60 - j)
          rw [show 60 - j + 1 = 61 - j by omega, hq2] at e1
          rw [e1]
          exact ⟨g3, rfl, xFp_t hFF (xFq_p (xFq_t hFq hF3)), rfl, fun d hd => by cases hd; exact ⟨q1, q2⟩, fun z => by cases z⟩
  · have g37 := xf_ne h37
    refine xS.s1 rfl rfl ?_
    try dsimp only [Nat.reduceAdd, xi_0]
    refine xS.ret rfl rfl rfl (fun _ _ => rfl) ?_
    obtain ⟨e, he⟩ := xb1_0 g37
    obtain ⟨q1, q2, q3⟩ := hbh e he
    rw [← hRR, q1]
    exact ⟨g1, rfl, xFp_t hF5 (xFh_p hFh), rfl, fun d hd => by cases hd; exact ⟨q3, q2⟩, fun z => by cases z⟩

end
