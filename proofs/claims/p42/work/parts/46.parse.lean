/-! LimpMirror$Room: readItems, read -/
section
variable {k a c n n2 m t p s d i1 j1 : Nat} {b : Nat × Nat} {g : Nat → Nat → Int32} {l : Nat → Nat → Int64} {i j x y z v w : Int32} {u w1 w2 : Int64}
variable {L G T κ δ : Nat} {Lw : Nat → Nat} {f tx : Nat → Int32} {R : xPR}
theorem xFa_t {g g1 g2 : Nat → Nat → Int32} {a : Nat} (h1 : xFa a g g1) (h2 : xFa a g1 g2) : xFa a g g2 := fun e p q r => by rw [h2 e p q r, h1 e p q r]
theorem c_X8_readTermP (hC : xro a) (hF : xce c n) (hca : c + 1 < a ∨ a + 3 < c) (hs : g c 1 = nI m) (hm : m ≤ n) (hfv : g (c + 1) = f) (hm60 : m ≤ 60) (hp : p < m) (hc : f p = 110) (hR : xRv g a G T Lw tx) : xT (k + 4) 68 [.ref a, .ref c, .int (nI p)] (xH b g l) (xItP b l f m a g p G T Lw tx 3) := by
  obtain ⟨⟨hG, hG6⟩, ⟨hT, hT8⟩, hL, hx⟩ := hR
  by_cases hb : G = 0 ∨ T = 8
  · exact (c_X8_readTerm_bad hC hF hca hs hm hfv hG hG6 hT hT8 hp hm60 hb).weak (fun r M' h => ⟨some p, g, h.2, fun d e => by cases e; omega, h.1, fun _ _ _ _ => rfl, fun e he q => by cases he; exact xpi_t0 hp hc hb, fun z => by cases z⟩)
  by_cases hf1 : xfg f m (p + 1) 6
  · by_cases hf2 : xfg f m (p + 2) 6
    · have v1 := (xfv_e (by decide) hf1).1
      have v2 := (xfv_e (by decide) hf2).1
      refine (c_X8_readTerm_ok hC hF hca hs hm hfv hG hG6 hT hT8 hp hm60 hb hf1 hf2).weak (fun r M' h => ⟨none, _, h.2, fun d e => (by cases e), h.1, fun e h1 h2 h3 => by rw [up_na h1, up_na h3, up_na h3], fun e he => (by cases he), fun _ => ⟨G, T + 1, Lw, _, ⟨⟨by rw [up_ne (Or.inr (by decide)), up_na (by omega), up_na (by omega)]; exact hG, hG6⟩, ⟨up_same .., by omega⟩, fun k hk => by rw [up_na (by omega), up_na (by omega), up_na (by omega)]; exact hL k hk, fun k hk => ?_⟩, by have := hf2.1; omega, fun q => xpi_t3 hp hc hb hf1 hf2⟩⟩)
      rw [up_na (by omega)]
      by_cases e1 : k = 2 * T + 1
      · subst e1
        rw [up_same, uf_i]
        exact ⟨rfl, _, v2, rfl⟩
      · rw [up_ne (Or.inr e1), uf_n e1]
        by_cases e2 : k = 2 * T
        · subst e2
          rw [up_same, uf_i]
          exact ⟨rfl, _, v1, rfl⟩
        · rw [up_ne (Or.inr e2), uf_n e2]
          exact hx k (by omega)
    · exact (c_X8_readTerm_bad2 hC hF hca hs hm hfv hG hG6 hT hT8 hp hm60 hb hf1 hf2).weak (fun r M' h => ⟨some (p + 2), _, h.2, fun d e => by cases e; omega, h.1, fun e h1 h2 h3 => by rw [up_na h3], fun e he q => by cases he; exact xpi_t2 hp hc hb hf1 hf2, fun z => by cases z⟩)
  · exact (c_X8_readTerm_bad1 hC hF hca hs hm hfv hG hG6 hT hT8 hp hm60 hb hf1).weak (fun r M' h => ⟨some (p + 1), g, h.2, fun d e => by cases e; omega, h.1, fun _ _ _ _ => rfl, fun e he q => by cases he; exact xpi_t1 hp hc hb hf1, fun z => by cases z⟩)
theorem c_X8_readGlassP (hC : xro a) (hF : xce c n) (hca : c + 1 < a ∨ a + 3 < c) (hs : g c 1 = nI m) (hm : m ≤ n) (hfv : g (c + 1) = f) (hm60 : m ≤ 60) (hp : p < m) (hc : ¬ f p = 110) (hR : xRv g a G T Lw tx) : xT (k + 4) 67 [.ref a, .ref c, .int (nI p)] (xH b g l) (xItP b l f m a g p G T Lw tx 2) := by
  obtain ⟨⟨hG, hG6⟩, ⟨hT, hT8⟩, hL, hx⟩ := hR
  subst hfv
  by_cases hb : xkd (g (c + 1) p) = none ∨ 0 < T ∨ G = 6
  · exact (c_X8_readGlass_bad hC hF hs hm hG hG6 hT hT8 hp hm60 hb).weak (fun r M' h => ⟨some p, g, h.2, fun d e => by cases e; omega, h.1, fun _ _ _ _ => rfl, fun e he q => by cases he; exact xpi_g0 hp hc hb, fun z => by cases z⟩)
  have b2 : T = 0 := by have := fun z => hb (Or.inr (Or.inl z)); omega
  have b3 : G < 6 := by have := fun z => hb (Or.inr (Or.inr z)); omega
  cases ek : xkd (g (c + 1) p) with
  | none => exact absurd (Or.inl ek) hb
  | some κ =>
    have k6 := xkd_lt ek
    by_cases hf1 : xfg (g (c + 1)) m (p + 1) 4
    · have v1 := xfv_e (by decide) hf1
      have hq : ∀ q, xpi (g (c + 1)) m (q + 1) p G T Lw tx = xpi (g (c + 1)) m q (xab (g (c + 1)) m (p + 2)) (G + 1) T (uf Lw G (4 * κ + xfv (g (c + 1) (p + 1)))) tx := fun q => by rw [xpi_g2 hp hc hb hf1, ek]; rfl
      refine (c_X8_readGlass_ok hC hF hs hm hG hG6 hT hT8 hp hm60 ek b2 b3 hf1 v1.1 v1.2).weak (fun r M' h => ⟨none, _, h.2, fun d e => (by cases e), h.1, fun e h1 h2 h3 => by rw [up_na h1, up_na h2], fun e he => (by cases he), fun _ => ⟨G + 1, T, _, tx, ⟨⟨up_same .., by omega⟩, ⟨by rw [up_ne (Or.inr (by decide)), up_na (by omega)]; exact hT, hT8⟩, fun k hk => ?_, fun k hk => by omega⟩, by have := hf1.1; omega, hq⟩⟩)
      rw [up_na (by omega)]
      by_cases e1 : k = G
      · subst e1
        rw [up_same, uf_i]
        exact ⟨rfl, by have := v1.1; omega⟩
      · rw [up_ne (Or.inr e1), uf_n e1]
        exact hL k (by omega)
    · exact (c_X8_readGlass_bad1 hC hF hs hm hG hG6 hT hT8 hp hm60 ek b2 b3 hf1).weak (fun r M' h => ⟨some (p + 1), g, h.2, fun d e => by cases e; omega, h.1, fun _ _ _ _ => rfl, fun e he q => by cases he; exact xpi_g1 hp hc hb hf1, fun z => by cases z⟩)
def xLI (f : Nat → Int32) (m a : Nat) (g : Nat → Nat → Int32) (R : xPR) (j i G T : Nat) (Lw : Nat → Nat) (tx : Nat → Int32) (g' : Nat → Nat → Int32) : Prop := 2 * j ≤ i ∧ i ≤ m ∧ xpi f m (61 - j) i G T Lw tx = R ∧ xRv g' a G T Lw tx ∧ xFa a g g'

set_option maxRecDepth 10000 in
theorem c_X8_readItems (hC : xro a) (hF : xce c n) (hca : c + 1 < a ∨ a + 3 < c) (hs : g c 1 = nI m) (hm : m ≤ n) (hfv : g (c + 1) = f) (hm60 : m ≤ 60) (hp : p ≤ m) (hR : xRv g a G T Lw tx) (hRR : xpi f m 61 (xab f m p) G T Lw tx = R) : xT (k + 5) 66 [.ref a, .ref c, .int (nI p)] (xH b g l) (fun r M' => ∃ g', M' = xH b g' l ∧ xFa a g g' ∧ r = some (.int (xfI R.1)) ∧ (R.1 = none → xRv g' a R.2.1 R.2.2.1 R.2.2.2.1 R.2.2.2.2)) := by
  have hn := hF.2.2
  refine xT.of rfl (Nat.le_of_ble_eq_true rfl) ?_
  change xS _ _ 0 [(0, .ref a), (1, .ref c), (2, .int (nI p))] [] _ _
  refine xS.s1 rfl rfl ?_
  try dsimp only [Nat.reduceAdd]
  refine xS.s1 rfl rfl ?_
  try dsimp only [Nat.reduceAdd]
  -- 2 yX8_afterBlanks
  refine xS.callS rfl rfl rfl ⟨Nat.le_of_ble_eq_true rfl, rfl⟩ (c_X8_afterBlanksV (f := f) hF hs hm hfv (by omega)) (fun v M1 hv => ?_)
  rw [hv.1, hv.2]
  clear hv M1 v
  try dsimp only [Nat.reduceAdd, Option.toList, List.cons_append, List.nil_append, List.drop]
  refine xS.s1 rfl rfl ?_
  try dsimp only [Nat.reduceAdd]
  refine xS.s1 rfl rfl ?_
  try dsimp only [Nat.reduceAdd, xi_0]
  refine xS.s1 rfl rfl ?_
  try dsimp only [Nat.reduceAdd]
  refine xS.pick [0, 1, 3, 2] rfl ?_
  refine xS.loop (σ := Nat × Nat × Nat × (Nat → Nat) × (Nat → Int32) × (Nat → Nat → Int32)) (60) (fun j S => [(4, .int (nI j)), (3, .int (nI S.1)), (1, .ref c), (0, .ref a)]) (fun _ S => xH b S.2.2.2.2.2 l) (fun j S => xLI f m a g R j S.1 S.2.1 S.2.2.1 S.2.2.2.1 S.2.2.2.2.1 S.2.2.2.2.2) ((xab f m p, G, T, Lw, tx, g)) (rfl) (rfl) (⟨Nat.zero_le _, (xab_le hp).1, hRR, hR, fun _ _ _ _ => rfl⟩) ?_
  intro j S hj hI ih
  obtain ⟨i1, G1, T1, Lw1, tx1, g1⟩ := S
  obtain ⟨hj2, hi1, hq1, hR1, hF1⟩ := hI
  dsimp only at hj2 hi1 hq1 hR1 hF1
  have hs1 : g1 c 1 = nI m := by rw [hF1 c (by omega) (by omega) (by omega)]; exact hs
  have hf1 : g1 (c + 1) = f := by rw [hF1 (c + 1) (by omega) (by omega) (by omega)]; exact hfv
  try dsimp only
  refine xS.s1 rfl rfl ?_
  try dsimp only [Nat.reduceAdd]
  refine xS.s1 rfl rfl ?_
  try dsimp only [Nat.reduceAdd, xj_60]
  refine xS.br (c := .ge) (off := 83) (l := 3) rfl rfl (fun h13 => ?_) (fun h13 => ?_)
  · have g13 := xt_ge h13
    exfalso; have z := xnle (b := 60) g13 (by omega) (by omega); omega
  · have g13 := xf_ge h13
    refine xS.s1 rfl rfl ?_
    try dsimp only [Nat.reduceAdd]
    refine xS.s1 rfl rfl ?_
    try dsimp only [Nat.reduceAdd]
    -- 18 yX0_size
    refine xS.cv rfl rfl rfl (hF.1 _) rfl rfl ⟨by decide, rfl, rfl⟩ (c_X0_sizeV hF hs1) (fun v M1 hv => ?_)
    rw [hv.1, hv.2]
    clear hv M1 v
    try dsimp only [Nat.reduceAdd, Option.toList, List.cons_append, List.nil_append, List.drop]
    refine xS.br (c := .ge) (off := 75) (l := 3) rfl rfl (fun h21 => ?_) (fun h21 => ?_)
    · have g21 := xt_ge h21
      have hge := xnle g21 (by omega) (by omega)
      refine xS.s1 rfl rfl ?_
      try dsimp only [Nat.reduceAdd]
      refine xS.gI rfl (hC.1 _) rfl ⟨by decide, rfl⟩ rfl ?_
      try dsimp only [Nat.reduceAdd]
      rw [hR1.1.1]
      refine xS.br0 (c := .ne) (off := 10) (l := 3) rfl rfl (fun h100 => ?_) (fun h100 => ?_)
      · have g100 := xt_ne h100
        refine xS.s1 rfl rfl ?_
        try dsimp only [Nat.reduceAdd, xj_m9]
        refine xS.ret rfl rfl rfl (fun _ _ => rfl) ?_
        have e1 := xpi_e (q := 60 - j) (f := f) (n := m) (i := i1) (G := G1) (T := T1) (Lw := Lw1) (tx := tx1) (by omega)
        rw [show 60 - j + 1 = 61 - j by omega, hq1] at e1
        rw [if_neg (fun z => g100 (by rw [z]; rfl))] at e1
        rw [e1]
        exact ⟨g1, rfl, hF1, rfl, fun _ => hR1⟩
      · have g100 := xf_ne h100
        refine xS.s1 rfl rfl ?_
        try dsimp only [Nat.reduceAdd]
        -- 104 yX0_size
        refine xS.cv rfl rfl rfl (hF.1 _) rfl rfl ⟨by decide, rfl, rfl⟩ (c_X0_sizeV hF hs1) (fun v M1 hv => ?_)
        rw [hv.1, hv.2]
        clear hv M1 v
        try dsimp only [Nat.reduceAdd, Option.toList, List.cons_append, List.nil_append, List.drop]
        refine xS.s1 rfl rfl ?_
        try dsimp only [Nat.reduceAdd]
        refine xS.ret rfl rfl rfl (fun _ _ => rfl) ?_
        have e1 := xpi_e (q := 60 - j) (f := f) (n := m) (i := i1) (G := G1) (T := T1) (Lw := Lw1) (tx := tx1) (by omega)
        rw [show 60 - j + 1 = 61 - j by omega, hq1] at e1
        rw [if_pos (nI_inj (b := 0) (by have := hR1.1.2; omega) (by decide) g100)] at e1
        rw [e1]
        exact ⟨g1, rfl, hF1, rfl, fun z => by cases z⟩
    · have g21 := xf_ge h21
      have hlt := xnlt g21 (by omega) (by omega)
      refine xS.s1 rfl rfl ?_
      try dsimp only [Nat.reduceAdd]
      refine xS.s1 rfl rfl ?_
      try dsimp only [Nat.reduceAdd]
      -- 26 yX0_get
      refine xS.cv rfl rfl rfl (hF.1 _) rfl rfl ⟨by decide, rfl, rfl⟩ (c_X0_getV (f := f) hF hs1 hm hf1 hlt) (fun v M1 hv => ?_)
      rw [hv.1, hv.2]
      clear hv M1 v
      try dsimp only [Nat.reduceAdd, Option.toList, List.cons_append, List.nil_append, List.drop]
      refine xS.s1 rfl rfl ?_
      try dsimp only [Nat.reduceAdd, xj_110]
      refine xS.br (c := .ne) (off := 7) (l := 3) rfl rfl (fun h31 => ?_) (fun h31 => ?_)
      · have g31 := xt_ne h31
        refine xS.s1 rfl rfl ?_
        try dsimp only [Nat.reduceAdd, xi_0]
        refine xS.s1 rfl rfl ?_
        try dsimp only [Nat.reduceAdd]
        refine xS.s1 rfl rfl ?_
        try dsimp only [Nat.reduceAdd]
        refine xS.br0 (c := .eq) (off := 12) (l := 3) rfl rfl (fun h43 => ?_) (fun h43 => ?_)
        · have g43 := xt_eq h43
          refine xS.s1 rfl rfl ?_
          try dsimp only [Nat.reduceAdd]
          refine xS.s1 rfl rfl ?_
          try dsimp only [Nat.reduceAdd]
          refine xS.s1 rfl rfl ?_
          try dsimp only [Nat.reduceAdd]
          -- 58 yX8_readGlass
          refine xS.cv rfl rfl rfl (hC.1 _) rfl rfl ⟨by decide, rfl, rfl⟩ (c_X8_readGlassP hC hF hca hs1 hm hf1 hm60 hlt g31 hR1) (fun v M1 hv => ?_)
          obtain ⟨o, g2, rfl, ho, rfl, hF2, hbad, hok⟩ := hv
          have hs2 : g2 c 1 = nI m := by rw [hF2 c (by omega) (by omega) (by omega)]; exact hs1
          have hf2 : g2 (c + 1) = f := by rw [hF2 (c + 1) (by omega) (by omega) (by omega)]; exact hf1
          try dsimp only [Nat.reduceAdd, Option.toList, List.cons_append, List.nil_append, List.drop]
          refine xS.s1 rfl rfl ?_
          try dsimp only [Nat.reduceAdd]
          refine xS.s1 rfl rfl ?_
          try dsimp only [Nat.reduceAdd]
          refine xS.s1 rfl rfl ?_
          try dsimp only [Nat.reduceAdd, xj_m9]
          refine xS.br (c := .eq) (off := 6) (l := 3) rfl rfl (fun h67 => ?_) (fun h67 => ?_)
          · have g67 := xt_eq h67
            refine xS.s1 rfl rfl ?_
            try dsimp only [Nat.reduceAdd]
            refine xS.s1 rfl rfl ?_
            try dsimp only [Nat.reduceAdd]
            refine xS.s1 rfl rfl ?_
            try dsimp only [Nat.reduceAdd]
            refine xS.br0 (c := .eq) (off := 7) (l := 3) rfl rfl (fun h77 => ?_) (fun h77 => ?_)
            · have g77 := xt_eq h77
              refine xS.s1 rfl rfl ?_
              try dsimp only [Nat.reduceAdd, xi_2]
              refine xS.s1 rfl rfl ?_
              try dsimp only [Nat.reduceAdd]
              rw [show (nI i1 + 2 : Int32) = nI (i1 + 2) from nI_add i1 2]
              -- 86 yX8_afterBlanks
              refine xS.callS rfl rfl rfl ⟨Nat.le_of_ble_eq_true rfl, rfl⟩ (c_X8_afterBlanksV (f := f) hF hs2 hm hf2 (by omega)) (fun v M1 hv => ?_)
              rw [hv.1, hv.2]
              clear hv M1 v
              try dsimp only [Nat.reduceAdd, Option.toList, List.cons_append, List.nil_append, List.drop]
              refine xS.s1 rfl rfl ?_
              try dsimp only [Nat.reduceAdd]
              refine xS.s1 rfl rfl ?_
              try dsimp only [Nat.reduceAdd, xi_1]
              rw [nI_1]
              refine xS.s1 rfl rfl ?_
              try dsimp only [Nat.reduceAdd]
              refine xS.pick [0, 1, 4, 5] rfl ?_
              have o0 := (xfI_none ho).mp g67
              obtain ⟨G2, T2, Lw2, tx2, hR2, hl2, hq2⟩ := hok o0
              have e2 := hq2 (60 - j)
              rw [show 60 - j + 1 = 61 - j by omega, hq1] at e2
              have z2 := xab_le (f := f) hl2
              exact ih (xab f m (i1 + 2), G2, T2, Lw2, tx2, g2) (by omega) ⟨by dsimp only; omega, z2.1, by rw [show 61 - (j + 1) = 60 - j by omega]; exact e2.symm, hR2, xFa_t hF1 hF2⟩
            · have g77 := xf_eq h77
              exact absurd rfl g77
          · have g67 := xf_eq h67
            refine xS.s1 rfl rfl ?_
            try dsimp only [Nat.reduceAdd]
            refine xS.ret rfl rfl rfl (fun _ _ => rfl) ?_
            cases o with
            | none => exact absurd rfl g67
            | some e =>
              have e1 := hbad e rfl (60 - j)
              rw [show 60 - j + 1 = 61 - j by omega, hq1] at e1
              rw [e1]
              exact ⟨g2, rfl, xFa_t hF1 hF2, rfl, fun z => by cases z⟩
        · have g43 := xf_eq h43
          exact absurd rfl g43
      · have g31 := xf_ne h31
        refine xS.s1 rfl rfl ?_
        try dsimp only [Nat.reduceAdd, xi_1]
        refine xS.s1 rfl rfl ?_
        try dsimp only [Nat.reduceAdd]
        refine xS.s1 rfl rfl ?_
        try dsimp only [Nat.reduceAdd]
        refine xS.s1 rfl rfl ?_
        try dsimp only [Nat.reduceAdd]
        refine xS.br0 (c := .eq) (off := 12) (l := 3) rfl rfl (fun h43 => ?_) (fun h43 => ?_)
        · have g43 := xt_eq h43
          exact absurd g43 (by decide)
        · have g43 := xf_eq h43
          refine xS.s1 rfl rfl ?_
          try dsimp only [Nat.reduceAdd]
          refine xS.s1 rfl rfl ?_
          try dsimp only [Nat.reduceAdd]
          refine xS.s1 rfl rfl ?_
          try dsimp only [Nat.reduceAdd]
          -- 49 yX8_readTerm
          refine xS.cv rfl rfl rfl (hC.1 _) rfl rfl ⟨by decide, rfl, rfl⟩ (c_X8_readTermP hC hF hca hs1 hm hf1 hm60 hlt g31 hR1) (fun v M1 hv => ?_)
          obtain ⟨o, g2, rfl, ho, rfl, hF2, hbad, hok⟩ := hv
          have hs2 : g2 c 1 = nI m := by rw [hF2 c (by omega) (by omega) (by omega)]; exact hs1
          have hf2 : g2 (c + 1) = f := by rw [hF2 (c + 1) (by omega) (by omega) (by omega)]; exact hf1
          try dsimp only [Nat.reduceAdd, Option.toList, List.cons_append, List.nil_append, List.drop]
          refine xS.s1 rfl rfl ?_
          try dsimp only [Nat.reduceAdd]
          refine xS.s1 rfl rfl ?_
          try dsimp only [Nat.reduceAdd]
          refine xS.s1 rfl rfl ?_
          try dsimp only [Nat.reduceAdd]
          refine xS.s1 rfl rfl ?_
          try dsimp only [Nat.reduceAdd, xj_m9]
          refine xS.br (c := .eq) (off := 6) (l := 3) rfl rfl (fun h67 => ?_) (fun h67 => ?_)
          · have g67 := xt_eq h67
            refine xS.s1 rfl rfl ?_
            try dsimp only [Nat.reduceAdd]
            refine xS.s1 rfl rfl ?_
            try dsimp only [Nat.reduceAdd]
            refine xS.s1 rfl rfl ?_
            try dsimp only [Nat.reduceAdd]
            refine xS.br0 (c := .eq) (off := 7) (l := 3) rfl rfl (fun h77 => ?_) (fun h77 => ?_)
            · have g77 := xt_eq h77
              exact absurd g77 (by decide)
            · have g77 := xf_eq h77
              refine xS.s1 rfl rfl ?_
              try dsimp only [Nat.reduceAdd, xi_3]
              refine xS.s1 rfl rfl ?_
              try dsimp only [Nat.reduceAdd]
              refine xS.s1 rfl rfl ?_
              try dsimp only [Nat.reduceAdd]
              rw [show (nI i1 + 3 : Int32) = nI (i1 + 3) from nI_add i1 3]
              -- 86 yX8_afterBlanks
              refine xS.callS rfl rfl rfl ⟨Nat.le_of_ble_eq_true rfl, rfl⟩ (c_X8_afterBlanksV (f := f) hF hs2 hm hf2 (by omega)) (fun v M1 hv => ?_)
              rw [hv.1, hv.2]
              clear hv M1 v
              try dsimp only [Nat.reduceAdd, Option.toList, List.cons_append, List.nil_append, List.drop]
              refine xS.s1 rfl rfl ?_
              try dsimp only [Nat.reduceAdd]
              refine xS.s1 rfl rfl ?_
              try dsimp only [Nat.reduceAdd, xi_1]
              rw [nI_1]
              refine xS.s1 rfl rfl ?_
              try dsimp only [Nat.reduceAdd]
              refine xS.pick [0, 1, 4, 5] rfl ?_
              have o0 := (xfI_none ho).mp g67
              obtain ⟨G2, T2, Lw2, tx2, hR2, hl2, hq2⟩ := hok o0
              have e2 := hq2 (60 - j)
              rw [show 60 - j + 1 = 61 - j by omega, hq1] at e2
              have z2 := xab_le (f := f) hl2
              exact ih (xab f m (i1 + 3), G2, T2, Lw2, tx2, g2) (by omega) ⟨by dsimp only; omega, z2.1, by rw [show 61 - (j + 1) = 60 - j by omega]; exact e2.symm, hR2, xFa_t hF1 hF2⟩
          · have g67 := xf_eq h67
            refine xS.s1 rfl rfl ?_
            try dsimp only [Nat.reduceAdd]
            refine xS.ret rfl rfl rfl (fun _ _ => rfl) ?_
            cases o with
            | none => exact absurd rfl g67
            | some e =>
              have e1 := hbad e rfl (60 - j)
              rw [show 60 - j + 1 = 61 - j by omega, hq1] at e1
              rw [e1]
              exact ⟨g2, rfl, xFa_t hF1 hF2, rfl, fun z => by cases z⟩

set_option maxRecDepth 10000 in
theorem c_X8_read (hC : xro a) (hF : xce c n) (hca : c + 1 < a ∨ a + 3 < c) (hs : g c 1 = nI m) (hm : m ≤ n) (hfv : g (c + 1) = f) (hm60 : m ≤ 60) : xT (k + 6) 65 [.ref a, .ref c] (xH b g l) (fun r M' => ∃ g', M' = xH b g' l ∧ (∀ e, e ≠ a → e ≠ a + 1 → e ≠ a + 2 → e ≠ a + 3 → g' e = g e) ∧ r = some (.int (xfI (xprs f m).1)) ∧ ((xprs f m).1 = none → xRv g' a (xprs f m).2.1 (xprs f m).2.2.1 (xprs f m).2.2.2.1 (xprs f m).2.2.2.2 ∧ ∀ s, s < 6 → g' (a + 1) s = nI (xfv (f (xab f m 0 + 1 + s))) ∧ xfv (f (xab f m 0 + 1 + s)) < 6)) := by
  have hn := hF.2.2
  have hs0 : (up (up g a 2 0) a 4 0) c 1 = nI m := by rw [up_na (by omega), up_na (by omega)]; exact hs
  have hf0 : (up (up g a 2 0) a 4 0) (c + 1) = f := by rw [up_na (by omega), up_na (by omega)]; exact hfv
  have hxb := xab_le (f := f) (n := m) (i := 0) (by omega)
  refine xT.of rfl (Nat.le_of_ble_eq_true rfl) ?_
  change xS _ _ 0 [(0, .ref a), (1, .ref c)] [] _ _
  refine xS.s1 rfl rfl ?_
  try dsimp only [Nat.reduceAdd]
  refine xS.s1 rfl rfl ?_
  try dsimp only [Nat.reduceAdd, xi_0]
  refine xS.pI rfl (hC.1 _) rfl ⟨⟨by decide, rfl⟩, rfl, by decide, by decide⟩ rfl ?_
  try dsimp only [Nat.reduceAdd]
  refine xS.s1 rfl rfl ?_
  try dsimp only [Nat.reduceAdd]
  refine xS.s1 rfl rfl ?_
  try dsimp only [Nat.reduceAdd, xi_0]
  refine xS.pI rfl (hC.1 _) rfl ⟨⟨by decide, rfl⟩, rfl, by decide, by decide⟩ rfl ?_
  try dsimp only [Nat.reduceAdd]
  refine xS.s1 rfl rfl ?_
  try dsimp only [Nat.reduceAdd]
  refine xS.s1 rfl rfl ?_
  try dsimp only [Nat.reduceAdd, xi_0]
  -- 12 yX8_afterBlanks
  refine xS.callS rfl rfl rfl ⟨Nat.le_of_ble_eq_true rfl, rfl⟩ (c_X8_afterBlanksV (f := f) (p := 0) hF hs0 hm hf0 (by omega)) (fun v M1 hv => ?_)
  rw [hv.1, hv.2]
  clear hv M1 v
  try dsimp only [Nat.reduceAdd, Option.toList, List.cons_append, List.nil_append, List.drop]
  refine xS.s1 rfl rfl ?_
  try dsimp only [Nat.reduceAdd]
  refine xS.s1 rfl rfl ?_
  try dsimp only [Nat.reduceAdd]
  refine xS.s1 rfl rfl ?_
  try dsimp only [Nat.reduceAdd]
  -- 18 yX0_size
  refine xS.cv rfl rfl rfl (hF.1 _) rfl rfl ⟨by decide, rfl, rfl⟩ (c_X0_sizeV hF hs0) (fun v M1 hv => ?_)
  rw [hv.1, hv.2]
  clear hv M1 v
  try dsimp only [Nat.reduceAdd, Option.toList, List.cons_append, List.nil_append, List.drop]
  refine xS.br (c := .ge) (off := 13) (l := 3) rfl rfl (fun h21 => ?_) (fun h21 => ?_)
  · have g21 := xt_ge h21
    have hge := xnle g21 (by omega) (by omega)
    refine xS.s1 rfl rfl ?_
    try dsimp only [Nat.reduceAdd]
    refine xS.ret rfl rfl rfl (fun _ _ => rfl) ?_
    rw [xprs_0 (fun z => absurd z.1 (by omega))]
    exact ⟨_, rfl, fun e h1 h2 h3 h4 => by rw [up_na h1, up_na h1], rfl, fun z => by cases z⟩
  · have g21 := xf_ge h21
    have hlt := xnlt g21 (by omega) (by omega)
    refine xS.s1 rfl rfl ?_
    try dsimp only [Nat.reduceAdd]
    refine xS.s1 rfl rfl ?_
    try dsimp only [Nat.reduceAdd]
    -- 26 yX0_get
    refine xS.cv rfl rfl rfl (hF.1 _) rfl rfl ⟨by decide, rfl, rfl⟩ (c_X0_getV (f := f) hF hs0 hm hf0 hlt) (fun v M1 hv => ?_)
    rw [hv.1, hv.2]
    clear hv M1 v
    try dsimp only [Nat.reduceAdd, Option.toList, List.cons_append, List.nil_append, List.drop]
    refine xS.s1 rfl rfl ?_
    try dsimp only [Nat.reduceAdd, xj_104]
    refine xS.br (c := .eq) (off := 5) (l := 3) rfl rfl (fun h31 => ?_) (fun h31 => ?_)
    · have g31 := xt_eq h31
      refine xS.s1 rfl rfl ?_
      try dsimp only [Nat.reduceAdd, xi_1]
      rw [nI_1]
      refine xS.s1 rfl rfl ?_
      try dsimp only [Nat.reduceAdd, xi_0]
      refine xS.s1 rfl rfl ?_
      try dsimp only [Nat.reduceAdd]
      refine xS.pick [0, 1, 3, 2] rfl ?_
      refine xS.loop (σ := Unit) (6) (fun j S => [(3, .int (nI j)), (2, .int (nI (xab f m 0 + 1 + j))), (1, .ref c), (0, .ref a)]) (fun j _ => xH b (gset (up (up g a 2 0) a 4 0) (a + 1) j (fun s => nI (xfv (f (xab f m 0 + 1 + s))))) l) (fun j _ => xfst (fun s => !xfgb f m (xab f m 0 + 1 + s) 6) j = none) (()) (rfl) (by rw [gset_0]) (rfl) ?_
      intro j S hj hI ih
      try dsimp only
      refine xS.s1 rfl rfl ?_
      try dsimp only [Nat.reduceAdd]
      refine xS.s1 rfl rfl ?_
      try dsimp only [Nat.reduceAdd, xj_6]
      refine xS.br (c := .ge) (off := 38) (l := 3) rfl rfl (fun h44 => ?_) (fun h44 => ?_)
      · have g44 := xt_ge h44
        have hj6 := xnle (b := 6) g44 (by omega) (by omega)
        obtain rfl : j = 6 := by omega
        have q5 := xfgb_i (f := f) (n := m) (i := xab f m 0 + 1 + 5) (q := 6) (by have := xfst_none.mp hI 5 (by decide); revert this; cases xfgb f m (xab f m 0 + 1 + 5) 6 <;> simp)
        have hl7 : xab f m 0 + 1 + 6 ≤ m := by have := q5.1; omega
        have hR7 : xRv (gset (up (up g a 2 0) a 4 0) (a + 1) 6 (fun s => nI (xfv (f (xab f m 0 + 1 + s))))) a 0 0 (fun _ => 0) (fun _ => 0) := ⟨⟨by rw [gset_na (by omega), up_ne (Or.inr (by decide)), up_same]; rfl, by decide⟩, ⟨by rw [gset_na (by omega), up_same]; rfl, by decide⟩, fun k hk => absurd hk (by omega), fun k hk => absurd hk (by omega)⟩
        refine xS.s1 rfl rfl ?_
        try dsimp only [Nat.reduceAdd]
        refine xS.s1 rfl rfl ?_
        try dsimp only [Nat.reduceAdd]
        refine xS.s1 rfl rfl ?_
        try dsimp only [Nat.reduceAdd]
        -- 85 yX8_readItems
        refine xS.cv rfl rfl rfl (hC.1 _) rfl rfl ⟨by decide, rfl, rfl⟩ (c_X8_readItems (f := f) (p := xab f m 0 + 1 + 6) (G := 0) (T := 0) (Lw := fun _ => 0) (tx := fun _ => 0) (R := xpi f m 61 (xab f m (xab f m 0 + 7)) 0 0 (fun _ => 0) (fun _ => 0)) hC hF hca (by rw [gset_na (by omega)]; exact hs0) hm (by rw [gset_na (by omega)]; exact hf0) hm60 hl7 hR7 rfl) (fun v M1 hv => ?_)
        obtain ⟨g2, rfl, hF2, rfl, hR2⟩ := hv
        try dsimp only [Nat.reduceAdd, Option.toList, List.cons_append, List.nil_append, List.drop]
        refine xS.ret rfl rfl rfl (fun _ _ => rfl) ?_
        rw [xprs_2 ⟨hlt, g31⟩ hI]
        refine ⟨g2, rfl, fun e h1 h2 h3 h4 => by rw [hF2 e h1 h3 h4, gset_na h2, up_na h1, up_na h1], rfl, fun z => ⟨hR2 z, fun s hs6 => ?_⟩⟩
        have q := xfgb_i (by have := xfst_none.mp hI s hs6; revert this; cases xfgb f m (xab f m 0 + 1 + s) 6 <;> simp)
        exact ⟨by rw [hF2 (a + 1) (by omega) (by omega) (by omega), gset_in hs6], (xfv_e (by decide) q).1⟩
      · have g44 := xf_ge h44
        have hj6 := xnlt (b := 6) g44 (by omega) (by omega)
        refine xS.s1 rfl rfl ?_
        try dsimp only [Nat.reduceAdd]
        refine xS.s1 rfl rfl ?_
        try dsimp only [Nat.reduceAdd]
        refine xS.s1 rfl rfl ?_
        try dsimp only [Nat.reduceAdd, xj_6]
        -- 51 yX8_isFigure
        refine xS.callS rfl rfl rfl ⟨Nat.le_of_ble_eq_true rfl, rfl⟩ (c_X8_isFigureV (f := f) (t := 6) hF (by rw [gset_na (by omega)]; exact hs0) hm (by rw [gset_na (by omega)]; exact hf0) (by omega) (by decide) (Classical.propDecidable _)) (fun v M1 hv => ?_)
        rw [hv.1, hv.2]
        clear hv M1 v
        try dsimp only [Nat.reduceAdd, Option.toList, List.cons_append, List.nil_append, List.drop]
        refine xS.br0 (c := .ne) (off := 5) (l := 3) rfl rfl (fun h54 => ?_) (fun h54 => ?_)
        · have g54 := xt_ne h54
          have hfg := @xif1 _ (Classical.propDecidable _) g54
          refine xS.s1 rfl rfl ?_
          try dsimp only [Nat.reduceAdd]
          refine xS.gR rfl (hC.1 _) rfl ⟨by decide, rfl⟩ rfl ?_
          try dsimp only [Nat.reduceAdd]
          refine xS.s1 rfl rfl ?_
          try dsimp only [Nat.reduceAdd]
          refine xS.s1 rfl rfl ?_
          try dsimp only [Nat.reduceAdd]
          refine xS.s1 rfl rfl ?_
          try dsimp only [Nat.reduceAdd]
          -- 66 yX0_get
          refine xS.cv rfl rfl rfl (hF.1 _) rfl rfl ⟨by decide, rfl, rfl⟩ (c_X0_getV (f := f) hF (by rw [gset_na (by omega)]; exact hs0) hm (by rw [gset_na (by omega)]; exact hf0) hfg.1) (fun v M1 hv => ?_)
          rw [hv.1, hv.2]
          clear hv M1 v
          try dsimp only [Nat.reduceAdd, Option.toList, List.cons_append, List.nil_append, List.drop]
          refine xS.s1 rfl rfl ?_
          try dsimp only [Nat.reduceAdd, xj_48]
          refine xS.s1 rfl rfl ?_
          try dsimp only [Nat.reduceAdd]
          rw [xfv_s (by decide) hfg]
          refine xS.ias rfl hC.2.1 (by omega) ?_
          try dsimp only [Nat.reduceAdd]
          refine xS.s1 rfl rfl ?_
          try dsimp only [Nat.reduceAdd, xi_1]
          rw [nI_1]
          refine xS.s1 rfl rfl ?_
          try dsimp only [Nat.reduceAdd, xi_1]
          rw [nI_1]
          refine xS.s1 rfl rfl ?_
          try dsimp only [Nat.reduceAdd]
          refine xS.pick [0, 1, 2, 3] rfl ?_
          have ih2 := ih () (by omega) (xfst_n hI (by rw [xfgb_t hfg]; rfl))
          rw [← gset_s] at ih2
          exact ih2
        · have g54 := xf_ne h54
          have hnf := @xif0 _ (Classical.propDecidable _) g54
          refine xS.s1 rfl rfl ?_
          try dsimp only [Nat.reduceAdd]
          refine xS.ret rfl rfl rfl (fun _ _ => rfl) ?_
          rw [xprs_1 ⟨hlt, g31⟩ (xfst_at hI (by rw [xfgb_f hnf]; rfl) hj6)]
          exact ⟨_, rfl, fun e h1 h2 h3 h4 => by rw [gset_na h2, up_na h1, up_na h1], rfl, fun z => by cases z⟩
    · have g31 := xf_eq h31
      refine xS.s1 rfl rfl ?_
      try dsimp only [Nat.reduceAdd]
      refine xS.ret rfl rfl rfl (fun _ _ => rfl) ?_
      rw [xprs_0 (fun z => g31 z.2)]
      exact ⟨_, rfl, fun e h1 h2 h3 h4 => by rw [up_na h1, up_na h1], rfl, fun z => by cases z⟩

end
