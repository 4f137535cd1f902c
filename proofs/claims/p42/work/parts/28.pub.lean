/-! LimpMirror: public methods, turns, chances, lots, what is told -/
/-- a deed's four facts are what they must be -/
def xDk (g : Nat → Nat → Int32) (h tx : Nat → Int32) (T G : Nat) (Lw : Nat → Nat) (a m : Nat) : Prop := ∀ d, d < m → ∃ s k, s < 6 ∧ k < G ∧ g a (4 * d) = nI s ∧ g a (4 * d + 1) = nI k ∧ g a (4 * d + 2) = xshw h (Lw k / 4) (Lw k % 4) (fun i => xN (g a (4 * i))) d ∧ g a (4 * d + 3) = xfI (xfb tx T (nI s) (xshw h (Lw k / 4) (Lw k % 4) (fun i => xN (g a (4 * i))) d))
theorem xDk_x {g : Nat → Nat → Int32} {h tx : Nat → Int32} {T G : Nat} {Lw : Nat → Nat} {a m : Nat} (hD : xDk g h tx T G Lw a m) : ∀ i, i < m → xstp (g a (4 * i)) := fun i hi => by
  obtain ⟨s, k, h1, _, h3, _⟩ := hD i hi
  exact ⟨s, h1, h3⟩
theorem xdo_5 {g : Nat → Nat → Int32} {m : Nat} {x y w z : Int32} : xdo g m x y w z 5 (4 * m) = x ∧ xdo g m x y w z 5 (4 * m + 1) = y ∧ xdo g m x y w z 5 (4 * m + 2) = w ∧ xdo g m x y w z 5 (4 * m + 3) = z := by
  unfold xdo xad
  refine ⟨?_, ?_, ?_, ?_⟩
  · rw [up_ne (Or.inr (by omega)), up_ne (Or.inr (by omega)), up_ne (Or.inl (by decide)), up_ne (Or.inr (by omega)), up_ne (Or.inr (by omega)), up_ne (Or.inr (by omega)), up_same]
  · rw [up_ne (Or.inr (by omega)), up_ne (Or.inr (by omega)), up_ne (Or.inl (by decide)), up_ne (Or.inr (by omega)), up_ne (Or.inr (by omega)), up_same]
  · rw [up_ne (Or.inr (by omega)), up_same]
  · rw [up_same]
theorem xdo_o {g : Nat → Nat → Int32} {m i : Nat} {x y w z : Int32} (h : i < 4 * m) : xdo g m x y w z 5 i = g 5 i := by
  unfold xdo xad
  rw [up_ne (Or.inr (by omega)), up_ne (Or.inr (by omega)), up_ne (Or.inl (by decide)), up_ne (Or.inr (by omega)), up_ne (Or.inr (by omega)), up_ne (Or.inr (by omega)), up_ne (Or.inr (by omega))]
theorem xdo_41 {g : Nat → Nat → Int32} {m : Nat} {x y w z : Int32} : xdo g m x y w z 4 1 = nI (m + 1) := by
  unfold xdo
  rw [up_na (by decide), up_na (by decide)]
  exact xad_41
theorem xDk_do {g : Nat → Nat → Int32} {h tx : Nat → Int32} {T G : Nat} {Lw : Nat → Nat} {m s t : Nat} (hD : xDk g h tx T G Lw 5 m) (hs : s < 6) (ht : t < G) : xDk (xdo g m (nI s) (nI t) (xshw h (Lw t / 4) (Lw t % 4) (fun i => if i = m then s else xN (g 5 (4 * i))) m) (xfI (xfb tx T (nI s) (xshw h (Lw t / 4) (Lw t % 4) (fun i => if i = m then s else xN (g 5 (4 * i))) m)))) h tx T G Lw 5 (m + 1) := by
  intro d hd
  by_cases e : d = m
  · subst e
    obtain ⟨q1, q2, q3, q4⟩ := xdo_5 (g := g) (m := d) (x := nI s) (y := nI t) (w := xshw h (Lw t / 4) (Lw t % 4) (fun i => if i = d then s else xN (g 5 (4 * i))) d) (z := xfI (xfb tx T (nI s) (xshw h (Lw t / 4) (Lw t % 4) (fun i => if i = d then s else xN (g 5 (4 * i))) d)))
    have e2 : xshw h (Lw t / 4) (Lw t % 4) (fun i => xN (xdo g d (nI s) (nI t) (xshw h (Lw t / 4) (Lw t % 4) (fun i => if i = d then s else xN (g 5 (4 * i))) d) (xfI (xfb tx T (nI s) (xshw h (Lw t / 4) (Lw t % 4) (fun i => if i = d then s else xN (g 5 (4 * i))) d))) 5 (4 * i))) d = xshw h (Lw t / 4) (Lw t % 4) (fun i => if i = d then s else xN (g 5 (4 * i))) d := by
      apply xshw_congr
      intro u hu
      by_cases e3 : u = d
      · subst e3
        rw [q1, if_pos rfl, xN_nI (by omega)]
      · rw [xdo_o (by omega), if_neg e3]
    refine ⟨s, t, hs, ht, q1, q2, ?_, ?_⟩
    · rw [e2]; exact q3
    · rw [e2]; exact q4
  · obtain ⟨s', k', h1, h2, h3, h4, h5, h6⟩ := hD d (by omega)
    have e2 : xshw h (Lw k' / 4) (Lw k' % 4) (fun i => xN (xdo g m (nI s) (nI t) (xshw h (Lw t / 4) (Lw t % 4) (fun i => if i = m then s else xN (g 5 (4 * i))) m) (xfI (xfb tx T (nI s) (xshw h (Lw t / 4) (Lw t % 4) (fun i => if i = m then s else xN (g 5 (4 * i))) m))) 5 (4 * i))) d = xshw h (Lw k' / 4) (Lw k' % 4) (fun i => xN (g 5 (4 * i))) d := xshw_congr (fun u hu => by rw [xdo_o (by omega)])
    refine ⟨s', k', h1, h2, ?_, ?_, ?_, ?_⟩
    · rw [xdo_o (by omega)]; exact h3
    · rw [xdo_o (by omega)]; exact h4
    · rw [xdo_o (by omega), e2]; exact h5
    · rw [xdo_o (by omega), e2]; exact h6
def xlot (q j : Nat) : Nat := Nat.rec (motive := fun _ => Nat) q (fun _ c => 48271 * c % 2147483647) j
theorem xlot_s (q j : Nat) : xlot q (j + 1) = 48271 * xlot q j % 2147483647 := rfl
theorem xlot_lt {q : Nat} (h : q < 2147483647) : ∀ j, xlot q j < 2147483647
  | 0 => h
  | j + 1 => Nat.mod_lt _ (by decide)
def xbt (A B : Prop) [Decidable A] [Decidable B] (e : Nat) : Nat := (if A then 0 else e) + (if B then 0 else 12 - e)
theorem xbt_e {A B : Prop} {dA : Decidable A} {dB : Decidable B} {e : Nat} (he : e ≤ 12) : (@ite _ A dA 0 (nI e)) + (@ite _ B dB 0 (12 - nI e)) = nI (xbt A B e) := by
  unfold xbt
  rw [show (12 : Int32) - nI e = nI (12 - e) from pk_sub (a := 12) he]
  by_cases h1 : A <;> by_cases h2 : B
  · rw [if_pos h1, if_pos h2, if_pos h1, if_pos h2]; rfl
  · rw [if_pos h1, if_neg h2, if_pos h1, if_neg h2, show (0 : Int32) = nI 0 from rfl, nI_add]
  · rw [if_neg h1, if_pos h2, if_neg h1, if_pos h2, show (0 : Int32) = nI 0 from rfl, nI_add]
  · rw [if_neg h1, if_neg h2, if_neg h1, if_neg h2, nI_add]
theorem xbt_le {A B : Prop} {dA : Decidable A} {dB : Decidable B} {e : Nat} (he : e ≤ 12) : xbt A B e ≤ 12 := by
  unfold xbt
  split <;> split <;> omega
def xsm (f : Nat → Nat) (n : Nat) : Nat := Nat.rec (motive := fun _ => Nat) 0 (fun j c => c + f j) n
theorem xsm_s (f : Nat → Nat) (n : Nat) : xsm f (n + 1) = xsm f n + f n := rfl
theorem xsm_le {f : Nat → Nat} {q : Nat} (h : ∀ i, f i ≤ q) : ∀ n, xsm f n ≤ q * n
  | 0 => Nat.zero_le _
  | n + 1 => by
    rw [xsm_s, Nat.mul_succ]
    exact Nat.add_le_add (xsm_le h n) (h n)

section
variable {k a c n n2 m t p s d i1 j1 : Nat} {b : Nat × Nat} {g : Nat → Nat → Int32} {l : Nat → Nat → Int64} {i j x y z v w : Int32} {u w1 w2 : Int64}
variable {L G T e1 q1 : Nat} {Lw : Nat → Nat}
set_option maxRecDepth 10000 in
theorem c_X11_game_bad (hx : ¬ (0 ≤ x ∧ x ≤ 3)) : xT (k + 10) 110 [.ref 0, .int x] (xH b g l) (fun r M' => M' = xH b g l ∧ r = some (.int (-1))) := by
  refine xT.of rfl (Nat.le_of_ble_eq_true rfl) ?_
  change xS _ _ 0 [(0, .ref 0), (1, .int x)] [] _ _
  refine xS.s1 rfl rfl ?_
  try dsimp only [Nat.reduceAdd]
  refine xS.br0 (c := .lt) (off := 8) (l := 3) rfl rfl (fun h1 => ?_) (fun h1 => ?_)
  · have g1 := xt_lt h1
    refine xS.s1 rfl rfl ?_
    try dsimp only [Nat.reduceAdd, xi_m1]
    refine xS.ret rfl rfl rfl (fun _ _ => rfl) ?_
    exact ⟨rfl, rfl⟩
  · have g1 := xf_lt h1
    refine xS.s1 rfl rfl ?_
    try dsimp only [Nat.reduceAdd]
    refine xS.s1 rfl rfl ?_
    try dsimp only [Nat.reduceAdd, xi_3]
    refine xS.br (c := .le) (off := 5) (l := 3) rfl rfl (fun h6 => ?_) (fun h6 => ?_)
    · have g6 := xt_le h6
      exact absurd ⟨g1, g6⟩ hx
    · have g6 := xf_le h6
      refine xS.s1 rfl rfl ?_
      try dsimp only [Nat.reduceAdd, xi_m1]
      refine xS.ret rfl rfl rfl (fun _ _ => rfl) ?_
      exact ⟨rfl, rfl⟩

set_option maxRecDepth 10000 in
theorem c_X11_game_state (hb : xro b.1) (hn : n ≤ 3) (hg : g b.1 2 = 0) : xT (k + 10) 110 [.ref 0, .int (nI n)] (xH b g l) (fun r M' => M' = xH b g l ∧ r = some (.int (-4))) := by
  refine xT.of rfl (Nat.le_of_ble_eq_true rfl) ?_
  change xS _ _ 0 [(0, .ref 0), (1, .int (nI n))] [] _ _
  refine xS.s1 rfl rfl ?_
  try dsimp only [Nat.reduceAdd]
  refine xS.br0 (c := .lt) (off := 8) (l := 3) rfl rfl (fun h1 => ?_) (fun h1 => ?_)
  · have g1 := xt_lt h1
    exfalso; first | exact absurd g1 (by decide) | (simp (disch := omega) only [Int32.lt_iff_toInt_lt, Int32.le_iff_toInt_le, nI_toInt, Int32.reduceToInt] at g1 <;> omega)
  · have g1 := xf_lt h1
    refine xS.s1 rfl rfl ?_
    try dsimp only [Nat.reduceAdd]
    refine xS.s1 rfl rfl ?_
    try dsimp only [Nat.reduceAdd, xi_3]
    refine xS.br (c := .le) (off := 5) (l := 3) rfl rfl (fun h6 => ?_) (fun h6 => ?_)
    · have g6 := xt_le h6
      refine xS.s1 rfl rfl ?_
      try dsimp only [Nat.reduceAdd]
      refine xS.gR rfl rfl rfl ⟨by decide, rfl⟩ rfl ?_
      try dsimp only [Nat.reduceAdd]
      -- 15 yX8_glasses
      refine xS.cv rfl rfl rfl (hb.1 _) rfl rfl ⟨by decide, rfl, rfl⟩ (c_X8_glasses hb) (fun v M1 hv => ?_)
      rw [hv.1, hv.2]
      clear hv M1 v
      try dsimp only [Nat.reduceAdd, Option.toList, List.cons_append, List.nil_append, List.drop]
      refine xS.br0 (c := .ne) (off := 6) (l := 3) rfl rfl (fun h18 => ?_) (fun h18 => ?_)
      · have g18 := xt_ne h18
        exact absurd hg g18
      · have g18 := xf_ne h18
        refine xS.s1 rfl rfl ?_
        try dsimp only [Nat.reduceAdd, xj_m4]
        refine xS.ret rfl rfl rfl (fun _ _ => rfl) ?_
        exact ⟨rfl, rfl⟩
    · have g6 := xf_le h6
      exfalso; first | exact absurd g6 (by decide) | (simp (disch := omega) only [Int32.lt_iff_toInt_lt, Int32.le_iff_toInt_le, nI_toInt, Int32.reduceToInt] at g6 <;> omega)

set_option maxRecDepth 10000 in
theorem c_X11_game_zero (hb : xro b.1) (hg : ¬ g b.1 2 = 0) : xT (k + 10) 110 [.ref 0, .int (nI 0)] (xH b g l) (fun r M' => M' = xH b g l ∧ r = some (.int (1))) := by
  refine xT.of rfl (Nat.le_of_ble_eq_true rfl) ?_
  change xS _ _ 0 [(0, .ref 0), (1, .int (nI 0))] [] _ _
  refine xS.s1 rfl rfl ?_
  try dsimp only [Nat.reduceAdd]
  refine xS.br0 (c := .lt) (off := 8) (l := 3) rfl rfl (fun h1 => ?_) (fun h1 => ?_)
  · have g1 := xt_lt h1
    exfalso; first | exact absurd g1 (by decide) | (simp (disch := omega) only [Int32.lt_iff_toInt_lt, Int32.le_iff_toInt_le, nI_toInt, Int32.reduceToInt] at g1 <;> omega)
  · have g1 := xf_lt h1
    refine xS.s1 rfl rfl ?_
    try dsimp only [Nat.reduceAdd]
    refine xS.s1 rfl rfl ?_
    try dsimp only [Nat.reduceAdd, xi_3]
    refine xS.br (c := .le) (off := 5) (l := 3) rfl rfl (fun h6 => ?_) (fun h6 => ?_)
    · have g6 := xt_le h6
      refine xS.s1 rfl rfl ?_
      try dsimp only [Nat.reduceAdd]
      refine xS.gR rfl rfl rfl ⟨by decide, rfl⟩ rfl ?_
      try dsimp only [Nat.reduceAdd]
      -- 15 yX8_glasses
      refine xS.cv rfl rfl rfl (hb.1 _) rfl rfl ⟨by decide, rfl, rfl⟩ (c_X8_glasses hb) (fun v M1 hv => ?_)
      rw [hv.1, hv.2]
      clear hv M1 v
      try dsimp only [Nat.reduceAdd, Option.toList, List.cons_append, List.nil_append, List.drop]
      refine xS.br0 (c := .ne) (off := 6) (l := 3) rfl rfl (fun h18 => ?_) (fun h18 => ?_)
      · have g18 := xt_ne h18
        refine xS.s1 rfl rfl ?_
        try dsimp only [Nat.reduceAdd]
        refine xS.br0 (c := .ne) (off := 5) (l := 3) rfl rfl (fun h25 => ?_) (fun h25 => ?_)
        · have g25 := xt_ne h25
          exfalso; first | exact absurd g25 (by decide) | (simp (disch := omega) only [Int32.lt_iff_toInt_lt, Int32.le_iff_toInt_le, nI_toInt, Int32.reduceToInt] at g25 <;> omega)
        · have g25 := xf_ne h25
          refine xS.s1 rfl rfl ?_
          try dsimp only [Nat.reduceAdd, xi_1]
          refine xS.ret rfl rfl rfl (fun _ _ => rfl) ?_
          exact ⟨rfl, rfl⟩
      · have g18 := xf_ne h18
        exact absurd g18 hg
    · have g6 := xf_le h6
      exfalso; first | exact absurd g6 (by decide) | (simp (disch := omega) only [Int32.lt_iff_toInt_lt, Int32.le_iff_toInt_le, nI_toInt, Int32.reduceToInt] at g6 <;> omega)

set_option maxRecDepth 10000 in
theorem c_X11_game_ok (hb : xro b.1) (hR : xRm g b.1 G T Lw) (hp : xpn g) (hbv : b.1 = 7 ∨ b.1 = 11) (hn : n ≤ 3) (hn0 : 0 < n) (hg : ¬ g b.1 2 = 0) : xT (k + 10) 110 [.ref 0, .int (nI n)] (xH b g l) (fun r M' => ∃ g', (∀ a, a ≠ 15 → a ≠ 16 → g' a = g a) ∧ M' = xH b g' l ∧ r = some (.int (if (xlp (xsafe (g (b.1 + 1)) (g (b.1 + 3)) T G Lw) n 3 0 (fun _ => 0)) = none then 0 else 1))) := by
  refine xT.of rfl (Nat.le_of_ble_eq_true rfl) ?_
  change xS _ _ 0 [(0, .ref 0), (1, .int (nI n))] [] _ _
  refine xS.s1 rfl rfl ?_
  try dsimp only [Nat.reduceAdd]
  refine xS.br0 (c := .lt) (off := 8) (l := 3) rfl rfl (fun h1 => ?_) (fun h1 => ?_)
  · have g1 := xt_lt h1
    exfalso; first | exact absurd g1 (by decide) | (simp (disch := omega) only [Int32.lt_iff_toInt_lt, Int32.le_iff_toInt_le, nI_toInt, Int32.reduceToInt] at g1 <;> omega)
  · have g1 := xf_lt h1
    refine xS.s1 rfl rfl ?_
    try dsimp only [Nat.reduceAdd]
    refine xS.s1 rfl rfl ?_
    try dsimp only [Nat.reduceAdd, xi_3]
    refine xS.br (c := .le) (off := 5) (l := 3) rfl rfl (fun h6 => ?_) (fun h6 => ?_)
    · have g6 := xt_le h6
      refine xS.s1 rfl rfl ?_
      try dsimp only [Nat.reduceAdd]
      refine xS.gR rfl rfl rfl ⟨by decide, rfl⟩ rfl ?_
      try dsimp only [Nat.reduceAdd]
      -- 15 yX8_glasses
      refine xS.cv rfl rfl rfl (hb.1 _) rfl rfl ⟨by decide, rfl, rfl⟩ (c_X8_glasses hb) (fun v M1 hv => ?_)
      rw [hv.1, hv.2]
      clear hv M1 v
      try dsimp only [Nat.reduceAdd, Option.toList, List.cons_append, List.nil_append, List.drop]
      refine xS.br0 (c := .ne) (off := 6) (l := 3) rfl rfl (fun h18 => ?_) (fun h18 => ?_)
      · have g18 := xt_ne h18
        refine xS.s1 rfl rfl ?_
        try dsimp only [Nat.reduceAdd]
        refine xS.br0 (c := .ne) (off := 5) (l := 3) rfl rfl (fun h25 => ?_) (fun h25 => ?_)
        · have g25 := xt_ne h25
          refine xS.s1 rfl rfl ?_
          try dsimp only [Nat.reduceAdd]
          refine xS.gR rfl rfl rfl ⟨by decide, rfl⟩ rfl ?_
          try dsimp only [Nat.reduceAdd]
          refine xS.s1 rfl rfl ?_
          try dsimp only [Nat.reduceAdd]
          refine xS.s1 rfl rfl ?_
          try dsimp only [Nat.reduceAdd, xi_0]
          -- 36 yX0_open
          refine xS.cv rfl rfl rfl (xce_trial.1 _) rfl rfl ⟨by decide, rfl, rfl⟩ (c_X0_open xce_trial (m := n) (by omega)) (fun v M1 hv => ?_)
          rw [hv.1, hv.2]
          clear hv M1 v
          have hR1 : xRm (gfill (up g 15 1 (nI n)) (15 + 1) n 0) b.1 G T Lw := xRm_fr (fun i _ _ => by rw [gfill_na (by omega), up_na (by omega)]) hR
          have hp1 : xpn (gfill (up g 15 1 (nI n)) (15 + 1) n 0) := xpn_fr (fun i _ _ => by rw [gfill_na (by omega), up_na (by omega)]) hp
          have ee1 : (gfill (up g 15 1 (nI n)) (15 + 1) n 0) (b.1 + 1) = g (b.1 + 1) := by rw [gfill_na (by omega), up_na (by omega)]
          have ee3 : (gfill (up g 15 1 (nI n)) (15 + 1) n 0) (b.1 + 3) = g (b.1 + 3) := by rw [gfill_na (by omega), up_na (by omega)]
          try dsimp only [Nat.reduceAdd, Option.toList, List.cons_append, List.nil_append, List.drop]
          refine xS.s1 rfl rfl ?_
          try dsimp only [Nat.reduceAdd]
          refine xS.s1 rfl rfl ?_
          try dsimp only [Nat.reduceAdd, xi_0]
          refine xS.s1 rfl rfl ?_
          try dsimp only [Nat.reduceAdd]
          -- 42 yX11_leastPick
          refine xS.cv rfl rfl rfl rfl rfl rfl ⟨by decide, rfl, rfl⟩ (c_X11_leastPick hb hR1 hp1 hbv (by rw [gfill_na (by decide), up_same]) hn hn0) (fun v M1 hv => ?_)
          obtain ⟨g2, hM2, f1, hv2⟩ := hv
          rw [hM2, hv2, ee1, ee3]
          clear hM2 hv2 M1 v
          try dsimp only [Nat.reduceAdd, Option.toList, List.cons_append, List.nil_append, List.drop]
          refine xS.s1 rfl rfl ?_
          try dsimp only [Nat.reduceAdd, xj_m9]
          refine xS.br (c := .ne) (off := 7) (l := 3) rfl rfl (fun h47 => ?_) (fun h47 => ?_)
          · have g47 := xt_ne h47
            refine xS.s1 rfl rfl ?_
            try dsimp only [Nat.reduceAdd, xi_1]
            refine xS.ret rfl rfl rfl (fun _ _ => rfl) ?_
            refine ⟨g2, fun a h1 h2 => by rw [f1 a h2, gfill_na h2, up_na h1], rfl, ?_⟩
            rw [if_neg ((not_congr (xfI_none xlp_b)).mp g47)]
          · have g47 := xf_ne h47
            refine xS.s1 rfl rfl ?_
            try dsimp only [Nat.reduceAdd, xi_0]
            refine xS.s1 rfl rfl ?_
            try dsimp only [Nat.reduceAdd]
            refine xS.ret rfl rfl rfl (fun _ _ => rfl) ?_
            refine ⟨g2, fun a h1 h2 => by rw [f1 a h2, gfill_na h2, up_na h1], rfl, ?_⟩
            rw [if_pos ((xfI_none xlp_b).mp g47)]
        · have g25 := xf_ne h25
          exact absurd g25 (nI_ne0 hn0 (by omega))
      · have g18 := xf_ne h18
        exact absurd g18 hg
    · have g6 := xf_le h6
      exfalso; first | exact absurd g6 (by decide) | (simp (disch := omega) only [Int32.lt_iff_toInt_lt, Int32.le_iff_toInt_le, nI_toInt, Int32.reduceToInt] at g6 <;> omega)

set_option maxRecDepth 10000 in
theorem c_X11_picks_bad (hx : ¬ (1 ≤ x ∧ x ≤ 3)) : xT (k + 10) 111 [.ref 0, .int x] (xH b g l) (fun r M' => M' = xH b g l ∧ r = some (.int (-1))) := by
  refine xT.of rfl (Nat.le_of_ble_eq_true rfl) ?_
  change xS _ _ 0 [(0, .ref 0), (1, .int x)] [] _ _
  refine xS.s1 rfl rfl ?_
  try dsimp only [Nat.reduceAdd]
  refine xS.s1 rfl rfl ?_
  try dsimp only [Nat.reduceAdd, xi_1]
  refine xS.br (c := .lt) (off := 8) (l := 3) rfl rfl (fun h2 => ?_) (fun h2 => ?_)
  · have g2 := xt_lt h2
    refine xS.s1 rfl rfl ?_
    try dsimp only [Nat.reduceAdd, xi_m1]
    refine xS.ret rfl rfl rfl (fun _ _ => rfl) ?_
    exact ⟨rfl, rfl⟩
  · have g2 := xf_lt h2
    refine xS.s1 rfl rfl ?_
    try dsimp only [Nat.reduceAdd]
    refine xS.s1 rfl rfl ?_
    try dsimp only [Nat.reduceAdd, xi_3]
    refine xS.br (c := .le) (off := 5) (l := 3) rfl rfl (fun h7 => ?_) (fun h7 => ?_)
    · have g7 := xt_le h7
      exact absurd ⟨g2, g7⟩ hx
    · have g7 := xf_le h7
      refine xS.s1 rfl rfl ?_
      try dsimp only [Nat.reduceAdd, xi_m1]
      refine xS.ret rfl rfl rfl (fun _ _ => rfl) ?_
      exact ⟨rfl, rfl⟩

set_option maxRecDepth 10000 in
theorem c_X11_picks_state (hb : xro b.1) (hn : n ≤ 3) (hn0 : 0 < n) (hg : g b.1 2 = 0) : xT (k + 10) 111 [.ref 0, .int (nI n)] (xH b g l) (fun r M' => M' = xH b g l ∧ r = some (.int (-4))) := by
  refine xT.of rfl (Nat.le_of_ble_eq_true rfl) ?_
  change xS _ _ 0 [(0, .ref 0), (1, .int (nI n))] [] _ _
  refine xS.s1 rfl rfl ?_
  try dsimp only [Nat.reduceAdd]
  refine xS.s1 rfl rfl ?_
  try dsimp only [Nat.reduceAdd, xi_1]
  refine xS.br (c := .lt) (off := 8) (l := 3) rfl rfl (fun h2 => ?_) (fun h2 => ?_)
  · have g2 := xt_lt h2
    exfalso; first | exact absurd g2 (by decide) | (simp (disch := omega) only [Int32.lt_iff_toInt_lt, Int32.le_iff_toInt_le, nI_toInt, Int32.reduceToInt] at g2 <;> omega)
  · have g2 := xf_lt h2
    refine xS.s1 rfl rfl ?_
    try dsimp only [Nat.reduceAdd]
    refine xS.s1 rfl rfl ?_
    try dsimp only [Nat.reduceAdd, xi_3]
    refine xS.br (c := .le) (off := 5) (l := 3) rfl rfl (fun h7 => ?_) (fun h7 => ?_)
    · have g7 := xt_le h7
      refine xS.s1 rfl rfl ?_
      try dsimp only [Nat.reduceAdd]
      refine xS.gR rfl rfl rfl ⟨by decide, rfl⟩ rfl ?_
      try dsimp only [Nat.reduceAdd]
      -- 16 yX8_glasses
      refine xS.cv rfl rfl rfl (hb.1 _) rfl rfl ⟨by decide, rfl, rfl⟩ (c_X8_glasses hb) (fun v M1 hv => ?_)
      rw [hv.1, hv.2]
      clear hv M1 v
      try dsimp only [Nat.reduceAdd, Option.toList, List.cons_append, List.nil_append, List.drop]
      refine xS.br0 (c := .ne) (off := 6) (l := 3) rfl rfl (fun h19 => ?_) (fun h19 => ?_)
      · have g19 := xt_ne h19
        exact absurd hg g19
      · have g19 := xf_ne h19
        refine xS.s1 rfl rfl ?_
        try dsimp only [Nat.reduceAdd, xj_m4]
        refine xS.ret rfl rfl rfl (fun _ _ => rfl) ?_
        exact ⟨rfl, rfl⟩
    · have g7 := xf_le h7
      exfalso; first | exact absurd g7 (by decide) | (simp (disch := omega) only [Int32.lt_iff_toInt_lt, Int32.le_iff_toInt_le, nI_toInt, Int32.reduceToInt] at g7 <;> omega)

set_option maxRecDepth 10000 in
theorem c_X11_picks_ok (hb : xro b.1) (hR : xRm g b.1 G T Lw) (hp : xpn g) (hbv : b.1 = 7 ∨ b.1 = 11) (hn : n ≤ 3) (hn0 : 0 < n) (hg : ¬ g b.1 2 = 0) : xT (k + 10) 111 [.ref 0, .int (nI n)] (xH b g l) (fun r M' => ∃ g', (∀ a, a ≠ 15 → a ≠ 16 → g' a = g a) ∧ M' = xH b g' l ∧ r = some (.int (xfI (xlp (xsafe (g (b.1 + 1)) (g (b.1 + 3)) T G Lw) n 3 0 (fun _ => 0))))) := by
  refine xT.of rfl (Nat.le_of_ble_eq_true rfl) ?_
  change xS _ _ 0 [(0, .ref 0), (1, .int (nI n))] [] _ _
  refine xS.s1 rfl rfl ?_
  try dsimp only [Nat.reduceAdd]
  refine xS.s1 rfl rfl ?_
  try dsimp only [Nat.reduceAdd, xi_1]
  refine xS.br (c := .lt) (off := 8) (l := 3) rfl rfl (fun h2 => ?_) (fun h2 => ?_)
  · have g2 := xt_lt h2
    exfalso; first | exact absurd g2 (by decide) | (simp (disch := omega) only [Int32.lt_iff_toInt_lt, Int32.le_iff_toInt_le, nI_toInt, Int32.reduceToInt] at g2 <;> omega)
  · have g2 := xf_lt h2
    refine xS.s1 rfl rfl ?_
    try dsimp only [Nat.reduceAdd]
    refine xS.s1 rfl rfl ?_
    try dsimp only [Nat.reduceAdd, xi_3]
    refine xS.br (c := .le) (off := 5) (l := 3) rfl rfl (fun h7 => ?_) (fun h7 => ?_)
    · have g7 := xt_le h7
      refine xS.s1 rfl rfl ?_
      try dsimp only [Nat.reduceAdd]
      refine xS.gR rfl rfl rfl ⟨by decide, rfl⟩ rfl ?_
      try dsimp only [Nat.reduceAdd]
      -- 16 yX8_glasses
      refine xS.cv rfl rfl rfl (hb.1 _) rfl rfl ⟨by decide, rfl, rfl⟩ (c_X8_glasses hb) (fun v M1 hv => ?_)
      rw [hv.1, hv.2]
      clear hv M1 v
      try dsimp only [Nat.reduceAdd, Option.toList, List.cons_append, List.nil_append, List.drop]
      refine xS.br0 (c := .ne) (off := 6) (l := 3) rfl rfl (fun h19 => ?_) (fun h19 => ?_)
      · have g19 := xt_ne h19
        refine xS.s1 rfl rfl ?_
        try dsimp only [Nat.reduceAdd]
        refine xS.gR rfl rfl rfl ⟨by decide, rfl⟩ rfl ?_
        try dsimp only [Nat.reduceAdd]
        refine xS.s1 rfl rfl ?_
        try dsimp only [Nat.reduceAdd]
        refine xS.s1 rfl rfl ?_
        try dsimp only [Nat.reduceAdd, xi_0]
        -- 31 yX0_open
        refine xS.cv rfl rfl rfl (xce_trial.1 _) rfl rfl ⟨by decide, rfl, rfl⟩ (c_X0_open xce_trial (m := n) (by omega)) (fun v M1 hv => ?_)
        rw [hv.1, hv.2]
        clear hv M1 v
        have hR1 : xRm (gfill (up g 15 1 (nI n)) (15 + 1) n 0) b.1 G T Lw := xRm_fr (fun i _ _ => by rw [gfill_na (by omega), up_na (by omega)]) hR
        have hp1 : xpn (gfill (up g 15 1 (nI n)) (15 + 1) n 0) := xpn_fr (fun i _ _ => by rw [gfill_na (by omega), up_na (by omega)]) hp
        have ee1 : (gfill (up g 15 1 (nI n)) (15 + 1) n 0) (b.1 + 1) = g (b.1 + 1) := by rw [gfill_na (by omega), up_na (by omega)]
        have ee3 : (gfill (up g 15 1 (nI n)) (15 + 1) n 0) (b.1 + 3) = g (b.1 + 3) := by rw [gfill_na (by omega), up_na (by omega)]
        try dsimp only [Nat.reduceAdd, Option.toList, List.cons_append, List.nil_append, List.drop]
        refine xS.s1 rfl rfl ?_
        try dsimp only [Nat.reduceAdd]
        refine xS.s1 rfl rfl ?_
        try dsimp only [Nat.reduceAdd, xi_0]
        refine xS.s1 rfl rfl ?_
        try dsimp only [Nat.reduceAdd]
        -- 37 yX11_leastPick
        refine xS.cv rfl rfl rfl rfl rfl rfl ⟨by decide, rfl, rfl⟩ (c_X11_leastPick hb hR1 hp1 hbv (by rw [gfill_na (by decide), up_same]) hn hn0) (fun v M1 hv => ?_)
        obtain ⟨g2, hM2, f1, hv2⟩ := hv
        rw [hM2, hv2, ee1, ee3]
        clear hM2 hv2 M1 v
        try dsimp only [Nat.reduceAdd, Option.toList, List.cons_append, List.nil_append, List.drop]
        refine xS.ret rfl rfl rfl (fun _ _ => rfl) ?_
        exact ⟨g2, fun a h1 h2 => by rw [f1 a h2, gfill_na h2, up_na h1], rfl, rfl⟩
      · have g19 := xf_ne h19
        exact absurd g19 hg
    · have g7 := xf_le h7
      exfalso; first | exact absurd g7 (by decide) | (simp (disch := omega) only [Int32.lt_iff_toInt_lt, Int32.le_iff_toInt_le, nI_toInt, Int32.reduceToInt] at g7 <;> omega)

set_option maxRecDepth 10000 in
theorem c_X11_odds_bad (hb : xro b.1) (hx : ¬ ((0 ≤ x ∧ x < g b.1 2) ∧ (0 ≤ y ∧ y < 6) ∧ 0 ≤ z ∧ z ≤ 12)) : xT (k + 6) 112 [.ref 0, .int x, .int y, .int z] (xH b g l) (fun r M' => M' = xH b g l ∧ r = some (.int (-1))) := by
  refine xT.of rfl (Nat.le_of_ble_eq_true rfl) ?_
  change xS _ _ 0 [(0, .ref 0), (1, .int x), (2, .int y), (3, .int z)] [] _ _
  refine xS.s1 rfl rfl ?_
  try dsimp only [Nat.reduceAdd]
  refine xS.s1 rfl rfl ?_
  try dsimp only [Nat.reduceAdd]
  -- 2 yX11_isGlass
  refine xS.cv rfl rfl rfl rfl rfl rfl ⟨by decide, rfl, rfl⟩ (c_X11_isGlass hb) (fun v M1 hv => ?_)
  rw [hv.1, hv.2]
  clear hv M1 v
  try dsimp only [Nat.reduceAdd, Option.toList, List.cons_append, List.nil_append, List.drop]
  refine xS.br0 (c := .eq) (off := 20) (l := 3) rfl rfl (fun h5 => ?_) (fun h5 => ?_)
  · have g5 := xt_eq h5
    refine xS.s1 rfl rfl ?_
    try dsimp only [Nat.reduceAdd, xi_m1]
    refine xS.ret rfl rfl rfl (fun _ _ => rfl) ?_
    exact ⟨rfl, rfl⟩
  · have g5 := xf_eq h5
    refine xS.s1 rfl rfl ?_
    try dsimp only [Nat.reduceAdd]
    -- 9 yX11_isRow
    refine xS.callS rfl rfl rfl ⟨Nat.le_of_ble_eq_true rfl, rfl⟩ c_X11_isRow (fun v M1 hv => ?_)
    rw [hv.1, hv.2]
    clear hv M1 v
    try dsimp only [Nat.reduceAdd, Option.toList, List.cons_append, List.nil_append, List.drop]
    refine xS.br0 (c := .eq) (off := 13) (l := 3) rfl rfl (fun h12 => ?_) (fun h12 => ?_)
    · have g12 := xt_eq h12
      refine xS.s1 rfl rfl ?_
      try dsimp only [Nat.reduceAdd, xi_m1]
      refine xS.ret rfl rfl rfl (fun _ _ => rfl) ?_
      exact ⟨rfl, rfl⟩
    · have g12 := xf_eq h12
      refine xS.s1 rfl rfl ?_
      try dsimp only [Nat.reduceAdd]
      refine xS.br0 (c := .lt) (off := 9) (l := 3) rfl rfl (fun h16 => ?_) (fun h16 => ?_)
      · have g16 := xt_lt h16
        refine xS.s1 rfl rfl ?_
        try dsimp only [Nat.reduceAdd, xi_m1]
        refine xS.ret rfl rfl rfl (fun _ _ => rfl) ?_
        exact ⟨rfl, rfl⟩
      · have g16 := xf_lt h16
        refine xS.s1 rfl rfl ?_
        try dsimp only [Nat.reduceAdd]
        refine xS.s1 rfl rfl ?_
        try dsimp only [Nat.reduceAdd, xj_12]
        refine xS.br (c := .le) (off := 5) (l := 3) rfl rfl (fun h22 => ?_) (fun h22 => ?_)
        · have g22 := xt_le h22
          exact absurd ⟨xif1 g5, xif1 g12, g16, g22⟩ hx
        · have g22 := xf_le h22
          refine xS.s1 rfl rfl ?_
          try dsimp only [Nat.reduceAdd, xi_m1]
          refine xS.ret rfl rfl rfl (fun _ _ => rfl) ?_
          exact ⟨rfl, rfl⟩

set_option maxRecDepth 10000 in
theorem c_X11_odds_ref (hb : xro b.1) (hR : xRm g b.1 G T Lw) (hk : s < G) (ht : t < 6) (hz : xsz (g (23 + 2 * t) 1) 40) (he : e1 ≤ 12) (hf : (xfos (g (23 + 2 * t) 1) (g (23 + 2 * t + 1)) 12) ≠ 0) : xT (k + 6) 112 [.ref 0, .int (nI s), .int (nI t), .int (nI e1)] (xH b g l) (fun r M' => M' = xH b (xfC g (xfos (g (23 + 2 * t) 1) (g (23 + 2 * t + 1)) 12)) l ∧ r = some (.int (-3))) := by
  refine xT.of rfl (Nat.le_of_ble_eq_true rfl) ?_
  change xS _ _ 0 [(0, .ref 0), (1, .int (nI s)), (2, .int (nI t)), (3, .int (nI e1))] [] _ _
  refine xS.s1 rfl rfl ?_
  try dsimp only [Nat.reduceAdd]
  refine xS.s1 rfl rfl ?_
  try dsimp only [Nat.reduceAdd]
  -- 2 yX11_isGlass
  refine xS.cv rfl rfl rfl rfl rfl rfl ⟨by decide, rfl, rfl⟩ (c_X11_isGlass_in hb hR hk) (fun v M1 hv => ?_)
  rw [hv.1, hv.2]
  clear hv M1 v
  try dsimp only [Nat.reduceAdd, Option.toList, List.cons_append, List.nil_append, List.drop]
  refine xS.br0 (c := .eq) (off := 20) (l := 3) rfl rfl (fun h5 => ?_) (fun h5 => ?_)
  · have g5 := xt_eq h5
    exfalso; first | exact absurd g5 (by decide) | (simp (disch := omega) only [Int32.lt_iff_toInt_lt, Int32.le_iff_toInt_le, nI_toInt, Int32.reduceToInt] at g5 <;> omega)
  · have g5 := xf_eq h5
    refine xS.s1 rfl rfl ?_
    try dsimp only [Nat.reduceAdd]
    -- 9 yX11_isRow
    refine xS.callS rfl rfl rfl ⟨Nat.le_of_ble_eq_true rfl, rfl⟩ (c_X11_isRow_in ht) (fun v M1 hv => ?_)
    rw [hv.1, hv.2]
    clear hv M1 v
    try dsimp only [Nat.reduceAdd, Option.toList, List.cons_append, List.nil_append, List.drop]
    refine xS.br0 (c := .eq) (off := 13) (l := 3) rfl rfl (fun h12 => ?_) (fun h12 => ?_)
    · have g12 := xt_eq h12
      exfalso; first | exact absurd g12 (by decide) | (simp (disch := omega) only [Int32.lt_iff_toInt_lt, Int32.le_iff_toInt_le, nI_toInt, Int32.reduceToInt] at g12 <;> omega)
    · have g12 := xf_eq h12
      refine xS.s1 rfl rfl ?_
      try dsimp only [Nat.reduceAdd]
      refine xS.br0 (c := .lt) (off := 9) (l := 3) rfl rfl (fun h16 => ?_) (fun h16 => ?_)
      · have g16 := xt_lt h16
        exfalso; first | exact absurd g16 (by decide) | (simp (disch := omega) only [Int32.lt_iff_toInt_lt, Int32.le_iff_toInt_le, nI_toInt, Int32.reduceToInt] at g16 <;> omega)
      · have g16 := xf_lt h16
        refine xS.s1 rfl rfl ?_
        try dsimp only [Nat.reduceAdd]
        refine xS.s1 rfl rfl ?_
        try dsimp only [Nat.reduceAdd, xj_12]
        refine xS.br (c := .le) (off := 5) (l := 3) rfl rfl (fun h22 => ?_) (fun h22 => ?_)
        · have g22 := xt_le h22
          refine xS.s1 rfl rfl ?_
          try dsimp only [Nat.reduceAdd]
          refine xS.gR rfl rfl rfl ⟨by decide, rfl⟩ rfl ?_
          try dsimp only [Nat.reduceAdd]
          refine xS.s1 rfl rfl ?_
          try dsimp only [Nat.reduceAdd]
          refine xS.aR rfl rfl (by decide) (by omega) (xsh1_get (by omega)) ?_
          try dsimp only [Nat.reduceAdd]
          refine xS.s1 rfl rfl ?_
          try dsimp only [Nat.reduceAdd, xj_12]
          -- 35 yX11_findingOfSteps
          refine xS.callS rfl rfl rfl ⟨Nat.le_of_ble_eq_true rfl, rfl⟩ (c_X11_findingOfSteps (xce_row ht) hz (by decide)) (fun v M1 hv => ?_)
          rw [hv.1, hv.2]
          clear hv M1 v
          try dsimp only [Nat.reduceAdd, Option.toList, List.cons_append, List.nil_append, List.drop]
          refine xS.s1 rfl rfl ?_
          try dsimp only [Nat.reduceAdd]
          refine xS.s1 rfl rfl ?_
          try dsimp only [Nat.reduceAdd]
          refine xS.br0 (c := .eq) (off := 10) (l := 3) rfl rfl (fun h42 => ?_) (fun h42 => ?_)
          · have g42 := xt_eq h42
            exact absurd ((nI_eq (b := 0) (by have := xfos_le (g (23 + 2 * t) 1) (g (23 + 2 * t + 1)) 12; omega) (by omega)).mp g42) hf
          · have g42 := xf_eq h42
            refine xS.s1 rfl rfl ?_
            try dsimp only [Nat.reduceAdd]
            refine xS.s1 rfl rfl ?_
            try dsimp only [Nat.reduceAdd]
            -- 48 yX11_refuse
            refine xS.cv rfl rfl rfl rfl rfl rfl ⟨by decide, rfl, rfl⟩ (c_X11_refuse (t := (xfos (g (23 + 2 * t) 1) (g (23 + 2 * t + 1)) 12)) (by omega) (xfos_le _ _ _)) (fun v M1 hv => ?_)
            rw [hv.1, hv.2]
            clear hv M1 v
            try dsimp only [Nat.reduceAdd, Option.toList, List.cons_append, List.nil_append, List.drop]
            refine xS.ret rfl rfl rfl (fun _ _ => rfl) ?_
            exact ⟨rfl, rfl⟩
        · have g22 := xf_le h22
          exfalso; first | exact absurd g22 (by decide) | (simp (disch := omega) only [Int32.lt_iff_toInt_lt, Int32.le_iff_toInt_le, nI_toInt, Int32.reduceToInt] at g22 <;> omega)

set_option maxRecDepth 10000 in
theorem c_X11_mid_bad (hb : xro b.1) (hx : ¬ ((0 ≤ x ∧ x < g b.1 2) ∧ (0 ≤ y ∧ y < 6) ∧ 0 ≤ z ∧ z ≤ 12)) : xT (k + 6) 113 [.ref 0, .int x, .int y, .int z] (xH b g l) (fun r M' => M' = xH b g l ∧ r = some (.int (-1))) := by
  refine xT.of rfl (Nat.le_of_ble_eq_true rfl) ?_
  change xS _ _ 0 [(0, .ref 0), (1, .int x), (2, .int y), (3, .int z)] [] _ _
  refine xS.s1 rfl rfl ?_
  try dsimp only [Nat.reduceAdd]
  refine xS.s1 rfl rfl ?_
  try dsimp only [Nat.reduceAdd]
  -- 2 yX11_isGlass
  refine xS.cv rfl rfl rfl rfl rfl rfl ⟨by decide, rfl, rfl⟩ (c_X11_isGlass hb) (fun v M1 hv => ?_)
  rw [hv.1, hv.2]
  clear hv M1 v
  try dsimp only [Nat.reduceAdd, Option.toList, List.cons_append, List.nil_append, List.drop]
  refine xS.br0 (c := .eq) (off := 20) (l := 3) rfl rfl (fun h5 => ?_) (fun h5 => ?_)
  · have g5 := xt_eq h5
    refine xS.s1 rfl rfl ?_
    try dsimp only [Nat.reduceAdd, xi_m1]
    refine xS.ret rfl rfl rfl (fun _ _ => rfl) ?_
    exact ⟨rfl, rfl⟩
  · have g5 := xf_eq h5
    refine xS.s1 rfl rfl ?_
    try dsimp only [Nat.reduceAdd]
    -- 9 yX11_isRow
    refine xS.callS rfl rfl rfl ⟨Nat.le_of_ble_eq_true rfl, rfl⟩ c_X11_isRow (fun v M1 hv => ?_)
    rw [hv.1, hv.2]
    clear hv M1 v
    try dsimp only [Nat.reduceAdd, Option.toList, List.cons_append, List.nil_append, List.drop]
    refine xS.br0 (c := .eq) (off := 13) (l := 3) rfl rfl (fun h12 => ?_) (fun h12 => ?_)
    · have g12 := xt_eq h12
      refine xS.s1 rfl rfl ?_
      try dsimp only [Nat.reduceAdd, xi_m1]
      refine xS.ret rfl rfl rfl (fun _ _ => rfl) ?_
      exact ⟨rfl, rfl⟩
    · have g12 := xf_eq h12
      refine xS.s1 rfl rfl ?_
      try dsimp only [Nat.reduceAdd]
      refine xS.br0 (c := .lt) (off := 9) (l := 3) rfl rfl (fun h16 => ?_) (fun h16 => ?_)
      · have g16 := xt_lt h16
        refine xS.s1 rfl rfl ?_
        try dsimp only [Nat.reduceAdd, xi_m1]
        refine xS.ret rfl rfl rfl (fun _ _ => rfl) ?_
        exact ⟨rfl, rfl⟩
      · have g16 := xf_lt h16
        refine xS.s1 rfl rfl ?_
        try dsimp only [Nat.reduceAdd]
        refine xS.s1 rfl rfl ?_
        try dsimp only [Nat.reduceAdd, xj_12]
        refine xS.br (c := .le) (off := 5) (l := 3) rfl rfl (fun h22 => ?_) (fun h22 => ?_)
        · have g22 := xt_le h22
          exact absurd ⟨xif1 g5, xif1 g12, g16, g22⟩ hx
        · have g22 := xf_le h22
          refine xS.s1 rfl rfl ?_
          try dsimp only [Nat.reduceAdd, xi_m1]
          refine xS.ret rfl rfl rfl (fun _ _ => rfl) ?_
          exact ⟨rfl, rfl⟩

set_option maxRecDepth 10000 in
theorem c_X11_mid_ref (hb : xro b.1) (hR : xRm g b.1 G T Lw) (hk : s < G) (ht : t < 6) (hz : xsz (g (23 + 2 * t) 1) 40) (he : e1 ≤ 12) (hf : (xfos (g (23 + 2 * t) 1) (g (23 + 2 * t + 1)) 12) ≠ 0) : xT (k + 6) 113 [.ref 0, .int (nI s), .int (nI t), .int (nI e1)] (xH b g l) (fun r M' => M' = xH b (xfC g (xfos (g (23 + 2 * t) 1) (g (23 + 2 * t + 1)) 12)) l ∧ r = some (.int (-3))) := by
  refine xT.of rfl (Nat.le_of_ble_eq_true rfl) ?_
  change xS _ _ 0 [(0, .ref 0), (1, .int (nI s)), (2, .int (nI t)), (3, .int (nI e1))] [] _ _
  refine xS.s1 rfl rfl ?_
  try dsimp only [Nat.reduceAdd]
  refine xS.s1 rfl rfl ?_
  try dsimp only [Nat.reduceAdd]
  -- 2 yX11_isGlass
  refine xS.cv rfl rfl rfl rfl rfl rfl ⟨by decide, rfl, rfl⟩ (c_X11_isGlass_in hb hR hk) (fun v M1 hv => ?_)
  rw [hv.1, hv.2]
  clear hv M1 v
  try dsimp only [Nat.reduceAdd, Option.toList, List.cons_append, List.nil_append, List.drop]
  refine xS.br0 (c := .eq) (off := 20) (l := 3) rfl rfl (fun h5 => ?_) (fun h5 => ?_)
  · have g5 := xt_eq h5
    exfalso; first | exact absurd g5 (by decide) | (simp (disch := omega) only [Int32.lt_iff_toInt_lt, Int32.le_iff_toInt_le, nI_toInt, Int32.reduceToInt] at g5 <;> omega)
  · have g5 := xf_eq h5
    refine xS.s1 rfl rfl ?_
    try dsimp only [Nat.reduceAdd]
    -- 9 yX11_isRow
    refine xS.callS rfl rfl rfl ⟨Nat.le_of_ble_eq_true rfl, rfl⟩ (c_X11_isRow_in ht) (fun v M1 hv => ?_)
    rw [hv.1, hv.2]
    clear hv M1 v
    try dsimp only [Nat.reduceAdd, Option.toList, List.cons_append, List.nil_append, List.drop]
    refine xS.br0 (c := .eq) (off := 13) (l := 3) rfl rfl (fun h12 => ?_) (fun h12 => ?_)
    · have g12 := xt_eq h12
      exfalso; first | exact absurd g12 (by decide) | (simp (disch := omega) only [Int32.lt_iff_toInt_lt, Int32.le_iff_toInt_le, nI_toInt, Int32.reduceToInt] at g12 <;> omega)
    · have g12 := xf_eq h12
      refine xS.s1 rfl rfl ?_
      try dsimp only [Nat.reduceAdd]
      refine xS.br0 (c := .lt) (off := 9) (l := 3) rfl rfl (fun h16 => ?_) (fun h16 => ?_)
      · have g16 := xt_lt h16
        exfalso; first | exact absurd g16 (by decide) | (simp (disch := omega) only [Int32.lt_iff_toInt_lt, Int32.le_iff_toInt_le, nI_toInt, Int32.reduceToInt] at g16 <;> omega)
      · have g16 := xf_lt h16
        refine xS.s1 rfl rfl ?_
        try dsimp only [Nat.reduceAdd]
        refine xS.s1 rfl rfl ?_
        try dsimp only [Nat.reduceAdd, xj_12]
        refine xS.br (c := .le) (off := 5) (l := 3) rfl rfl (fun h22 => ?_) (fun h22 => ?_)
        · have g22 := xt_le h22
          refine xS.s1 rfl rfl ?_
          try dsimp only [Nat.reduceAdd]
          refine xS.gR rfl rfl rfl ⟨by decide, rfl⟩ rfl ?_
          try dsimp only [Nat.reduceAdd]
          refine xS.s1 rfl rfl ?_
          try dsimp only [Nat.reduceAdd]
          refine xS.aR rfl rfl (by decide) (by omega) (xsh1_get (by omega)) ?_
          try dsimp only [Nat.reduceAdd]
          refine xS.s1 rfl rfl ?_
          try dsimp only [Nat.reduceAdd, xj_12]
          -- 35 yX11_findingOfSteps
          refine xS.callS rfl rfl rfl ⟨Nat.le_of_ble_eq_true rfl, rfl⟩ (c_X11_findingOfSteps (xce_row ht) hz (by decide)) (fun v M1 hv => ?_)
          rw [hv.1, hv.2]
          clear hv M1 v
          try dsimp only [Nat.reduceAdd, Option.toList, List.cons_append, List.nil_append, List.drop]
          refine xS.s1 rfl rfl ?_
          try dsimp only [Nat.reduceAdd]
          refine xS.s1 rfl rfl ?_
          try dsimp only [Nat.reduceAdd]
          refine xS.br0 (c := .eq) (off := 10) (l := 3) rfl rfl (fun h42 => ?_) (fun h42 => ?_)
          · have g42 := xt_eq h42
            exact absurd ((nI_eq (b := 0) (by have := xfos_le (g (23 + 2 * t) 1) (g (23 + 2 * t + 1)) 12; omega) (by omega)).mp g42) hf
          · have g42 := xf_eq h42
            refine xS.s1 rfl rfl ?_
            try dsimp only [Nat.reduceAdd]
            refine xS.s1 rfl rfl ?_
            try dsimp only [Nat.reduceAdd]
            -- 48 yX11_refuse
            refine xS.cv rfl rfl rfl rfl rfl rfl ⟨by decide, rfl, rfl⟩ (c_X11_refuse (t := (xfos (g (23 + 2 * t) 1) (g (23 + 2 * t + 1)) 12)) (by omega) (xfos_le _ _ _)) (fun v M1 hv => ?_)
            rw [hv.1, hv.2]
            clear hv M1 v
            try dsimp only [Nat.reduceAdd, Option.toList, List.cons_append, List.nil_append, List.drop]
            refine xS.ret rfl rfl rfl (fun _ _ => rfl) ?_
            exact ⟨rfl, rfl⟩
        · have g22 := xf_le h22
          exfalso; first | exact absurd g22 (by decide) | (simp (disch := omega) only [Int32.lt_iff_toInt_lt, Int32.le_iff_toInt_le, nI_toInt, Int32.reduceToInt] at g22 <;> omega)

set_option maxRecDepth 10000 in
theorem c_X11_odds_ok (hb : xro b.1) (hR : xRm g b.1 G T Lw) (hp : xpn g) (hk : s < G) (ht : t < 6) (he : e1 ≤ 12) (hs : g (23 + 2 * t) 1 = nI m) (hm : m ≤ 12) (hf : xfos (g (23 + 2 * t) 1) (g (23 + 2 * t + 1)) 12 = 0) (hx : ∀ i, i < m → xstp (g (23 + 2 * t + 1) i)) : xT (k + 6) 112 [.ref 0, .int (nI s), .int (nI t), .int (nI e1)] (xH b g l) (fun r M' => M' = xH b g (up (up l 0 12 (lN (xpr (fun i => 12 - xbt (xfb (g (b.1 + 3)) T (g (23 + 2 * t + 1) i) 0 = none) (xfb (g (b.1 + 3)) T (g (23 + 2 * t + 1) i) (xshw (g (b.1 + 1)) (Lw s / 4) (Lw s % 4) (fun i => xN (g (23 + 2 * t + 1) i)) i) = none) e1) 1 m / Nat.gcd (xpr (fun i => 12 - xbt (xfb (g (b.1 + 3)) T (g (23 + 2 * t + 1) i) 0 = none) (xfb (g (b.1 + 3)) T (g (23 + 2 * t + 1) i) (xshw (g (b.1 + 1)) (Lw s / 4) (Lw s % 4) (fun i => xN (g (23 + 2 * t + 1) i)) i) = none) e1) 1 m) (12 ^ m)))) 0 13 (lN (12 ^ m / Nat.gcd (xpr (fun i => 12 - xbt (xfb (g (b.1 + 3)) T (g (23 + 2 * t + 1) i) 0 = none) (xfb (g (b.1 + 3)) T (g (23 + 2 * t + 1) i) (xshw (g (b.1 + 1)) (Lw s / 4) (Lw s % 4) (fun i => xN (g (23 + 2 * t + 1) i)) i) = none) e1) 1 m) (12 ^ m)))) ∧ r = some (.int 1)) := by
  have hz : xsz (g (23 + 2 * t) 1) 40 := Or.inr ⟨m, by omega, hs⟩
  refine xT.of rfl (Nat.le_of_ble_eq_true rfl) ?_
  change xS _ _ 0 [(0, .ref 0), (1, .int (nI s)), (2, .int (nI t)), (3, .int (nI e1))] [] _ _
  refine xS.s1 rfl rfl ?_
  try dsimp only [Nat.reduceAdd]
  refine xS.s1 rfl rfl ?_
  try dsimp only [Nat.reduceAdd]
  -- 2 yX11_isGlass
  refine xS.cv rfl rfl rfl rfl rfl rfl ⟨by decide, rfl, rfl⟩ (c_X11_isGlass_in hb hR hk) (fun v M1 hv => ?_)
  rw [hv.1, hv.2]
  clear hv M1 v
  try dsimp only [Nat.reduceAdd, Option.toList, List.cons_append, List.nil_append, List.drop]
  refine xS.br0 (c := .eq) (off := 20) (l := 3) rfl rfl (fun h5 => ?_) (fun h5 => ?_)
  · have g5 := xt_eq h5
    exfalso; first | exact absurd g5 (by decide) | (simp (disch := omega) only [Int32.lt_iff_toInt_lt, Int32.le_iff_toInt_le, nI_toInt, Int32.reduceToInt] at g5 <;> omega)
  · have g5 := xf_eq h5
    refine xS.s1 rfl rfl ?_
    try dsimp only [Nat.reduceAdd]
    -- 9 yX11_isRow
    refine xS.callS rfl rfl rfl ⟨Nat.le_of_ble_eq_true rfl, rfl⟩ (c_X11_isRow_in ht) (fun v M1 hv => ?_)
    rw [hv.1, hv.2]
    clear hv M1 v
    try dsimp only [Nat.reduceAdd, Option.toList, List.cons_append, List.nil_append, List.drop]
    refine xS.br0 (c := .eq) (off := 13) (l := 3) rfl rfl (fun h12 => ?_) (fun h12 => ?_)
    · have g12 := xt_eq h12
      exfalso; first | exact absurd g12 (by decide) | (simp (disch := omega) only [Int32.lt_iff_toInt_lt, Int32.le_iff_toInt_le, nI_toInt, Int32.reduceToInt] at g12 <;> omega)
    · have g12 := xf_eq h12
      refine xS.s1 rfl rfl ?_
      try dsimp only [Nat.reduceAdd]
      refine xS.br0 (c := .lt) (off := 9) (l := 3) rfl rfl (fun h16 => ?_) (fun h16 => ?_)
      · have g16 := xt_lt h16
        exfalso; first | exact absurd g16 (by decide) | (simp (disch := omega) only [Int32.lt_iff_toInt_lt, Int32.le_iff_toInt_le, nI_toInt, Int32.reduceToInt] at g16 <;> omega)
      · have g16 := xf_lt h16
        refine xS.s1 rfl rfl ?_
        try dsimp only [Nat.reduceAdd]
        refine xS.s1 rfl rfl ?_
        try dsimp only [Nat.reduceAdd, xj_12]
        refine xS.br (c := .le) (off := 5) (l := 3) rfl rfl (fun h22 => ?_) (fun h22 => ?_)
        · have g22 := xt_le h22
          refine xS.s1 rfl rfl ?_
          try dsimp only [Nat.reduceAdd]
          refine xS.gR rfl rfl rfl ⟨by decide, rfl⟩ rfl ?_
          try dsimp only [Nat.reduceAdd]
          refine xS.s1 rfl rfl ?_
          try dsimp only [Nat.reduceAdd]
          refine xS.aR rfl rfl (by decide) (by omega) (xsh1_get (by omega)) ?_
          try dsimp only [Nat.reduceAdd]
          refine xS.s1 rfl rfl ?_
          try dsimp only [Nat.reduceAdd, xj_12]
          -- 35 yX11_findingOfSteps
          refine xS.callS rfl rfl rfl ⟨Nat.le_of_ble_eq_true rfl, rfl⟩ (c_X11_findingOfSteps (xce_row ht) hz (by decide)) (fun v M1 hv => ?_)
          rw [hv.1, hv.2, hf]
          clear hv M1 v
          try dsimp only [Nat.reduceAdd, Option.toList, List.cons_append, List.nil_append, List.drop]
          refine xS.s1 rfl rfl ?_
          try dsimp only [Nat.reduceAdd]
          refine xS.s1 rfl rfl ?_
          try dsimp only [Nat.reduceAdd]
          refine xS.br0 (c := .eq) (off := 10) (l := 3) rfl rfl (fun h42 => ?_) (fun h42 => ?_)
          · have g42 := xt_eq h42
            refine xS.s1 rfl rfl ?_
            try dsimp only [Nat.reduceAdd]
            refine xS.s1 rfl rfl ?_
            try dsimp only [Nat.reduceAdd]
            refine xS.s1 rfl rfl ?_
            try dsimp only [Nat.reduceAdd]
            refine xS.s1 rfl rfl ?_
            try dsimp only [Nat.reduceAdd]
            refine xS.s1 rfl rfl ?_
            try dsimp only [Nat.reduceAdd, xi_0]
            refine xS.s1 rfl rfl ?_
            try dsimp only [Nat.reduceAdd]
            refine xS.pick [0, 2, 1, 4, 5, 6, 7] rfl ?_
            refine xS.loop (σ := Unit) (m) (fun j S => [(9, .int (nI j)), (5, .long (lN (xpr (fun i => 12 - xbt (xfb (g (b.1 + 3)) T (g (23 + 2 * t + 1) i) 0 = none) (xfb (g (b.1 + 3)) T (g (23 + 2 * t + 1) i) (xshw (g (b.1 + 1)) (Lw s / 4) (Lw s % 4) (fun i => xN (g (23 + 2 * t + 1) i)) i) = none) e1) 1 j))), (7, .long (lN (12 ^ j))), (0, .ref 0), (1, .int (nI s)), (2, .int (nI t)), (3, .int (nI e1))]) (fun _ _ => xH b g l) (fun _ _ => True) (()) (rfl) (rfl) (trivial) ?_
            intro j S hj hI ih
            try dsimp only
            have hb1 := xpr_le (f := (fun i => 12 - xbt (xfb (g (b.1 + 3)) T (g (23 + 2 * t + 1) i) 0 = none) (xfb (g (b.1 + 3)) T (g (23 + 2 * t + 1) i) (xshw (g (b.1 + 1)) (Lw s / 4) (Lw s % 4) (fun i => xN (g (23 + 2 * t + 1) i)) i) = none) e1)) (a := 1) (q := 12) (fun i => Nat.sub_le _ _) j
            have hb2 : 12 ^ j ≤ 12 ^ 12 := Nat.pow_le_pow_right (by omega) (by omega)
            have hb0 : 0 < 12 ^ j := Nat.pow_pos (by omega)
            refine xS.s1 rfl rfl ?_
            try dsimp only [Nat.reduceAdd]
            refine xS.s1 rfl rfl ?_
            try dsimp only [Nat.reduceAdd]
            refine xS.gR rfl rfl rfl ⟨by decide, rfl⟩ rfl ?_
            try dsimp only [Nat.reduceAdd]
            refine xS.s1 rfl rfl ?_
            try dsimp only [Nat.reduceAdd]
            refine xS.aR rfl rfl (by decide) (by omega) (xsh1_get (by omega)) ?_
            try dsimp only [Nat.reduceAdd]
            -- 69 yX0_size
            refine xS.cv rfl rfl rfl ((xce_row (r := t) (by omega)).1 _) rfl rfl ⟨by decide, rfl, rfl⟩ (c_X0_size (xce_row ht)) (fun v M1 hv => ?_)
            rw [hv.1, hv.2, hs]
            clear hv M1 v
            try dsimp only [Nat.reduceAdd, Option.toList, List.cons_append, List.nil_append, List.drop]
            refine xS.br (c := .ge) (off := 44) (l := 3) rfl rfl (fun h72 => ?_) (fun h72 => ?_)
            · have g72 := xt_ge h72
              have e := xnle g72 (by omega) (by omega)
              have e2 : m = j := by omega
              subst e2
              refine xS.s1 rfl rfl ?_
              try dsimp only [Nat.reduceAdd]
              refine xS.s1 rfl rfl ?_
              try dsimp only [Nat.reduceAdd]
              refine xS.s1 rfl rfl ?_
              try dsimp only [Nat.reduceAdd]
              -- 121 yX11_tell
              refine xS.cv rfl rfl rfl rfl rfl rfl ⟨by decide, rfl, rfl⟩ (c_X11_tell (p := xpr (fun i => 12 - xbt (xfb (g (b.1 + 3)) T (g (23 + 2 * t + 1) i) 0 = none) (xfb (g (b.1 + 3)) T (g (23 + 2 * t + 1) i) (xshw (g (b.1 + 1)) (Lw s / 4) (Lw s % 4) (fun i => xN (g (23 + 2 * t + 1) i)) i) = none) e1) 1 m) (d := 12 ^ m) (by omega) (by omega) hb0 (Nat.le_trans (Nat.mul_le_mul (Nat.le_trans hb1 (by rw [Nat.one_mul]; exact hb2)) hb2) (by decide))) (fun v M1 hv => ?_)
              rw [hv.1, hv.2]
              clear hv M1 v
              try dsimp only [Nat.reduceAdd, Option.toList, List.cons_append, List.nil_append, List.drop]
              refine xS.s1 rfl rfl ?_
              try dsimp only [Nat.reduceAdd, xi_1]
              refine xS.ret rfl rfl rfl (fun _ _ => rfl) ?_
              exact ⟨rfl, rfl⟩
            · have g72 := xf_ge h72
              have hlt := xnlt g72 (by omega) (by omega)
              refine xS.s1 rfl rfl ?_
              try dsimp only [Nat.reduceAdd]
              refine xS.s1 rfl rfl ?_
              try dsimp only [Nat.reduceAdd, xj_12]
              refine xS.s1 rfl rfl ?_
              try dsimp only [Nat.reduceAdd]
              refine xS.s1 rfl rfl ?_
              try dsimp only [Nat.reduceAdd]
              refine xS.s1 rfl rfl ?_
              try dsimp only [Nat.reduceAdd]
              -- 82 yX11_paneOf
              refine xS.cv rfl rfl rfl rfl rfl rfl ⟨by decide, rfl, rfl⟩ (c_X11_paneOf hb hR hk) (fun v M1 hv => ?_)
              rw [hv.1, hv.2]
              clear hv M1 v
              try dsimp only [Nat.reduceAdd, Option.toList, List.cons_append, List.nil_append, List.drop]
              refine xS.s1 rfl rfl ?_
              try dsimp only [Nat.reduceAdd]
              refine xS.gR rfl rfl rfl ⟨by decide, rfl⟩ rfl ?_
              try dsimp only [Nat.reduceAdd]
              refine xS.s1 rfl rfl ?_
              try dsimp only [Nat.reduceAdd]
              refine xS.aR rfl rfl (by decide) (by omega) (xsh1_get (by omega)) ?_
              try dsimp only [Nat.reduceAdd]
              refine xS.s1 rfl rfl ?_
              try dsimp only [Nat.reduceAdd]
              refine xS.s1 rfl rfl ?_
              try dsimp only [Nat.reduceAdd]
              -- 94 yX11_breakingOfTwelve
              refine xS.cv rfl rfl rfl rfl rfl rfl ⟨by decide, rfl, rfl⟩ (c_X11_breakingOfTwelve hb hR hp (hR.2.2.1 s hk).2 (xce_row ht) hs (by omega) hx hlt) (fun v M1 hv => ?_)
              rw [hv.1, hv.2, xbt_e he]
              clear hv M1 v
              have hbt : (xbt (xfb (g (b.1 + 3)) T (g (23 + 2 * t + 1) j) 0 = none) (xfb (g (b.1 + 3)) T (g (23 + 2 * t + 1) j) (xshw (g (b.1 + 1)) (Lw s / 4) (Lw s % 4) (fun i => xN (g (23 + 2 * t + 1) i)) j) = none) e1) ≤ 12 := xbt_le he
              try dsimp only [Nat.reduceAdd, Option.toList, List.cons_append, List.nil_append, List.drop]
              refine xS.s1 rfl rfl ?_
              try dsimp only [Nat.reduceAdd]
              rw [show (12 : Int32) - nI (xbt (xfb (g (b.1 + 3)) T (g (23 + 2 * t + 1) j) 0 = none) (xfb (g (b.1 + 3)) T (g (23 + 2 * t + 1) j) (xshw (g (b.1 + 1)) (Lw s / 4) (Lw s % 4) (fun i => xN (g (23 + 2 * t + 1) i)) j) = none) e1) = nI (12 - (xbt (xfb (g (b.1 + 3)) T (g (23 + 2 * t + 1) j) 0 = none) (xfb (g (b.1 + 3)) T (g (23 + 2 * t + 1) j) (xshw (g (b.1 + 1)) (Lw s / 4) (Lw s % 4) (fun i => xN (g (23 + 2 * t + 1) i)) j) = none) e1)) from pk_sub (a := 12) hbt]
              refine xS.s1 rfl rfl ?_
              try dsimp only [Nat.reduceAdd]
              refine xS.s1 rfl rfl ?_
              try dsimp only [Nat.reduceAdd]
              rw [nI_l (by omega), lN_mul]
              refine xS.s1 rfl rfl ?_
              try dsimp only [Nat.reduceAdd]
              refine xS.s1 rfl rfl ?_
              try dsimp only [Nat.reduceAdd]
              refine xS.s1 rfl rfl ?_
              try dsimp only [Nat.reduceAdd]
              refine xS.s1 rfl rfl ?_
              try dsimp only [Nat.reduceAdd]
              rw [show lN (12 ^ j) * 12 = lN (12 ^ (j + 1)) from lN_mul (12 ^ j) 12]
              refine xS.s1 rfl rfl ?_
              try dsimp only [Nat.reduceAdd]
              refine xS.s1 rfl rfl ?_
              try dsimp only [Nat.reduceAdd, xi_1]
              rw [nI_1]
              refine xS.s1 rfl rfl ?_
              try dsimp only [Nat.reduceAdd]
              refine xS.pick [0, 2, 1, 3, 4, 5, 6] rfl ?_
              exact ih () (by omega) trivial
          · have g42 := xf_eq h42
            exfalso; first | exact absurd g42 (by decide) | (simp (disch := omega) only [Int32.lt_iff_toInt_lt, Int32.le_iff_toInt_le, nI_toInt, Int32.reduceToInt] at g42 <;> omega)
        · have g22 := xf_le h22
          exfalso; first | exact absurd g22 (by decide) | (simp (disch := omega) only [Int32.lt_iff_toInt_lt, Int32.le_iff_toInt_le, nI_toInt, Int32.reduceToInt] at g22 <;> omega)

set_option maxRecDepth 10000 in
theorem c_X11_mid_ok (hb : xro b.1) (hR : xRm g b.1 G T Lw) (hp : xpn g) (hk : s < G) (ht : t < 6) (he : e1 ≤ 12) (hs : g (23 + 2 * t) 1 = nI m) (hm : m ≤ 12) (hf : xfos (g (23 + 2 * t) 1) (g (23 + 2 * t + 1)) 12 = 0) (hx : ∀ i, i < m → xstp (g (23 + 2 * t + 1) i)) : xT (k + 6) 113 [.ref 0, .int (nI s), .int (nI t), .int (nI e1)] (xH b g l) (fun r M' => M' = xH b g (up (up l 0 12 (lN (xsm (fun i => xbt (xfb (g (b.1 + 3)) T (g (23 + 2 * t + 1) i) 0 = none) (xfb (g (b.1 + 3)) T (g (23 + 2 * t + 1) i) (xshw (g (b.1 + 1)) (Lw s / 4) (Lw s % 4) (fun i => xN (g (23 + 2 * t + 1) i)) i) = none) e1) m / Nat.gcd (xsm (fun i => xbt (xfb (g (b.1 + 3)) T (g (23 + 2 * t + 1) i) 0 = none) (xfb (g (b.1 + 3)) T (g (23 + 2 * t + 1) i) (xshw (g (b.1 + 1)) (Lw s / 4) (Lw s % 4) (fun i => xN (g (23 + 2 * t + 1) i)) i) = none) e1) m) 12))) 0 13 (lN (12 / Nat.gcd (xsm (fun i => xbt (xfb (g (b.1 + 3)) T (g (23 + 2 * t + 1) i) 0 = none) (xfb (g (b.1 + 3)) T (g (23 + 2 * t + 1) i) (xshw (g (b.1 + 1)) (Lw s / 4) (Lw s % 4) (fun i => xN (g (23 + 2 * t + 1) i)) i) = none) e1) m) 12))) ∧ r = some (.int 1)) := by
  have hz : xsz (g (23 + 2 * t) 1) 40 := Or.inr ⟨m, by omega, hs⟩
  refine xT.of rfl (Nat.le_of_ble_eq_true rfl) ?_
  change xS _ _ 0 [(0, .ref 0), (1, .int (nI s)), (2, .int (nI t)), (3, .int (nI e1))] [] _ _
  refine xS.s1 rfl rfl ?_
  try dsimp only [Nat.reduceAdd]
  refine xS.s1 rfl rfl ?_
  try dsimp only [Nat.reduceAdd]
  -- 2 yX11_isGlass
  refine xS.cv rfl rfl rfl rfl rfl rfl ⟨by decide, rfl, rfl⟩ (c_X11_isGlass_in hb hR hk) (fun v M1 hv => ?_)
  rw [hv.1, hv.2]
  clear hv M1 v
  try dsimp only [Nat.reduceAdd, Option.toList, List.cons_append, List.nil_append, List.drop]
  refine xS.br0 (c := .eq) (off := 20) (l := 3) rfl rfl (fun h5 => ?_) (fun h5 => ?_)
  · have g5 := xt_eq h5
    exfalso; first | exact absurd g5 (by decide) | (simp (disch := omega) only [Int32.lt_iff_toInt_lt, Int32.le_iff_toInt_le, nI_toInt, Int32.reduceToInt] at g5 <;> omega)
  · have g5 := xf_eq h5
    refine xS.s1 rfl rfl ?_
    try dsimp only [Nat.reduceAdd]
    -- 9 yX11_isRow
    refine xS.callS rfl rfl rfl ⟨Nat.le_of_ble_eq_true rfl, rfl⟩ (c_X11_isRow_in ht) (fun v M1 hv => ?_)
    rw [hv.1, hv.2]
    clear hv M1 v
    try dsimp only [Nat.reduceAdd, Option.toList, List.cons_append, List.nil_append, List.drop]
    refine xS.br0 (c := .eq) (off := 13) (l := 3) rfl rfl (fun h12 => ?_) (fun h12 => ?_)
    · have g12 := xt_eq h12
      exfalso; first | exact absurd g12 (by decide) | (simp (disch := omega) only [Int32.lt_iff_toInt_lt, Int32.le_iff_toInt_le, nI_toInt, Int32.reduceToInt] at g12 <;> omega)
    · have g12 := xf_eq h12
      refine xS.s1 rfl rfl ?_
      try dsimp only [Nat.reduceAdd]
      refine xS.br0 (c := .lt) (off := 9) (l := 3) rfl rfl (fun h16 => ?_) (fun h16 => ?_)
      · have g16 := xt_lt h16
        exfalso; first | exact absurd g16 (by decide) | (simp (disch := omega) only [Int32.lt_iff_toInt_lt, Int32.le_iff_toInt_le, nI_toInt, Int32.reduceToInt] at g16 <;> omega)
      · have g16 := xf_lt h16
        refine xS.s1 rfl rfl ?_
        try dsimp only [Nat.reduceAdd]
        refine xS.s1 rfl rfl ?_
        try dsimp only [Nat.reduceAdd, xj_12]
        refine xS.br (c := .le) (off := 5) (l := 3) rfl rfl (fun h22 => ?_) (fun h22 => ?_)
        · have g22 := xt_le h22
          refine xS.s1 rfl rfl ?_
          try dsimp only [Nat.reduceAdd]
          refine xS.gR rfl rfl rfl ⟨by decide, rfl⟩ rfl ?_
          try dsimp only [Nat.reduceAdd]
          refine xS.s1 rfl rfl ?_
          try dsimp only [Nat.reduceAdd]
          refine xS.aR rfl rfl (by decide) (by omega) (xsh1_get (by omega)) ?_
          try dsimp only [Nat.reduceAdd]
          refine xS.s1 rfl rfl ?_
          try dsimp only [Nat.reduceAdd, xj_12]
          -- 35 yX11_findingOfSteps
          refine xS.callS rfl rfl rfl ⟨Nat.le_of_ble_eq_true rfl, rfl⟩ (c_X11_findingOfSteps (xce_row ht) hz (by decide)) (fun v M1 hv => ?_)
          rw [hv.1, hv.2, hf]
          clear hv M1 v
          try dsimp only [Nat.reduceAdd, Option.toList, List.cons_append, List.nil_append, List.drop]
          refine xS.s1 rfl rfl ?_
          try dsimp only [Nat.reduceAdd]
          refine xS.s1 rfl rfl ?_
          try dsimp only [Nat.reduceAdd]
          refine xS.br0 (c := .eq) (off := 10) (l := 3) rfl rfl (fun h42 => ?_) (fun h42 => ?_)
          · have g42 := xt_eq h42
            refine xS.s1 rfl rfl ?_
            try dsimp only [Nat.reduceAdd]
            refine xS.s1 rfl rfl ?_
            try dsimp only [Nat.reduceAdd]
            refine xS.s1 rfl rfl ?_
            try dsimp only [Nat.reduceAdd, xi_0]
            refine xS.s1 rfl rfl ?_
            try dsimp only [Nat.reduceAdd]
            refine xS.pick [0, 1, 3, 4, 5, 6] rfl ?_
            refine xS.loop (σ := Unit) (m) (fun j S => [(7, .int (nI j)), (5, .long (lN (xsm (fun i => xbt (xfb (g (b.1 + 3)) T (g (23 + 2 * t + 1) i) 0 = none) (xfb (g (b.1 + 3)) T (g (23 + 2 * t + 1) i) (xshw (g (b.1 + 1)) (Lw s / 4) (Lw s % 4) (fun i => xN (g (23 + 2 * t + 1) i)) i) = none) e1) j))), (0, .ref 0), (1, .int (nI s)), (2, .int (nI t)), (3, .int (nI e1))]) (fun _ _ => xH b g l) (fun _ _ => True) (()) (rfl) (rfl) (trivial) ?_
            intro j S hj hI ih
            try dsimp only
            have hb1 := xsm_le (f := (fun i => xbt (xfb (g (b.1 + 3)) T (g (23 + 2 * t + 1) i) 0 = none) (xfb (g (b.1 + 3)) T (g (23 + 2 * t + 1) i) (xshw (g (b.1 + 1)) (Lw s / 4) (Lw s % 4) (fun i => xN (g (23 + 2 * t + 1) i)) i) = none) e1)) (q := 12) (fun i => xbt_le he) j
            refine xS.s1 rfl rfl ?_
            try dsimp only [Nat.reduceAdd]
            refine xS.s1 rfl rfl ?_
            try dsimp only [Nat.reduceAdd]
            refine xS.gR rfl rfl rfl ⟨by decide, rfl⟩ rfl ?_
            try dsimp only [Nat.reduceAdd]
            refine xS.s1 rfl rfl ?_
            try dsimp only [Nat.reduceAdd]
            refine xS.aR rfl rfl (by decide) (by omega) (xsh1_get (by omega)) ?_
            try dsimp only [Nat.reduceAdd]
            -- 66 yX0_size
            refine xS.cv rfl rfl rfl ((xce_row (r := t) (by omega)).1 _) rfl rfl ⟨by decide, rfl, rfl⟩ (c_X0_size (xce_row ht)) (fun v M1 hv => ?_)
            rw [hv.1, hv.2, hs]
            clear hv M1 v
            try dsimp only [Nat.reduceAdd, Option.toList, List.cons_append, List.nil_append, List.drop]
            refine xS.br (c := .ge) (off := 33) (l := 3) rfl rfl (fun h69 => ?_) (fun h69 => ?_)
            · have g69 := xt_ge h69
              have e := xnle g69 (by omega) (by omega)
              have e2 : m = j := by omega
              subst e2
              refine xS.s1 rfl rfl ?_
              try dsimp only [Nat.reduceAdd]
              refine xS.s1 rfl rfl ?_
              try dsimp only [Nat.reduceAdd]
              refine xS.s1 rfl rfl ?_
              try dsimp only [Nat.reduceAdd]
              -- 108 yX11_tell
              refine xS.cv rfl rfl rfl rfl rfl rfl ⟨by decide, rfl, rfl⟩ (c_X11_tell (p := xsm (fun i => xbt (xfb (g (b.1 + 3)) T (g (23 + 2 * t + 1) i) 0 = none) (xfb (g (b.1 + 3)) T (g (23 + 2 * t + 1) i) (xshw (g (b.1 + 1)) (Lw s / 4) (Lw s % 4) (fun i => xN (g (23 + 2 * t + 1) i)) i) = none) e1) m) (d := 12) (by omega) (by omega) (by omega) (by omega)) (fun v M1 hv => ?_)
              rw [hv.1, hv.2]
              clear hv M1 v
              try dsimp only [Nat.reduceAdd, Option.toList, List.cons_append, List.nil_append, List.drop]
              refine xS.s1 rfl rfl ?_
              try dsimp only [Nat.reduceAdd, xi_1]
              refine xS.ret rfl rfl rfl (fun _ _ => rfl) ?_
              exact ⟨rfl, rfl⟩
            · have g69 := xf_ge h69
              have hlt := xnlt g69 (by omega) (by omega)
              refine xS.s1 rfl rfl ?_
              try dsimp only [Nat.reduceAdd]
              refine xS.s1 rfl rfl ?_
              try dsimp only [Nat.reduceAdd]
              refine xS.s1 rfl rfl ?_
              try dsimp only [Nat.reduceAdd]
              refine xS.s1 rfl rfl ?_
              try dsimp only [Nat.reduceAdd]
              -- 77 yX11_paneOf
              refine xS.cv rfl rfl rfl rfl rfl rfl ⟨by decide, rfl, rfl⟩ (c_X11_paneOf hb hR hk) (fun v M1 hv => ?_)
              rw [hv.1, hv.2]
              clear hv M1 v
              try dsimp only [Nat.reduceAdd, Option.toList, List.cons_append, List.nil_append, List.drop]
              refine xS.s1 rfl rfl ?_
              try dsimp only [Nat.reduceAdd]
              refine xS.gR rfl rfl rfl ⟨by decide, rfl⟩ rfl ?_
              try dsimp only [Nat.reduceAdd]
              refine xS.s1 rfl rfl ?_
              try dsimp only [Nat.reduceAdd]
              refine xS.aR rfl rfl (by decide) (by omega) (xsh1_get (by omega)) ?_
              try dsimp only [Nat.reduceAdd]
              refine xS.s1 rfl rfl ?_
              try dsimp only [Nat.reduceAdd]
              refine xS.s1 rfl rfl ?_
              try dsimp only [Nat.reduceAdd]
              -- 89 yX11_breakingOfTwelve
              refine xS.cv rfl rfl rfl rfl rfl rfl ⟨by decide, rfl, rfl⟩ (c_X11_breakingOfTwelve hb hR hp (hR.2.2.1 s hk).2 (xce_row ht) hs (by omega) hx hlt) (fun v M1 hv => ?_)
              rw [hv.1, hv.2, xbt_e he]
              clear hv M1 v
              have hbt : (xbt (xfb (g (b.1 + 3)) T (g (23 + 2 * t + 1) j) 0 = none) (xfb (g (b.1 + 3)) T (g (23 + 2 * t + 1) j) (xshw (g (b.1 + 1)) (Lw s / 4) (Lw s % 4) (fun i => xN (g (23 + 2 * t + 1) i)) j) = none) e1) ≤ 12 := xbt_le he
              try dsimp only [Nat.reduceAdd, Option.toList, List.cons_append, List.nil_append, List.drop]
              refine xS.s1 rfl rfl ?_
              try dsimp only [Nat.reduceAdd]
              refine xS.s1 rfl rfl ?_
              try dsimp only [Nat.reduceAdd]
              rw [nI_l (by omega), lN_add]
              refine xS.s1 rfl rfl ?_
              try dsimp only [Nat.reduceAdd]
              refine xS.s1 rfl rfl ?_
              try dsimp only [Nat.reduceAdd, xi_1]
              rw [nI_1]
              refine xS.s1 rfl rfl ?_
              try dsimp only [Nat.reduceAdd]
              refine xS.pick [0, 1, 2, 3, 4, 5] rfl ?_
              exact ih () (by omega) trivial
          · have g42 := xf_eq h42
            exfalso; first | exact absurd g42 (by decide) | (simp (disch := omega) only [Int32.lt_iff_toInt_lt, Int32.le_iff_toInt_le, nI_toInt, Int32.reduceToInt] at g42 <;> omega)
        · have g22 := xf_le h22
          exfalso; first | exact absurd g22 (by decide) | (simp (disch := omega) only [Int32.lt_iff_toInt_lt, Int32.le_iff_toInt_le, nI_toInt, Int32.reduceToInt] at g22 <;> omega)

set_option maxRecDepth 10000 in
theorem c_X11_asked  : xT (k + 1) 115 [.ref 0] (xH b g l) (fun r M' => M' = xH b g l ∧ r = some (.int (g 0 11))) := by
  refine xT.of rfl (Nat.le_of_ble_eq_true rfl) ?_
  change xS _ _ 0 [(0, .ref 0)] [] _ _
  refine xS.s1 rfl rfl ?_
  try dsimp only [Nat.reduceAdd]
  refine xS.gI rfl rfl rfl ⟨by decide, rfl⟩ rfl ?_
  try dsimp only [Nat.reduceAdd]
  refine xS.ret rfl rfl rfl (fun _ _ => rfl) ?_
  exact ⟨rfl, rfl⟩

set_option maxRecDepth 10000 in
theorem c_X11_upper  : xT (k + 1) 116 [.ref 0] (xH b g l) (fun r M' => M' = xH b g l ∧ r = some (.long (l 0 12))) := by
  refine xT.of rfl (Nat.le_of_ble_eq_true rfl) ?_
  change xS _ _ 0 [(0, .ref 0)] [] _ _
  refine xS.s1 rfl rfl ?_
  try dsimp only [Nat.reduceAdd]
  refine xS.gL rfl rfl rfl ⟨by decide, rfl⟩ rfl ?_
  try dsimp only [Nat.reduceAdd]
  refine xS.ret rfl rfl rfl (fun _ _ => rfl) ?_
  exact ⟨rfl, rfl⟩

set_option maxRecDepth 10000 in
theorem c_X11_lower  : xT (k + 1) 117 [.ref 0] (xH b g l) (fun r M' => M' = xH b g l ∧ r = some (.long (l 0 13))) := by
  refine xT.of rfl (Nat.le_of_ble_eq_true rfl) ?_
  change xS _ _ 0 [(0, .ref 0)] [] _ _
  refine xS.s1 rfl rfl ?_
  try dsimp only [Nat.reduceAdd]
  refine xS.gL rfl rfl rfl ⟨by decide, rfl⟩ rfl ?_
  try dsimp only [Nat.reduceAdd]
  refine xS.ret rfl rfl rfl (fun _ _ => rfl) ?_
  exact ⟨rfl, rfl⟩

set_option maxRecDepth 10000 in
theorem c_X11_finding  : xT (k + 1) 119 [.ref 0] (xH b g l) (fun r M' => M' = xH b g l ∧ r = some (.int (g 0 14))) := by
  refine xT.of rfl (Nat.le_of_ble_eq_true rfl) ?_
  change xS _ _ 0 [(0, .ref 0)] [] _ _
  refine xS.s1 rfl rfl ?_
  try dsimp only [Nat.reduceAdd]
  refine xS.gI rfl rfl rfl ⟨by decide, rfl⟩ rfl ?_
  try dsimp only [Nat.reduceAdd]
  refine xS.ret rfl rfl rfl (fun _ _ => rfl) ?_
  exact ⟨rfl, rfl⟩

theorem nI_1le {x : Int32} (h : 1 ≤ x ∧ x ≤ 5) : ∃ t, 1 ≤ t ∧ t ≤ 5 ∧ x = nI t := by
  obtain ⟨j, hj, rfl⟩ := nI_of (x := x) (by have := h.1; intro z; rw [Int32.lt_iff_toInt_lt] at z; rw [Int32.le_iff_toInt_le] at this; have e0 : (0 : Int32).toInt = 0 := rfl; have e1 : (1 : Int32).toInt = 1 := rfl; omega)
  exact ⟨j, (nI_leI (a := 1) (by omega) hj).mp h.1, (nI_leI (b := 5) hj (by omega)).mp h.2, rfl⟩

set_option maxRecDepth 10000 in
theorem c_X11_findings_bad (hx : ¬ (1 ≤ x ∧ x ≤ 5)) : xT (k + 1) 120 [.ref 0, .int x] (xH b g l) (fun r M' => M' = xH b g l ∧ r = some (.int (-1))) := by
  refine xT.of rfl (Nat.le_of_ble_eq_true rfl) ?_
  change xS _ _ 0 [(0, .ref 0), (1, .int x)] [] _ _
  refine xS.s1 rfl rfl ?_
  try dsimp only [Nat.reduceAdd]
  refine xS.s1 rfl rfl ?_
  try dsimp only [Nat.reduceAdd, xi_1]
  refine xS.br (c := .lt) (off := 8) (l := 3) rfl rfl (fun h2 => ?_) (fun h2 => ?_)
  · have g2 := xt_lt h2
    refine xS.s1 rfl rfl ?_
    try dsimp only [Nat.reduceAdd, xi_m1]
    refine xS.s1 rfl rfl ?_
    try dsimp only [Nat.reduceAdd]
    refine xS.ret rfl rfl rfl (fun _ _ => rfl) ?_
    exact ⟨rfl, rfl⟩
  · have g2 := xf_lt h2
    refine xS.s1 rfl rfl ?_
    try dsimp only [Nat.reduceAdd]
    refine xS.s1 rfl rfl ?_
    try dsimp only [Nat.reduceAdd, xi_5]
    refine xS.br (c := .le) (off := 7) (l := 3) rfl rfl (fun h7 => ?_) (fun h7 => ?_)
    · have g7 := xt_le h7
      exact absurd ⟨g2, g7⟩ hx
    · have g7 := xf_le h7
      refine xS.s1 rfl rfl ?_
      try dsimp only [Nat.reduceAdd, xi_m1]
      refine xS.s1 rfl rfl ?_
      try dsimp only [Nat.reduceAdd]
      refine xS.ret rfl rfl rfl (fun _ _ => rfl) ?_
      exact ⟨rfl, rfl⟩

set_option maxRecDepth 10000 in
theorem c_X11_findings_ok (ht1 : 1 ≤ t) (ht : t ≤ 5) : xT (k + 1) 120 [.ref 0, .int (nI t)] (xH b g l) (fun r M' => M' = xH b g l ∧ r = some (.int (g 22 t))) := by
  refine xT.of rfl (Nat.le_of_ble_eq_true rfl) ?_
  change xS _ _ 0 [(0, .ref 0), (1, .int (nI t))] [] _ _
  refine xS.s1 rfl rfl ?_
  try dsimp only [Nat.reduceAdd]
  refine xS.s1 rfl rfl ?_
  try dsimp only [Nat.reduceAdd, xi_1]
  refine xS.br (c := .lt) (off := 8) (l := 3) rfl rfl (fun h2 => ?_) (fun h2 => ?_)
  · have g2 := xt_lt h2
    exfalso; first | exact absurd g2 (by decide) | (simp (disch := omega) only [Int32.lt_iff_toInt_lt, Int32.le_iff_toInt_le, nI_toInt, Int32.reduceToInt] at g2 <;> omega)
  · have g2 := xf_lt h2
    refine xS.s1 rfl rfl ?_
    try dsimp only [Nat.reduceAdd]
    refine xS.s1 rfl rfl ?_
    try dsimp only [Nat.reduceAdd, xi_5]
    refine xS.br (c := .le) (off := 7) (l := 3) rfl rfl (fun h7 => ?_) (fun h7 => ?_)
    · have g7 := xt_le h7
      refine xS.s1 rfl rfl ?_
      try dsimp only [Nat.reduceAdd]
      refine xS.gR rfl rfl rfl ⟨by decide, rfl⟩ rfl ?_
      try dsimp only [Nat.reduceAdd]
      refine xS.s1 rfl rfl ?_
      try dsimp only [Nat.reduceAdd]
      refine xS.ia rfl xar_22 (by omega) ?_
      try dsimp only [Nat.reduceAdd]
      refine xS.ret rfl rfl rfl (fun _ _ => rfl) ?_
      exact ⟨rfl, rfl⟩
    · have g7 := xf_le h7
      exfalso; first | exact absurd g7 (by decide) | (simp (disch := omega) only [Int32.lt_iff_toInt_lt, Int32.le_iff_toInt_le, nI_toInt, Int32.reduceToInt] at g7 <;> omega)

set_option maxRecDepth 10000 in
theorem c_X11_count_0 (hb : xro b.1) (hR : xRm g b.1 G T Lw) (hp : xpn g) (hs : g 4 1 = nI m) (hm : m ≤ 40) : xT (k + 4) 118 [.ref 0, .int (nI 0)] (xH b g l) (fun r M' => M' = xH b g l ∧ r = some (.int (nI G))) := by
  refine xT.of rfl (Nat.le_of_ble_eq_true rfl) ?_
  change xS _ _ 0 [(0, .ref 0), (1, .int (nI 0))] [] _ _
  refine xS.s1 rfl rfl ?_
  try dsimp only [Nat.reduceAdd]
  refine xS.s1 rfl rfl ?_
  try dsimp only [Nat.reduceAdd]
  refine xS.s1 rfl rfl ?_
  try dsimp only [Nat.reduceAdd]
  refine xS.gR rfl rfl rfl ⟨by decide, rfl⟩ rfl ?_
  try dsimp only [Nat.reduceAdd]
  -- 56 yX8_glasses
  refine xS.cv rfl rfl rfl (hb.1 _) rfl rfl ⟨by decide, rfl, rfl⟩ (c_X8_glasses hb) (fun v M1 hv => ?_)
  rw [hv.1, hv.2, hR.1.1]
  clear hv M1 v
  try dsimp only [Nat.reduceAdd, Option.toList, List.cons_append, List.nil_append, List.drop]
  refine xS.ret rfl rfl rfl (fun _ _ => rfl) ?_
  exact ⟨rfl, rfl⟩

set_option maxRecDepth 10000 in
theorem c_X11_count_1 (hb : xro b.1) (hR : xRm g b.1 G T Lw) (hp : xpn g) (hs : g 4 1 = nI m) (hm : m ≤ 40) : xT (k + 4) 118 [.ref 0, .int (nI 1)] (xH b g l) (fun r M' => M' = xH b g l ∧ r = some (.int (nI T))) := by
  refine xT.of rfl (Nat.le_of_ble_eq_true rfl) ?_
  change xS _ _ 0 [(0, .ref 0), (1, .int (nI 1))] [] _ _
  refine xS.s1 rfl rfl ?_
  try dsimp only [Nat.reduceAdd]
  refine xS.s1 rfl rfl ?_
  try dsimp only [Nat.reduceAdd]
  refine xS.s1 rfl rfl ?_
  try dsimp only [Nat.reduceAdd]
  refine xS.gR rfl rfl rfl ⟨by decide, rfl⟩ rfl ?_
  try dsimp only [Nat.reduceAdd]
  -- 64 yX8_terms
  refine xS.cv rfl rfl rfl (hb.1 _) rfl rfl ⟨by decide, rfl, rfl⟩ (c_X8_terms hb) (fun v M1 hv => ?_)
  rw [hv.1, hv.2, hR.2.1.1]
  clear hv M1 v
  try dsimp only [Nat.reduceAdd, Option.toList, List.cons_append, List.nil_append, List.drop]
  refine xS.ret rfl rfl rfl (fun _ _ => rfl) ?_
  exact ⟨rfl, rfl⟩

set_option maxRecDepth 10000 in
theorem c_X11_count_2 (hb : xro b.1) (hR : xRm g b.1 G T Lw) (hp : xpn g) (hs : g 4 1 = nI m) (hm : m ≤ 40) : xT (k + 4) 118 [.ref 0, .int (nI 2)] (xH b g l) (fun r M' => M' = xH b g l ∧ r = some (.int (nI m))) := by
  refine xT.of rfl (Nat.le_of_ble_eq_true rfl) ?_
  change xS _ _ 0 [(0, .ref 0), (1, .int (nI 2))] [] _ _
  refine xS.s1 rfl rfl ?_
  try dsimp only [Nat.reduceAdd]
  refine xS.s1 rfl rfl ?_
  try dsimp only [Nat.reduceAdd]
  refine xS.s1 rfl rfl ?_
  try dsimp only [Nat.reduceAdd]
  refine xS.gR rfl rfl rfl ⟨by decide, rfl⟩ rfl ?_
  try dsimp only [Nat.reduceAdd]
  -- 72 yX2_size
  refine xS.cv rfl rfl rfl (xde_deeds.1 _) rfl rfl ⟨by decide, rfl, rfl⟩ (c_X2_size xde_deeds) (fun v M1 hv => ?_)
  rw [hv.1, hv.2, hs]
  clear hv M1 v
  try dsimp only [Nat.reduceAdd, Option.toList, List.cons_append, List.nil_append, List.drop]
  refine xS.ret rfl rfl rfl (fun _ _ => rfl) ?_
  exact ⟨rfl, rfl⟩

set_option maxRecDepth 10000 in
theorem c_X11_count_3 (hb : xro b.1) (hR : xRm g b.1 G T Lw) (hp : xpn g) (hs : g 4 1 = nI m) (hm : m ≤ 40) : xT (k + 4) 118 [.ref 0, .int (nI 3)] (xH b g l) (fun r M' => M' = xH b g l ∧ r = some (.int (nI (xcnt (fun d => !decide (g 5 (4 * d + 3) = -9)) m)))) := by
  refine xT.of rfl (Nat.le_of_ble_eq_true rfl) ?_
  change xS _ _ 0 [(0, .ref 0), (1, .int (nI 3))] [] _ _
  refine xS.s1 rfl rfl ?_
  try dsimp only [Nat.reduceAdd]
  refine xS.s1 rfl rfl ?_
  try dsimp only [Nat.reduceAdd]
  refine xS.s1 rfl rfl ?_
  try dsimp only [Nat.reduceAdd]
  refine xS.gR rfl rfl rfl ⟨by decide, rfl⟩ rfl ?_
  try dsimp only [Nat.reduceAdd]
  refine xS.s1 rfl rfl ?_
  try dsimp only [Nat.reduceAdd, xi_0]
  -- 81 yX2_howManyBroke
  refine xS.cv rfl rfl rfl (xde_deeds.1 _) rfl rfl ⟨by decide, rfl, rfl⟩ (c_X2_howManyBroke (s := 0) xde_deeds hs hm (by omega)) (fun v M1 hv => ?_)
  rw [hv.1, hv.2]
  clear hv M1 v
  rw [show (fun d => !decide (g (4 + 1) (4 * (0 + d) + 3) = -9)) = (fun d => !decide (g 5 (4 * d + 3) = -9)) from by funext d; rw [Nat.zero_add], Nat.sub_zero]
  try dsimp only [Nat.reduceAdd, Option.toList, List.cons_append, List.nil_append, List.drop]
  refine xS.ret rfl rfl rfl (fun _ _ => rfl) ?_
  exact ⟨rfl, rfl⟩

set_option maxRecDepth 10000 in
theorem c_X11_count_4 (hb : xro b.1) (hR : xRm g b.1 G T Lw) (hp : xpn g) (hs : g 4 1 = nI m) (hm : m ≤ 40) : xT (k + 4) 118 [.ref 0, .int (nI 4)] (xH b g l) (fun r M' => M' = xH b g l ∧ r = some (.int (nI (xcnt (fun k => xiso (Lw k / 4) 1) G)))) := by
  refine xT.of rfl (Nat.le_of_ble_eq_true rfl) ?_
  change xS _ _ 0 [(0, .ref 0), (1, .int (nI 4))] [] _ _
  refine xS.s1 rfl rfl ?_
  try dsimp only [Nat.reduceAdd]
  refine xS.s1 rfl rfl ?_
  try dsimp only [Nat.reduceAdd]
  refine xS.s1 rfl rfl ?_
  try dsimp only [Nat.reduceAdd]
  refine xS.s1 rfl rfl ?_
  try dsimp only [Nat.reduceAdd, xi_1]
  -- 87 yX11_glassesOf
  refine xS.cv rfl rfl rfl rfl rfl rfl ⟨by decide, rfl, rfl⟩ (c_X11_glassesOf hb hR hp) (fun v M1 hv => ?_)
  rw [hv.1, hv.2]
  clear hv M1 v
  try dsimp only [Nat.reduceAdd, Option.toList, List.cons_append, List.nil_append, List.drop]
  refine xS.ret rfl rfl rfl (fun _ _ => rfl) ?_
  exact ⟨rfl, rfl⟩

set_option maxRecDepth 10000 in
theorem c_X11_count_5 (hb : xro b.1) (hR : xRm g b.1 G T Lw) (hp : xpn g) (hs : g 4 1 = nI m) (hm : m ≤ 40) : xT (k + 4) 118 [.ref 0, .int (nI 5)] (xH b g l) (fun r M' => M' = xH b g l ∧ r = some (.int (nI (xcnt (fun k => xiso (Lw k / 4) 2) G)))) := by
  refine xT.of rfl (Nat.le_of_ble_eq_true rfl) ?_
  change xS _ _ 0 [(0, .ref 0), (1, .int (nI 5))] [] _ _
  refine xS.s1 rfl rfl ?_
  try dsimp only [Nat.reduceAdd]
  refine xS.s1 rfl rfl ?_
  try dsimp only [Nat.reduceAdd]
  refine xS.s1 rfl rfl ?_
  try dsimp only [Nat.reduceAdd]
  refine xS.s1 rfl rfl ?_
  try dsimp only [Nat.reduceAdd, xi_2]
  -- 93 yX11_glassesOf
  refine xS.cv rfl rfl rfl rfl rfl rfl ⟨by decide, rfl, rfl⟩ (c_X11_glassesOf hb hR hp) (fun v M1 hv => ?_)
  rw [hv.1, hv.2]
  clear hv M1 v
  try dsimp only [Nat.reduceAdd, Option.toList, List.cons_append, List.nil_append, List.drop]
  refine xS.ret rfl rfl rfl (fun _ _ => rfl) ?_
  exact ⟨rfl, rfl⟩

set_option maxRecDepth 10000 in
theorem c_X11_count_6 (hb : xro b.1) (hR : xRm g b.1 G T Lw) (hp : xpn g) (hs : g 4 1 = nI m) (hm : m ≤ 40) : xT (k + 4) 118 [.ref 0, .int (nI 6)] (xH b g l) (fun r M' => M' = xH b g l ∧ r = some (.int (nI (xcnt (fun k => !decide (g (23 + 2 * k) 1 = -1)) 6)))) := by
  refine xT.of rfl (Nat.le_of_ble_eq_true rfl) ?_
  change xS _ _ 0 [(0, .ref 0), (1, .int (nI 6))] [] _ _
  refine xS.s1 rfl rfl ?_
  try dsimp only [Nat.reduceAdd]
  refine xS.s1 rfl rfl ?_
  try dsimp only [Nat.reduceAdd]
  refine xS.s1 rfl rfl ?_
  try dsimp only [Nat.reduceAdd]
  refine xS.gR rfl rfl rfl ⟨by decide, rfl⟩ rfl ?_
  try dsimp only [Nat.reduceAdd]
  -- 101 yX11_howManyThere
  refine xS.callS rfl rfl rfl ⟨Nat.le_of_ble_eq_true rfl, rfl⟩ c_X11_howManyThere_rows (fun v M1 hv => ?_)
  rw [hv.1, hv.2]
  clear hv M1 v
  try dsimp only [Nat.reduceAdd, Option.toList, List.cons_append, List.nil_append, List.drop]
  refine xS.ret rfl rfl rfl (fun _ _ => rfl) ?_
  exact ⟨rfl, rfl⟩

set_option maxRecDepth 10000 in
theorem c_X11_count_7 (hb : xro b.1) (hR : xRm g b.1 G T Lw) (hp : xpn g) (hs : g 4 1 = nI m) (hm : m ≤ 40) : xT (k + 4) 118 [.ref 0, .int (nI 7)] (xH b g l) (fun r M' => M' = xH b g l ∧ r = some (.int (nI (xcnt (fun k => !decide (g (35 + 2 * k) 1 = -1)) 4)))) := by
  refine xT.of rfl (Nat.le_of_ble_eq_true rfl) ?_
  change xS _ _ 0 [(0, .ref 0), (1, .int (nI 7))] [] _ _
  refine xS.s1 rfl rfl ?_
  try dsimp only [Nat.reduceAdd]
  refine xS.s1 rfl rfl ?_
  try dsimp only [Nat.reduceAdd]
  refine xS.s1 rfl rfl ?_
  try dsimp only [Nat.reduceAdd]
  refine xS.gR rfl rfl rfl ⟨by decide, rfl⟩ rfl ?_
  try dsimp only [Nat.reduceAdd]
  -- 109 yX11_howManyThere
  refine xS.callS rfl rfl rfl ⟨Nat.le_of_ble_eq_true rfl, rfl⟩ c_X11_howManyThere_texts (fun v M1 hv => ?_)
  rw [hv.1, hv.2]
  clear hv M1 v
  try dsimp only [Nat.reduceAdd, Option.toList, List.cons_append, List.nil_append, List.drop]
  refine xS.ret rfl rfl rfl (fun _ _ => rfl) ?_
  exact ⟨rfl, rfl⟩

set_option maxRecDepth 10000 in
theorem c_X11_count_8 (hb : xro b.1) (hR : xRm g b.1 G T Lw) (hp : xpn g) (hs : g 4 1 = nI m) (hm : m ≤ 40) : xT (k + 4) 118 [.ref 0, .int (nI 8)] (xH b g l) (fun r M' => M' = xH b g l ∧ r = some (.int (nI (xcnt (fun k => !decide (g (67 + 2 * k) 1 = -1)) 3)))) := by
  refine xT.of rfl (Nat.le_of_ble_eq_true rfl) ?_
  change xS _ _ 0 [(0, .ref 0), (1, .int (nI 8))] [] _ _
  refine xS.s1 rfl rfl ?_
  try dsimp only [Nat.reduceAdd]
  refine xS.s1 rfl rfl ?_
  try dsimp only [Nat.reduceAdd]
  refine xS.s1 rfl rfl ?_
  try dsimp only [Nat.reduceAdd]
  -- 114 yX11_keptOnes
  refine xS.cv rfl rfl rfl rfl rfl rfl ⟨by decide, rfl, rfl⟩ c_X11_keptOnes (fun v M1 hv => ?_)
  rw [hv.1, hv.2]
  clear hv M1 v
  try dsimp only [Nat.reduceAdd, Option.toList, List.cons_append, List.nil_append, List.drop]
  refine xS.ret rfl rfl rfl (fun _ _ => rfl) ?_
  exact ⟨rfl, rfl⟩

def xct (g : Nat → Nat → Int32) (G T m : Nat) (Lw : Nat → Nat) (t : Nat) : Int32 := if t = 0 then nI G else if t = 1 then nI T else if t = 2 then nI m else if t = 3 then nI (xcnt (fun d => !decide (g 5 (4 * d + 3) = -9)) m) else if t = 4 then nI (xcnt (fun k => xiso (Lw k / 4) 1) G) else if t = 5 then nI (xcnt (fun k => xiso (Lw k / 4) 2) G) else if t = 6 then nI (xcnt (fun k => !decide (g (23 + 2 * k) 1 = -1)) 6) else if t = 7 then nI (xcnt (fun k => !decide (g (35 + 2 * k) 1 = -1)) 4) else nI (xcnt (fun k => !decide (g (67 + 2 * k) 1 = -1)) 3)
theorem c_X11_count (hb : xro b.1) (hR : xRm g b.1 G T Lw) (hp : xpn g) (hs : g 4 1 = nI m) (hm : m ≤ 40) : ∀ {t : Nat}, t < 9 → xT (k + 4) 118 [.ref 0, .int (nI t)] (xH b g l) (fun r M' => M' = xH b g l ∧ r = some (.int (xct g G T m Lw t)))
  | 0, _ => c_X11_count_0 hb hR hp hs hm
  | 1, _ => c_X11_count_1 hb hR hp hs hm
  | 2, _ => c_X11_count_2 hb hR hp hs hm
  | 3, _ => c_X11_count_3 hb hR hp hs hm
  | 4, _ => c_X11_count_4 hb hR hp hs hm
  | 5, _ => c_X11_count_5 hb hR hp hs hm
  | 6, _ => c_X11_count_6 hb hR hp hs hm
  | 7, _ => c_X11_count_7 hb hR hp hs hm
  | 8, _ => c_X11_count_8 hb hR hp hs hm
  | _ + 9, h => absurd h (by omega)
theorem xS.tsd {q : xQ} {k pc l0 t : Nat} {d lo hi : Int} {offs : Array Int} {lv : xL} {rest : List Value} {P : Option Value → xM → Prop} {M : xM} {x : Int32} (hl : xe_lkF q.1 pc = some (.tableswitch d lo hi offs, l0)) (hx : x.toInt < lo ∨ hi < x.toInt) (ht : xe_tg pc d = some t) (h : xS q k t lv rest M P) : xS q k pc lv (.int x :: rest) M P := by
  refine xS.s1 (f := (t, lv, rest)) hl ?_ h
  show xa_tableswitch d lo hi offs [] pc lv (.int x :: rest) = _
  unfold xa_tableswitch
  dsimp only
  rw [if_pos hx, ht]
  rfl

set_option maxRecDepth 10000 in
theorem c_X11_count_bad (hx : ¬ (0 ≤ x ∧ x < 9)) : xT (k + 4) 118 [.ref 0, .int x] (xH b g l) (fun r M' => M' = xH b g l ∧ r = some (.int (-1))) := by
  refine xT.of rfl (Nat.le_of_ble_eq_true rfl) ?_
  change xS _ _ 0 [(0, .ref 0), (1, .int x)] [] _ _
  refine xS.s1 rfl rfl ?_
  try dsimp only [Nat.reduceAdd]
  refine xS.tsd (t := 118) rfl (by simp only [Int32.le_iff_toInt_le, Int32.lt_iff_toInt_lt, Int32.reduceToInt] at hx; omega) rfl ?_
  try dsimp only [Nat.reduceAdd]
  refine xS.s1 rfl rfl ?_
  try dsimp only [Nat.reduceAdd, xi_m1]
  refine xS.ret rfl rfl rfl (fun _ _ => rfl) ?_
  exact ⟨rfl, rfl⟩

end
