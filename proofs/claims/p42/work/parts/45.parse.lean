/-! the parser's words -/
def xfv (x : Int32) : Nat := (x.toInt - 48).toNat
theorem xfv_nI {v : Nat} (h : v < 1000) : xfv (nI (48 + v)) = v := by
  unfold xfv
  rw [nI_toInt (by omega)]
  omega
theorem xfv_e {f : Nat → Int32} {m i t : Nat} (ht : t ≤ 6) (h : xfg f m i t) : xfv (f i) < t ∧ f i = nI (48 + xfv (f i)) := by
  obtain ⟨v, h1, h2⟩ := xfg_v ht h
  rw [h2, xfv_nI (by omega)]
  exact ⟨h1, rfl⟩
theorem xfv_s {f : Nat → Int32} {m i t : Nat} (ht : t ≤ 6) (h : xfg f m i t) : f i - 48 = nI (xfv (f i)) := by
  have h1 := xfv_e ht h
  conv => lhs; rw [h1.2]
  show nI (48 + xfv (f i)) - nI 48 = _
  rw [pk_sub (by omega)]
  congr 1
  omega
def uf {α : Type} (f : Nat → α) (i : Nat) (v : α) : Nat → α := fun j => if j = i then v else f j
theorem uf_i {α : Type} {f : Nat → α} {i : Nat} {v : α} : uf f i v i = v := if_pos rfl
theorem uf_n {α : Type} {f : Nat → α} {i j : Nat} {v : α} (h : j ≠ i) : uf f i v j = f j := if_neg h
abbrev xPR : Type := Option Nat × Nat × Nat × (Nat → Nat) × (Nat → Int32)
def xbd (i : Nat) : xPR := (some i, 0, 0, fun _ => 0, fun _ => 0)
def xfgb (f : Nat → Int32) (n i t : Nat) : Bool := decide (i < n ∧ nI 48 ≤ f i ∧ f i < nI (48 + t))
theorem xfgb_t {f : Nat → Int32} {n i t : Nat} (h : xfg f n i t) : xfgb f n i t = true := decide_eq_true h
theorem xfgb_f {f : Nat → Int32} {n i t : Nat} (h : ¬ xfg f n i t) : xfgb f n i t = false := decide_eq_false h
def xpi1 (f : Nat → Int32) (n : Nat) (ih : Nat → Nat → Nat → (Nat → Nat) → (Nat → Int32) → xPR) (i G T : Nat) (Lw : Nat → Nat) (tx : Nat → Int32) : xPR :=
  if i < n then
    if f i = 110 then
      if G = 0 ∨ T = 8 then xbd i
      else bif xfgb f n (i + 1) 6 then (bif xfgb f n (i + 2) 6 then ih (xab f n (i + 3)) G (T + 1) Lw (uf (uf tx (2 * T) (nI (xfv (f (i + 1))))) (2 * T + 1) (nI (xfv (f (i + 2))))) else xbd (i + 2)) else xbd (i + 1)
    else if xkd (f i) = none ∨ 0 < T ∨ G = 6 then xbd i
      else bif xfgb f n (i + 1) 4 then ih (xab f n (i + 2)) (G + 1) T (uf Lw G (4 * ((xkd (f i)).getD 0) + xfv (f (i + 1)))) tx else xbd (i + 1)
  else (if G = 0 then some n else none, G, T, Lw, tx)
def xpi (f : Nat → Int32) (n u : Nat) : Nat → Nat → Nat → (Nat → Nat) → (Nat → Int32) → xPR := Nat.rec (motive := fun _ => Nat → Nat → Nat → (Nat → Nat) → (Nat → Int32) → xPR) (fun i _ _ _ _ => xbd i) (fun _ ih => xpi1 f n ih) u
section
variable {f : Nat → Int32} {n q i G T : Nat} {Lw : Nat → Nat} {tx : Nat → Int32}
theorem xpi_u : xpi f n (q + 1) i G T Lw tx = xpi1 f n (xpi f n q) i G T Lw tx := rfl
theorem xpi_t0 (h : i < n) (hc : f i = 110) (hb : G = 0 ∨ T = 8) : xpi f n (q + 1) i G T Lw tx = xbd i := by
  rw [xpi_u]; unfold xpi1; rw [if_pos h, if_pos hc, if_pos hb]
theorem xpi_t1 (h : i < n) (hc : f i = 110) (hb : ¬ (G = 0 ∨ T = 8)) (hf : ¬ xfg f n (i + 1) 6) : xpi f n (q + 1) i G T Lw tx = xbd (i + 1) := by
  rw [xpi_u]; unfold xpi1; rw [if_pos h, if_pos hc, if_neg hb, xfgb_f hf]; rfl
theorem xpi_t2 (h : i < n) (hc : f i = 110) (hb : ¬ (G = 0 ∨ T = 8)) (hf : xfg f n (i + 1) 6) (hf2 : ¬ xfg f n (i + 2) 6) : xpi f n (q + 1) i G T Lw tx = xbd (i + 2) := by
  rw [xpi_u]; unfold xpi1; rw [if_pos h, if_pos hc, if_neg hb, xfgb_t hf, xfgb_f hf2]; rfl
theorem xpi_t3 (h : i < n) (hc : f i = 110) (hb : ¬ (G = 0 ∨ T = 8)) (hf : xfg f n (i + 1) 6) (hf2 : xfg f n (i + 2) 6) : xpi f n (q + 1) i G T Lw tx = xpi f n q (xab f n (i + 3)) G (T + 1) Lw (uf (uf tx (2 * T) (nI (xfv (f (i + 1))))) (2 * T + 1) (nI (xfv (f (i + 2))))) := by
  rw [xpi_u]; unfold xpi1; rw [if_pos h, if_pos hc, if_neg hb, xfgb_t hf, xfgb_t hf2]; rfl
theorem xpi_g0 (h : i < n) (hc : ¬ f i = 110) (hb : xkd (f i) = none ∨ 0 < T ∨ G = 6) : xpi f n (q + 1) i G T Lw tx = xbd i := by
  rw [xpi_u]; unfold xpi1; rw [if_pos h, if_neg hc, if_pos hb]
theorem xpi_g1 (h : i < n) (hc : ¬ f i = 110) (hb : ¬ (xkd (f i) = none ∨ 0 < T ∨ G = 6)) (hf : ¬ xfg f n (i + 1) 4) : xpi f n (q + 1) i G T Lw tx = xbd (i + 1) := by
  rw [xpi_u]; unfold xpi1; rw [if_pos h, if_neg hc, if_neg hb, xfgb_f hf]; rfl
theorem xpi_g2 (h : i < n) (hc : ¬ f i = 110) (hb : ¬ (xkd (f i) = none ∨ 0 < T ∨ G = 6)) (hf : xfg f n (i + 1) 4) : xpi f n (q + 1) i G T Lw tx = xpi f n q (xab f n (i + 2)) (G + 1) T (uf Lw G (4 * ((xkd (f i)).getD 0) + xfv (f (i + 1)))) tx := by
  rw [xpi_u]; unfold xpi1; rw [if_pos h, if_neg hc, if_neg hb, xfgb_t hf]; rfl
theorem xpi_e (h : ¬ i < n) : xpi f n (q + 1) i G T Lw tx = (if G = 0 then some n else none, G, T, Lw, tx) := by
  rw [xpi_u]; unfold xpi1; rw [if_neg h]
/-- a whole text -/
def xprs (f : Nat → Int32) (n : Nat) : xPR :=
  if xab f n 0 < n ∧ f (xab f n 0) = 104 then
    (match xfst (fun s => !xfgb f n (xab f n 0 + 1 + s) 6) 6 with
    | some s => xbd (xab f n 0 + 1 + s)
    | none => xpi f n 61 (xab f n (xab f n 0 + 7)) 0 0 (fun _ => 0) (fun _ => 0))
  else xbd (xab f n 0)
theorem xprs_0 (h : ¬ (xab f n 0 < n ∧ f (xab f n 0) = 104)) : xprs f n = xbd (xab f n 0) := if_neg h
theorem xprs_1 {s : Nat} (h : xab f n 0 < n ∧ f (xab f n 0) = 104) (hs : xfst (fun s => !xfgb f n (xab f n 0 + 1 + s) 6) 6 = some s) : xprs f n = xbd (xab f n 0 + 1 + s) := by
  unfold xprs; rw [if_pos h, hs]
theorem xprs_2 (h : xab f n 0 < n ∧ f (xab f n 0) = 104) (hs : xfst (fun s => !xfgb f n (xab f n 0 + 1 + s) 6) 6 = none) : xprs f n = xpi f n 61 (xab f n (xab f n 0 + 7)) 0 0 (fun _ => 0) (fun _ => 0) := by
  unfold xprs; rw [if_pos h, hs]
theorem xfgb_i (h : xfgb f n i q = true) : xfg f n i q := by
  unfold xfgb at h
  have z := of_decide_eq_true h
  exact z
/-- a room's view -/
def xRv (g : Nat → Nat → Int32) (a G T : Nat) (Lw : Nat → Nat) (tx : Nat → Int32) : Prop := (g a 2 = nI G ∧ G ≤ 6) ∧ (g a 4 = nI T ∧ T ≤ 8) ∧ (∀ k, k < G → g (a + 2) k = nI (Lw k) ∧ Lw k < 24) ∧ (∀ k, k < 2 * T → g (a + 3) k = tx k ∧ xstp (tx k))
def xFa (a : Nat) (g g' : Nat → Nat → Int32) : Prop := ∀ e, e ≠ a → e ≠ a + 2 → e ≠ a + 3 → g' e = g e
theorem xkd_lt {x : Int32} {κ : Nat} (h : xkd x = some κ) : κ < 6 := (xfst_lt h).1
def xItP (b : Nat × Nat) (l : Nat → Nat → Int64) (f : Nat → Int32) (m a : Nat) (g : Nat → Nat → Int32) (p G T : Nat) (Lw : Nat → Nat) (tx : Nat → Int32) (st : Nat) (r : Option Value) (M' : xM) : Prop := ∃ (o : Option Nat) (g' : Nat → Nat → Int32), r = some (.int (xfI o)) ∧ (∀ d, o = some d → d < 2 ^ 31) ∧ M' = xH b g' l ∧ xFa a g g' ∧ (∀ e, o = some e → ∀ q, xpi f m (q + 1) p G T Lw tx = xbd e) ∧ (o = none → ∃ G' T' Lw' tx', xRv g' a G' T' Lw' tx' ∧ p + st ≤ m ∧ ∀ q, xpi f m (q + 1) p G T Lw tx = xpi f m q (xab f m (p + st)) G' T' Lw' tx')
end

section
variable {k a c n n2 m t p s d i1 j1 : Nat} {b : Nat × Nat} {g : Nat → Nat → Int32} {l : Nat → Nat → Int64} {i j x y z v w : Int32} {u w1 w2 : Int64}
variable {L G T κ δ : Nat} {Lw : Nat → Nat} {f tx : Nat → Int32}
theorem c_X8_isFigureV (hF : xce c n) (hs : g c 1 = nI m) (hm : m ≤ n) (hfv : g (c + 1) = f) (hp : p < 1000) (ht : t ≤ 6) (dp : Decidable (xfg f m p t)) : xT (k + 3) 71 [.ref c, .int (nI p), .int (nI t)] (xH b g l) (fun r M' => M' = xH b g l ∧ r = some (.int (if xfg f m p t then 1 else 0))) := by
  subst hfv
  exact c_X8_isFigure hF hs hm hp ht dp
theorem c_X8_afterBlanksV (hF : xce c n) (hs : g c 1 = nI m) (hm : m ≤ n) (hfv : g (c + 1) = f) (hp : p < 1000) : xT (k + 3) 70 [.ref c, .int (nI p)] (xH b g l) (fun r M' => M' = xH b g l ∧ r = some (.int (nI (xab f m p)))) := by
  subst hfv
  exact c_X8_afterBlanks hF hs hm hp
theorem c_X0_getV (hC : xce c n) (hs : g c 1 = nI m) (hm : m ≤ n) (hfv : g (c + 1) = f) (ht : t < m) : xT (k + 2) 5 [.ref c, .int (nI t)] (xH b g l) (fun r M' => M' = xH b g l ∧ r = some (.int (f t))) := by
  subst hfv
  exact c_X0_get hC hs hm ht
theorem c_X0_sizeV (hC : xce c n) (hs : g c 1 = nI m) : xT (k + 1) 2 [.ref c] (xH b g l) (fun r M' => M' = xH b g l ∧ r = some (.int (nI m))) := (c_X0_size hC).weak (fun r M' h => ⟨h.1, by rw [h.2, hs]⟩)

set_option maxRecDepth 10000 in
theorem c_X8_readTerm_bad (hC : xro a) (hF : xce c n) (hca : c + 1 < a ∨ a + 3 < c) (hs : g c 1 = nI m) (hm : m ≤ n) (hfv : g (c + 1) = f) (hG : g a 2 = nI G) (hG6 : G ≤ 6) (hT : g a 4 = nI T) (hT8 : T ≤ 8) (hp : p < m) (hm60 : m ≤ 60) (hbad : G = 0 ∨ T = 8) : xT (k + 4) 68 [.ref a, .ref c, .int (nI p)] (xH b g l) (fun r M' => M' = xH b g l ∧ r = some (.int (nI p))) := by
  have hn := hF.2.2
  refine xT.of rfl (Nat.le_of_ble_eq_true rfl) ?_
  change xS _ _ 0 [(0, .ref a), (1, .ref c), (2, .int (nI p))] [] _ _
  refine xS.s1 rfl rfl ?_
  try dsimp only [Nat.reduceAdd]
  refine xS.gI rfl (hC.1 _) rfl ⟨by decide, rfl⟩ rfl ?_
  try dsimp only [Nat.reduceAdd]
  rw [hG]
  refine xS.br0 (c := .eq) (off := 12) (l := 3) rfl rfl (fun h4 => ?_) (fun h4 => ?_)
  · have g4 := xt_eq h4
    refine xS.s1 rfl rfl ?_
    try dsimp only [Nat.reduceAdd]
    refine xS.ret rfl rfl rfl (fun _ _ => rfl) ?_
    exact ⟨rfl, rfl⟩
  · have g4 := xf_eq h4
    refine xS.s1 rfl rfl ?_
    try dsimp only [Nat.reduceAdd]
    refine xS.gI rfl (hC.1 _) rfl ⟨by decide, rfl⟩ rfl ?_
    try dsimp only [Nat.reduceAdd]
    rw [hT]
    refine xS.s1 rfl rfl ?_
    try dsimp only [Nat.reduceAdd, xj_8]
    refine xS.br (c := .lt) (off := 5) (l := 3) rfl rfl (fun h13 => ?_) (fun h13 => ?_)
    · have g13 := xt_lt h13
      exact hbad.elim (fun z => absurd (by rw [z]; rfl) g4) (fun z => absurd g13 (by rw [z]; decide))
    · have g13 := xf_lt h13
      refine xS.s1 rfl rfl ?_
      try dsimp only [Nat.reduceAdd]
      refine xS.ret rfl rfl rfl (fun _ _ => rfl) ?_
      exact ⟨rfl, rfl⟩

set_option maxRecDepth 10000 in
theorem c_X8_readTerm_bad1 (hC : xro a) (hF : xce c n) (hca : c + 1 < a ∨ a + 3 < c) (hs : g c 1 = nI m) (hm : m ≤ n) (hfv : g (c + 1) = f) (hG : g a 2 = nI G) (hG6 : G ≤ 6) (hT : g a 4 = nI T) (hT8 : T ≤ 8) (hp : p < m) (hm60 : m ≤ 60) (hb : ¬ (G = 0 ∨ T = 8)) (hf1 : ¬ xfg f m (p + 1) 6) : xT (k + 4) 68 [.ref a, .ref c, .int (nI p)] (xH b g l) (fun r M' => M' = xH b g l ∧ r = some (.int (nI (p + 1)))) := by
  have hn := hF.2.2
  have hb1 : G ≠ 0 := fun z => hb (Or.inl z)
  have hb2 : T ≠ 8 := fun z => hb (Or.inr z)
  refine xT.of rfl (Nat.le_of_ble_eq_true rfl) ?_
  change xS _ _ 0 [(0, .ref a), (1, .ref c), (2, .int (nI p))] [] _ _
  refine xS.s1 rfl rfl ?_
  try dsimp only [Nat.reduceAdd]
  refine xS.gI rfl (hC.1 _) rfl ⟨by decide, rfl⟩ rfl ?_
  try dsimp only [Nat.reduceAdd]
  rw [hG]
  refine xS.br0 (c := .eq) (off := 12) (l := 3) rfl rfl (fun h4 => ?_) (fun h4 => ?_)
  · have g4 := xt_eq h4
    exact absurd (Or.inl (nI_inj (b := 0) (by omega) (by omega) g4)) hb
  · have g4 := xf_eq h4
    refine xS.s1 rfl rfl ?_
    try dsimp only [Nat.reduceAdd]
    refine xS.gI rfl (hC.1 _) rfl ⟨by decide, rfl⟩ rfl ?_
    try dsimp only [Nat.reduceAdd]
    rw [hT]
    refine xS.s1 rfl rfl ?_
    try dsimp only [Nat.reduceAdd, xj_8]
    refine xS.br (c := .lt) (off := 5) (l := 3) rfl rfl (fun h13 => ?_) (fun h13 => ?_)
    · have g13 := xt_lt h13
      refine xS.s1 rfl rfl ?_
      try dsimp only [Nat.reduceAdd, xi_0]
      refine xS.s1 rfl rfl ?_
      try dsimp only [Nat.reduceAdd]
      refine xS.s1 rfl rfl ?_
      try dsimp only [Nat.reduceAdd]
      refine xS.s1 rfl rfl ?_
      try dsimp only [Nat.reduceAdd, xi_2]
      refine xS.br (c := .ge) (off := 52) (l := 3) rfl rfl (fun h22 => ?_) (fun h22 => ?_)
      · have g22 := xt_ge h22
        exfalso; first | exact absurd g22 (by decide) | (simp (disch := omega) only [Int32.lt_iff_toInt_lt, Int32.le_iff_toInt_le, nI_toInt, Int32.reduceToInt] at g22 <;> omega)
      · have g22 := xf_ge h22
        refine xS.s1 rfl rfl ?_
        try dsimp only [Nat.reduceAdd]
        refine xS.s1 rfl rfl ?_
        try dsimp only [Nat.reduceAdd, xi_1]
        refine xS.s1 rfl rfl ?_
        try dsimp only [Nat.reduceAdd]
        refine xS.s1 rfl rfl ?_
        try dsimp only [Nat.reduceAdd]
        refine xS.s1 rfl rfl ?_
        try dsimp only [Nat.reduceAdd]
        rw [show (nI p + 1 + 0 : Int32) = nI (p + 1) from by
          show nI p + nI 1 + nI 0 = _
          rw [nI_add, nI_add]]
        refine xS.s1 rfl rfl ?_
        try dsimp only [Nat.reduceAdd]
        refine xS.s1 rfl rfl ?_
        try dsimp only [Nat.reduceAdd]
        refine xS.s1 rfl rfl ?_
        try dsimp only [Nat.reduceAdd]
        refine xS.s1 rfl rfl ?_
        try dsimp only [Nat.reduceAdd, xj_6]
        -- 37 yX8_isFigure
        refine xS.callS rfl rfl rfl ⟨Nat.le_of_ble_eq_true rfl, rfl⟩ (c_X8_isFigureV (f := f) (t := 6) hF hs hm hfv (by omega) (by decide) (Classical.propDecidable _)) (fun v M1 hv => ?_)
        rw [hv.1, hv.2]
        clear hv M1 v
        try dsimp only [Nat.reduceAdd, Option.toList, List.cons_append, List.nil_append, List.drop]
        refine xS.br0 (c := .ne) (off := 6) (l := 3) rfl rfl (fun h40 => ?_) (fun h40 => ?_)
        · have g40 := xt_ne h40
          exact absurd (@xif1 _ (Classical.propDecidable _) g40) hf1
        · have g40 := xf_ne h40
          refine xS.s1 rfl rfl ?_
          try dsimp only [Nat.reduceAdd]
          refine xS.ret rfl rfl rfl (fun _ _ => rfl) ?_
          exact ⟨rfl, rfl⟩
    · have g13 := xf_lt h13
      exfalso; have z := (nI_leI (a := 8) (b := T) (by omega) (by omega)).mp g13; omega

set_option maxRecDepth 10000 in
theorem c_X8_readTerm_bad2 (hC : xro a) (hF : xce c n) (hca : c + 1 < a ∨ a + 3 < c) (hs : g c 1 = nI m) (hm : m ≤ n) (hfv : g (c + 1) = f) (hG : g a 2 = nI G) (hG6 : G ≤ 6) (hT : g a 4 = nI T) (hT8 : T ≤ 8) (hp : p < m) (hm60 : m ≤ 60) (hb : ¬ (G = 0 ∨ T = 8)) (hf1 : xfg f m (p + 1) 6) (hf2 : ¬ xfg f m (p + 2) 6) : xT (k + 4) 68 [.ref a, .ref c, .int (nI p)] (xH b g l) (fun r M' => M' = xH b (up g (a + 3) (2 * T) (nI (xfv (f (p + 1))))) l ∧ r = some (.int (nI (p + 2)))) := by
  have hn := hF.2.2
  have hb1 : G ≠ 0 := fun z => hb (Or.inl z)
  have hb2 : T ≠ 8 := fun z => hb (Or.inr z)
  refine xT.of rfl (Nat.le_of_ble_eq_true rfl) ?_
  change xS _ _ 0 [(0, .ref a), (1, .ref c), (2, .int (nI p))] [] _ _
  refine xS.s1 rfl rfl ?_
  try dsimp only [Nat.reduceAdd]
  refine xS.gI rfl (hC.1 _) rfl ⟨by decide, rfl⟩ rfl ?_
  try dsimp only [Nat.reduceAdd]
  rw [hG]
  refine xS.br0 (c := .eq) (off := 12) (l := 3) rfl rfl (fun h4 => ?_) (fun h4 => ?_)
  · have g4 := xt_eq h4
    exact absurd (Or.inl (nI_inj (b := 0) (by omega) (by omega) g4)) hb
  · have g4 := xf_eq h4
    refine xS.s1 rfl rfl ?_
    try dsimp only [Nat.reduceAdd]
    refine xS.gI rfl (hC.1 _) rfl ⟨by decide, rfl⟩ rfl ?_
    try dsimp only [Nat.reduceAdd]
    rw [hT]
    refine xS.s1 rfl rfl ?_
    try dsimp only [Nat.reduceAdd, xj_8]
    refine xS.br (c := .lt) (off := 5) (l := 3) rfl rfl (fun h13 => ?_) (fun h13 => ?_)
    · have g13 := xt_lt h13
      refine xS.s1 rfl rfl ?_
      try dsimp only [Nat.reduceAdd, xi_0]
      refine xS.s1 rfl rfl ?_
      try dsimp only [Nat.reduceAdd]
      refine xS.s1 rfl rfl ?_
      try dsimp only [Nat.reduceAdd]
      refine xS.s1 rfl rfl ?_
      try dsimp only [Nat.reduceAdd, xi_2]
      refine xS.br (c := .ge) (off := 52) (l := 3) rfl rfl (fun h22 => ?_) (fun h22 => ?_)
      · have g22 := xt_ge h22
        exfalso; first | exact absurd g22 (by decide) | (simp (disch := omega) only [Int32.lt_iff_toInt_lt, Int32.le_iff_toInt_le, nI_toInt, Int32.reduceToInt] at g22 <;> omega)
      · have g22 := xf_ge h22
        refine xS.s1 rfl rfl ?_
        try dsimp only [Nat.reduceAdd]
        refine xS.s1 rfl rfl ?_
        try dsimp only [Nat.reduceAdd, xi_1]
        refine xS.s1 rfl rfl ?_
        try dsimp only [Nat.reduceAdd]
        refine xS.s1 rfl rfl ?_
        try dsimp only [Nat.reduceAdd]
        refine xS.s1 rfl rfl ?_
        try dsimp only [Nat.reduceAdd]
        rw [show (nI p + 1 + 0 : Int32) = nI (p + 1) from by
          show nI p + nI 1 + nI 0 = _
          rw [nI_add, nI_add]]
        refine xS.s1 rfl rfl ?_
        try dsimp only [Nat.reduceAdd]
        refine xS.s1 rfl rfl ?_
        try dsimp only [Nat.reduceAdd]
        refine xS.s1 rfl rfl ?_
        try dsimp only [Nat.reduceAdd]
        refine xS.s1 rfl rfl ?_
        try dsimp only [Nat.reduceAdd, xj_6]
        -- 37 yX8_isFigure
        refine xS.callS rfl rfl rfl ⟨Nat.le_of_ble_eq_true rfl, rfl⟩ (c_X8_isFigureV (f := f) (t := 6) hF hs hm hfv (by omega) (by decide) (Classical.propDecidable _)) (fun v M1 hv => ?_)
        rw [hv.1, hv.2]
        clear hv M1 v
        try dsimp only [Nat.reduceAdd, Option.toList, List.cons_append, List.nil_append, List.drop]
        refine xS.br0 (c := .ne) (off := 6) (l := 3) rfl rfl (fun h40 => ?_) (fun h40 => ?_)
        · have g40 := xt_ne h40
          refine xS.s1 rfl rfl ?_
          try dsimp only [Nat.reduceAdd]
          refine xS.gR rfl (hC.1 _) rfl ⟨by decide, rfl⟩ rfl ?_
          try dsimp only [Nat.reduceAdd]
          refine xS.s1 rfl rfl ?_
          try dsimp only [Nat.reduceAdd, xi_2]
          refine xS.s1 rfl rfl ?_
          try dsimp only [Nat.reduceAdd]
          refine xS.gI rfl (hC.1 _) rfl ⟨by decide, rfl⟩ rfl ?_
          try dsimp only [Nat.reduceAdd]
          rw [hT]
          refine xS.s1 rfl rfl ?_
          try dsimp only [Nat.reduceAdd]
          refine xS.s1 rfl rfl ?_
          try dsimp only [Nat.reduceAdd]
          refine xS.s1 rfl rfl ?_
          try dsimp only [Nat.reduceAdd]
          refine xS.s1 rfl rfl ?_
          try dsimp only [Nat.reduceAdd]
          refine xS.s1 rfl rfl ?_
          try dsimp only [Nat.reduceAdd]
          -- 61 yX0_get
          refine xS.cv rfl rfl rfl (hF.1 _) rfl rfl ⟨by decide, rfl, rfl⟩ (c_X0_getV (f := f) hF hs hm hfv hf1.1) (fun v M1 hv => ?_)
          rw [hv.1, hv.2]
          clear hv M1 v
          try dsimp only [Nat.reduceAdd, Option.toList, List.cons_append, List.nil_append, List.drop]
          refine xS.s1 rfl rfl ?_
          try dsimp only [Nat.reduceAdd, xj_48]
          refine xS.s1 rfl rfl ?_
          try dsimp only [Nat.reduceAdd]
          rw [xfv_s (by decide) hf1]
          rw [show (((2 * nI T) + 0) : Int32) = nI ((2 * T) + 0) from by simp only [← nI_add, ← pk_mul]; rfl]
          refine xS.ias rfl hC.2.2.2 (by omega) ?_
          try dsimp only [Nat.reduceAdd]
          refine xS.s1 rfl rfl ?_
          try dsimp only [Nat.reduceAdd, xi_1]
          refine xS.s1 rfl rfl ?_
          try dsimp only [Nat.reduceAdd]
          rw [show (0 + 1 : Int32) = 1 from rfl]
          refine xS.s1 rfl rfl ?_
          try dsimp only [Nat.reduceAdd]
          refine xS.s1 rfl rfl ?_
          try dsimp only [Nat.reduceAdd, xi_2]
          refine xS.br (c := .ge) (off := 52) (l := 3) rfl rfl (fun h22 => ?_) (fun h22 => ?_)
          · have g22 := xt_ge h22
            exfalso; first | exact absurd g22 (by decide) | (simp (disch := omega) only [Int32.lt_iff_toInt_lt, Int32.le_iff_toInt_le, nI_toInt, Int32.reduceToInt] at g22 <;> omega)
          · have g22 := xf_ge h22
            refine xS.s1 rfl rfl ?_
            try dsimp only [Nat.reduceAdd]
            refine xS.s1 rfl rfl ?_
            try dsimp only [Nat.reduceAdd, xi_1]
            refine xS.s1 rfl rfl ?_
            try dsimp only [Nat.reduceAdd]
            refine xS.s1 rfl rfl ?_
            try dsimp only [Nat.reduceAdd]
            refine xS.s1 rfl rfl ?_
            try dsimp only [Nat.reduceAdd]
            rw [show (nI p + 1 + 1 : Int32) = nI (p + 2) from by
              show nI p + nI 1 + nI 1 = _
              rw [nI_add, nI_add]]
            refine xS.s1 rfl rfl ?_
            try dsimp only [Nat.reduceAdd]
            refine xS.s1 rfl rfl ?_
            try dsimp only [Nat.reduceAdd]
            refine xS.s1 rfl rfl ?_
            try dsimp only [Nat.reduceAdd]
            refine xS.s1 rfl rfl ?_
            try dsimp only [Nat.reduceAdd, xj_6]
            -- 37 yX8_isFigure
            refine xS.callS rfl rfl rfl ⟨Nat.le_of_ble_eq_true rfl, rfl⟩ (c_X8_isFigureV (f := f) (t := 6) hF (by rw [up_na (by omega)]; exact hs) hm (by rw [up_na (by omega)]; exact hfv) (by omega) (by decide) (Classical.propDecidable _)) (fun v M1 hv => ?_)
            rw [hv.1, hv.2]
            clear hv M1 v
            try dsimp only [Nat.reduceAdd, Option.toList, List.cons_append, List.nil_append, List.drop]
            refine xS.br0 (c := .ne) (off := 6) (l := 3) rfl rfl (fun h40 => ?_) (fun h40 => ?_)
            · have g40 := xt_ne h40
              exact absurd (@xif1 _ (Classical.propDecidable _) g40) hf2
            · have g40 := xf_ne h40
              refine xS.s1 rfl rfl ?_
              try dsimp only [Nat.reduceAdd]
              refine xS.ret rfl rfl rfl (fun _ _ => rfl) ?_
              exact ⟨rfl, rfl⟩
        · have g40 := xf_ne h40
          exact absurd hf1 (@xif0 _ (Classical.propDecidable _) g40)
    · have g13 := xf_lt h13
      exfalso; have z := (nI_leI (a := 8) (b := T) (by omega) (by omega)).mp g13; omega

set_option maxRecDepth 10000 in
theorem c_X8_readTerm_ok (hC : xro a) (hF : xce c n) (hca : c + 1 < a ∨ a + 3 < c) (hs : g c 1 = nI m) (hm : m ≤ n) (hfv : g (c + 1) = f) (hG : g a 2 = nI G) (hG6 : G ≤ 6) (hT : g a 4 = nI T) (hT8 : T ≤ 8) (hp : p < m) (hm60 : m ≤ 60) (hb : ¬ (G = 0 ∨ T = 8)) (hf1 : xfg f m (p + 1) 6) (hf2 : xfg f m (p + 2) 6) : xT (k + 4) 68 [.ref a, .ref c, .int (nI p)] (xH b g l) (fun r M' => M' = xH b (up (up (up g (a + 3) (2 * T) (nI (xfv (f (p + 1))))) (a + 3) (2 * T + 1) (nI (xfv (f (p + 2))))) a 4 (nI (T + 1))) l ∧ r = some (.int (-9))) := by
  have hn := hF.2.2
  have hb1 : G ≠ 0 := fun z => hb (Or.inl z)
  have hb2 : T ≠ 8 := fun z => hb (Or.inr z)
  refine xT.of rfl (Nat.le_of_ble_eq_true rfl) ?_
  change xS _ _ 0 [(0, .ref a), (1, .ref c), (2, .int (nI p))] [] _ _
  refine xS.s1 rfl rfl ?_
  try dsimp only [Nat.reduceAdd]
  refine xS.gI rfl (hC.1 _) rfl ⟨by decide, rfl⟩ rfl ?_
  try dsimp only [Nat.reduceAdd]
  rw [hG]
  refine xS.br0 (c := .eq) (off := 12) (l := 3) rfl rfl (fun h4 => ?_) (fun h4 => ?_)
  · have g4 := xt_eq h4
    exact absurd (Or.inl (nI_inj (b := 0) (by omega) (by omega) g4)) hb
  · have g4 := xf_eq h4
    refine xS.s1 rfl rfl ?_
    try dsimp only [Nat.reduceAdd]
    refine xS.gI rfl (hC.1 _) rfl ⟨by decide, rfl⟩ rfl ?_
    try dsimp only [Nat.reduceAdd]
    rw [hT]
    refine xS.s1 rfl rfl ?_
    try dsimp only [Nat.reduceAdd, xj_8]
    refine xS.br (c := .lt) (off := 5) (l := 3) rfl rfl (fun h13 => ?_) (fun h13 => ?_)
    · have g13 := xt_lt h13
      refine xS.s1 rfl rfl ?_
      try dsimp only [Nat.reduceAdd, xi_0]
      refine xS.s1 rfl rfl ?_
      try dsimp only [Nat.reduceAdd]
      refine xS.s1 rfl rfl ?_
      try dsimp only [Nat.reduceAdd]
      refine xS.s1 rfl rfl ?_
      try dsimp only [Nat.reduceAdd, xi_2]
      refine xS.br (c := .ge) (off := 52) (l := 3) rfl rfl (fun h22 => ?_) (fun h22 => ?_)
      · have g22 := xt_ge h22
        exfalso; first | exact absurd g22 (by decide) | (simp (disch := omega) only [Int32.lt_iff_toInt_lt, Int32.le_iff_toInt_le, nI_toInt, Int32.reduceToInt] at g22 <;> omega)
      · have g22 := xf_ge h22
        refine xS.s1 rfl rfl ?_
        try dsimp only [Nat.reduceAdd]
        refine xS.s1 rfl rfl ?_
        try dsimp only [Nat.reduceAdd, xi_1]
        refine xS.s1 rfl rfl ?_
        try dsimp only [Nat.reduceAdd]
        refine xS.s1 rfl rfl ?_
        try dsimp only [Nat.reduceAdd]
        refine xS.s1 rfl rfl ?_
        try dsimp only [Nat.reduceAdd]
        rw [show (nI p + 1 + 0 : Int32) = nI (p + 1) from by
          show nI p + nI 1 + nI 0 = _
          rw [nI_add, nI_add]]
        refine xS.s1 rfl rfl ?_
        try dsimp only [Nat.reduceAdd]
        refine xS.s1 rfl rfl ?_
        try dsimp only [Nat.reduceAdd]
        refine xS.s1 rfl rfl ?_
        try dsimp only [Nat.reduceAdd]
        refine xS.s1 rfl rfl ?_
        try dsimp only [Nat.reduceAdd, xj_6]
        -- 37 yX8_isFigure
        refine xS.callS rfl rfl rfl ⟨Nat.le_of_ble_eq_true rfl, rfl⟩ (c_X8_isFigureV (f := f) (t := 6) hF hs hm hfv (by omega) (by decide) (Classical.propDecidable _)) (fun v M1 hv => ?_)
        rw [hv.1, hv.2]
        clear hv M1 v
        try dsimp only [Nat.reduceAdd, Option.toList, List.cons_append, List.nil_append, List.drop]
        refine xS.br0 (c := .ne) (off := 6) (l := 3) rfl rfl (fun h40 => ?_) (fun h40 => ?_)
        · have g40 := xt_ne h40
          refine xS.s1 rfl rfl ?_
          try dsimp only [Nat.reduceAdd]
          refine xS.gR rfl (hC.1 _) rfl ⟨by decide, rfl⟩ rfl ?_
          try dsimp only [Nat.reduceAdd]
          refine xS.s1 rfl rfl ?_
          try dsimp only [Nat.reduceAdd, xi_2]
          refine xS.s1 rfl rfl ?_
          try dsimp only [Nat.reduceAdd]
          refine xS.gI rfl (hC.1 _) rfl ⟨by decide, rfl⟩ rfl ?_
          try dsimp only [Nat.reduceAdd]
          rw [hT]
          refine xS.s1 rfl rfl ?_
          try dsimp only [Nat.reduceAdd]
          refine xS.s1 rfl rfl ?_
          try dsimp only [Nat.reduceAdd]
          refine xS.s1 rfl rfl ?_
          try dsimp only [Nat.reduceAdd]
          refine xS.s1 rfl rfl ?_
          try dsimp only [Nat.reduceAdd]
          refine xS.s1 rfl rfl ?_
          try dsimp only [Nat.reduceAdd]
          -- 61 yX0_get
          refine xS.cv rfl rfl rfl (hF.1 _) rfl rfl ⟨by decide, rfl, rfl⟩ (c_X0_getV (f := f) hF hs hm hfv hf1.1) (fun v M1 hv => ?_)
          rw [hv.1, hv.2]
          clear hv M1 v
          try dsimp only [Nat.reduceAdd, Option.toList, List.cons_append, List.nil_append, List.drop]
          refine xS.s1 rfl rfl ?_
          try dsimp only [Nat.reduceAdd, xj_48]
          refine xS.s1 rfl rfl ?_
          try dsimp only [Nat.reduceAdd]
          rw [xfv_s (by decide) hf1]
          rw [show (((2 * nI T) + 0) : Int32) = nI ((2 * T) + 0) from by simp only [← nI_add, ← pk_mul]; rfl]
          refine xS.ias rfl hC.2.2.2 (by omega) ?_
          try dsimp only [Nat.reduceAdd]
          refine xS.s1 rfl rfl ?_
          try dsimp only [Nat.reduceAdd, xi_1]
          refine xS.s1 rfl rfl ?_
          try dsimp only [Nat.reduceAdd]
          rw [show (0 + 1 : Int32) = 1 from rfl]
          refine xS.s1 rfl rfl ?_
          try dsimp only [Nat.reduceAdd]
          refine xS.s1 rfl rfl ?_
          try dsimp only [Nat.reduceAdd, xi_2]
          refine xS.br (c := .ge) (off := 52) (l := 3) rfl rfl (fun h22 => ?_) (fun h22 => ?_)
          · have g22 := xt_ge h22
            exfalso; first | exact absurd g22 (by decide) | (simp (disch := omega) only [Int32.lt_iff_toInt_lt, Int32.le_iff_toInt_le, nI_toInt, Int32.reduceToInt] at g22 <;> omega)
          · have g22 := xf_ge h22
            refine xS.s1 rfl rfl ?_
            try dsimp only [Nat.reduceAdd]
            refine xS.s1 rfl rfl ?_
            try dsimp only [Nat.reduceAdd, xi_1]
            refine xS.s1 rfl rfl ?_
            try dsimp only [Nat.reduceAdd]
            refine xS.s1 rfl rfl ?_
            try dsimp only [Nat.reduceAdd]
            refine xS.s1 rfl rfl ?_
            try dsimp only [Nat.reduceAdd]
            rw [show (nI p + 1 + 1 : Int32) = nI (p + 2) from by
              show nI p + nI 1 + nI 1 = _
              rw [nI_add, nI_add]]
            refine xS.s1 rfl rfl ?_
            try dsimp only [Nat.reduceAdd]
            refine xS.s1 rfl rfl ?_
            try dsimp only [Nat.reduceAdd]
            refine xS.s1 rfl rfl ?_
            try dsimp only [Nat.reduceAdd]
            refine xS.s1 rfl rfl ?_
            try dsimp only [Nat.reduceAdd, xj_6]
            -- 37 yX8_isFigure
            refine xS.callS rfl rfl rfl ⟨Nat.le_of_ble_eq_true rfl, rfl⟩ (c_X8_isFigureV (f := f) (t := 6) hF (by rw [up_na (by omega)]; exact hs) hm (by rw [up_na (by omega)]; exact hfv) (by omega) (by decide) (Classical.propDecidable _)) (fun v M1 hv => ?_)
            rw [hv.1, hv.2]
            clear hv M1 v
            try dsimp only [Nat.reduceAdd, Option.toList, List.cons_append, List.nil_append, List.drop]
            refine xS.br0 (c := .ne) (off := 6) (l := 3) rfl rfl (fun h40 => ?_) (fun h40 => ?_)
            · have g40 := xt_ne h40
              refine xS.s1 rfl rfl ?_
              try dsimp only [Nat.reduceAdd]
              refine xS.gR rfl (hC.1 _) rfl ⟨by decide, rfl⟩ rfl ?_
              try dsimp only [Nat.reduceAdd]
              refine xS.s1 rfl rfl ?_
              try dsimp only [Nat.reduceAdd, xi_2]
              refine xS.s1 rfl rfl ?_
              try dsimp only [Nat.reduceAdd]
              refine xS.gI rfl (hC.1 _) rfl ⟨by decide, rfl⟩ rfl ?_
              try dsimp only [Nat.reduceAdd]
              rw [up_na (by omega), hT]
              refine xS.s1 rfl rfl ?_
              try dsimp only [Nat.reduceAdd]
              refine xS.s1 rfl rfl ?_
              try dsimp only [Nat.reduceAdd]
              refine xS.s1 rfl rfl ?_
              try dsimp only [Nat.reduceAdd]
              refine xS.s1 rfl rfl ?_
              try dsimp only [Nat.reduceAdd]
              refine xS.s1 rfl rfl ?_
              try dsimp only [Nat.reduceAdd]
              -- 61 yX0_get
              refine xS.cv rfl rfl rfl (hF.1 _) rfl rfl ⟨by decide, rfl, rfl⟩ (c_X0_getV (f := f) hF (by rw [up_na (by omega)]; exact hs) hm (by rw [up_na (by omega)]; exact hfv) hf2.1) (fun v M1 hv => ?_)
              rw [hv.1, hv.2]
              clear hv M1 v
              try dsimp only [Nat.reduceAdd, Option.toList, List.cons_append, List.nil_append, List.drop]
              refine xS.s1 rfl rfl ?_
              try dsimp only [Nat.reduceAdd, xj_48]
              refine xS.s1 rfl rfl ?_
              try dsimp only [Nat.reduceAdd]
              rw [xfv_s (by decide) hf2]
              rw [show (((2 * nI T) + 1) : Int32) = nI ((2 * T) + 1) from by simp only [← nI_add, ← pk_mul]; rfl]
              refine xS.ias rfl hC.2.2.2 (by omega) ?_
              try dsimp only [Nat.reduceAdd]
              refine xS.s1 rfl rfl ?_
              try dsimp only [Nat.reduceAdd, xi_1]
              refine xS.s1 rfl rfl ?_
              try dsimp only [Nat.reduceAdd]
              rw [show (1 + 1 : Int32) = 2 from rfl]
              refine xS.s1 rfl rfl ?_
              try dsimp only [Nat.reduceAdd]
              refine xS.s1 rfl rfl ?_
              try dsimp only [Nat.reduceAdd, xi_2]
              refine xS.br (c := .ge) (off := 52) (l := 3) rfl rfl (fun h22 => ?_) (fun h22 => ?_)
              · have g22 := xt_ge h22
                refine xS.s1 rfl rfl ?_
                try dsimp only [Nat.reduceAdd]
                refine xS.s1 rfl rfl ?_
                try dsimp only [Nat.reduceAdd]
                refine xS.gI rfl (hC.1 _) rfl ⟨by decide, rfl⟩ rfl ?_
                try dsimp only [Nat.reduceAdd]
                rw [up_na (by omega), up_na (by omega), hT]
                refine xS.s1 rfl rfl ?_
                try dsimp only [Nat.reduceAdd, xi_1]
                refine xS.s1 rfl rfl ?_
                try dsimp only [Nat.reduceAdd]
                rw [nI_1]
                refine xS.pI rfl (hC.1 _) rfl ⟨⟨by decide, rfl⟩, rfl, by decide, by decide⟩ rfl ?_
                try dsimp only [Nat.reduceAdd]
                refine xS.s1 rfl rfl ?_
                try dsimp only [Nat.reduceAdd, xj_m9]
                refine xS.ret rfl rfl rfl (fun _ _ => rfl) ?_
                exact ⟨rfl, rfl⟩
              · have g22 := xf_ge h22
                exfalso; first | exact absurd g22 (by decide) | (simp (disch := omega) only [Int32.lt_iff_toInt_lt, Int32.le_iff_toInt_le, nI_toInt, Int32.reduceToInt] at g22 <;> omega)
            · have g40 := xf_ne h40
              exact absurd hf2 (@xif0 _ (Classical.propDecidable _) g40)
        · have g40 := xf_ne h40
          exact absurd hf1 (@xif0 _ (Classical.propDecidable _) g40)
    · have g13 := xf_lt h13
      exfalso; have z := (nI_leI (a := 8) (b := T) (by omega) (by omega)).mp g13; omega

end
