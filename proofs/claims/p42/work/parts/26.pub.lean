/-! LimpMirror: public methods, what is shown, what was done, laws -/
def xush (x y : Int32) : Int32 := (x.toUInt32 >>> (y.toUInt32 &&& Int32.toUInt32 31)).toInt32
def xbc1 (x : Int32) : Int32 := x - (xush x 1 &&& 1431655765)
def xbc2 (x : Int32) : Int32 := (x &&& 858993459) + (xush x 2 &&& 858993459)
def xbc3 (x : Int32) : Int32 := (x + xush x 4) &&& 252645135
def xbc4 (x : Int32) : Int32 := x + xush x 8
def xbc5 (x : Int32) : Int32 := x + xush x 16
def xbc (x : Int32) : Int32 := xbc5 (xbc4 (xbc3 (xbc2 (xbc1 x)))) &&& 63
def xpc (y : Nat) : Nat := xcnt (fun s => y.testBit s) 6
theorem xbc_64 : ∀ y, y < 64 → xbc (nI y) = nI (xpc y) := by decide +kernel
theorem xpc_le (y : Nat) : xpc y ≤ 6 := xcnt_le _ _
theorem xbits_64 (p : Nat → Bool) : ∃ y, y < 64 ∧ xbits p 6 = nI y := by
  have h : ∀ a b c d e f : Bool, ∃ y : Fin 64, xbits (fun s => match s with | 0 => a | 1 => b | 2 => c | 3 => d | 4 => e | _ => f) 6 = nI y.val := by decide +kernel
  obtain ⟨y, hy⟩ := h (p 0) (p 1) (p 2) (p 3) (p 4) (p 5)
  exact ⟨y.val, y.isLt, hy⟩
theorem nx_and' (a b : Nat) : nI a &&& nI b = nI (a &&& b) := by
  apply Int32.toBitVec_inj.mp
  show BitVec.ofNat 32 a &&& BitVec.ofNat 32 b = BitVec.ofNat 32 (a &&& b)
  rw [BitVec.ofNat_and]
theorem xst_64 {κ δ : Nat} {h : Nat → Int32} {f : Nat → Int32} {c : Nat} : ∀ n i, ∃ y, y < 64 ∧ xst κ δ (xB h c f) n i = nI y := by
  intro n
  induction n with
  | zero => intro i; exact ⟨63, by omega, rfl⟩
  | succ n ih =>
    intro i
    cases e : xsrc κ δ n with
    | none => rw [xst_none e]; exact ih i
    | some s =>
      rw [xst_some e]
      dsimp only
      by_cases c2 : i = s
      · rw [if_pos c2]
        obtain ⟨y, h1, h2⟩ := ih s
        obtain ⟨z, h3, h4⟩ := xbits_64 (fun s => decide (xseen h c n s = f n))
        have h4 : xB h c f n = nI z := h4
        rw [h2, h4, nx_and']
        exact ⟨y &&& z, Nat.lt_of_le_of_lt Nat.and_le_left h1, rfl⟩
      · rw [if_neg c2]
        exact ih i
theorem gset_s {g : Nat → Nat → Int32} {a j : Nat} {S : Nat → Int32} : up (gset g a j S) a j (S j) = gset g a (j + 1) S := by
  funext a' i'
  unfold up gset
  by_cases e : a' = a
  · by_cases e2 : i' = j
    · simp [e, e2]
    · by_cases e3 : i' < j
      · simp [e, e2, e3, Nat.lt_succ_of_lt e3]
      · have : ¬ i' < j + 1 := by omega
        simp [e2, e3, this]
  · simp [e]
theorem gset_0 {g : Nat → Nat → Int32} {a : Nat} {S : Nat → Int32} : gset g a 0 S = g := by
  funext a' i'
  exact if_neg (fun h => absurd h.2 (by omega))
theorem xfst_f {p : Nat → Bool} {n : Nat} (h : p n = false) : xfst p (n + 1) = xfst p n := by
  rw [xfst_s, h]
  cases xfst p n <;> rfl
theorem xfst_k {p : Nat → Bool} {n : Nat} (h : ¬ xfst p n = none) : xfst p (n + 1) = xfst p n := by
  rw [xfst_s]
  cases e : xfst p n with
  | none => exact absurd e h
  | some d => rfl
theorem xfst_c {p : Nat → Bool} {n : Nat} (h : xfst p n = none) (hp : p n = true) : xfst p (n + 1) = some n := by
  rw [xfst_s, h, hp]
  rfl
/-- a product -/
def xpr (f : Nat → Nat) (a n : Nat) : Nat := Nat.rec (motive := fun _ => Nat) a (fun j c => c * f j) n
theorem xpr_s (f : Nat → Nat) (a n : Nat) : xpr f a (n + 1) = xpr f a n * f n := rfl
theorem xpr_le {f : Nat → Nat} {a q : Nat} (h : ∀ i, f i ≤ q) : ∀ n, xpr f a n ≤ a * q ^ n
  | 0 => by rw [Nat.pow_zero, Nat.mul_one]; exact Nat.le_refl a
  | n + 1 => by
    rw [xpr_s, Nat.pow_succ, ← Nat.mul_assoc]
    exact Nat.mul_le_mul (xpr_le h n) (h n)
def xnx (w : Nat → Nat) (n : Nat) : Nat × Nat := Nat.rec (motive := fun _ => Nat × Nat) (25, 0) (fun s c => if w s < c.1 then (w s, s) else c) n
theorem xnx_s (w : Nat → Nat) (n : Nat) : xnx w (n + 1) = if w n < (xnx w n).1 then (w n, n) else xnx w n := rfl
theorem xnx_le (w : Nat → Nat) : ∀ n, (xnx w n).1 ≤ 25 ∧ (xnx w n).2 ≤ n
  | 0 => ⟨Nat.le_refl _, Nat.le_refl _⟩
  | n + 1 => by
    have := xnx_le w n
    rw [xnx_s]
    split
    · dsimp only; omega
    · omega
theorem xfI_b {p : Nat → Bool} {n : Nat} (hn : n < 2 ^ 31) : ∀ d, xfst p n = some d → d < 2 ^ 31 := fun d h => by have := (xfst_lt h).1; omega
theorem xbw (p : Prop) [Decidable p] : (if p then (1 : Int32) else 0) = if decide p = true then 1 else 0 := by
  by_cases h : p <;> simp [h]

section
variable {k a c n n2 m t p s d i1 j1 : Nat} {b : Nat × Nat} {g : Nat → Nat → Int32} {l : Nat → Nat → Int64} {i j x y z v w : Int32} {u w1 w2 : Int64}
variable {L G T : Nat} {Lw : Nat → Nat}
set_option maxRecDepth 10000 in
theorem c_J6_bitCount  : xT (k + 1) 239 [.int x] (xH b g l) (fun r M' => M' = xH b g l ∧ r = some (.int (xbc x))) := by
  refine xT.of rfl (Nat.le_of_ble_eq_true rfl) ?_
  change xS _ _ 0 [(0, .int x)] [] _ _
  refine xS.s1 rfl rfl ?_
  try dsimp only [Nat.reduceAdd]
  refine xS.s1 rfl rfl ?_
  try dsimp only [Nat.reduceAdd]
  refine xS.s1 rfl rfl ?_
  try dsimp only [Nat.reduceAdd, xi_1]
  refine xS.s1 rfl rfl ?_
  try dsimp only [Nat.reduceAdd]
  refine xS.s1 rfl rfl ?_
  try dsimp only [Nat.reduceAdd]
  refine xS.s1 rfl rfl ?_
  try dsimp only [Nat.reduceAdd]
  refine xS.s1 rfl rfl ?_
  try dsimp only [Nat.reduceAdd]
  refine xS.s1 rfl rfl ?_
  try dsimp only [Nat.reduceAdd]
  refine xS.s1 rfl rfl ?_
  try dsimp only [Nat.reduceAdd]
  refine xS.s1 rfl rfl ?_
  try dsimp only [Nat.reduceAdd]
  refine xS.s1 rfl rfl ?_
  try dsimp only [Nat.reduceAdd]
  refine xS.s1 rfl rfl ?_
  try dsimp only [Nat.reduceAdd]
  refine xS.s1 rfl rfl ?_
  try dsimp only [Nat.reduceAdd, xi_2]
  refine xS.s1 rfl rfl ?_
  try dsimp only [Nat.reduceAdd]
  refine xS.s1 rfl rfl ?_
  try dsimp only [Nat.reduceAdd]
  refine xS.s1 rfl rfl ?_
  try dsimp only [Nat.reduceAdd]
  refine xS.s1 rfl rfl ?_
  try dsimp only [Nat.reduceAdd]
  refine xS.s1 rfl rfl ?_
  try dsimp only [Nat.reduceAdd]
  refine xS.s1 rfl rfl ?_
  try dsimp only [Nat.reduceAdd]
  refine xS.s1 rfl rfl ?_
  try dsimp only [Nat.reduceAdd]
  refine xS.s1 rfl rfl ?_
  try dsimp only [Nat.reduceAdd, xi_4]
  refine xS.s1 rfl rfl ?_
  try dsimp only [Nat.reduceAdd]
  refine xS.s1 rfl rfl ?_
  try dsimp only [Nat.reduceAdd]
  refine xS.s1 rfl rfl ?_
  try dsimp only [Nat.reduceAdd]
  refine xS.s1 rfl rfl ?_
  try dsimp only [Nat.reduceAdd]
  refine xS.s1 rfl rfl ?_
  try dsimp only [Nat.reduceAdd]
  refine xS.s1 rfl rfl ?_
  try dsimp only [Nat.reduceAdd]
  refine xS.s1 rfl rfl ?_
  try dsimp only [Nat.reduceAdd]
  refine xS.s1 rfl rfl ?_
  try dsimp only [Nat.reduceAdd, xj_8]
  refine xS.s1 rfl rfl ?_
  try dsimp only [Nat.reduceAdd]
  refine xS.s1 rfl rfl ?_
  try dsimp only [Nat.reduceAdd]
  refine xS.s1 rfl rfl ?_
  try dsimp only [Nat.reduceAdd]
  refine xS.s1 rfl rfl ?_
  try dsimp only [Nat.reduceAdd]
  refine xS.s1 rfl rfl ?_
  try dsimp only [Nat.reduceAdd]
  refine xS.s1 rfl rfl ?_
  try dsimp only [Nat.reduceAdd, xj_16]
  refine xS.s1 rfl rfl ?_
  try dsimp only [Nat.reduceAdd]
  refine xS.s1 rfl rfl ?_
  try dsimp only [Nat.reduceAdd]
  refine xS.s1 rfl rfl ?_
  try dsimp only [Nat.reduceAdd]
  refine xS.s1 rfl rfl ?_
  try dsimp only [Nat.reduceAdd]
  refine xS.s1 rfl rfl ?_
  try dsimp only [Nat.reduceAdd, xj_63]
  refine xS.s1 rfl rfl ?_
  try dsimp only [Nat.reduceAdd]
  refine xS.ret rfl rfl rfl (fun _ _ => rfl) ?_
  exact ⟨rfl, rfl⟩

set_option maxRecDepth 10000 in
theorem c_X11_show_bad (hb : xro b.1) (hx : ¬ ((0 ≤ x ∧ x < g b.1 2) ∧ (0 ≤ y ∧ y < 6) ∧ 0 ≤ z ∧ z < 6)) : xT (k + 5) 98 [.ref 0, .int x, .int y, .int z] (xH b g l) (fun r M' => M' = xH b g l ∧ r = some (.int (-1))) := by
  refine xT.of rfl (Nat.le_of_ble_eq_true rfl) ?_
  change xS _ _ 0 [(0, .ref 0), (1, .int x), (2, .int y), (3, .int z)] [] _ _
  refine xS.s1 rfl rfl ?_
  try dsimp only [Nat.reduceAdd]
  refine xS.s1 rfl rfl ?_
  try dsimp only [Nat.reduceAdd]
  -- 2 yX11_isGlass
  refine xS.cv rfl rfl rfl rfl rfl rfl ⟨by decide, rfl, rfl⟩ (c_X11_isGlass hb) (fun v M1 hv => ?_)
  rw [hv.1, hv.2]
  clear hv M1 v
  try dsimp only [Nat.reduceAdd, Option.toList, List.cons_append, List.nil_append, List.drop]
  refine xS.br0 (c := .eq) (off := 17) (l := 3) rfl rfl (fun h5 => ?_) (fun h5 => ?_)
  · have g5 := xt_eq h5
    refine xS.s1 rfl rfl ?_
    try dsimp only [Nat.reduceAdd, xi_m1]
    refine xS.ret rfl rfl rfl (fun _ _ => rfl) ?_
    exact ⟨rfl, rfl⟩
  · have g5 := xf_eq h5
    refine xS.s1 rfl rfl ?_
    try dsimp only [Nat.reduceAdd]
    -- 9 yX11_isRow
    refine xS.callS rfl rfl rfl ⟨Nat.le_of_ble_eq_true rfl, rfl⟩ c_X11_isRow (fun v M1 hv => ?_)
    rw [hv.1, hv.2]
    clear hv M1 v
    try dsimp only [Nat.reduceAdd, Option.toList, List.cons_append, List.nil_append, List.drop]
    refine xS.br0 (c := .eq) (off := 10) (l := 3) rfl rfl (fun h12 => ?_) (fun h12 => ?_)
    · have g12 := xt_eq h12
      refine xS.s1 rfl rfl ?_
      try dsimp only [Nat.reduceAdd, xi_m1]
      refine xS.ret rfl rfl rfl (fun _ _ => rfl) ?_
      exact ⟨rfl, rfl⟩
    · have g12 := xf_eq h12
      refine xS.s1 rfl rfl ?_
      try dsimp only [Nat.reduceAdd]
      -- 16 yX11_isRow
      refine xS.callS rfl rfl rfl ⟨Nat.le_of_ble_eq_true rfl, rfl⟩ c_X11_isRow (fun v M1 hv => ?_)
      rw [hv.1, hv.2]
      clear hv M1 v
      try dsimp only [Nat.reduceAdd, Option.toList, List.cons_append, List.nil_append, List.drop]
      refine xS.br0 (c := .ne) (off := 5) (l := 3) rfl rfl (fun h19 => ?_) (fun h19 => ?_)
      · have g19 := xt_ne h19
        exact absurd ⟨xif1 g5, xif1 g12, xif1 g19⟩ hx
      · have g19 := xf_ne h19
        refine xS.s1 rfl rfl ?_
        try dsimp only [Nat.reduceAdd, xi_m1]
        refine xS.ret rfl rfl rfl (fun _ _ => rfl) ?_
        exact ⟨rfl, rfl⟩

set_option maxRecDepth 10000 in
theorem c_X11_show_ref (hb : xro b.1) (hR : xRm g b.1 G T Lw) (hk : s < G) (ht : t < 6) (hz : xsz (g (23 + 2 * t) 1) 40) (hp1 : p < 6) (hf : (xfos (g (23 + 2 * t) 1) (g (23 + 2 * t + 1)) 12) ≠ 0) : xT (k + 5) 98 [.ref 0, .int (nI s), .int (nI t), .int (nI p)] (xH b g l) (fun r M' => M' = xH b (xfC g (xfos (g (23 + 2 * t) 1) (g (23 + 2 * t + 1)) 12)) l ∧ r = some (.int (-3))) := by
  refine xT.of rfl (Nat.le_of_ble_eq_true rfl) ?_
  change xS _ _ 0 [(0, .ref 0), (1, .int (nI s)), (2, .int (nI t)), (3, .int (nI p))] [] _ _
  refine xS.s1 rfl rfl ?_
  try dsimp only [Nat.reduceAdd]
  refine xS.s1 rfl rfl ?_
  try dsimp only [Nat.reduceAdd]
  -- 2 yX11_isGlass
  refine xS.cv rfl rfl rfl rfl rfl rfl ⟨by decide, rfl, rfl⟩ (c_X11_isGlass_in hb hR hk) (fun v M1 hv => ?_)
  rw [hv.1, hv.2]
  clear hv M1 v
  try dsimp only [Nat.reduceAdd, Option.toList, List.cons_append, List.nil_append, List.drop]
  refine xS.br0 (c := .eq) (off := 17) (l := 3) rfl rfl (fun h5 => ?_) (fun h5 => ?_)
  · have g5 := xt_eq h5
    exfalso; first | exact absurd g5 (by decide) | (simp (disch := omega) only [Int32.lt_iff_toInt_lt, Int32.le_iff_toInt_le, nI_toInt, Int32.reduceToInt] at g5 <;> omega)
  · have g5 := xf_eq h5
    refine xS.s1 rfl rfl ?_
    try dsimp only [Nat.reduceAdd]
    -- 9 yX11_isRow
    refine xS.callS rfl rfl rfl ⟨Nat.le_of_ble_eq_true rfl, rfl⟩ (c_X11_isRow_in ht) (fun v M1 hv => ?_)
    rw [hv.1, hv.2]
    clear hv M1 v
    try dsimp only [Nat.reduceAdd, Option.toList, List.cons_append, List.nil_append, List.drop]
    refine xS.br0 (c := .eq) (off := 10) (l := 3) rfl rfl (fun h12 => ?_) (fun h12 => ?_)
    · have g12 := xt_eq h12
      exfalso; first | exact absurd g12 (by decide) | (simp (disch := omega) only [Int32.lt_iff_toInt_lt, Int32.le_iff_toInt_le, nI_toInt, Int32.reduceToInt] at g12 <;> omega)
    · have g12 := xf_eq h12
      refine xS.s1 rfl rfl ?_
      try dsimp only [Nat.reduceAdd]
      -- 16 yX11_isRow
      refine xS.callS rfl rfl rfl ⟨Nat.le_of_ble_eq_true rfl, rfl⟩ (c_X11_isRow_in hp1) (fun v M1 hv => ?_)
      rw [hv.1, hv.2]
      clear hv M1 v
      try dsimp only [Nat.reduceAdd, Option.toList, List.cons_append, List.nil_append, List.drop]
      refine xS.br0 (c := .ne) (off := 5) (l := 3) rfl rfl (fun h19 => ?_) (fun h19 => ?_)
      · have g19 := xt_ne h19
        refine xS.s1 rfl rfl ?_
        try dsimp only [Nat.reduceAdd]
        refine xS.gR rfl rfl rfl ⟨by decide, rfl⟩ rfl ?_
        try dsimp only [Nat.reduceAdd]
        refine xS.s1 rfl rfl ?_
        try dsimp only [Nat.reduceAdd]
        refine xS.aR rfl rfl (by decide) (by omega) (xsh1_get (by omega)) ?_
        try dsimp only [Nat.reduceAdd]
        refine xS.s1 rfl rfl ?_
        try dsimp only [Nat.reduceAdd, xj_12]
        -- 32 yX11_findingOfSteps
        refine xS.callS rfl rfl rfl ⟨Nat.le_of_ble_eq_true rfl, rfl⟩ (c_X11_findingOfSteps (xce_row ht) hz (by decide)) (fun v M1 hv => ?_)
        rw [hv.1, hv.2]
        clear hv M1 v
        try dsimp only [Nat.reduceAdd, Option.toList, List.cons_append, List.nil_append, List.drop]
        refine xS.s1 rfl rfl ?_
        try dsimp only [Nat.reduceAdd]
        refine xS.s1 rfl rfl ?_
        try dsimp only [Nat.reduceAdd]
        refine xS.br0 (c := .eq) (off := 10) (l := 3) rfl rfl (fun h39 => ?_) (fun h39 => ?_)
        · have g39 := xt_eq h39
          exact absurd ((nI_eq (b := 0) (by have := xfos_le (g (23 + 2 * t) 1) (g (23 + 2 * t + 1)) 12; omega) (by omega)).mp g39) hf
        · have g39 := xf_eq h39
          refine xS.s1 rfl rfl ?_
          try dsimp only [Nat.reduceAdd]
          refine xS.s1 rfl rfl ?_
          try dsimp only [Nat.reduceAdd]
          -- 45 yX11_refuse
          refine xS.cv rfl rfl rfl rfl rfl rfl ⟨by decide, rfl, rfl⟩ (c_X11_refuse (t := (xfos (g (23 + 2 * t) 1) (g (23 + 2 * t + 1)) 12)) (by omega) (xfos_le _ _ _)) (fun v M1 hv => ?_)
          rw [hv.1, hv.2]
          clear hv M1 v
          try dsimp only [Nat.reduceAdd, Option.toList, List.cons_append, List.nil_append, List.drop]
          refine xS.ret rfl rfl rfl (fun _ _ => rfl) ?_
          exact ⟨rfl, rfl⟩
      · have g19 := xf_ne h19
        exfalso; first | exact absurd g19 (by decide) | (simp (disch := omega) only [Int32.lt_iff_toInt_lt, Int32.le_iff_toInt_le, nI_toInt, Int32.reduceToInt] at g19 <;> omega)

set_option maxRecDepth 10000 in
theorem c_X11_show_ok (hb : xro b.1) (hR : xRm g b.1 G T Lw) (hp : xpn g) (hbv : b.1 = 7 ∨ b.1 = 11) (hk : s < G) (ht : t < 6) (hp1 : p < 6) (hs : g (23 + 2 * t) 1 = nI m) (hm : m ≤ 12) (hf : xfos (g (23 + 2 * t) 1) (g (23 + 2 * t + 1)) 12 = 0) (hx : ∀ i, i < m → xstp (g (23 + 2 * t + 1) i)) : xT (k + 5) 98 [.ref 0, .int (nI s), .int (nI t), .int (nI p)] (xH b g l) (fun r M' => M' = xH b (gset (gfill (up (gcopy (up g 15 1 (nI m)) (23 + 2 * t + 1) 0 (15 + 1) 0 m) (23 + 2 * p) 1 (nI m)) (23 + 2 * p + 1) m 0) (23 + 2 * p + 1) m (xshw (g (b.1 + 1)) (Lw s / 4) (Lw s % 4) (fun i => xN (g (23 + 2 * t + 1) i)))) l ∧ r = some (.int (nI m))) := by
  have hz : xsz (g (23 + 2 * t) 1) 40 := Or.inr ⟨m, by omega, hs⟩
  refine xT.of rfl (Nat.le_of_ble_eq_true rfl) ?_
  change xS _ _ 0 [(0, .ref 0), (1, .int (nI s)), (2, .int (nI t)), (3, .int (nI p))] [] _ _
  refine xS.s1 rfl rfl ?_
  try dsimp only [Nat.reduceAdd]
  refine xS.s1 rfl rfl ?_
  try dsimp only [Nat.reduceAdd]
  -- 2 yX11_isGlass
  refine xS.cv rfl rfl rfl rfl rfl rfl ⟨by decide, rfl, rfl⟩ (c_X11_isGlass_in hb hR hk) (fun v M1 hv => ?_)
  rw [hv.1, hv.2]
  clear hv M1 v
  try dsimp only [Nat.reduceAdd, Option.toList, List.cons_append, List.nil_append, List.drop]
  refine xS.br0 (c := .eq) (off := 17) (l := 3) rfl rfl (fun h5 => ?_) (fun h5 => ?_)
  · have g5 := xt_eq h5
    exfalso; first | exact absurd g5 (by decide) | (simp (disch := omega) only [Int32.lt_iff_toInt_lt, Int32.le_iff_toInt_le, nI_toInt, Int32.reduceToInt] at g5 <;> omega)
  · have g5 := xf_eq h5
    refine xS.s1 rfl rfl ?_
    try dsimp only [Nat.reduceAdd]
    -- 9 yX11_isRow
    refine xS.callS rfl rfl rfl ⟨Nat.le_of_ble_eq_true rfl, rfl⟩ (c_X11_isRow_in ht) (fun v M1 hv => ?_)
    rw [hv.1, hv.2]
    clear hv M1 v
    try dsimp only [Nat.reduceAdd, Option.toList, List.cons_append, List.nil_append, List.drop]
    refine xS.br0 (c := .eq) (off := 10) (l := 3) rfl rfl (fun h12 => ?_) (fun h12 => ?_)
    · have g12 := xt_eq h12
      exfalso; first | exact absurd g12 (by decide) | (simp (disch := omega) only [Int32.lt_iff_toInt_lt, Int32.le_iff_toInt_le, nI_toInt, Int32.reduceToInt] at g12 <;> omega)
    · have g12 := xf_eq h12
      refine xS.s1 rfl rfl ?_
      try dsimp only [Nat.reduceAdd]
      -- 16 yX11_isRow
      refine xS.callS rfl rfl rfl ⟨Nat.le_of_ble_eq_true rfl, rfl⟩ (c_X11_isRow_in hp1) (fun v M1 hv => ?_)
      rw [hv.1, hv.2]
      clear hv M1 v
      try dsimp only [Nat.reduceAdd, Option.toList, List.cons_append, List.nil_append, List.drop]
      refine xS.br0 (c := .ne) (off := 5) (l := 3) rfl rfl (fun h19 => ?_) (fun h19 => ?_)
      · have g19 := xt_ne h19
        refine xS.s1 rfl rfl ?_
        try dsimp only [Nat.reduceAdd]
        refine xS.gR rfl rfl rfl ⟨by decide, rfl⟩ rfl ?_
        try dsimp only [Nat.reduceAdd]
        refine xS.s1 rfl rfl ?_
        try dsimp only [Nat.reduceAdd]
        refine xS.aR rfl rfl (by decide) (by omega) (xsh1_get (by omega)) ?_
        try dsimp only [Nat.reduceAdd]
        refine xS.s1 rfl rfl ?_
        try dsimp only [Nat.reduceAdd, xj_12]
        -- 32 yX11_findingOfSteps
        refine xS.callS rfl rfl rfl ⟨Nat.le_of_ble_eq_true rfl, rfl⟩ (c_X11_findingOfSteps (xce_row ht) hz (by decide)) (fun v M1 hv => ?_)
        rw [hv.1, hv.2, hf]
        clear hv M1 v
        try dsimp only [Nat.reduceAdd, Option.toList, List.cons_append, List.nil_append, List.drop]
        refine xS.s1 rfl rfl ?_
        try dsimp only [Nat.reduceAdd]
        refine xS.s1 rfl rfl ?_
        try dsimp only [Nat.reduceAdd]
        refine xS.br0 (c := .eq) (off := 10) (l := 3) rfl rfl (fun h39 => ?_) (fun h39 => ?_)
        · have g39 := xt_eq h39
          refine xS.s1 rfl rfl ?_
          try dsimp only [Nat.reduceAdd]
          refine xS.gR rfl rfl rfl ⟨by decide, rfl⟩ rfl ?_
          try dsimp only [Nat.reduceAdd]
          refine xS.s1 rfl rfl ?_
          try dsimp only [Nat.reduceAdd]
          refine xS.gR rfl rfl rfl ⟨by decide, rfl⟩ rfl ?_
          try dsimp only [Nat.reduceAdd]
          refine xS.s1 rfl rfl ?_
          try dsimp only [Nat.reduceAdd]
          refine xS.aR rfl rfl (by decide) (by omega) (xsh1_get (by omega)) ?_
          try dsimp only [Nat.reduceAdd]
          -- 59 yX0_takeAll
          refine xS.cv rfl rfl rfl (xce_trial.1 _) rfl rfl ⟨by decide, rfl, rfl⟩ (c_X0_takeAll xce_trial (xce_row ht) hs hm (by omega) (by omega) (by omega) (by omega)) (fun v M1 hv => ?_)
          rw [hv.1, hv.2]
          clear hv M1 v
          try dsimp only [Nat.reduceAdd, Option.toList, List.cons_append, List.nil_append, List.drop]
          refine xS.s1 rfl rfl ?_
          try dsimp only [Nat.reduceAdd]
          refine xS.s1 rfl rfl ?_
          try dsimp only [Nat.reduceAdd]
          -- 64 yX11_paneOf
          refine xS.cv rfl rfl rfl rfl rfl rfl ⟨by decide, rfl, rfl⟩ (c_X11_paneOf hb (xRm_fr (fun i _ _ => by rw [gcopy_na (by omega), up_na (by omega)]) hR) hk) (fun v M1 hv => ?_)
          rw [hv.1, hv.2]
          clear hv M1 v
          try dsimp only [Nat.reduceAdd, Option.toList, List.cons_append, List.nil_append, List.drop]
          refine xS.s1 rfl rfl ?_
          try dsimp only [Nat.reduceAdd]
          refine xS.s1 rfl rfl ?_
          try dsimp only [Nat.reduceAdd]
          refine xS.gR rfl rfl rfl ⟨by decide, rfl⟩ rfl ?_
          try dsimp only [Nat.reduceAdd]
          -- 73 yX0_size
          refine xS.cv rfl rfl rfl (xce_trial.1 _) rfl rfl ⟨by decide, rfl, rfl⟩ (c_X0_size xce_trial) (fun v M1 hv => ?_)
          rw [hv.1, hv.2, gcopy_na (by decide), up_same]
          clear hv M1 v
          try dsimp only [Nat.reduceAdd, Option.toList, List.cons_append, List.nil_append, List.drop]
          refine xS.s1 rfl rfl ?_
          try dsimp only [Nat.reduceAdd]
          refine xS.s1 rfl rfl ?_
          try dsimp only [Nat.reduceAdd]
          refine xS.gR rfl rfl rfl ⟨by decide, rfl⟩ rfl ?_
          try dsimp only [Nat.reduceAdd]
          refine xS.s1 rfl rfl ?_
          try dsimp only [Nat.reduceAdd]
          refine xS.aR rfl rfl (by decide) (by omega) (xsh1_get (by omega)) ?_
          try dsimp only [Nat.reduceAdd]
          refine xS.s1 rfl rfl ?_
          try dsimp only [Nat.reduceAdd]
          refine xS.s1 rfl rfl ?_
          try dsimp only [Nat.reduceAdd, xi_0]
          -- 87 yX0_open
          refine xS.cv rfl rfl rfl ((xce_row (r := p) (by omega)).1 _) rfl rfl ⟨by decide, rfl, rfl⟩ (c_X0_open (xce_row hp1) (by omega)) (fun v M1 hv => ?_)
          rw [hv.1, hv.2]
          clear hv M1 v
          try dsimp only [Nat.reduceAdd, Option.toList, List.cons_append, List.nil_append, List.drop]
          refine xS.s1 rfl rfl ?_
          try dsimp only [Nat.reduceAdd, xi_0]
          refine xS.s1 rfl rfl ?_
          try dsimp only [Nat.reduceAdd]
          refine xS.pick [0, 4, 7, 2, 1] rfl ?_
          refine xS.loop (σ := Unit) (m) (fun j S => [(7, .int (nI j)), (0, .ref 0), (3, .int (nI p)), (5, .ref (43 + Lw s)), (6, .int (nI m))]) (fun j _ => xH b (gset (gfill (up (gcopy (up g 15 1 (nI m)) (23 + 2 * t + 1) 0 (15 + 1) 0 m) (23 + 2 * p) 1 (nI m)) (23 + 2 * p + 1) m 0) (23 + 2 * p + 1) j (xshw (g (b.1 + 1)) (Lw s / 4) (Lw s % 4) (fun i => xN (g (23 + 2 * t + 1) i)))) l) (fun _ _ => True) (()) (rfl) (by rw [gset_0]) (trivial) ?_
          intro j S hj hI ih
          try dsimp only
          have e1 : gset (gfill (up (gcopy (up g 15 1 (nI m)) (23 + 2 * t + 1) 0 (15 + 1) 0 m) (23 + 2 * p) 1 (nI m)) (23 + 2 * p + 1) m 0) (23 + 2 * p + 1) j (xshw (g (b.1 + 1)) (Lw s / 4) (Lw s % 4) (fun i => xN (g (23 + 2 * t + 1) i))) (b.1 + 1) = g (b.1 + 1) := by rw [gset_na (by omega), gfill_na (by omega), up_na (by omega), gcopy_na (by omega), up_na (by omega)]
          have hp2 : xpn (gset (gfill (up (gcopy (up g 15 1 (nI m)) (23 + 2 * t + 1) 0 (15 + 1) 0 m) (23 + 2 * p) 1 (nI m)) (23 + 2 * p + 1) m 0) (23 + 2 * p + 1) j (xshw (g (b.1 + 1)) (Lw s / 4) (Lw s % 4) (fun i => xN (g (23 + 2 * t + 1) i)))) := xpn_fr (fun i _ _ => by rw [gset_na (by omega), gfill_na (by omega), up_na (by omega), gcopy_na (by omega), up_na (by omega)]) hp
          have e15 : gset (gfill (up (gcopy (up g 15 1 (nI m)) (23 + 2 * t + 1) 0 (15 + 1) 0 m) (23 + 2 * p) 1 (nI m)) (23 + 2 * p + 1) m 0) (23 + 2 * p + 1) j (xshw (g (b.1 + 1)) (Lw s / 4) (Lw s % 4) (fun i => xN (g (23 + 2 * t + 1) i))) 15 1 = nI m := by rw [gset_na (by omega), gfill_na (by omega), up_na (by omega), gcopy_na (by omega), up_same]
          have e16 : ∀ i, i < m → gset (gfill (up (gcopy (up g 15 1 (nI m)) (23 + 2 * t + 1) 0 (15 + 1) 0 m) (23 + 2 * p) 1 (nI m)) (23 + 2 * p + 1) m 0) (23 + 2 * p + 1) j (xshw (g (b.1 + 1)) (Lw s / 4) (Lw s % 4) (fun i => xN (g (23 + 2 * t + 1) i))) 16 i = g (23 + 2 * t + 1) i := fun i hi => by
            rw [gset_na (by omega), gfill_na (by omega), up_na (by omega)]
            show gcopy (up g 15 1 (nI m)) (23 + 2 * t + 1) 0 16 0 m 16 i = _
            have := gcopy_in (g := up g 15 1 (nI m)) (sa := 23 + 2 * t + 1) (si := 0) (da := 16) (di := 0) hi
            rw [Nat.zero_add, up_na (by omega)] at this
            exact this
          have ep : gset (gfill (up (gcopy (up g 15 1 (nI m)) (23 + 2 * t + 1) 0 (15 + 1) 0 m) (23 + 2 * p) 1 (nI m)) (23 + 2 * p + 1) m 0) (23 + 2 * p + 1) j (xshw (g (b.1 + 1)) (Lw s / 4) (Lw s % 4) (fun i => xN (g (23 + 2 * t + 1) i))) (23 + 2 * p) 1 = nI m := by rw [gset_na (by omega), gfill_na (by omega), up_same]
          refine xS.s1 rfl rfl ?_
          try dsimp only [Nat.reduceAdd]
          refine xS.s1 rfl rfl ?_
          try dsimp only [Nat.reduceAdd]
          refine xS.br (c := .ge) (off := 35) (l := 3) rfl rfl (fun h97 => ?_) (fun h97 => ?_)
          · have g97 := xt_ge h97
            refine xS.s1 rfl rfl ?_
            try dsimp only [Nat.reduceAdd]
            refine xS.ret rfl rfl rfl (fun _ _ => rfl) ?_
            have e := xnle g97 (by omega) (by omega)
            have e2 : m = j := by omega
            subst e2
            exact ⟨rfl, rfl⟩
          · have g97 := xf_ge h97
            have hlt := xnlt g97 (by omega) (by omega)
            refine xS.s1 rfl rfl ?_
            try dsimp only [Nat.reduceAdd]
            refine xS.gR rfl rfl rfl ⟨by decide, rfl⟩ rfl ?_
            try dsimp only [Nat.reduceAdd]
            refine xS.s1 rfl rfl ?_
            try dsimp only [Nat.reduceAdd]
            refine xS.aR rfl rfl (by decide) (by omega) (xsh1_get (by omega)) ?_
            try dsimp only [Nat.reduceAdd]
            refine xS.s1 rfl rfl ?_
            try dsimp only [Nat.reduceAdd]
            refine xS.s1 rfl rfl ?_
            try dsimp only [Nat.reduceAdd]
            refine xS.gR rfl rfl rfl ⟨by decide, rfl⟩ rfl ?_
            try dsimp only [Nat.reduceAdd]
            refine xS.s1 rfl rfl ?_
            try dsimp only [Nat.reduceAdd]
            refine xS.s1 rfl rfl ?_
            try dsimp only [Nat.reduceAdd]
            refine xS.gR rfl rfl rfl ⟨by decide, rfl⟩ rfl ?_
            try dsimp only [Nat.reduceAdd]
            refine xS.s1 rfl rfl ?_
            try dsimp only [Nat.reduceAdd]
            -- 120 yX8_shown
            refine xS.cv rfl rfl rfl (hb.1 _) rfl rfl ⟨by decide, rfl, rfl⟩ (c_X8_shown_C hb xce_trial hp2 (hR.2.2.1 s hk).2 (by omega) e15 hm (fun u h => ⟨Nat.lt_of_le_of_lt (xsrc_le h) hlt, by show xstp (gset _ _ _ _ 16 u); rw [e16 u (Nat.lt_of_le_of_lt (xsrc_le h) hlt)]; exact hx u (Nat.lt_of_le_of_lt (xsrc_le h) hlt)⟩)) (fun v M1 hv => ?_)
            rw [hv.1, hv.2, e1, xshw_congr (f' := fun i => xN (g (23 + 2 * t + 1) i)) (fun u hu => by show xN (gset _ _ _ _ 16 u) = _; rw [e16 u (by omega)])]
            clear hv M1 v
            try dsimp only [Nat.reduceAdd, Option.toList, List.cons_append, List.nil_append, List.drop]
            -- 123 yX0_set
            refine xS.cv rfl rfl rfl ((xce_row (r := p) (by omega)).1 _) rfl rfl ⟨by decide, rfl, rfl⟩ (c_X0_set (xce_row hp1) ep (by omega) hlt) (fun v M1 hv => ?_)
            rw [hv.1, hv.2]
            clear hv M1 v
            try dsimp only [Nat.reduceAdd, Option.toList, List.cons_append, List.nil_append, List.drop]
            refine xS.s1 rfl rfl ?_
            try dsimp only [Nat.reduceAdd, xi_1]
            rw [nI_1]
            refine xS.s1 rfl rfl ?_
            try dsimp only [Nat.reduceAdd]
            refine xS.pick [0, 1, 2, 3, 4] rfl ?_
            rw [gset_s]
            exact ih () (by omega) trivial
        · have g39 := xf_eq h39
          exfalso; first | exact absurd g39 (by decide) | (simp (disch := omega) only [Int32.lt_iff_toInt_lt, Int32.le_iff_toInt_le, nI_toInt, Int32.reduceToInt] at g39 <;> omega)
      · have g19 := xf_ne h19
        exfalso; first | exact absurd g19 (by decide) | (simp (disch := omega) only [Int32.lt_iff_toInt_lt, Int32.le_iff_toInt_le, nI_toInt, Int32.reduceToInt] at g19 <;> omega)

set_option maxRecDepth 10000 in
theorem c_X11_breaks_bad (hb : xro b.1) (hx : ¬ ((0 ≤ x ∧ x < g b.1 2) ∧ 0 ≤ y ∧ y < 6)) : xT (k + 5) 99 [.ref 0, .int x, .int y] (xH b g l) (fun r M' => M' = xH b g l ∧ r = some (.int (-1))) := by
  refine xT.of rfl (Nat.le_of_ble_eq_true rfl) ?_
  change xS _ _ 0 [(0, .ref 0), (1, .int x), (2, .int y)] [] _ _
  refine xS.s1 rfl rfl ?_
  try dsimp only [Nat.reduceAdd]
  refine xS.s1 rfl rfl ?_
  try dsimp only [Nat.reduceAdd]
  -- 2 yX11_isGlass
  refine xS.cv rfl rfl rfl rfl rfl rfl ⟨by decide, rfl, rfl⟩ (c_X11_isGlass hb) (fun v M1 hv => ?_)
  rw [hv.1, hv.2]
  clear hv M1 v
  try dsimp only [Nat.reduceAdd, Option.toList, List.cons_append, List.nil_append, List.drop]
  refine xS.br0 (c := .eq) (off := 10) (l := 3) rfl rfl (fun h5 => ?_) (fun h5 => ?_)
  · have g5 := xt_eq h5
    refine xS.s1 rfl rfl ?_
    try dsimp only [Nat.reduceAdd, xi_m1]
    refine xS.ret rfl rfl rfl (fun _ _ => rfl) ?_
    exact ⟨rfl, rfl⟩
  · have g5 := xf_eq h5
    refine xS.s1 rfl rfl ?_
    try dsimp only [Nat.reduceAdd]
    -- 9 yX11_isRow
    refine xS.callS rfl rfl rfl ⟨Nat.le_of_ble_eq_true rfl, rfl⟩ c_X11_isRow (fun v M1 hv => ?_)
    rw [hv.1, hv.2]
    clear hv M1 v
    try dsimp only [Nat.reduceAdd, Option.toList, List.cons_append, List.nil_append, List.drop]
    refine xS.br0 (c := .ne) (off := 5) (l := 3) rfl rfl (fun h12 => ?_) (fun h12 => ?_)
    · have g12 := xt_ne h12
      exact absurd ⟨xif1 g5, xif1 g12⟩ hx
    · have g12 := xf_ne h12
      refine xS.s1 rfl rfl ?_
      try dsimp only [Nat.reduceAdd, xi_m1]
      refine xS.ret rfl rfl rfl (fun _ _ => rfl) ?_
      exact ⟨rfl, rfl⟩

set_option maxRecDepth 10000 in
theorem c_X11_breaks_ref (hb : xro b.1) (hR : xRm g b.1 G T Lw) (hk : s < G) (ht : t < 6) (hz : xsz (g (23 + 2 * t) 1) 40) (hf : (xfos (g (23 + 2 * t) 1) (g (23 + 2 * t + 1)) 12) ≠ 0) : xT (k + 5) 99 [.ref 0, .int (nI s), .int (nI t)] (xH b g l) (fun r M' => M' = xH b (xfC g (xfos (g (23 + 2 * t) 1) (g (23 + 2 * t + 1)) 12)) l ∧ r = some (.int (-3))) := by
  refine xT.of rfl (Nat.le_of_ble_eq_true rfl) ?_
  change xS _ _ 0 [(0, .ref 0), (1, .int (nI s)), (2, .int (nI t))] [] _ _
  refine xS.s1 rfl rfl ?_
  try dsimp only [Nat.reduceAdd]
  refine xS.s1 rfl rfl ?_
  try dsimp only [Nat.reduceAdd]
  -- 2 yX11_isGlass
  refine xS.cv rfl rfl rfl rfl rfl rfl ⟨by decide, rfl, rfl⟩ (c_X11_isGlass_in hb hR hk) (fun v M1 hv => ?_)
  rw [hv.1, hv.2]
  clear hv M1 v
  try dsimp only [Nat.reduceAdd, Option.toList, List.cons_append, List.nil_append, List.drop]
  refine xS.br0 (c := .eq) (off := 10) (l := 3) rfl rfl (fun h5 => ?_) (fun h5 => ?_)
  · have g5 := xt_eq h5
    exfalso; first | exact absurd g5 (by decide) | (simp (disch := omega) only [Int32.lt_iff_toInt_lt, Int32.le_iff_toInt_le, nI_toInt, Int32.reduceToInt] at g5 <;> omega)
  · have g5 := xf_eq h5
    refine xS.s1 rfl rfl ?_
    try dsimp only [Nat.reduceAdd]
    -- 9 yX11_isRow
    refine xS.callS rfl rfl rfl ⟨Nat.le_of_ble_eq_true rfl, rfl⟩ (c_X11_isRow_in ht) (fun v M1 hv => ?_)
    rw [hv.1, hv.2]
    clear hv M1 v
    try dsimp only [Nat.reduceAdd, Option.toList, List.cons_append, List.nil_append, List.drop]
    refine xS.br0 (c := .ne) (off := 5) (l := 3) rfl rfl (fun h12 => ?_) (fun h12 => ?_)
    · have g12 := xt_ne h12
      refine xS.s1 rfl rfl ?_
      try dsimp only [Nat.reduceAdd]
      refine xS.gR rfl rfl rfl ⟨by decide, rfl⟩ rfl ?_
      try dsimp only [Nat.reduceAdd]
      refine xS.s1 rfl rfl ?_
      try dsimp only [Nat.reduceAdd]
      refine xS.aR rfl rfl (by decide) (by omega) (xsh1_get (by omega)) ?_
      try dsimp only [Nat.reduceAdd]
      refine xS.s1 rfl rfl ?_
      try dsimp only [Nat.reduceAdd, xj_12]
      -- 25 yX11_findingOfSteps
      refine xS.callS rfl rfl rfl ⟨Nat.le_of_ble_eq_true rfl, rfl⟩ (c_X11_findingOfSteps (xce_row ht) hz (by decide)) (fun v M1 hv => ?_)
      rw [hv.1, hv.2]
      clear hv M1 v
      try dsimp only [Nat.reduceAdd, Option.toList, List.cons_append, List.nil_append, List.drop]
      refine xS.s1 rfl rfl ?_
      try dsimp only [Nat.reduceAdd]
      refine xS.s1 rfl rfl ?_
      try dsimp only [Nat.reduceAdd]
      refine xS.br0 (c := .eq) (off := 9) (l := 3) rfl rfl (fun h30 => ?_) (fun h30 => ?_)
      · have g30 := xt_eq h30
        exact absurd ((nI_eq (b := 0) (by have := xfos_le (g (23 + 2 * t) 1) (g (23 + 2 * t + 1)) 12; omega) (by omega)).mp g30) hf
      · have g30 := xf_eq h30
        refine xS.s1 rfl rfl ?_
        try dsimp only [Nat.reduceAdd]
        refine xS.s1 rfl rfl ?_
        try dsimp only [Nat.reduceAdd]
        -- 35 yX11_refuse
        refine xS.cv rfl rfl rfl rfl rfl rfl ⟨by decide, rfl, rfl⟩ (c_X11_refuse (t := (xfos (g (23 + 2 * t) 1) (g (23 + 2 * t + 1)) 12)) (by omega) (xfos_le _ _ _)) (fun v M1 hv => ?_)
        rw [hv.1, hv.2]
        clear hv M1 v
        try dsimp only [Nat.reduceAdd, Option.toList, List.cons_append, List.nil_append, List.drop]
        refine xS.ret rfl rfl rfl (fun _ _ => rfl) ?_
        exact ⟨rfl, rfl⟩
    · have g12 := xf_ne h12
      exfalso; first | exact absurd g12 (by decide) | (simp (disch := omega) only [Int32.lt_iff_toInt_lt, Int32.le_iff_toInt_le, nI_toInt, Int32.reduceToInt] at g12 <;> omega)

set_option maxRecDepth 10000 in
theorem c_X11_alike_bad (hb : xro b.1) (hx : ¬ ((0 ≤ x ∧ x < g b.1 2) ∧ 0 ≤ y ∧ y < 6)) : xT (k + 5) 100 [.ref 0, .int x, .int y] (xH b g l) (fun r M' => M' = xH b g l ∧ r = some (.int (-1))) := by
  refine xT.of rfl (Nat.le_of_ble_eq_true rfl) ?_
  change xS _ _ 0 [(0, .ref 0), (1, .int x), (2, .int y)] [] _ _
  refine xS.s1 rfl rfl ?_
  try dsimp only [Nat.reduceAdd]
  refine xS.s1 rfl rfl ?_
  try dsimp only [Nat.reduceAdd]
  -- 2 yX11_isGlass
  refine xS.cv rfl rfl rfl rfl rfl rfl ⟨by decide, rfl, rfl⟩ (c_X11_isGlass hb) (fun v M1 hv => ?_)
  rw [hv.1, hv.2]
  clear hv M1 v
  try dsimp only [Nat.reduceAdd, Option.toList, List.cons_append, List.nil_append, List.drop]
  refine xS.br0 (c := .eq) (off := 10) (l := 3) rfl rfl (fun h5 => ?_) (fun h5 => ?_)
  · have g5 := xt_eq h5
    refine xS.s1 rfl rfl ?_
    try dsimp only [Nat.reduceAdd, xi_m1]
    refine xS.ret rfl rfl rfl (fun _ _ => rfl) ?_
    exact ⟨rfl, rfl⟩
  · have g5 := xf_eq h5
    refine xS.s1 rfl rfl ?_
    try dsimp only [Nat.reduceAdd]
    -- 9 yX11_isRow
    refine xS.callS rfl rfl rfl ⟨Nat.le_of_ble_eq_true rfl, rfl⟩ c_X11_isRow (fun v M1 hv => ?_)
    rw [hv.1, hv.2]
    clear hv M1 v
    try dsimp only [Nat.reduceAdd, Option.toList, List.cons_append, List.nil_append, List.drop]
    refine xS.br0 (c := .ne) (off := 5) (l := 3) rfl rfl (fun h12 => ?_) (fun h12 => ?_)
    · have g12 := xt_ne h12
      exact absurd ⟨xif1 g5, xif1 g12⟩ hx
    · have g12 := xf_ne h12
      refine xS.s1 rfl rfl ?_
      try dsimp only [Nat.reduceAdd, xi_m1]
      refine xS.ret rfl rfl rfl (fun _ _ => rfl) ?_
      exact ⟨rfl, rfl⟩

set_option maxRecDepth 10000 in
theorem c_X11_alike_ref (hb : xro b.1) (hR : xRm g b.1 G T Lw) (hk : s < G) (ht : t < 6) (hz : xsz (g (23 + 2 * t) 1) 40) (hf : (xfos (g (23 + 2 * t) 1) (g (23 + 2 * t + 1)) 12) ≠ 0) : xT (k + 5) 100 [.ref 0, .int (nI s), .int (nI t)] (xH b g l) (fun r M' => M' = xH b (xfC g (xfos (g (23 + 2 * t) 1) (g (23 + 2 * t + 1)) 12)) l ∧ r = some (.int (-3))) := by
  refine xT.of rfl (Nat.le_of_ble_eq_true rfl) ?_
  change xS _ _ 0 [(0, .ref 0), (1, .int (nI s)), (2, .int (nI t))] [] _ _
  refine xS.s1 rfl rfl ?_
  try dsimp only [Nat.reduceAdd]
  refine xS.s1 rfl rfl ?_
  try dsimp only [Nat.reduceAdd]
  -- 2 yX11_isGlass
  refine xS.cv rfl rfl rfl rfl rfl rfl ⟨by decide, rfl, rfl⟩ (c_X11_isGlass_in hb hR hk) (fun v M1 hv => ?_)
  rw [hv.1, hv.2]
  clear hv M1 v
  try dsimp only [Nat.reduceAdd, Option.toList, List.cons_append, List.nil_append, List.drop]
  refine xS.br0 (c := .eq) (off := 10) (l := 3) rfl rfl (fun h5 => ?_) (fun h5 => ?_)
  · have g5 := xt_eq h5
    exfalso; first | exact absurd g5 (by decide) | (simp (disch := omega) only [Int32.lt_iff_toInt_lt, Int32.le_iff_toInt_le, nI_toInt, Int32.reduceToInt] at g5 <;> omega)
  · have g5 := xf_eq h5
    refine xS.s1 rfl rfl ?_
    try dsimp only [Nat.reduceAdd]
    -- 9 yX11_isRow
    refine xS.callS rfl rfl rfl ⟨Nat.le_of_ble_eq_true rfl, rfl⟩ (c_X11_isRow_in ht) (fun v M1 hv => ?_)
    rw [hv.1, hv.2]
    clear hv M1 v
    try dsimp only [Nat.reduceAdd, Option.toList, List.cons_append, List.nil_append, List.drop]
    refine xS.br0 (c := .ne) (off := 5) (l := 3) rfl rfl (fun h12 => ?_) (fun h12 => ?_)
    · have g12 := xt_ne h12
      refine xS.s1 rfl rfl ?_
      try dsimp only [Nat.reduceAdd]
      refine xS.gR rfl rfl rfl ⟨by decide, rfl⟩ rfl ?_
      try dsimp only [Nat.reduceAdd]
      refine xS.s1 rfl rfl ?_
      try dsimp only [Nat.reduceAdd]
      refine xS.aR rfl rfl (by decide) (by omega) (xsh1_get (by omega)) ?_
      try dsimp only [Nat.reduceAdd]
      refine xS.s1 rfl rfl ?_
      try dsimp only [Nat.reduceAdd, xj_12]
      -- 25 yX11_findingOfSteps
      refine xS.callS rfl rfl rfl ⟨Nat.le_of_ble_eq_true rfl, rfl⟩ (c_X11_findingOfSteps (xce_row ht) hz (by decide)) (fun v M1 hv => ?_)
      rw [hv.1, hv.2]
      clear hv M1 v
      try dsimp only [Nat.reduceAdd, Option.toList, List.cons_append, List.nil_append, List.drop]
      refine xS.s1 rfl rfl ?_
      try dsimp only [Nat.reduceAdd]
      refine xS.s1 rfl rfl ?_
      try dsimp only [Nat.reduceAdd]
      refine xS.br0 (c := .eq) (off := 9) (l := 3) rfl rfl (fun h30 => ?_) (fun h30 => ?_)
      · have g30 := xt_eq h30
        exact absurd ((nI_eq (b := 0) (by have := xfos_le (g (23 + 2 * t) 1) (g (23 + 2 * t + 1)) 12; omega) (by omega)).mp g30) hf
      · have g30 := xf_eq h30
        refine xS.s1 rfl rfl ?_
        try dsimp only [Nat.reduceAdd]
        refine xS.s1 rfl rfl ?_
        try dsimp only [Nat.reduceAdd]
        -- 35 yX11_refuse
        refine xS.cv rfl rfl rfl rfl rfl rfl ⟨by decide, rfl, rfl⟩ (c_X11_refuse (t := (xfos (g (23 + 2 * t) 1) (g (23 + 2 * t + 1)) 12)) (by omega) (xfos_le _ _ _)) (fun v M1 hv => ?_)
        rw [hv.1, hv.2]
        clear hv M1 v
        try dsimp only [Nat.reduceAdd, Option.toList, List.cons_append, List.nil_append, List.drop]
        refine xS.ret rfl rfl rfl (fun _ _ => rfl) ?_
        exact ⟨rfl, rfl⟩
    · have g12 := xf_ne h12
      exfalso; first | exact absurd g12 (by decide) | (simp (disch := omega) only [Int32.lt_iff_toInt_lt, Int32.le_iff_toInt_le, nI_toInt, Int32.reduceToInt] at g12 <;> omega)

set_option maxRecDepth 10000 in
theorem c_X11_ways_bad (hb : xro b.1) (hx : ¬ ((0 ≤ x ∧ x < g b.1 2) ∧ 0 ≤ y ∧ y < 6)) : xT (k + 6) 102 [.ref 0, .int x, .int y] (xH b g l) (fun r M' => M' = xH b g l ∧ r = some (.int (-1))) := by
  refine xT.of rfl (Nat.le_of_ble_eq_true rfl) ?_
  change xS _ _ 0 [(0, .ref 0), (1, .int x), (2, .int y)] [] _ _
  refine xS.s1 rfl rfl ?_
  try dsimp only [Nat.reduceAdd]
  refine xS.s1 rfl rfl ?_
  try dsimp only [Nat.reduceAdd]
  -- 2 yX11_isGlass
  refine xS.cv rfl rfl rfl rfl rfl rfl ⟨by decide, rfl, rfl⟩ (c_X11_isGlass hb) (fun v M1 hv => ?_)
  rw [hv.1, hv.2]
  clear hv M1 v
  try dsimp only [Nat.reduceAdd, Option.toList, List.cons_append, List.nil_append, List.drop]
  refine xS.br0 (c := .eq) (off := 10) (l := 3) rfl rfl (fun h5 => ?_) (fun h5 => ?_)
  · have g5 := xt_eq h5
    refine xS.s1 rfl rfl ?_
    try dsimp only [Nat.reduceAdd, xi_m1]
    refine xS.ret rfl rfl rfl (fun _ _ => rfl) ?_
    exact ⟨rfl, rfl⟩
  · have g5 := xf_eq h5
    refine xS.s1 rfl rfl ?_
    try dsimp only [Nat.reduceAdd]
    -- 9 yX11_isRow
    refine xS.callS rfl rfl rfl ⟨Nat.le_of_ble_eq_true rfl, rfl⟩ c_X11_isRow (fun v M1 hv => ?_)
    rw [hv.1, hv.2]
    clear hv M1 v
    try dsimp only [Nat.reduceAdd, Option.toList, List.cons_append, List.nil_append, List.drop]
    refine xS.br0 (c := .ne) (off := 5) (l := 3) rfl rfl (fun h12 => ?_) (fun h12 => ?_)
    · have g12 := xt_ne h12
      exact absurd ⟨xif1 g5, xif1 g12⟩ hx
    · have g12 := xf_ne h12
      refine xS.s1 rfl rfl ?_
      try dsimp only [Nat.reduceAdd, xi_m1]
      refine xS.ret rfl rfl rfl (fun _ _ => rfl) ?_
      exact ⟨rfl, rfl⟩

set_option maxRecDepth 10000 in
theorem c_X11_ways_ref (hb : xro b.1) (hR : xRm g b.1 G T Lw) (hk : s < G) (ht : t < 6) (hz : xsz (g (23 + 2 * t) 1) 40) (hf : (xfos (g (23 + 2 * t) 1) (g (23 + 2 * t + 1)) 6) ≠ 0) : xT (k + 6) 102 [.ref 0, .int (nI s), .int (nI t)] (xH b g l) (fun r M' => M' = xH b (xfC g (xfos (g (23 + 2 * t) 1) (g (23 + 2 * t + 1)) 6)) l ∧ r = some (.int (-3))) := by
  refine xT.of rfl (Nat.le_of_ble_eq_true rfl) ?_
  change xS _ _ 0 [(0, .ref 0), (1, .int (nI s)), (2, .int (nI t))] [] _ _
  refine xS.s1 rfl rfl ?_
  try dsimp only [Nat.reduceAdd]
  refine xS.s1 rfl rfl ?_
  try dsimp only [Nat.reduceAdd]
  -- 2 yX11_isGlass
  refine xS.cv rfl rfl rfl rfl rfl rfl ⟨by decide, rfl, rfl⟩ (c_X11_isGlass_in hb hR hk) (fun v M1 hv => ?_)
  rw [hv.1, hv.2]
  clear hv M1 v
  try dsimp only [Nat.reduceAdd, Option.toList, List.cons_append, List.nil_append, List.drop]
  refine xS.br0 (c := .eq) (off := 10) (l := 3) rfl rfl (fun h5 => ?_) (fun h5 => ?_)
  · have g5 := xt_eq h5
    exfalso; first | exact absurd g5 (by decide) | (simp (disch := omega) only [Int32.lt_iff_toInt_lt, Int32.le_iff_toInt_le, nI_toInt, Int32.reduceToInt] at g5 <;> omega)
  · have g5 := xf_eq h5
    refine xS.s1 rfl rfl ?_
    try dsimp only [Nat.reduceAdd]
    -- 9 yX11_isRow
    refine xS.callS rfl rfl rfl ⟨Nat.le_of_ble_eq_true rfl, rfl⟩ (c_X11_isRow_in ht) (fun v M1 hv => ?_)
    rw [hv.1, hv.2]
    clear hv M1 v
    try dsimp only [Nat.reduceAdd, Option.toList, List.cons_append, List.nil_append, List.drop]
    refine xS.br0 (c := .ne) (off := 5) (l := 3) rfl rfl (fun h12 => ?_) (fun h12 => ?_)
    · have g12 := xt_ne h12
      refine xS.s1 rfl rfl ?_
      try dsimp only [Nat.reduceAdd]
      refine xS.gR rfl rfl rfl ⟨by decide, rfl⟩ rfl ?_
      try dsimp only [Nat.reduceAdd]
      refine xS.s1 rfl rfl ?_
      try dsimp only [Nat.reduceAdd]
      refine xS.aR rfl rfl (by decide) (by omega) (xsh1_get (by omega)) ?_
      try dsimp only [Nat.reduceAdd]
      refine xS.s1 rfl rfl ?_
      try dsimp only [Nat.reduceAdd, xj_6]
      -- 25 yX11_findingOfSteps
      refine xS.callS rfl rfl rfl ⟨Nat.le_of_ble_eq_true rfl, rfl⟩ (c_X11_findingOfSteps (xce_row ht) hz (by decide)) (fun v M1 hv => ?_)
      rw [hv.1, hv.2]
      clear hv M1 v
      try dsimp only [Nat.reduceAdd, Option.toList, List.cons_append, List.nil_append, List.drop]
      refine xS.s1 rfl rfl ?_
      try dsimp only [Nat.reduceAdd]
      refine xS.s1 rfl rfl ?_
      try dsimp only [Nat.reduceAdd]
      refine xS.br0 (c := .eq) (off := 9) (l := 3) rfl rfl (fun h30 => ?_) (fun h30 => ?_)
      · have g30 := xt_eq h30
        exact absurd ((nI_eq (b := 0) (by have := xfos_le (g (23 + 2 * t) 1) (g (23 + 2 * t + 1)) 6; omega) (by omega)).mp g30) hf
      · have g30 := xf_eq h30
        refine xS.s1 rfl rfl ?_
        try dsimp only [Nat.reduceAdd]
        refine xS.s1 rfl rfl ?_
        try dsimp only [Nat.reduceAdd]
        -- 35 yX11_refuse
        refine xS.cv rfl rfl rfl rfl rfl rfl ⟨by decide, rfl, rfl⟩ (c_X11_refuse (t := (xfos (g (23 + 2 * t) 1) (g (23 + 2 * t + 1)) 6)) (by omega) (xfos_le _ _ _)) (fun v M1 hv => ?_)
        rw [hv.1, hv.2]
        clear hv M1 v
        try dsimp only [Nat.reduceAdd, Option.toList, List.cons_append, List.nil_append, List.drop]
        refine xS.ret rfl rfl rfl (fun _ _ => rfl) ?_
        exact ⟨rfl, rfl⟩
    · have g12 := xf_ne h12
      exfalso; first | exact absurd g12 (by decide) | (simp (disch := omega) only [Int32.lt_iff_toInt_lt, Int32.le_iff_toInt_le, nI_toInt, Int32.reduceToInt] at g12 <;> omega)

set_option maxRecDepth 10000 in
theorem c_X11_breaks_ok (hb : xro b.1) (hR : xRm g b.1 G T Lw) (hp : xpn g) (hk : s < G) (ht : t < 6) (hs : g (23 + 2 * t) 1 = nI m) (hm : m ≤ 12) (hf : xfos (g (23 + 2 * t) 1) (g (23 + 2 * t + 1)) 12 = 0) (hx : ∀ i, i < m → xstp (g (23 + 2 * t + 1) i)) : xT (k + 5) 99 [.ref 0, .int (nI s), .int (nI t)] (xH b g l) (fun r M' => M' = xH b (up g 0 11 (nI (xcnt (fun i => !decide (xfb (g (b.1 + 3)) T (g (23 + 2 * t + 1) i) (xshw (g (b.1 + 1)) (Lw s / 4) (Lw s % 4) (fun i => xN (g (23 + 2 * t + 1) i)) i) = none)) m))) l ∧ r = some (.int (xfI (xfst (fun i => !decide (xfb (g (b.1 + 3)) T (g (23 + 2 * t + 1) i) (xshw (g (b.1 + 1)) (Lw s / 4) (Lw s % 4) (fun i => xN (g (23 + 2 * t + 1) i)) i) = none)) m)))) := by
  have hz : xsz (g (23 + 2 * t) 1) 40 := Or.inr ⟨m, by omega, hs⟩
  refine xT.of rfl (Nat.le_of_ble_eq_true rfl) ?_
  change xS _ _ 0 [(0, .ref 0), (1, .int (nI s)), (2, .int (nI t))] [] _ _
  refine xS.s1 rfl rfl ?_
  try dsimp only [Nat.reduceAdd]
  refine xS.s1 rfl rfl ?_
  try dsimp only [Nat.reduceAdd]
  -- 2 yX11_isGlass
  refine xS.cv rfl rfl rfl rfl rfl rfl ⟨by decide, rfl, rfl⟩ (c_X11_isGlass_in hb hR hk) (fun v M1 hv => ?_)
  rw [hv.1, hv.2]
  clear hv M1 v
  try dsimp only [Nat.reduceAdd, Option.toList, List.cons_append, List.nil_append, List.drop]
  refine xS.br0 (c := .eq) (off := 10) (l := 3) rfl rfl (fun h5 => ?_) (fun h5 => ?_)
  · have g5 := xt_eq h5
    exfalso; first | exact absurd g5 (by decide) | (simp (disch := omega) only [Int32.lt_iff_toInt_lt, Int32.le_iff_toInt_le, nI_toInt, Int32.reduceToInt] at g5 <;> omega)
  · have g5 := xf_eq h5
    refine xS.s1 rfl rfl ?_
    try dsimp only [Nat.reduceAdd]
    -- 9 yX11_isRow
    refine xS.callS rfl rfl rfl ⟨Nat.le_of_ble_eq_true rfl, rfl⟩ (c_X11_isRow_in ht) (fun v M1 hv => ?_)
    rw [hv.1, hv.2]
    clear hv M1 v
    try dsimp only [Nat.reduceAdd, Option.toList, List.cons_append, List.nil_append, List.drop]
    refine xS.br0 (c := .ne) (off := 5) (l := 3) rfl rfl (fun h12 => ?_) (fun h12 => ?_)
    · have g12 := xt_ne h12
      refine xS.s1 rfl rfl ?_
      try dsimp only [Nat.reduceAdd]
      refine xS.gR rfl rfl rfl ⟨by decide, rfl⟩ rfl ?_
      try dsimp only [Nat.reduceAdd]
      refine xS.s1 rfl rfl ?_
      try dsimp only [Nat.reduceAdd]
      refine xS.aR rfl rfl (by decide) (by omega) (xsh1_get (by omega)) ?_
      try dsimp only [Nat.reduceAdd]
      refine xS.s1 rfl rfl ?_
      try dsimp only [Nat.reduceAdd, xj_12]
      -- 25 yX11_findingOfSteps
      refine xS.callS rfl rfl rfl ⟨Nat.le_of_ble_eq_true rfl, rfl⟩ (c_X11_findingOfSteps (xce_row ht) hz (by decide)) (fun v M1 hv => ?_)
      rw [hv.1, hv.2, hf]
      clear hv M1 v
      try dsimp only [Nat.reduceAdd, Option.toList, List.cons_append, List.nil_append, List.drop]
      refine xS.s1 rfl rfl ?_
      try dsimp only [Nat.reduceAdd]
      refine xS.s1 rfl rfl ?_
      try dsimp only [Nat.reduceAdd]
      refine xS.br0 (c := .eq) (off := 9) (l := 3) rfl rfl (fun h30 => ?_) (fun h30 => ?_)
      · have g30 := xt_eq h30
        refine xS.s1 rfl rfl ?_
        try dsimp only [Nat.reduceAdd]
        refine xS.s1 rfl rfl ?_
        try dsimp only [Nat.reduceAdd]
        -- 41 yX11_paneOf
        refine xS.cv rfl rfl rfl rfl rfl rfl ⟨by decide, rfl, rfl⟩ (c_X11_paneOf hb hR hk) (fun v M1 hv => ?_)
        rw [hv.1, hv.2]
        clear hv M1 v
        try dsimp only [Nat.reduceAdd, Option.toList, List.cons_append, List.nil_append, List.drop]
        refine xS.s1 rfl rfl ?_
        try dsimp only [Nat.reduceAdd]
        refine xS.s1 rfl rfl ?_
        try dsimp only [Nat.reduceAdd, xj_m9]
        refine xS.s1 rfl rfl ?_
        try dsimp only [Nat.reduceAdd]
        refine xS.s1 rfl rfl ?_
        try dsimp only [Nat.reduceAdd, xi_0]
        refine xS.s1 rfl rfl ?_
        try dsimp only [Nat.reduceAdd]
        refine xS.s1 rfl rfl ?_
        try dsimp only [Nat.reduceAdd, xi_0]
        refine xS.s1 rfl rfl ?_
        try dsimp only [Nat.reduceAdd]
        refine xS.pick [0, 2, 1, 5, 7, 3] rfl ?_
        refine xS.loop (σ := Unit) (m) (fun j S => [(7, .int (nI j)), (5, .int (xfI (xfst (fun i => !decide (xfb (g (b.1 + 3)) T (g (23 + 2 * t + 1) i) (xshw (g (b.1 + 1)) (Lw s / 4) (Lw s % 4) (fun i => xN (g (23 + 2 * t + 1) i)) i) = none)) j))), (6, .int (nI (xcnt (fun i => !decide (xfb (g (b.1 + 3)) T (g (23 + 2 * t + 1) i) (xshw (g (b.1 + 1)) (Lw s / 4) (Lw s % 4) (fun i => xN (g (23 + 2 * t + 1) i)) i) = none)) j))), (0, .ref 0), (2, .int (nI t)), (4, .ref (43 + Lw s))]) (fun _ _ => xH b g l) (fun _ _ => True) (()) (rfl) (rfl) (trivial) ?_
        intro j S hj hI ih
        try dsimp only
        refine xS.s1 rfl rfl ?_
        try dsimp only [Nat.reduceAdd]
        refine xS.s1 rfl rfl ?_
        try dsimp only [Nat.reduceAdd]
        refine xS.gR rfl rfl rfl ⟨by decide, rfl⟩ rfl ?_
        try dsimp only [Nat.reduceAdd]
        refine xS.s1 rfl rfl ?_
        try dsimp only [Nat.reduceAdd]
        refine xS.aR rfl rfl (by decide) (by omega) (xsh1_get (by omega)) ?_
        try dsimp only [Nat.reduceAdd]
        -- 64 yX0_size
        refine xS.cv rfl rfl rfl ((xce_row (r := t) (by omega)).1 _) rfl rfl ⟨by decide, rfl, rfl⟩ (c_X0_size (xce_row ht)) (fun v M1 hv => ?_)
        rw [hv.1, hv.2, hs]
        clear hv M1 v
        try dsimp only [Nat.reduceAdd, Option.toList, List.cons_append, List.nil_append, List.drop]
        refine xS.br (c := .ge) (off := 66) (l := 3) rfl rfl (fun h67 => ?_) (fun h67 => ?_)
        · have g67 := xt_ge h67
          have e := xnle g67 (by omega) (by omega)
          have e2 : m = j := by omega
          subst e2
          refine xS.s1 rfl rfl ?_
          try dsimp only [Nat.reduceAdd]
          refine xS.s1 rfl rfl ?_
          try dsimp only [Nat.reduceAdd]
          refine xS.pI rfl rfl rfl ⟨⟨by decide, rfl⟩, rfl, by decide, by decide⟩ rfl ?_
          try dsimp only [Nat.reduceAdd]
          refine xS.s1 rfl rfl ?_
          try dsimp only [Nat.reduceAdd]
          refine xS.ret rfl rfl rfl (fun _ _ => rfl) ?_
          exact ⟨rfl, rfl⟩
        · have g67 := xf_ge h67
          have hlt := xnlt g67 (by omega) (by omega)
          refine xS.s1 rfl rfl ?_
          try dsimp only [Nat.reduceAdd]
          refine xS.gR rfl rfl rfl ⟨by decide, rfl⟩ rfl ?_
          try dsimp only [Nat.reduceAdd]
          refine xS.s1 rfl rfl ?_
          try dsimp only [Nat.reduceAdd]
          refine xS.gR rfl rfl rfl ⟨by decide, rfl⟩ rfl ?_
          try dsimp only [Nat.reduceAdd]
          refine xS.s1 rfl rfl ?_
          try dsimp only [Nat.reduceAdd]
          refine xS.aR rfl rfl (by decide) (by omega) (xsh1_get (by omega)) ?_
          try dsimp only [Nat.reduceAdd]
          refine xS.s1 rfl rfl ?_
          try dsimp only [Nat.reduceAdd]
          -- 82 yX0_get
          refine xS.cv rfl rfl rfl ((xce_row (r := t) (by omega)).1 _) rfl rfl ⟨by decide, rfl, rfl⟩ (c_X0_get (xce_row ht) hs (by omega) hlt) (fun v M1 hv => ?_)
          rw [hv.1, hv.2]
          clear hv M1 v
          try dsimp only [Nat.reduceAdd, Option.toList, List.cons_append, List.nil_append, List.drop]
          refine xS.s1 rfl rfl ?_
          try dsimp only [Nat.reduceAdd]
          refine xS.gR rfl rfl rfl ⟨by decide, rfl⟩ rfl ?_
          try dsimp only [Nat.reduceAdd]
          refine xS.s1 rfl rfl ?_
          try dsimp only [Nat.reduceAdd]
          refine xS.s1 rfl rfl ?_
          try dsimp only [Nat.reduceAdd]
          refine xS.gR rfl rfl rfl ⟨by decide, rfl⟩ rfl ?_
          try dsimp only [Nat.reduceAdd]
          refine xS.s1 rfl rfl ?_
          try dsimp only [Nat.reduceAdd]
          refine xS.aR rfl rfl (by decide) (by omega) (xsh1_get (by omega)) ?_
          try dsimp only [Nat.reduceAdd]
          refine xS.s1 rfl rfl ?_
          try dsimp only [Nat.reduceAdd]
          -- 99 yX8_shown
          refine xS.cv rfl rfl rfl (hb.1 _) rfl rfl ⟨by decide, rfl, rfl⟩ (c_X8_shown_C hb (xce_row ht) hp (hR.2.2.1 s hk).2 (by omega) hs (by omega) (fun s h => ⟨Nat.lt_of_le_of_lt (xsrc_le h) hlt, hx s (Nat.lt_of_le_of_lt (xsrc_le h) hlt)⟩)) (fun v M1 hv => ?_)
          rw [hv.1, hv.2]
          clear hv M1 v
          try dsimp only [Nat.reduceAdd, Option.toList, List.cons_append, List.nil_append, List.drop]
          -- 102 yX8_isBroken
          refine xS.cv rfl rfl rfl (hb.1 _) rfl rfl ⟨by decide, rfl, rfl⟩ (c_X8_isBroken hb hR.2.1.1 hR.2.1.2) (fun v M1 hv => ?_)
          rw [hv.1, hv.2]
          clear hv M1 v
          try dsimp only [Nat.reduceAdd, Option.toList, List.cons_append, List.nil_append, List.drop]
          refine xS.br0 (c := .eq) (off := 22) (l := 3) rfl rfl (fun h105 => ?_) (fun h105 => ?_)
          · have g105 := xt_eq h105
            refine xS.s1 rfl rfl ?_
            try dsimp only [Nat.reduceAdd, xi_1]
            rw [nI_1]
            refine xS.s1 rfl rfl ?_
            try dsimp only [Nat.reduceAdd]
            refine xS.pick [0, 1, 2, 3, 4, 5] rfl ?_
            have ih2 := ih () (by omega) trivial
            rw [xfst_f (p := (fun i => !decide (xfb (g (b.1 + 3)) T (g (23 + 2 * t + 1) i) (xshw (g (b.1 + 1)) (Lw s / 4) (Lw s % 4) (fun i => xN (g (23 + 2 * t + 1) i)) i) = none))) (by simp [xif0n g105]), show xcnt (fun i => !decide (xfb (g (b.1 + 3)) T (g (23 + 2 * t + 1) i) (xshw (g (b.1 + 1)) (Lw s / 4) (Lw s % 4) (fun i => xN (g (23 + 2 * t + 1) i)) i) = none)) (j + 1) = xcnt (fun i => !decide (xfb (g (b.1 + 3)) T (g (23 + 2 * t + 1) i) (xshw (g (b.1 + 1)) (Lw s / 4) (Lw s % 4) (fun i => xN (g (23 + 2 * t + 1) i)) i) = none)) j from by simp [xcnt_s, xif0n g105]] at ih2
            exact ih2
          · have g105 := xf_eq h105
            refine xS.s1 rfl rfl ?_
            try dsimp only [Nat.reduceAdd]
            refine xS.s1 rfl rfl ?_
            try dsimp only [Nat.reduceAdd, xj_m9]
            refine xS.br (c := .ne) (off := 8) (l := 3) rfl rfl (fun h112 => ?_) (fun h112 => ?_)
            · have g112 := xt_ne h112
              refine xS.s1 rfl rfl ?_
              try dsimp only [Nat.reduceAdd]
              refine xS.s1 rfl rfl ?_
              try dsimp only [Nat.reduceAdd]
              refine xS.s1 rfl rfl ?_
              try dsimp only [Nat.reduceAdd, xi_1]
              rw [nI_1]
              refine xS.s1 rfl rfl ?_
              try dsimp only [Nat.reduceAdd, xi_1]
              rw [nI_1]
              refine xS.s1 rfl rfl ?_
              try dsimp only [Nat.reduceAdd]
              refine xS.pick [0, 2, 1, 3, 4, 5] rfl ?_
              have ih2 := ih () (by omega) trivial
              rw [show xcnt (fun i => !decide (xfb (g (b.1 + 3)) T (g (23 + 2 * t + 1) i) (xshw (g (b.1 + 1)) (Lw s / 4) (Lw s % 4) (fun i => xN (g (23 + 2 * t + 1) i)) i) = none)) (j + 1) = xcnt (fun i => !decide (xfb (g (b.1 + 3)) T (g (23 + 2 * t + 1) i) (xshw (g (b.1 + 1)) (Lw s / 4) (Lw s % 4) (fun i => xN (g (23 + 2 * t + 1) i)) i) = none)) j + 1 from by simp [xcnt_s, xif1n g105]] at ih2
              have e112 := (not_congr (xfI_none (xfI_b (by omega)))).mp g112
              rw [xfst_k e112] at ih2
              exact ih2
            · have g112 := xf_ne h112
              refine xS.s1 rfl rfl ?_
              try dsimp only [Nat.reduceAdd]
              refine xS.s1 rfl rfl ?_
              try dsimp only [Nat.reduceAdd]
              refine xS.s1 rfl rfl ?_
              try dsimp only [Nat.reduceAdd]
              refine xS.s1 rfl rfl ?_
              try dsimp only [Nat.reduceAdd, xi_1]
              rw [nI_1]
              refine xS.s1 rfl rfl ?_
              try dsimp only [Nat.reduceAdd, xi_1]
              rw [nI_1]
              refine xS.s1 rfl rfl ?_
              try dsimp only [Nat.reduceAdd]
              refine xS.pick [0, 2, 1, 3, 4, 5] rfl ?_
              have ih2 := ih () (by omega) trivial
              rw [show xcnt (fun i => !decide (xfb (g (b.1 + 3)) T (g (23 + 2 * t + 1) i) (xshw (g (b.1 + 1)) (Lw s / 4) (Lw s % 4) (fun i => xN (g (23 + 2 * t + 1) i)) i) = none)) (j + 1) = xcnt (fun i => !decide (xfb (g (b.1 + 3)) T (g (23 + 2 * t + 1) i) (xshw (g (b.1 + 1)) (Lw s / 4) (Lw s % 4) (fun i => xN (g (23 + 2 * t + 1) i)) i) = none)) j + 1 from by simp [xcnt_s, xif1n g105]] at ih2
              have e112 := (xfI_none (xfI_b (by omega))).mp g112
              rw [xfst_c (p := (fun i => !decide (xfb (g (b.1 + 3)) T (g (23 + 2 * t + 1) i) (xshw (g (b.1 + 1)) (Lw s / 4) (Lw s % 4) (fun i => xN (g (23 + 2 * t + 1) i)) i) = none))) e112 (by simp [xif1n g105])] at ih2
              exact ih2
      · have g30 := xf_eq h30
        exfalso; first | exact absurd g30 (by decide) | (simp (disch := omega) only [Int32.lt_iff_toInt_lt, Int32.le_iff_toInt_le, nI_toInt, Int32.reduceToInt] at g30 <;> omega)
    · have g12 := xf_ne h12
      exfalso; first | exact absurd g12 (by decide) | (simp (disch := omega) only [Int32.lt_iff_toInt_lt, Int32.le_iff_toInt_le, nI_toInt, Int32.reduceToInt] at g12 <;> omega)

set_option maxRecDepth 10000 in
theorem c_X11_alike_ok (hb : xro b.1) (hR : xRm g b.1 G T Lw) (hp : xpn g) (hk : s < G) (ht : t < 6) (hs : g (23 + 2 * t) 1 = nI m) (hm : m ≤ 12) (hf : xfos (g (23 + 2 * t) 1) (g (23 + 2 * t + 1)) 12 = 0) (hx : ∀ i, i < m → xstp (g (23 + 2 * t + 1) i)) : xT (k + 5) 100 [.ref 0, .int (nI s), .int (nI t)] (xH b g l) (fun r M' => M' = xH b g l ∧ r = some (.int (nI (xcnt (fun i => decide (g (23 + 2 * t + 1) i = xshw (g (b.1 + 1)) (Lw s / 4) (Lw s % 4) (fun i => xN (g (23 + 2 * t + 1) i)) i)) m)))) := by
  have hz : xsz (g (23 + 2 * t) 1) 40 := Or.inr ⟨m, by omega, hs⟩
  refine xT.of rfl (Nat.le_of_ble_eq_true rfl) ?_
  change xS _ _ 0 [(0, .ref 0), (1, .int (nI s)), (2, .int (nI t))] [] _ _
  refine xS.s1 rfl rfl ?_
  try dsimp only [Nat.reduceAdd]
  refine xS.s1 rfl rfl ?_
  try dsimp only [Nat.reduceAdd]
  -- 2 yX11_isGlass
  refine xS.cv rfl rfl rfl rfl rfl rfl ⟨by decide, rfl, rfl⟩ (c_X11_isGlass_in hb hR hk) (fun v M1 hv => ?_)
  rw [hv.1, hv.2]
  clear hv M1 v
  try dsimp only [Nat.reduceAdd, Option.toList, List.cons_append, List.nil_append, List.drop]
  refine xS.br0 (c := .eq) (off := 10) (l := 3) rfl rfl (fun h5 => ?_) (fun h5 => ?_)
  · have g5 := xt_eq h5
    exfalso; first | exact absurd g5 (by decide) | (simp (disch := omega) only [Int32.lt_iff_toInt_lt, Int32.le_iff_toInt_le, nI_toInt, Int32.reduceToInt] at g5 <;> omega)
  · have g5 := xf_eq h5
    refine xS.s1 rfl rfl ?_
    try dsimp only [Nat.reduceAdd]
    -- 9 yX11_isRow
    refine xS.callS rfl rfl rfl ⟨Nat.le_of_ble_eq_true rfl, rfl⟩ (c_X11_isRow_in ht) (fun v M1 hv => ?_)
    rw [hv.1, hv.2]
    clear hv M1 v
    try dsimp only [Nat.reduceAdd, Option.toList, List.cons_append, List.nil_append, List.drop]
    refine xS.br0 (c := .ne) (off := 5) (l := 3) rfl rfl (fun h12 => ?_) (fun h12 => ?_)
    · have g12 := xt_ne h12
      refine xS.s1 rfl rfl ?_
      try dsimp only [Nat.reduceAdd]
      refine xS.gR rfl rfl rfl ⟨by decide, rfl⟩ rfl ?_
      try dsimp only [Nat.reduceAdd]
      refine xS.s1 rfl rfl ?_
      try dsimp only [Nat.reduceAdd]
      refine xS.aR rfl rfl (by decide) (by omega) (xsh1_get (by omega)) ?_
      try dsimp only [Nat.reduceAdd]
      refine xS.s1 rfl rfl ?_
      try dsimp only [Nat.reduceAdd, xj_12]
      -- 25 yX11_findingOfSteps
      refine xS.callS rfl rfl rfl ⟨Nat.le_of_ble_eq_true rfl, rfl⟩ (c_X11_findingOfSteps (xce_row ht) hz (by decide)) (fun v M1 hv => ?_)
      rw [hv.1, hv.2, hf]
      clear hv M1 v
      try dsimp only [Nat.reduceAdd, Option.toList, List.cons_append, List.nil_append, List.drop]
      refine xS.s1 rfl rfl ?_
      try dsimp only [Nat.reduceAdd]
      refine xS.s1 rfl rfl ?_
      try dsimp only [Nat.reduceAdd]
      refine xS.br0 (c := .eq) (off := 9) (l := 3) rfl rfl (fun h30 => ?_) (fun h30 => ?_)
      · have g30 := xt_eq h30
        refine xS.s1 rfl rfl ?_
        try dsimp only [Nat.reduceAdd]
        refine xS.s1 rfl rfl ?_
        try dsimp only [Nat.reduceAdd]
        -- 41 yX11_paneOf
        refine xS.cv rfl rfl rfl rfl rfl rfl ⟨by decide, rfl, rfl⟩ (c_X11_paneOf hb hR hk) (fun v M1 hv => ?_)
        rw [hv.1, hv.2]
        clear hv M1 v
        try dsimp only [Nat.reduceAdd, Option.toList, List.cons_append, List.nil_append, List.drop]
        refine xS.s1 rfl rfl ?_
        try dsimp only [Nat.reduceAdd]
        refine xS.s1 rfl rfl ?_
        try dsimp only [Nat.reduceAdd, xi_0]
        refine xS.s1 rfl rfl ?_
        try dsimp only [Nat.reduceAdd]
        refine xS.s1 rfl rfl ?_
        try dsimp only [Nat.reduceAdd, xi_0]
        refine xS.s1 rfl rfl ?_
        try dsimp only [Nat.reduceAdd]
        refine xS.pick [0, 1, 4, 6, 2] rfl ?_
        refine xS.loop (σ := Unit) (m) (fun j S => [(6, .int (nI j)), (5, .int (nI (xcnt (fun i => decide (g (23 + 2 * t + 1) i = xshw (g (b.1 + 1)) (Lw s / 4) (Lw s % 4) (fun i => xN (g (23 + 2 * t + 1) i)) i)) j))), (0, .ref 0), (2, .int (nI t)), (4, .ref (43 + Lw s))]) (fun _ _ => xH b g l) (fun _ _ => True) (()) (rfl) (rfl) (trivial) ?_
        intro j S hj hI ih
        try dsimp only
        refine xS.s1 rfl rfl ?_
        try dsimp only [Nat.reduceAdd]
        refine xS.s1 rfl rfl ?_
        try dsimp only [Nat.reduceAdd]
        refine xS.gR rfl rfl rfl ⟨by decide, rfl⟩ rfl ?_
        try dsimp only [Nat.reduceAdd]
        refine xS.s1 rfl rfl ?_
        try dsimp only [Nat.reduceAdd]
        refine xS.aR rfl rfl (by decide) (by omega) (xsh1_get (by omega)) ?_
        try dsimp only [Nat.reduceAdd]
        -- 60 yX0_size
        refine xS.cv rfl rfl rfl ((xce_row (r := t) (by omega)).1 _) rfl rfl ⟨by decide, rfl, rfl⟩ (c_X0_size (xce_row ht)) (fun v M1 hv => ?_)
        rw [hv.1, hv.2, hs]
        clear hv M1 v
        try dsimp only [Nat.reduceAdd, Option.toList, List.cons_append, List.nil_append, List.drop]
        refine xS.br (c := .ge) (off := 43) (l := 3) rfl rfl (fun h63 => ?_) (fun h63 => ?_)
        · have g63 := xt_ge h63
          have e := xnle g63 (by omega) (by omega)
          have e2 : m = j := by omega
          subst e2
          refine xS.s1 rfl rfl ?_
          try dsimp only [Nat.reduceAdd]
          refine xS.ret rfl rfl rfl (fun _ _ => rfl) ?_
          exact ⟨rfl, rfl⟩
        · have g63 := xf_ge h63
          have hlt := xnlt g63 (by omega) (by omega)
          refine xS.s1 rfl rfl ?_
          try dsimp only [Nat.reduceAdd]
          refine xS.gR rfl rfl rfl ⟨by decide, rfl⟩ rfl ?_
          try dsimp only [Nat.reduceAdd]
          refine xS.s1 rfl rfl ?_
          try dsimp only [Nat.reduceAdd]
          refine xS.aR rfl rfl (by decide) (by omega) (xsh1_get (by omega)) ?_
          try dsimp only [Nat.reduceAdd]
          refine xS.s1 rfl rfl ?_
          try dsimp only [Nat.reduceAdd]
          -- 74 yX0_get
          refine xS.cv rfl rfl rfl ((xce_row (r := t) (by omega)).1 _) rfl rfl ⟨by decide, rfl, rfl⟩ (c_X0_get (xce_row ht) hs (by omega) hlt) (fun v M1 hv => ?_)
          rw [hv.1, hv.2]
          clear hv M1 v
          try dsimp only [Nat.reduceAdd, Option.toList, List.cons_append, List.nil_append, List.drop]
          refine xS.s1 rfl rfl ?_
          try dsimp only [Nat.reduceAdd]
          refine xS.gR rfl rfl rfl ⟨by decide, rfl⟩ rfl ?_
          try dsimp only [Nat.reduceAdd]
          refine xS.s1 rfl rfl ?_
          try dsimp only [Nat.reduceAdd]
          refine xS.s1 rfl rfl ?_
          try dsimp only [Nat.reduceAdd]
          refine xS.gR rfl rfl rfl ⟨by decide, rfl⟩ rfl ?_
          try dsimp only [Nat.reduceAdd]
          refine xS.s1 rfl rfl ?_
          try dsimp only [Nat.reduceAdd]
          refine xS.aR rfl rfl (by decide) (by omega) (xsh1_get (by omega)) ?_
          try dsimp only [Nat.reduceAdd]
          refine xS.s1 rfl rfl ?_
          try dsimp only [Nat.reduceAdd]
          -- 91 yX8_shown
          refine xS.cv rfl rfl rfl (hb.1 _) rfl rfl ⟨by decide, rfl, rfl⟩ (c_X8_shown_C hb (xce_row ht) hp (hR.2.2.1 s hk).2 (by omega) hs (by omega) (fun s h => ⟨Nat.lt_of_le_of_lt (xsrc_le h) hlt, hx s (Nat.lt_of_le_of_lt (xsrc_le h) hlt)⟩)) (fun v M1 hv => ?_)
          rw [hv.1, hv.2]
          clear hv M1 v
          try dsimp only [Nat.reduceAdd, Option.toList, List.cons_append, List.nil_append, List.drop]
          refine xS.br (c := .ne) (off := 6) (l := 3) rfl rfl (fun h94 => ?_) (fun h94 => ?_)
          · have g94 := xt_ne h94
            refine xS.s1 rfl rfl ?_
            try dsimp only [Nat.reduceAdd, xi_1]
            rw [nI_1]
            refine xS.s1 rfl rfl ?_
            try dsimp only [Nat.reduceAdd]
            refine xS.pick [0, 1, 2, 3, 4] rfl ?_
            have ih2 := ih () (by omega) trivial
            first | (rw [show xcnt (fun i => decide (g (23 + 2 * t + 1) i = xshw (g (b.1 + 1)) (Lw s / 4) (Lw s % 4) (fun i => xN (g (23 + 2 * t + 1) i)) i)) (j + 1) = xcnt (fun i => decide (g (23 + 2 * t + 1) i = xshw (g (b.1 + 1)) (Lw s / 4) (Lw s % 4) (fun i => xN (g (23 + 2 * t + 1) i)) i)) j from by simp [xcnt_s, g94]] at ih2; exact ih2) | (rw [show xcnt (fun i => decide (g (23 + 2 * t + 1) i = xshw (g (b.1 + 1)) (Lw s / 4) (Lw s % 4) (fun i => xN (g (23 + 2 * t + 1) i)) i)) (j + 1) = xcnt (fun i => decide (g (23 + 2 * t + 1) i = xshw (g (b.1 + 1)) (Lw s / 4) (Lw s % 4) (fun i => xN (g (23 + 2 * t + 1) i)) i)) j + 1 from by simp [xcnt_s, g94]] at ih2; exact ih2)
          · have g94 := xf_ne h94
            refine xS.s1 rfl rfl ?_
            try dsimp only [Nat.reduceAdd, xi_1]
            rw [nI_1]
            refine xS.s1 rfl rfl ?_
            try dsimp only [Nat.reduceAdd, xi_1]
            rw [nI_1]
            refine xS.s1 rfl rfl ?_
            try dsimp only [Nat.reduceAdd]
            refine xS.pick [0, 1, 2, 3, 4] rfl ?_
            have ih2 := ih () (by omega) trivial
            first | (rw [show xcnt (fun i => decide (g (23 + 2 * t + 1) i = xshw (g (b.1 + 1)) (Lw s / 4) (Lw s % 4) (fun i => xN (g (23 + 2 * t + 1) i)) i)) (j + 1) = xcnt (fun i => decide (g (23 + 2 * t + 1) i = xshw (g (b.1 + 1)) (Lw s / 4) (Lw s % 4) (fun i => xN (g (23 + 2 * t + 1) i)) i)) j from by simp [xcnt_s, g94]] at ih2; exact ih2) | (rw [show xcnt (fun i => decide (g (23 + 2 * t + 1) i = xshw (g (b.1 + 1)) (Lw s / 4) (Lw s % 4) (fun i => xN (g (23 + 2 * t + 1) i)) i)) (j + 1) = xcnt (fun i => decide (g (23 + 2 * t + 1) i = xshw (g (b.1 + 1)) (Lw s / 4) (Lw s % 4) (fun i => xN (g (23 + 2 * t + 1) i)) i)) j + 1 from by simp [xcnt_s, g94]] at ih2; exact ih2)
      · have g30 := xf_eq h30
        exfalso; first | exact absurd g30 (by decide) | (simp (disch := omega) only [Int32.lt_iff_toInt_lt, Int32.le_iff_toInt_le, nI_toInt, Int32.reduceToInt] at g30 <;> omega)
    · have g12 := xf_ne h12
      exfalso; first | exact absurd g12 (by decide) | (simp (disch := omega) only [Int32.lt_iff_toInt_lt, Int32.le_iff_toInt_le, nI_toInt, Int32.reduceToInt] at g12 <;> omega)

set_option maxRecDepth 10000 in
theorem c_X11_fit_bad (hx : ¬ ((0 ≤ x ∧ x < 6) ∧ 0 ≤ y ∧ y < 6)) : xT (k + 5) 101 [.ref 0, .int x, .int y] (xH b g l) (fun r M' => M' = xH b g l ∧ r = some (.int (-1))) := by
  refine xT.of rfl (Nat.le_of_ble_eq_true rfl) ?_
  change xS _ _ 0 [(0, .ref 0), (1, .int x), (2, .int y)] [] _ _
  refine xS.s1 rfl rfl ?_
  try dsimp only [Nat.reduceAdd]
  -- 1 yX11_isRow
  refine xS.callS rfl rfl rfl ⟨Nat.le_of_ble_eq_true rfl, rfl⟩ c_X11_isRow (fun v M1 hv => ?_)
  rw [hv.1, hv.2]
  clear hv M1 v
  try dsimp only [Nat.reduceAdd, Option.toList, List.cons_append, List.nil_append, List.drop]
  refine xS.br0 (c := .eq) (off := 10) (l := 3) rfl rfl (fun h4 => ?_) (fun h4 => ?_)
  · have g4 := xt_eq h4
    refine xS.s1 rfl rfl ?_
    try dsimp only [Nat.reduceAdd, xi_m1]
    refine xS.ret rfl rfl rfl (fun _ _ => rfl) ?_
    exact ⟨rfl, rfl⟩
  · have g4 := xf_eq h4
    refine xS.s1 rfl rfl ?_
    try dsimp only [Nat.reduceAdd]
    -- 8 yX11_isRow
    refine xS.callS rfl rfl rfl ⟨Nat.le_of_ble_eq_true rfl, rfl⟩ c_X11_isRow (fun v M1 hv => ?_)
    rw [hv.1, hv.2]
    clear hv M1 v
    try dsimp only [Nat.reduceAdd, Option.toList, List.cons_append, List.nil_append, List.drop]
    refine xS.br0 (c := .ne) (off := 5) (l := 3) rfl rfl (fun h11 => ?_) (fun h11 => ?_)
    · have g11 := xt_ne h11
      exact absurd ⟨xif1 g4, xif1 g11⟩ hx
    · have g11 := xf_ne h11
      refine xS.s1 rfl rfl ?_
      try dsimp only [Nat.reduceAdd, xi_m1]
      refine xS.ret rfl rfl rfl (fun _ _ => rfl) ?_
      exact ⟨rfl, rfl⟩

set_option maxRecDepth 10000 in
theorem c_X11_fit_ref (ht : t < 6) (hz : xsz (g (23 + 2 * t) 1) 40) (hp1 : p < 6) (hz2 : xsz (g (23 + 2 * p) 1) 40) (hf : (xfop (g (23 + 2 * t) 1) (g (23 + 2 * t + 1)) (g (23 + 2 * p) 1) (g (23 + 2 * p + 1)) 12) ≠ 0) : xT (k + 5) 101 [.ref 0, .int (nI t), .int (nI p)] (xH b g l) (fun r M' => M' = xH b (xfC g (xfop (g (23 + 2 * t) 1) (g (23 + 2 * t + 1)) (g (23 + 2 * p) 1) (g (23 + 2 * p + 1)) 12)) l ∧ r = some (.int (-3))) := by
  refine xT.of rfl (Nat.le_of_ble_eq_true rfl) ?_
  change xS _ _ 0 [(0, .ref 0), (1, .int (nI t)), (2, .int (nI p))] [] _ _
  refine xS.s1 rfl rfl ?_
  try dsimp only [Nat.reduceAdd]
  -- 1 yX11_isRow
  refine xS.callS rfl rfl rfl ⟨Nat.le_of_ble_eq_true rfl, rfl⟩ (c_X11_isRow_in ht) (fun v M1 hv => ?_)
  rw [hv.1, hv.2]
  clear hv M1 v
  try dsimp only [Nat.reduceAdd, Option.toList, List.cons_append, List.nil_append, List.drop]
  refine xS.br0 (c := .eq) (off := 10) (l := 3) rfl rfl (fun h4 => ?_) (fun h4 => ?_)
  · have g4 := xt_eq h4
    exfalso; first | exact absurd g4 (by decide) | (simp (disch := omega) only [Int32.lt_iff_toInt_lt, Int32.le_iff_toInt_le, nI_toInt, Int32.reduceToInt] at g4 <;> omega)
  · have g4 := xf_eq h4
    refine xS.s1 rfl rfl ?_
    try dsimp only [Nat.reduceAdd]
    -- 8 yX11_isRow
    refine xS.callS rfl rfl rfl ⟨Nat.le_of_ble_eq_true rfl, rfl⟩ (c_X11_isRow_in hp1) (fun v M1 hv => ?_)
    rw [hv.1, hv.2]
    clear hv M1 v
    try dsimp only [Nat.reduceAdd, Option.toList, List.cons_append, List.nil_append, List.drop]
    refine xS.br0 (c := .ne) (off := 5) (l := 3) rfl rfl (fun h11 => ?_) (fun h11 => ?_)
    · have g11 := xt_ne h11
      refine xS.s1 rfl rfl ?_
      try dsimp only [Nat.reduceAdd]
      refine xS.gR rfl rfl rfl ⟨by decide, rfl⟩ rfl ?_
      try dsimp only [Nat.reduceAdd]
      refine xS.s1 rfl rfl ?_
      try dsimp only [Nat.reduceAdd]
      refine xS.aR rfl rfl (by decide) (by omega) (xsh1_get (by omega)) ?_
      try dsimp only [Nat.reduceAdd]
      refine xS.s1 rfl rfl ?_
      try dsimp only [Nat.reduceAdd]
      refine xS.gR rfl rfl rfl ⟨by decide, rfl⟩ rfl ?_
      try dsimp only [Nat.reduceAdd]
      refine xS.s1 rfl rfl ?_
      try dsimp only [Nat.reduceAdd]
      refine xS.aR rfl rfl (by decide) (by omega) (xsh1_get (by omega)) ?_
      try dsimp only [Nat.reduceAdd]
      refine xS.s1 rfl rfl ?_
      try dsimp only [Nat.reduceAdd, xj_12]
      -- 30 yX11_findingOfPair
      refine xS.callS rfl rfl rfl ⟨Nat.le_of_ble_eq_true rfl, rfl⟩ (c_X11_findingOfPair (xce_row ht) hz (xce_row hp1) hz2 (by decide)) (fun v M1 hv => ?_)
      rw [hv.1, hv.2]
      clear hv M1 v
      try dsimp only [Nat.reduceAdd, Option.toList, List.cons_append, List.nil_append, List.drop]
      refine xS.s1 rfl rfl ?_
      try dsimp only [Nat.reduceAdd]
      refine xS.s1 rfl rfl ?_
      try dsimp only [Nat.reduceAdd]
      refine xS.br0 (c := .eq) (off := 9) (l := 3) rfl rfl (fun h35 => ?_) (fun h35 => ?_)
      · have g35 := xt_eq h35
        exact absurd ((nI_eq (b := 0) (by have := xfop_le (g (23 + 2 * t) 1) (g (23 + 2 * t + 1)) (g (23 + 2 * p) 1) (g (23 + 2 * p + 1)) 12; omega) (by omega)).mp g35) hf
      · have g35 := xf_eq h35
        refine xS.s1 rfl rfl ?_
        try dsimp only [Nat.reduceAdd]
        refine xS.s1 rfl rfl ?_
        try dsimp only [Nat.reduceAdd]
        -- 40 yX11_refuse
        refine xS.cv rfl rfl rfl rfl rfl rfl ⟨by decide, rfl, rfl⟩ (c_X11_refuse (t := (xfop (g (23 + 2 * t) 1) (g (23 + 2 * t + 1)) (g (23 + 2 * p) 1) (g (23 + 2 * p + 1)) 12)) (by omega) (xfop_le _ _ _ _ _)) (fun v M1 hv => ?_)
        rw [hv.1, hv.2]
        clear hv M1 v
        try dsimp only [Nat.reduceAdd, Option.toList, List.cons_append, List.nil_append, List.drop]
        refine xS.ret rfl rfl rfl (fun _ _ => rfl) ?_
        exact ⟨rfl, rfl⟩
    · have g11 := xf_ne h11
      exfalso; first | exact absurd g11 (by decide) | (simp (disch := omega) only [Int32.lt_iff_toInt_lt, Int32.le_iff_toInt_le, nI_toInt, Int32.reduceToInt] at g11 <;> omega)

set_option maxRecDepth 10000 in
theorem c_X11_laws_bad (hx : ¬ ((0 ≤ x ∧ x < 6) ∧ 0 ≤ y ∧ y < 6)) : xT (k + 7) 105 [.ref 0, .int x, .int y] (xH b g l) (fun r M' => M' = xH b g l ∧ r = some (.int (-1))) := by
  refine xT.of rfl (Nat.le_of_ble_eq_true rfl) ?_
  change xS _ _ 0 [(0, .ref 0), (1, .int x), (2, .int y)] [] _ _
  refine xS.s1 rfl rfl ?_
  try dsimp only [Nat.reduceAdd]
  -- 1 yX11_isRow
  refine xS.callS rfl rfl rfl ⟨Nat.le_of_ble_eq_true rfl, rfl⟩ c_X11_isRow (fun v M1 hv => ?_)
  rw [hv.1, hv.2]
  clear hv M1 v
  try dsimp only [Nat.reduceAdd, Option.toList, List.cons_append, List.nil_append, List.drop]
  refine xS.br0 (c := .eq) (off := 10) (l := 3) rfl rfl (fun h4 => ?_) (fun h4 => ?_)
  · have g4 := xt_eq h4
    refine xS.s1 rfl rfl ?_
    try dsimp only [Nat.reduceAdd, xi_m1]
    refine xS.ret rfl rfl rfl (fun _ _ => rfl) ?_
    exact ⟨rfl, rfl⟩
  · have g4 := xf_eq h4
    refine xS.s1 rfl rfl ?_
    try dsimp only [Nat.reduceAdd]
    -- 8 yX11_isRow
    refine xS.callS rfl rfl rfl ⟨Nat.le_of_ble_eq_true rfl, rfl⟩ c_X11_isRow (fun v M1 hv => ?_)
    rw [hv.1, hv.2]
    clear hv M1 v
    try dsimp only [Nat.reduceAdd, Option.toList, List.cons_append, List.nil_append, List.drop]
    refine xS.br0 (c := .ne) (off := 5) (l := 3) rfl rfl (fun h11 => ?_) (fun h11 => ?_)
    · have g11 := xt_ne h11
      exact absurd ⟨xif1 g4, xif1 g11⟩ hx
    · have g11 := xf_ne h11
      refine xS.s1 rfl rfl ?_
      try dsimp only [Nat.reduceAdd, xi_m1]
      refine xS.ret rfl rfl rfl (fun _ _ => rfl) ?_
      exact ⟨rfl, rfl⟩

set_option maxRecDepth 10000 in
theorem c_X11_laws_ref (ht : t < 6) (hz : xsz (g (23 + 2 * t) 1) 40) (hp1 : p < 6) (hz2 : xsz (g (23 + 2 * p) 1) 40) (hf : (xfop (g (23 + 2 * t) 1) (g (23 + 2 * t + 1)) (g (23 + 2 * p) 1) (g (23 + 2 * p + 1)) 12) ≠ 0) : xT (k + 7) 105 [.ref 0, .int (nI t), .int (nI p)] (xH b g l) (fun r M' => M' = xH b (xfC g (xfop (g (23 + 2 * t) 1) (g (23 + 2 * t + 1)) (g (23 + 2 * p) 1) (g (23 + 2 * p + 1)) 12)) l ∧ r = some (.int (-3))) := by
  refine xT.of rfl (Nat.le_of_ble_eq_true rfl) ?_
  change xS _ _ 0 [(0, .ref 0), (1, .int (nI t)), (2, .int (nI p))] [] _ _
  refine xS.s1 rfl rfl ?_
  try dsimp only [Nat.reduceAdd]
  -- 1 yX11_isRow
  refine xS.callS rfl rfl rfl ⟨Nat.le_of_ble_eq_true rfl, rfl⟩ (c_X11_isRow_in ht) (fun v M1 hv => ?_)
  rw [hv.1, hv.2]
  clear hv M1 v
  try dsimp only [Nat.reduceAdd, Option.toList, List.cons_append, List.nil_append, List.drop]
  refine xS.br0 (c := .eq) (off := 10) (l := 3) rfl rfl (fun h4 => ?_) (fun h4 => ?_)
  · have g4 := xt_eq h4
    exfalso; first | exact absurd g4 (by decide) | (simp (disch := omega) only [Int32.lt_iff_toInt_lt, Int32.le_iff_toInt_le, nI_toInt, Int32.reduceToInt] at g4 <;> omega)
  · have g4 := xf_eq h4
    refine xS.s1 rfl rfl ?_
    try dsimp only [Nat.reduceAdd]
    -- 8 yX11_isRow
    refine xS.callS rfl rfl rfl ⟨Nat.le_of_ble_eq_true rfl, rfl⟩ (c_X11_isRow_in hp1) (fun v M1 hv => ?_)
    rw [hv.1, hv.2]
    clear hv M1 v
    try dsimp only [Nat.reduceAdd, Option.toList, List.cons_append, List.nil_append, List.drop]
    refine xS.br0 (c := .ne) (off := 5) (l := 3) rfl rfl (fun h11 => ?_) (fun h11 => ?_)
    · have g11 := xt_ne h11
      refine xS.s1 rfl rfl ?_
      try dsimp only [Nat.reduceAdd]
      refine xS.gR rfl rfl rfl ⟨by decide, rfl⟩ rfl ?_
      try dsimp only [Nat.reduceAdd]
      refine xS.s1 rfl rfl ?_
      try dsimp only [Nat.reduceAdd]
      refine xS.aR rfl rfl (by decide) (by omega) (xsh1_get (by omega)) ?_
      try dsimp only [Nat.reduceAdd]
      refine xS.s1 rfl rfl ?_
      try dsimp only [Nat.reduceAdd]
      refine xS.gR rfl rfl rfl ⟨by decide, rfl⟩ rfl ?_
      try dsimp only [Nat.reduceAdd]
      refine xS.s1 rfl rfl ?_
      try dsimp only [Nat.reduceAdd]
      refine xS.aR rfl rfl (by decide) (by omega) (xsh1_get (by omega)) ?_
      try dsimp only [Nat.reduceAdd]
      refine xS.s1 rfl rfl ?_
      try dsimp only [Nat.reduceAdd, xj_12]
      -- 30 yX11_findingOfPair
      refine xS.callS rfl rfl rfl ⟨Nat.le_of_ble_eq_true rfl, rfl⟩ (c_X11_findingOfPair (xce_row ht) hz (xce_row hp1) hz2 (by decide)) (fun v M1 hv => ?_)
      rw [hv.1, hv.2]
      clear hv M1 v
      try dsimp only [Nat.reduceAdd, Option.toList, List.cons_append, List.nil_append, List.drop]
      refine xS.s1 rfl rfl ?_
      try dsimp only [Nat.reduceAdd]
      refine xS.s1 rfl rfl ?_
      try dsimp only [Nat.reduceAdd]
      refine xS.br0 (c := .eq) (off := 9) (l := 3) rfl rfl (fun h35 => ?_) (fun h35 => ?_)
      · have g35 := xt_eq h35
        exact absurd ((nI_eq (b := 0) (by have := xfop_le (g (23 + 2 * t) 1) (g (23 + 2 * t + 1)) (g (23 + 2 * p) 1) (g (23 + 2 * p + 1)) 12; omega) (by omega)).mp g35) hf
      · have g35 := xf_eq h35
        refine xS.s1 rfl rfl ?_
        try dsimp only [Nat.reduceAdd]
        refine xS.s1 rfl rfl ?_
        try dsimp only [Nat.reduceAdd]
        -- 40 yX11_refuse
        refine xS.cv rfl rfl rfl rfl rfl rfl ⟨by decide, rfl, rfl⟩ (c_X11_refuse (t := (xfop (g (23 + 2 * t) 1) (g (23 + 2 * t + 1)) (g (23 + 2 * p) 1) (g (23 + 2 * p + 1)) 12)) (by omega) (xfop_le _ _ _ _ _)) (fun v M1 hv => ?_)
        rw [hv.1, hv.2]
        clear hv M1 v
        try dsimp only [Nat.reduceAdd, Option.toList, List.cons_append, List.nil_append, List.drop]
        refine xS.ret rfl rfl rfl (fun _ _ => rfl) ?_
        exact ⟨rfl, rfl⟩
    · have g11 := xf_ne h11
      exfalso; first | exact absurd g11 (by decide) | (simp (disch := omega) only [Int32.lt_iff_toInt_lt, Int32.le_iff_toInt_le, nI_toInt, Int32.reduceToInt] at g11 <;> omega)

set_option maxRecDepth 10000 in
theorem c_X11_next_bad (hx : ¬ ((0 ≤ x ∧ x < 6) ∧ 0 ≤ y ∧ y < 6)) : xT (k + 7) 106 [.ref 0, .int x, .int y] (xH b g l) (fun r M' => M' = xH b g l ∧ r = some (.int (-1))) := by
  refine xT.of rfl (Nat.le_of_ble_eq_true rfl) ?_
  change xS _ _ 0 [(0, .ref 0), (1, .int x), (2, .int y)] [] _ _
  refine xS.s1 rfl rfl ?_
  try dsimp only [Nat.reduceAdd]
  -- 1 yX11_isRow
  refine xS.callS rfl rfl rfl ⟨Nat.le_of_ble_eq_true rfl, rfl⟩ c_X11_isRow (fun v M1 hv => ?_)
  rw [hv.1, hv.2]
  clear hv M1 v
  try dsimp only [Nat.reduceAdd, Option.toList, List.cons_append, List.nil_append, List.drop]
  refine xS.br0 (c := .eq) (off := 10) (l := 3) rfl rfl (fun h4 => ?_) (fun h4 => ?_)
  · have g4 := xt_eq h4
    refine xS.s1 rfl rfl ?_
    try dsimp only [Nat.reduceAdd, xi_m1]
    refine xS.ret rfl rfl rfl (fun _ _ => rfl) ?_
    exact ⟨rfl, rfl⟩
  · have g4 := xf_eq h4
    refine xS.s1 rfl rfl ?_
    try dsimp only [Nat.reduceAdd]
    -- 8 yX11_isRow
    refine xS.callS rfl rfl rfl ⟨Nat.le_of_ble_eq_true rfl, rfl⟩ c_X11_isRow (fun v M1 hv => ?_)
    rw [hv.1, hv.2]
    clear hv M1 v
    try dsimp only [Nat.reduceAdd, Option.toList, List.cons_append, List.nil_append, List.drop]
    refine xS.br0 (c := .ne) (off := 5) (l := 3) rfl rfl (fun h11 => ?_) (fun h11 => ?_)
    · have g11 := xt_ne h11
      exact absurd ⟨xif1 g4, xif1 g11⟩ hx
    · have g11 := xf_ne h11
      refine xS.s1 rfl rfl ?_
      try dsimp only [Nat.reduceAdd, xi_m1]
      refine xS.ret rfl rfl rfl (fun _ _ => rfl) ?_
      exact ⟨rfl, rfl⟩

set_option maxRecDepth 10000 in
theorem c_X11_next_ref (ht : t < 6) (hz : xsz (g (23 + 2 * t) 1) 40) (hp1 : p < 6) (hz2 : xsz (g (23 + 2 * p) 1) 40) (hf : (xfop (g (23 + 2 * t) 1) (g (23 + 2 * t + 1)) (g (23 + 2 * p) 1) (g (23 + 2 * p + 1)) 11) ≠ 0) : xT (k + 7) 106 [.ref 0, .int (nI t), .int (nI p)] (xH b g l) (fun r M' => M' = xH b (xfC g (xfop (g (23 + 2 * t) 1) (g (23 + 2 * t + 1)) (g (23 + 2 * p) 1) (g (23 + 2 * p + 1)) 11)) l ∧ r = some (.int (-3))) := by
  refine xT.of rfl (Nat.le_of_ble_eq_true rfl) ?_
  change xS _ _ 0 [(0, .ref 0), (1, .int (nI t)), (2, .int (nI p))] [] _ _
  refine xS.s1 rfl rfl ?_
  try dsimp only [Nat.reduceAdd]
  -- 1 yX11_isRow
  refine xS.callS rfl rfl rfl ⟨Nat.le_of_ble_eq_true rfl, rfl⟩ (c_X11_isRow_in ht) (fun v M1 hv => ?_)
  rw [hv.1, hv.2]
  clear hv M1 v
  try dsimp only [Nat.reduceAdd, Option.toList, List.cons_append, List.nil_append, List.drop]
  refine xS.br0 (c := .eq) (off := 10) (l := 3) rfl rfl (fun h4 => ?_) (fun h4 => ?_)
  · have g4 := xt_eq h4
    exfalso; first | exact absurd g4 (by decide) | (simp (disch := omega) only [Int32.lt_iff_toInt_lt, Int32.le_iff_toInt_le, nI_toInt, Int32.reduceToInt] at g4 <;> omega)
  · have g4 := xf_eq h4
    refine xS.s1 rfl rfl ?_
    try dsimp only [Nat.reduceAdd]
    -- 8 yX11_isRow
    refine xS.callS rfl rfl rfl ⟨Nat.le_of_ble_eq_true rfl, rfl⟩ (c_X11_isRow_in hp1) (fun v M1 hv => ?_)
    rw [hv.1, hv.2]
    clear hv M1 v
    try dsimp only [Nat.reduceAdd, Option.toList, List.cons_append, List.nil_append, List.drop]
    refine xS.br0 (c := .ne) (off := 5) (l := 3) rfl rfl (fun h11 => ?_) (fun h11 => ?_)
    · have g11 := xt_ne h11
      refine xS.s1 rfl rfl ?_
      try dsimp only [Nat.reduceAdd]
      refine xS.gR rfl rfl rfl ⟨by decide, rfl⟩ rfl ?_
      try dsimp only [Nat.reduceAdd]
      refine xS.s1 rfl rfl ?_
      try dsimp only [Nat.reduceAdd]
      refine xS.aR rfl rfl (by decide) (by omega) (xsh1_get (by omega)) ?_
      try dsimp only [Nat.reduceAdd]
      refine xS.s1 rfl rfl ?_
      try dsimp only [Nat.reduceAdd]
      refine xS.gR rfl rfl rfl ⟨by decide, rfl⟩ rfl ?_
      try dsimp only [Nat.reduceAdd]
      refine xS.s1 rfl rfl ?_
      try dsimp only [Nat.reduceAdd]
      refine xS.aR rfl rfl (by decide) (by omega) (xsh1_get (by omega)) ?_
      try dsimp only [Nat.reduceAdd]
      refine xS.s1 rfl rfl ?_
      try dsimp only [Nat.reduceAdd, xj_11]
      -- 30 yX11_findingOfPair
      refine xS.callS rfl rfl rfl ⟨Nat.le_of_ble_eq_true rfl, rfl⟩ (c_X11_findingOfPair (xce_row ht) hz (xce_row hp1) hz2 (by decide)) (fun v M1 hv => ?_)
      rw [hv.1, hv.2]
      clear hv M1 v
      try dsimp only [Nat.reduceAdd, Option.toList, List.cons_append, List.nil_append, List.drop]
      refine xS.s1 rfl rfl ?_
      try dsimp only [Nat.reduceAdd]
      refine xS.s1 rfl rfl ?_
      try dsimp only [Nat.reduceAdd]
      refine xS.br0 (c := .eq) (off := 9) (l := 3) rfl rfl (fun h35 => ?_) (fun h35 => ?_)
      · have g35 := xt_eq h35
        exact absurd ((nI_eq (b := 0) (by have := xfop_le (g (23 + 2 * t) 1) (g (23 + 2 * t + 1)) (g (23 + 2 * p) 1) (g (23 + 2 * p + 1)) 11; omega) (by omega)).mp g35) hf
      · have g35 := xf_eq h35
        refine xS.s1 rfl rfl ?_
        try dsimp only [Nat.reduceAdd]
        refine xS.s1 rfl rfl ?_
        try dsimp only [Nat.reduceAdd]
        -- 40 yX11_refuse
        refine xS.cv rfl rfl rfl rfl rfl rfl ⟨by decide, rfl, rfl⟩ (c_X11_refuse (t := (xfop (g (23 + 2 * t) 1) (g (23 + 2 * t + 1)) (g (23 + 2 * p) 1) (g (23 + 2 * p + 1)) 11)) (by omega) (xfop_le _ _ _ _ _)) (fun v M1 hv => ?_)
        rw [hv.1, hv.2]
        clear hv M1 v
        try dsimp only [Nat.reduceAdd, Option.toList, List.cons_append, List.nil_append, List.drop]
        refine xS.ret rfl rfl rfl (fun _ _ => rfl) ?_
        exact ⟨rfl, rfl⟩
    · have g11 := xf_ne h11
      exfalso; first | exact absurd g11 (by decide) | (simp (disch := omega) only [Int32.lt_iff_toInt_lt, Int32.le_iff_toInt_le, nI_toInt, Int32.reduceToInt] at g11 <;> omega)

set_option maxRecDepth 10000 in
theorem c_X11_fit_ok (ht : t < 6) (hp1 : p < 6) (hs : g (23 + 2 * t) 1 = nI m) (hs2 : g (23 + 2 * p) 1 = nI m) (hm : m ≤ 12) (hf : xfop (g (23 + 2 * t) 1) (g (23 + 2 * t + 1)) (g (23 + 2 * p) 1) (g (23 + 2 * p + 1)) 12 = 0) (hx : ∀ i, i < m → xstp (g (23 + 2 * t + 1) i)) (hx2 : ∀ i, i < m → xstp (g (23 + 2 * p + 1) i)) : xT (k + 5) 101 [.ref 0, .int (nI t), .int (nI p)] (xH b g l) (fun r M' => M' = xH b (up g 0 11 (xfI (xfst (fun i => !decide (g (23 + 2 * t + 1) i = g (23 + 2 * p + 1) i)) m))) l ∧ r = some (.int (nI (xcnt (fun i => !decide (g (23 + 2 * t + 1) i = g (23 + 2 * p + 1) i)) m)))) := by
  have hz : xsz (g (23 + 2 * t) 1) 40 := Or.inr ⟨m, by omega, hs⟩
  have hz2 : xsz (g (23 + 2 * p) 1) 40 := Or.inr ⟨m, by omega, hs2⟩
  refine xT.of rfl (Nat.le_of_ble_eq_true rfl) ?_
  change xS _ _ 0 [(0, .ref 0), (1, .int (nI t)), (2, .int (nI p))] [] _ _
  refine xS.s1 rfl rfl ?_
  try dsimp only [Nat.reduceAdd]
  -- 1 yX11_isRow
  refine xS.callS rfl rfl rfl ⟨Nat.le_of_ble_eq_true rfl, rfl⟩ (c_X11_isRow_in ht) (fun v M1 hv => ?_)
  rw [hv.1, hv.2]
  clear hv M1 v
  try dsimp only [Nat.reduceAdd, Option.toList, List.cons_append, List.nil_append, List.drop]
  refine xS.br0 (c := .eq) (off := 10) (l := 3) rfl rfl (fun h4 => ?_) (fun h4 => ?_)
  · have g4 := xt_eq h4
    exfalso; first | exact absurd g4 (by decide) | (simp (disch := omega) only [Int32.lt_iff_toInt_lt, Int32.le_iff_toInt_le, nI_toInt, Int32.reduceToInt] at g4 <;> omega)
  · have g4 := xf_eq h4
    refine xS.s1 rfl rfl ?_
    try dsimp only [Nat.reduceAdd]
    -- 8 yX11_isRow
    refine xS.callS rfl rfl rfl ⟨Nat.le_of_ble_eq_true rfl, rfl⟩ (c_X11_isRow_in hp1) (fun v M1 hv => ?_)
    rw [hv.1, hv.2]
    clear hv M1 v
    try dsimp only [Nat.reduceAdd, Option.toList, List.cons_append, List.nil_append, List.drop]
    refine xS.br0 (c := .ne) (off := 5) (l := 3) rfl rfl (fun h11 => ?_) (fun h11 => ?_)
    · have g11 := xt_ne h11
      refine xS.s1 rfl rfl ?_
      try dsimp only [Nat.reduceAdd]
      refine xS.gR rfl rfl rfl ⟨by decide, rfl⟩ rfl ?_
      try dsimp only [Nat.reduceAdd]
      refine xS.s1 rfl rfl ?_
      try dsimp only [Nat.reduceAdd]
      refine xS.aR rfl rfl (by decide) (by omega) (xsh1_get (by omega)) ?_
      try dsimp only [Nat.reduceAdd]
      refine xS.s1 rfl rfl ?_
      try dsimp only [Nat.reduceAdd]
      refine xS.gR rfl rfl rfl ⟨by decide, rfl⟩ rfl ?_
      try dsimp only [Nat.reduceAdd]
      refine xS.s1 rfl rfl ?_
      try dsimp only [Nat.reduceAdd]
      refine xS.aR rfl rfl (by decide) (by omega) (xsh1_get (by omega)) ?_
      try dsimp only [Nat.reduceAdd]
      refine xS.s1 rfl rfl ?_
      try dsimp only [Nat.reduceAdd, xj_12]
      -- 30 yX11_findingOfPair
      refine xS.callS rfl rfl rfl ⟨Nat.le_of_ble_eq_true rfl, rfl⟩ (c_X11_findingOfPair (xce_row ht) hz (xce_row hp1) hz2 (by decide)) (fun v M1 hv => ?_)
      rw [hv.1, hv.2, hf]
      clear hv M1 v
      try dsimp only [Nat.reduceAdd, Option.toList, List.cons_append, List.nil_append, List.drop]
      refine xS.s1 rfl rfl ?_
      try dsimp only [Nat.reduceAdd]
      refine xS.s1 rfl rfl ?_
      try dsimp only [Nat.reduceAdd]
      refine xS.br0 (c := .eq) (off := 9) (l := 3) rfl rfl (fun h35 => ?_) (fun h35 => ?_)
      · have g35 := xt_eq h35
        refine xS.s1 rfl rfl ?_
        try dsimp only [Nat.reduceAdd, xj_m9]
        refine xS.s1 rfl rfl ?_
        try dsimp only [Nat.reduceAdd]
        refine xS.s1 rfl rfl ?_
        try dsimp only [Nat.reduceAdd, xi_0]
        refine xS.s1 rfl rfl ?_
        try dsimp only [Nat.reduceAdd]
        refine xS.s1 rfl rfl ?_
        try dsimp only [Nat.reduceAdd, xi_0]
        refine xS.s1 rfl rfl ?_
        try dsimp only [Nat.reduceAdd]
        refine xS.pick [0, 2, 1, 4, 5, 6] rfl ?_
        refine xS.loop (σ := Unit) (m) (fun j S => [(6, .int (nI j)), (4, .int (xfI (xfst (fun i => !decide (g (23 + 2 * t + 1) i = g (23 + 2 * p + 1) i)) j))), (5, .int (nI (xcnt (fun i => !decide (g (23 + 2 * t + 1) i = g (23 + 2 * p + 1) i)) j))), (0, .ref 0), (1, .int (nI t)), (2, .int (nI p))]) (fun _ _ => xH b g l) (fun _ _ => True) (()) (rfl) (rfl) (trivial) ?_
        intro j S hj hI ih
        try dsimp only
        refine xS.s1 rfl rfl ?_
        try dsimp only [Nat.reduceAdd]
        refine xS.s1 rfl rfl ?_
        try dsimp only [Nat.reduceAdd]
        refine xS.gR rfl rfl rfl ⟨by decide, rfl⟩ rfl ?_
        try dsimp only [Nat.reduceAdd]
        refine xS.s1 rfl rfl ?_
        try dsimp only [Nat.reduceAdd]
        refine xS.aR rfl rfl (by decide) (by omega) (xsh1_get (by omega)) ?_
        try dsimp only [Nat.reduceAdd]
        -- 62 yX0_size
        refine xS.cv rfl rfl rfl ((xce_row (r := t) (by omega)).1 _) rfl rfl ⟨by decide, rfl, rfl⟩ (c_X0_size (xce_row ht)) (fun v M1 hv => ?_)
        rw [hv.1, hv.2, hs]
        clear hv M1 v
        try dsimp only [Nat.reduceAdd, Option.toList, List.cons_append, List.nil_append, List.drop]
        refine xS.br (c := .ge) (off := 53) (l := 3) rfl rfl (fun h65 => ?_) (fun h65 => ?_)
        · have g65 := xt_ge h65
          have e := xnle g65 (by omega) (by omega)
          have e2 : m = j := by omega
          subst e2
          refine xS.s1 rfl rfl ?_
          try dsimp only [Nat.reduceAdd]
          refine xS.s1 rfl rfl ?_
          try dsimp only [Nat.reduceAdd]
          refine xS.pI rfl rfl rfl ⟨⟨by decide, rfl⟩, rfl, by decide, by decide⟩ rfl ?_
          try dsimp only [Nat.reduceAdd]
          refine xS.s1 rfl rfl ?_
          try dsimp only [Nat.reduceAdd]
          refine xS.ret rfl rfl rfl (fun _ _ => rfl) ?_
          exact ⟨rfl, rfl⟩
        · have g65 := xf_ge h65
          have hlt := xnlt g65 (by omega) (by omega)
          refine xS.s1 rfl rfl ?_
          try dsimp only [Nat.reduceAdd]
          refine xS.gR rfl rfl rfl ⟨by decide, rfl⟩ rfl ?_
          try dsimp only [Nat.reduceAdd]
          refine xS.s1 rfl rfl ?_
          try dsimp only [Nat.reduceAdd]
          refine xS.aR rfl rfl (by decide) (by omega) (xsh1_get (by omega)) ?_
          try dsimp only [Nat.reduceAdd]
          refine xS.s1 rfl rfl ?_
          try dsimp only [Nat.reduceAdd]
          -- 76 yX0_get
          refine xS.cv rfl rfl rfl ((xce_row (r := t) (by omega)).1 _) rfl rfl ⟨by decide, rfl, rfl⟩ (c_X0_get (xce_row ht) hs (by omega) hlt) (fun v M1 hv => ?_)
          rw [hv.1, hv.2]
          clear hv M1 v
          try dsimp only [Nat.reduceAdd, Option.toList, List.cons_append, List.nil_append, List.drop]
          refine xS.s1 rfl rfl ?_
          try dsimp only [Nat.reduceAdd]
          refine xS.gR rfl rfl rfl ⟨by decide, rfl⟩ rfl ?_
          try dsimp only [Nat.reduceAdd]
          refine xS.s1 rfl rfl ?_
          try dsimp only [Nat.reduceAdd]
          refine xS.aR rfl rfl (by decide) (by omega) (xsh1_get (by omega)) ?_
          try dsimp only [Nat.reduceAdd]
          refine xS.s1 rfl rfl ?_
          try dsimp only [Nat.reduceAdd]
          -- 87 yX0_get
          refine xS.cv rfl rfl rfl ((xce_row (r := p) (by omega)).1 _) rfl rfl ⟨by decide, rfl, rfl⟩ (c_X0_get (xce_row hp1) hs2 (by omega) hlt) (fun v M1 hv => ?_)
          rw [hv.1, hv.2]
          clear hv M1 v
          try dsimp only [Nat.reduceAdd, Option.toList, List.cons_append, List.nil_append, List.drop]
          refine xS.br (c := .eq) (off := 22) (l := 3) rfl rfl (fun h90 => ?_) (fun h90 => ?_)
          · have g90 := xt_eq h90
            refine xS.s1 rfl rfl ?_
            try dsimp only [Nat.reduceAdd, xi_1]
            rw [nI_1]
            refine xS.s1 rfl rfl ?_
            try dsimp only [Nat.reduceAdd]
            refine xS.pick [0, 1, 2, 3, 4, 5] rfl ?_
            have ih2 := ih () (by omega) trivial
            rw [xfst_f (p := (fun i => !decide (g (23 + 2 * t + 1) i = g (23 + 2 * p + 1) i))) (by simp [g90]), show xcnt (fun i => !decide (g (23 + 2 * t + 1) i = g (23 + 2 * p + 1) i)) (j + 1) = xcnt (fun i => !decide (g (23 + 2 * t + 1) i = g (23 + 2 * p + 1) i)) j from by simp [xcnt_s, g90]] at ih2
            exact ih2
          · have g90 := xf_eq h90
            refine xS.s1 rfl rfl ?_
            try dsimp only [Nat.reduceAdd]
            refine xS.s1 rfl rfl ?_
            try dsimp only [Nat.reduceAdd, xj_m9]
            refine xS.br (c := .ne) (off := 8) (l := 3) rfl rfl (fun h97 => ?_) (fun h97 => ?_)
            · have g97 := xt_ne h97
              refine xS.s1 rfl rfl ?_
              try dsimp only [Nat.reduceAdd]
              refine xS.s1 rfl rfl ?_
              try dsimp only [Nat.reduceAdd]
              refine xS.s1 rfl rfl ?_
              try dsimp only [Nat.reduceAdd, xi_1]
              rw [nI_1]
              refine xS.s1 rfl rfl ?_
              try dsimp only [Nat.reduceAdd, xi_1]
              rw [nI_1]
              refine xS.s1 rfl rfl ?_
              try dsimp only [Nat.reduceAdd]
              refine xS.pick [0, 2, 1, 3, 4, 5] rfl ?_
              have ih2 := ih () (by omega) trivial
              rw [show xcnt (fun i => !decide (g (23 + 2 * t + 1) i = g (23 + 2 * p + 1) i)) (j + 1) = xcnt (fun i => !decide (g (23 + 2 * t + 1) i = g (23 + 2 * p + 1) i)) j + 1 from by simp [xcnt_s, g90]] at ih2
              have e97 := (not_congr (xfI_none (xfI_b (by omega)))).mp g97
              rw [xfst_k e97] at ih2
              exact ih2
            · have g97 := xf_ne h97
              refine xS.s1 rfl rfl ?_
              try dsimp only [Nat.reduceAdd]
              refine xS.s1 rfl rfl ?_
              try dsimp only [Nat.reduceAdd]
              refine xS.s1 rfl rfl ?_
              try dsimp only [Nat.reduceAdd]
              refine xS.s1 rfl rfl ?_
              try dsimp only [Nat.reduceAdd, xi_1]
              rw [nI_1]
              refine xS.s1 rfl rfl ?_
              try dsimp only [Nat.reduceAdd, xi_1]
              rw [nI_1]
              refine xS.s1 rfl rfl ?_
              try dsimp only [Nat.reduceAdd]
              refine xS.pick [0, 2, 1, 3, 4, 5] rfl ?_
              have ih2 := ih () (by omega) trivial
              rw [show xcnt (fun i => !decide (g (23 + 2 * t + 1) i = g (23 + 2 * p + 1) i)) (j + 1) = xcnt (fun i => !decide (g (23 + 2 * t + 1) i = g (23 + 2 * p + 1) i)) j + 1 from by simp [xcnt_s, g90]] at ih2
              have e97 := (xfI_none (xfI_b (by omega))).mp g97
              rw [xfst_c (p := (fun i => !decide (g (23 + 2 * t + 1) i = g (23 + 2 * p + 1) i))) e97 (by simp [g90])] at ih2
              exact ih2
      · have g35 := xf_eq h35
        exfalso; first | exact absurd g35 (by decide) | (simp (disch := omega) only [Int32.lt_iff_toInt_lt, Int32.le_iff_toInt_le, nI_toInt, Int32.reduceToInt] at g35 <;> omega)
    · have g11 := xf_ne h11
      exfalso; first | exact absurd g11 (by decide) | (simp (disch := omega) only [Int32.lt_iff_toInt_lt, Int32.le_iff_toInt_le, nI_toInt, Int32.reduceToInt] at g11 <;> omega)

end
