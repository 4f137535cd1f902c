/-! calls of panes; what a room tells -/
def xiso (κ : Nat) (x : Int32) : Bool := decide (x = nI κ) || (decide (x = 0) || ((decide (κ = 4) && decide (x = 1)) || (decide (κ = 5) && decide (x = 2))))
theorem xfst_lt {p : Nat → Bool} : ∀ {n d : Nat}, xfst p n = some d → d < n ∧ p d = true
  | 0, _, h => by cases h
  | n + 1, d, h => by
    rw [xfst_s] at h
    cases e : xfst p n with
    | some d' =>
      rw [e] at h
      cases h
      have := xfst_lt e
      exact ⟨by omega, this.2⟩
    | none =>
      rw [e] at h
      cases hp : p n with
      | true => rw [hp] at h; cases h; exact ⟨by omega, hp⟩
      | false => rw [hp] at h; cases h
theorem xfI_none {o : Option Nat} (h : ∀ d, o = some d → d < 2 ^ 31) : xfI o = -9 ↔ o = none := by
  cases o with
  | none => exact ⟨fun _ => rfl, fun _ => rfl⟩
  | some d =>
    refine ⟨fun e => ?_, fun e => by cases e⟩
    have h1 := nI_toInt (h d rfl)
    have h2 : (nI d).toInt = (-9 : Int32).toInt := by rw [← show xfI (some d) = nI d from rfl, e]
    rw [h1] at h2
    exact absurd h2 (by have : (-9 : Int32).toInt = -9 := rfl; omega)
def xtm (tx : Nat → Int32) (x y : Int32) : Nat → Bool := fun n => decide (tx (2 * n) = x) && decide (tx (2 * n + 1) = y)
def xfb (tx : Nat → Int32) (T : Nat) (x y : Int32) : Option Nat := xfst (xtm tx x y) T
def xbits (p : Nat → Bool) (n : Nat) : Int32 := Nat.rec (motive := fun _ => Int32) 0 (fun j c => bif p j then c ||| (1 <<< (nI j &&& 31)) else c) n
theorem xbits_s (p : Nat → Bool) (n : Nat) : xbits p (n + 1) = bif p n then xbits p n ||| (1 <<< (nI n &&& 31)) else xbits p n := rfl
def xstp (x : Int32) : Prop := ∃ v, v < 6 ∧ x = nI v
def xN (x : Int32) : Nat := x.toNatClampNeg
theorem xN_nI {v : Nat} (h : v < 2 ^ 31) : xN (nI v) = v := nI_clamp h
theorem xstp_N {x : Int32} (h : xstp x) : xN x < 6 ∧ x = nI (xN x) := by
  obtain ⟨v, h1, rfl⟩ := h
  rw [xN_nI (by omega)]
  exact ⟨h1, rfl⟩
section
variable {q : xQ} {k pc l0 idx idx' L i : Nat} {lv : xL} {rest : List Value} {P : Option Value → xM → Prop} {b : Nat × Nat} {g : Nat → Nat → Int32} {l : Nat → Nat → Int64} {x : Int32}
theorem xS.cSrc (hl : xe_lkF q.1 pc = some (.invokevirtual idx, l0)) (hx : xcF q.2.1 idx = some (idx', 3, 1, [(3, 39), (4, 42), (5, 45), (6, 51), (8, 73), (9, 51)])) (hp : xpn g) (hL : L < 24) (hi : i < 2 ^ 30) (hr : xe_sum rest = true) (h : xS q (k + 3) (pc + 3) lv (.int (xoI (xsrc (L / 4) (L % 4) i)) :: rest) (xH b g l) P) : xS q (k + 3) pc lv (.int (nI i) :: .ref (43 + L) :: rest) (xH b g l) P := by
  have hd := (hp L hL).2
  have hd4 : L % 4 < 4 := Nat.mod_lt _ (by omega)
  rcases xpsh hL with ⟨e, hC⟩ | ⟨e, hC⟩ | ⟨e, hC⟩ | ⟨e, hC⟩ | ⟨e, hC⟩ | ⟨e, hC⟩ <;> rw [e] at h
  · refine xS.cv hl hx rfl (hC b) rfl rfl ⟨by decide, rfl, hr⟩ c_X7_source (fun v M1 hv => ?_)
    rw [hv.1, hv.2]
    exact h
  · refine xS.cv hl hx rfl (hC b) rfl rfl ⟨by decide, rfl, hr⟩ (c_X5_source_4 hC hd hd4 hi) (fun v M1 hv => ?_)
    rw [hv.1, hv.2]
    exact h
  · refine xS.cv hl hx rfl (hC b) rfl rfl ⟨by decide, rfl, hr⟩ (c_X9_source (by omega)) (fun v M1 hv => ?_)
    rw [hv.1, hv.2]
    have e2 : xoI (xsrc 2 (L % 4) i) = if i % 2 = 1 then -1 else nI i := by
      unfold xsrc
      by_cases c : i % 2 = 1 <;> simp [c, xoI]
    rw [e2] at h
    exact h
  · refine xS.cv hl hx rfl (hC b) rfl rfl ⟨by decide, rfl, hr⟩ c_X7_source (fun v M1 hv => ?_)
    rw [hv.1, hv.2]
    exact h
  · refine xS.cv hl hx rfl (hC b) rfl rfl ⟨by decide, rfl, hr⟩ (c_X6_source hC hd hd4 hi) (fun v M1 hv => ?_)
    rw [hv.1, hv.2]
    exact h
  · refine xS.cv hl hx rfl (hC b) rfl rfl ⟨by decide, rfl, hr⟩ c_X4_source (fun v M1 hv => ?_)
    rw [hv.1, hv.2]
    exact h
theorem xS.cThk (hl : xe_lkF q.1 pc = some (.invokevirtual idx, l0)) (hx : xcF q.2.1 idx = some (idx', 3, 1, [(3, 40), (4, 52), (5, 52), (6, 52), (8, 52), (9, 76)])) (hL : L < 24) (hi : i < 2 ^ 30) (hr : xe_sum rest = true) (h : xS q (k + 2) (pc + 3) lv (.int (if xth (L / 4) i = true then 1 else 0) :: rest) (xH b g l) P) : xS q (k + 2) pc lv (.int (nI i) :: .ref (43 + L) :: rest) (xH b g l) P := by
  rcases xpsh hL with ⟨e, hC⟩ | ⟨e, hC⟩ | ⟨e, hC⟩ | ⟨e, hC⟩ | ⟨e, hC⟩ | ⟨e, hC⟩ <;> rw [e] at h
  · refine xS.cv hl hx rfl (hC b) rfl rfl ⟨by decide, rfl, hr⟩ c_X7_thinks (fun v M1 hv => ?_)
    rw [hv.1, hv.2]
    exact h
  · refine xS.cv hl hx rfl (hC b) rfl rfl ⟨by decide, rfl, hr⟩ c_X7_thinks (fun v M1 hv => ?_)
    rw [hv.1, hv.2]
    exact h
  · refine xS.cv hl hx rfl (hC b) rfl rfl ⟨by decide, rfl, hr⟩ c_X7_thinks (fun v M1 hv => ?_)
    rw [hv.1, hv.2]
    exact h
  · refine xS.cv hl hx rfl (hC b) rfl rfl ⟨by decide, rfl, hr⟩ c_X10_thinks (fun v M1 hv => ?_)
    rw [hv.1, hv.2]
    exact h
  · refine xS.cv hl hx rfl (hC b) rfl rfl ⟨by decide, rfl, hr⟩ c_X7_thinks (fun v M1 hv => ?_)
    rw [hv.1, hv.2]
    exact h
  · refine xS.cv hl hx rfl (hC b) rfl rfl ⟨by decide, rfl, hr⟩ (c_X4_thinks (by omega)) (fun v M1 hv => ?_)
    rw [hv.1, hv.2]
    have e2 : (if xth 5 i = true then (1 : Int32) else 0) = if i % 2 = 1 then 1 else 0 := by
      unfold xth
      by_cases c : i % 2 = 1 <;> simp [c]
    rw [e2] at h
    exact h
theorem xS.cIso (hl : xe_lkF q.1 pc = some (.invokevirtual idx, l0)) (hx : xcF q.2.1 idx = some (idx', 3, 1, [(3, 74), (4, 43), (5, 43), (6, 50), (8, 74), (9, 50)])) (hp : xpn g) (hL : L < 24) (hr : xe_sum rest = true) (h : xS q (k + 2) (pc + 3) lv (.int (if xiso (L / 4) x = true then 1 else 0) :: rest) (xH b g l) P) : xS q (k + 2) pc lv (.int x :: .ref (43 + L) :: rest) (xH b g l) P := by
  have hd := (hp L hL).1
  rcases xpsh hL with ⟨e, hC⟩ | ⟨e, hC⟩ | ⟨e, hC⟩ | ⟨e, hC⟩ | ⟨e, hC⟩ | ⟨e, hC⟩ <;> rw [e] at h hd
  · refine xS.cv hl hx rfl (hC b) rfl rfl ⟨by decide, rfl, hr⟩ (c_X7_isOf_6 hC) (fun v M1 hv => ?_)
    rw [hv.1, hv.2, hd]
    simp [xiso] at h
    exact h
  · refine xS.cv hl hx rfl (hC b) rfl rfl ⟨by decide, rfl, hr⟩ (c_X5_isOf_4 hC) (fun v M1 hv => ?_)
    rw [hv.1, hv.2, hd]
    have e2 : (if xiso 1 x = true then (1 : Int32) else 0) = if x = 1 ∨ x = nI 1 ∨ x = 0 then 1 else 0 := by
      congr 1
      simp [xiso]
      intro z
      exact Or.inl z
    rw [e2] at h
    exact h
  · refine xS.cv hl hx rfl (hC b) rfl rfl ⟨by decide, rfl, hr⟩ (c_X9_isOf_8 hC) (fun v M1 hv => ?_)
    rw [hv.1, hv.2, hd]
    have e2 : (if xiso 2 x = true then (1 : Int32) else 0) = if x = 2 ∨ x = nI 2 ∨ x = 0 then 1 else 0 := by
      congr 1
      simp [xiso]
      intro z
      exact Or.inl z
    rw [e2] at h
    exact h
  · refine xS.cv hl hx rfl (hC b) rfl rfl ⟨by decide, rfl, hr⟩ (c_X7_isOf_9 hC) (fun v M1 hv => ?_)
    rw [hv.1, hv.2, hd]
    have e2 : (if xiso 3 x = true then (1 : Int32) else 0) = if x = nI 3 ∨ x = 0 then 1 else 0 := by
      congr 1
      simp [xiso]
    rw [e2] at h
    exact h
  · refine xS.cv hl hx rfl (hC b) rfl rfl ⟨by decide, rfl, hr⟩ (c_X5_isOf_5 hC) (fun v M1 hv => ?_)
    rw [hv.1, hv.2, hd]
    have e2 : (if xiso 4 x = true then (1 : Int32) else 0) = if x = 1 ∨ x = nI 4 ∨ x = 0 then 1 else 0 := by
      congr 1
      simp [xiso]
      constructor
      · rintro (z | z | z)
        · exact Or.inr (Or.inl z)
        · exact Or.inr (Or.inr z)
        · exact Or.inl z
      · rintro (z | z | z)
        · exact Or.inr (Or.inr z)
        · exact Or.inl z
        · exact Or.inr (Or.inl z)
    rw [e2] at h
    exact h
  · refine xS.cv hl hx rfl (hC b) rfl rfl ⟨by decide, rfl, hr⟩ (c_X9_isOf_3 hC) (fun v M1 hv => ?_)
    rw [hv.1, hv.2, hd]
    have e2 : (if xiso 5 x = true then (1 : Int32) else 0) = if x = 2 ∨ x = nI 5 ∨ x = 0 then 1 else 0 := by
      congr 1
      simp [xiso]
      constructor
      · rintro (z | z | z)
        · exact Or.inr (Or.inl z)
        · exact Or.inr (Or.inr z)
        · exact Or.inl z
      · rintro (z | z | z)
        · exact Or.inr (Or.inr z)
        · exact Or.inl z
        · exact Or.inr (Or.inl z)
    rw [e2] at h
    exact h
end

theorem xS.cKind {q : xQ} {k pc l0 idx idx' L : Nat} {lv : xL} {rest : List Value} {P : Option Value → xM → Prop} {b : Nat × Nat} {g : Nat → Nat → Int32} {l : Nat → Nat → Int64} (hl : xe_lkF q.1 pc = some (.invokevirtual idx, l0)) (hx : xcF q.2.1 idx = some (idx', 3, 0, [(3, 48), (4, 48), (5, 48), (6, 48), (8, 48), (9, 48)])) (hp : xpn g) (hL : L < 24) (hr : xe_sum rest = true) (h : xS q (k + 1) (pc + 3) lv (.int (nI (L / 4)) :: rest) (xH b g l) P) : xS q (k + 1) pc lv (.ref (43 + L) :: rest) (xH b g l) P := by
  have hd := (hp L hL).1
  rcases xpsh hL with ⟨e, hC⟩ | ⟨e, hC⟩ | ⟨e, hC⟩ | ⟨e, hC⟩ | ⟨e, hC⟩ | ⟨e, hC⟩
  · refine xS.cv hl hx rfl (hC b) rfl rfl ⟨by decide, rfl, hr⟩ (c_X7_kind_6 hC) (fun v M1 hv => ?_)
    rw [hv.1, hv.2, hd]
    exact h
  · refine xS.cv hl hx rfl (hC b) rfl rfl ⟨by decide, rfl, hr⟩ (c_X7_kind_4 hC) (fun v M1 hv => ?_)
    rw [hv.1, hv.2, hd]
    exact h
  · refine xS.cv hl hx rfl (hC b) rfl rfl ⟨by decide, rfl, hr⟩ (c_X7_kind_8 hC) (fun v M1 hv => ?_)
    rw [hv.1, hv.2, hd]
    exact h
  · refine xS.cv hl hx rfl (hC b) rfl rfl ⟨by decide, rfl, hr⟩ (c_X7_kind_9 hC) (fun v M1 hv => ?_)
    rw [hv.1, hv.2, hd]
    exact h
  · refine xS.cv hl hx rfl (hC b) rfl rfl ⟨by decide, rfl, hr⟩ (c_X7_kind_5 hC) (fun v M1 hv => ?_)
    rw [hv.1, hv.2, hd]
    exact h
  · refine xS.cv hl hx rfl (hC b) rfl rfl ⟨by decide, rfl, hr⟩ (c_X7_kind_3 hC) (fun v M1 hv => ?_)
    rw [hv.1, hv.2, hd]
    exact h

theorem xS.cDelay {q : xQ} {k pc l0 idx idx' L : Nat} {lv : xL} {rest : List Value} {P : Option Value → xM → Prop} {b : Nat × Nat} {g : Nat → Nat → Int32} {l : Nat → Nat → Int64} (hl : xe_lkF q.1 pc = some (.invokevirtual idx, l0)) (hx : xcF q.2.1 idx = some (idx', 3, 0, [(3, 49), (4, 49), (5, 49), (6, 49), (8, 49), (9, 49)])) (hp : xpn g) (hL : L < 24) (hr : xe_sum rest = true) (h : xS q (k + 1) (pc + 3) lv (.int (nI (L % 4)) :: rest) (xH b g l) P) : xS q (k + 1) pc lv (.ref (43 + L) :: rest) (xH b g l) P := by
  have hd := (hp L hL).2
  rcases xpsh hL with ⟨e, hC⟩ | ⟨e, hC⟩ | ⟨e, hC⟩ | ⟨e, hC⟩ | ⟨e, hC⟩ | ⟨e, hC⟩
  · refine xS.cv hl hx rfl (hC b) rfl rfl ⟨by decide, rfl, hr⟩ (c_X7_delay_6 hC) (fun v M1 hv => ?_)
    rw [hv.1, hv.2, hd]
    exact h
  · refine xS.cv hl hx rfl (hC b) rfl rfl ⟨by decide, rfl, hr⟩ (c_X7_delay_4 hC) (fun v M1 hv => ?_)
    rw [hv.1, hv.2, hd]
    exact h
  · refine xS.cv hl hx rfl (hC b) rfl rfl ⟨by decide, rfl, hr⟩ (c_X7_delay_8 hC) (fun v M1 hv => ?_)
    rw [hv.1, hv.2, hd]
    exact h
  · refine xS.cv hl hx rfl (hC b) rfl rfl ⟨by decide, rfl, hr⟩ (c_X7_delay_9 hC) (fun v M1 hv => ?_)
    rw [hv.1, hv.2, hd]
    exact h
  · refine xS.cv hl hx rfl (hC b) rfl rfl ⟨by decide, rfl, hr⟩ (c_X7_delay_5 hC) (fun v M1 hv => ?_)
    rw [hv.1, hv.2, hd]
    exact h
  · refine xS.cv hl hx rfl (hC b) rfl rfl ⟨by decide, rfl, hr⟩ (c_X7_delay_3 hC) (fun v M1 hv => ?_)
    rw [hv.1, hv.2, hd]
    exact h

section
variable {k a c n n2 m t p s d i1 j1 : Nat} {b : Nat × Nat} {g : Nat → Nat → Int32} {l : Nat → Nat → Int64} {i j x y z v w : Int32} {u w1 w2 : Int64}
variable {L : Nat}
set_option maxRecDepth 10000 in
theorem c_X11_isStep  : xT (k + 1) 126 [.int x] (xH b g l) (fun r M' => M' = xH b g l ∧ r = some (.int (if 0 ≤ x ∧ x < 6 then 1 else 0))) := by
  refine xT.of rfl (Nat.le_of_ble_eq_true rfl) ?_
  dsimp only [lv_args]
  refine xS.s1 rfl rfl ?_
  try dsimp only [Nat.reduceAdd]
  refine xS.br0 (c := .lt) (off := 13) (l := 3) rfl rfl (fun h1 => ?_) (fun h1 => ?_)
  · have g1 := xt_lt h1
    refine xS.s1 rfl rfl ?_
    try dsimp only [Nat.reduceAdd, xi_0]
    refine xS.ret rfl rfl rfl (fun _ _ => rfl) ?_
    exact ⟨rfl, by split <;> first | rfl | (exfalso; simp only [Int32.le_iff_toInt_le, Int32.lt_iff_toInt_lt, Int32.reduceToInt] at *; omega)⟩
  · have g1 := xf_lt h1
    refine xS.s1 rfl rfl ?_
    try dsimp only [Nat.reduceAdd]
    refine xS.s1 rfl rfl ?_
    try dsimp only [Nat.reduceAdd, xj_6]
    refine xS.br (c := .ge) (off := 7) (l := 3) rfl rfl (fun h7 => ?_) (fun h7 => ?_)
    · have g7 := xt_ge h7
      refine xS.s1 rfl rfl ?_
      try dsimp only [Nat.reduceAdd, xi_0]
      refine xS.ret rfl rfl rfl (fun _ _ => rfl) ?_
      exact ⟨rfl, by split <;> first | rfl | (exfalso; simp only [Int32.le_iff_toInt_le, Int32.lt_iff_toInt_lt, Int32.reduceToInt] at *; omega)⟩
    · have g7 := xf_ge h7
      refine xS.s1 rfl rfl ?_
      try dsimp only [Nat.reduceAdd, xi_1]
      refine xS.s1 rfl rfl ?_
      try dsimp only [Nat.reduceAdd]
      refine xS.ret rfl rfl rfl (fun _ _ => rfl) ?_
      exact ⟨rfl, by split <;> first | rfl | (exfalso; simp only [Int32.le_iff_toInt_le, Int32.lt_iff_toInt_lt, Int32.reduceToInt] at *; omega)⟩

theorem c_X11_isStep_in (ht : t < 6) : xT (k + 1) 126 [.int (nI t)] (xH b g l) (fun r M' => M' = xH b g l ∧ r = some (.int 1)) := by
  refine (c_X11_isStep).weak (fun r M' h => ⟨h.1, ?_⟩)
  rw [h.2, if_pos ⟨nI_pos' (by omega), nI_lt (b := 6) ht (by omega)⟩]

set_option maxRecDepth 10000 in
theorem c_X8_glasses (hC : xro a) : xT (k + 1) 55 [.ref a] (xH b g l) (fun r M' => M' = xH b g l ∧ r = some (.int (g a 2))) := by
  refine xT.of rfl (Nat.le_of_ble_eq_true rfl) ?_
  dsimp only [lv_args]
  refine xS.s1 rfl rfl ?_
  try dsimp only [Nat.reduceAdd]
  refine xS.gI rfl (hC.1 _) rfl ⟨by decide, rfl⟩ rfl ?_
  try dsimp only [Nat.reduceAdd]
  refine xS.ret rfl rfl rfl (fun _ _ => rfl) ?_
  exact ⟨rfl, rfl⟩

set_option maxRecDepth 10000 in
theorem c_X8_terms (hC : xro a) : xT (k + 1) 56 [.ref a] (xH b g l) (fun r M' => M' = xH b g l ∧ r = some (.int (g a 4))) := by
  refine xT.of rfl (Nat.le_of_ble_eq_true rfl) ?_
  dsimp only [lv_args]
  refine xS.s1 rfl rfl ?_
  try dsimp only [Nat.reduceAdd]
  refine xS.gI rfl (hC.1 _) rfl ⟨by decide, rfl⟩ rfl ?_
  try dsimp only [Nat.reduceAdd]
  refine xS.ret rfl rfl rfl (fun _ _ => rfl) ?_
  exact ⟨rfl, rfl⟩

set_option maxRecDepth 10000 in
theorem c_X8_lawOf (hC : xro a) (hs : g a 2 = nI m) (hm : m ≤ 6) (ht : t < m) : xT (k + 1) 57 [.ref a, .int (nI t)] (xH b g l) (fun r M' => M' = xH b g l ∧ r = some (.int (g (a + 2) t))) := by
  refine xT.of rfl (Nat.le_of_ble_eq_true rfl) ?_
  dsimp only [lv_args]
  refine xS.s1 rfl rfl ?_
  try dsimp only [Nat.reduceAdd]
  refine xS.br0 (c := .lt) (off := 20) (l := 3) rfl rfl (fun h1 => ?_) (fun h1 => ?_)
  · have g1 := xt_lt h1
    exfalso; simp (disch := omega) only [hs, Int32.lt_iff_toInt_lt, Int32.le_iff_toInt_le, nI_toInt, Int32.reduceToInt] at g1 <;> omega
  · have g1 := xf_lt h1
    refine xS.s1 rfl rfl ?_
    try dsimp only [Nat.reduceAdd]
    refine xS.s1 rfl rfl ?_
    try dsimp only [Nat.reduceAdd]
    refine xS.gI rfl (hC.1 _) rfl ⟨by decide, rfl⟩ rfl ?_
    try dsimp only [Nat.reduceAdd]
    refine xS.br (c := .ge) (off := 12) (l := 3) rfl rfl (fun h9 => ?_) (fun h9 => ?_)
    · have g9 := xt_ge h9
      exfalso; simp (disch := omega) only [hs, Int32.lt_iff_toInt_lt, Int32.le_iff_toInt_le, nI_toInt, Int32.reduceToInt] at g9 <;> omega
    · have g9 := xf_ge h9
      refine xS.s1 rfl rfl ?_
      try dsimp only [Nat.reduceAdd]
      refine xS.gR rfl (hC.1 _) rfl ⟨by decide, rfl⟩ rfl ?_
      try dsimp only [Nat.reduceAdd]
      refine xS.s1 rfl rfl ?_
      try dsimp only [Nat.reduceAdd]
      refine xS.ia rfl hC.2.2.1 (by omega) ?_
      try dsimp only [Nat.reduceAdd]
      refine xS.s1 rfl rfl ?_
      try dsimp only [Nat.reduceAdd]
      refine xS.ret rfl rfl rfl (fun _ _ => rfl) ?_
      exact ⟨rfl, rfl⟩

set_option maxRecDepth 10000 in
theorem c_X8_termStep (hC : xro a) (hs : g a 4 = nI m) (hm : m ≤ 8) (hd : d < m) (ht : t < 2) : xT (k + 1) 58 [.ref a, .int (nI d), .int (nI t)] (xH b g l) (fun r M' => M' = xH b g l ∧ r = some (.int (g (a + 3) (2 * d + t)))) := by
  refine xT.of rfl (Nat.le_of_ble_eq_true rfl) ?_
  dsimp only [lv_args]
  refine xS.s1 rfl rfl ?_
  try dsimp only [Nat.reduceAdd]
  refine xS.br0 (c := .lt) (off := 26) (l := 3) rfl rfl (fun h1 => ?_) (fun h1 => ?_)
  · have g1 := xt_lt h1
    exfalso; simp (disch := omega) only [hs, Int32.lt_iff_toInt_lt, Int32.le_iff_toInt_le, nI_toInt, Int32.reduceToInt] at g1 <;> omega
  · have g1 := xf_lt h1
    refine xS.s1 rfl rfl ?_
    try dsimp only [Nat.reduceAdd]
    refine xS.s1 rfl rfl ?_
    try dsimp only [Nat.reduceAdd]
    refine xS.gI rfl (hC.1 _) rfl ⟨by decide, rfl⟩ rfl ?_
    try dsimp only [Nat.reduceAdd]
    refine xS.br (c := .ge) (off := 18) (l := 3) rfl rfl (fun h9 => ?_) (fun h9 => ?_)
    · have g9 := xt_ge h9
      exfalso; simp (disch := omega) only [hs, Int32.lt_iff_toInt_lt, Int32.le_iff_toInt_le, nI_toInt, Int32.reduceToInt] at g9 <;> omega
    · have g9 := xf_ge h9
      refine xS.s1 rfl rfl ?_
      try dsimp only [Nat.reduceAdd]
      refine xS.gR rfl (hC.1 _) rfl ⟨by decide, rfl⟩ rfl ?_
      try dsimp only [Nat.reduceAdd]
      refine xS.s1 rfl rfl ?_
      try dsimp only [Nat.reduceAdd, xi_2]
      refine xS.s1 rfl rfl ?_
      try dsimp only [Nat.reduceAdd]
      refine xS.s1 rfl rfl ?_
      try dsimp only [Nat.reduceAdd]
      refine xS.s1 rfl rfl ?_
      try dsimp only [Nat.reduceAdd]
      refine xS.s1 rfl rfl ?_
      try dsimp only [Nat.reduceAdd, xi_1]
      refine xS.s1 rfl rfl ?_
      try dsimp only [Nat.reduceAdd]
      rw [xand1 (by omega), show t % 2 = t by omega]
      refine xS.s1 rfl rfl ?_
      try dsimp only [Nat.reduceAdd]
      rw [show (((2 * nI d) + nI t) : Int32) = nI ((2 * d) + t) from by simp only [← nI_add, ← pk_mul]; rfl]
      refine xS.ia rfl hC.2.2.2 (by omega) ?_
      try dsimp only [Nat.reduceAdd]
      refine xS.s1 rfl rfl ?_
      try dsimp only [Nat.reduceAdd]
      refine xS.ret rfl rfl rfl (fun _ _ => rfl) ?_
      exact ⟨rfl, rfl⟩

set_option maxRecDepth 10000 in
theorem c_X8_thought (hC : xro a) (ht : t < 6) : xT (k + 2) 59 [.ref a, .int (nI t)] (xH b g l) (fun r M' => M' = xH b g l ∧ r = some (.int (g (a + 1) t))) := by
  refine xT.of rfl (Nat.le_of_ble_eq_true rfl) ?_
  dsimp only [lv_args]
  refine xS.s1 rfl rfl ?_
  try dsimp only [Nat.reduceAdd]
  -- 1 yX11_isStep
  refine xS.callN rfl rfl rfl ⟨Nat.le_of_ble_eq_true rfl, rfl⟩ (c_X11_isStep_in ht) (fun v M1 hv => ?_)
  rw [hv.1, hv.2]
  clear hv M1 v
  try dsimp only [Nat.reduceAdd, Option.toList, List.cons_append, List.nil_append, List.drop]
  refine xS.br0 (c := .eq) (off := 12) (l := 3) rfl rfl (fun h4 => ?_) (fun h4 => ?_)
  · have g4 := xt_eq h4
    exact absurd g4 (by decide)
  · have g4 := xf_eq h4
    refine xS.s1 rfl rfl ?_
    try dsimp only [Nat.reduceAdd]
    refine xS.gR rfl (hC.1 _) rfl ⟨by decide, rfl⟩ rfl ?_
    try dsimp only [Nat.reduceAdd]
    refine xS.s1 rfl rfl ?_
    try dsimp only [Nat.reduceAdd]
    refine xS.ia rfl hC.2.1 (by omega) ?_
    try dsimp only [Nat.reduceAdd]
    refine xS.s1 rfl rfl ?_
    try dsimp only [Nat.reduceAdd]
    refine xS.ret rfl rfl rfl (fun _ _ => rfl) ?_
    exact ⟨rfl, rfl⟩

set_option maxRecDepth 10000 in
theorem c_X8_seen (hC : xro a) (hL : L < 24) (hi : t < 2 ^ 30) (hs : s < 6) : xT (k + 3) 60 [.ref a, .ref (43 + L), .int (nI t), .int (nI s)] (xH b g l) (fun r M' => M' = xH b g l ∧ r = some (.int (xseen (g (a + 1)) (L / 4) t s))) := by
  refine xT.of rfl (Nat.le_of_ble_eq_true rfl) ?_
  dsimp only [lv_args]
  refine xS.s1 rfl rfl ?_
  try dsimp only [Nat.reduceAdd]
  refine xS.s1 rfl rfl ?_
  try dsimp only [Nat.reduceAdd]
  refine xS.cThk rfl rfl hL hi rfl ?_
  try dsimp only [Nat.reduceAdd]
  refine xS.br0 (c := .eq) (off := 11) (l := 3) rfl rfl (fun h5 => ?_) (fun h5 => ?_)
  · have g5 := xt_eq h5
    refine xS.s1 rfl rfl ?_
    try dsimp only [Nat.reduceAdd]
    refine xS.s1 rfl rfl ?_
    try dsimp only [Nat.reduceAdd]
    refine xS.s1 rfl rfl ?_
    try dsimp only [Nat.reduceAdd]
    refine xS.s1 rfl rfl ?_
    try dsimp only [Nat.reduceAdd, xi_1]
    refine xS.br (c := .eq) (off := 9) (l := 3) rfl rfl (fun h22 => ?_) (fun h22 => ?_)
    · have g22 := xt_eq h22
      refine xS.s1 rfl rfl ?_
      try dsimp only [Nat.reduceAdd, xi_3]
      refine xS.s1 rfl rfl ?_
      try dsimp only [Nat.reduceAdd]
      refine xS.s1 rfl rfl ?_
      try dsimp only [Nat.reduceAdd]
      refine xS.s1 rfl rfl ?_
      try dsimp only [Nat.reduceAdd]
      refine xS.ret rfl rfl rfl (fun _ _ => rfl) ?_
      refine ⟨rfl, ?_⟩
      unfold xseen xmir
      first | (simp [xif0 g5, g22]; done) | (simp [xif1 g5, g22]; done)
    · have g22 := xf_eq h22
      refine xS.s1 rfl rfl ?_
      try dsimp only [Nat.reduceAdd]
      refine xS.s1 rfl rfl ?_
      try dsimp only [Nat.reduceAdd, xi_2]
      refine xS.br (c := .ne) (off := 10) (l := 3) rfl rfl (fun h28 => ?_) (fun h28 => ?_)
      · have g28 := xt_ne h28
        refine xS.s1 rfl rfl ?_
        try dsimp only [Nat.reduceAdd]
        refine xS.ret rfl rfl rfl (fun _ _ => rfl) ?_
        refine ⟨rfl, ?_⟩
        unfold xseen xmir
        first | (simp [xif0 g5, g22, g28]; done) | (simp [xif1 g5, g22, g28]; done)
      · have g28 := xf_ne h28
        refine xS.s1 rfl rfl ?_
        try dsimp only [Nat.reduceAdd, xi_3]
        refine xS.s1 rfl rfl ?_
        try dsimp only [Nat.reduceAdd]
        refine xS.s1 rfl rfl ?_
        try dsimp only [Nat.reduceAdd]
        refine xS.s1 rfl rfl ?_
        try dsimp only [Nat.reduceAdd]
        refine xS.ret rfl rfl rfl (fun _ _ => rfl) ?_
        refine ⟨rfl, ?_⟩
        unfold xseen xmir
        first | (simp [xif0 g5, g22, g28]; done) | (simp [xif1 g5, g22, g28]; done)
  · have g5 := xf_eq h5
    refine xS.s1 rfl rfl ?_
    try dsimp only [Nat.reduceAdd]
    refine xS.s1 rfl rfl ?_
    try dsimp only [Nat.reduceAdd]
    -- 10 yX8_thought
    refine xS.cv rfl rfl rfl (hC.1 _) rfl rfl ⟨by decide, rfl, rfl⟩ (c_X8_thought hC hs) (fun v M1 hv => ?_)
    rw [hv.1, hv.2]
    clear hv M1 v
    try dsimp only [Nat.reduceAdd, Option.toList, List.cons_append, List.nil_append, List.drop]
    refine xS.s1 rfl rfl ?_
    try dsimp only [Nat.reduceAdd]
    refine xS.s1 rfl rfl ?_
    try dsimp only [Nat.reduceAdd]
    refine xS.s1 rfl rfl ?_
    try dsimp only [Nat.reduceAdd]
    refine xS.s1 rfl rfl ?_
    try dsimp only [Nat.reduceAdd, xi_1]
    refine xS.br (c := .eq) (off := 9) (l := 3) rfl rfl (fun h22 => ?_) (fun h22 => ?_)
    · have g22 := xt_eq h22
      refine xS.s1 rfl rfl ?_
      try dsimp only [Nat.reduceAdd, xi_3]
      refine xS.s1 rfl rfl ?_
      try dsimp only [Nat.reduceAdd]
      refine xS.s1 rfl rfl ?_
      try dsimp only [Nat.reduceAdd]
      refine xS.s1 rfl rfl ?_
      try dsimp only [Nat.reduceAdd]
      refine xS.ret rfl rfl rfl (fun _ _ => rfl) ?_
      refine ⟨rfl, ?_⟩
      unfold xseen xmir
      first | (simp [xif0 g5, g22]; done) | (simp [xif1 g5, g22]; done)
    · have g22 := xf_eq h22
      refine xS.s1 rfl rfl ?_
      try dsimp only [Nat.reduceAdd]
      refine xS.s1 rfl rfl ?_
      try dsimp only [Nat.reduceAdd, xi_2]
      refine xS.br (c := .ne) (off := 10) (l := 3) rfl rfl (fun h28 => ?_) (fun h28 => ?_)
      · have g28 := xt_ne h28
        refine xS.s1 rfl rfl ?_
        try dsimp only [Nat.reduceAdd]
        refine xS.ret rfl rfl rfl (fun _ _ => rfl) ?_
        refine ⟨rfl, ?_⟩
        unfold xseen xmir
        first | (simp [xif0 g5, g22, g28]; done) | (simp [xif1 g5, g22, g28]; done)
      · have g28 := xf_ne h28
        refine xS.s1 rfl rfl ?_
        try dsimp only [Nat.reduceAdd, xi_3]
        refine xS.s1 rfl rfl ?_
        try dsimp only [Nat.reduceAdd]
        refine xS.s1 rfl rfl ?_
        try dsimp only [Nat.reduceAdd]
        refine xS.s1 rfl rfl ?_
        try dsimp only [Nat.reduceAdd]
        refine xS.ret rfl rfl rfl (fun _ _ => rfl) ?_
        refine ⟨rfl, ?_⟩
        unfold xseen xmir
        first | (simp [xif0 g5, g22, g28]; done) | (simp [xif1 g5, g22, g28]; done)

set_option maxRecDepth 10000 in
theorem c_X8_shown_C (hC : xro a) (hF : xce c n) (hp : xpn g) (hL : L < 24) (hi : t < 2 ^ 30) (hs : g c 1 = nI m) (hm : m ≤ n) (hu : ∀ s, xsrc (L / 4) (L % 4) t = some s → s < m ∧ xstp (g (c + 1) s)) : xT (k + 4) 61 [.ref a, .ref (43 + L), .ref c, .int (nI t)] (xH b g l) (fun r M' => M' = xH b g l ∧ r = some (.int (xshw (g (a + 1)) (L / 4) (L % 4) (fun s => xN (g (c + 1) s)) t))) := by
  refine xT.of rfl (Nat.le_of_ble_eq_true rfl) ?_
  try dsimp only [lv_args]
  refine xS.s1 rfl rfl ?_
  try dsimp only [Nat.reduceAdd]
  refine xS.s1 rfl rfl ?_
  try dsimp only [Nat.reduceAdd]
  refine xS.cSrc rfl rfl hp hL hi rfl ?_
  try dsimp only [Nat.reduceAdd]
  refine xS.s1 rfl rfl ?_
  try dsimp only [Nat.reduceAdd]
  refine xS.s1 rfl rfl ?_
  try dsimp only [Nat.reduceAdd]
  refine xS.s1 rfl rfl ?_
  try dsimp only [Nat.reduceAdd, xi_m1]
  cases e : xsrc (L / 4) (L % 4) t with
  | none =>
    refine xS.br (c := .ne) (off := 7) (l := 3) rfl rfl (fun h10 => absurd rfl (xt_ne h10)) (fun h10 => ?_)
    refine xS.s1 rfl rfl ?_
    try dsimp only [Nat.reduceAdd, xi_0]
    refine xS.s1 rfl rfl ?_
    try dsimp only [Nat.reduceAdd]
    refine xS.ret rfl rfl rfl (fun _ _ => rfl) ?_
    exact ⟨rfl, by unfold xshw; rw [e]⟩
  | some s =>
    obtain ⟨h1, h2⟩ := hu s e
    have h2 := xstp_N h2
    have h3 : s < 2 ^ 31 := by have := xn31 hF.2; omega
    show xS _ _ _ _ (.int (-1) :: .int (nI s) :: _) _ _
    refine xS.br (c := .ne) (off := 7) (l := 3) rfl rfl (fun h10 => ?_) (fun h10 => absurd (xf_ne h10) (fun z => absurd ((nI_toInt h3).symm.trans (congrArg Int32.toInt z)) (by have : (-1 : Int32).toInt = -1 := rfl; omega)))
    refine xS.s1 rfl rfl ?_
    try dsimp only [Nat.reduceAdd]
    refine xS.s1 rfl rfl ?_
    try dsimp only [Nat.reduceAdd]
    refine xS.s1 rfl rfl ?_
    try dsimp only [Nat.reduceAdd]
    refine xS.s1 rfl rfl ?_
    try dsimp only [Nat.reduceAdd]
    refine xS.s1 rfl rfl ?_
    try dsimp only [Nat.reduceAdd]
    refine xS.cv rfl rfl rfl (hF.1 _) rfl rfl ⟨by decide, rfl, rfl⟩ (c_X0_stepAt hF hs hm h1) (fun v M1 hv => ?_)
    rw [hv.1, hv.2, h2.2]
    try dsimp only [Nat.reduceAdd, Option.toList, List.cons_append, List.nil_append, List.drop]
    refine xS.cv rfl rfl rfl (hC.1 _) rfl rfl ⟨by decide, rfl, rfl⟩ (c_X8_seen hC hL hi h2.1) (fun v M1 hv => ?_)
    rw [hv.1, hv.2]
    try dsimp only [Nat.reduceAdd, Option.toList, List.cons_append, List.nil_append, List.drop]
    refine xS.ret rfl rfl rfl (fun _ _ => rfl) ?_
    exact ⟨rfl, by unfold xshw; rw [e]⟩

set_option maxRecDepth 10000 in
theorem c_X8_shown_D (hC : xro a) (hF : xde c) (hp : xpn g) (hL : L < 24) (hi : t < 2 ^ 30) (hs : g c 1 = nI m) (hm : m ≤ 40) (hu : ∀ s, xsrc (L / 4) (L % 4) t = some s → s < m ∧ xstp (g (c + 1) (4 * s))) : xT (k + 4) 61 [.ref a, .ref (43 + L), .ref c, .int (nI t)] (xH b g l) (fun r M' => M' = xH b g l ∧ r = some (.int (xshw (g (a + 1)) (L / 4) (L % 4) (fun s => xN (g (c + 1) (4 * s))) t))) := by
  refine xT.of rfl (Nat.le_of_ble_eq_true rfl) ?_
  try dsimp only [lv_args]
  refine xS.s1 rfl rfl ?_
  try dsimp only [Nat.reduceAdd]
  refine xS.s1 rfl rfl ?_
  try dsimp only [Nat.reduceAdd]
  refine xS.cSrc rfl rfl hp hL hi rfl ?_
  try dsimp only [Nat.reduceAdd]
  refine xS.s1 rfl rfl ?_
  try dsimp only [Nat.reduceAdd]
  refine xS.s1 rfl rfl ?_
  try dsimp only [Nat.reduceAdd]
  refine xS.s1 rfl rfl ?_
  try dsimp only [Nat.reduceAdd, xi_m1]
  cases e : xsrc (L / 4) (L % 4) t with
  | none =>
    refine xS.br (c := .ne) (off := 7) (l := 3) rfl rfl (fun h10 => absurd rfl (xt_ne h10)) (fun h10 => ?_)
    refine xS.s1 rfl rfl ?_
    try dsimp only [Nat.reduceAdd, xi_0]
    refine xS.s1 rfl rfl ?_
    try dsimp only [Nat.reduceAdd]
    refine xS.ret rfl rfl rfl (fun _ _ => rfl) ?_
    exact ⟨rfl, by unfold xshw; rw [e]⟩
  | some s =>
    obtain ⟨h1, h2⟩ := hu s e
    have h2 := xstp_N h2
    have h3 : s < 2 ^ 31 := by  omega
    show xS _ _ _ _ (.int (-1) :: .int (nI s) :: _) _ _
    refine xS.br (c := .ne) (off := 7) (l := 3) rfl rfl (fun h10 => ?_) (fun h10 => absurd (xf_ne h10) (fun z => absurd ((nI_toInt h3).symm.trans (congrArg Int32.toInt z)) (by have : (-1 : Int32).toInt = -1 := rfl; omega)))
    refine xS.s1 rfl rfl ?_
    try dsimp only [Nat.reduceAdd]
    refine xS.s1 rfl rfl ?_
    try dsimp only [Nat.reduceAdd]
    refine xS.s1 rfl rfl ?_
    try dsimp only [Nat.reduceAdd]
    refine xS.s1 rfl rfl ?_
    try dsimp only [Nat.reduceAdd]
    refine xS.s1 rfl rfl ?_
    try dsimp only [Nat.reduceAdd]
    refine xS.cv rfl rfl rfl (hF.1 _) rfl rfl ⟨by decide, rfl, rfl⟩ (c_X2_stepAt hF hs hm h1) (fun v M1 hv => ?_)
    rw [hv.1, hv.2, h2.2]
    try dsimp only [Nat.reduceAdd, Option.toList, List.cons_append, List.nil_append, List.drop]
    refine xS.cv rfl rfl rfl (hC.1 _) rfl rfl ⟨by decide, rfl, rfl⟩ (c_X8_seen hC hL hi h2.1) (fun v M1 hv => ?_)
    rw [hv.1, hv.2]
    try dsimp only [Nat.reduceAdd, Option.toList, List.cons_append, List.nil_append, List.drop]
    refine xS.ret rfl rfl rfl (fun _ _ => rfl) ?_
    exact ⟨rfl, by unfold xshw; rw [e]⟩

set_option maxRecDepth 10000 in
theorem c_X8_stepsSeenAs (hC : xro a) (hL : L < 24) (hi : t < 2 ^ 30) : xT (k + 4) 62 [.ref a, .ref (43 + L), .int (nI t), .int x] (xH b g l) (fun r M' => M' = xH b g l ∧ r = some (.int (xbits (fun s => decide (xseen (g (a + 1)) (L / 4) t s = x)) 6))) := by
  refine xT.of rfl (Nat.le_of_ble_eq_true rfl) ?_
  dsimp only [lv_args]
  refine xS.s1 rfl rfl ?_
  try dsimp only [Nat.reduceAdd, xi_0]
  refine xS.s1 rfl rfl ?_
  try dsimp only [Nat.reduceAdd]
  refine xS.s1 rfl rfl ?_
  try dsimp only [Nat.reduceAdd, xi_0]
  refine xS.s1 rfl rfl ?_
  try dsimp only [Nat.reduceAdd]
  refine xS.pick [0, 1, 2, 3, 4, 5] rfl ?_
  refine xS.loop (σ := Unit) (6) (fun j S => [(5, .int (nI j)), (4, .int (xbits (fun s => decide (xseen (g (a + 1)) (L / 4) t s = x)) j)), (0, .ref a), (1, .ref (43 + L)), (2, .int (nI t)), (3, .int x)]) (fun _ _ => xH b g l) (fun _ _ => True) (()) (rfl) (rfl) (trivial) ?_
  intro j S hj hI ih
  try dsimp only
  refine xS.s1 rfl rfl ?_
  try dsimp only [Nat.reduceAdd]
  refine xS.s1 rfl rfl ?_
  try dsimp only [Nat.reduceAdd, xj_6]
  refine xS.br (c := .ge) (off := 30) (l := 3) rfl rfl (fun h10 => ?_) (fun h10 => ?_)
  · have g10 := xt_ge h10
    refine xS.s1 rfl rfl ?_
    try dsimp only [Nat.reduceAdd]
    refine xS.ret rfl rfl rfl (fun _ _ => rfl) ?_
    have e := xnle (b := 6) g10 (by omega) (by omega)
    rw [show 6 = j by omega]
    exact ⟨rfl, rfl⟩
  · have g10 := xf_ge h10
    have hlt := xnlt (b := 6) g10 (by omega) (by omega)
    refine xS.s1 rfl rfl ?_
    try dsimp only [Nat.reduceAdd]
    refine xS.s1 rfl rfl ?_
    try dsimp only [Nat.reduceAdd]
    refine xS.s1 rfl rfl ?_
    try dsimp only [Nat.reduceAdd]
    refine xS.s1 rfl rfl ?_
    try dsimp only [Nat.reduceAdd]
    -- 18 yX8_seen
    refine xS.cv rfl rfl rfl (hC.1 _) rfl rfl ⟨by decide, rfl, rfl⟩ (c_X8_seen hC hL hi hlt) (fun v M1 hv => ?_)
    rw [hv.1, hv.2]
    clear hv M1 v
    try dsimp only [Nat.reduceAdd, Option.toList, List.cons_append, List.nil_append, List.drop]
    refine xS.s1 rfl rfl ?_
    try dsimp only [Nat.reduceAdd]
    refine xS.br (c := .ne) (off := 12) (l := 3) rfl rfl (fun h22 => ?_) (fun h22 => ?_)
    · have g22 := xt_ne h22
      refine xS.s1 rfl rfl ?_
      try dsimp only [Nat.reduceAdd, xi_1]
      rw [nI_1]
      refine xS.s1 rfl rfl ?_
      try dsimp only [Nat.reduceAdd]
      refine xS.pick [0, 1, 2, 3, 4, 5] rfl ?_
      have ih2 := ih () (by omega) trivial
      first | (rw [show xbits (fun s => decide (xseen (g (a + 1)) (L / 4) t s = x)) (j + 1) = xbits (fun s => decide (xseen (g (a + 1)) (L / 4) t s = x)) j from by simp [xbits_s, g22]] at ih2; exact ih2) | (rw [show xbits (fun s => decide (xseen (g (a + 1)) (L / 4) t s = x)) (j + 1) = xbits (fun s => decide (xseen (g (a + 1)) (L / 4) t s = x)) j ||| (1 <<< (nI j &&& 31)) from by simp [xbits_s, g22]] at ih2; exact ih2)
    · have g22 := xf_ne h22
      refine xS.s1 rfl rfl ?_
      try dsimp only [Nat.reduceAdd]
      refine xS.s1 rfl rfl ?_
      try dsimp only [Nat.reduceAdd, xi_1]
      refine xS.s1 rfl rfl ?_
      try dsimp only [Nat.reduceAdd]
      refine xS.s1 rfl rfl ?_
      try dsimp only [Nat.reduceAdd]
      refine xS.s1 rfl rfl ?_
      try dsimp only [Nat.reduceAdd]
      refine xS.s1 rfl rfl ?_
      try dsimp only [Nat.reduceAdd]
      refine xS.s1 rfl rfl ?_
      try dsimp only [Nat.reduceAdd, xi_1]
      rw [nI_1]
      refine xS.s1 rfl rfl ?_
      try dsimp only [Nat.reduceAdd]
      refine xS.pick [0, 1, 2, 3, 4, 5] rfl ?_
      have ih2 := ih () (by omega) trivial
      first | (rw [show xbits (fun s => decide (xseen (g (a + 1)) (L / 4) t s = x)) (j + 1) = xbits (fun s => decide (xseen (g (a + 1)) (L / 4) t s = x)) j from by simp [xbits_s, g22]] at ih2; exact ih2) | (rw [show xbits (fun s => decide (xseen (g (a + 1)) (L / 4) t s = x)) (j + 1) = xbits (fun s => decide (xseen (g (a + 1)) (L / 4) t s = x)) j ||| (1 <<< (nI j &&& 31)) from by simp [xbits_s, g22]] at ih2; exact ih2)

set_option maxRecDepth 10000 in
theorem c_X8_firstBroken (hC : xro a) (hs : g a 4 = nI m) (hm : m ≤ 8) : xT (k + 1) 63 [.ref a, .int x, .int y] (xH b g l) (fun r M' => M' = xH b g l ∧ r = some (.int (xfI (xfb (g (a + 3)) m x y)))) := by
  refine xT.of rfl (Nat.le_of_ble_eq_true rfl) ?_
  dsimp only [lv_args]
  refine xS.s1 rfl rfl ?_
  try dsimp only [Nat.reduceAdd, xi_0]
  refine xS.s1 rfl rfl ?_
  try dsimp only [Nat.reduceAdd]
  refine xS.pick [0, 1, 2, 3] rfl ?_
  refine xS.loop (σ := Unit) (m) (fun j S => [(3, .int (nI j)), (0, .ref a), (1, .int x), (2, .int y)]) (fun _ _ => xH b g l) (fun j _ => xfst (xtm (g (a + 3)) x y) j = none) (()) (rfl) (rfl) (rfl) ?_
  intro j S hj hI ih
  try dsimp only
  refine xS.s1 rfl rfl ?_
  try dsimp only [Nat.reduceAdd]
  refine xS.s1 rfl rfl ?_
  try dsimp only [Nat.reduceAdd]
  refine xS.gI rfl (hC.1 _) rfl ⟨by decide, rfl⟩ rfl ?_
  try dsimp only [Nat.reduceAdd]
  refine xS.br (c := .ge) (off := 37) (l := 3) rfl rfl (fun h7 => ?_) (fun h7 => ?_)
  · have g7 := xt_ge h7
    refine xS.s1 rfl rfl ?_
    try dsimp only [Nat.reduceAdd, xj_m9]
    refine xS.ret rfl rfl rfl (fun _ _ => rfl) ?_
    rw [hs] at g7
    have e := xnle g7 (by omega) (by omega)
    unfold xfb
    rw [show m = j by omega, hI]
    exact ⟨rfl, rfl⟩
  · have g7 := xf_ge h7
    rw [hs] at g7
    have hlt := xnlt g7 (by omega) (by omega)
    refine xS.s1 rfl rfl ?_
    try dsimp only [Nat.reduceAdd]
    refine xS.gR rfl (hC.1 _) rfl ⟨by decide, rfl⟩ rfl ?_
    try dsimp only [Nat.reduceAdd]
    refine xS.s1 rfl rfl ?_
    try dsimp only [Nat.reduceAdd, xi_2]
    refine xS.s1 rfl rfl ?_
    try dsimp only [Nat.reduceAdd]
    refine xS.s1 rfl rfl ?_
    try dsimp only [Nat.reduceAdd]
    rw [show ((2 * nI j) : Int32) = nI (2 * j) from by simp only [← nI_add, ← pk_mul]; rfl]
    refine xS.ia rfl hC.2.2.2 (by omega) ?_
    try dsimp only [Nat.reduceAdd]
    refine xS.s1 rfl rfl ?_
    try dsimp only [Nat.reduceAdd]
    refine xS.br (c := .ne) (off := 19) (l := 3) rfl rfl (fun h19 => ?_) (fun h19 => ?_)
    · have g19 := xt_ne h19
      refine xS.s1 rfl rfl ?_
      try dsimp only [Nat.reduceAdd, xi_1]
      rw [nI_1]
      refine xS.s1 rfl rfl ?_
      try dsimp only [Nat.reduceAdd]
      refine xS.pick [0, 1, 2, 3] rfl ?_
      exact ih () (by omega) (xfst_n hI (by simp [xtm, g19]))
    · have g19 := xf_ne h19
      refine xS.s1 rfl rfl ?_
      try dsimp only [Nat.reduceAdd]
      refine xS.gR rfl (hC.1 _) rfl ⟨by decide, rfl⟩ rfl ?_
      try dsimp only [Nat.reduceAdd]
      refine xS.s1 rfl rfl ?_
      try dsimp only [Nat.reduceAdd, xi_2]
      refine xS.s1 rfl rfl ?_
      try dsimp only [Nat.reduceAdd]
      refine xS.s1 rfl rfl ?_
      try dsimp only [Nat.reduceAdd]
      refine xS.s1 rfl rfl ?_
      try dsimp only [Nat.reduceAdd, xi_1]
      refine xS.s1 rfl rfl ?_
      try dsimp only [Nat.reduceAdd]
      rw [show (((2 * nI j) + 1) : Int32) = nI ((2 * j) + 1) from by simp only [← nI_add, ← pk_mul]; rfl]
      refine xS.ia rfl hC.2.2.2 (by omega) ?_
      try dsimp only [Nat.reduceAdd]
      refine xS.s1 rfl rfl ?_
      try dsimp only [Nat.reduceAdd]
      refine xS.br (c := .ne) (off := 5) (l := 3) rfl rfl (fun h33 => ?_) (fun h33 => ?_)
      · have g33 := xt_ne h33
        refine xS.s1 rfl rfl ?_
        try dsimp only [Nat.reduceAdd, xi_1]
        rw [nI_1]
        refine xS.s1 rfl rfl ?_
        try dsimp only [Nat.reduceAdd]
        refine xS.pick [0, 1, 2, 3] rfl ?_
        exact ih () (by omega) (xfst_n hI (by simp [xtm, g19, g33]))
      · have g33 := xf_ne h33
        refine xS.s1 rfl rfl ?_
        try dsimp only [Nat.reduceAdd]
        refine xS.ret rfl rfl rfl (fun _ _ => rfl) ?_
        unfold xfb
        rw [xfst_at hI (by simp [xtm, g19, g33]) hlt]
        exact ⟨rfl, rfl⟩

theorem xfb_lt {tx : Nat → Int32} {T d : Nat} {x y : Int32} (h : xfb tx T x y = some d) : d < T := (xfst_lt h).1
theorem xfb_n {tx : Nat → Int32} {T : Nat} {x y : Int32} (hT : T ≤ 8) : xfI (xfb tx T x y) = -9 ↔ xfb tx T x y = none := xfI_none (fun d h => by have := xfb_lt h; omega)

set_option maxRecDepth 10000 in
theorem c_X8_isBroken (hC : xro a) (hs : g a 4 = nI m) (hm : m ≤ 8) : xT (k + 2) 64 [.ref a, .int x, .int y] (xH b g l) (fun r M' => M' = xH b g l ∧ r = some (.int (if xfb (g (a + 3)) m x y = none then 0 else 1))) := by
  refine xT.of rfl (Nat.le_of_ble_eq_true rfl) ?_
  dsimp only [lv_args]
  refine xS.s1 rfl rfl ?_
  try dsimp only [Nat.reduceAdd]
  refine xS.s1 rfl rfl ?_
  try dsimp only [Nat.reduceAdd]
  refine xS.s1 rfl rfl ?_
  try dsimp only [Nat.reduceAdd]
  -- 3 yX8_firstBroken
  refine xS.cv rfl rfl rfl (hC.1 _) rfl rfl ⟨by decide, rfl, rfl⟩ (c_X8_firstBroken hC hs hm) (fun v M1 hv => ?_)
  rw [hv.1, hv.2]
  clear hv M1 v
  try dsimp only [Nat.reduceAdd, Option.toList, List.cons_append, List.nil_append, List.drop]
  refine xS.s1 rfl rfl ?_
  try dsimp only [Nat.reduceAdd, xj_m9]
  refine xS.br (c := .eq) (off := 7) (l := 3) rfl rfl (fun h8 => ?_) (fun h8 => ?_)
  · have g8 := xt_eq h8
    refine xS.s1 rfl rfl ?_
    try dsimp only [Nat.reduceAdd, xi_0]
    refine xS.ret rfl rfl rfl (fun _ _ => rfl) ?_
    rw [xfb_n hm] at g8
    exact ⟨rfl, by simp [g8]⟩
  · have g8 := xf_eq h8
    refine xS.s1 rfl rfl ?_
    try dsimp only [Nat.reduceAdd, xi_1]
    refine xS.s1 rfl rfl ?_
    try dsimp only [Nat.reduceAdd]
    refine xS.ret rfl rfl rfl (fun _ _ => rfl) ?_
    rw [xfb_n hm] at g8
    exact ⟨rfl, by simp [g8]⟩

end
