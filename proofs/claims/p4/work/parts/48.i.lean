section
/-! the reference's parser: small methods -/
def xlr (f : Nat → Int32) (n p : Nat) : Int32 := if p < n then f p else -1000
theorem xlr_in {f : Nat → Int32} {n p : Nat} (h : p < n) : xlr f n p = f p := if_pos h
theorem xlr_at {f : Nat → Int32} {n p : Nat} {c : Int32} (hc : c ≠ -1000) (h : xlr f n p = c) : p < n ∧ f p = c := by
  unfold xlr at h
  by_cases hp : p < n
  · rw [if_pos hp] at h
    exact ⟨hp, h⟩
  · rw [if_neg hp] at h
    exact absurd h.symm hc
theorem xfig {f : Nat → Int32} {n p t : Nat} (ht : t ≤ 5) : (0 ≤ xlr f n p - 48 ∧ xlr f n p - 48 ≤ nI t) ↔ xfg f n p (t + 1) := by
  constructor
  · rintro ⟨h0, h1⟩
    obtain ⟨v, hv, e⟩ := nI_of (x := xlr f n p - 48) (Int32.not_lt.mpr h0)
    rw [e] at h1
    have h2 := (nI_leI hv (by omega)).mp h1
    have e2 : xlr f n p = nI (v + 48) := by
      rw [← nI_add, ← e]
      show xlr f n p = xlr f n p - 48 + 48
      rw [Int32.sub_add_cancel]
    by_cases hp : p < n
    · rw [xlr_in hp] at e2
      refine ⟨hp, ?_, ?_⟩
      · rw [e2]; exact nI_le (by omega) (by omega)
      · rw [e2]; exact nI_lt (by omega) (by omega)
    · unfold xlr at e2
      rw [if_neg hp] at e2
      exact absurd ((nI_toInt (n := v + 48) (by omega)).symm.trans (congrArg Int32.toInt e2.symm)) (by have : (-1000 : Int32).toInt = -1000 := rfl; omega)
  · intro h
    rw [xlr_in h.1, xfv_s (by omega) h]
    have := (xfv_e (by omega) h).1
    exact ⟨nI_pos' (by omega), nI_le (by omega) (by omega)⟩
def xkI (x : Int32) : Int32 := match xkd x with
  | some κ => nI κ
  | none => -1
theorem xkI_s {x : Int32} {κ : Nat} (h : xkd x = some κ) : xkI x = nI κ := by unfold xkI; rw [h]
theorem xkI_n {x : Int32} (h : xkd x = none) : xkI x = -1 := by unfold xkI; rw [h]
theorem xkI_lt {x : Int32} (h : xkI x < 0) : xkd x = none := by
  cases e : xkd x with
  | none => rfl
  | some κ =>
    rw [xkI_s e] at h
    exact absurd h (nI_pos (by have := xkd_lt e; omega))
theorem xkI_ge {x : Int32} (h : 0 ≤ xkI x) : ∃ κ, xkd x = some κ := by
  cases e : xkd x with
  | none =>
    rw [xkI_n e] at h
    exact absurd h (by decide)
  | some κ => exact ⟨κ, rfl⟩
theorem xkd_110 {x : Int32} {κ : Nat} (h : xkd x = some κ) : ¬ x = 110 := fun z => by
  have e : xkd 110 = none := by decide
  rw [z, e] at h
  cases h
def xFg (f : Nat → Int32) (n p t : Nat) (z : Int32) (g g' : Nat → Nat → Int32) : Prop := (xfg f n p t ∧ z = nI (xfv (f p)) ∧ g' = up g 73 28 (nI (p + 1))) ∨ (¬ xfg f n p t ∧ z = -1 ∧ g' = g)
theorem xFg_ge {f : Nat → Int32} {n p t : Nat} {z : Int32} {g g' : Nat → Nat → Int32} (h : xFg f n p t z g g') (hz : 0 ≤ z) : xfg f n p t ∧ z = nI (xfv (f p)) ∧ g' = up g 73 28 (nI (p + 1)) := by
  rcases h with h | h
  · exact h
  · rw [h.2.1] at hz
    exact absurd hz (by decide)
theorem xFg_lt {f : Nat → Int32} {n p t : Nat} {z : Int32} {g g' : Nat → Nat → Int32} (ht : t ≤ 6) (h : xFg f n p t z g g') (hz : z < 0) : ¬ xfg f n p t ∧ z = -1 ∧ g' = g := by
  rcases h with h | h
  · rw [h.2.1] at hz
    exact absurd hz (nI_pos (by have := (xfv_e ht h.1).1; omega))
  · exact h
def xb1 (o : Option Nat) : Int32 := match o with
  | none => 1
  | some _ => 0
theorem xb1_0 {o : Option Nat} (h : xb1 o = 0) : ∃ e, o = some e := by
  cases o with
  | none => exact absurd h (by decide)
  | some e => exact ⟨e, rfl⟩
theorem xb1_1 {o : Option Nat} (h : ¬ xb1 o = 0) : o = none := by
  cases o with
  | none => rfl
  | some e => exact absurd rfl h

section
variable {k a c n n2 m t p s d i1 j1 : Nat} {b : Nat × Nat} {g : Nat → Nat → Int32} {l : Nat → Nat → Int64} {i j x y z v w : Int32} {u w1 w2 : Int64}
variable {L G T κ δ o : Nat} {Lw : Nat → Nat} {f tx : Nat → Int32}
set_option maxRecDepth 10000 in
theorem c_X12_letter (hP : g 73 28 = nI p) (hO : g 73 29 = nI o) (hN : g 73 30 = nI n) (hfv : ∀ i, i < n → g 77 (o + i) = f i) (hn : n ≤ 60) (ho : o ≤ 180) (hp : p ≤ n) : xT (k + 1) 168 [.ref 73] (xH b g l) (fun r M' => M' = xH b g l ∧ r = some (.int (xlr f n p))) := by
  refine xT.of rfl (Nat.le_of_ble_eq_true rfl) ?_
  change xS _ _ 0 [(0, .ref 73)] [] _ _
  refine xS.s1 rfl rfl ?_
  try dsimp only [Nat.reduceAdd]
  refine xS.gI rfl rfl rfl ⟨by decide, rfl⟩ rfl ?_
  try dsimp only [Nat.reduceAdd]
  rw [hP]
  refine xS.s1 rfl rfl ?_
  try dsimp only [Nat.reduceAdd]
  refine xS.gI rfl rfl rfl ⟨by decide, rfl⟩ rfl ?_
  try dsimp only [Nat.reduceAdd]
  rw [hN]
  refine xS.br (c := .ge) (off := 20) (l := 3) rfl rfl (fun h8 => ?_) (fun h8 => ?_)
  · have g8 := xt_ge h8
    have hge := xnle g8 (by omega) (by omega)
    refine xS.s1 rfl rfl ?_
    try dsimp only [Nat.reduceAdd, xk_m1000]
    refine xS.ret rfl rfl rfl (fun _ _ => rfl) ?_
    exact ⟨rfl, by unfold xlr; rw [if_neg (by omega)]⟩
  · have g8 := xf_ge h8
    have hlt := xnlt g8 (by omega) (by omega)
    refine xS.s1 rfl rfl ?_
    try dsimp only [Nat.reduceAdd]
    refine xS.gR rfl rfl rfl ⟨by decide, rfl⟩ rfl ?_
    try dsimp only [Nat.reduceAdd]
    refine xS.s1 rfl rfl ?_
    try dsimp only [Nat.reduceAdd]
    refine xS.gI rfl rfl rfl ⟨by decide, rfl⟩ rfl ?_
    try dsimp only [Nat.reduceAdd]
    rw [hO]
    refine xS.s1 rfl rfl ?_
    try dsimp only [Nat.reduceAdd]
    refine xS.gI rfl rfl rfl ⟨by decide, rfl⟩ rfl ?_
    try dsimp only [Nat.reduceAdd]
    rw [hP]
    refine xS.s1 rfl rfl ?_
    try dsimp only [Nat.reduceAdd]
    rw [show ((nI o + nI p) : Int32) = nI (o + p) from by simp only [← nI_add, ← pk_mul] <;> rfl]
    refine xS.ia rfl xar_77 (by omega) ?_
    try dsimp only [Nat.reduceAdd]
    rw [hfv p hlt]
    refine xS.s1 rfl rfl ?_
    try dsimp only [Nat.reduceAdd]
    refine xS.ret rfl rfl rfl (fun _ _ => rfl) ?_
    exact ⟨rfl, by unfold xlr; rw [if_pos hlt]⟩

set_option maxRecDepth 10000 in
theorem c_X12_skip (hP : g 73 28 = nI p) (hO : g 73 29 = nI o) (hN : g 73 30 = nI n) (hfv : ∀ i, i < n → g 77 (o + i) = f i) (hn : n ≤ 60) (ho : o ≤ 180) (hp : p ≤ n) : xT (k + 2) 169 [.ref 73] (xH b g l) (fun r M' => M' = xH b (up g 73 28 (nI (xab f n p))) l ∧ r = none) := by
  refine xT.of rfl (Nat.le_of_ble_eq_true rfl) ?_
  change xS _ _ 0 [(0, .ref 73)] [] _ _
  refine xS.pick [0] rfl ?_
  refine xS.loop (σ := Unit) (n - p) (fun j S => [(0, .ref 73)]) (fun j _ => xH b (up g 73 28 (nI (p + j))) l) (fun j _ => xfst (fun t => !decide (f (p + t) = 32)) j = none) (()) (rfl) (by rw [Nat.add_zero, up_id hP]) (rfl) ?_
  intro j S hj hI ih
  try dsimp only
  refine xS.s1 rfl rfl ?_
  try dsimp only [Nat.reduceAdd]
  -- 1 yX12_letter
  refine xS.cv rfl rfl rfl rfl rfl rfl ⟨by decide, rfl, rfl⟩ (c_X12_letter (p := p + j) (o := o) (n := n) (f := f) (up_same ..) (by rw [up_ne (Or.inr (by decide))]; exact hO) (by rw [up_ne (Or.inr (by decide))]; exact hN) (fun i hi => by rw [up_na (by decide)]; exact hfv i hi) hn ho (by omega)) (fun v M1 hv => ?_)
  rw [hv.1, hv.2]
  clear hv M1 v
  try dsimp only [Nat.reduceAdd, Option.toList, List.cons_append, List.nil_append, List.drop]
  refine xS.s1 rfl rfl ?_
  try dsimp only [Nat.reduceAdd, xj_32]
  refine xS.br (c := .ne) (off := 16) (l := 3) rfl rfl (fun h6 => ?_) (fun h6 => ?_)
  · have g6 := xt_ne h6
    refine xS.ret rfl rfl rfl (fun _ _ => rfl) ?_
    have e : xab f n p = p + j := by
      unfold xab
      by_cases hlt : p + j < n
      · rw [xfst_at hI (by rw [xlr_in hlt] at g6; simp [g6]) (by omega)]
        rfl
      · rw [show n - p = j by omega, hI]
        rfl
    rw [e]
    exact ⟨rfl, rfl⟩
  · have g6 := xf_ne h6
    have hq := xlr_at (by decide) g6
    refine xS.s1 rfl rfl ?_
    try dsimp only [Nat.reduceAdd]
    refine xS.s1 rfl rfl ?_
    try dsimp only [Nat.reduceAdd]
    refine xS.gI rfl rfl rfl ⟨by decide, rfl⟩ rfl ?_
    try dsimp only [Nat.reduceAdd]
    rw [up_same]
    refine xS.s1 rfl rfl ?_
    try dsimp only [Nat.reduceAdd, xi_1]
    refine xS.s1 rfl rfl ?_
    try dsimp only [Nat.reduceAdd]
    rw [nI_1]
    refine xS.pI rfl rfl rfl ⟨⟨by decide, rfl⟩, rfl, by decide, by decide⟩ rfl ?_
    try dsimp only [Nat.reduceAdd]
    refine xS.s1 rfl rfl ?_
    try dsimp only [Nat.reduceAdd]
    refine xS.pick [0] rfl ?_
    rw [up_up]
    exact ih () (by have := hq.1; omega) (xfst_n hI (by simp [hq.2]))

set_option maxRecDepth 10000 in
theorem c_X12_figure_bad (hP : g 73 28 = nI p) (hO : g 73 29 = nI o) (hN : g 73 30 = nI n) (hfv : ∀ i, i < n → g 77 (o + i) = f i) (hn : n ≤ 60) (ho : o ≤ 180) (hp : p ≤ n) (ht : t ≤ 5) (hf : ¬ xfg f n p (t + 1)) : xT (k + 2) 170 [.ref 73, .int (nI t)] (xH b g l) (fun r M' => M' = xH b g l ∧ r = some (.int (-1))) := by
  refine xT.of rfl (Nat.le_of_ble_eq_true rfl) ?_
  change xS _ _ 0 [(0, .ref 73), (1, .int (nI t))] [] _ _
  refine xS.s1 rfl rfl ?_
  try dsimp only [Nat.reduceAdd]
  -- 1 yX12_letter
  refine xS.cv rfl rfl rfl rfl rfl rfl ⟨by decide, rfl, rfl⟩ (c_X12_letter hP hO hN hfv hn ho hp) (fun v M1 hv => ?_)
  rw [hv.1, hv.2]
  clear hv M1 v
  try dsimp only [Nat.reduceAdd, Option.toList, List.cons_append, List.nil_append, List.drop]
  refine xS.s1 rfl rfl ?_
  try dsimp only [Nat.reduceAdd, xj_48]
  refine xS.s1 rfl rfl ?_
  try dsimp only [Nat.reduceAdd]
  refine xS.s1 rfl rfl ?_
  try dsimp only [Nat.reduceAdd]
  refine xS.s1 rfl rfl ?_
  try dsimp only [Nat.reduceAdd]
  refine xS.s1 rfl rfl ?_
  try dsimp only [Nat.reduceAdd, xi_0]
  refine xS.s1 rfl rfl ?_
  try dsimp only [Nat.reduceAdd]
  -- 11 yX12_in
  refine xS.callS rfl rfl rfl ⟨Nat.le_of_ble_eq_true rfl, rfl⟩ c_X12_in (fun v M1 hv => ?_)
  rw [hv.1, hv.2]
  clear hv M1 v
  try dsimp only [Nat.reduceAdd, Option.toList, List.cons_append, List.nil_append, List.drop]
  refine xS.br0 (c := .ne) (off := 5) (l := 3) rfl rfl (fun h14 => ?_) (fun h14 => ?_)
  · have g14 := xt_ne h14
    exact absurd ((xfig ht).mp (xif1 g14)) hf
  · have g14 := xf_ne h14
    refine xS.s1 rfl rfl ?_
    try dsimp only [Nat.reduceAdd, xi_m1]
    refine xS.ret rfl rfl rfl (fun _ _ => rfl) ?_
    exact ⟨rfl, rfl⟩

set_option maxRecDepth 10000 in
theorem c_X12_figure_ok (hP : g 73 28 = nI p) (hO : g 73 29 = nI o) (hN : g 73 30 = nI n) (hfv : ∀ i, i < n → g 77 (o + i) = f i) (hn : n ≤ 60) (ho : o ≤ 180) (hp : p ≤ n) (ht : t ≤ 5) (hf : xfg f n p (t + 1)) : xT (k + 2) 170 [.ref 73, .int (nI t)] (xH b g l) (fun r M' => M' = xH b (up g 73 28 (nI (p + 1))) l ∧ r = some (.int (nI (xfv (f p))))) := by
  have hv5 := (xfv_e (by omega) hf).1
  refine xT.of rfl (Nat.le_of_ble_eq_true rfl) ?_
  change xS _ _ 0 [(0, .ref 73), (1, .int (nI t))] [] _ _
  refine xS.s1 rfl rfl ?_
  try dsimp only [Nat.reduceAdd]
  -- 1 yX12_letter
  refine xS.cv rfl rfl rfl rfl rfl rfl ⟨by decide, rfl, rfl⟩ (c_X12_letter hP hO hN hfv hn ho hp) (fun v M1 hv => ?_)
  rw [hv.1, hv.2]
  clear hv M1 v
  try dsimp only [Nat.reduceAdd, Option.toList, List.cons_append, List.nil_append, List.drop]
  refine xS.s1 rfl rfl ?_
  try dsimp only [Nat.reduceAdd, xj_48]
  refine xS.s1 rfl rfl ?_
  try dsimp only [Nat.reduceAdd]
  rw [xlr_in hf.1, xfv_s (by omega) hf]
  refine xS.s1 rfl rfl ?_
  try dsimp only [Nat.reduceAdd]
  refine xS.s1 rfl rfl ?_
  try dsimp only [Nat.reduceAdd]
  refine xS.s1 rfl rfl ?_
  try dsimp only [Nat.reduceAdd, xi_0]
  refine xS.s1 rfl rfl ?_
  try dsimp only [Nat.reduceAdd]
  -- 11 yX12_in
  refine xS.callS rfl rfl rfl ⟨Nat.le_of_ble_eq_true rfl, rfl⟩ c_X12_in (fun v M1 hv => ?_)
  rw [hv.1, hv.2]
  clear hv M1 v
  try dsimp only [Nat.reduceAdd, Option.toList, List.cons_append, List.nil_append, List.drop]
  refine xS.br0 (c := .ne) (off := 5) (l := 3) rfl rfl (fun h14 => ?_) (fun h14 => ?_)
  · have g14 := xt_ne h14
    refine xS.s1 rfl rfl ?_
    try dsimp only [Nat.reduceAdd]
    refine xS.s1 rfl rfl ?_
    try dsimp only [Nat.reduceAdd]
    refine xS.gI rfl rfl rfl ⟨by decide, rfl⟩ rfl ?_
    try dsimp only [Nat.reduceAdd]
    rw [hP]
    refine xS.s1 rfl rfl ?_
    try dsimp only [Nat.reduceAdd, xi_1]
    refine xS.s1 rfl rfl ?_
    try dsimp only [Nat.reduceAdd]
    rw [nI_1]
    refine xS.pI rfl rfl rfl ⟨⟨by decide, rfl⟩, rfl, by decide, by decide⟩ rfl ?_
    try dsimp only [Nat.reduceAdd]
    refine xS.s1 rfl rfl ?_
    try dsimp only [Nat.reduceAdd]
    refine xS.ret rfl rfl rfl (fun _ _ => rfl) ?_
    exact ⟨rfl, rfl⟩
  · have g14 := xf_ne h14
    exact absurd ⟨nI_pos' (by omega), nI_le (by omega) (by omega)⟩ (xif0 g14)

theorem c_X12_figureP (hP : g 73 28 = nI p) (hO : g 73 29 = nI o) (hN : g 73 30 = nI n) (hfv : ∀ i, i < n → g 77 (o + i) = f i) (hn : n ≤ 60) (ho : o ≤ 180) (hp : p ≤ n) (ht : t ≤ 5) : xT (k + 2) 170 [.ref 73, .int (nI t)] (xH b g l) (fun r M' => ∃ z g', r = some (.int z) ∧ M' = xH b g' l ∧ xFg f n p (t + 1) z g g') := by
  by_cases hf : xfg f n p (t + 1)
  · exact (c_X12_figure_ok hP hO hN hfv hn ho hp ht hf).weak (fun r M' h => ⟨_, _, h.2, h.1, Or.inl ⟨hf, rfl, rfl⟩⟩)
  · exact (c_X12_figure_bad hP hO hN hfv hn ho hp ht hf).weak (fun r M' h => ⟨_, _, h.2, h.1, Or.inr ⟨hf, rfl, rfl⟩⟩)

set_option maxRecDepth 10000 in
theorem c_X12_kindBy  : xT (k + 1) 171 [.int x] (xH b g l) (fun r M' => M' = xH b g l ∧ r = some (.int (xkI x))) := by
  refine xT.of rfl (Nat.le_of_ble_eq_true rfl) ?_
  change xS _ _ 0 [(0, .int x)] [] _ _
  refine xS.s1 rfl rfl ?_
  try dsimp only [Nat.reduceAdd]
  refine xS.s1 rfl rfl ?_
  try dsimp only [Nat.reduceAdd, xj_103]
  refine xS.br (c := .ne) (off := 7) (l := 3) rfl rfl (fun h3 => ?_) (fun h3 => ?_)
  · have g3 := xt_ne h3
    refine xS.s1 rfl rfl ?_
    try dsimp only [Nat.reduceAdd]
    refine xS.s1 rfl rfl ?_
    try dsimp only [Nat.reduceAdd, xj_108]
    refine xS.br (c := .ne) (off := 7) (l := 3) rfl rfl (fun h13 => ?_) (fun h13 => ?_)
    · have g13 := xt_ne h13
      refine xS.s1 rfl rfl ?_
      try dsimp only [Nat.reduceAdd]
      refine xS.s1 rfl rfl ?_
      try dsimp only [Nat.reduceAdd, xj_116]
      refine xS.br (c := .ne) (off := 7) (l := 3) rfl rfl (fun h23 => ?_) (fun h23 => ?_)
      · have g23 := xt_ne h23
        refine xS.s1 rfl rfl ?_
        try dsimp only [Nat.reduceAdd]
        refine xS.s1 rfl rfl ?_
        try dsimp only [Nat.reduceAdd, xj_111]
        refine xS.br (c := .ne) (off := 7) (l := 3) rfl rfl (fun h33 => ?_) (fun h33 => ?_)
        · have g33 := xt_ne h33
          refine xS.s1 rfl rfl ?_
          try dsimp only [Nat.reduceAdd]
          refine xS.s1 rfl rfl ?_
          try dsimp only [Nat.reduceAdd, xj_105]
          refine xS.br (c := .ne) (off := 7) (l := 3) rfl rfl (fun h43 => ?_) (fun h43 => ?_)
          · have g43 := xt_ne h43
            refine xS.s1 rfl rfl ?_
            try dsimp only [Nat.reduceAdd]
            refine xS.s1 rfl rfl ?_
            try dsimp only [Nat.reduceAdd, xj_102]
            refine xS.br (c := .ne) (off := 7) (l := 3) rfl rfl (fun h53 => ?_) (fun h53 => ?_)
            · have g53 := xt_ne h53
              refine xS.s1 rfl rfl ?_
              try dsimp only [Nat.reduceAdd, xi_m1]
              refine xS.ret rfl rfl rfl (fun _ _ => rfl) ?_
              refine ⟨rfl, ?_⟩
              rw [xkI_n (xfst_none.mpr (fun i hi => ?_))]
              rcases i with _ | _ | _ | _ | _ | _ | i
              · exact decide_eq_false (fun z => g3 z.symm)
              · exact decide_eq_false (fun z => g13 z.symm)
              · exact decide_eq_false (fun z => g23 z.symm)
              · exact decide_eq_false (fun z => g33 z.symm)
              · exact decide_eq_false (fun z => g43 z.symm)
              · exact decide_eq_false (fun z => g53 z.symm)
              · omega
            · have g53 := xf_ne h53
              refine xS.s1 rfl rfl ?_
              try dsimp only [Nat.reduceAdd, xi_5]
              refine xS.s1 rfl rfl ?_
              try dsimp only [Nat.reduceAdd]
              refine xS.ret rfl rfl rfl (fun _ _ => rfl) ?_
              subst g53
              exact ⟨rfl, rfl⟩
          · have g43 := xf_ne h43
            refine xS.s1 rfl rfl ?_
            try dsimp only [Nat.reduceAdd, xi_4]
            refine xS.s1 rfl rfl ?_
            try dsimp only [Nat.reduceAdd]
            refine xS.ret rfl rfl rfl (fun _ _ => rfl) ?_
            subst g43
            exact ⟨rfl, rfl⟩
        · have g33 := xf_ne h33
          refine xS.s1 rfl rfl ?_
          try dsimp only [Nat.reduceAdd, xi_3]
          refine xS.s1 rfl rfl ?_
          try dsimp only [Nat.reduceAdd]
          refine xS.ret rfl rfl rfl (fun _ _ => rfl) ?_
          subst g33
          exact ⟨rfl, rfl⟩
      · have g23 := xf_ne h23
        refine xS.s1 rfl rfl ?_
        try dsimp only [Nat.reduceAdd, xi_2]
        refine xS.s1 rfl rfl ?_
        try dsimp only [Nat.reduceAdd]
        refine xS.ret rfl rfl rfl (fun _ _ => rfl) ?_
        subst g23
        exact ⟨rfl, rfl⟩
    · have g13 := xf_ne h13
      refine xS.s1 rfl rfl ?_
      try dsimp only [Nat.reduceAdd, xi_1]
      refine xS.s1 rfl rfl ?_
      try dsimp only [Nat.reduceAdd]
      refine xS.ret rfl rfl rfl (fun _ _ => rfl) ?_
      subst g13
      exact ⟨rfl, rfl⟩
  · have g3 := xf_ne h3
    refine xS.s1 rfl rfl ?_
    try dsimp only [Nat.reduceAdd, xi_0]
    refine xS.s1 rfl rfl ?_
    try dsimp only [Nat.reduceAdd]
    refine xS.ret rfl rfl rfl (fun _ _ => rfl) ?_
    subst g3
    exact ⟨rfl, rfl⟩

end
end
section
/-! the reference's parser: habits, items -/
def xFh (g g' : Nat → Nat → Int32) : Prop := (∀ e, e ≠ 73 → e ≠ 78 → g' e = g e) ∧ (∀ i, i ≠ 28 → g' 73 i = g 73 i)
def xFq (g g' : Nat → Nat → Int32) : Prop := (∀ e, e ≠ 73 → e ≠ 79 → e ≠ 80 → g' e = g e) ∧ (∀ i, i ≠ 28 → i ≠ 5 → i ≠ 7 → g' 73 i = g 73 i)
theorem xFq_t {g g1 g2 : Nat → Nat → Int32} (h1 : xFq g g1) (h2 : xFq g1 g2) : xFq g g2 := ⟨fun e p q r => by rw [h2.1 e p q r, h1.1 e p q r], fun i p q r => by rw [h2.2 i p q r, h1.2 i p q r]⟩
/-- what has been read -/
def xRw (g : Nat → Nat → Int32) (G T : Nat) (Lw : Nat → Nat) (tx : Nat → Int32) : Prop := (g 73 5 = nI G ∧ G ≤ 6) ∧ (g 73 7 = nI T ∧ T ≤ 8) ∧ (∀ k, k < G → g 79 (2 * k) = nI (Lw k / 4) ∧ g 79 (2 * k + 1) = nI (Lw k % 4) ∧ Lw k < 24) ∧ (∀ k, k < 2 * T → g 80 k = tx k ∧ xstp (tx k))
def xItR (b : Nat × Nat) (l : Nat → Nat → Int64) (f : Nat → Int32) (n : Nat) (g : Nat → Nat → Int32) (p G T : Nat) (Lw : Nat → Nat) (tx : Nat → Int32) (st : Nat) (r : Option Value) (M' : xM) : Prop := ∃ (o : Option Nat) (g' : Nat → Nat → Int32), r = some (.int (xb1 o)) ∧ M' = xH b g' l ∧ xFq g g' ∧ (∀ e, o = some e → e < 2 ^ 31 ∧ g' 73 28 = nI e ∧ ∀ q, xpi f n (q + 1) p G T Lw tx = xbd e) ∧ (o = none → ∃ G' T' Lw' tx', xRw g' G' T' Lw' tx' ∧ g' 73 28 = nI (p + st) ∧ p + st ≤ n ∧ ∀ q, xpi f n (q + 1) p G T Lw tx = xpi f n q (xab f n (p + st)) G' T' Lw' tx')

section
variable {k a c n n2 m t p s d i1 j1 : Nat} {b : Nat × Nat} {g : Nat → Nat → Int32} {l : Nat → Nat → Int64} {i j x y z v w : Int32} {u w1 w2 : Int64}
variable {L G T κ δ o : Nat} {Lw : Nat → Nat} {f tx : Nat → Int32}
set_option maxRecDepth 10000 in
theorem c_X12_areHabits (hP : g 73 28 = nI 0) (hO : g 73 29 = nI o) (hN : g 73 30 = nI n) (hfv : ∀ i, i < n → g 77 (o + i) = f i) (hn : n ≤ 60) (ho : o ≤ 180) : xT (k + 3) 172 [.ref 73] (xH b g l) (fun r M' => ∃ (o : Option Nat) (g' : Nat → Nat → Int32), r = some (.int (xb1 o)) ∧ M' = xH b g' l ∧ xFh g g' ∧ (∀ e, o = some e → xprs f n = xbd e ∧ g' 73 28 = nI e ∧ e < 2 ^ 31) ∧ (o = none → (xab f n 0 < n ∧ f (xab f n 0) = 104) ∧ xfst (fun s => !xfgb f n (xab f n 0 + 1 + s) 6) 6 = none ∧ g' 73 28 = nI (xab f n 0 + 7) ∧ xab f n 0 + 7 ≤ n ∧ ∀ s, s < 6 → g' 78 s = nI (xfv (f (xab f n 0 + 1 + s))) ∧ xfv (f (xab f n 0 + 1 + s)) < 6)) := by
  have hxb := xab_le (f := f) (n := n) (i := 0) (by omega)
  refine xT.of rfl (Nat.le_of_ble_eq_true rfl) ?_
  change xS _ _ 0 [(0, .ref 73)] [] _ _
  refine xS.s1 rfl rfl ?_
  try dsimp only [Nat.reduceAdd]
  -- 1 yX12_skip
  refine xS.cv rfl rfl rfl rfl rfl rfl ⟨by decide, rfl, rfl⟩ (c_X12_skip (p := 0) hP hO hN hfv hn ho (by omega)) (fun v M1 hv => ?_)
  rw [hv.1, hv.2]
  clear hv M1 v
  try dsimp only [Nat.reduceAdd, Option.toList, List.cons_append, List.nil_append, List.drop]
  refine xS.s1 rfl rfl ?_
  try dsimp only [Nat.reduceAdd]
  -- 5 yX12_letter
  refine xS.cv rfl rfl rfl rfl rfl rfl ⟨by decide, rfl, rfl⟩ (c_X12_letter (p := xab f n 0) (o := o) (n := n) (f := f) (up_same ..) (by rw [up_ne (Or.inr (by decide))]; exact hO) (by rw [up_ne (Or.inr (by decide))]; exact hN) (fun i hi => by rw [up_na (by decide)]; exact hfv i hi) hn ho (by omega)) (fun v M1 hv => ?_)
  rw [hv.1, hv.2]
  clear hv M1 v
  try dsimp only [Nat.reduceAdd, Option.toList, List.cons_append, List.nil_append, List.drop]
  refine xS.s1 rfl rfl ?_
  try dsimp only [Nat.reduceAdd, xj_104]
  refine xS.br (c := .eq) (off := 5) (l := 3) rfl rfl (fun h10 => ?_) (fun h10 => ?_)
  · have g10 := xt_eq h10
    have hq := xlr_at (by decide) g10
    refine xS.s1 rfl rfl ?_
    try dsimp only [Nat.reduceAdd]
    refine xS.s1 rfl rfl ?_
    try dsimp only [Nat.reduceAdd]
    refine xS.gI rfl rfl rfl ⟨by decide, rfl⟩ rfl ?_
    try dsimp only [Nat.reduceAdd]
    rw [up_same]
    refine xS.s1 rfl rfl ?_
    try dsimp only [Nat.reduceAdd, xi_1]
    refine xS.s1 rfl rfl ?_
    try dsimp only [Nat.reduceAdd]
    rw [nI_1]
    refine xS.pI rfl rfl rfl ⟨⟨by decide, rfl⟩, rfl, by decide, by decide⟩ rfl ?_
    try dsimp only [Nat.reduceAdd]
    rw [up_up]
    refine xS.s1 rfl rfl ?_
    try dsimp only [Nat.reduceAdd, xi_0]
    refine xS.s1 rfl rfl ?_
    try dsimp only [Nat.reduceAdd]
    refine xS.pick [0, 1] rfl ?_
    refine xS.loop (σ := Unit) (6) (fun j S => [(1, .int (nI j)), (0, .ref 73)]) (fun j _ => xH b (gset (up g 73 28 (nI (xab f n 0 + 1 + j))) 78 j (fun s => nI (xfv (f (xab f n 0 + 1 + s))))) l) (fun j _ => xab f n 0 + 1 + j ≤ n ∧ xfst (fun s => !xfgb f n (xab f n 0 + 1 + s) 6) j = none) (()) (rfl) (by rw [gset_0]) (⟨by have := hq.1; omega, rfl⟩) ?_
    intro j S hj hI ih
    try dsimp only
    refine xS.s1 rfl rfl ?_
    try dsimp only [Nat.reduceAdd]
    refine xS.s1 rfl rfl ?_
    try dsimp only [Nat.reduceAdd, xj_6]
    refine xS.br (c := .ge) (off := 28) (l := 3) rfl rfl (fun h30 => ?_) (fun h30 => ?_)
    · have g30 := xt_ge h30
      have hj6 := xnle (b := 6) g30 (by omega) (by omega)
      have hIc := hI.1
      refine xS.s1 rfl rfl ?_
      try dsimp only [Nat.reduceAdd, xi_1]
      refine xS.ret rfl rfl rfl (fun _ _ => rfl) ?_
      obtain rfl : j = 6 := by omega
      refine ⟨none, _, rfl, rfl, ⟨fun e h1 h2 => by rw [gset_na h2, up_na h1], fun i hi => by rw [gset_na (by decide), up_ne (Or.inr hi)]⟩, fun e he => (by cases he), fun _ => ⟨hq, hI.2, by rw [gset_na (by decide), up_same], by omega, fun s hs => ?_⟩⟩
      have q := xfgb_i (by have := xfst_none.mp hI.2 s hs; revert this; cases xfgb f n (xab f n 0 + 1 + s) 6 <;> simp)
      exact ⟨gset_in hs, (xfv_e (by decide) q).1⟩
    · have g30 := xf_ge h30
      have hj6 := xnlt (b := 6) g30 (by omega) (by omega)
      have hIc := hI.1
      refine xS.s1 rfl rfl ?_
      try dsimp only [Nat.reduceAdd]
      refine xS.s1 rfl rfl ?_
      try dsimp only [Nat.reduceAdd, xi_5]
      -- 35 yX12_figure
      refine xS.cv rfl rfl rfl rfl rfl rfl ⟨by decide, rfl, rfl⟩ (c_X12_figureP (t := 5) (p := xab f n 0 + 1 + j) (o := o) (n := n) (f := f) (by rw [gset_na (by decide), up_same]) (by rw [gset_na (by decide), up_ne (Or.inr (by decide))]; exact hO) (by rw [gset_na (by decide), up_ne (Or.inr (by decide))]; exact hN) (fun i hi => by rw [gset_na (by decide), up_na (by decide)]; exact hfv i hi) hn ho (by omega) (by decide)) (fun v M1 hv => ?_)
      obtain ⟨z, g2, rfl, rfl, hz⟩ := hv
      try dsimp only [Nat.reduceAdd, Option.toList, List.cons_append, List.nil_append, List.drop]
      refine xS.s1 rfl rfl ?_
      try dsimp only [Nat.reduceAdd]
      refine xS.s1 rfl rfl ?_
      try dsimp only [Nat.reduceAdd]
      refine xS.br0 (c := .ge) (off := 5) (l := 3) rfl rfl (fun h40 => ?_) (fun h40 => ?_)
      · have g40 := xt_ge h40
        obtain ⟨hfg, rfl, rfl⟩ := xFg_ge hz g40
        refine xS.s1 rfl rfl ?_
        try dsimp only [Nat.reduceAdd]
        refine xS.gR rfl rfl rfl ⟨by decide, rfl⟩ rfl ?_
        try dsimp only [Nat.reduceAdd]
        refine xS.s1 rfl rfl ?_
        try dsimp only [Nat.reduceAdd]
        refine xS.s1 rfl rfl ?_
        try dsimp only [Nat.reduceAdd]
        refine xS.ias rfl xar_78 (by omega) ?_
        try dsimp only [Nat.reduceAdd]
        refine xS.s1 rfl rfl ?_
        try dsimp only [Nat.reduceAdd, xi_1]
        rw [nI_1]
        refine xS.s1 rfl rfl ?_
        try dsimp only [Nat.reduceAdd]
        refine xS.pick [0, 2] rfl ?_
        rw [gset_un (by decide), up_up]
        have ih2 := ih () (by omega) ⟨by have := hfg.1; omega, xfst_n hI.2 (by rw [xfgb_t hfg]; rfl)⟩
        rw [← gset_s] at ih2
        exact ih2
      · have g40 := xf_ge h40
        refine xS.s1 rfl rfl ?_
        try dsimp only [Nat.reduceAdd, xi_0]
        refine xS.ret rfl rfl rfl (fun _ _ => rfl) ?_
        obtain ⟨hnf, rfl, rfl⟩ := xFg_lt (by decide) hz g40
        refine ⟨some (xab f n 0 + 1 + j), _, rfl, rfl, ⟨fun e h1 h2 => by rw [gset_na h2, up_na h1], fun i hi => by rw [gset_na (by decide), up_ne (Or.inr hi)]⟩, fun e he => ?_, fun z => by cases z⟩
        cases he
        exact ⟨xprs_1 hq (xfst_at hI.2 (by rw [xfgb_f hnf]; rfl) hj6), by rw [gset_na (by decide), up_same], by omega⟩
  · have g10 := xf_eq h10
    refine xS.s1 rfl rfl ?_
    try dsimp only [Nat.reduceAdd, xi_0]
    refine xS.ret rfl rfl rfl (fun _ _ => rfl) ?_
    refine ⟨some (xab f n 0), _, rfl, rfl, ⟨fun e h1 h2 => up_na h1, fun i hi => up_ne (Or.inr hi)⟩, fun e he => ?_, fun z => by cases z⟩
    cases he
    exact ⟨xprs_0 (fun z => g10 ((xlr_in z.1).trans z.2)), up_same .., by omega⟩

set_option maxRecDepth 10000 in
theorem c_X12_isGlassItem (hP : g 73 28 = nI p) (hO : g 73 29 = nI o) (hN : g 73 30 = nI n) (hfv : ∀ i, i < n → g 77 (o + i) = f i) (hn : n ≤ 60) (ho : o ≤ 180) (hp : p ≤ n) (hR : xRw g G T Lw tx) (hpn : p < n) (hk : xkd (f p) = some κ) : xT (k + 3) 173 [.ref 73] (xH b g l) (fun r M' => xItR b l f n g p G T Lw tx 2 r M') := by
  have k6 := xkd_lt hk
  have hG6 := hR.1.2
  have hT8 := hR.2.1.2
  refine xT.of rfl (Nat.le_of_ble_eq_true rfl) ?_
  change xS _ _ 0 [(0, .ref 73)] [] _ _
  refine xS.s1 rfl rfl ?_
  try dsimp only [Nat.reduceAdd]
  refine xS.gI rfl rfl rfl ⟨by decide, rfl⟩ rfl ?_
  try dsimp only [Nat.reduceAdd]
  refine xS.s1 rfl rfl ?_
  try dsimp only [Nat.reduceAdd, xj_6]
  refine xS.br (c := .eq) (off := 10) (l := 3) rfl rfl (fun h6 => ?_) (fun h6 => ?_)
  · have g6 := xt_eq h6
    refine xS.s1 rfl rfl ?_
    try dsimp only [Nat.reduceAdd, xi_0]
    refine xS.ret rfl rfl rfl (fun _ _ => rfl) ?_
    exact ⟨some p, g, rfl, rfl, ⟨fun _ _ _ _ => rfl, fun _ _ _ _ => rfl⟩, fun e he => by cases he; exact ⟨by omega, hP, fun q => xpi_g0 hpn (xkd_110 hk) (Or.inr (Or.inr (nI_inj (b := 6) (by omega) (by omega) (hR.1.1.symm.trans g6))))⟩, fun z => by cases z⟩
  · have g6 := xf_eq h6
    refine xS.s1 rfl rfl ?_
    try dsimp only [Nat.reduceAdd]
    refine xS.gI rfl rfl rfl ⟨by decide, rfl⟩ rfl ?_
    try dsimp only [Nat.reduceAdd]
    refine xS.br0 (c := .le) (off := 5) (l := 3) rfl rfl (fun h13 => ?_) (fun h13 => ?_)
    · have g13 := xt_le h13
      have hT0 : T = 0 := by have z := g13; rw [hR.2.1.1] at z; exact xn0 z (by omega)
      have hG5 : G < 6 := by have z : G ≠ 6 := fun z => g6 (by rw [hR.1.1, z]; rfl); omega
      have hnb : ¬ (xkd (f p) = none ∨ 0 < T ∨ G = 6) := fun z => by rcases z with z | z | z; (rw [hk] at z; cases z); (omega); (omega)
      refine xS.s1 rfl rfl ?_
      try dsimp only [Nat.reduceAdd]
      -- 19 yX12_letter
      refine xS.cv rfl rfl rfl rfl rfl rfl ⟨by decide, rfl, rfl⟩ (c_X12_letter hP hO hN hfv hn ho hp) (fun v M1 hv => ?_)
      rw [hv.1, hv.2, xlr_in hpn]
      clear hv M1 v
      try dsimp only [Nat.reduceAdd, Option.toList, List.cons_append, List.nil_append, List.drop]
      -- 22 yX12_kindBy
      refine xS.callS rfl rfl rfl ⟨Nat.le_of_ble_eq_true rfl, rfl⟩ c_X12_kindBy (fun v M1 hv => ?_)
      rw [hv.1, hv.2, xkI_s hk]
      clear hv M1 v
      try dsimp only [Nat.reduceAdd, Option.toList, List.cons_append, List.nil_append, List.drop]
      refine xS.s1 rfl rfl ?_
      try dsimp only [Nat.reduceAdd]
      refine xS.s1 rfl rfl ?_
      try dsimp only [Nat.reduceAdd]
      refine xS.s1 rfl rfl ?_
      try dsimp only [Nat.reduceAdd]
      refine xS.gI rfl rfl rfl ⟨by decide, rfl⟩ rfl ?_
      try dsimp only [Nat.reduceAdd]
      rw [hP]
      refine xS.s1 rfl rfl ?_
      try dsimp only [Nat.reduceAdd, xi_1]
      refine xS.s1 rfl rfl ?_
      try dsimp only [Nat.reduceAdd]
      rw [nI_1]
      refine xS.pI rfl rfl rfl ⟨⟨by decide, rfl⟩, rfl, by decide, by decide⟩ rfl ?_
      try dsimp only [Nat.reduceAdd]
      refine xS.s1 rfl rfl ?_
      try dsimp only [Nat.reduceAdd]
      refine xS.s1 rfl rfl ?_
      try dsimp only [Nat.reduceAdd, xi_3]
      -- 38 yX12_figure
      refine xS.cv rfl rfl rfl rfl rfl rfl ⟨by decide, rfl, rfl⟩ (c_X12_figureP (t := 3) (p := p + 1) (o := o) (n := n) (f := f) (up_same ..) (by rw [up_ne (Or.inr (by decide))]; exact hO) (by rw [up_ne (Or.inr (by decide))]; exact hN) (fun i hi => by rw [up_na (by decide)]; exact hfv i hi) hn ho (by omega) (by decide)) (fun v M1 hv => ?_)
      obtain ⟨z, g2, rfl, rfl, hz⟩ := hv
      try dsimp only [Nat.reduceAdd, Option.toList, List.cons_append, List.nil_append, List.drop]
      refine xS.s1 rfl rfl ?_
      try dsimp only [Nat.reduceAdd]
      refine xS.s1 rfl rfl ?_
      try dsimp only [Nat.reduceAdd]
      refine xS.br0 (c := .ge) (off := 5) (l := 3) rfl rfl (fun h43 => ?_) (fun h43 => ?_)
      · have g43 := xt_ge h43
        obtain ⟨hfg, rfl, rfl⟩ := xFg_ge hz g43
        refine xS.s1 rfl rfl ?_
        try dsimp only [Nat.reduceAdd]
        refine xS.gR rfl rfl rfl ⟨by decide, rfl⟩ rfl ?_
        try dsimp only [Nat.reduceAdd]
        refine xS.s1 rfl rfl ?_
        try dsimp only [Nat.reduceAdd, xi_2]
        refine xS.s1 rfl rfl ?_
        try dsimp only [Nat.reduceAdd]
        refine xS.gI rfl rfl rfl ⟨by decide, rfl⟩ rfl ?_
        try dsimp only [Nat.reduceAdd]
        rw [up_ne (Or.inr (by decide)), up_ne (Or.inr (by decide)), hR.1.1]
        refine xS.s1 rfl rfl ?_
        try dsimp only [Nat.reduceAdd]
        refine xS.s1 rfl rfl ?_
        try dsimp only [Nat.reduceAdd]
        rw [show ((2 * nI G) : Int32) = nI (2 * G) from by simp only [← nI_add, ← pk_mul] <;> rfl]
        refine xS.ias rfl xar_79 (by omega) ?_
        try dsimp only [Nat.reduceAdd]
        refine xS.s1 rfl rfl ?_
        try dsimp only [Nat.reduceAdd]
        refine xS.gR rfl rfl rfl ⟨by decide, rfl⟩ rfl ?_
        try dsimp only [Nat.reduceAdd]
        refine xS.s1 rfl rfl ?_
        try dsimp only [Nat.reduceAdd, xi_2]
        refine xS.s1 rfl rfl ?_
        try dsimp only [Nat.reduceAdd]
        refine xS.gI rfl rfl rfl ⟨by decide, rfl⟩ rfl ?_
        try dsimp only [Nat.reduceAdd]
        rw [up_na (by decide), up_ne (Or.inr (by decide)), up_ne (Or.inr (by decide)), hR.1.1]
        refine xS.s1 rfl rfl ?_
        try dsimp only [Nat.reduceAdd]
        refine xS.s1 rfl rfl ?_
        try dsimp only [Nat.reduceAdd, xi_1]
        refine xS.s1 rfl rfl ?_
        try dsimp only [Nat.reduceAdd]
        refine xS.s1 rfl rfl ?_
        try dsimp only [Nat.reduceAdd]
        rw [show (((2 * nI G) + 1) : Int32) = nI ((2 * G) + 1) from by simp only [← nI_add, ← pk_mul] <;> rfl]
        refine xS.ias rfl xar_79 (by omega) ?_
        try dsimp only [Nat.reduceAdd]
        refine xS.s1 rfl rfl ?_
        try dsimp only [Nat.reduceAdd]
        refine xS.s1 rfl rfl ?_
        try dsimp only [Nat.reduceAdd]
        refine xS.gI rfl rfl rfl ⟨by decide, rfl⟩ rfl ?_
        try dsimp only [Nat.reduceAdd]
        rw [up_na (by decide), up_na (by decide), up_ne (Or.inr (by decide)), up_ne (Or.inr (by decide)), hR.1.1]
        refine xS.s1 rfl rfl ?_
        try dsimp only [Nat.reduceAdd, xi_1]
        refine xS.s1 rfl rfl ?_
        try dsimp only [Nat.reduceAdd]
        rw [nI_1]
        refine xS.pI rfl rfl rfl ⟨⟨by decide, rfl⟩, rfl, by decide, by decide⟩ rfl ?_
        try dsimp only [Nat.reduceAdd]
        refine xS.s1 rfl rfl ?_
        try dsimp only [Nat.reduceAdd, xi_1]
        refine xS.ret rfl rfl rfl (fun _ _ => rfl) ?_
        have v1 := xfv_e (by decide) hfg
        have hq : ∀ q, xpi f n (q + 1) p G T Lw tx = xpi f n q (xab f n (p + 2)) (G + 1) T (uf Lw G (4 * κ + xfv (f (p + 1)))) tx := fun q => by rw [xpi_g2 hpn (xkd_110 hk) hnb hfg, hk]; rfl
        have d1 : (4 * κ + xfv (f (p + 1))) / 4 = κ := by have := v1.1; omega
        have d2 : (4 * κ + xfv (f (p + 1))) % 4 = xfv (f (p + 1)) := by have := v1.1; omega
        refine ⟨none, _, rfl, rfl, ⟨fun e h1 h2 h3 => by rw [up_na h1, up_na h2, up_na h2, up_na h1, up_na h1], fun i h1 h2 h3 => by rw [up_ne (Or.inr h2), up_na (by decide), up_na (by decide), up_ne (Or.inr h1), up_ne (Or.inr h1)]⟩, fun e he => (by cases he), fun _ => ⟨G + 1, T, _, tx, ⟨⟨up_same .., by omega⟩, ⟨by rw [up_ne (Or.inr (by decide)), up_na (by decide), up_na (by decide), up_ne (Or.inr (by decide)), up_ne (Or.inr (by decide))]; exact hR.2.1.1, hR.2.1.2⟩, fun t ht => ?_, fun t ht => absurd ht (by omega)⟩, by rw [up_ne (Or.inr (by decide)), up_na (by decide), up_na (by decide), up_same], by have := hfg.1; omega, hq⟩⟩
        by_cases e1 : t = G
        · subst e1
          rw [uf_i, d1, d2]
          refine ⟨?_, ?_, by have := v1.1; omega⟩
          · rw [up_na (by decide), up_ne (Or.inr (by omega)), up_same]
          · rw [up_na (by decide), up_same]
        · rw [uf_n e1]
          refine ⟨?_, ?_, (hR.2.2.1 t (by omega)).2.2⟩
          · rw [up_na (by decide), up_ne (Or.inr (by omega)), up_ne (Or.inr (by omega)), up_na (by decide), up_na (by decide)]
            exact (hR.2.2.1 t (by omega)).1
          · rw [up_na (by decide), up_ne (Or.inr (by omega)), up_ne (Or.inr (by omega)), up_na (by decide), up_na (by decide)]
            exact (hR.2.2.1 t (by omega)).2.1
      · have g43 := xf_ge h43
        refine xS.s1 rfl rfl ?_
        try dsimp only [Nat.reduceAdd, xi_0]
        refine xS.ret rfl rfl rfl (fun _ _ => rfl) ?_
        obtain ⟨hnf, rfl, rfl⟩ := xFg_lt (by decide) hz g43
        exact ⟨some (p + 1), _, rfl, rfl, ⟨fun e h1 _ _ => up_na h1, fun i h1 _ _ => up_ne (Or.inr h1)⟩, fun e he => by cases he; exact ⟨by omega, up_same .., fun q => xpi_g1 hpn (xkd_110 hk) hnb hnf⟩, fun z => by cases z⟩
    · have g13 := xf_le h13
      refine xS.s1 rfl rfl ?_
      try dsimp only [Nat.reduceAdd, xi_0]
      refine xS.ret rfl rfl rfl (fun _ _ => rfl) ?_
      exact ⟨some p, g, rfl, rfl, ⟨fun _ _ _ _ => rfl, fun _ _ _ _ => rfl⟩, fun e he => by cases he; exact ⟨by omega, hP, fun q => xpi_g0 hpn (xkd_110 hk) (Or.inr (Or.inl (by have z := g13; rw [hR.2.1.1] at z; exact (nI_ltI (a := 0) (b := T) (by omega) (by omega)).mp z)))⟩, fun z => by cases z⟩

set_option maxRecDepth 10000 in
theorem c_X12_isTermItem (hP : g 73 28 = nI p) (hO : g 73 29 = nI o) (hN : g 73 30 = nI n) (hfv : ∀ i, i < n → g 77 (o + i) = f i) (hn : n ≤ 60) (ho : o ≤ 180) (hp : p ≤ n) (hR : xRw g G T Lw tx) (hpn : p < n) (hk : f p = 110) : xT (k + 3) 174 [.ref 73] (xH b g l) (fun r M' => xItR b l f n g p G T Lw tx 3 r M') := by
  have hG6 := hR.1.2
  have hT8 := hR.2.1.2
  refine xT.of rfl (Nat.le_of_ble_eq_true rfl) ?_
  change xS _ _ 0 [(0, .ref 73)] [] _ _
  refine xS.s1 rfl rfl ?_
  try dsimp only [Nat.reduceAdd]
  refine xS.gI rfl rfl rfl ⟨by decide, rfl⟩ rfl ?_
  try dsimp only [Nat.reduceAdd]
  refine xS.s1 rfl rfl ?_
  try dsimp only [Nat.reduceAdd, xj_8]
  refine xS.br (c := .eq) (off := 10) (l := 3) rfl rfl (fun h6 => ?_) (fun h6 => ?_)
  · have g6 := xt_eq h6
    refine xS.s1 rfl rfl ?_
    try dsimp only [Nat.reduceAdd, xi_0]
    refine xS.ret rfl rfl rfl (fun _ _ => rfl) ?_
    exact ⟨some p, g, rfl, rfl, ⟨fun _ _ _ _ => rfl, fun _ _ _ _ => rfl⟩, fun e he => by cases he; exact ⟨by omega, hP, fun q => xpi_t0 hpn hk (Or.inr (nI_inj (b := 8) (by omega) (by omega) (hR.2.1.1.symm.trans g6)))⟩, fun z => by cases z⟩
  · have g6 := xf_eq h6
    refine xS.s1 rfl rfl ?_
    try dsimp only [Nat.reduceAdd]
    refine xS.gI rfl rfl rfl ⟨by decide, rfl⟩ rfl ?_
    try dsimp only [Nat.reduceAdd]
    refine xS.br0 (c := .ne) (off := 5) (l := 3) rfl rfl (fun h13 => ?_) (fun h13 => ?_)
    · have g13 := xt_ne h13
      have hnb : ¬ (G = 0 ∨ T = 8) := fun z => by rcases z with z | z; (exact g13 (by rw [hR.1.1, z]; rfl)); (exact g6 (by rw [hR.2.1.1, z]; rfl))
      have hT7 : T < 8 := by have := fun z => hnb (Or.inr z); omega
      refine xS.s1 rfl rfl ?_
      try dsimp only [Nat.reduceAdd]
      refine xS.s1 rfl rfl ?_
      try dsimp only [Nat.reduceAdd]
      refine xS.gI rfl rfl rfl ⟨by decide, rfl⟩ rfl ?_
      try dsimp only [Nat.reduceAdd]
      rw [hP]
      refine xS.s1 rfl rfl ?_
      try dsimp only [Nat.reduceAdd, xi_1]
      refine xS.s1 rfl rfl ?_
      try dsimp only [Nat.reduceAdd]
      rw [nI_1]
      refine xS.pI rfl rfl rfl ⟨⟨by decide, rfl⟩, rfl, by decide, by decide⟩ rfl ?_
      try dsimp only [Nat.reduceAdd]
      refine xS.s1 rfl rfl ?_
      try dsimp only [Nat.reduceAdd, xi_0]
      refine xS.s1 rfl rfl ?_
      try dsimp only [Nat.reduceAdd]
      refine xS.s1 rfl rfl ?_
      try dsimp only [Nat.reduceAdd]
      refine xS.s1 rfl rfl ?_
      try dsimp only [Nat.reduceAdd, xi_2]
      refine xS.br (c := .ge) (off := 35) (l := 3) rfl rfl (fun h32 => ?_) (fun h32 => ?_)
      · have g32 := xt_ge h32
        exfalso; first | exact absurd g32 (by decide) | (simp (disch := omega) only [Int32.lt_iff_toInt_lt, Int32.le_iff_toInt_le, nI_toInt, Int32.reduceToInt] at g32 <;> omega)
      · have g32 := xf_ge h32
        refine xS.s1 rfl rfl ?_
        try dsimp only [Nat.reduceAdd]
        refine xS.s1 rfl rfl ?_
        try dsimp only [Nat.reduceAdd, xi_5]
        -- 37 yX12_figure
        refine xS.cv rfl rfl rfl rfl rfl rfl ⟨by decide, rfl, rfl⟩ (c_X12_figureP (t := 5) (p := p + 1) (o := o) (n := n) (f := f) (up_same ..) (by rw [up_ne (Or.inr (by decide))]; exact hO) (by rw [up_ne (Or.inr (by decide))]; exact hN) (fun i hi => by rw [up_na (by decide)]; exact hfv i hi) hn ho (by omega) (by decide)) (fun v M1 hv => ?_)
        obtain ⟨z1, g2, rfl, rfl, hz1⟩ := hv
        try dsimp only [Nat.reduceAdd, Option.toList, List.cons_append, List.nil_append, List.drop]
        refine xS.s1 rfl rfl ?_
        try dsimp only [Nat.reduceAdd]
        refine xS.s1 rfl rfl ?_
        try dsimp only [Nat.reduceAdd]
        refine xS.br0 (c := .ge) (off := 5) (l := 3) rfl rfl (fun h42 => ?_) (fun h42 => ?_)
        · have g42 := xt_ge h42
          obtain ⟨hfg1, rfl, rfl⟩ := xFg_ge hz1 g42
          refine xS.s1 rfl rfl ?_
          try dsimp only [Nat.reduceAdd]
          refine xS.gR rfl rfl rfl ⟨by decide, rfl⟩ rfl ?_
          try dsimp only [Nat.reduceAdd]
          refine xS.s1 rfl rfl ?_
          try dsimp only [Nat.reduceAdd, xi_2]
          refine xS.s1 rfl rfl ?_
          try dsimp only [Nat.reduceAdd]
          refine xS.gI rfl rfl rfl ⟨by decide, rfl⟩ rfl ?_
          try dsimp only [Nat.reduceAdd]
          rw [up_ne (Or.inr (by decide)), up_ne (Or.inr (by decide)), hR.2.1.1]
          refine xS.s1 rfl rfl ?_
          try dsimp only [Nat.reduceAdd]
          refine xS.s1 rfl rfl ?_
          try dsimp only [Nat.reduceAdd]
          refine xS.s1 rfl rfl ?_
          try dsimp only [Nat.reduceAdd]
          refine xS.s1 rfl rfl ?_
          try dsimp only [Nat.reduceAdd]
          rw [show (((2 * nI T) + 0) : Int32) = nI ((2 * T) + 0) from by simp only [← nI_add, ← pk_mul] <;> rfl]
          refine xS.ias rfl xar_80 (by omega) ?_
          try dsimp only [Nat.reduceAdd]
          refine xS.s1 rfl rfl ?_
          try dsimp only [Nat.reduceAdd, xi_1]
          refine xS.s1 rfl rfl ?_
          try dsimp only [Nat.reduceAdd]
          rw [show (0 + 1 : Int32) = 1 from rfl]
          refine xS.s1 rfl rfl ?_
          try dsimp only [Nat.reduceAdd]
          refine xS.s1 rfl rfl ?_
          try dsimp only [Nat.reduceAdd, xi_2]
          refine xS.br (c := .ge) (off := 35) (l := 3) rfl rfl (fun h32 => ?_) (fun h32 => ?_)
          · have g32 := xt_ge h32
            exfalso; first | exact absurd g32 (by decide) | (simp (disch := omega) only [Int32.lt_iff_toInt_lt, Int32.le_iff_toInt_le, nI_toInt, Int32.reduceToInt] at g32 <;> omega)
          · have g32 := xf_ge h32
            refine xS.s1 rfl rfl ?_
            try dsimp only [Nat.reduceAdd]
            refine xS.s1 rfl rfl ?_
            try dsimp only [Nat.reduceAdd, xi_5]
            -- 37 yX12_figure
            refine xS.cv rfl rfl rfl rfl rfl rfl ⟨by decide, rfl, rfl⟩ (c_X12_figureP (t := 5) (p := p + 2) (o := o) (n := n) (f := f) (by rw [up_na (by decide), up_same]) (by rw [up_na (by decide), up_ne (Or.inr (by decide)), up_ne (Or.inr (by decide))]; exact hO) (by rw [up_na (by decide), up_ne (Or.inr (by decide)), up_ne (Or.inr (by decide))]; exact hN) (fun i hi => by rw [up_na (by decide), up_na (by decide), up_na (by decide)]; exact hfv i hi) hn ho (by have := hfg1.1; omega) (by decide)) (fun v M1 hv => ?_)
            obtain ⟨z2, g3, rfl, rfl, hz2⟩ := hv
            try dsimp only [Nat.reduceAdd, Option.toList, List.cons_append, List.nil_append, List.drop]
            refine xS.s1 rfl rfl ?_
            try dsimp only [Nat.reduceAdd]
            refine xS.s1 rfl rfl ?_
            try dsimp only [Nat.reduceAdd]
            refine xS.br0 (c := .ge) (off := 5) (l := 3) rfl rfl (fun h42 => ?_) (fun h42 => ?_)
            · have g42 := xt_ge h42
              obtain ⟨hfg2, rfl, rfl⟩ := xFg_ge hz2 g42
              refine xS.s1 rfl rfl ?_
              try dsimp only [Nat.reduceAdd]
              refine xS.gR rfl rfl rfl ⟨by decide, rfl⟩ rfl ?_
              try dsimp only [Nat.reduceAdd]
              refine xS.s1 rfl rfl ?_
              try dsimp only [Nat.reduceAdd, xi_2]
              refine xS.s1 rfl rfl ?_
              try dsimp only [Nat.reduceAdd]
              refine xS.gI rfl rfl rfl ⟨by decide, rfl⟩ rfl ?_
              try dsimp only [Nat.reduceAdd]
              rw [up_ne (Or.inr (by decide)), up_na (by decide), up_ne (Or.inr (by decide)), up_ne (Or.inr (by decide)), hR.2.1.1]
              refine xS.s1 rfl rfl ?_
              try dsimp only [Nat.reduceAdd]
              refine xS.s1 rfl rfl ?_
              try dsimp only [Nat.reduceAdd]
              refine xS.s1 rfl rfl ?_
              try dsimp only [Nat.reduceAdd]
              refine xS.s1 rfl rfl ?_
              try dsimp only [Nat.reduceAdd]
              rw [show (((2 * nI T) + 1) : Int32) = nI ((2 * T) + 1) from by simp only [← nI_add, ← pk_mul] <;> rfl]
              refine xS.ias rfl xar_80 (by omega) ?_
              try dsimp only [Nat.reduceAdd]
              refine xS.s1 rfl rfl ?_
              try dsimp only [Nat.reduceAdd, xi_1]
              refine xS.s1 rfl rfl ?_
              try dsimp only [Nat.reduceAdd]
              rw [show (1 + 1 : Int32) = 2 from rfl]
              refine xS.s1 rfl rfl ?_
              try dsimp only [Nat.reduceAdd]
              refine xS.s1 rfl rfl ?_
              try dsimp only [Nat.reduceAdd, xi_2]
              refine xS.br (c := .ge) (off := 35) (l := 3) rfl rfl (fun h32 => ?_) (fun h32 => ?_)
              · have g32 := xt_ge h32
                refine xS.s1 rfl rfl ?_
                try dsimp only [Nat.reduceAdd]
                refine xS.s1 rfl rfl ?_
                try dsimp only [Nat.reduceAdd]
                refine xS.gI rfl rfl rfl ⟨by decide, rfl⟩ rfl ?_
                try dsimp only [Nat.reduceAdd]
                rw [up_na (by decide), up_ne (Or.inr (by decide)), up_na (by decide), up_ne (Or.inr (by decide)), up_ne (Or.inr (by decide)), hR.2.1.1]
                refine xS.s1 rfl rfl ?_
                try dsimp only [Nat.reduceAdd, xi_1]
                refine xS.s1 rfl rfl ?_
                try dsimp only [Nat.reduceAdd]
                rw [nI_1]
                refine xS.pI rfl rfl rfl ⟨⟨by decide, rfl⟩, rfl, by decide, by decide⟩ rfl ?_
                try dsimp only [Nat.reduceAdd]
                refine xS.s1 rfl rfl ?_
                try dsimp only [Nat.reduceAdd, xi_1]
                refine xS.ret rfl rfl rfl (fun _ _ => rfl) ?_
                have v1 := xfv_e (by decide) hfg1
                have v2 := xfv_e (by decide) hfg2
                refine ⟨none, _, rfl, rfl, ⟨fun e h1 h2 h3 => by rw [up_na h1, up_na h3, up_na h1, up_na h3, up_na h1, up_na h1], fun i h1 h2 h3 => by rw [up_ne (Or.inr h3), up_na (by decide), up_ne (Or.inr h1), up_na (by decide), up_ne (Or.inr h1), up_ne (Or.inr h1)]⟩, fun e he => (by cases he), fun _ => ⟨G, T + 1, Lw, _, ⟨⟨by rw [up_ne (Or.inr (by decide)), up_na (by decide), up_ne (Or.inr (by decide)), up_na (by decide), up_ne (Or.inr (by decide)), up_ne (Or.inr (by decide))]; exact hR.1.1, hG6⟩, ⟨up_same .., by omega⟩, fun t ht => by rw [up_na (by decide), up_na (by decide), up_na (by decide), up_na (by decide), up_na (by decide), up_na (by decide)]; exact hR.2.2.1 t ht, fun t ht => ?_⟩, by rw [up_ne (Or.inr (by decide)), up_na (by decide), up_same], by have := hfg2.1; omega, fun q => xpi_t3 hpn hk hnb hfg1 hfg2⟩⟩
                rw [up_na (by decide)]
                by_cases e1 : t = 2 * T + 1
                · subst e1
                  rw [up_same, uf_i]
                  exact ⟨rfl, _, v2.1, rfl⟩
                · rw [up_ne (Or.inr e1), up_na (by decide), uf_n e1]
                  by_cases e2 : t = 2 * T
                  · subst e2
                    rw [show up (up (up g 73 28 (nI (p + 1))) 73 28 (nI (p + 1 + 1))) 80 (2 * T + 0) (nI (xfv (f (p + 1)))) 80 (2 * T) = nI (xfv (f (p + 1))) from up_same .., uf_i]
                    exact ⟨rfl, _, v1.1, rfl⟩
                  · rw [up_ne (Or.inr (show t ≠ 2 * T + 0 from e2)), up_na (by decide), up_na (by decide), uf_n e2]
                    exact hR.2.2.2 t (by omega)
              · have g32 := xf_ge h32
                exfalso; first | exact absurd g32 (by decide) | (simp (disch := omega) only [Int32.lt_iff_toInt_lt, Int32.le_iff_toInt_le, nI_toInt, Int32.reduceToInt] at g32 <;> omega)
            · have g42 := xf_ge h42
              refine xS.s1 rfl rfl ?_
              try dsimp only [Nat.reduceAdd, xi_0]
              refine xS.ret rfl rfl rfl (fun _ _ => rfl) ?_
              obtain ⟨hnf, rfl, rfl⟩ := xFg_lt (by decide) hz2 g42
              exact ⟨some (p + 2), _, rfl, rfl, ⟨fun e h1 h2 h3 => by rw [up_na h3, up_na h1, up_na h1], fun i h1 _ _ => by rw [up_na (by decide), up_ne (Or.inr h1), up_ne (Or.inr h1)]⟩, fun e he => by cases he; exact ⟨by omega, by rw [up_na (by decide), up_same], fun q => xpi_t2 hpn hk hnb hfg1 hnf⟩, fun z => by cases z⟩
        · have g42 := xf_ge h42
          refine xS.s1 rfl rfl ?_
          try dsimp only [Nat.reduceAdd, xi_0]
          refine xS.ret rfl rfl rfl (fun _ _ => rfl) ?_
          obtain ⟨hnf, rfl, rfl⟩ := xFg_lt (by decide) hz1 g42
          exact ⟨some (p + 1), _, rfl, rfl, ⟨fun e h1 _ _ => up_na h1, fun i h1 _ _ => up_ne (Or.inr h1)⟩, fun e he => by cases he; exact ⟨by omega, up_same .., fun q => xpi_t1 hpn hk hnb hnf⟩, fun z => by cases z⟩
    · have g13 := xf_ne h13
      refine xS.s1 rfl rfl ?_
      try dsimp only [Nat.reduceAdd, xi_0]
      refine xS.ret rfl rfl rfl (fun _ _ => rfl) ?_
      exact ⟨some p, g, rfl, rfl, ⟨fun _ _ _ _ => rfl, fun _ _ _ _ => rfl⟩, fun e he => by cases he; exact ⟨by omega, hP, fun q => xpi_t0 hpn hk (Or.inl (nI_inj (b := 0) (by omega) (by omega) (hR.1.1.symm.trans g13)))⟩, fun z => by cases z⟩

end
end
section
/-! the reference's isRoom, fault, room -/
def xFp (g g' : Nat → Nat → Int32) : Prop := (∀ e, e ≠ 73 → e ≠ 78 → e ≠ 79 → e ≠ 80 → g' e = g e) ∧ (∀ i, i ≠ 28 → i ≠ 29 → i ≠ 30 → i ≠ 5 → i ≠ 7 → g' 73 i = g 73 i)
def xLR (f : Nat → Int32) (n : Nat) (g1 : Nat → Nat → Int32) (R : xPR) (j i G T : Nat) (Lw : Nat → Nat) (tx : Nat → Int32) (g' : Nat → Nat → Int32) : Prop := 2 * j ≤ i ∧ i ≤ n ∧ xpi f n (61 - j) i G T Lw tx = R ∧ xRw g' G T Lw tx ∧ g' 73 28 = nI i ∧ xFq g1 g'
theorem xFh_p {g g' : Nat → Nat → Int32} (h : xFh g g') : xFp g g' := ⟨fun e h1 h2 _ _ => h.1 e h1 h2, fun i h1 _ _ _ _ => h.2 i h1⟩
theorem xFq_p {g g' : Nat → Nat → Int32} (h : xFq g g') : xFp g g' := ⟨fun e h1 _ h3 h4 => h.1 e h1 h3 h4, fun i h1 _ _ h4 h5 => h.2 i h1 h4 h5⟩
theorem xFp_t {g g1 g2 : Nat → Nat → Int32} (h1 : xFp g g1) (h2 : xFp g1 g2) : xFp g g2 := ⟨fun e p q r s => by rw [h2.1 e p q r s, h1.1 e p q r s], fun i p q r s t => by rw [h2.2 i p q r s t, h1.2 i p q r s t]⟩
theorem xFp_u {g g' : Nat → Nat → Int32} {v : Int32} {i : Nat} (hi : i = 28 ∨ i = 29 ∨ i = 30 ∨ i = 5 ∨ i = 7) (h : xFp g g') : xFp g (up g' 73 i v) := ⟨fun e p q r s => by rw [up_na p, h.1 e p q r s], fun j p q r s t => by rw [up_ne (Or.inr (by rcases hi with z | z | z | z | z <;> (rw [z]; assumption))), h.2 j p q r s t]⟩

section
variable {k a c n n2 m t p s d i1 j1 : Nat} {b : Nat × Nat} {g : Nat → Nat → Int32} {l : Nat → Nat → Int64} {i j x y z v w : Int32} {u w1 w2 : Int64}
variable {L G T κ δ o : Nat} {Lw : Nat → Nat} {f tx : Nat → Int32} {R : xPR}
set_option maxRecDepth 10000 in
theorem c_X12_isRoom (ht : t < 4) (hs : g 76 t = nI n) (hn : n ≤ 60) (hfv : ∀ i, i < n → g 77 (60 * t + i) = f i) (hRR : xprs f n = R) : xT (k + 4) 175 [.ref 73, .int (nI t)] (xH b g l) (fun r M' => ∃ g', M' = xH b g' l ∧ xFp g g' ∧ r = some (.int (xb1 R.1)) ∧ (∀ e, R.1 = some e → e < 2 ^ 31 ∧ g' 73 28 = nI e) ∧ (R.1 = none → xRw g' R.2.1 R.2.2.1 R.2.2.2.1 R.2.2.2.2 ∧ ∀ s, s < 6 → g' 78 s = nI (xfv (f (xab f n 0 + 1 + s))) ∧ xfv (f (xab f n 0 + 1 + s)) < 6)) := by
  have hP5 : (up (up (up (up (up g 73 29 (nI (60 * t))) 73 30 (nI n)) 73 28 0) 73 5 0) 73 7 0) 73 28 = nI 0 := by rw [up_ne (Or.inr (by decide)), up_ne (Or.inr (by decide)), up_same]; rfl
  have hO5 : (up (up (up (up (up g 73 29 (nI (60 * t))) 73 30 (nI n)) 73 28 0) 73 5 0) 73 7 0) 73 29 = nI (60 * t) := by rw [up_ne (Or.inr (by decide)), up_ne (Or.inr (by decide)), up_ne (Or.inr (by decide)), up_ne (Or.inr (by decide)), up_same]
  have hN5 : (up (up (up (up (up g 73 29 (nI (60 * t))) 73 30 (nI n)) 73 28 0) 73 5 0) 73 7 0) 73 30 = nI n := by rw [up_ne (Or.inr (by decide)), up_ne (Or.inr (by decide)), up_ne (Or.inr (by decide)), up_same]
  have hf5 : ∀ i, i < n → (up (up (up (up (up g 73 29 (nI (60 * t))) 73 30 (nI n)) 73 28 0) 73 5 0) 73 7 0) 77 (60 * t + i) = f i := fun i hi => by rw [up_na (by decide), up_na (by decide), up_na (by decide), up_na (by decide), up_na (by decide)]; exact hfv i hi
  have hF5 : xFp g (up (up (up (up (up g 73 29 (nI (60 * t))) 73 30 (nI n)) 73 28 0) 73 5 0) 73 7 0) := xFp_u (by decide) (xFp_u (by decide) (xFp_u (by decide) (xFp_u (by decide) (xFp_u (by decide) ⟨fun _ _ _ _ _ => rfl, fun _ _ _ _ _ _ => rfl⟩))))
  refine xT.of rfl (Nat.le_of_ble_eq_true rfl) ?_
  change xS _ _ 0 [(0, .ref 73), (1, .int (nI t))] [] _ _
  refine xS.s1 rfl rfl ?_
  try dsimp only [Nat.reduceAdd]
  refine xS.s1 rfl rfl ?_
  try dsimp only [Nat.reduceAdd, xj_60]
  refine xS.s1 rfl rfl ?_
  try dsimp only [Nat.reduceAdd]
  refine xS.s1 rfl rfl ?_
  try dsimp only [Nat.reduceAdd]
  rw [show (60 * nI t : Int32) = nI (60 * t) from pk_mul 60 t]
  refine xS.pI rfl rfl rfl ⟨⟨by decide, rfl⟩, rfl, by decide, by decide⟩ rfl ?_
  try dsimp only [Nat.reduceAdd]
  refine xS.s1 rfl rfl ?_
  try dsimp only [Nat.reduceAdd]
  refine xS.s1 rfl rfl ?_
  try dsimp only [Nat.reduceAdd]
  refine xS.gR rfl rfl rfl ⟨by decide, rfl⟩ rfl ?_
  try dsimp only [Nat.reduceAdd]
  refine xS.s1 rfl rfl ?_
  try dsimp only [Nat.reduceAdd]
  refine xS.ia rfl xar_76 (by omega) ?_
  try dsimp only [Nat.reduceAdd]
  rw [up_na (by decide), hs]
  refine xS.pI rfl rfl rfl ⟨⟨by decide, rfl⟩, rfl, by decide, by decide⟩ rfl ?_
  try dsimp only [Nat.reduceAdd]
  refine xS.s1 rfl rfl ?_
  try dsimp only [Nat.reduceAdd]
  refine xS.s1 rfl rfl ?_
  try dsimp only [Nat.reduceAdd, xi_0]
  refine xS.pI rfl rfl rfl ⟨⟨by decide, rfl⟩, rfl, by decide, by decide⟩ rfl ?_
  try dsimp only [Nat.reduceAdd]
  refine xS.s1 rfl rfl ?_
  try dsimp only [Nat.reduceAdd]
  refine xS.s1 rfl rfl ?_
  try dsimp only [Nat.reduceAdd, xi_0]
  refine xS.pI rfl rfl rfl ⟨⟨by decide, rfl⟩, rfl, by decide, by decide⟩ rfl ?_
  try dsimp only [Nat.reduceAdd]
  refine xS.s1 rfl rfl ?_
  try dsimp only [Nat.reduceAdd]
  refine xS.s1 rfl rfl ?_
  try dsimp only [Nat.reduceAdd, xi_0]
  refine xS.pI rfl rfl rfl ⟨⟨by decide, rfl⟩, rfl, by decide, by decide⟩ rfl ?_
  try dsimp only [Nat.reduceAdd]
  refine xS.s1 rfl rfl ?_
  try dsimp only [Nat.reduceAdd]
  -- 34 yX12_areHabits
  refine xS.cv rfl rfl rfl rfl rfl rfl ⟨by decide, rfl, rfl⟩ (c_X12_areHabits hP5 hO5 hN5 hf5 hn (by omega)) (fun v M1 hv => ?_)
  obtain ⟨o1, g1, rfl, rfl, hFh, hbh, hoh⟩ := hv
  have hO1 : g1 73 29 = nI (60 * t) := by rw [hFh.2 29 (by decide)]; exact hO5
  have hN1 : g1 73 30 = nI n := by rw [hFh.2 30 (by decide)]; exact hN5
  have hf1 : ∀ i, i < n → g1 77 (60 * t + i) = f i := fun i hi => by rw [hFh.1 77 (by decide) (by decide)]; exact hf5 i hi
  try dsimp only [Nat.reduceAdd, Option.toList, List.cons_append, List.nil_append, List.drop]
  refine xS.br0 (c := .ne) (off := 5) (l := 3) rfl rfl (fun h37 => ?_) (fun h37 => ?_)
  · have g37 := xt_ne h37
    have on := xb1_1 g37
    obtain ⟨hq1, hqn, hp7, hl7, hh6⟩ := hoh on
    have hR0 : xpi f n 61 (xab f n (xab f n 0 + 7)) 0 0 (fun _ => 0) (fun _ => 0) = R := by rw [← hRR, xprs_2 hq1 hqn]
    have zz := xab_le (f := f) hl7
    refine xS.s1 rfl rfl ?_
    try dsimp only [Nat.reduceAdd]
    -- 43 yX12_skip
    refine xS.cv rfl rfl rfl rfl rfl rfl ⟨by decide, rfl, rfl⟩ (c_X12_skip (p := xab f n 0 + 7) (o := 60 * t) (n := n) (f := f) hp7 hO1 hN1 hf1 hn (by omega) hl7) (fun v M1 hv => ?_)
    rw [hv.1, hv.2]
    clear hv M1 v
    try dsimp only [Nat.reduceAdd, Option.toList, List.cons_append, List.nil_append, List.drop]
    refine xS.pick [0] rfl ?_
    refine xS.loop (σ := Nat × Nat × Nat × (Nat → Nat) × (Nat → Int32) × (Nat → Nat → Int32)) (61) (fun j S => [(0, .ref 73)]) (fun _ S => xH b S.2.2.2.2.2 l) (fun j S => xLR f n (up g1 73 28 (nI (xab f n (xab f n 0 + 7)))) R j S.1 S.2.1 S.2.2.1 S.2.2.2.1 S.2.2.2.2.1 S.2.2.2.2.2) ((xab f n (xab f n 0 + 7), 0, 0, (fun _ => 0), (fun _ => 0), (up g1 73 28 (nI (xab f n (xab f n 0 + 7)))))) (rfl) (rfl) (show xLR f n (up g1 73 28 (nI (xab f n (xab f n 0 + 7)))) R 0 (xab f n (xab f n 0 + 7)) 0 0 (fun _ => 0) (fun _ => 0) (up g1 73 28 (nI (xab f n (xab f n 0 + 7)))) from ⟨Nat.zero_le _, zz.1, hR0, ⟨⟨by rw [up_ne (Or.inr (by decide)), hFh.2 5 (by decide), up_ne (Or.inr (by decide)), up_same]; rfl, by decide⟩, ⟨by rw [up_ne (Or.inr (by decide)), hFh.2 7 (by decide), up_same]; rfl, by decide⟩, fun k hk => absurd hk (by omega), fun k hk => absurd hk (by omega)⟩, up_same .., ⟨fun _ _ _ _ => rfl, fun _ _ _ _ => rfl⟩⟩) ?_
    have hFF : xFp g (up g1 73 28 (nI (xab f n (xab f n 0 + 7)))) := xFp_u (by decide) (xFp_t hF5 (xFh_p hFh))
    intro j S hj hI ih
    obtain ⟨i1, G1, T1, Lw1, tx1, g2⟩ := S
    obtain ⟨hj2, hi1, hq2, hR2, hP2, hFq⟩ := hI
    dsimp only at hj2 hi1 hq2 hR2 hP2 hFq
    have hO2 : g2 73 29 = nI (60 * t) := by rw [hFq.2 29 (by decide) (by decide) (by decide), up_ne (Or.inr (by decide))]; exact hO1
    have hN2 : g2 73 30 = nI n := by rw [hFq.2 30 (by decide) (by decide) (by decide), up_ne (Or.inr (by decide))]; exact hN1
    have hf2 : ∀ i, i < n → g2 77 (60 * t + i) = f i := fun i hi => by rw [hFq.1 77 (by decide) (by decide) (by decide), up_na (by decide)]; exact hf1 i hi
    try dsimp only
    refine xS.s1 rfl rfl ?_
    try dsimp only [Nat.reduceAdd]
    refine xS.gI rfl rfl rfl ⟨by decide, rfl⟩ rfl ?_
    try dsimp only [Nat.reduceAdd]
    rw [hP2]
    refine xS.s1 rfl rfl ?_
    try dsimp only [Nat.reduceAdd]
    refine xS.gI rfl rfl rfl ⟨by decide, rfl⟩ rfl ?_
    try dsimp only [Nat.reduceAdd]
    rw [hN2]
    refine xS.br (c := .ge) (off := 54) (l := 3) rfl rfl (fun h54 => ?_) (fun h54 => ?_)
    · have g54 := xt_ge h54
      have hge := xnle g54 (by omega) (by omega)
      refine xS.s1 rfl rfl ?_
      try dsimp only [Nat.reduceAdd]
      refine xS.gI rfl rfl rfl ⟨by decide, rfl⟩ rfl ?_
      try dsimp only [Nat.reduceAdd]
      rw [hR2.1.1]
      refine xS.br0 (c := .le) (off := 7) (l := 3) rfl rfl (fun h112 => ?_) (fun h112 => ?_)
      · have g112 := xt_le h112
        refine xS.s1 rfl rfl ?_
        try dsimp only [Nat.reduceAdd, xi_0]
        refine xS.ret rfl rfl rfl (fun _ _ => rfl) ?_
        have e1 := xpi_e (q := 60 - j) (f := f) (n := n) (i := i1) (G := G1) (T := T1) (Lw := Lw1) (tx := tx1) (by omega)
        rw [show 60 - j + 1 = 61 - j by omega, hq2] at e1
        rw [if_pos (xn0 g112 (by have := hR2.1.2; omega))] at e1
        rw [e1]
        exact ⟨g2, rfl, xFp_t hFF (xFq_p hFq), rfl, fun d hd => by cases hd; exact ⟨by omega, by rw [hP2]; congr 1; omega⟩, fun z => by cases z⟩
      · have g112 := xf_le h112
        refine xS.s1 rfl rfl ?_
        try dsimp only [Nat.reduceAdd, xi_1]
        refine xS.s1 rfl rfl ?_
        try dsimp only [Nat.reduceAdd]
        refine xS.ret rfl rfl rfl (fun _ _ => rfl) ?_
        have e1 := xpi_e (q := 60 - j) (f := f) (n := n) (i := i1) (G := G1) (T := T1) (Lw := Lw1) (tx := tx1) (by omega)
        rw [show 60 - j + 1 = 61 - j by omega, hq2] at e1
        rw [if_neg (fun z => absurd g112 (by rw [z]; decide))] at e1
        rw [e1]
        exact ⟨g2, rfl, xFp_t hFF (xFq_p hFq), rfl, fun d hd => (by cases hd), fun _ => ⟨hR2, fun s hs => by rw [hFq.1 78 (by decide) (by decide) (by decide), up_na (by decide)]; exact hh6 s hs⟩⟩
    · have g54 := xf_ge h54
      have hlt := xnlt g54 (by omega) (by omega)
      refine xS.s1 rfl rfl ?_
      try dsimp only [Nat.reduceAdd]
      -- 58 yX12_letter
      refine xS.cv rfl rfl rfl rfl rfl rfl ⟨by decide, rfl, rfl⟩ (c_X12_letter hP2 hO2 hN2 hf2 hn (by omega) hi1) (fun v M1 hv => ?_)
      rw [hv.1, hv.2, xlr_in hlt]
      clear hv M1 v
      try dsimp only [Nat.reduceAdd, Option.toList, List.cons_append, List.nil_append, List.drop]
      refine xS.s1 rfl rfl ?_
      try dsimp only [Nat.reduceAdd]
      refine xS.s1 rfl rfl ?_
      try dsimp only [Nat.reduceAdd]
      -- 63 yX12_kindBy
      refine xS.callS rfl rfl rfl ⟨Nat.le_of_ble_eq_true rfl, rfl⟩ c_X12_kindBy (fun v M1 hv => ?_)
      rw [hv.1, hv.2]
      clear hv M1 v
      try dsimp only [Nat.reduceAdd, Option.toList, List.cons_append, List.nil_append, List.drop]
      refine xS.br0 (c := .lt) (off := 10) (l := 3) rfl rfl (fun h66 => ?_) (fun h66 => ?_)
      · have g66 := xt_lt h66
        refine xS.s1 rfl rfl ?_
        try dsimp only [Nat.reduceAdd]
        refine xS.s1 rfl rfl ?_
        try dsimp only [Nat.reduceAdd, xj_110]
        refine xS.br (c := .ne) (off := 14) (l := 3) rfl rfl (fun h79 => ?_) (fun h79 => ?_)
        · have g79 := xt_ne h79
          refine xS.s1 rfl rfl ?_
          try dsimp only [Nat.reduceAdd, xi_0]
          refine xS.s1 rfl rfl ?_
          try dsimp only [Nat.reduceAdd]
          refine xS.s1 rfl rfl ?_
          try dsimp only [Nat.reduceAdd]
          refine xS.br0 (c := .ne) (off := 5) (l := 3) rfl rfl (fun h96 => ?_) (fun h96 => ?_)
          · have g96 := xt_ne h96
            exact absurd rfl g96
          · have g96 := xf_ne h96
            refine xS.s1 rfl rfl ?_
            try dsimp only [Nat.reduceAdd, xi_0]
            refine xS.ret rfl rfl rfl (fun _ _ => rfl) ?_
            have e1 := xpi_g0 (q := 60 - j) (f := f) (n := n) (i := i1) (G := G1) (T := T1) (Lw := Lw1) (tx := tx1) hlt g79 (Or.inl (xkI_lt g66))
            rw [show 60 - j + 1 = 61 - j by omega, hq2] at e1
            rw [e1]
            exact ⟨g2, rfl, xFp_t hFF (xFq_p hFq), rfl, fun d hd => by cases hd; exact ⟨by omega, hP2⟩, fun z => by cases z⟩
        · have g79 := xf_ne h79
          refine xS.s1 rfl rfl ?_
          try dsimp only [Nat.reduceAdd]
          -- 83 yX12_isTermItem
          refine xS.cv rfl rfl rfl rfl rfl rfl ⟨by decide, rfl, rfl⟩ (c_X12_isTermItem hP2 hO2 hN2 hf2 hn (by omega) hi1 hR2 hlt g79) (fun v M1 hv => ?_)
          obtain ⟨o2, g3, rfl, rfl, hF3, hb3, ho3⟩ := hv
          have hO3 : g3 73 29 = nI (60 * t) := by rw [hF3.2 29 (by decide) (by decide) (by decide)]; exact hO2
          have hN3 : g3 73 30 = nI n := by rw [hF3.2 30 (by decide) (by decide) (by decide)]; exact hN2
          have hf3 : ∀ i, i < n → g3 77 (60 * t + i) = f i := fun i hi => by rw [hF3.1 77 (by decide) (by decide) (by decide)]; exact hf2 i hi
          try dsimp only [Nat.reduceAdd, Option.toList, List.cons_append, List.nil_append, List.drop]
          refine xS.br0 (c := .eq) (off := 7) (l := 3) rfl rfl (fun h86 => ?_) (fun h86 => ?_)
          · have g86 := xt_eq h86
            refine xS.s1 rfl rfl ?_
            try dsimp only [Nat.reduceAdd, xi_0]
            refine xS.s1 rfl rfl ?_
            try dsimp only [Nat.reduceAdd]
            refine xS.s1 rfl rfl ?_
            try dsimp only [Nat.reduceAdd]
            refine xS.br0 (c := .ne) (off := 5) (l := 3) rfl rfl (fun h96 => ?_) (fun h96 => ?_)
            · have g96 := xt_ne h96
              exact absurd rfl g96
            · have g96 := xf_ne h96
              refine xS.s1 rfl rfl ?_
              try dsimp only [Nat.reduceAdd, xi_0]
              refine xS.ret rfl rfl rfl (fun _ _ => rfl) ?_
              obtain ⟨e, he⟩ := xb1_0 g86
              obtain ⟨q1, q2, q3⟩ := hb3 e he
              have e1 := q3 (60 - j)
              rw [show 60 - j + 1 = 61 - j by omega, hq2] at e1
              rw [e1]
              exact ⟨g3, rfl, xFp_t hFF (xFq_p (xFq_t hFq hF3)), rfl, fun d hd => by cases hd; exact ⟨q1, q2⟩, fun z => by cases z⟩
          · have g86 := xf_eq h86
            refine xS.s1 rfl rfl ?_
            try dsimp only [Nat.reduceAdd, xi_1]
            refine xS.s1 rfl rfl ?_
            try dsimp only [Nat.reduceAdd]
            refine xS.s1 rfl rfl ?_
            try dsimp only [Nat.reduceAdd]
            refine xS.s1 rfl rfl ?_
            try dsimp only [Nat.reduceAdd]
            refine xS.br0 (c := .ne) (off := 5) (l := 3) rfl rfl (fun h96 => ?_) (fun h96 => ?_)
            · have g96 := xt_ne h96
              refine xS.s1 rfl rfl ?_
              try dsimp only [Nat.reduceAdd]
              -- 102 yX12_skip
              refine xS.cv rfl rfl rfl rfl rfl rfl ⟨by decide, rfl, rfl⟩ (c_X12_skip (p := i1 + 3) (o := 60 * t) (n := n) (f := f) ((ho3 (xb1_1 g86)).choose_spec.choose_spec.choose_spec.choose_spec.2.1) hO3 hN3 hf3 hn (by omega) ((ho3 (xb1_1 g86)).choose_spec.choose_spec.choose_spec.choose_spec.2.2.1)) (fun v M1 hv => ?_)
              rw [hv.1, hv.2]
              clear hv M1 v
              try dsimp only [Nat.reduceAdd, Option.toList, List.cons_append, List.nil_append, List.drop]
              refine xS.s1 rfl rfl ?_
              try dsimp only [Nat.reduceAdd]
              refine xS.pick [2] rfl ?_
              obtain ⟨G2, T2, Lw2, tx2, hR4, hp4, hl4, hq4⟩ := ho3 (xb1_1 g86)
              have e2 := hq4 (60 - j)
              rw [show 60 - j + 1 = 61 - j by omega, hq2] at e2
              have z2 := xab_le (f := f) hl4
              exact ih (xab f n (i1 + 3), G2, T2, Lw2, tx2, up g3 73 28 (nI (xab f n (i1 + 3)))) (by omega) (show xLR f n (up g1 73 28 (nI (xab f n (xab f n 0 + 7)))) R (j + 1) (xab f n (i1 + 3)) G2 T2 Lw2 tx2 (up g3 73 28 (nI (xab f n (i1 + 3)))) from ⟨by omega, z2.1, by rw [show 61 - (j + 1) = 60 - j by omega]; exact e2.symm, ⟨⟨by rw [up_ne (Or.inr (by decide))]; exact hR4.1.1, hR4.1.2⟩, ⟨by rw [up_ne (Or.inr (by decide))]; exact hR4.2.1.1, hR4.2.1.2⟩, fun k hk => by rw [up_na (by decide)]; exact hR4.2.2.1 k hk, fun k hk => by rw [up_na (by decide)]; exact hR4.2.2.2 k hk⟩, up_same .., xFq_t (xFq_t hFq hF3) ⟨fun e h1 _ _ => up_na h1, fun i h1 _ _ => up_ne (Or.inr h1)⟩⟩)
            · have g96 := xf_ne h96
              exact absurd g96 (by decide)
      · have g66 := xf_lt h66
        obtain ⟨κ, hk⟩ := xkI_ge g66
        refine xS.s1 rfl rfl ?_
        try dsimp only [Nat.reduceAdd]
        -- 70 yX12_isGlassItem
        refine xS.cv rfl rfl rfl rfl rfl rfl ⟨by decide, rfl, rfl⟩ (c_X12_isGlassItem hP2 hO2 hN2 hf2 hn (by omega) hi1 hR2 hlt hk) (fun v M1 hv => ?_)
        obtain ⟨o2, g3, rfl, rfl, hF3, hb3, ho3⟩ := hv
        have hO3 : g3 73 29 = nI (60 * t) := by rw [hF3.2 29 (by decide) (by decide) (by decide)]; exact hO2
        have hN3 : g3 73 30 = nI n := by rw [hF3.2 30 (by decide) (by decide) (by decide)]; exact hN2
        have hf3 : ∀ i, i < n → g3 77 (60 * t + i) = f i := fun i hi => by rw [hF3.1 77 (by decide) (by decide) (by decide)]; exact hf2 i hi
        try dsimp only [Nat.reduceAdd, Option.toList, List.cons_append, List.nil_append, List.drop]
        refine xS.s1 rfl rfl ?_
        try dsimp only [Nat.reduceAdd]
        refine xS.s1 rfl rfl ?_
        try dsimp only [Nat.reduceAdd]
        refine xS.s1 rfl rfl ?_
        try dsimp only [Nat.reduceAdd]
        refine xS.br0 (c := .ne) (off := 5) (l := 3) rfl rfl (fun h96 => ?_) (fun h96 => ?_)
        · have g96 := xt_ne h96
          refine xS.s1 rfl rfl ?_
          try dsimp only [Nat.reduceAdd]
          -- 102 yX12_skip
          refine xS.cv rfl rfl rfl rfl rfl rfl ⟨by decide, rfl, rfl⟩ (c_X12_skip (p := i1 + 2) (o := 60 * t) (n := n) (f := f) ((ho3 (xb1_1 g96)).choose_spec.choose_spec.choose_spec.choose_spec.2.1) hO3 hN3 hf3 hn (by omega) ((ho3 (xb1_1 g96)).choose_spec.choose_spec.choose_spec.choose_spec.2.2.1)) (fun v M1 hv => ?_)
          rw [hv.1, hv.2]
          clear hv M1 v
          try dsimp only [Nat.reduceAdd, Option.toList, List.cons_append, List.nil_append, List.drop]
          refine xS.s1 rfl rfl ?_
          try dsimp only [Nat.reduceAdd]
          refine xS.pick [2] rfl ?_
          obtain ⟨G2, T2, Lw2, tx2, hR4, hp4, hl4, hq4⟩ := ho3 (xb1_1 g96)
          have e2 := hq4 (60 - j)
          rw [show 60 - j + 1 = 61 - j by omega, hq2] at e2
          have z2 := xab_le (f := f) hl4
          exact ih (xab f n (i1 + 2), G2, T2, Lw2, tx2, up g3 73 28 (nI (xab f n (i1 + 2)))) (by omega) (show xLR f n (up g1 73 28 (nI (xab f n (xab f n 0 + 7)))) R (j + 1) (xab f n (i1 + 2)) G2 T2 Lw2 tx2 (up g3 73 28 (nI (xab f n (i1 + 2)))) from ⟨by omega, z2.1, by rw [show 61 - (j + 1) = 60 - j by omega]; exact e2.symm, ⟨⟨by rw [up_ne (Or.inr (by decide))]; exact hR4.1.1, hR4.1.2⟩, ⟨by rw [up_ne (Or.inr (by decide))]; exact hR4.2.1.1, hR4.2.1.2⟩, fun k hk => by rw [up_na (by decide)]; exact hR4.2.2.1 k hk, fun k hk => by rw [up_na (by decide)]; exact hR4.2.2.2 k hk⟩, up_same .., xFq_t (xFq_t hFq hF3) ⟨fun e h1 _ _ => up_na h1, fun i h1 _ _ => up_ne (Or.inr h1)⟩⟩)
        · have g96 := xf_ne h96
          refine xS.s1 rfl rfl ?_
          try dsimp only [Nat.reduceAdd, xi_0]
          refine xS.ret rfl rfl rfl (fun _ _ => rfl) ?_
          obtain ⟨e, he⟩ := xb1_0 g96
          obtain ⟨q1, q2, q3⟩ := hb3 e he
          have e1 := q3 (60 - j)
          rw [show 60 - j + 1 = 61 - j by omega, hq2] at e1
          rw [e1]
          exact ⟨g3, rfl, xFp_t hFF (xFq_p (xFq_t hFq hF3)), rfl, fun d hd => by cases hd; exact ⟨q1, q2⟩, fun z => by cases z⟩
  · have g37 := xf_ne h37
    refine xS.s1 rfl rfl ?_
    try dsimp only [Nat.reduceAdd, xi_0]
    refine xS.ret rfl rfl rfl (fun _ _ => rfl) ?_
    obtain ⟨e, he⟩ := xb1_0 g37
    obtain ⟨q1, q2, q3⟩ := hbh e he
    rw [← hRR, q1]
    exact ⟨g1, rfl, xFp_t hF5 (xFh_p hFh), rfl, fun d hd => by cases hd; exact ⟨q3, q2⟩, fun z => by cases z⟩

end
end
section
/-! the reference's fault, room -/
section
variable {k a c n n2 m t p s d i1 j1 : Nat} {b : Nat × Nat} {g : Nat → Nat → Int32} {l : Nat → Nat → Int64} {i j x y z v w : Int32} {u w1 w2 : Int64}
variable {L G T κ δ o : Nat} {Lw : Nat → Nat} {f tx : Nat → Int32} {R : xPR}
set_option maxRecDepth 10000 in
theorem c_X12_fault_bad (hx : ¬ (0 ≤ x ∧ x < 4)) : xT (k + 5) 176 [.ref 73, .int x] (xH b g l) (fun r M' => M' = xH b g l ∧ r = some (.int (-1))) := by
  refine xT.of rfl (Nat.le_of_ble_eq_true rfl) ?_
  change xS _ _ 0 [(0, .ref 73), (1, .int x)] [] _ _
  refine xS.s1 rfl rfl ?_
  try dsimp only [Nat.reduceAdd]
  -- 1 yX12_isText
  refine xS.callS rfl rfl rfl ⟨Nat.le_of_ble_eq_true rfl, rfl⟩ (c_X12_isText ..) (fun v M1 hv => ?_)
  rw [hv.1, hv.2]
  clear hv M1 v
  try dsimp only [Nat.reduceAdd, Option.toList, List.cons_append, List.nil_append, List.drop]
  refine xS.br0 (c := .ne) (off := 5) (l := 3) rfl rfl (fun h4 => ?_) (fun h4 => ?_)
  · have g4 := xt_ne h4
    exact absurd (xif1 g4) hx
  · have g4 := xf_ne h4
    refine xS.s1 rfl rfl ?_
    try dsimp only [Nat.reduceAdd, xi_m1]
    refine xS.ret rfl rfl rfl (fun _ _ => rfl) ?_
    exact ⟨rfl, rfl⟩

set_option maxRecDepth 10000 in
theorem c_X12_fault_no (ht : t < 4) (hs : g 76 t = -1) : xT (k + 5) 176 [.ref 73, .int (nI t)] (xH b g l) (fun r M' => M' = xH b (xfR g 1) l ∧ r = some (.int (-3))) := by
  refine xT.of rfl (Nat.le_of_ble_eq_true rfl) ?_
  change xS _ _ 0 [(0, .ref 73), (1, .int (nI t))] [] _ _
  refine xS.s1 rfl rfl ?_
  try dsimp only [Nat.reduceAdd]
  -- 1 yX12_isText
  refine xS.callS rfl rfl rfl ⟨Nat.le_of_ble_eq_true rfl, rfl⟩ (c_X12_isText_in ht) (fun v M1 hv => ?_)
  rw [hv.1, hv.2]
  clear hv M1 v
  try dsimp only [Nat.reduceAdd, Option.toList, List.cons_append, List.nil_append, List.drop]
  refine xS.br0 (c := .ne) (off := 5) (l := 3) rfl rfl (fun h4 => ?_) (fun h4 => ?_)
  · have g4 := xt_ne h4
    refine xS.s1 rfl rfl ?_
    try dsimp only [Nat.reduceAdd]
    refine xS.gR rfl rfl rfl ⟨by decide, rfl⟩ rfl ?_
    try dsimp only [Nat.reduceAdd]
    refine xS.s1 rfl rfl ?_
    try dsimp only [Nat.reduceAdd]
    refine xS.ia rfl xar_76 (by omega) ?_
    try dsimp only [Nat.reduceAdd]
    rw [hs]
    refine xS.br0 (c := .ge) (off := 9) (l := 3) rfl rfl (fun h15 => ?_) (fun h15 => ?_)
    · have g15 := xt_ge h15
      exact absurd g15 (by decide)
    · have g15 := xf_ge h15
      refine xS.s1 rfl rfl ?_
      try dsimp only [Nat.reduceAdd]
      refine xS.s1 rfl rfl ?_
      try dsimp only [Nat.reduceAdd, xi_1]
      -- 20 yX12_finds
      refine xS.cv rfl rfl rfl rfl rfl rfl ⟨by decide, rfl, rfl⟩ (c_X12_finds (t := 1) (by decide)) (fun v M1 hv => ?_)
      rw [hv.1, hv.2]
      clear hv M1 v
      try dsimp only [Nat.reduceAdd, Option.toList, List.cons_append, List.nil_append, List.drop]
      refine xS.ret rfl rfl rfl (fun _ _ => rfl) ?_
      exact ⟨rfl, rfl⟩
  · have g4 := xf_ne h4
    exfalso; first | exact absurd g4 (by decide) | (simp (disch := omega) only [Int32.lt_iff_toInt_lt, Int32.le_iff_toInt_le, nI_toInt, Int32.reduceToInt] at g4 <;> omega)

set_option maxRecDepth 10000 in
theorem c_X12_room_bad (hx : ¬ (0 ≤ x ∧ x < 4)) : xT (k + 5) 177 [.ref 73, .int x] (xH b g l) (fun r M' => M' = xH b g l ∧ r = some (.int (-1))) := by
  refine xT.of rfl (Nat.le_of_ble_eq_true rfl) ?_
  change xS _ _ 0 [(0, .ref 73), (1, .int x)] [] _ _
  refine xS.s1 rfl rfl ?_
  try dsimp only [Nat.reduceAdd]
  -- 1 yX12_isText
  refine xS.callS rfl rfl rfl ⟨Nat.le_of_ble_eq_true rfl, rfl⟩ (c_X12_isText ..) (fun v M1 hv => ?_)
  rw [hv.1, hv.2]
  clear hv M1 v
  try dsimp only [Nat.reduceAdd, Option.toList, List.cons_append, List.nil_append, List.drop]
  refine xS.br0 (c := .ne) (off := 5) (l := 3) rfl rfl (fun h4 => ?_) (fun h4 => ?_)
  · have g4 := xt_ne h4
    exact absurd (xif1 g4) hx
  · have g4 := xf_ne h4
    refine xS.s1 rfl rfl ?_
    try dsimp only [Nat.reduceAdd, xi_m1]
    refine xS.ret rfl rfl rfl (fun _ _ => rfl) ?_
    exact ⟨rfl, rfl⟩

set_option maxRecDepth 10000 in
theorem c_X12_room_no (ht : t < 4) (hs : g 76 t = -1) : xT (k + 5) 177 [.ref 73, .int (nI t)] (xH b g l) (fun r M' => M' = xH b (xfR g 1) l ∧ r = some (.int (-3))) := by
  refine xT.of rfl (Nat.le_of_ble_eq_true rfl) ?_
  change xS _ _ 0 [(0, .ref 73), (1, .int (nI t))] [] _ _
  refine xS.s1 rfl rfl ?_
  try dsimp only [Nat.reduceAdd]
  -- 1 yX12_isText
  refine xS.callS rfl rfl rfl ⟨Nat.le_of_ble_eq_true rfl, rfl⟩ (c_X12_isText_in ht) (fun v M1 hv => ?_)
  rw [hv.1, hv.2]
  clear hv M1 v
  try dsimp only [Nat.reduceAdd, Option.toList, List.cons_append, List.nil_append, List.drop]
  refine xS.br0 (c := .ne) (off := 5) (l := 3) rfl rfl (fun h4 => ?_) (fun h4 => ?_)
  · have g4 := xt_ne h4
    refine xS.s1 rfl rfl ?_
    try dsimp only [Nat.reduceAdd]
    refine xS.gR rfl rfl rfl ⟨by decide, rfl⟩ rfl ?_
    try dsimp only [Nat.reduceAdd]
    refine xS.s1 rfl rfl ?_
    try dsimp only [Nat.reduceAdd]
    refine xS.ia rfl xar_76 (by omega) ?_
    try dsimp only [Nat.reduceAdd]
    rw [hs]
    refine xS.br0 (c := .ge) (off := 9) (l := 3) rfl rfl (fun h15 => ?_) (fun h15 => ?_)
    · have g15 := xt_ge h15
      exact absurd g15 (by decide)
    · have g15 := xf_ge h15
      refine xS.s1 rfl rfl ?_
      try dsimp only [Nat.reduceAdd]
      refine xS.s1 rfl rfl ?_
      try dsimp only [Nat.reduceAdd, xi_1]
      -- 20 yX12_finds
      refine xS.cv rfl rfl rfl rfl rfl rfl ⟨by decide, rfl, rfl⟩ (c_X12_finds (t := 1) (by decide)) (fun v M1 hv => ?_)
      rw [hv.1, hv.2]
      clear hv M1 v
      try dsimp only [Nat.reduceAdd, Option.toList, List.cons_append, List.nil_append, List.drop]
      refine xS.ret rfl rfl rfl (fun _ _ => rfl) ?_
      exact ⟨rfl, rfl⟩
  · have g4 := xf_ne h4
    exfalso; first | exact absurd g4 (by decide) | (simp (disch := omega) only [Int32.lt_iff_toInt_lt, Int32.le_iff_toInt_le, nI_toInt, Int32.reduceToInt] at g4 <;> omega)

set_option maxRecDepth 10000 in
theorem c_X12_fault_ok (ht : t < 4) (hs : g 76 t = nI n) (hn : n ≤ 60) (hfv : ∀ i, i < n → g 77 (60 * t + i) = f i) : xT (k + 5) 176 [.ref 73, .int (nI t)] (xH b g l) (fun r M' => ∃ g', M' = xH b g' l ∧ xFp g g' ∧ r = some (.int (xfI (xprs f n).1))) := by
  refine xT.of rfl (Nat.le_of_ble_eq_true rfl) ?_
  change xS _ _ 0 [(0, .ref 73), (1, .int (nI t))] [] _ _
  refine xS.s1 rfl rfl ?_
  try dsimp only [Nat.reduceAdd]
  -- 1 yX12_isText
  refine xS.callS rfl rfl rfl ⟨Nat.le_of_ble_eq_true rfl, rfl⟩ (c_X12_isText_in ht) (fun v M1 hv => ?_)
  rw [hv.1, hv.2]
  clear hv M1 v
  try dsimp only [Nat.reduceAdd, Option.toList, List.cons_append, List.nil_append, List.drop]
  refine xS.br0 (c := .ne) (off := 5) (l := 3) rfl rfl (fun h4 => ?_) (fun h4 => ?_)
  · have g4 := xt_ne h4
    refine xS.s1 rfl rfl ?_
    try dsimp only [Nat.reduceAdd]
    refine xS.gR rfl rfl rfl ⟨by decide, rfl⟩ rfl ?_
    try dsimp only [Nat.reduceAdd]
    refine xS.s1 rfl rfl ?_
    try dsimp only [Nat.reduceAdd]
    refine xS.ia rfl xar_76 (by omega) ?_
    try dsimp only [Nat.reduceAdd]
    rw [hs]
    refine xS.br0 (c := .ge) (off := 9) (l := 3) rfl rfl (fun h15 => ?_) (fun h15 => ?_)
    · have g15 := xt_ge h15
      refine xS.s1 rfl rfl ?_
      try dsimp only [Nat.reduceAdd]
      refine xS.s1 rfl rfl ?_
      try dsimp only [Nat.reduceAdd]
      -- 26 yX12_isRoom
      refine xS.cv rfl rfl rfl rfl rfl rfl ⟨by decide, rfl, rfl⟩ (c_X12_isRoom ht hs hn hfv rfl) (fun v M1 hv => ?_)
      obtain ⟨g2, rfl, hF2, rfl, hb2, hR2⟩ := hv
      try dsimp only [Nat.reduceAdd, Option.toList, List.cons_append, List.nil_append, List.drop]
      refine xS.br0 (c := .eq) (off := 8) (l := 3) rfl rfl (fun h29 => ?_) (fun h29 => ?_)
      · have g29 := xt_eq h29
        refine xS.s1 rfl rfl ?_
        try dsimp only [Nat.reduceAdd]
        refine xS.gI rfl rfl rfl ⟨by decide, rfl⟩ rfl ?_
        try dsimp only [Nat.reduceAdd]
        refine xS.ret rfl rfl rfl (fun _ _ => rfl) ?_
        obtain ⟨e, he⟩ := xb1_0 g29
        exact ⟨g2, rfl, hF2, by rw [he, (hb2 e he).2]; rfl⟩
      · have g29 := xf_eq h29
        refine xS.s1 rfl rfl ?_
        try dsimp only [Nat.reduceAdd, xj_m9]
        refine xS.s1 rfl rfl ?_
        try dsimp only [Nat.reduceAdd]
        refine xS.ret rfl rfl rfl (fun _ _ => rfl) ?_
        have on := xb1_1 g29
        exact ⟨g2, rfl, hF2, by rw [on]; rfl⟩
    · have g15 := xf_ge h15
      exact absurd g15 (nI_pos (by omega))
  · have g4 := xf_ne h4
    exfalso; first | exact absurd g4 (by decide) | (simp (disch := omega) only [Int32.lt_iff_toInt_lt, Int32.le_iff_toInt_le, nI_toInt, Int32.reduceToInt] at g4 <;> omega)

set_option maxRecDepth 10000 in
theorem c_X12_room_st (ht : t < 4) (hs : g 76 t = nI n) (hn : n ≤ 60) (hfv : ∀ i, i < n → g 77 (60 * t + i) = f i) (hR : (xprs f n).1 ≠ none) : xT (k + 5) 177 [.ref 73, .int (nI t)] (xH b g l) (fun r M' => ∃ g', M' = xH b g' l ∧ xFp g g' ∧ r = some (.int (-4))) := by
  refine xT.of rfl (Nat.le_of_ble_eq_true rfl) ?_
  change xS _ _ 0 [(0, .ref 73), (1, .int (nI t))] [] _ _
  refine xS.s1 rfl rfl ?_
  try dsimp only [Nat.reduceAdd]
  -- 1 yX12_isText
  refine xS.callS rfl rfl rfl ⟨Nat.le_of_ble_eq_true rfl, rfl⟩ (c_X12_isText_in ht) (fun v M1 hv => ?_)
  rw [hv.1, hv.2]
  clear hv M1 v
  try dsimp only [Nat.reduceAdd, Option.toList, List.cons_append, List.nil_append, List.drop]
  refine xS.br0 (c := .ne) (off := 5) (l := 3) rfl rfl (fun h4 => ?_) (fun h4 => ?_)
  · have g4 := xt_ne h4
    refine xS.s1 rfl rfl ?_
    try dsimp only [Nat.reduceAdd]
    refine xS.gR rfl rfl rfl ⟨by decide, rfl⟩ rfl ?_
    try dsimp only [Nat.reduceAdd]
    refine xS.s1 rfl rfl ?_
    try dsimp only [Nat.reduceAdd]
    refine xS.ia rfl xar_76 (by omega) ?_
    try dsimp only [Nat.reduceAdd]
    rw [hs]
    refine xS.br0 (c := .ge) (off := 9) (l := 3) rfl rfl (fun h15 => ?_) (fun h15 => ?_)
    · have g15 := xt_ge h15
      refine xS.s1 rfl rfl ?_
      try dsimp only [Nat.reduceAdd]
      refine xS.s1 rfl rfl ?_
      try dsimp only [Nat.reduceAdd]
      -- 26 yX12_isRoom
      refine xS.cv rfl rfl rfl rfl rfl rfl ⟨by decide, rfl, rfl⟩ (c_X12_isRoom ht hs hn hfv rfl) (fun v M1 hv => ?_)
      obtain ⟨g2, rfl, hF2, rfl, hb2, hR2⟩ := hv
      try dsimp only [Nat.reduceAdd, Option.toList, List.cons_append, List.nil_append, List.drop]
      refine xS.br0 (c := .ne) (off := 6) (l := 3) rfl rfl (fun h29 => ?_) (fun h29 => ?_)
      · have g29 := xt_ne h29
        exact absurd (xb1_1 g29) hR
      · have g29 := xf_ne h29
        refine xS.s1 rfl rfl ?_
        try dsimp only [Nat.reduceAdd, xj_m4]
        refine xS.ret rfl rfl rfl (fun _ _ => rfl) ?_
        exact ⟨g2, rfl, hF2, rfl⟩
    · have g15 := xf_ge h15
      exact absurd g15 (nI_pos (by omega))
  · have g4 := xf_ne h4
    exfalso; first | exact absurd g4 (by decide) | (simp (disch := omega) only [Int32.lt_iff_toInt_lt, Int32.le_iff_toInt_le, nI_toInt, Int32.reduceToInt] at g4 <;> omega)

set_option maxRecDepth 10000 in
theorem c_X12_room_ok (ht : t < 4) (hs : g 76 t = nI n) (hn : n ≤ 60) (hfv : ∀ i, i < n → g 77 (60 * t + i) = f i) (hRR : xprs f n = (none, G, T, Lw, tx)) : xT (k + 5) 177 [.ref 73, .int (nI t)] (xH b g l) (fun r M' => ∃ g2, M' = xH b (gset (gset (gset (gset (up (up (up g2 73 10 (nI G)) 73 12 (nI T)) 73 14 0) 81 6 (g2 78)) 82 (2 * G) (g2 79)) 83 (2 * T) (g2 80)) 86 3 (fun _ => -1)) l ∧ xFp g g2 ∧ r = some (.int (nI G)) ∧ xRw g2 G T Lw tx ∧ ∀ s, s < 6 → g2 78 s = nI (xfv (f (xab f n 0 + 1 + s))) ∧ xfv (f (xab f n 0 + 1 + s)) < 6) := by
  refine xT.of rfl (Nat.le_of_ble_eq_true rfl) ?_
  change xS _ _ 0 [(0, .ref 73), (1, .int (nI t))] [] _ _
  refine xS.s1 rfl rfl ?_
  try dsimp only [Nat.reduceAdd]
  -- 1 yX12_isText
  refine xS.callS rfl rfl rfl ⟨Nat.le_of_ble_eq_true rfl, rfl⟩ (c_X12_isText_in ht) (fun v M1 hv => ?_)
  rw [hv.1, hv.2]
  clear hv M1 v
  try dsimp only [Nat.reduceAdd, Option.toList, List.cons_append, List.nil_append, List.drop]
  refine xS.br0 (c := .ne) (off := 5) (l := 3) rfl rfl (fun h4 => ?_) (fun h4 => ?_)
  · have g4 := xt_ne h4
    refine xS.s1 rfl rfl ?_
    try dsimp only [Nat.reduceAdd]
    refine xS.gR rfl rfl rfl ⟨by decide, rfl⟩ rfl ?_
    try dsimp only [Nat.reduceAdd]
    refine xS.s1 rfl rfl ?_
    try dsimp only [Nat.reduceAdd]
    refine xS.ia rfl xar_76 (by omega) ?_
    try dsimp only [Nat.reduceAdd]
    rw [hs]
    refine xS.br0 (c := .ge) (off := 9) (l := 3) rfl rfl (fun h15 => ?_) (fun h15 => ?_)
    · have g15 := xt_ge h15
      refine xS.s1 rfl rfl ?_
      try dsimp only [Nat.reduceAdd]
      refine xS.s1 rfl rfl ?_
      try dsimp only [Nat.reduceAdd]
      -- 26 yX12_isRoom
      refine xS.cv rfl rfl rfl rfl rfl rfl ⟨by decide, rfl, rfl⟩ (c_X12_isRoom ht hs hn hfv hRR) (fun v M1 hv => ?_)
      obtain ⟨g2, rfl, hF2, rfl, hb2, hR2⟩ := hv
      obtain ⟨hRw, hH2⟩ := hR2 rfl
      dsimp only at hRw
      have hG6 := hRw.1.2
      have hT8 := hRw.2.1.2
      clear hb2 hR2
      show xS _ _ _ _ [.int 1] _ _
      try dsimp only [Nat.reduceAdd, Option.toList, List.cons_append, List.nil_append, List.drop]
      refine xS.br0 (c := .ne) (off := 6) (l := 3) rfl rfl (fun h29 => ?_) (fun h29 => ?_)
      · have g29 := xt_ne h29
        refine xS.s1 rfl rfl ?_
        try dsimp only [Nat.reduceAdd]
        refine xS.s1 rfl rfl ?_
        try dsimp only [Nat.reduceAdd]
        refine xS.gI rfl rfl rfl ⟨by decide, rfl⟩ rfl ?_
        try dsimp only [Nat.reduceAdd]
        rw [hRw.1.1]
        refine xS.pI rfl rfl rfl ⟨⟨by decide, rfl⟩, rfl, by decide, by decide⟩ rfl ?_
        try dsimp only [Nat.reduceAdd]
        refine xS.s1 rfl rfl ?_
        try dsimp only [Nat.reduceAdd]
        refine xS.s1 rfl rfl ?_
        try dsimp only [Nat.reduceAdd]
        refine xS.gI rfl rfl rfl ⟨by decide, rfl⟩ rfl ?_
        try dsimp only [Nat.reduceAdd]
        rw [up_ne (Or.inr (by decide)), hRw.2.1.1]
        refine xS.pI rfl rfl rfl ⟨⟨by decide, rfl⟩, rfl, by decide, by decide⟩ rfl ?_
        try dsimp only [Nat.reduceAdd]
        refine xS.s1 rfl rfl ?_
        try dsimp only [Nat.reduceAdd]
        refine xS.s1 rfl rfl ?_
        try dsimp only [Nat.reduceAdd, xi_0]
        refine xS.pI rfl rfl rfl ⟨⟨by decide, rfl⟩, rfl, by decide, by decide⟩ rfl ?_
        try dsimp only [Nat.reduceAdd]
        refine xS.s1 rfl rfl ?_
        try dsimp only [Nat.reduceAdd, xi_0]
        refine xS.s1 rfl rfl ?_
        try dsimp only [Nat.reduceAdd]
        refine xS.pick [0, 1] rfl ?_
        refine xS.loop (σ := Unit) (6) (fun j S => [(2, .int (nI j)), (0, .ref 73)]) (fun j _ => xH b (gset (up (up (up g2 73 10 (nI G)) 73 12 (nI T)) 73 14 0) 81 j (g2 78)) l) (fun _ _ => True) (()) (rfl) (by rw [gset_0]) (trivial) ?_
        intro j S hj hI ih
        try dsimp only
        refine xS.s1 rfl rfl ?_
        try dsimp only [Nat.reduceAdd]
        refine xS.s1 rfl rfl ?_
        try dsimp only [Nat.reduceAdd, xj_6]
        refine xS.br (c := .ge) (off := 21) (l := 3) rfl rfl (fun h61 => ?_) (fun h61 => ?_)
        · have g61 := xt_ge h61
          have hjx := xnle (b := 6) g61 (by omega) (by omega)
          obtain rfl : j = 6 := by omega
          refine xS.s1 rfl rfl ?_
          try dsimp only [Nat.reduceAdd, xi_0]
          refine xS.s1 rfl rfl ?_
          try dsimp only [Nat.reduceAdd]
          refine xS.pick [0, 1] rfl ?_
          refine xS.loop (σ := Unit) (2 * G) (fun j S => [(2, .int (nI j)), (0, .ref 73)]) (fun j _ => xH b (gset (gset (up (up (up g2 73 10 (nI G)) 73 12 (nI T)) 73 14 0) 81 6 (g2 78)) 82 j (g2 79)) l) (fun _ _ => True) (()) (rfl) (by rw [gset_0]) (trivial) ?_
          intro j S hj hI ih
          try dsimp only
          refine xS.s1 rfl rfl ?_
          try dsimp only [Nat.reduceAdd]
          refine xS.s1 rfl rfl ?_
          try dsimp only [Nat.reduceAdd, xi_2]
          refine xS.s1 rfl rfl ?_
          try dsimp only [Nat.reduceAdd]
          refine xS.gI rfl rfl rfl ⟨by decide, rfl⟩ rfl ?_
          try dsimp only [Nat.reduceAdd]
          rw [gset_na (by decide), gset_na (by decide), up_ne (Or.inr (by decide)), up_ne (Or.inr (by decide)), up_same]
          refine xS.s1 rfl rfl ?_
          try dsimp only [Nat.reduceAdd]
          rw [show (2 * nI G : Int32) = nI (2 * G) from pk_mul 2 G]
          refine xS.br (c := .ge) (off := 21) (l := 3) rfl rfl (fun h91 => ?_) (fun h91 => ?_)
          · have g91 := xt_ge h91
            have hjx := xnle (b := 2 * G) g91 (by omega) (by omega)
            obtain rfl : j = 2 * G := by omega
            refine xS.s1 rfl rfl ?_
            try dsimp only [Nat.reduceAdd, xi_0]
            refine xS.s1 rfl rfl ?_
            try dsimp only [Nat.reduceAdd]
            refine xS.pick [0, 1] rfl ?_
            refine xS.loop (σ := Unit) (2 * T) (fun j S => [(2, .int (nI j)), (0, .ref 73)]) (fun j _ => xH b (gset (gset (gset (up (up (up g2 73 10 (nI G)) 73 12 (nI T)) 73 14 0) 81 6 (g2 78)) 82 (2 * G) (g2 79)) 83 j (g2 80)) l) (fun _ _ => True) (()) (rfl) (by rw [gset_0]) (trivial) ?_
            intro j S hj hI ih
            try dsimp only
            refine xS.s1 rfl rfl ?_
            try dsimp only [Nat.reduceAdd]
            refine xS.s1 rfl rfl ?_
            try dsimp only [Nat.reduceAdd, xi_2]
            refine xS.s1 rfl rfl ?_
            try dsimp only [Nat.reduceAdd]
            refine xS.gI rfl rfl rfl ⟨by decide, rfl⟩ rfl ?_
            try dsimp only [Nat.reduceAdd]
            rw [gset_na (by decide), gset_na (by decide), gset_na (by decide), up_ne (Or.inr (by decide)), up_same]
            refine xS.s1 rfl rfl ?_
            try dsimp only [Nat.reduceAdd]
            rw [show (2 * nI T : Int32) = nI (2 * T) from pk_mul 2 T]
            refine xS.br (c := .ge) (off := 21) (l := 3) rfl rfl (fun h121 => ?_) (fun h121 => ?_)
            · have g121 := xt_ge h121
              have hjx := xnle (b := 2 * T) g121 (by omega) (by omega)
              obtain rfl : j = 2 * T := by omega
              refine xS.s1 rfl rfl ?_
              try dsimp only [Nat.reduceAdd, xi_0]
              refine xS.s1 rfl rfl ?_
              try dsimp only [Nat.reduceAdd]
              refine xS.pick [0, 1] rfl ?_
              refine xS.loop (σ := Unit) (3) (fun j S => [(2, .int (nI j)), (0, .ref 73)]) (fun j _ => xH b (gset (gset (gset (gset (up (up (up g2 73 10 (nI G)) 73 12 (nI T)) 73 14 0) 81 6 (g2 78)) 82 (2 * G) (g2 79)) 83 (2 * T) (g2 80)) 86 j (fun _ => -1)) l) (fun _ _ => True) (()) (rfl) (by rw [gset_0]) (trivial) ?_
              intro j S hj hI ih
              try dsimp only
              refine xS.s1 rfl rfl ?_
              try dsimp only [Nat.reduceAdd]
              refine xS.s1 rfl rfl ?_
              try dsimp only [Nat.reduceAdd, xi_3]
              refine xS.br (c := .ge) (off := 16) (l := 3) rfl rfl (fun h146 => ?_) (fun h146 => ?_)
              · have g146 := xt_ge h146
                have hjx := xnle (b := 3) g146 (by omega) (by omega)
                obtain rfl : j = 3 := by omega
                refine xS.s1 rfl rfl ?_
                try dsimp only [Nat.reduceAdd]
                refine xS.gI rfl rfl rfl ⟨by decide, rfl⟩ rfl ?_
                try dsimp only [Nat.reduceAdd]
                rw [gset_na (by decide), gset_na (by decide), gset_na (by decide), gset_na (by decide), up_ne (Or.inr (by decide)), up_ne (Or.inr (by decide)), up_same]
                refine xS.ret rfl rfl rfl (fun _ _ => rfl) ?_
                exact ⟨g2, rfl, hF2, rfl, hRw, hH2⟩
              · have g146 := xf_ge h146
                have hjl := xnlt (b := 3) g146 (by omega) (by omega)
                refine xS.s1 rfl rfl ?_
                try dsimp only [Nat.reduceAdd]
                refine xS.gR rfl rfl rfl ⟨by decide, rfl⟩ rfl ?_
                try dsimp only [Nat.reduceAdd]
                refine xS.s1 rfl rfl ?_
                try dsimp only [Nat.reduceAdd]
                refine xS.s1 rfl rfl ?_
                try dsimp only [Nat.reduceAdd, xi_m1]
                refine xS.ias rfl xar_86 (by omega) ?_
                try dsimp only [Nat.reduceAdd]
                refine xS.s1 rfl rfl ?_
                try dsimp only [Nat.reduceAdd, xi_1]
                rw [nI_1]
                refine xS.s1 rfl rfl ?_
                try dsimp only [Nat.reduceAdd]
                refine xS.pick [0, 1] rfl ?_
                have ih2 := ih () (by omega) trivial
                rw [← gset_s] at ih2
                exact ih2
            · have g121 := xf_ge h121
              have hjl := xnlt (b := 2 * T) g121 (by omega) (by omega)
              refine xS.s1 rfl rfl ?_
              try dsimp only [Nat.reduceAdd]
              refine xS.gR rfl rfl rfl ⟨by decide, rfl⟩ rfl ?_
              try dsimp only [Nat.reduceAdd]
              refine xS.s1 rfl rfl ?_
              try dsimp only [Nat.reduceAdd]
              refine xS.s1 rfl rfl ?_
              try dsimp only [Nat.reduceAdd]
              refine xS.gR rfl rfl rfl ⟨by decide, rfl⟩ rfl ?_
              try dsimp only [Nat.reduceAdd]
              refine xS.s1 rfl rfl ?_
              try dsimp only [Nat.reduceAdd]
              refine xS.ia rfl xar_80 (by omega) ?_
              try dsimp only [Nat.reduceAdd]
              rw [gset_na (by decide), gset_na (by decide), gset_na (by decide), up_na (by decide), up_na (by decide), up_na (by decide)]
              refine xS.ias rfl xar_83 (by omega) ?_
              try dsimp only [Nat.reduceAdd]
              refine xS.s1 rfl rfl ?_
              try dsimp only [Nat.reduceAdd, xi_1]
              rw [nI_1]
              refine xS.s1 rfl rfl ?_
              try dsimp only [Nat.reduceAdd]
              refine xS.pick [0, 1] rfl ?_
              have ih2 := ih () (by omega) trivial
              rw [← gset_s] at ih2
              exact ih2
          · have g91 := xf_ge h91
            have hjl := xnlt (b := 2 * G) g91 (by omega) (by omega)
            refine xS.s1 rfl rfl ?_
            try dsimp only [Nat.reduceAdd]
            refine xS.gR rfl rfl rfl ⟨by decide, rfl⟩ rfl ?_
            try dsimp only [Nat.reduceAdd]
            refine xS.s1 rfl rfl ?_
            try dsimp only [Nat.reduceAdd]
            refine xS.s1 rfl rfl ?_
            try dsimp only [Nat.reduceAdd]
            refine xS.gR rfl rfl rfl ⟨by decide, rfl⟩ rfl ?_
            try dsimp only [Nat.reduceAdd]
            refine xS.s1 rfl rfl ?_
            try dsimp only [Nat.reduceAdd]
            refine xS.ia rfl xar_79 (by omega) ?_
            try dsimp only [Nat.reduceAdd]
            rw [gset_na (by decide), gset_na (by decide), up_na (by decide), up_na (by decide), up_na (by decide)]
            refine xS.ias rfl xar_82 (by omega) ?_
            try dsimp only [Nat.reduceAdd]
            refine xS.s1 rfl rfl ?_
            try dsimp only [Nat.reduceAdd, xi_1]
            rw [nI_1]
            refine xS.s1 rfl rfl ?_
            try dsimp only [Nat.reduceAdd]
            refine xS.pick [0, 1] rfl ?_
            have ih2 := ih () (by omega) trivial
            rw [← gset_s] at ih2
            exact ih2
        · have g61 := xf_ge h61
          have hjl := xnlt (b := 6) g61 (by omega) (by omega)
          refine xS.s1 rfl rfl ?_
          try dsimp only [Nat.reduceAdd]
          refine xS.gR rfl rfl rfl ⟨by decide, rfl⟩ rfl ?_
          try dsimp only [Nat.reduceAdd]
          refine xS.s1 rfl rfl ?_
          try dsimp only [Nat.reduceAdd]
          refine xS.s1 rfl rfl ?_
          try dsimp only [Nat.reduceAdd]
          refine xS.gR rfl rfl rfl ⟨by decide, rfl⟩ rfl ?_
          try dsimp only [Nat.reduceAdd]
          refine xS.s1 rfl rfl ?_
          try dsimp only [Nat.reduceAdd]
          refine xS.ia rfl xar_78 (by omega) ?_
          try dsimp only [Nat.reduceAdd]
          rw [gset_na (by decide), up_na (by decide), up_na (by decide), up_na (by decide)]
          refine xS.ias rfl xar_81 (by omega) ?_
          try dsimp only [Nat.reduceAdd]
          refine xS.s1 rfl rfl ?_
          try dsimp only [Nat.reduceAdd, xi_1]
          rw [nI_1]
          refine xS.s1 rfl rfl ?_
          try dsimp only [Nat.reduceAdd]
          refine xS.pick [0, 1] rfl ?_
          have ih2 := ih () (by omega) trivial
          rw [← gset_s] at ih2
          exact ih2
      · have g29 := xf_ne h29
        exact absurd g29 (by decide)
    · have g15 := xf_ge h15
      exact absurd g15 (nI_pos (by omega))
  · have g4 := xf_ne h4
    exfalso; first | exact absurd g4 (by decide) | (simp (disch := omega) only [Int32.lt_iff_toInt_lt, Int32.le_iff_toInt_le, nI_toInt, Int32.reduceToInt] at g4 <;> omega)

end
end
section
/-! LimpMirror$Chains: words -/
def xbk (tx : Nat → Int32) (T s : Nat) (v : Int32) : Bool := !decide (xfb tx T (nI s) v = none)
theorem xbk_t {tx : Nat → Int32} {T s : Nat} {v : Int32} (h : ¬ (if xfb tx T (nI s) v = none then (0 : Int32) else 1) = 0) : xbk tx T s v = true := by
  unfold xbk
  by_cases e : xfb tx T (nI s) v = none
  · rw [if_pos e] at h
    exact absurd rfl h
  · simp [e]
theorem xbk_f {tx : Nat → Int32} {T s : Nat} {v : Int32} (h : (if xfb tx T (nI s) v = none then (0 : Int32) else 1) = 0) : xbk tx T s v = false := by
  unfold xbk
  by_cases e : xfb tx T (nI s) v = none
  · simp [e]
  · rw [if_neg e] at h
    exact absurd h (by decide)
def xhb (h tx : Nat → Int32) (T κ δ p s : Nat) : Bool := xhd κ δ p && xbk tx T s (if xsrc κ δ p = none then 0 else xseen h κ p s)
def xsmn (p : Nat → Bool) (v : Nat → Nat) (n : Nat) : Nat := Nat.rec (motive := fun _ => Nat) 0 (fun t c => bif p t then c + v t else c) n
theorem xsmn_s (p : Nat → Bool) (v : Nat → Nat) (n : Nat) : xsmn p v (n + 1) = bif p n then xsmn p v n + v n else xsmn p v n := rfl
def xmnn (p : Nat → Bool) (v : Nat → Nat) (n : Nat) : Nat := Nat.rec (motive := fun _ => Nat) 1000 (fun t c => bif p t then min c (v t) else c) n
theorem xmnn_s (p : Nat → Bool) (v : Nat → Nat) (n : Nat) : xmnn p v (n + 1) = bif p n then min (xmnn p v n) (v n) else xmnn p v n := rfl
theorem xsmn_le {p : Nat → Bool} {v : Nat → Nat} {B : Nat} : ∀ n, (∀ t, t < n → v t ≤ B) → xsmn p v n ≤ n * B
  | 0, _ => Nat.zero_le _
  | n + 1, h => by
    have h1 := xsmn_le n (fun t ht => h t (by omega)) (p := p)
    have h2 := h n (by omega)
    rw [xsmn_s, Nat.succ_mul]
    cases p n
    · show xsmn p v n ≤ _
      omega
    · show xsmn p v n + v n ≤ _
      omega
theorem xmnn_le {p : Nat → Bool} {v : Nat → Nat} : ∀ n, xmnn p v n ≤ 1000
  | 0 => Nat.le_refl _
  | n + 1 => by
    have h1 := xmnn_le n (p := p) (v := v)
    rw [xmnn_s]
    cases p n
    · exact h1
    · show min _ _ ≤ _
      omega
def xWv (hb : Bool) (w : Nat) : Nat := bif hb then 0 else w
def xZv (W s z : Nat) : Nat := if W = 0 then 1000 else z + (if s = 0 then 1 else 0)
def xok (h tx : Nat → Int32) (T κ q s : Nat) : Nat → Bool := fun t => !xbk tx T t (xseen h κ q s)
def xwo (h tx : Nat → Int32) (T κ : Nat) (A : Nat → Nat → Nat) (o : Option Nat) (s : Nat) : Nat := match o with
  | none => 1
  | some q => xsmn (xok h tx T κ q s) (A q) 6
def xzo (h tx : Nat → Int32) (T κ : Nat) (Z : Nat → Nat → Nat) (o : Option Nat) (s : Nat) : Nat := match o with
  | none => 0
  | some q => xmnn (xok h tx T κ q s) (Z q) 6

section
variable {k a c n n2 m t p s d i1 j1 : Nat} {b : Nat × Nat} {g : Nat → Nat → Int32} {l : Nat → Nat → Int64} {i j x y z v w : Int32} {u w1 w2 : Int64}
variable {L G T q1 : Nat} {Lw A0 Z0 : Nat → Nat} {A Z : Nat → Nat → Nat}
set_option maxRecDepth 10000 in
theorem c_X1_weighStep_none (hC : xro a) (hp : xpn g) (hL : L < 24) (hT : g a 4 = nI T) (hT8 : T ≤ 8) (hp5 : p < 5) (hs6 : s < 6) : xT (k + 5) 19 [.ref 19, .ref a, .ref (43 + L), .int (nI p), .int (-1), .int (nI s)] (xH b g l) (fun r M' => M' = xH b (up (up g 20 (p * 6 + s) (nI (xWv (xhb (g (a + 1)) (g (a + 3)) T (L / 4) (L % 4) p s) 1))) 21 (p * 6 + s) (nI (xZv (xWv (xhb (g (a + 1)) (g (a + 3)) T (L / 4) (L % 4) p s) 1) s 0))) l ∧ r = none) := by
  refine xT.of rfl (Nat.le_of_ble_eq_true rfl) ?_
  change xS _ _ 0 [(0, .ref 19), (1, .ref a), (2, .ref (43 + L)), (3, .int (nI p)), (4, .int (-1)), (5, .int (nI s))] [] _ _
  refine xS.s1 rfl rfl ?_
  try dsimp only [Nat.reduceAdd]
  refine xS.s1 rfl rfl ?_
  try dsimp only [Nat.reduceAdd, xi_m1]
  refine xS.br (c := .ne) (off := 7) (l := 3) rfl rfl (fun h3 => ?_) (fun h3 => ?_)
  · have g3 := xt_ne h3
    exfalso; first | exact absurd g3 (by decide) | (simp (disch := omega) only [Int32.lt_iff_toInt_lt, Int32.le_iff_toInt_le, nI_toInt, Int32.reduceToInt] at g3 <;> omega)
  · have g3 := xf_ne h3
    refine xS.s1 rfl rfl ?_
    try dsimp only [Nat.reduceAdd, xi_1]
    refine xS.s1 rfl rfl ?_
    try dsimp only [Nat.reduceAdd]
    refine xS.s1 rfl rfl ?_
    try dsimp only [Nat.reduceAdd]
    refine xS.s1 rfl rfl ?_
    try dsimp only [Nat.reduceAdd]
    refine xS.s1 rfl rfl ?_
    try dsimp only [Nat.reduceAdd, xi_m1]
    refine xS.br (c := .ne) (off := 7) (l := 3) rfl rfl (fun h16 => ?_) (fun h16 => ?_)
    · have g16 := xt_ne h16
      exfalso; first | exact absurd g16 (by decide) | (simp (disch := omega) only [Int32.lt_iff_toInt_lt, Int32.le_iff_toInt_le, nI_toInt, Int32.reduceToInt] at g16 <;> omega)
    · have g16 := xf_ne h16
      refine xS.s1 rfl rfl ?_
      try dsimp only [Nat.reduceAdd, xi_0]
      refine xS.s1 rfl rfl ?_
      try dsimp only [Nat.reduceAdd]
      refine xS.s1 rfl rfl ?_
      try dsimp only [Nat.reduceAdd]
      refine xS.s1 rfl rfl ?_
      try dsimp only [Nat.reduceAdd]
      refine xS.s1 rfl rfl ?_
      try dsimp only [Nat.reduceAdd, xi_m1]
      refine xS.br (c := .eq) (off := 79) (l := 3) rfl rfl (fun h31 => ?_) (fun h31 => ?_)
      · have g31 := xt_eq h31
        refine xS.s1 rfl rfl ?_
        try dsimp only [Nat.reduceAdd]
        refine xS.s1 rfl rfl ?_
        try dsimp only [Nat.reduceAdd]
        -- 112 yX1_isHead
        refine xS.callS rfl rfl rfl ⟨Nat.le_of_ble_eq_true rfl, rfl⟩ (c_X1_isHead hp hL (by omega)) (fun v M1 hv => ?_)
        rw [hv.1, hv.2]
        clear hv M1 v
        try dsimp only [Nat.reduceAdd, Option.toList, List.cons_append, List.nil_append, List.drop]
        refine xS.br0 (c := .eq) (off := 23) (l := 3) rfl rfl (fun h115 => ?_) (fun h115 => ?_)
        · have g115 := xt_eq h115
          refine xS.s1 rfl rfl ?_
          try dsimp only [Nat.reduceAdd]
          refine xS.gR rfl rfl rfl ⟨by decide, rfl⟩ rfl ?_
          try dsimp only [Nat.reduceAdd]
          refine xS.s1 rfl rfl ?_
          try dsimp only [Nat.reduceAdd]
          refine xS.s1 rfl rfl ?_
          try dsimp only [Nat.reduceAdd, xj_6]
          refine xS.s1 rfl rfl ?_
          try dsimp only [Nat.reduceAdd]
          refine xS.s1 rfl rfl ?_
          try dsimp only [Nat.reduceAdd]
          refine xS.s1 rfl rfl ?_
          try dsimp only [Nat.reduceAdd]
          refine xS.s1 rfl rfl ?_
          try dsimp only [Nat.reduceAdd]
          rw [show (((nI p * 6) + nI s) : Int32) = nI ((p * 6) + s) from by simp only [← nI_add, ← pk_mul] <;> rfl]
          refine xS.ias rfl xar_20 (by omega) ?_
          try dsimp only [Nat.reduceAdd]
          refine xS.s1 rfl rfl ?_
          try dsimp only [Nat.reduceAdd]
          refine xS.gR rfl rfl rfl ⟨by decide, rfl⟩ rfl ?_
          try dsimp only [Nat.reduceAdd]
          refine xS.s1 rfl rfl ?_
          try dsimp only [Nat.reduceAdd]
          refine xS.s1 rfl rfl ?_
          try dsimp only [Nat.reduceAdd, xj_6]
          refine xS.s1 rfl rfl ?_
          try dsimp only [Nat.reduceAdd]
          refine xS.s1 rfl rfl ?_
          try dsimp only [Nat.reduceAdd]
          refine xS.s1 rfl rfl ?_
          try dsimp only [Nat.reduceAdd]
          refine xS.s1 rfl rfl ?_
          try dsimp only [Nat.reduceAdd]
          refine xS.br0 (c := .ne) (off := 9) (l := 3) rfl rfl (fun h165 => ?_) (fun h165 => ?_)
          · have g165 := xt_ne h165
            refine xS.s1 rfl rfl ?_
            try dsimp only [Nat.reduceAdd]
            refine xS.s1 rfl rfl ?_
            try dsimp only [Nat.reduceAdd]
            refine xS.br0 (c := .ne) (off := 7) (l := 3) rfl rfl (fun h178 => ?_) (fun h178 => ?_)
            · have g178 := xt_ne h178
              refine xS.s1 rfl rfl ?_
              try dsimp only [Nat.reduceAdd, xi_0]
              refine xS.s1 rfl rfl ?_
              try dsimp only [Nat.reduceAdd]
              rw [show (0 + 0 : Int32) = nI (0 + 0) from nI_add _ _]
              rw [show (((nI p * 6) + nI s) : Int32) = nI ((p * 6) + s) from by simp only [← nI_add, ← pk_mul] <;> rfl]
              refine xS.ias rfl xar_21 (by omega) ?_
              try dsimp only [Nat.reduceAdd]
              refine xS.ret rfl rfl rfl (fun _ _ => rfl) ?_
              have hb0 : (xhb (g (a + 1)) (g (a + 3)) T (L / 4) (L % 4) p s) = false := by unfold xhb; rw [show xhd (L / 4) (L % 4) p = false from by cases e : xhd (L / 4) (L % 4) p; (rfl); (rw [e] at g115; exact absurd g115 (by decide))]; rfl
              have e1 : (xWv (xhb (g (a + 1)) (g (a + 3)) T (L / 4) (L % 4) p s) 1) = 1 := by unfold xWv; rw [hb0]; rfl
              have e0 : ¬ 1 = 0 := by decide
              have e2 : (xZv (xWv (xhb (g (a + 1)) (g (a + 3)) T (L / 4) (L % 4) p s) 1) s 0) = 0 + 0 := by unfold xZv; rw [e1, if_neg e0, if_neg (fun z => g178 (by rw [z]; rfl))]
              rw [e2, e1]
              exact ⟨rfl, rfl⟩
            · have g178 := xf_ne h178
              refine xS.s1 rfl rfl ?_
              try dsimp only [Nat.reduceAdd, xi_1]
              refine xS.s1 rfl rfl ?_
              try dsimp only [Nat.reduceAdd]
              refine xS.s1 rfl rfl ?_
              try dsimp only [Nat.reduceAdd]
              rw [show (0 + 1 : Int32) = nI (0 + 1) from nI_add _ _]
              rw [show (((nI p * 6) + nI s) : Int32) = nI ((p * 6) + s) from by simp only [← nI_add, ← pk_mul] <;> rfl]
              refine xS.ias rfl xar_21 (by omega) ?_
              try dsimp only [Nat.reduceAdd]
              refine xS.ret rfl rfl rfl (fun _ _ => rfl) ?_
              have hb0 : (xhb (g (a + 1)) (g (a + 3)) T (L / 4) (L % 4) p s) = false := by unfold xhb; rw [show xhd (L / 4) (L % 4) p = false from by cases e : xhd (L / 4) (L % 4) p; (rfl); (rw [e] at g115; exact absurd g115 (by decide))]; rfl
              have e1 : (xWv (xhb (g (a + 1)) (g (a + 3)) T (L / 4) (L % 4) p s) 1) = 1 := by unfold xWv; rw [hb0]; rfl
              have e0 : ¬ 1 = 0 := by decide
              have e2 : (xZv (xWv (xhb (g (a + 1)) (g (a + 3)) T (L / 4) (L % 4) p s) 1) s 0) = 0 + 1 := by unfold xZv; rw [e1, if_neg e0, if_pos (nI_inj (b := 0) (by omega) (by omega) g178)]
              rw [e2, e1]
              exact ⟨rfl, rfl⟩
          · have g165 := xf_ne h165
            exact absurd g165 (by decide)
        · have g115 := xf_eq h115
          refine xS.s1 rfl rfl ?_
          try dsimp only [Nat.reduceAdd]
          refine xS.s1 rfl rfl ?_
          try dsimp only [Nat.reduceAdd]
          refine xS.s1 rfl rfl ?_
          try dsimp only [Nat.reduceAdd]
          refine xS.s1 rfl rfl ?_
          try dsimp only [Nat.reduceAdd]
          refine xS.s1 rfl rfl ?_
          try dsimp only [Nat.reduceAdd]
          refine xS.s1 rfl rfl ?_
          try dsimp only [Nat.reduceAdd]
          -- 126 yX1_shownAtHead
          refine xS.callS rfl rfl rfl ⟨Nat.le_of_ble_eq_true rfl, rfl⟩ (c_X1_shownAtHead hC hp hL (by omega) hs6) (fun v M1 hv => ?_)
          rw [hv.1, hv.2]
          clear hv M1 v
          try dsimp only [Nat.reduceAdd, Option.toList, List.cons_append, List.nil_append, List.drop]
          -- 129 yX8_isBroken
          refine xS.cv rfl rfl rfl (hC.1 _) rfl rfl ⟨by decide, rfl, rfl⟩ (c_X8_isBroken hC hT hT8) (fun v M1 hv => ?_)
          rw [hv.1, hv.2]
          clear hv M1 v
          try dsimp only [Nat.reduceAdd, Option.toList, List.cons_append, List.nil_append, List.drop]
          refine xS.br0 (c := .eq) (off := 6) (l := 3) rfl rfl (fun h132 => ?_) (fun h132 => ?_)
          · have g132 := xt_eq h132
            refine xS.s1 rfl rfl ?_
            try dsimp only [Nat.reduceAdd]
            refine xS.gR rfl rfl rfl ⟨by decide, rfl⟩ rfl ?_
            try dsimp only [Nat.reduceAdd]
            refine xS.s1 rfl rfl ?_
            try dsimp only [Nat.reduceAdd]
            refine xS.s1 rfl rfl ?_
            try dsimp only [Nat.reduceAdd, xj_6]
            refine xS.s1 rfl rfl ?_
            try dsimp only [Nat.reduceAdd]
            refine xS.s1 rfl rfl ?_
            try dsimp only [Nat.reduceAdd]
            refine xS.s1 rfl rfl ?_
            try dsimp only [Nat.reduceAdd]
            refine xS.s1 rfl rfl ?_
            try dsimp only [Nat.reduceAdd]
            rw [show (((nI p * 6) + nI s) : Int32) = nI ((p * 6) + s) from by simp only [← nI_add, ← pk_mul] <;> rfl]
            refine xS.ias rfl xar_20 (by omega) ?_
            try dsimp only [Nat.reduceAdd]
            refine xS.s1 rfl rfl ?_
            try dsimp only [Nat.reduceAdd]
            refine xS.gR rfl rfl rfl ⟨by decide, rfl⟩ rfl ?_
            try dsimp only [Nat.reduceAdd]
            refine xS.s1 rfl rfl ?_
            try dsimp only [Nat.reduceAdd]
            refine xS.s1 rfl rfl ?_
            try dsimp only [Nat.reduceAdd, xj_6]
            refine xS.s1 rfl rfl ?_
            try dsimp only [Nat.reduceAdd]
            refine xS.s1 rfl rfl ?_
            try dsimp only [Nat.reduceAdd]
            refine xS.s1 rfl rfl ?_
            try dsimp only [Nat.reduceAdd]
            refine xS.s1 rfl rfl ?_
            try dsimp only [Nat.reduceAdd]
            refine xS.br0 (c := .ne) (off := 9) (l := 3) rfl rfl (fun h165 => ?_) (fun h165 => ?_)
            · have g165 := xt_ne h165
              refine xS.s1 rfl rfl ?_
              try dsimp only [Nat.reduceAdd]
              refine xS.s1 rfl rfl ?_
              try dsimp only [Nat.reduceAdd]
              refine xS.br0 (c := .ne) (off := 7) (l := 3) rfl rfl (fun h178 => ?_) (fun h178 => ?_)
              · have g178 := xt_ne h178
                refine xS.s1 rfl rfl ?_
                try dsimp only [Nat.reduceAdd, xi_0]
                refine xS.s1 rfl rfl ?_
                try dsimp only [Nat.reduceAdd]
                rw [show (0 + 0 : Int32) = nI (0 + 0) from nI_add _ _]
                rw [show (((nI p * 6) + nI s) : Int32) = nI ((p * 6) + s) from by simp only [← nI_add, ← pk_mul] <;> rfl]
                refine xS.ias rfl xar_21 (by omega) ?_
                try dsimp only [Nat.reduceAdd]
                refine xS.ret rfl rfl rfl (fun _ _ => rfl) ?_
                have hb0 : (xhb (g (a + 1)) (g (a + 3)) T (L / 4) (L % 4) p s) = false := by unfold xhb; rw [xbk_f g132, Bool.and_false]
                have e1 : (xWv (xhb (g (a + 1)) (g (a + 3)) T (L / 4) (L % 4) p s) 1) = 1 := by unfold xWv; rw [hb0]; rfl
                have e0 : ¬ 1 = 0 := by decide
                have e2 : (xZv (xWv (xhb (g (a + 1)) (g (a + 3)) T (L / 4) (L % 4) p s) 1) s 0) = 0 + 0 := by unfold xZv; rw [e1, if_neg e0, if_neg (fun z => g178 (by rw [z]; rfl))]
                rw [e2, e1]
                exact ⟨rfl, rfl⟩
              · have g178 := xf_ne h178
                refine xS.s1 rfl rfl ?_
                try dsimp only [Nat.reduceAdd, xi_1]
                refine xS.s1 rfl rfl ?_
                try dsimp only [Nat.reduceAdd]
                refine xS.s1 rfl rfl ?_
                try dsimp only [Nat.reduceAdd]
                rw [show (0 + 1 : Int32) = nI (0 + 1) from nI_add _ _]
                rw [show (((nI p * 6) + nI s) : Int32) = nI ((p * 6) + s) from by simp only [← nI_add, ← pk_mul] <;> rfl]
                refine xS.ias rfl xar_21 (by omega) ?_
                try dsimp only [Nat.reduceAdd]
                refine xS.ret rfl rfl rfl (fun _ _ => rfl) ?_
                have hb0 : (xhb (g (a + 1)) (g (a + 3)) T (L / 4) (L % 4) p s) = false := by unfold xhb; rw [xbk_f g132, Bool.and_false]
                have e1 : (xWv (xhb (g (a + 1)) (g (a + 3)) T (L / 4) (L % 4) p s) 1) = 1 := by unfold xWv; rw [hb0]; rfl
                have e0 : ¬ 1 = 0 := by decide
                have e2 : (xZv (xWv (xhb (g (a + 1)) (g (a + 3)) T (L / 4) (L % 4) p s) 1) s 0) = 0 + 1 := by unfold xZv; rw [e1, if_neg e0, if_pos (nI_inj (b := 0) (by omega) (by omega) g178)]
                rw [e2, e1]
                exact ⟨rfl, rfl⟩
            · have g165 := xf_ne h165
              exact absurd g165 (by decide)
          · have g132 := xf_eq h132
            refine xS.s1 rfl rfl ?_
            try dsimp only [Nat.reduceAdd, xi_0]
            refine xS.s1 rfl rfl ?_
            try dsimp only [Nat.reduceAdd]
            refine xS.s1 rfl rfl ?_
            try dsimp only [Nat.reduceAdd]
            refine xS.gR rfl rfl rfl ⟨by decide, rfl⟩ rfl ?_
            try dsimp only [Nat.reduceAdd]
            refine xS.s1 rfl rfl ?_
            try dsimp only [Nat.reduceAdd]
            refine xS.s1 rfl rfl ?_
            try dsimp only [Nat.reduceAdd, xj_6]
            refine xS.s1 rfl rfl ?_
            try dsimp only [Nat.reduceAdd]
            refine xS.s1 rfl rfl ?_
            try dsimp only [Nat.reduceAdd]
            refine xS.s1 rfl rfl ?_
            try dsimp only [Nat.reduceAdd]
            refine xS.s1 rfl rfl ?_
            try dsimp only [Nat.reduceAdd]
            rw [show (((nI p * 6) + nI s) : Int32) = nI ((p * 6) + s) from by simp only [← nI_add, ← pk_mul] <;> rfl]
            refine xS.ias rfl xar_20 (by omega) ?_
            try dsimp only [Nat.reduceAdd]
            refine xS.s1 rfl rfl ?_
            try dsimp only [Nat.reduceAdd]
            refine xS.gR rfl rfl rfl ⟨by decide, rfl⟩ rfl ?_
            try dsimp only [Nat.reduceAdd]
            refine xS.s1 rfl rfl ?_
            try dsimp only [Nat.reduceAdd]
            refine xS.s1 rfl rfl ?_
            try dsimp only [Nat.reduceAdd, xj_6]
            refine xS.s1 rfl rfl ?_
            try dsimp only [Nat.reduceAdd]
            refine xS.s1 rfl rfl ?_
            try dsimp only [Nat.reduceAdd]
            refine xS.s1 rfl rfl ?_
            try dsimp only [Nat.reduceAdd]
            refine xS.s1 rfl rfl ?_
            try dsimp only [Nat.reduceAdd]
            refine xS.br0 (c := .ne) (off := 9) (l := 3) rfl rfl (fun h165 => ?_) (fun h165 => ?_)
            · have g165 := xt_ne h165
              exact absurd rfl g165
            · have g165 := xf_ne h165
              refine xS.s1 rfl rfl ?_
              try dsimp only [Nat.reduceAdd, xk_1000]
              refine xS.s1 rfl rfl ?_
              try dsimp only [Nat.reduceAdd]
              rw [show (((nI p * 6) + nI s) : Int32) = nI ((p * 6) + s) from by simp only [← nI_add, ← pk_mul] <;> rfl]
              refine xS.ias rfl xar_21 (by omega) ?_
              try dsimp only [Nat.reduceAdd]
              refine xS.ret rfl rfl rfl (fun _ _ => rfl) ?_
              have hb0 : (xhb (g (a + 1)) (g (a + 3)) T (L / 4) (L % 4) p s) = true := by unfold xhb; rw [xbk_t g132, xif1 g115]; rfl
              have e1 : (xWv (xhb (g (a + 1)) (g (a + 3)) T (L / 4) (L % 4) p s) 1) = 0 := by unfold xWv; rw [hb0]; rfl
              have e2 : (xZv (xWv (xhb (g (a + 1)) (g (a + 3)) T (L / 4) (L % 4) p s) 1) s 0) = 1000 := by unfold xZv; rw [if_pos e1]
              rw [e2, e1]
              exact ⟨rfl, rfl⟩
      · have g31 := xf_eq h31
        exfalso; first | exact absurd g31 (by decide) | (simp (disch := omega) only [Int32.lt_iff_toInt_lt, Int32.le_iff_toInt_le, nI_toInt, Int32.reduceToInt] at g31 <;> omega)

set_option maxRecDepth 10000 in
theorem c_X1_weighStep_some (hC : xro a) (hp : xpn g) (hL : L < 24) (hT : g a 4 = nI T) (hT8 : T ≤ 8) (hp5 : p < 5) (hs6 : s < 6) (hq5 : q1 < 5) (hA : ∀ t, t < 6 → g 20 (q1 * 6 + t) = nI (A0 t) ∧ A0 t ≤ 300000) (hZ : ∀ t, t < 6 → g 21 (q1 * 6 + t) = nI (Z0 t) ∧ Z0 t ≤ 1100) : xT (k + 5) 19 [.ref 19, .ref a, .ref (43 + L), .int (nI p), .int (nI q1), .int (nI s)] (xH b g l) (fun r M' => M' = xH b (up (up g 20 (p * 6 + s) (nI (xWv (xhb (g (a + 1)) (g (a + 3)) T (L / 4) (L % 4) p s) (xsmn (xok (g (a + 1)) (g (a + 3)) T (L / 4) q1 s) A0 6)))) 21 (p * 6 + s) (nI (xZv (xWv (xhb (g (a + 1)) (g (a + 3)) T (L / 4) (L % 4) p s) (xsmn (xok (g (a + 1)) (g (a + 3)) T (L / 4) q1 s) A0 6)) s (xmnn (xok (g (a + 1)) (g (a + 3)) T (L / 4) q1 s) Z0 6)))) l ∧ r = none) := by
  refine xT.of rfl (Nat.le_of_ble_eq_true rfl) ?_
  change xS _ _ 0 [(0, .ref 19), (1, .ref a), (2, .ref (43 + L)), (3, .int (nI p)), (4, .int (nI q1)), (5, .int (nI s))] [] _ _
  refine xS.s1 rfl rfl ?_
  try dsimp only [Nat.reduceAdd]
  refine xS.s1 rfl rfl ?_
  try dsimp only [Nat.reduceAdd, xi_m1]
  refine xS.br (c := .ne) (off := 7) (l := 3) rfl rfl (fun h3 => ?_) (fun h3 => ?_)
  · have g3 := xt_ne h3
    refine xS.s1 rfl rfl ?_
    try dsimp only [Nat.reduceAdd, xi_0]
    refine xS.s1 rfl rfl ?_
    try dsimp only [Nat.reduceAdd]
    refine xS.s1 rfl rfl ?_
    try dsimp only [Nat.reduceAdd]
    refine xS.s1 rfl rfl ?_
    try dsimp only [Nat.reduceAdd, xi_m1]
    refine xS.br (c := .ne) (off := 7) (l := 3) rfl rfl (fun h16 => ?_) (fun h16 => ?_)
    · have g16 := xt_ne h16
      refine xS.s1 rfl rfl ?_
      try dsimp only [Nat.reduceAdd, xk_1000]
      refine xS.s1 rfl rfl ?_
      try dsimp only [Nat.reduceAdd]
      refine xS.s1 rfl rfl ?_
      try dsimp only [Nat.reduceAdd]
      refine xS.s1 rfl rfl ?_
      try dsimp only [Nat.reduceAdd, xi_m1]
      refine xS.br (c := .eq) (off := 79) (l := 3) rfl rfl (fun h31 => ?_) (fun h31 => ?_)
      · have g31 := xt_eq h31
        exact absurd g31 (nI_nm1 (by omega))
      · have g31 := xf_eq h31
        refine xS.s1 rfl rfl ?_
        try dsimp only [Nat.reduceAdd]
        refine xS.s1 rfl rfl ?_
        try dsimp only [Nat.reduceAdd]
        refine xS.s1 rfl rfl ?_
        try dsimp only [Nat.reduceAdd]
        refine xS.s1 rfl rfl ?_
        try dsimp only [Nat.reduceAdd]
        -- 40 yX8_seen
        refine xS.cv rfl rfl rfl (hC.1 _) rfl rfl ⟨by decide, rfl, rfl⟩ (c_X8_seen hC hL (by omega) hs6) (fun v M1 hv => ?_)
        rw [hv.1, hv.2]
        clear hv M1 v
        try dsimp only [Nat.reduceAdd, Option.toList, List.cons_append, List.nil_append, List.drop]
        refine xS.s1 rfl rfl ?_
        try dsimp only [Nat.reduceAdd]
        refine xS.s1 rfl rfl ?_
        try dsimp only [Nat.reduceAdd, xi_0]
        refine xS.s1 rfl rfl ?_
        try dsimp only [Nat.reduceAdd]
        refine xS.pick [0, 3, 2, 1, 4, 5, 6, 7, 8, 9] rfl ?_
        refine xS.loop (σ := Unit) (6) (fun j S => [(9, .int (nI j)), (6, .int (nI (xsmn (xok (g (a + 1)) (g (a + 3)) T (L / 4) q1 s) A0 j))), (7, .int (nI (xmnn (xok (g (a + 1)) (g (a + 3)) T (L / 4) q1 s) Z0 j))), (8, .int (xseen (g (a + 1)) (L / 4) q1 s)), (0, .ref 19), (1, .ref a), (2, .ref (43 + L)), (3, .int (nI p)), (4, .int (nI q1)), (5, .int (nI s))]) (fun _ _ => xH b g l) (fun _ _ => True) (()) (rfl) (rfl) (trivial) ?_
        intro j S hj hI ih
        try dsimp only
        have hsl := xsmn_le (p := (xok (g (a + 1)) (g (a + 3)) T (L / 4) q1 s)) (v := A0) (B := 300000) j (fun t ht => (hA t (by omega)).2)
        have hml := xmnn_le (p := (xok (g (a + 1)) (g (a + 3)) T (L / 4) q1 s)) (v := Z0) j
        refine xS.s1 rfl rfl ?_
        try dsimp only [Nat.reduceAdd]
        refine xS.s1 rfl rfl ?_
        try dsimp only [Nat.reduceAdd, xj_6]
        refine xS.br (c := .ge) (off := 58) (l := 3) rfl rfl (fun h52 => ?_) (fun h52 => ?_)
        · have g52 := xt_ge h52
          have hj6 := xnle (b := 6) g52 (by omega) (by omega)
          obtain rfl : j = 6 := by omega
          refine xS.s1 rfl rfl ?_
          try dsimp only [Nat.reduceAdd]
          refine xS.s1 rfl rfl ?_
          try dsimp only [Nat.reduceAdd]
          -- 112 yX1_isHead
          refine xS.callS rfl rfl rfl ⟨Nat.le_of_ble_eq_true rfl, rfl⟩ (c_X1_isHead hp hL (by omega)) (fun v M1 hv => ?_)
          rw [hv.1, hv.2]
          clear hv M1 v
          try dsimp only [Nat.reduceAdd, Option.toList, List.cons_append, List.nil_append, List.drop]
          refine xS.br0 (c := .eq) (off := 23) (l := 3) rfl rfl (fun h115 => ?_) (fun h115 => ?_)
          · have g115 := xt_eq h115
            refine xS.s1 rfl rfl ?_
            try dsimp only [Nat.reduceAdd]
            refine xS.gR rfl rfl rfl ⟨by decide, rfl⟩ rfl ?_
            try dsimp only [Nat.reduceAdd]
            refine xS.s1 rfl rfl ?_
            try dsimp only [Nat.reduceAdd]
            refine xS.s1 rfl rfl ?_
            try dsimp only [Nat.reduceAdd, xj_6]
            refine xS.s1 rfl rfl ?_
            try dsimp only [Nat.reduceAdd]
            refine xS.s1 rfl rfl ?_
            try dsimp only [Nat.reduceAdd]
            refine xS.s1 rfl rfl ?_
            try dsimp only [Nat.reduceAdd]
            refine xS.s1 rfl rfl ?_
            try dsimp only [Nat.reduceAdd]
            rw [show (((nI p * 6) + nI s) : Int32) = nI ((p * 6) + s) from by simp only [← nI_add, ← pk_mul] <;> rfl]
            refine xS.ias rfl xar_20 (by omega) ?_
            try dsimp only [Nat.reduceAdd]
            refine xS.s1 rfl rfl ?_
            try dsimp only [Nat.reduceAdd]
            refine xS.gR rfl rfl rfl ⟨by decide, rfl⟩ rfl ?_
            try dsimp only [Nat.reduceAdd]
            refine xS.s1 rfl rfl ?_
            try dsimp only [Nat.reduceAdd]
            refine xS.s1 rfl rfl ?_
            try dsimp only [Nat.reduceAdd, xj_6]
            refine xS.s1 rfl rfl ?_
            try dsimp only [Nat.reduceAdd]
            refine xS.s1 rfl rfl ?_
            try dsimp only [Nat.reduceAdd]
            refine xS.s1 rfl rfl ?_
            try dsimp only [Nat.reduceAdd]
            refine xS.s1 rfl rfl ?_
            try dsimp only [Nat.reduceAdd]
            refine xS.br0 (c := .ne) (off := 9) (l := 3) rfl rfl (fun h165 => ?_) (fun h165 => ?_)
            · have g165 := xt_ne h165
              refine xS.s1 rfl rfl ?_
              try dsimp only [Nat.reduceAdd]
              refine xS.s1 rfl rfl ?_
              try dsimp only [Nat.reduceAdd]
              refine xS.br0 (c := .ne) (off := 7) (l := 3) rfl rfl (fun h178 => ?_) (fun h178 => ?_)
              · have g178 := xt_ne h178
                refine xS.s1 rfl rfl ?_
                try dsimp only [Nat.reduceAdd, xi_0]
                refine xS.s1 rfl rfl ?_
                try dsimp only [Nat.reduceAdd]
                rw [show (nI (xmnn (xok (g (a + 1)) (g (a + 3)) T (L / 4) q1 s) Z0 6) + 0 : Int32) = nI ((xmnn (xok (g (a + 1)) (g (a + 3)) T (L / 4) q1 s) Z0 6) + 0) from nI_add _ _]
                rw [show (((nI p * 6) + nI s) : Int32) = nI ((p * 6) + s) from by simp only [← nI_add, ← pk_mul] <;> rfl]
                refine xS.ias rfl xar_21 (by omega) ?_
                try dsimp only [Nat.reduceAdd]
                refine xS.ret rfl rfl rfl (fun _ _ => rfl) ?_
                have hb0 : (xhb (g (a + 1)) (g (a + 3)) T (L / 4) (L % 4) p s) = false := by unfold xhb; rw [show xhd (L / 4) (L % 4) p = false from by cases e : xhd (L / 4) (L % 4) p; (rfl); (rw [e] at g115; exact absurd g115 (by decide))]; rfl
                have e1 : (xWv (xhb (g (a + 1)) (g (a + 3)) T (L / 4) (L % 4) p s) (xsmn (xok (g (a + 1)) (g (a + 3)) T (L / 4) q1 s) A0 6)) = (xsmn (xok (g (a + 1)) (g (a + 3)) T (L / 4) q1 s) A0 6) := by unfold xWv; rw [hb0]; rfl
                have e0 : ¬ (xsmn (xok (g (a + 1)) (g (a + 3)) T (L / 4) q1 s) A0 6) = 0 := fun z => g165 (by rw [z]; rfl)
                have e2 : (xZv (xWv (xhb (g (a + 1)) (g (a + 3)) T (L / 4) (L % 4) p s) (xsmn (xok (g (a + 1)) (g (a + 3)) T (L / 4) q1 s) A0 6)) s (xmnn (xok (g (a + 1)) (g (a + 3)) T (L / 4) q1 s) Z0 6)) = (xmnn (xok (g (a + 1)) (g (a + 3)) T (L / 4) q1 s) Z0 6) + 0 := by unfold xZv; rw [e1, if_neg e0, if_neg (fun z => g178 (by rw [z]; rfl))]
                rw [e2, e1]
                exact ⟨rfl, rfl⟩
              · have g178 := xf_ne h178
                refine xS.s1 rfl rfl ?_
                try dsimp only [Nat.reduceAdd, xi_1]
                refine xS.s1 rfl rfl ?_
                try dsimp only [Nat.reduceAdd]
                refine xS.s1 rfl rfl ?_
                try dsimp only [Nat.reduceAdd]
                rw [show (nI (xmnn (xok (g (a + 1)) (g (a + 3)) T (L / 4) q1 s) Z0 6) + 1 : Int32) = nI ((xmnn (xok (g (a + 1)) (g (a + 3)) T (L / 4) q1 s) Z0 6) + 1) from nI_add _ _]
                rw [show (((nI p * 6) + nI s) : Int32) = nI ((p * 6) + s) from by simp only [← nI_add, ← pk_mul] <;> rfl]
                refine xS.ias rfl xar_21 (by omega) ?_
                try dsimp only [Nat.reduceAdd]
                refine xS.ret rfl rfl rfl (fun _ _ => rfl) ?_
                have hb0 : (xhb (g (a + 1)) (g (a + 3)) T (L / 4) (L % 4) p s) = false := by unfold xhb; rw [show xhd (L / 4) (L % 4) p = false from by cases e : xhd (L / 4) (L % 4) p; (rfl); (rw [e] at g115; exact absurd g115 (by decide))]; rfl
                have e1 : (xWv (xhb (g (a + 1)) (g (a + 3)) T (L / 4) (L % 4) p s) (xsmn (xok (g (a + 1)) (g (a + 3)) T (L / 4) q1 s) A0 6)) = (xsmn (xok (g (a + 1)) (g (a + 3)) T (L / 4) q1 s) A0 6) := by unfold xWv; rw [hb0]; rfl
                have e0 : ¬ (xsmn (xok (g (a + 1)) (g (a + 3)) T (L / 4) q1 s) A0 6) = 0 := fun z => g165 (by rw [z]; rfl)
                have e2 : (xZv (xWv (xhb (g (a + 1)) (g (a + 3)) T (L / 4) (L % 4) p s) (xsmn (xok (g (a + 1)) (g (a + 3)) T (L / 4) q1 s) A0 6)) s (xmnn (xok (g (a + 1)) (g (a + 3)) T (L / 4) q1 s) Z0 6)) = (xmnn (xok (g (a + 1)) (g (a + 3)) T (L / 4) q1 s) Z0 6) + 1 := by unfold xZv; rw [e1, if_neg e0, if_pos (nI_inj (b := 0) (by omega) (by omega) g178)]
                rw [e2, e1]
                exact ⟨rfl, rfl⟩
            · have g165 := xf_ne h165
              refine xS.s1 rfl rfl ?_
              try dsimp only [Nat.reduceAdd, xk_1000]
              refine xS.s1 rfl rfl ?_
              try dsimp only [Nat.reduceAdd]
              rw [show (((nI p * 6) + nI s) : Int32) = nI ((p * 6) + s) from by simp only [← nI_add, ← pk_mul] <;> rfl]
              refine xS.ias rfl xar_21 (by omega) ?_
              try dsimp only [Nat.reduceAdd]
              refine xS.ret rfl rfl rfl (fun _ _ => rfl) ?_
              have hb0 : (xhb (g (a + 1)) (g (a + 3)) T (L / 4) (L % 4) p s) = false := by unfold xhb; rw [show xhd (L / 4) (L % 4) p = false from by cases e : xhd (L / 4) (L % 4) p; (rfl); (rw [e] at g115; exact absurd g115 (by decide))]; rfl
              have e1 : (xWv (xhb (g (a + 1)) (g (a + 3)) T (L / 4) (L % 4) p s) (xsmn (xok (g (a + 1)) (g (a + 3)) T (L / 4) q1 s) A0 6)) = (xsmn (xok (g (a + 1)) (g (a + 3)) T (L / 4) q1 s) A0 6) := by unfold xWv; rw [hb0]; rfl
              have e0 : (xsmn (xok (g (a + 1)) (g (a + 3)) T (L / 4) q1 s) A0 6) = 0 := nI_inj (b := 0) (by omega) (by omega) g165
              have e2 : (xZv (xWv (xhb (g (a + 1)) (g (a + 3)) T (L / 4) (L % 4) p s) (xsmn (xok (g (a + 1)) (g (a + 3)) T (L / 4) q1 s) A0 6)) s (xmnn (xok (g (a + 1)) (g (a + 3)) T (L / 4) q1 s) Z0 6)) = 1000 := by unfold xZv; rw [e1, if_pos e0]
              rw [e2, e1]
              exact ⟨rfl, rfl⟩
          · have g115 := xf_eq h115
            refine xS.s1 rfl rfl ?_
            try dsimp only [Nat.reduceAdd]
            refine xS.s1 rfl rfl ?_
            try dsimp only [Nat.reduceAdd]
            refine xS.s1 rfl rfl ?_
            try dsimp only [Nat.reduceAdd]
            refine xS.s1 rfl rfl ?_
            try dsimp only [Nat.reduceAdd]
            refine xS.s1 rfl rfl ?_
            try dsimp only [Nat.reduceAdd]
            refine xS.s1 rfl rfl ?_
            try dsimp only [Nat.reduceAdd]
            -- 126 yX1_shownAtHead
            refine xS.callS rfl rfl rfl ⟨Nat.le_of_ble_eq_true rfl, rfl⟩ (c_X1_shownAtHead hC hp hL (by omega) hs6) (fun v M1 hv => ?_)
            rw [hv.1, hv.2]
            clear hv M1 v
            try dsimp only [Nat.reduceAdd, Option.toList, List.cons_append, List.nil_append, List.drop]
            -- 129 yX8_isBroken
            refine xS.cv rfl rfl rfl (hC.1 _) rfl rfl ⟨by decide, rfl, rfl⟩ (c_X8_isBroken hC hT hT8) (fun v M1 hv => ?_)
            rw [hv.1, hv.2]
            clear hv M1 v
            try dsimp only [Nat.reduceAdd, Option.toList, List.cons_append, List.nil_append, List.drop]
            refine xS.br0 (c := .eq) (off := 6) (l := 3) rfl rfl (fun h132 => ?_) (fun h132 => ?_)
            · have g132 := xt_eq h132
              refine xS.s1 rfl rfl ?_
              try dsimp only [Nat.reduceAdd]
              refine xS.gR rfl rfl rfl ⟨by decide, rfl⟩ rfl ?_
              try dsimp only [Nat.reduceAdd]
              refine xS.s1 rfl rfl ?_
              try dsimp only [Nat.reduceAdd]
              refine xS.s1 rfl rfl ?_
              try dsimp only [Nat.reduceAdd, xj_6]
              refine xS.s1 rfl rfl ?_
              try dsimp only [Nat.reduceAdd]
              refine xS.s1 rfl rfl ?_
              try dsimp only [Nat.reduceAdd]
              refine xS.s1 rfl rfl ?_
              try dsimp only [Nat.reduceAdd]
              refine xS.s1 rfl rfl ?_
              try dsimp only [Nat.reduceAdd]
              rw [show (((nI p * 6) + nI s) : Int32) = nI ((p * 6) + s) from by simp only [← nI_add, ← pk_mul] <;> rfl]
              refine xS.ias rfl xar_20 (by omega) ?_
              try dsimp only [Nat.reduceAdd]
              refine xS.s1 rfl rfl ?_
              try dsimp only [Nat.reduceAdd]
              refine xS.gR rfl rfl rfl ⟨by decide, rfl⟩ rfl ?_
              try dsimp only [Nat.reduceAdd]
              refine xS.s1 rfl rfl ?_
              try dsimp only [Nat.reduceAdd]
              refine xS.s1 rfl rfl ?_
              try dsimp only [Nat.reduceAdd, xj_6]
              refine xS.s1 rfl rfl ?_
              try dsimp only [Nat.reduceAdd]
              refine xS.s1 rfl rfl ?_
              try dsimp only [Nat.reduceAdd]
              refine xS.s1 rfl rfl ?_
              try dsimp only [Nat.reduceAdd]
              refine xS.s1 rfl rfl ?_
              try dsimp only [Nat.reduceAdd]
              refine xS.br0 (c := .ne) (off := 9) (l := 3) rfl rfl (fun h165 => ?_) (fun h165 => ?_)
              · have g165 := xt_ne h165
                refine xS.s1 rfl rfl ?_
                try dsimp only [Nat.reduceAdd]
                refine xS.s1 rfl rfl ?_
                try dsimp only [Nat.reduceAdd]
                refine xS.br0 (c := .ne) (off := 7) (l := 3) rfl rfl (fun h178 => ?_) (fun h178 => ?_)
                · have g178 := xt_ne h178
                  refine xS.s1 rfl rfl ?_
                  try dsimp only [Nat.reduceAdd, xi_0]
                  refine xS.s1 rfl rfl ?_
                  try dsimp only [Nat.reduceAdd]
                  rw [show (nI (xmnn (xok (g (a + 1)) (g (a + 3)) T (L / 4) q1 s) Z0 6) + 0 : Int32) = nI ((xmnn (xok (g (a + 1)) (g (a + 3)) T (L / 4) q1 s) Z0 6) + 0) from nI_add _ _]
                  rw [show (((nI p * 6) + nI s) : Int32) = nI ((p * 6) + s) from by simp only [← nI_add, ← pk_mul] <;> rfl]
                  refine xS.ias rfl xar_21 (by omega) ?_
                  try dsimp only [Nat.reduceAdd]
                  refine xS.ret rfl rfl rfl (fun _ _ => rfl) ?_
                  have hb0 : (xhb (g (a + 1)) (g (a + 3)) T (L / 4) (L % 4) p s) = false := by unfold xhb; rw [xbk_f g132, Bool.and_false]
                  have e1 : (xWv (xhb (g (a + 1)) (g (a + 3)) T (L / 4) (L % 4) p s) (xsmn (xok (g (a + 1)) (g (a + 3)) T (L / 4) q1 s) A0 6)) = (xsmn (xok (g (a + 1)) (g (a + 3)) T (L / 4) q1 s) A0 6) := by unfold xWv; rw [hb0]; rfl
                  have e0 : ¬ (xsmn (xok (g (a + 1)) (g (a + 3)) T (L / 4) q1 s) A0 6) = 0 := fun z => g165 (by rw [z]; rfl)
                  have e2 : (xZv (xWv (xhb (g (a + 1)) (g (a + 3)) T (L / 4) (L % 4) p s) (xsmn (xok (g (a + 1)) (g (a + 3)) T (L / 4) q1 s) A0 6)) s (xmnn (xok (g (a + 1)) (g (a + 3)) T (L / 4) q1 s) Z0 6)) = (xmnn (xok (g (a + 1)) (g (a + 3)) T (L / 4) q1 s) Z0 6) + 0 := by unfold xZv; rw [e1, if_neg e0, if_neg (fun z => g178 (by rw [z]; rfl))]
                  rw [e2, e1]
                  exact ⟨rfl, rfl⟩
                · have g178 := xf_ne h178
                  refine xS.s1 rfl rfl ?_
                  try dsimp only [Nat.reduceAdd, xi_1]
                  refine xS.s1 rfl rfl ?_
                  try dsimp only [Nat.reduceAdd]
                  refine xS.s1 rfl rfl ?_
                  try dsimp only [Nat.reduceAdd]
                  rw [show (nI (xmnn (xok (g (a + 1)) (g (a + 3)) T (L / 4) q1 s) Z0 6) + 1 : Int32) = nI ((xmnn (xok (g (a + 1)) (g (a + 3)) T (L / 4) q1 s) Z0 6) + 1) from nI_add _ _]
                  rw [show (((nI p * 6) + nI s) : Int32) = nI ((p * 6) + s) from by simp only [← nI_add, ← pk_mul] <;> rfl]
                  refine xS.ias rfl xar_21 (by omega) ?_
                  try dsimp only [Nat.reduceAdd]
                  refine xS.ret rfl rfl rfl (fun _ _ => rfl) ?_
                  have hb0 : (xhb (g (a + 1)) (g (a + 3)) T (L / 4) (L % 4) p s) = false := by unfold xhb; rw [xbk_f g132, Bool.and_false]
                  have e1 : (xWv (xhb (g (a + 1)) (g (a + 3)) T (L / 4) (L % 4) p s) (xsmn (xok (g (a + 1)) (g (a + 3)) T (L / 4) q1 s) A0 6)) = (xsmn (xok (g (a + 1)) (g (a + 3)) T (L / 4) q1 s) A0 6) := by unfold xWv; rw [hb0]; rfl
                  have e0 : ¬ (xsmn (xok (g (a + 1)) (g (a + 3)) T (L / 4) q1 s) A0 6) = 0 := fun z => g165 (by rw [z]; rfl)
                  have e2 : (xZv (xWv (xhb (g (a + 1)) (g (a + 3)) T (L / 4) (L % 4) p s) (xsmn (xok (g (a + 1)) (g (a + 3)) T (L / 4) q1 s) A0 6)) s (xmnn (xok (g (a + 1)) (g (a + 3)) T (L / 4) q1 s) Z0 6)) = (xmnn (xok (g (a + 1)) (g (a + 3)) T (L / 4) q1 s) Z0 6) + 1 := by unfold xZv; rw [e1, if_neg e0, if_pos (nI_inj (b := 0) (by omega) (by omega) g178)]
                  rw [e2, e1]
                  exact ⟨rfl, rfl⟩
              · have g165 := xf_ne h165
                refine xS.s1 rfl rfl ?_
                try dsimp only [Nat.reduceAdd, xk_1000]
                refine xS.s1 rfl rfl ?_
                try dsimp only [Nat.reduceAdd]
                rw [show (((nI p * 6) + nI s) : Int32) = nI ((p * 6) + s) from by simp only [← nI_add, ← pk_mul] <;> rfl]
                refine xS.ias rfl xar_21 (by omega) ?_
                try dsimp only [Nat.reduceAdd]
                refine xS.ret rfl rfl rfl (fun _ _ => rfl) ?_
                have hb0 : (xhb (g (a + 1)) (g (a + 3)) T (L / 4) (L % 4) p s) = false := by unfold xhb; rw [xbk_f g132, Bool.and_false]
                have e1 : (xWv (xhb (g (a + 1)) (g (a + 3)) T (L / 4) (L % 4) p s) (xsmn (xok (g (a + 1)) (g (a + 3)) T (L / 4) q1 s) A0 6)) = (xsmn (xok (g (a + 1)) (g (a + 3)) T (L / 4) q1 s) A0 6) := by unfold xWv; rw [hb0]; rfl
                have e0 : (xsmn (xok (g (a + 1)) (g (a + 3)) T (L / 4) q1 s) A0 6) = 0 := nI_inj (b := 0) (by omega) (by omega) g165
                have e2 : (xZv (xWv (xhb (g (a + 1)) (g (a + 3)) T (L / 4) (L % 4) p s) (xsmn (xok (g (a + 1)) (g (a + 3)) T (L / 4) q1 s) A0 6)) s (xmnn (xok (g (a + 1)) (g (a + 3)) T (L / 4) q1 s) Z0 6)) = 1000 := by unfold xZv; rw [e1, if_pos e0]
                rw [e2, e1]
                exact ⟨rfl, rfl⟩
            · have g132 := xf_eq h132
              refine xS.s1 rfl rfl ?_
              try dsimp only [Nat.reduceAdd, xi_0]
              refine xS.s1 rfl rfl ?_
              try dsimp only [Nat.reduceAdd]
              refine xS.s1 rfl rfl ?_
              try dsimp only [Nat.reduceAdd]
              refine xS.gR rfl rfl rfl ⟨by decide, rfl⟩ rfl ?_
              try dsimp only [Nat.reduceAdd]
              refine xS.s1 rfl rfl ?_
              try dsimp only [Nat.reduceAdd]
              refine xS.s1 rfl rfl ?_
              try dsimp only [Nat.reduceAdd, xj_6]
              refine xS.s1 rfl rfl ?_
              try dsimp only [Nat.reduceAdd]
              refine xS.s1 rfl rfl ?_
              try dsimp only [Nat.reduceAdd]
              refine xS.s1 rfl rfl ?_
              try dsimp only [Nat.reduceAdd]
              refine xS.s1 rfl rfl ?_
              try dsimp only [Nat.reduceAdd]
              rw [show (((nI p * 6) + nI s) : Int32) = nI ((p * 6) + s) from by simp only [← nI_add, ← pk_mul] <;> rfl]
              refine xS.ias rfl xar_20 (by omega) ?_
              try dsimp only [Nat.reduceAdd]
              refine xS.s1 rfl rfl ?_
              try dsimp only [Nat.reduceAdd]
              refine xS.gR rfl rfl rfl ⟨by decide, rfl⟩ rfl ?_
              try dsimp only [Nat.reduceAdd]
              refine xS.s1 rfl rfl ?_
              try dsimp only [Nat.reduceAdd]
              refine xS.s1 rfl rfl ?_
              try dsimp only [Nat.reduceAdd, xj_6]
              refine xS.s1 rfl rfl ?_
              try dsimp only [Nat.reduceAdd]
              refine xS.s1 rfl rfl ?_
              try dsimp only [Nat.reduceAdd]
              refine xS.s1 rfl rfl ?_
              try dsimp only [Nat.reduceAdd]
              refine xS.s1 rfl rfl ?_
              try dsimp only [Nat.reduceAdd]
              refine xS.br0 (c := .ne) (off := 9) (l := 3) rfl rfl (fun h165 => ?_) (fun h165 => ?_)
              · have g165 := xt_ne h165
                exact absurd rfl g165
              · have g165 := xf_ne h165
                refine xS.s1 rfl rfl ?_
                try dsimp only [Nat.reduceAdd, xk_1000]
                refine xS.s1 rfl rfl ?_
                try dsimp only [Nat.reduceAdd]
                rw [show (((nI p * 6) + nI s) : Int32) = nI ((p * 6) + s) from by simp only [← nI_add, ← pk_mul] <;> rfl]
                refine xS.ias rfl xar_21 (by omega) ?_
                try dsimp only [Nat.reduceAdd]
                refine xS.ret rfl rfl rfl (fun _ _ => rfl) ?_
                have hb0 : (xhb (g (a + 1)) (g (a + 3)) T (L / 4) (L % 4) p s) = true := by unfold xhb; rw [xbk_t g132, xif1 g115]; rfl
                have e1 : (xWv (xhb (g (a + 1)) (g (a + 3)) T (L / 4) (L % 4) p s) (xsmn (xok (g (a + 1)) (g (a + 3)) T (L / 4) q1 s) A0 6)) = 0 := by unfold xWv; rw [hb0]; rfl
                have e2 : (xZv (xWv (xhb (g (a + 1)) (g (a + 3)) T (L / 4) (L % 4) p s) (xsmn (xok (g (a + 1)) (g (a + 3)) T (L / 4) q1 s) A0 6)) s (xmnn (xok (g (a + 1)) (g (a + 3)) T (L / 4) q1 s) Z0 6)) = 1000 := by unfold xZv; rw [if_pos e1]
                rw [e2, e1]
                exact ⟨rfl, rfl⟩
        · have g52 := xf_ge h52
          have hj6 := xnlt (b := 6) g52 (by omega) (by omega)
          refine xS.s1 rfl rfl ?_
          try dsimp only [Nat.reduceAdd]
          refine xS.s1 rfl rfl ?_
          try dsimp only [Nat.reduceAdd]
          refine xS.s1 rfl rfl ?_
          try dsimp only [Nat.reduceAdd]
          -- 60 yX8_isBroken
          refine xS.cv rfl rfl rfl (hC.1 _) rfl rfl ⟨by decide, rfl, rfl⟩ (c_X8_isBroken hC hT hT8) (fun v M1 hv => ?_)
          rw [hv.1, hv.2]
          clear hv M1 v
          try dsimp only [Nat.reduceAdd, Option.toList, List.cons_append, List.nil_append, List.drop]
          refine xS.br0 (c := .ne) (off := 41) (l := 3) rfl rfl (fun h63 => ?_) (fun h63 => ?_)
          · have g63 := xt_ne h63
            refine xS.s1 rfl rfl ?_
            try dsimp only [Nat.reduceAdd, xi_1]
            rw [nI_1]
            refine xS.s1 rfl rfl ?_
            try dsimp only [Nat.reduceAdd]
            refine xS.pick [0, 1, 2, 3, 4, 5, 6, 7, 8, 9] rfl ?_
            have ih2 := ih () (by omega) trivial
            have q63 : (xok (g (a + 1)) (g (a + 3)) T (L / 4) q1 s) j = false := by unfold xok; rw [xbk_t g63]; rfl
            rw [show xsmn (xok (g (a + 1)) (g (a + 3)) T (L / 4) q1 s) A0 (j + 1) = xsmn (xok (g (a + 1)) (g (a + 3)) T (L / 4) q1 s) A0 j from by rw [xsmn_s, q63]; rfl, show xmnn (xok (g (a + 1)) (g (a + 3)) T (L / 4) q1 s) Z0 (j + 1) = xmnn (xok (g (a + 1)) (g (a + 3)) T (L / 4) q1 s) Z0 j from by rw [xmnn_s, q63]; rfl] at ih2
            exact ih2
          · have g63 := xf_ne h63
            refine xS.s1 rfl rfl ?_
            try dsimp only [Nat.reduceAdd]
            refine xS.s1 rfl rfl ?_
            try dsimp only [Nat.reduceAdd]
            refine xS.gR rfl rfl rfl ⟨by decide, rfl⟩ rfl ?_
            try dsimp only [Nat.reduceAdd]
            refine xS.s1 rfl rfl ?_
            try dsimp only [Nat.reduceAdd]
            refine xS.s1 rfl rfl ?_
            try dsimp only [Nat.reduceAdd, xj_6]
            refine xS.s1 rfl rfl ?_
            try dsimp only [Nat.reduceAdd]
            refine xS.s1 rfl rfl ?_
            try dsimp only [Nat.reduceAdd]
            refine xS.s1 rfl rfl ?_
            try dsimp only [Nat.reduceAdd]
            rw [show (((nI q1 * 6) + nI j) : Int32) = nI ((q1 * 6) + j) from by simp only [← nI_add, ← pk_mul] <;> rfl]
            refine xS.ia rfl xar_20 (by omega) ?_
            try dsimp only [Nat.reduceAdd]
            rw [(hA j hj6).1]
            refine xS.s1 rfl rfl ?_
            try dsimp only [Nat.reduceAdd]
            rw [nI_add]
            refine xS.s1 rfl rfl ?_
            try dsimp only [Nat.reduceAdd]
            refine xS.s1 rfl rfl ?_
            try dsimp only [Nat.reduceAdd]
            refine xS.s1 rfl rfl ?_
            try dsimp only [Nat.reduceAdd]
            refine xS.gR rfl rfl rfl ⟨by decide, rfl⟩ rfl ?_
            try dsimp only [Nat.reduceAdd]
            refine xS.s1 rfl rfl ?_
            try dsimp only [Nat.reduceAdd]
            refine xS.s1 rfl rfl ?_
            try dsimp only [Nat.reduceAdd, xj_6]
            refine xS.s1 rfl rfl ?_
            try dsimp only [Nat.reduceAdd]
            refine xS.s1 rfl rfl ?_
            try dsimp only [Nat.reduceAdd]
            refine xS.s1 rfl rfl ?_
            try dsimp only [Nat.reduceAdd]
            rw [show (((nI q1 * 6) + nI j) : Int32) = nI ((q1 * 6) + j) from by simp only [← nI_add, ← pk_mul] <;> rfl]
            refine xS.ia rfl xar_21 (by omega) ?_
            try dsimp only [Nat.reduceAdd]
            rw [(hZ j hj6).1]
            have hz1 := (hZ j hj6).2
            refine xS.mn rfl rfl rfl ?_
            try dsimp only [Nat.reduceAdd]
            rw [nI_min (by omega) (by omega)]
            refine xS.s1 rfl rfl ?_
            try dsimp only [Nat.reduceAdd]
            refine xS.s1 rfl rfl ?_
            try dsimp only [Nat.reduceAdd, xi_1]
            rw [nI_1]
            refine xS.s1 rfl rfl ?_
            try dsimp only [Nat.reduceAdd]
            refine xS.pick [0, 2, 1, 3, 4, 5, 6, 7, 8, 9] rfl ?_
            have ih2 := ih () (by omega) trivial
            have q63 : (xok (g (a + 1)) (g (a + 3)) T (L / 4) q1 s) j = true := by unfold xok; rw [xbk_f g63]; rfl
            rw [show xsmn (xok (g (a + 1)) (g (a + 3)) T (L / 4) q1 s) A0 (j + 1) = xsmn (xok (g (a + 1)) (g (a + 3)) T (L / 4) q1 s) A0 j + A0 j from by rw [xsmn_s, q63]; rfl, show xmnn (xok (g (a + 1)) (g (a + 3)) T (L / 4) q1 s) Z0 (j + 1) = min (xmnn (xok (g (a + 1)) (g (a + 3)) T (L / 4) q1 s) Z0 j) (Z0 j) from by rw [xmnn_s, q63]; rfl] at ih2
            exact ih2
    · have g16 := xf_ne h16
      exact absurd g16 (nI_nm1 (by omega))
  · have g3 := xf_ne h3
    exact absurd g3 (nI_nm1 (by omega))

theorem c_X1_weighStepO (hC : xro a) (hp : xpn g) (hL : L < 24) (hT : g a 4 = nI T) (hT8 : T ≤ 8) (hp5 : p < 5) (hs6 : s < 6) {o : Option Nat} (ho : ∀ q, o = some q → q < 5 ∧ (∀ t, t < 6 → g 20 (q * 6 + t) = nI (A q t) ∧ A q t ≤ 300000) ∧ (∀ t, t < 6 → g 21 (q * 6 + t) = nI (Z q t) ∧ Z q t ≤ 1100)) : xT (k + 5) 19 [.ref 19, .ref a, .ref (43 + L), .int (nI p), .int (xoI o), .int (nI s)] (xH b g l) (fun r M' => M' = xH b (up (up g 20 (p * 6 + s) (nI (xWv (xhb (g (a + 1)) (g (a + 3)) T (L / 4) (L % 4) p s) (xwo (g (a + 1)) (g (a + 3)) T (L / 4) A o s)))) 21 (p * 6 + s) (nI (xZv (xWv (xhb (g (a + 1)) (g (a + 3)) T (L / 4) (L % 4) p s) (xwo (g (a + 1)) (g (a + 3)) T (L / 4) A o s)) s (xzo (g (a + 1)) (g (a + 3)) T (L / 4) Z o s)))) l ∧ r = none) := by
  cases o with
  | none => exact c_X1_weighStep_none hC hp hL hT hT8 hp5 hs6
  | some q => exact c_X1_weighStep_some hC hp hL hT hT8 hp5 hs6 (ho q rfl).1 (ho q rfl).2.1 (ho q rfl).2.2

set_option maxRecDepth 10000 in
theorem c_X1_addChain (hp5 : p < 5) (hA : ∀ t, t < 6 → g 20 (p * 6 + t) = nI (A0 t) ∧ A0 t ≤ 300000) (hZ : ∀ t, t < 6 → g 21 (p * 6 + t) = nI (Z0 t) ∧ Z0 t ≤ 1100) : xT (k + 1) 21 [.ref 19, .int (nI p)] (xH b g l) (fun r M' => M' = xH b (up (up (up g 19 4 (xbits (fun u => decide (0 < A0 u)) 6)) 19 2 (g 19 2 * nI (xsmn (fun _ => true) A0 6))) 19 3 (g 19 3 + nI (xmnn (fun _ => true) Z0 6))) l ∧ r = none) := by
  refine xT.of rfl (Nat.le_of_ble_eq_true rfl) ?_
  change xS _ _ 0 [(0, .ref 19), (1, .int (nI p))] [] _ _
  refine xS.s1 rfl rfl ?_
  try dsimp only [Nat.reduceAdd, xi_0]
  refine xS.s1 rfl rfl ?_
  try dsimp only [Nat.reduceAdd]
  refine xS.s1 rfl rfl ?_
  try dsimp only [Nat.reduceAdd, xk_1000]
  refine xS.s1 rfl rfl ?_
  try dsimp only [Nat.reduceAdd]
  refine xS.s1 rfl rfl ?_
  try dsimp only [Nat.reduceAdd]
  refine xS.s1 rfl rfl ?_
  try dsimp only [Nat.reduceAdd, xi_0]
  refine xS.pI rfl rfl rfl ⟨⟨by decide, rfl⟩, rfl, by decide, by decide⟩ rfl ?_
  try dsimp only [Nat.reduceAdd]
  refine xS.s1 rfl rfl ?_
  try dsimp only [Nat.reduceAdd, xi_0]
  refine xS.s1 rfl rfl ?_
  try dsimp only [Nat.reduceAdd]
  refine xS.pick [0, 2, 1, 3, 4] rfl ?_
  refine xS.loop (σ := Unit) (6) (fun j S => [(4, .int (nI j)), (2, .int (nI (xsmn (fun _ => true) A0 j))), (3, .int (nI (xmnn (fun _ => true) Z0 j))), (0, .ref 19), (1, .int (nI p))]) (fun j _ => xH b (up g 19 4 (xbits (fun u => decide (0 < A0 u)) j)) l) (fun _ _ => True) (()) (rfl) (rfl) (trivial) ?_
  intro j S hj hI ih
  try dsimp only
  have hml := xmnn_le (p := (fun _ => true)) (v := Z0) j
  refine xS.s1 rfl rfl ?_
  try dsimp only [Nat.reduceAdd]
  refine xS.s1 rfl rfl ?_
  try dsimp only [Nat.reduceAdd, xj_6]
  refine xS.br (c := .ge) (off := 67) (l := 3) rfl rfl (fun h18 => ?_) (fun h18 => ?_)
  · have g18 := xt_ge h18
    have hj6 := xnle (b := 6) g18 (by omega) (by omega)
    obtain rfl : j = 6 := by omega
    refine xS.s1 rfl rfl ?_
    try dsimp only [Nat.reduceAdd]
    refine xS.s1 rfl rfl ?_
    try dsimp only [Nat.reduceAdd]
    refine xS.gI rfl rfl rfl ⟨by decide, rfl⟩ rfl ?_
    try dsimp only [Nat.reduceAdd]
    rw [up_ne (Or.inr (by decide))]
    refine xS.s1 rfl rfl ?_
    try dsimp only [Nat.reduceAdd]
    refine xS.s1 rfl rfl ?_
    try dsimp only [Nat.reduceAdd]
    refine xS.pI rfl rfl rfl ⟨⟨by decide, rfl⟩, rfl, by decide, by decide⟩ rfl ?_
    try dsimp only [Nat.reduceAdd]
    refine xS.s1 rfl rfl ?_
    try dsimp only [Nat.reduceAdd]
    refine xS.s1 rfl rfl ?_
    try dsimp only [Nat.reduceAdd]
    refine xS.gI rfl rfl rfl ⟨by decide, rfl⟩ rfl ?_
    try dsimp only [Nat.reduceAdd]
    rw [up_ne (Or.inr (by decide)), up_ne (Or.inr (by decide))]
    refine xS.s1 rfl rfl ?_
    try dsimp only [Nat.reduceAdd]
    refine xS.s1 rfl rfl ?_
    try dsimp only [Nat.reduceAdd]
    refine xS.pI rfl rfl rfl ⟨⟨by decide, rfl⟩, rfl, by decide, by decide⟩ rfl ?_
    try dsimp only [Nat.reduceAdd]
    refine xS.ret rfl rfl rfl (fun _ _ => rfl) ?_
    exact ⟨rfl, rfl⟩
  · have g18 := xf_ge h18
    have hj6 := xnlt (b := 6) g18 (by omega) (by omega)
    have ha1 := (hA j hj6).2
    have hz1 := (hZ j hj6).2
    refine xS.s1 rfl rfl ?_
    try dsimp only [Nat.reduceAdd]
    refine xS.gR rfl rfl rfl ⟨by decide, rfl⟩ rfl ?_
    try dsimp only [Nat.reduceAdd]
    refine xS.s1 rfl rfl ?_
    try dsimp only [Nat.reduceAdd]
    refine xS.s1 rfl rfl ?_
    try dsimp only [Nat.reduceAdd, xj_6]
    refine xS.s1 rfl rfl ?_
    try dsimp only [Nat.reduceAdd]
    refine xS.s1 rfl rfl ?_
    try dsimp only [Nat.reduceAdd]
    refine xS.s1 rfl rfl ?_
    try dsimp only [Nat.reduceAdd]
    rw [show (((nI p * 6) + nI j) : Int32) = nI ((p * 6) + j) from by simp only [← nI_add, ← pk_mul] <;> rfl]
    refine xS.ia rfl xar_20 (by omega) ?_
    try dsimp only [Nat.reduceAdd]
    rw [up_na (by decide), (hA j hj6).1]
    refine xS.s1 rfl rfl ?_
    try dsimp only [Nat.reduceAdd]
    refine xS.s1 rfl rfl ?_
    try dsimp only [Nat.reduceAdd]
    refine xS.s1 rfl rfl ?_
    try dsimp only [Nat.reduceAdd]
    refine xS.s1 rfl rfl ?_
    try dsimp only [Nat.reduceAdd]
    rw [nI_add]
    refine xS.s1 rfl rfl ?_
    try dsimp only [Nat.reduceAdd]
    refine xS.s1 rfl rfl ?_
    try dsimp only [Nat.reduceAdd]
    refine xS.s1 rfl rfl ?_
    try dsimp only [Nat.reduceAdd]
    refine xS.gR rfl rfl rfl ⟨by decide, rfl⟩ rfl ?_
    try dsimp only [Nat.reduceAdd]
    refine xS.s1 rfl rfl ?_
    try dsimp only [Nat.reduceAdd]
    refine xS.s1 rfl rfl ?_
    try dsimp only [Nat.reduceAdd, xj_6]
    refine xS.s1 rfl rfl ?_
    try dsimp only [Nat.reduceAdd]
    refine xS.s1 rfl rfl ?_
    try dsimp only [Nat.reduceAdd]
    refine xS.s1 rfl rfl ?_
    try dsimp only [Nat.reduceAdd]
    rw [show (((nI p * 6) + nI j) : Int32) = nI ((p * 6) + j) from by simp only [← nI_add, ← pk_mul] <;> rfl]
    refine xS.ia rfl xar_21 (by omega) ?_
    try dsimp only [Nat.reduceAdd]
    rw [up_na (by decide), (hZ j hj6).1]
    refine xS.mn rfl rfl rfl ?_
    try dsimp only [Nat.reduceAdd]
    rw [nI_min (by omega) (by omega)]
    refine xS.s1 rfl rfl ?_
    try dsimp only [Nat.reduceAdd]
    refine xS.s1 rfl rfl ?_
    try dsimp only [Nat.reduceAdd]
    refine xS.s1 rfl rfl ?_
    try dsimp only [Nat.reduceAdd]
    refine xS.gI rfl rfl rfl ⟨by decide, rfl⟩ rfl ?_
    try dsimp only [Nat.reduceAdd]
    rw [up_same]
    refine xS.s1 rfl rfl ?_
    try dsimp only [Nat.reduceAdd]
    refine xS.br0 (c := .le) (off := 10) (l := 3) rfl rfl (fun h64 => ?_) (fun h64 => ?_)
    · have g64 := xt_le h64
      refine xS.s1 rfl rfl ?_
      try dsimp only [Nat.reduceAdd, xi_0]
      refine xS.s1 rfl rfl ?_
      try dsimp only [Nat.reduceAdd]
      rw [xor0]
      refine xS.pI rfl rfl rfl ⟨⟨by decide, rfl⟩, rfl, by decide, by decide⟩ rfl ?_
      try dsimp only [Nat.reduceAdd]
      refine xS.s1 rfl rfl ?_
      try dsimp only [Nat.reduceAdd, xi_1]
      rw [nI_1]
      refine xS.s1 rfl rfl ?_
      try dsimp only [Nat.reduceAdd]
      refine xS.pick [0, 2, 1, 4, 5] rfl ?_
      rw [up_up]
      have ih2 := ih () (by omega) trivial
      rw [show xsmn (fun _ => true) A0 (j + 1) = xsmn (fun _ => true) A0 j + A0 j from rfl, show xmnn (fun _ => true) Z0 (j + 1) = min (xmnn (fun _ => true) Z0 j) (Z0 j) from rfl, show (xbits (fun u => decide (0 < A0 u)) (j + 1)) = (xbits (fun u => decide (0 < A0 u)) j) from by rw [xbits_s]; simp only [show decide (0 < A0 j) = false from decide_eq_false (by have z := xn0 g64 (by omega); omega), cond_false]] at ih2
      exact ih2
    · have g64 := xf_le h64
      refine xS.s1 rfl rfl ?_
      try dsimp only [Nat.reduceAdd, xi_1]
      refine xS.s1 rfl rfl ?_
      try dsimp only [Nat.reduceAdd]
      refine xS.s1 rfl rfl ?_
      try dsimp only [Nat.reduceAdd]
      refine xS.s1 rfl rfl ?_
      try dsimp only [Nat.reduceAdd]
      refine xS.s1 rfl rfl ?_
      try dsimp only [Nat.reduceAdd]
      
      refine xS.pI rfl rfl rfl ⟨⟨by decide, rfl⟩, rfl, by decide, by decide⟩ rfl ?_
      try dsimp only [Nat.reduceAdd]
      refine xS.s1 rfl rfl ?_
      try dsimp only [Nat.reduceAdd, xi_1]
      rw [nI_1]
      refine xS.s1 rfl rfl ?_
      try dsimp only [Nat.reduceAdd]
      refine xS.pick [0, 2, 1, 4, 5] rfl ?_
      rw [up_up]
      have ih2 := ih () (by omega) trivial
      rw [show xsmn (fun _ => true) A0 (j + 1) = xsmn (fun _ => true) A0 j + A0 j from rfl, show xmnn (fun _ => true) Z0 (j + 1) = min (xmnn (fun _ => true) Z0 j) (Z0 j) from rfl, show (xbits (fun u => decide (0 < A0 u)) (j + 1)) = (xbits (fun u => decide (0 < A0 u)) j) ||| (1 <<< (nI j &&& 31)) from by rw [xbits_s]; simp only [show decide (0 < A0 j) = true from decide_eq_true ((nI_ltI (a := 0) (by omega) (by omega)).mp g64), cond_true]] at ih2
      exact ih2

end
end
section
/-! LimpMirror$Chains: weigh -/
section
variable (h tx : Nat → Int32) (T κ δ n : Nat)
def xW (u : Nat) : Nat → Nat → Nat := Nat.rec (motive := fun _ => Nat → Nat → Nat) (fun _ _ => 1) (fun _ W p s => xWv (xhb h tx T κ δ p s) (xwo h tx T κ W (xhei κ δ n p) s)) u
theorem xW_u (u p s : Nat) : xW h tx T κ δ n (u + 1) p s = xWv (xhb h tx T κ δ p s) (xwo h tx T κ (xW h tx T κ δ n u) (xhei κ δ n p) s) := rfl
def xZ (u : Nat) : Nat → Nat → Nat := Nat.rec (motive := fun _ => Nat → Nat → Nat) (fun _ _ => 0) (fun u Z p s => xZv (xW h tx T κ δ n (u + 1) p s) s (xzo h tx T κ Z (xhei κ δ n p) s)) u
theorem xZ_u (u p s : Nat) : xZ h tx T κ δ n (u + 1) p s = xZv (xW h tx T κ δ n (u + 1) p s) s (xzo h tx T κ (xZ h tx T κ δ n u) (xhei κ δ n p) s) := rfl
def xPr (W : Nat → Nat → Nat) (j : Nat) : Nat := Nat.rec (motive := fun _ => Nat) 1 (fun j c => bif xhd κ δ (n - 1 - j) then c * xsmn (fun _ => true) (W (n - 1 - j)) 6 else c) j
def xFw (Z : Nat → Nat → Nat) (j : Nat) : Nat := Nat.rec (motive := fun _ => Nat) 0 (fun j c => bif xhd κ δ (n - 1 - j) then c + xmnn (fun _ => true) (Z (n - 1 - j)) 6 else c) j
end
section
variable {h tx : Nat → Int32} {T κ δ n : Nat}
theorem xhei_gt {p q : Nat} (e : xhei κ δ n p = some q) : p < q ∧ q < n ∧ xsrc κ δ q = some p := by
  unfold xhei at e
  cases e1 : xfst (fun u => decide (xsrc κ δ (p + 1 + u) = some p)) (n - (p + 1)) with
  | none => rw [e1] at e; cases e
  | some u =>
    rw [e1] at e
    have e2 : p + 1 + u = q := Option.some.inj e
    subst e2
    have := xfst_lt e1
    exact ⟨by omega, by omega, of_decide_eq_true this.2⟩
theorem xW_f : ∀ u p, n ≤ p + u + 1 → ∀ s, xW h tx T κ δ n (u + 2) p s = xW h tx T κ δ n (u + 1) p s
  | 0, p, hn, s => by
    rw [xW_u, xW_u]
    cases e : xhei κ δ n p with
    | none => rfl
    | some q => exact absurd (xhei_gt e).1 (by have := (xhei_gt e).2.1; omega)
  | u + 1, p, hn, s => by
    rw [xW_u, xW_u]
    cases e : xhei κ δ n p with
    | none => rfl
    | some q =>
      have hq := xhei_gt e
      show xWv _ (xsmn _ (xW h tx T κ δ n (u + 2) q) 6) = xWv _ (xsmn _ (xW h tx T κ δ n (u + 1) q) 6)
      rw [show xW h tx T κ δ n (u + 2) q = xW h tx T κ δ n (u + 1) q from funext (fun t => xW_f u q (by omega) t)]
theorem xZ_f : ∀ u p, n ≤ p + u + 1 → ∀ s, xZ h tx T κ δ n (u + 2) p s = xZ h tx T κ δ n (u + 1) p s
  | 0, p, hn, s => by
    rw [xZ_u, xZ_u, xW_f 0 p hn]
    cases e : xhei κ δ n p with
    | none => rfl
    | some q => exact absurd (xhei_gt e).1 (by have := (xhei_gt e).2.1; omega)
  | u + 1, p, hn, s => by
    rw [xZ_u, xZ_u, xW_f (u + 1) p hn]
    cases e : xhei κ δ n p with
    | none => rfl
    | some q =>
      have hq := xhei_gt e
      show xZv _ s (xmnn _ (xZ h tx T κ δ n (u + 2) q) 6) = xZv _ s (xmnn _ (xZ h tx T κ δ n (u + 1) q) 6)
      rw [show xZ h tx T κ δ n (u + 2) q = xZ h tx T κ δ n (u + 1) q from funext (fun t => xZ_f u q (by omega) t)]
theorem xW_e {p s : Nat} : xW h tx T κ δ n (n + 2) p s = xWv (xhb h tx T κ δ p s) (xwo h tx T κ (xW h tx T κ δ n (n + 2)) (xhei κ δ n p) s) := by
  rw [show xW h tx T κ δ n (n + 2) p s = _ from xW_u h tx T κ δ n (n + 1) p s]
  cases e : xhei κ δ n p with
  | none => rfl
  | some q =>
    have hq := xhei_gt e
    show xWv _ (xsmn _ (xW h tx T κ δ n (n + 1) q) 6) = xWv _ (xsmn _ (xW h tx T κ δ n (n + 2) q) 6)
    rw [show xW h tx T κ δ n (n + 2) q = xW h tx T κ δ n (n + 1) q from funext (fun t => xW_f n q (by omega) t)]
theorem xZ_e {p s : Nat} : xZ h tx T κ δ n (n + 2) p s = xZv (xW h tx T κ δ n (n + 2) p s) s (xzo h tx T κ (xZ h tx T κ δ n (n + 2)) (xhei κ δ n p) s) := by
  rw [show xZ h tx T κ δ n (n + 2) p s = _ from xZ_u h tx T κ δ n (n + 1) p s]
  cases e : xhei κ δ n p with
  | none => rfl
  | some q =>
    have hq := xhei_gt e
    show xZv _ s (xmnn _ (xZ h tx T κ δ n (n + 1) q) 6) = xZv _ s (xmnn _ (xZ h tx T κ δ n (n + 2) q) 6)
    rw [show xZ h tx T κ δ n (n + 2) q = xZ h tx T κ δ n (n + 1) q from funext (fun t => xZ_f n q (by omega) t)]
theorem xW_le : ∀ u p s, xW h tx T κ δ n u p s ≤ 6 ^ u
  | 0, p, s => Nat.le_refl _
  | u + 1, p, s => by
    rw [xW_u]
    have h6 : 0 < 6 ^ u := Nat.pow_pos (by decide)
    rw [Nat.pow_succ]
    unfold xWv
    cases xhb h tx T κ δ p s
    · cases e : xhei κ δ n p with
      | none =>
        show 1 ≤ _
        omega
      | some q =>
        have := xsmn_le (p := xok h tx T κ q s) (v := xW h tx T κ δ n u q) (B := 6 ^ u) 6 (fun t _ => xW_le u q t)
        show xsmn _ _ 6 ≤ _
        omega
    · exact Nat.zero_le _
theorem xW_b (hn : n ≤ 5) (p s : Nat) : xW h tx T κ δ n (n + 2) p s ≤ 300000 := Nat.le_trans (xW_le (n + 2) p s) (Nat.le_trans (Nat.pow_le_pow_right (n := 6) (by decide) (show n + 2 ≤ 7 by omega)) (by decide))
theorem xZ_b (p s : Nat) : xZ h tx T κ δ n (n + 2) p s ≤ 1100 := by
  rw [show xZ h tx T κ δ n (n + 2) p s = _ from xZ_u h tx T κ δ n (n + 1) p s]
  unfold xZv
  split
  · decide
  · have : xzo h tx T κ (xZ h tx T κ δ n (n + 1)) (xhei κ δ n p) s ≤ 1000 := by
      cases xhei κ δ n p with
      | none => exact Nat.zero_le _
      | some q => exact xmnn_le 6
    split <;> omega
theorem xhd_0 : xhd κ δ 0 = true := by
  unfold xhd xsrc
  by_cases h1 : κ = 1
  · rw [if_pos h1]
    by_cases h2 : 0 < δ
    · rw [if_pos h2]
    · rw [if_neg h2, Nat.zero_sub]
      rfl
  · rw [if_neg h1]
    by_cases h4 : κ = 4
    · rw [if_pos h4, if_neg (by decide)]
      by_cases h2 : 0 < δ
      · rw [if_pos h2]
      · rw [if_neg h2, Nat.zero_sub]
        rfl
    · rw [if_neg h4]
      by_cases h3 : κ = 2
      · rw [if_pos h3, if_neg (by decide)]
        rfl
      · rw [if_neg h3]
        rfl
end
def xIN (g1 : Nat → Nat → Int32) (W Z : Nat → Nat → Nat) (p t : Nat) (S : Nat → Nat → Int32) : Prop := (∀ e, e ≠ 20 → e ≠ 21 → S e = g1 e) ∧ (∀ i, p * 6 + 6 ≤ i → S 20 i = g1 20 i ∧ S 21 i = g1 21 i) ∧ (∀ s, s < t → S 20 (p * 6 + s) = nI (W p s) ∧ S 21 (p * 6 + s) = nI (Z p s))
def xOU (g : Nat → Nat → Int32) (W Z : Nat → Nat → Nat) (κ δ n j : Nat) (S : Nat → Nat → Int32) : Prop := (∀ e, e ≠ 19 → e ≠ 20 → e ≠ 21 → S e = g e) ∧ (∀ p, n ≤ p + j → p < n → ∀ s, s < 6 → S 20 (p * 6 + s) = nI (W p s) ∧ S 21 (p * 6 + s) = nI (Z p s)) ∧ S 19 2 = nI (xPr κ δ n W j) ∧ S 19 3 = nI (xFw κ δ n Z j) ∧ (j = 0 → S 19 4 = 0) ∧ (j = n → 0 < n → S 19 4 = xbits (fun u => decide (0 < W 0 u)) 6)

section
variable {k a c n n2 m t p s d i1 j1 : Nat} {b : Nat × Nat} {g : Nat → Nat → Int32} {l : Nat → Nat → Int64} {i j x y z v w : Int32} {u w1 w2 : Int64}
variable {L G T q1 : Nat} {Lw A0 Z0 : Nat → Nat} {A Z : Nat → Nat → Nat} {h tx : Nat → Int32}
theorem c_X1_weighStepW (hC : xro a) (hp : xpn g) (hL : L < 24) (hT : g a 4 = nI T) (hT8 : T ≤ 8) (hh : g (a + 1) = h) (htx : g (a + 3) = tx) (hn : n ≤ 5) (hpn : p < n) (hs6 : s < 6) (ho : ∀ q, xhei (L / 4) (L % 4) n p = some q → (∀ t, t < 6 → g 20 (q * 6 + t) = nI ((xW h tx T (L / 4) (L % 4) n (n + 2)) q t)) ∧ (∀ t, t < 6 → g 21 (q * 6 + t) = nI ((xZ h tx T (L / 4) (L % 4) n (n + 2)) q t))) : xT (k + 5) 19 [.ref 19, .ref a, .ref (43 + L), .int (nI p), .int (xoI (xhei (L / 4) (L % 4) n p)), .int (nI s)] (xH b g l) (fun r M' => M' = xH b (up (up g 20 (p * 6 + s) (nI ((xW h tx T (L / 4) (L % 4) n (n + 2)) p s))) 21 (p * 6 + s) (nI ((xZ h tx T (L / 4) (L % 4) n (n + 2)) p s))) l ∧ r = none) := by
  subst hh
  subst htx
  rw [xZ_e (p := p) (s := s), xW_e (p := p) (s := s)]
  exact c_X1_weighStepO hC hp hL hT hT8 (by omega) hs6 (fun q e => ⟨by have := (xhei_gt e).2.1; omega, fun t ht => ⟨(ho q e).1 t ht, xW_b hn q t⟩, fun t ht => ⟨(ho q e).2 t ht, xZ_b q t⟩⟩)

set_option maxRecDepth 10000 in
theorem c_X1_weigh (hC : xro a) (ha : a ≤ 15) (hp : xpn g) (hL : L < 24) (hT : g a 4 = nI T) (hT8 : T ≤ 8) (hh : g (a + 1) = h) (htx : g (a + 3) = tx) (hn : n ≤ 5) : xT (k + 6) 16 [.ref 19, .ref a, .ref (43 + L), .int (nI n)] (xH b g l) (fun r M' => ∃ g', M' = xH b g' l ∧ (∀ e, e ≠ 19 → e ≠ 20 → e ≠ 21 → g' e = g e) ∧ g' 19 2 = nI (xPr (L / 4) (L % 4) n (xW h tx T (L / 4) (L % 4) n (n + 2)) n) ∧ g' 19 3 = nI (xFw (L / 4) (L % 4) n (xZ h tx T (L / 4) (L % 4) n (n + 2)) n) ∧ g' 19 4 = (if nI (xPr (L / 4) (L % 4) n (xW h tx T (L / 4) (L % 4) n (n + 2)) n) = 0 then 0 else if n = 0 then 0 else (xbits (fun u => decide (0 < (xW h tx T (L / 4) (L % 4) n (n + 2)) 0 u)) 6)) ∧ r = none) := by
  refine xT.of rfl (Nat.le_of_ble_eq_true rfl) ?_
  change xS _ _ 0 [(0, .ref 19), (1, .ref a), (2, .ref (43 + L)), (3, .int (nI n))] [] _ _
  refine xS.s1 rfl rfl ?_
  try dsimp only [Nat.reduceAdd]
  refine xS.s1 rfl rfl ?_
  try dsimp only [Nat.reduceAdd, xi_1]
  refine xS.pI rfl rfl rfl ⟨⟨by decide, rfl⟩, rfl, by decide, by decide⟩ rfl ?_
  try dsimp only [Nat.reduceAdd]
  refine xS.s1 rfl rfl ?_
  try dsimp only [Nat.reduceAdd]
  refine xS.s1 rfl rfl ?_
  try dsimp only [Nat.reduceAdd, xi_0]
  refine xS.pI rfl rfl rfl ⟨⟨by decide, rfl⟩, rfl, by decide, by decide⟩ rfl ?_
  try dsimp only [Nat.reduceAdd]
  refine xS.s1 rfl rfl ?_
  try dsimp only [Nat.reduceAdd]
  refine xS.s1 rfl rfl ?_
  try dsimp only [Nat.reduceAdd, xi_0]
  refine xS.pI rfl rfl rfl ⟨⟨by decide, rfl⟩, rfl, by decide, by decide⟩ rfl ?_
  try dsimp only [Nat.reduceAdd]
  refine xS.s1 rfl rfl ?_
  try dsimp only [Nat.reduceAdd]
  refine xS.s1 rfl rfl ?_
  try dsimp only [Nat.reduceAdd, xi_5]
  refine xS.mn rfl rfl rfl ?_
  try dsimp only [Nat.reduceAdd]
  rw [show (if (5 : Int32) < nI n then 5 else nI n) = nI n from if_neg (Int32.not_lt.mpr (nI_le (b := 5) hn (by omega)))]
  refine xS.s1 rfl rfl ?_
  try dsimp only [Nat.reduceAdd, xi_1]
  refine xS.s1 rfl rfl ?_
  try dsimp only [Nat.reduceAdd]
  refine xS.s1 rfl rfl ?_
  try dsimp only [Nat.reduceAdd]
  refine xS.pick [0, 1, 2, 3, 4] rfl ?_
  refine xS.loop (σ := Nat → Nat → Int32) (n) (fun j S => [(4, .int (nI (n - j) - 1)), (0, .ref 19), (1, .ref a), (2, .ref (43 + L)), (3, .int (nI n))]) (fun _ S => xH b S l) (fun j S => xOU g (xW h tx T (L / 4) (L % 4) n (n + 2)) (xZ h tx T (L / 4) (L % 4) n (n + 2)) (L / 4) (L % 4) n j S) ((up (up (up g 19 2 1) 19 3 0) 19 4 0)) (rfl) (rfl) (⟨fun e h1 _ _ => by rw [up_na h1, up_na h1, up_na h1], fun p h1 h2 => absurd h1 (by omega), by rw [up_ne (Or.inr (by decide)), up_ne (Or.inr (by decide)), up_same]; rfl, by rw [up_ne (Or.inr (by decide)), up_same]; rfl, fun _ => up_same .., fun h1 h2 => absurd h1 (by omega)⟩) ?_
  intro j S hj hI ih
  obtain ⟨hf1, hd1, hr1, hw1, h01, hn1⟩ := hI
  try dsimp only
  refine xS.s1 rfl rfl ?_
  try dsimp only [Nat.reduceAdd]
  refine xS.br0 (c := .lt) (off := 61) (l := 3) rfl rfl (fun h26 => ?_) (fun h26 => ?_)
  · have g26 := xt_lt h26
    have hj0 : n - j = 0 := by
      cases e : n - j with
      | zero => rfl
      | succ m1 =>
        rw [e, show (nI (m1 + 1) - 1 : Int32) = nI m1 from pk_sub (a := m1 + 1) (b := 1) (by omega)] at g26
        exact absurd g26 (nI_pos (by omega))
    refine xS.s1 rfl rfl ?_
    try dsimp only [Nat.reduceAdd]
    refine xS.gI rfl rfl rfl ⟨by decide, rfl⟩ rfl ?_
    try dsimp only [Nat.reduceAdd]
    refine xS.br0 (c := .ne) (off := 8) (l := 3) rfl rfl (fun h91 => ?_) (fun h91 => ?_)
    · have g91 := xt_ne h91
      refine xS.ret rfl rfl rfl (fun _ _ => rfl) ?_
      have hjn : j = n := by omega
      subst hjn
      rw [hr1] at g91
      exact ⟨S, rfl, hf1, hr1, hw1, by rw [if_neg g91]; by_cases e : j = 0; (rw [if_pos e]; exact h01 e); (rw [if_neg e]; exact hn1 rfl (by omega)), rfl⟩
    · have g91 := xf_ne h91
      refine xS.s1 rfl rfl ?_
      try dsimp only [Nat.reduceAdd]
      refine xS.s1 rfl rfl ?_
      try dsimp only [Nat.reduceAdd, xi_0]
      refine xS.pI rfl rfl rfl ⟨⟨by decide, rfl⟩, rfl, by decide, by decide⟩ rfl ?_
      try dsimp only [Nat.reduceAdd]
      refine xS.ret rfl rfl rfl (fun _ _ => rfl) ?_
      have hjn : j = n := by omega
      subst hjn
      rw [hr1] at g91
      exact ⟨_, rfl, fun e h1 h2 h3 => by rw [up_na h1, hf1 e h1 h2 h3], by rw [up_ne (Or.inr (by decide))]; exact hr1, by rw [up_ne (Or.inr (by decide))]; exact hw1, by rw [if_pos g91, up_same], rfl⟩
  · have g26 := xf_lt h26
    obtain ⟨p, hpj⟩ : ∃ p, n - j = p + 1 := by
      cases e : n - j with
      | zero =>
        rw [e] at g26
        exact absurd g26 (by decide)
      | succ m1 => exact ⟨m1, rfl⟩
    rw [hpj, show (nI (p + 1) - 1 : Int32) = nI p from pk_sub (a := p + 1) (b := 1) (by omega)]
    refine xS.s1 rfl rfl ?_
    try dsimp only [Nat.reduceAdd]
    refine xS.s1 rfl rfl ?_
    try dsimp only [Nat.reduceAdd]
    refine xS.s1 rfl rfl ?_
    try dsimp only [Nat.reduceAdd]
    -- 33 yX1_heirOf
    refine xS.callS rfl rfl rfl ⟨Nat.le_of_ble_eq_true rfl, rfl⟩ (c_X1_heirOf (fun L hL => by rw [hf1 _ (by omega) (by omega) (by omega)]; exact hp L hL) hL hn (by omega)) (fun v M1 hv => ?_)
    rw [hv.1, hv.2]
    clear hv M1 v
    try dsimp only [Nat.reduceAdd, Option.toList, List.cons_append, List.nil_append, List.drop]
    refine xS.s1 rfl rfl ?_
    try dsimp only [Nat.reduceAdd]
    refine xS.s1 rfl rfl ?_
    try dsimp only [Nat.reduceAdd, xi_0]
    refine xS.s1 rfl rfl ?_
    try dsimp only [Nat.reduceAdd]
    refine xS.pick [0, 1, 2, 6, 5, 4, 3] rfl ?_
    refine xS.loop (σ := Nat → Nat → Int32) (6) (fun t S => [(6, .int (nI t)), (5, .int (xoI (xhei (L / 4) (L % 4) n p))), (4, .int (nI p)), (3, .int (nI n)), (2, .ref (43 + L)), (1, .ref a), (0, .ref 19)]) (fun _ S => xH b S l) (fun t S2 => xIN S (xW h tx T (L / 4) (L % 4) n (n + 2)) (xZ h tx T (L / 4) (L % 4) n (n + 2)) p t S2) (S) (rfl) (rfl) (⟨fun _ _ _ => rfl, fun _ _ => ⟨rfl, rfl⟩, fun s hs => absurd hs (by omega)⟩) ?_
    intro t S2 ht hI2 ih2
    obtain ⟨hf2, hi2, hd2⟩ := hI2
    have hp2 : xpn S2 := fun L hL => by rw [hf2 _ (by omega) (by omega), hf1 _ (by omega) (by omega) (by omega)]; exact hp L hL
    try dsimp only
    refine xS.s1 rfl rfl ?_
    try dsimp only [Nat.reduceAdd]
    refine xS.s1 rfl rfl ?_
    try dsimp only [Nat.reduceAdd, xj_6]
    refine xS.br (c := .ge) (off := 21) (l := 3) rfl rfl (fun h45 => ?_) (fun h45 => ?_)
    · have g45 := xt_ge h45
      have ht6 := xnle (b := 6) g45 (by omega) (by omega)
      obtain rfl : t = 6 := by omega
      refine xS.s1 rfl rfl ?_
      try dsimp only [Nat.reduceAdd]
      refine xS.s1 rfl rfl ?_
      try dsimp only [Nat.reduceAdd]
      -- 69 yX1_isHead
      refine xS.callS rfl rfl rfl ⟨Nat.le_of_ble_eq_true rfl, rfl⟩ (c_X1_isHead hp2 hL (by omega)) (fun v M1 hv => ?_)
      rw [hv.1, hv.2]
      clear hv M1 v
      try dsimp only [Nat.reduceAdd, Option.toList, List.cons_append, List.nil_append, List.drop]
      refine xS.br0 (c := .eq) (off := 9) (l := 3) rfl rfl (fun h72 => ?_) (fun h72 => ?_)
      · have g72 := xt_eq h72
        refine xS.s1 rfl rfl ?_
        try dsimp only [Nat.reduceAdd, xi_m1]
        refine xS.s1 rfl rfl ?_
        try dsimp only [Nat.reduceAdd]
        refine xS.pick [0, 6, 5, 4, 3] rfl ?_
        rw [show (nI p + -1 : Int32) = nI (n - (j + 1)) - 1 from by rw [show n - (j + 1) = p by omega]; exact (Int32.sub_eq_add_neg ..).symm]
        have ep : n - 1 - j = p := by omega
        have hh0 : xhd (L / 4) (L % 4) p = false := by cases e : xhd (L / 4) (L % 4) p; (rfl); (rw [e] at g72; exact absurd g72 (by decide))
        exact ih S2 (by omega) ⟨fun e h1 h2 h3 => by rw [hf2 e h2 h3, hf1 e h1 h2 h3], fun p1 h1 h2 s hs => by
          by_cases e : p1 = p
          · subst e
            exact hd2 s hs
          · have z := hd1 p1 (by omega) h2 s hs
            exact ⟨by rw [(hi2 _ (by omega)).1]; exact z.1, by rw [(hi2 _ (by omega)).2]; exact z.2⟩, by
          show S2 19 2 = nI (bif xhd (L / 4) (L % 4) (n - 1 - j) then _ else _)
          rw [ep, hh0, hf2 19 (by decide) (by decide)]
          exact hr1, by
          show S2 19 3 = nI (bif xhd (L / 4) (L % 4) (n - 1 - j) then _ else _)
          rw [ep, hh0, hf2 19 (by decide) (by decide)]
          exact hw1, fun z => absurd z (by omega), fun z _ => by
          rw [show p = 0 by omega, xhd_0] at hh0
          cases hh0⟩
      · have g72 := xf_eq h72
        refine xS.s1 rfl rfl ?_
        try dsimp only [Nat.reduceAdd]
        refine xS.s1 rfl rfl ?_
        try dsimp only [Nat.reduceAdd]
        -- 78 yX1_addChain
        refine xS.cv rfl rfl rfl rfl rfl rfl ⟨by decide, rfl, rfl⟩ (c_X1_addChain (A0 := (xW h tx T (L / 4) (L % 4) n (n + 2)) p) (Z0 := (xZ h tx T (L / 4) (L % 4) n (n + 2)) p) (by omega) (fun s hs => ⟨(hd2 s hs).1, xW_b hn p s⟩) (fun s hs => ⟨(hd2 s hs).2, xZ_b p s⟩)) (fun v M1 hv => ?_)
        rw [hv.1, hv.2]
        clear hv M1 v
        try dsimp only [Nat.reduceAdd, Option.toList, List.cons_append, List.nil_append, List.drop]
        refine xS.s1 rfl rfl ?_
        try dsimp only [Nat.reduceAdd, xi_m1]
        refine xS.s1 rfl rfl ?_
        try dsimp only [Nat.reduceAdd]
        refine xS.pick [0, 6, 5, 4, 3] rfl ?_
        rw [show (nI p + -1 : Int32) = nI (n - (j + 1)) - 1 from by rw [show n - (j + 1) = p by omega]; exact (Int32.sub_eq_add_neg ..).symm]
        have ep : n - 1 - j = p := by omega
        have hh1 : xhd (L / 4) (L % 4) p = true := xif1 g72
        exact ih _ (by omega) ⟨fun e h1 h2 h3 => by rw [up_na h1, up_na h1, up_na h1, hf2 e h2 h3, hf1 e h1 h2 h3], fun p1 h1 h2 s hs => by
          by_cases e : p1 = p
          · subst e
            exact ⟨by rw [up_na (by decide), up_na (by decide), up_na (by decide)]; exact (hd2 s hs).1, by rw [up_na (by decide), up_na (by decide), up_na (by decide)]; exact (hd2 s hs).2⟩
          · have z := hd1 p1 (by omega) h2 s hs
            exact ⟨by rw [up_na (by decide), up_na (by decide), up_na (by decide), (hi2 _ (by omega)).1]; exact z.1, by rw [up_na (by decide), up_na (by decide), up_na (by decide), (hi2 _ (by omega)).2]; exact z.2⟩, by
          show _ = nI (bif xhd (L / 4) (L % 4) (n - 1 - j) then xPr (L / 4) (L % 4) n (xW h tx T (L / 4) (L % 4) n (n + 2)) j * xsmn (fun _ => true) ((xW h tx T (L / 4) (L % 4) n (n + 2)) (n - 1 - j)) 6 else _)
          rw [ep, hh1, up_ne (Or.inr (by decide)), up_same, hf2 19 (by decide) (by decide), hr1, pk_mul]
          rfl, by
          show _ = nI (bif xhd (L / 4) (L % 4) (n - 1 - j) then xFw (L / 4) (L % 4) n (xZ h tx T (L / 4) (L % 4) n (n + 2)) j + xmnn (fun _ => true) ((xZ h tx T (L / 4) (L % 4) n (n + 2)) (n - 1 - j)) 6 else _)
          rw [ep, hh1, up_same, hf2 19 (by decide) (by decide), hw1, nI_add]
          rfl, fun z => absurd z (by omega), fun z _ => by
          rw [up_ne (Or.inr (by decide)), up_ne (Or.inr (by decide)), up_same, show p = 0 by omega]⟩
    · have g45 := xf_ge h45
      have ht6 := xnlt (b := 6) g45 (by omega) (by omega)
      refine xS.s1 rfl rfl ?_
      try dsimp only [Nat.reduceAdd]
      refine xS.s1 rfl rfl ?_
      try dsimp only [Nat.reduceAdd]
      refine xS.s1 rfl rfl ?_
      try dsimp only [Nat.reduceAdd]
      refine xS.s1 rfl rfl ?_
      try dsimp only [Nat.reduceAdd]
      refine xS.s1 rfl rfl ?_
      try dsimp only [Nat.reduceAdd]
      refine xS.s1 rfl rfl ?_
      try dsimp only [Nat.reduceAdd]
      -- 57 yX1_weighStep
      refine xS.cv rfl rfl rfl rfl rfl rfl ⟨by decide, rfl, rfl⟩ (c_X1_weighStepW (h := h) (tx := tx) (n := n) (T := T) hC hp2 hL (by rw [hf2 _ (by omega) (by omega), hf1 _ (by omega) (by omega) (by omega)]; exact hT) hT8 (by rw [hf2 _ (by omega) (by omega), hf1 _ (by omega) (by omega) (by omega)]; exact hh) (by rw [hf2 _ (by omega) (by omega), hf1 _ (by omega) (by omega) (by omega)]; exact htx) hn (by omega) ht6 (fun q e => by
        have hq := xhei_gt e
        exact ⟨fun t ht => by rw [(hi2 _ (by omega)).1]; exact (hd1 q (by omega) hq.2.1 t ht).1, fun t ht => by rw [(hi2 _ (by omega)).2]; exact (hd1 q (by omega) hq.2.1 t ht).2⟩)) (fun v M1 hv => ?_)
      rw [hv.1, hv.2]
      clear hv M1 v
      try dsimp only [Nat.reduceAdd, Option.toList, List.cons_append, List.nil_append, List.drop]
      refine xS.s1 rfl rfl ?_
      try dsimp only [Nat.reduceAdd, xi_1]
      rw [nI_1]
      refine xS.s1 rfl rfl ?_
      try dsimp only [Nat.reduceAdd]
      refine xS.pick [0, 1, 2, 3, 4, 5, 6] rfl ?_
      exact ih2 _ (by omega) ⟨fun e h1 h2 => by rw [up_na h2, up_na h1, hf2 e h1 h2], fun i hi => ⟨by rw [up_na (by decide), up_ne (Or.inr (by omega))]; exact (hi2 i hi).1, by rw [up_ne (Or.inr (by omega)), up_na (by decide)]; exact (hi2 i hi).2⟩, fun s hs => by
        by_cases e : s = t
        · subst e
          exact ⟨by rw [up_na (by decide), up_same], by rw [up_same]⟩
        · exact ⟨by rw [up_na (by decide), up_ne (Or.inr (by omega))]; exact (hd2 s (by omega)).1, by rw [up_ne (Or.inr (by omega)), up_na (by decide)]; exact (hd2 s (by omega)).2⟩⟩

end
end
