/-! the reference's parser: small methods -/
def xlr (f : Nat → Int32) (n p : Nat) : Int32 := if p < n then f p else -1000
theorem xlr_in {f : Nat → Int32} {n p : Nat} (h : p < n) : xlr f n p = f p := if_pos h
theorem xlr_at {f : Nat → Int32} {n p : Nat} {c : Int32} (hc : c ≠ -1000) (h : xlr f n p = c) : p < n ∧ f p = c := by
  unfold xlr at h
  by_cases hp : p < n
  · rw [if_pos hp] at h
    exact ⟨hp, h⟩
  · rw [if_neg hp] at h
    exact absurd h.symm hc
theorem xfig {f : Nat → Int32} {n p t : Nat} (ht : t ≤ 5) : (0 ≤ xlr f n p - 48 ∧ xlr f n p - 48 ≤ nI t) ↔ xfg f n p (t + 1) := by
  constructor
  · rintro ⟨h0, h1⟩
    obtain ⟨v, hv, e⟩ := nI_of (x := xlr f n p - 48) (Int32.not_lt.mpr h0)
    rw [e] at h1
    have h2 := (nI_leI hv (by omega)).mp h1
    have e2 : xlr f n p = nI (v + 48) := by
      rw [← nI_add, ← e]
      show xlr f n p = xlr f n p - 48 + 48
      rw [Int32.sub_add_cancel]
    by_cases hp : p < n
    · rw [xlr_in hp] at e2
      refine ⟨hp, ?_, ?_⟩
      · rw [e2]; exact nI_le (by omega) (by omega)
      · rw [e2]; exact nI_lt (by omega) (by omega)
    · unfold xlr at e2
      rw [if_neg hp] at e2
      exact absurd ((nI_toInt (n := v + 48) (by omega)).symm.trans (congrArg Int32.toInt e2.symm)) (by have : (-1000 : Int32).toInt = -1000 := rfl; omega)
  · intro h
    rw [xlr_in h.1, xfv_s (by omega) h]
    have := (xfv_e (by omega) h).1
    exact ⟨nI_pos' (by omega), nI_le (by omega) (by omega)⟩
def xkI (x : Int32) : Int32 := match xkd x with
  | some κ => nI κ
  | none => -1
theorem xkI_s {x : Int32} {κ : Nat} (h : xkd x = some κ) : xkI x = nI κ := by unfold xkI; rw [h]
theorem xkI_n {x : Int32} (h : xkd x = none) : xkI x = -1 := by unfold xkI; rw [h]
theorem xkI_lt {x : Int32} (h : xkI x < 0) : xkd x = none := by
  cases e : xkd x with
  | none => rfl
  | some κ =>
    rw [xkI_s e] at h
    exact absurd h (nI_pos (by have := xkd_lt e; omega))
theorem xkI_ge {x : Int32} (h : 0 ≤ xkI x) : ∃ κ, xkd x = some κ := by
  cases e : xkd x with
  | none =>
    rw [xkI_n e] at h
    exact absurd h (by decide)
  | some κ => exact ⟨κ, rfl⟩
theorem xkd_110 {x : Int32} {κ : Nat} (h : xkd x = some κ) : ¬ x = 110 := fun z => by
  have e : xkd 110 = none := by decide
  rw [z, e] at h
  cases h
def xFg (f : Nat → Int32) (n p t : Nat) (z : Int32) (g g' : Nat → Nat → Int32) : Prop := (xfg f n p t ∧ z = nI (xfv (f p)) ∧ g' = up g 73 28 (nI (p + 1))) ∨ (¬ xfg f n p t ∧ z = -1 ∧ g' = g)
theorem xFg_ge {f : Nat → Int32} {n p t : Nat} {z : Int32} {g g' : Nat → Nat → Int32} (h : xFg f n p t z g g') (hz : 0 ≤ z) : xfg f n p t ∧ z = nI (xfv (f p)) ∧ g' = up g 73 28 (nI (p + 1)) := by
  rcases h with h | h
  · exact h
  · rw [h.2.1] at hz
    exact absurd hz (by decide)
theorem xFg_lt {f : Nat → Int32} {n p t : Nat} {z : Int32} {g g' : Nat → Nat → Int32} (ht : t ≤ 6) (h : xFg f n p t z g g') (hz : z < 0) : ¬ xfg f n p t ∧ z = -1 ∧ g' = g := by
  rcases h with h | h
  · rw [h.2.1] at hz
    exact absurd hz (nI_pos (by have := (xfv_e ht h.1).1; omega))
  · exact h
def xb1 (o : Option Nat) : Int32 := match o with
  | none => 1
  | some _ => 0
theorem xb1_0 {o : Option Nat} (h : xb1 o = 0) : ∃ e, o = some e := by
  cases o with
  | none => exact absurd h (by decide)
  | some e => exact ⟨e, rfl⟩
theorem xb1_1 {o : Option Nat} (h : ¬ xb1 o = 0) : o = none := by
  cases o with
  | none => rfl
  | some e => exact absurd rfl h

section
variable {k a c n n2 m t p s d i1 j1 : Nat} {b : Nat × Nat} {g : Nat → Nat → Int32} {l : Nat → Nat → Int64} {i j x y z v w : Int32} {u w1 w2 : Int64}
variable {L G T κ δ o : Nat} {Lw : Nat → Nat} {f tx : Nat → Int32}
set_option maxRecDepth 10000 in
theorem c_X12_letter (hP : g 73 28 = nI p) (hO : g 73 29 = nI o) (hN : g 73 30 = nI n) (hfv : ∀ i, i < n → g 77 (o + i) = f i) (hn : n ≤ 60) (ho : o ≤ 180) (hp : p ≤ n) : xT (k + 1) 168 [.ref 73] (xH b g l) (fun r M' => M' = xH b g l ∧ r = some (.int (xlr f n p))) := by
  refine xT.of rfl (Nat.le_of_ble_eq_true rfl) ?_
  change xS _ _ 0 [(0, .ref 73)] [] _ _
  refine xS.s1 rfl rfl ?_
  try dsimp only [Nat.reduceAdd]
  refine xS.gI rfl rfl rfl ⟨by decide, rfl⟩ rfl ?_
  try dsimp only [Nat.reduceAdd]
  rw [hP]
  refine xS.s1 rfl rfl ?_
  try dsimp only [Nat.reduceAdd]
  refine xS.gI rfl rfl rfl ⟨by decide, rfl⟩ rfl ?_
  try dsimp only [Nat.reduceAdd]
  rw [hN]
  refine xS.br (c := .ge) (off := 20) (l := 3) rfl rfl (fun h8 => ?_) (fun h8 => ?_)
  · have g8 := xt_ge h8
    have hge := xnle g8 (by omega) (by omega)
    refine xS.s1 rfl rfl ?_
    try dsimp only [Nat.reduceAdd, xk_m1000]
    refine xS.ret rfl rfl rfl (fun _ _ => rfl) ?_
    exact ⟨rfl, by unfold xlr; rw [if_neg (by omega)]⟩
  · have g8 := xf_ge h8
    have hlt := xnlt g8 (by omega) (by omega)
    refine xS.s1 rfl rfl ?_
    try dsimp only [Nat.reduceAdd]
    refine xS.gR rfl rfl rfl ⟨by decide, rfl⟩ rfl ?_
    try dsimp only [Nat.reduceAdd]
    refine xS.s1 rfl rfl ?_
    try dsimp only [Nat.reduceAdd]
    refine xS.gI rfl rfl rfl ⟨by decide, rfl⟩ rfl ?_
    try dsimp only [Nat.reduceAdd]
    rw [hO]
    refine xS.s1 rfl rfl ?_
    try dsimp only [Nat.reduceAdd]
    refine xS.gI rfl rfl rfl ⟨by decide, rfl⟩ rfl ?_
    try dsimp only [Nat.reduceAdd]
    rw [hP]
    refine xS.s1 rfl rfl ?_
    try dsimp only [Nat.reduceAdd]
    rw [show ((nI o + nI p) : Int32) = nI (o + p) from by simp only [← nI_add, ← pk_mul] <;> rfl]
    refine xS.ia rfl xar_77 (by omega) ?_
    try dsimp only [Nat.reduceAdd]
    rw [hfv p hlt]
    refine xS.s1 rfl rfl ?_
    try dsimp only [Nat.reduceAdd]
    refine xS.ret rfl rfl rfl (fun _ _ => rfl) ?_
    exact ⟨rfl, by unfold xlr; rw [if_pos hlt]⟩

set_option maxRecDepth 10000 in
theorem c_X12_skip (hP : g 73 28 = nI p) (hO : g 73 29 = nI o) (hN : g 73 30 = nI n) (hfv : ∀ i, i < n → g 77 (o + i) = f i) (hn : n ≤ 60) (ho : o ≤ 180) (hp : p ≤ n) : xT (k + 2) 169 [.ref 73] (xH b g l) (fun r M' => M' = xH b (up g 73 28 (nI (xab f n p))) l ∧ r = none) := by
  refine xT.of rfl (Nat.le_of_ble_eq_true rfl) ?_
  change xS _ _ 0 [(0, .ref 73)] [] _ _
  refine xS.pick [0] rfl ?_
  refine xS.loop (σ := Unit) (n - p) (fun j S => [(0, .ref 73)]) (fun j _ => xH b (up g 73 28 (nI (p + j))) l) (fun j _ => xfst (fun t => !decide (f (p + t) = 32)) j = none) (()) (rfl) (by rw [Nat.add_zero, up_id hP]) (rfl) ?_
  intro j S hj hI ih
  try dsimp only
  refine xS.s1 rfl rfl ?_
  try dsimp only [Nat.reduceAdd]
  -- 1 yX12_letter
  refine xS.cv rfl rfl rfl rfl rfl rfl ⟨by decide, rfl, rfl⟩ (c_X12_letter (p := p + j) (o := o) (n := n) (f := f) (up_same ..) (by rw [up_ne (Or.inr (by decide))]; exact hO) (by rw [up_ne (Or.inr (by decide))]; exact hN) (fun i hi => by rw [up_na (by decide)]; exact hfv i hi) hn ho (by omega)) (fun v M1 hv => ?_)
  rw [hv.1, hv.2]
  clear hv M1 v
  try dsimp only [Nat.reduceAdd, Option.toList, List.cons_append, List.nil_append, List.drop]
  refine xS.s1 rfl rfl ?_
  try dsimp only [Nat.reduceAdd, xj_32]
  refine xS.br (c := .ne) (off := 16) (l := 3) rfl rfl (fun h6 => ?_) (fun h6 => ?_)
  · have g6 := xt_ne h6
    refine xS.ret rfl rfl rfl (fun _ _ => rfl) ?_
    have e : xab f n p = p + j := by
      unfold xab
      by_cases hlt : p + j < n
      · rw [xfst_at hI (by rw [xlr_in hlt] at g6; simp [g6]) (by omega)]
        rfl
      · rw [show n - p = j by omega, hI]
        rfl
    rw [e]
    exact ⟨rfl, rfl⟩
  · have g6 := xf_ne h6
    have hq := xlr_at (by decide) g6
    refine xS.s1 rfl rfl ?_
    try dsimp only [Nat.reduceAdd]
    refine xS.s1 rfl rfl ?_
    try dsimp only [Nat.reduceAdd]
    refine xS.gI rfl rfl rfl ⟨by decide, rfl⟩ rfl ?_
    try dsimp only [Nat.reduceAdd]
    rw [up_same]
    refine xS.s1 rfl rfl ?_
    try dsimp only [Nat.reduceAdd, xi_1]
    refine xS.s1 rfl rfl ?_
    try dsimp only [Nat.reduceAdd]
    rw [nI_1]
    refine xS.pI rfl rfl rfl ⟨⟨by decide, rfl⟩, rfl, by decide, by decide⟩ rfl ?_
    try dsimp only [Nat.reduceAdd]
    refine xS.s1 rfl rfl ?_
    try dsimp only [Nat.reduceAdd]
    refine xS.pick [0] rfl ?_
    rw [up_up]
    exact ih () (by have := hq.1; omega) (xfst_n hI (by simp [hq.2]))

set_option maxRecDepth 10000 in
theorem c_X12_figure_bad (hP : g 73 28 = nI p) (hO : g 73 29 = nI o) (hN : g 73 30 = nI n) (hfv : ∀ i, i < n → g 77 (o + i) = f i) (hn : n ≤ 60) (ho : o ≤ 180) (hp : p ≤ n) (ht : t ≤ 5) (hf : ¬ xfg f n p (t + 1)) : xT (k + 2) 170 [.ref 73, .int (nI t)] (xH b g l) (fun r M' => M' = xH b g l ∧ r = some (.int (-1))) := by
  refine xT.of rfl (Nat.le_of_ble_eq_true rfl) ?_
  change xS _ _ 0 [(0, .ref 73), (1, .int (nI t))] [] _ _
  refine xS.s1 rfl rfl ?_
  try dsimp only [Nat.reduceAdd]
  -- 1 yX12_letter
  refine xS.cv rfl rfl rfl rfl rfl rfl ⟨by decide, rfl, rfl⟩ (c_X12_letter hP hO hN hfv hn ho hp) (fun v M1 hv => ?_)
  rw [hv.1, hv.2]
  clear hv M1 v
  try dsimp only [Nat.reduceAdd, Option.toList, List.cons_append, List.nil_append, List.drop]
  refine xS.s1 rfl rfl ?_
  try dsimp only [Nat.reduceAdd, xj_48]
  refine xS.s1 rfl rfl ?_
  try dsimp only [Nat.reduceAdd]
  refine xS.s1 rfl rfl ?_
  try dsimp only [Nat.reduceAdd]
  refine xS.s1 rfl rfl ?_
  try dsimp only [Nat.reduceAdd]
  refine xS.s1 rfl rfl ?_
  try dsimp only [Nat.reduceAdd, xi_0]
  refine xS.s1 rfl rfl ?_
  try dsimp only [Nat.reduceAdd]
  -- 11 yX12_in
  refine xS.callS rfl rfl rfl ⟨Nat.le_of_ble_eq_true rfl, rfl⟩ c_X12_in (fun v M1 hv => ?_)
  rw [hv.1, hv.2]
  clear hv M1 v
  try dsimp only [Nat.reduceAdd, Option.toList, List.cons_append, List.nil_append, List.drop]
  refine xS.br0 (c := .ne) (off := 5) (l := 3) rfl rfl (fun h14 => ?_) (fun h14 => ?_)
  · have g14 := xt_ne h14
    exact absurd ((xfig ht).mp (xif1 g14)) hf
  · have g14 := xf_ne h14
    refine xS.s1 rfl rfl ?_
    try dsimp only [Nat.reduceAdd, xi_m1]
    refine xS.ret rfl rfl rfl (fun _ _ => rfl) ?_
    exact ⟨rfl, rfl⟩

set_option maxRecDepth 10000 in
theorem c_X12_figure_ok (hP : g 73 28 = nI p) (hO : g 73 29 = nI o) (hN : g 73 30 = nI n) (hfv : ∀ i, i < n → g 77 (o + i) = f i) (hn : n ≤ 60) (ho : o ≤ 180) (hp : p ≤ n) (ht : t ≤ 5) (hf : xfg f n p (t + 1)) : xT (k + 2) 170 [.ref 73, .int (nI t)] (xH b g l) (fun r M' => M' = xH b (up g 73 28 (nI (p + 1))) l ∧ r = some (.int (nI (xfv (f p))))) := by
  have hv5 := (xfv_e (by omega) hf).1
  refine xT.of rfl (Nat.le_of_ble_eq_true rfl) ?_
  change xS _ _ 0 [(0, .ref 73), (1, .int (nI t))] [] _ _
  refine xS.s1 rfl rfl ?_
  try dsimp only [Nat.reduceAdd]
  -- 1 yX12_letter
  refine xS.cv rfl rfl rfl rfl rfl rfl ⟨by decide, rfl, rfl⟩ (c_X12_letter hP hO hN hfv hn ho hp) (fun v M1 hv => ?_)
  rw [hv.1, hv.2]
  clear hv M1 v
  try dsimp only [Nat.reduceAdd, Option.toList, List.cons_append, List.nil_append, List.drop]
  refine xS.s1 rfl rfl ?_
  try dsimp only [Nat.reduceAdd, xj_48]
  refine xS.s1 rfl rfl ?_
  try dsimp only [Nat.reduceAdd]
  rw [xlr_in hf.1, xfv_s (by omega) hf]
  refine xS.s1 rfl rfl ?_
  try dsimp only [Nat.reduceAdd]
  refine xS.s1 rfl rfl ?_
  try dsimp only [Nat.reduceAdd]
  refine xS.s1 rfl rfl ?_
  try dsimp only [Nat.reduceAdd, xi_0]
  refine xS.s1 rfl rfl ?_
  try dsimp only [Nat.reduceAdd]
  -- 11 yX12_in
  refine xS.callS rfl rfl rfl ⟨Nat.le_of_ble_eq_true rfl, rfl⟩ c_X12_in (fun v M1 hv => ?_)
  rw [hv.1, hv.2]
  clear hv M1 v
  try dsimp only [Nat.reduceAdd, Option.toList, List.cons_append, List.nil_append, List.drop]
  refine xS.br0 (c := .ne) (off := 5) (l := 3) rfl rfl (fun h14 => ?_) (fun h14 => ?_)
  · have g14 := xt_ne h14
    refine xS.s1 rfl rfl ?_
    try dsimp only [Nat.reduceAdd]
    refine xS.s1 rfl rfl ?_
    try dsimp only [Nat.reduceAdd]
    refine xS.gI rfl rfl rfl ⟨by decide, rfl⟩ rfl ?_
    try dsimp only [Nat.reduceAdd]
    rw [hP]
    refine xS.s1 rfl rfl ?_
    try dsimp only [Nat.reduceAdd, xi_1]
    refine xS.s1 rfl rfl ?_
    try dsimp only [Nat.reduceAdd]
    rw [nI_1]
    refine xS.pI rfl rfl rfl ⟨⟨by decide, rfl⟩, rfl, by decide, by decide⟩ rfl ?_
    try dsimp only [Nat.reduceAdd]
    refine xS.s1 rfl rfl ?_
    try dsimp only [Nat.reduceAdd]
    refine xS.ret rfl rfl rfl (fun _ _ => rfl) ?_
    exact ⟨rfl, rfl⟩
  · have g14 := xf_ne h14
    exact absurd ⟨nI_pos' (by omega), nI_le (by omega) (by omega)⟩ (xif0 g14)

theorem c_X12_figureP (hP : g 73 28 = nI p) (hO : g 73 29 = nI o) (hN : g 73 30 = nI n) (hfv : ∀ i, i < n → g 77 (o + i) = f i) (hn : n ≤ 60) (ho : o ≤ 180) (hp : p ≤ n) (ht : t ≤ 5) : xT (k + 2) 170 [.ref 73, .int (nI t)] (xH b g l) (fun r M' => ∃ z g', r = some (.int z) ∧ M' = xH b g' l ∧ xFg f n p (t + 1) z g g') := by
  by_cases hf : xfg f n p (t + 1)
  · exact (c_X12_figure_ok hP hO hN hfv hn ho hp ht hf).weak (fun r M' h => ⟨_, _, h.2, h.1, Or.inl ⟨hf, rfl, rfl⟩⟩)
  · exact (c_X12_figure_bad hP hO hN hfv hn ho hp ht hf).weak (fun r M' h => ⟨_, _, h.2, h.1, Or.inr ⟨hf, rfl, rfl⟩⟩)

set_option maxRecDepth 10000 in
theorem c_X12_kindBy  : xT (k + 1) 171 [.int x] (xH b g l) (fun r M' => M' = xH b g l ∧ r = some (.int (xkI x))) := by
  refine xT.of rfl (Nat.le_of_ble_eq_true rfl) ?_
  change xS _ _ 0 [(0, .int x)] [] _ _
  refine xS.s1 rfl rfl ?_
  try dsimp only [Nat.reduceAdd]
  refine xS.s1 rfl rfl ?_
  try dsimp only [Nat.reduceAdd, xj_103]
  refine xS.br (c := .ne) (off := 7) (l := 3) rfl rfl (fun h3 => ?_) (fun h3 => ?_)
  · have g3 := xt_ne h3
    refine xS.s1 rfl rfl ?_
    try dsimp only [Nat.reduceAdd]
    refine xS.s1 rfl rfl ?_
    try dsimp only [Nat.reduceAdd, xj_108]
    refine xS.br (c := .ne) (off := 7) (l := 3) rfl rfl (fun h13 => ?_) (fun h13 => ?_)
    · have g13 := xt_ne h13
      refine xS.s1 rfl rfl ?_
      try dsimp only [Nat.reduceAdd]
      refine xS.s1 rfl rfl ?_
      try dsimp only [Nat.reduceAdd, xj_116]
      refine xS.br (c := .ne) (off := 7) (l := 3) rfl rfl (fun h23 => ?_) (fun h23 => ?_)
      · have g23 := xt_ne h23
        refine xS.s1 rfl rfl ?_
        try dsimp only [Nat.reduceAdd]
        refine xS.s1 rfl rfl ?_
        try dsimp only [Nat.reduceAdd, xj_111]
        refine xS.br (c := .ne) (off := 7) (l := 3) rfl rfl (fun h33 => ?_) (fun h33 => ?_)
        · have g33 := xt_ne h33
          refine xS.s1 rfl rfl ?_
          try dsimp only [Nat.reduceAdd]
          refine xS.s1 rfl rfl ?_
          try dsimp only [Nat.reduceAdd, xj_105]
          refine xS.br (c := .ne) (off := 7) (l := 3) rfl rfl (fun h43 => ?_) (fun h43 => ?_)
          · have g43 := xt_ne h43
            refine xS.s1 rfl rfl ?_
            try dsimp only [Nat.reduceAdd]
            refine xS.s1 rfl rfl ?_
            try dsimp only [Nat.reduceAdd, xj_102]
            refine xS.br (c := .ne) (off := 7) (l := 3) rfl rfl (fun h53 => ?_) (fun h53 => ?_)
            · have g53 := xt_ne h53
              refine xS.s1 rfl rfl ?_
              try dsimp only [Nat.reduceAdd, xi_m1]
              refine xS.ret rfl rfl rfl (fun _ _ => rfl) ?_
              refine ⟨rfl, ?_⟩
              rw [xkI_n (xfst_none.mpr (fun i hi => ?_))]
              rcases i with _ | _ | _ | _ | _ | _ | i
              · exact decide_eq_false (fun z => g3 z.symm)
              · exact decide_eq_false (fun z => g13 z.symm)
              · exact decide_eq_false (fun z => g23 z.symm)
              · exact decide_eq_false (fun z => g33 z.symm)
              · exact decide_eq_false (fun z => g43 z.symm)
              · exact decide_eq_false (fun z => g53 z.symm)
              · omega
            · have g53 := xf_ne h53
              refine xS.s1 rfl rfl ?_
              try dsimp only [Nat.reduceAdd, xi_5]
              refine xS.s1 rfl rfl ?_
              try dsimp only [Nat.reduceAdd]
              refine xS.ret rfl rfl rfl (fun _ _ => rfl) ?_
              subst g53
              exact ⟨rfl, rfl⟩
          · have g43 := xf_ne h43
            refine xS.s1 rfl rfl ?_
            try dsimp only [Nat.reduceAdd, xi_4]
            refine xS.s1 rfl rfl ?_
            try dsimp only [Nat.reduceAdd]
            refine xS.ret rfl rfl rfl (fun _ _ => rfl) ?_
            subst g43
            exact ⟨rfl, rfl⟩
        · have g33 := xf_ne h33
          refine xS.s1 rfl rfl ?_
          try dsimp only [Nat.reduceAdd, xi_3]
          refine xS.s1 rfl rfl ?_
          try dsimp only [Nat.reduceAdd]
          refine xS.ret rfl rfl rfl (fun _ _ => rfl) ?_
          subst g33
          exact ⟨rfl, rfl⟩
      · have g23 := xf_ne h23
        refine xS.s1 rfl rfl ?_
        try dsimp only [Nat.reduceAdd, xi_2]
        refine xS.s1 rfl rfl ?_
        try dsimp only [Nat.reduceAdd]
        refine xS.ret rfl rfl rfl (fun _ _ => rfl) ?_
        subst g23
        exact ⟨rfl, rfl⟩
    · have g13 := xf_ne h13
      refine xS.s1 rfl rfl ?_
      try dsimp only [Nat.reduceAdd, xi_1]
      refine xS.s1 rfl rfl ?_
      try dsimp only [Nat.reduceAdd]
      refine xS.ret rfl rfl rfl (fun _ _ => rfl) ?_
      subst g13
      exact ⟨rfl, rfl⟩
  · have g3 := xf_ne h3
    refine xS.s1 rfl rfl ?_
    try dsimp only [Nat.reduceAdd, xi_0]
    refine xS.s1 rfl rfl ?_
    try dsimp only [Nat.reduceAdd]
    refine xS.ret rfl rfl rfl (fun _ _ => rfl) ?_
    subst g3
    exact ⟨rfl, rfl⟩

end
