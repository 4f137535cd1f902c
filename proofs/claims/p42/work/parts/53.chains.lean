/-! LimpMirror$Chains: weigh -/
section
variable (h tx : Nat → Int32) (T κ δ n : Nat)
def xW (u : Nat) : Nat → Nat → Nat := Nat.rec (motive := fun _ => Nat → Nat → Nat) (fun _ _ => 1) (fun _ W p s => xWv (xhb h tx T κ δ p s) (xwo h tx T κ W (xhei κ δ n p) s)) u
theorem xW_u (u p s : Nat) : xW h tx T κ δ n (u + 1) p s = xWv (xhb h tx T κ δ p s) (xwo h tx T κ (xW h tx T κ δ n u) (xhei κ δ n p) s) := rfl
def xZ (u : Nat) : Nat → Nat → Nat := Nat.rec (motive := fun _ => Nat → Nat → Nat) (fun _ _ => 0) (fun u Z p s => xZv (xW h tx T κ δ n (u + 1) p s) s (xzo h tx T κ Z (xhei κ δ n p) s)) u
theorem xZ_u (u p s : Nat) : xZ h tx T κ δ n (u + 1) p s = xZv (xW h tx T κ δ n (u + 1) p s) s (xzo h tx T κ (xZ h tx T κ δ n u) (xhei κ δ n p) s) := rfl
def xPr (W : Nat → Nat → Nat) (j : Nat) : Nat := Nat.rec (motive := fun _ => Nat) 1 (fun j c => bif xhd κ δ (n - 1 - j) then c * xsmn (fun _ => true) (W (n - 1 - j)) 6 else c) j
def xFw (Z : Nat → Nat → Nat) (j : Nat) : Nat := Nat.rec (motive := fun _ => Nat) 0 (fun j c => bif xhd κ δ (n - 1 - j) then c + xmnn (fun _ => true) (Z (n - 1 - j)) 6 else c) j
end
section
variable {h tx : Nat → Int32} {T κ δ n : Nat}
theorem xhei_gt {p q : Nat} (e : xhei κ δ n p = some q) : p < q ∧ q < n ∧ xsrc κ δ q = some p := by
  unfold xhei at e
  cases e1 : xfst (fun u => decide (xsrc κ δ (p + 1 + u) = some p)) (n - (p + 1)) with
  | none => rw [e1] at e; cases e
  | some u =>
    rw [e1] at e
    have e2 : p + 1 + u = q := Option.some.inj e
    subst e2
    have := xfst_lt e1
    exact ⟨by omega, by omega, of_decide_eq_true this.2⟩
theorem xW_f : ∀ u p, n ≤ p + u + 1 → ∀ s, xW h tx T κ δ n (u + 2) p s = xW h tx T κ δ n (u + 1) p s
  | 0, p, hn, s => by
    rw [xW_u, xW_u]
    cases e : xhei κ δ n p with
    | none => rfl
    | some q => exact absurd (xhei_gt e).1 (by have := (xhei_gt e).2.1; omega)
  | u + 1, p, hn, s => by
    rw [xW_u, xW_u]
    cases e : xhei κ δ n p with
    | none => rfl
    | some q =>
      have hq := xhei_gt e
      show xWv _ (xsmn _ (xW h tx T κ δ n (u + 2) q) 6) = xWv _ (xsmn _ (xW h tx T κ δ n (u + 1) q) 6)
      rw [show xW h tx T κ δ n (u + 2) q = xW h tx T κ δ n (u + 1) q from funext (fun t => xW_f u q (by omega) t)]
theorem xZ_f : ∀ u p, n ≤ p + u + 1 → ∀ s, xZ h tx T κ δ n (u + 2) p s = xZ h tx T κ δ n (u + 1) p s
  | 0, p, hn, s => by
    rw [xZ_u, xZ_u, xW_f 0 p hn]
    cases e : xhei κ δ n p with
    | none => rfl
    | some q => exact absurd (xhei_gt e).1 (by have := (xhei_gt e).2.1; omega)
  | u + 1, p, hn, s => by
    rw [xZ_u, xZ_u, xW_f (u + 1) p hn]
    cases e : xhei κ δ n p with
    | none => rfl
    | some q =>
      have hq := xhei_gt e
      show xZv _ s (xmnn _ (xZ h tx T κ δ n (u + 2) q) 6) = xZv _ s (xmnn _ (xZ h tx T κ δ n (u + 1) q) 6)
      rw [show xZ h tx T κ δ n (u + 2) q = xZ h tx T κ δ n (u + 1) q from funext (fun t => xZ_f u q (by omega) t)]
theorem xW_e {p s : Nat} : xW h tx T κ δ n (n + 2) p s = xWv (xhb h tx T κ δ p s) (xwo h tx T κ (xW h tx T κ δ n (n + 2)) (xhei κ δ n p) s) := by
  rw [show xW h tx T κ δ n (n + 2) p s = _ from xW_u h tx T κ δ n (n + 1) p s]
  cases e : xhei κ δ n p with
  | none => rfl
  | some q =>
    have hq := xhei_gt e
    show xWv _ (xsmn _ (xW h tx T κ δ n (n + 1) q) 6) = xWv _ (xsmn _ (xW h tx T κ δ n (n + 2) q) 6)
    rw [show xW h tx T κ δ n (n + 2) q = xW h tx T κ δ n (n + 1) q from funext (fun t => xW_f n q (by omega) t)]
theorem xZ_e {p s : Nat} : xZ h tx T κ δ n (n + 2) p s = xZv (xW h tx T κ δ n (n + 2) p s) s (xzo h tx T κ (xZ h tx T κ δ n (n + 2)) (xhei κ δ n p) s) := by
  rw [show xZ h tx T κ δ n (n + 2) p s = _ from xZ_u h tx T κ δ n (n + 1) p s]
  cases e : xhei κ δ n p with
  | none => rfl
  | some q =>
    have hq := xhei_gt e
    show xZv _ s (xmnn _ (xZ h tx T κ δ n (n + 1) q) 6) = xZv _ s (xmnn _ (xZ h tx T κ δ n (n + 2) q) 6)
    rw [show xZ h tx T κ δ n (n + 2) q = xZ h tx T κ δ n (n + 1) q from funext (fun t => xZ_f n q (by omega) t)]
theorem xW_le : ∀ u p s, xW h tx T κ δ n u p s ≤ 6 ^ u
  | 0, p, s => Nat.le_refl _
  | u + 1, p, s => by
    rw [xW_u]
    have h6 : 0 < 6 ^ u := Nat.pow_pos (by decide)
    rw [Nat.pow_succ]
    unfold xWv
    cases xhb h tx T κ δ p s
    · cases e : xhei κ δ n p with
      | none =>
        show 1 ≤ _
        omega
      | some q =>
        have := xsmn_le (p := xok h tx T κ q s) (v := xW h tx T κ δ n u q) (B := 6 ^ u) 6 (fun t _ => xW_le u q t)
        show xsmn _ _ 6 ≤ _
        omega
    · exact Nat.zero_le _
theorem xW_b (hn : n ≤ 5) (p s : Nat) : xW h tx T κ δ n (n + 2) p s ≤ 300000 := Nat.le_trans (xW_le (n + 2) p s) (Nat.le_trans (Nat.pow_le_pow_right (n := 6) (by decide) (show n + 2 ≤ 7 by omega)) (by decide))
theorem xZ_b (p s : Nat) : xZ h tx T κ δ n (n + 2) p s ≤ 1100 := by
  rw [show xZ h tx T κ δ n (n + 2) p s = _ from xZ_u h tx T κ δ n (n + 1) p s]
  unfold xZv
  split
  · decide
  · have : xzo h tx T κ (xZ h tx T κ δ n (n + 1)) (xhei κ δ n p) s ≤ 1000 := by
      cases xhei κ δ n p with
      | none => exact Nat.zero_le _
      | some q => exact xmnn_le 6
    split <;> omega
theorem xhd_0 : xhd κ δ 0 = true := by
  unfold xhd xsrc
  by_cases h1 : κ = 1
  · rw [if_pos h1]
    by_cases h2 : 0 < δ
    · rw [if_pos h2]
    · rw [if_neg h2, Nat.zero_sub]
      rfl
  · rw [if_neg h1]
    by_cases h4 : κ = 4
    · rw [if_pos h4, if_neg (by decide)]
      by_cases h2 : 0 < δ
      · rw [if_pos h2]
      · rw [if_neg h2, Nat.zero_sub]
        rfl
    · rw [if_neg h4]
      by_cases h3 : κ = 2
      · rw [if_pos h3, if_neg (by decide)]
        rfl
      · rw [if_neg h3]
        rfl
end
def xIN (g1 : Nat → Nat → Int32) (W Z : Nat → Nat → Nat) (p t : Nat) (S : Nat → Nat → Int32) : Prop := (∀ e, e ≠ 20 → e ≠ 21 → S e = g1 e) ∧ (∀ i, p * 6 + 6 ≤ i → S 20 i = g1 20 i ∧ S 21 i = g1 21 i) ∧ (∀ s, s < t → S 20 (p * 6 + s) = nI (W p s) ∧ S 21 (p * 6 + s) = nI (Z p s))
def xOU (g : Nat → Nat → Int32) (W Z : Nat → Nat → Nat) (κ δ n j : Nat) (S : Nat → Nat → Int32) : Prop := (∀ e, e ≠ 19 → e ≠ 20 → e ≠ 21 → S e = g e) ∧ (∀ p, n ≤ p + j → p < n → ∀ s, s < 6 → S 20 (p * 6 + s) = nI (W p s) ∧ S 21 (p * 6 + s) = nI (Z p s)) ∧ S 19 2 = nI (xPr κ δ n W j) ∧ S 19 3 = nI (xFw κ δ n Z j) ∧ (j = 0 → S 19 4 = 0) ∧ (j = n → 0 < n → S 19 4 = xbits (fun u => decide (0 < W 0 u)) 6)

section
variable {k a c n n2 m t p s d i1 j1 : Nat} {b : Nat × Nat} {g : Nat → Nat → Int32} {l : Nat → Nat → Int64} {i j x y z v w : Int32} {u w1 w2 : Int64}
variable {L G T q1 : Nat} {Lw A0 Z0 : Nat → Nat} {A Z : Nat → Nat → Nat} {h tx : Nat → Int32}
theorem c_X1_weighStepW (hC : xro a) (hp : xpn g) (hL : L < 24) (hT : g a 4 = nI T) (hT8 : T ≤ 8) (hh : g (a + 1) = h) (htx : g (a + 3) = tx) (hn : n ≤ 5) (hpn : p < n) (hs6 : s < 6) (ho : ∀ q, xhei (L / 4) (L % 4) n p = some q → (∀ t, t < 6 → g 20 (q * 6 + t) = nI ((xW h tx T (L / 4) (L % 4) n (n + 2)) q t)) ∧ (∀ t, t < 6 → g 21 (q * 6 + t) = nI ((xZ h tx T (L / 4) (L % 4) n (n + 2)) q t))) : xT (k + 5) 19 [.ref 19, .ref a, .ref (43 + L), .int (nI p), .int (xoI (xhei (L / 4) (L % 4) n p)), .int (nI s)] (xH b g l) (fun r M' => M' = xH b (up (up g 20 (p * 6 + s) (nI ((xW h tx T (L / 4) (L % 4) n (n + 2)) p s))) 21 (p * 6 + s) (nI ((xZ h tx T (L / 4) (L % 4) n (n + 2)) p s))) l ∧ r = none) := by
  subst hh
  subst htx
  rw [xZ_e (p := p) (s := s), xW_e (p := p) (s := s)]
  exact c_X1_weighStepO hC hp hL hT hT8 (by omega) hs6 (fun q e => ⟨by have := (xhei_gt e).2.1; omega, fun t ht => ⟨(ho q e).1 t ht, xW_b hn q t⟩, fun t ht => ⟨(ho q e).2 t ht, xZ_b q t⟩⟩)

set_option maxRecDepth 10000 in
theorem c_X1_weigh (hC : xro a) (ha : a ≤ 15) (hp : xpn g) (hL : L < 24) (hT : g a 4 = nI T) (hT8 : T ≤ 8) (hh : g (a + 1) = h) (htx : g (a + 3) = tx) (hn : n ≤ 5) : xT (k + 6) 16 [.ref 19, .ref a, .ref (43 + L), .int (nI n)] (xH b g l) (fun r M' => ∃ g', M' = xH b g' l ∧ (∀ e, e ≠ 19 → e ≠ 20 → e ≠ 21 → g' e = g e) ∧ g' 19 2 = nI (xPr (L / 4) (L % 4) n (xW h tx T (L / 4) (L % 4) n (n + 2)) n) ∧ g' 19 3 = nI (xFw (L / 4) (L % 4) n (xZ h tx T (L / 4) (L % 4) n (n + 2)) n) ∧ g' 19 4 = (if nI (xPr (L / 4) (L % 4) n (xW h tx T (L / 4) (L % 4) n (n + 2)) n) = 0 then 0 else if n = 0 then 0 else (xbits (fun u => decide (0 < (xW h tx T (L / 4) (L % 4) n (n + 2)) 0 u)) 6)) ∧ r = none) := by
  refine xT.of rfl (Nat.le_of_ble_eq_true rfl) ?_
  change xS _ _ 0 [(0, .ref 19), (1, .ref a), (2, .ref (43 + L)), (3, .int (nI n))] [] _ _
  refine xS.s1 rfl rfl ?_
  try dsimp only [Nat.reduceAdd]
  refine xS.s1 rfl rfl ?_
  try dsimp only [Nat.reduceAdd, xi_1]
  refine xS.pI rfl rfl rfl ⟨⟨by decide, rfl⟩, rfl, by decide, by decide⟩ rfl ?_
  try dsimp only [Nat.reduceAdd]
  refine xS.s1 rfl rfl ?_
  try dsimp only [Nat.reduceAdd]
  refine xS.s1 rfl rfl ?_
  try dsimp only [Nat.reduceAdd, xi_0]
  refine xS.pI rfl rfl rfl ⟨⟨by decide, rfl⟩, rfl, by decide, by decide⟩ rfl ?_
  try dsimp only [Nat.reduceAdd]
  refine xS.s1 rfl rfl ?_
  try dsimp only [Nat.reduceAdd]
  refine xS.s1 rfl rfl ?_
  try dsimp only [Nat.reduceAdd, xi_0]
  refine xS.pI rfl rfl rfl ⟨⟨by decide, rfl⟩, rfl, by decide, by decide⟩ rfl ?_
  try dsimp only [Nat.reduceAdd]
  refine xS.s1 rfl rfl ?_
  try dsimp only [Nat.reduceAdd]
  refine xS.s1 rfl rfl ?_
  try dsimp only [Nat.reduceAdd, xi_5]
  refine xS.mn rfl rfl rfl ?_
  try dsimp only [Nat.reduceAdd]
  rw [show (if (5 : Int32) < nI n then 5 else nI n) = nI n from if_neg (Int32.not_lt.mpr (nI_le (b := 5) hn (by omega)))]
  refine xS.s1 rfl rfl ?_
  try dsimp only [Nat.reduceAdd, xi_1]
  refine xS.s1 rfl rfl ?_
  try dsimp only [Nat.reduceAdd]
  refine xS.s1 rfl rfl ?_
  try dsimp only [Nat.reduceAdd]
  refine xS.pick [0, 1, 2, 3, 4] rfl ?_
  refine xS.loop (σ := Nat → Nat → Int32) (n) (fun j S => [(4, .int (nI (n - j) - 1)), (0, .ref 19), (1, .ref a), (2, .ref (43 + L)), (3, .int (nI n))]) (fun _ S => xH b S l) (fun j S => xOU g (xW h tx T (L / 4) (L % 4) n (n + 2)) (xZ h tx T (L / 4) (L % 4) n (n + 2)) (L / 4) (L % 4) n j S) ((up (up (up g 19 2 1) 19 3 0) 19 4 0)) (rfl) (rfl) (⟨fun e h1 _ _ => by rw [up_na h1, up_na h1, up_na h1], fun p h1 h2 => absurd h1 (by omega), by rw [up_ne (Or.inr (by decide)), up_ne (Or.inr (by decide)), up_same]; rfl, by rw [up_ne (Or.inr (by decide)), up_same]; rfl, fun _ => up_same .., fun h1 h2 => absurd h1 (by omega)⟩) ?_
  intro j S hj hI ih
  obtain ⟨hf1, hd1, hr1, hw1, h01, hn1⟩ := hI
  try dsimp only
  refine xS.s1 rfl rfl ?_
  try dsimp only [Nat.reduceAdd]
  refine xS.br0 (c := .lt) (off := 61) (l := 3) rfl rfl (fun h26 => ?_) (fun h26 => ?_)
  · have g26 := xt_lt h26
    have hj0 : n - j = 0 := by
      cases e : n - j with
      | zero => rfl
      | succ m1 =>
        rw [e, show (nI (m1 + 1) - 1 : Int32) = nI m1 from pk_sub (a := m1 + 1) (b := 1) (by omega)] at g26
        exact absurd g26 (nI_pos (by omega))
    refine xS.s1 rfl rfl ?_
    try dsimp only [Nat.reduceAdd]
    refine xS.gI rfl rfl rfl ⟨by decide, rfl⟩ rfl ?_
    try dsimp only [Nat.reduceAdd]
    refine xS.br0 (c := .ne) (off := 8) (l := 3) rfl rfl (fun h91 => ?_) (fun h91 => ?_)
    · have g91 := xt_ne h91
      refine xS.ret rfl rfl rfl (fun _ _ => rfl) ?_
      have hjn : j = n := by omega
      subst hjn
      rw [hr1] at g91
      exact ⟨S, rfl, hf1, hr1, hw1, by rw [if_neg g91]; by_cases e : j = 0; (rw [if_pos e]; exact h01 e); (rw [if_neg e]; exact hn1 rfl (by omega)), rfl⟩
    · have g91 := xf_ne h91
      refine xS.s1 rfl rfl ?_
      try dsimp only [Nat.reduceAdd]
      refine xS.s1 rfl rfl ?_
      try dsimp only [Nat.reduceAdd, xi_0]
      refine xS.pI rfl rfl rfl ⟨⟨by decide, rfl⟩, rfl, by decide, by decide⟩ rfl ?_
      try dsimp only [Nat.reduceAdd]
      refine xS.ret rfl rfl rfl (fun _ _ => rfl) ?_
      have hjn : j = n := by omega
      subst hjn
      rw [hr1] at g91
      exact ⟨_, rfl, fun e h1 h2 h3 => by rw [up_na h1, hf1 e h1 h2 h3], by rw [up_ne (Or.inr (by decide))]; exact hr1, by rw [up_ne (Or.inr (by decide))]; exact hw1, by rw [if_pos g91, up_same], rfl⟩
  · have g26 := xf_lt h26
    obtain ⟨p, hpj⟩ : ∃ p, n - j = p + 1 := by
      cases e : n - j with
      | zero =>
        rw [e] at g26
        exact absurd g26 (by decide)
      | succ m1 => exact ⟨m1, rfl⟩
    rw [hpj, show (nI (p + 1) - 1 : Int32) = nI p from pk_sub (a := p + 1) (b := 1) (by omega)]
    refine xS.s1 rfl rfl ?_
    try dsimp only [Nat.reduceAdd]
    refine xS.s1 rfl rfl ?_
    try dsimp only [Nat.reduceAdd]
    refine xS.s1 rfl rfl ?_
    try dsimp only [Nat.reduceAdd]
    -- 33 yX1_heirOf
    refine xS.callS rfl rfl rfl ⟨Nat.le_of_ble_eq_true rfl, rfl⟩ (c_X1_heirOf (fun L hL => by rw [hf1 _ (by omega) (by omega) (by omega)]; exact hp L hL) hL hn (by omega)) (fun v M1 hv => ?_)
    rw [hv.1, hv.2]
    clear hv M1 v
    try dsimp only [Nat.reduceAdd, Option.toList, List.cons_append, List.nil_append, List.drop]
    refine xS.s1 rfl rfl ?_
    try dsimp only [Nat.reduceAdd]
    refine xS.s1 rfl rfl ?_
    try dsimp only [Nat.reduceAdd, xi_0]
    refine xS.s1 rfl rfl ?_
    try dsimp only [Nat.reduceAdd]
    refine xS.pick [0, 1, 2, 6, 5, 4, 3] rfl ?_
    refine xS.loop (σ := Nat → Nat → Int32) (6) (fun t S => [(6, .int (nI t)), (5, .int (xoI (xhei (L / 4) (L % 4) n p))), (4, .int (nI p)), (3, .int (nI n)), (2, .ref (43 + L)), (1, .ref a), (0, .ref 19)]) (fun _ S => xH b S l) (fun t S2 => xIN S (xW h tx T (L / 4) (L % 4) n (n + 2)) (xZ h tx T (L / 4) (L % 4) n (n + 2)) p t S2) (S) (rfl) (rfl) (⟨fun _ _ _ => rfl, fun _ _ => ⟨rfl, rfl⟩, fun s hs => absurd hs (by omega)⟩) ?_
    intro t S2 ht hI2 ih2
    obtain ⟨hf2, hi2, hd2⟩ := hI2
    have hp2 : xpn S2 := fun L hL => by rw [hf2 _ (by omega) (by omega), hf1 _ (by omega) (by omega) (by omega)]; exact hp L hL
    try dsimp only
    refine xS.s1 rfl rfl ?_
    try dsimp only [Nat.reduceAdd]
    refine xS.s1 rfl rfl ?_
    try dsimp only [Nat.reduceAdd, xj_6]
    refine xS.br (c := .ge) (off := 21) (l := 3) rfl rfl (fun h45 => ?_) (fun h45 => ?_)
    · have g45 := xt_ge h45
      have ht6 := xnle (b := 6) g45 (by omega) (by omega)
      obtain rfl : t = 6 := by omega
      refine xS.s1 rfl rfl ?_
      try dsimp only [Nat.reduceAdd]
      refine xS.s1 rfl rfl ?_
      try dsimp only [Nat.reduceAdd]
      -- 69 yX1_isHead
      refine xS.callS rfl rfl rfl ⟨Nat.le_of_ble_eq_true rfl, rfl⟩ (c_X1_isHead hp2 hL (by omega)) (fun v M1 hv => ?_)
      rw [hv.1, hv.2]
      clear hv M1 v
      try dsimp only [Nat.reduceAdd, Option.toList, List.cons_append, List.nil_append, List.drop]
      refine xS.br0 (c := .eq) (off := 9) (l := 3) rfl rfl (fun h72 => ?_) (fun h72 => ?_)
      · have g72 := xt_eq h72
        refine xS.s1 rfl rfl ?_
        try dsimp only [Nat.reduceAdd, xi_m1]
        refine xS.s1 rfl rfl ?_
        try dsimp only [Nat.reduceAdd]
        refine xS.pick [0, 6, 5, 4, 3] rfl ?_
        rw [show (nI p + -1 : Int32) = nI (n - (j + 1)) - 1 from by rw [show n - (j + 1) = p by omega]; exact (Int32.sub_eq_add_neg ..).symm]
        have ep : n - 1 - j = p := by omega
        have hh0 : xhd (L / 4) (L % 4) p = false := by cases e : xhd (L / 4) (L % 4) p; (rfl); (rw [e] at g72; exact absurd g72 (by decide))
        exact ih S2 (by omega) ⟨fun e h1 h2 h3 => by rw [hf2 e h2 h3, hf1 e h1 h2 h3], fun p1 h1 h2 s hs => by
          by_cases e : p1 = p
          · subst e
            exact hd2 s hs
          · have z := hd1 p1 (by omega) h2 s hs
            exact ⟨by rw [(hi2 _ (by omega)).1]; exact z.1, by rw [(hi2 _ (by omega)).2]; exact z.2⟩, by
          show S2 19 2 = nI (bif xhd (L / 4) (L % 4) (n - 1 - j) then _ else _)
          rw [ep, hh0, hf2 19 (by decide) (by decide)]
          exact hr1, by
          show S2 19 3 = nI (bif xhd (L / 4) (L % 4) (n - 1 - j) then _ else _)
          rw [ep, hh0, hf2 19 (by decide) (by decide)]
          exact hw1, fun z => absurd z (by omega), fun z _ => by
          rw [show p = 0 by omega, xhd_0] at hh0
          cases hh0⟩
      · have g72 := xf_eq h72
        refine xS.s1 rfl rfl ?_
        try dsimp only [Nat.reduceAdd]
        refine xS.s1 rfl rfl ?_
        try dsimp only [Nat.reduceAdd]
        -- 78 yX1_addChain
        refine xS.cv rfl rfl rfl rfl rfl rfl ⟨by decide, rfl, rfl⟩ (c_X1_addChain (A0 := (xW h tx T (L / 4) (L % 4) n (n + 2)) p) (Z0 := (xZ h tx T (L / 4) (L % 4) n (n + 2)) p) (by omega) (fun s hs => ⟨(hd2 s hs).1, xW_b hn p s⟩) (fun s hs => ⟨(hd2 s hs).2, xZ_b p s⟩)) (fun v M1 hv => ?_)
        rw [hv.1, hv.2]
        clear hv M1 v
        try dsimp only [Nat.reduceAdd, Option.toList, List.cons_append, List.nil_append, List.drop]
        refine xS.s1 rfl rfl ?_
        try dsimp only [Nat.reduceAdd, xi_m1]
        refine xS.s1 rfl rfl ?_
        try dsimp only [Nat.reduceAdd]
        refine xS.pick [0, 6, 5, 4, 3] rfl ?_
        rw [show (nI p + -1 : Int32) = nI (n - (j + 1)) - 1 from by rw [show n - (j + 1) = p by omega]; exact (Int32.sub_eq_add_neg ..).symm]
        have ep : n - 1 - j = p := by omega
        have hh1 : xhd (L / 4) (L % 4) p = true := xif1 g72
        exact ih _ (by omega) ⟨fun e h1 h2 h3 => by rw [up_na h1, up_na h1, up_na h1, hf2 e h2 h3, hf1 e h1 h2 h3], fun p1 h1 h2 s hs => by
          by_cases e : p1 = p
          · subst e
            exact ⟨by rw [up_na (by decide), up_na (by decide), up_na (by decide)]; exact (hd2 s hs).1, by rw [up_na (by decide), up_na (by decide), up_na (by decide)]; exact (hd2 s hs).2⟩
          · have z := hd1 p1 (by omega) h2 s hs
            exact ⟨by rw [up_na (by decide), up_na (by decide), up_na (by decide), (hi2 _ (by omega)).1]; exact z.1, by rw [up_na (by decide), up_na (by decide), up_na (by decide), (hi2 _ (by omega)).2]; exact z.2⟩, by
          show _ = nI (bif xhd (L / 4) (L % 4) (n - 1 - j) then xPr (L / 4) (L % 4) n (xW h tx T (L / 4) (L % 4) n (n + 2)) j * xsmn (fun _ => true) ((xW h tx T (L / 4) (L % 4) n (n + 2)) (n - 1 - j)) 6 else _)
          rw [ep, hh1, up_ne (Or.inr (by decide)), up_same, hf2 19 (by decide) (by decide), hr1, pk_mul]
          rfl, by
          show _ = nI (bif xhd (L / 4) (L % 4) (n - 1 - j) then xFw (L / 4) (L % 4) n (xZ h tx T (L / 4) (L % 4) n (n + 2)) j + xmnn (fun _ => true) ((xZ h tx T (L / 4) (L % 4) n (n + 2)) (n - 1 - j)) 6 else _)
          rw [ep, hh1, up_same, hf2 19 (by decide) (by decide), hw1, nI_add]
          rfl, fun z => absurd z (by omega), fun z _ => by
          rw [up_ne (Or.inr (by decide)), up_ne (Or.inr (by decide)), up_same, show p = 0 by omega]⟩
    · have g45 := xf_ge h45
      have ht6 := xnlt (b := 6) g45 (by omega) (by omega)
      refine xS.s1 rfl rfl ?_
      try dsimp only [Nat.reduceAdd]
      refine xS.s1 rfl rfl ?_
      try dsimp only [Nat.reduceAdd]
      refine xS.s1 rfl rfl ?_
      try dsimp only [Nat.reduceAdd]
      refine xS.s1 rfl rfl ?_
      try dsimp only [Nat.reduceAdd]
      refine xS.s1 rfl rfl ?_
      try dsimp only [Nat.reduceAdd]
      refine xS.s1 rfl rfl ?_
      try dsimp only [Nat.reduceAdd]
      -- 57 yX1_weighStep
      refine xS.cv rfl rfl rfl rfl rfl rfl ⟨by decide, rfl, rfl⟩ (c_X1_weighStepW (h := h) (tx := tx) (n := n) (T := T) hC hp2 hL (by rw [hf2 _ (by omega) (by omega), hf1 _ (by omega) (by omega) (by omega)]; exact hT) hT8 (by rw [hf2 _ (by omega) (by omega), hf1 _ (by omega) (by omega) (by omega)]; exact hh) (by rw [hf2 _ (by omega) (by omega), hf1 _ (by omega) (by omega) (by omega)]; exact htx) hn (by omega) ht6 (fun q e => by
        have hq := xhei_gt e
        exact ⟨fun t ht => by rw [(hi2 _ (by omega)).1]; exact (hd1 q (by omega) hq.2.1 t ht).1, fun t ht => by rw [(hi2 _ (by omega)).2]; exact (hd1 q (by omega) hq.2.1 t ht).2⟩)) (fun v M1 hv => ?_)
      rw [hv.1, hv.2]
      clear hv M1 v
      try dsimp only [Nat.reduceAdd, Option.toList, List.cons_append, List.nil_append, List.drop]
      refine xS.s1 rfl rfl ?_
      try dsimp only [Nat.reduceAdd, xi_1]
      rw [nI_1]
      refine xS.s1 rfl rfl ?_
      try dsimp only [Nat.reduceAdd]
      refine xS.pick [0, 1, 2, 3, 4, 5, 6] rfl ?_
      exact ih2 _ (by omega) ⟨fun e h1 h2 => by rw [up_na h2, up_na h1, hf2 e h1 h2], fun i hi => ⟨by rw [up_na (by decide), up_ne (Or.inr (by omega))]; exact (hi2 i hi).1, by rw [up_ne (Or.inr (by omega)), up_na (by decide)]; exact (hi2 i hi).2⟩, fun s hs => by
        by_cases e : s = t
        · subst e
          exact ⟨by rw [up_na (by decide), up_same], by rw [up_same]⟩
        · exact ⟨by rw [up_na (by decide), up_ne (Or.inr (by omega))]; exact (hd2 s (by omega)).1, by rw [up_ne (Or.inr (by omega)), up_na (by decide)]; exact (hd2 s (by omega)).2⟩⟩

end
