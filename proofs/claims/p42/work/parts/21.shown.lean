/-! LimpMirror: doStep, digestOf and what is shown -/
theorem xRm_fr {g g' : Nat → Nat → Int32} {a G T : Nat} {Lw : Nat → Nat} (h : ∀ i, a ≤ i → i ≤ a + 3 → g' i = g i) (hR : xRm g a G T Lw) : xRm g' a G T Lw := by
  unfold xRm at hR ⊢
  rw [h a (by omega) (by omega), h (a + 1) (by omega) (by omega), h (a + 2) (by omega) (by omega)]
  exact hR
theorem xpn_fr {g g' : Nat → Nat → Int32} (h : ∀ i, 43 ≤ i → i < 67 → g' i = g i) (hR : xpn g) : xpn g' := by
  intro L hL
  rw [h (43 + L) (by omega) (by omega)]
  exact hR L hL
def xad (g : Nat → Nat → Int32) (m : Nat) (x y : Int32) : Nat → Nat → Int32 := up (up (up (up (up g 5 (4 * m) x) 5 (4 * m + 1) y) 5 (4 * m + 2) 0) 5 (4 * m + 3) (-9)) 4 1 (nI (m + 1))
def xdo (g : Nat → Nat → Int32) (m : Nat) (x y w z : Int32) : Nat → Nat → Int32 := up (up (xad g m x y) 5 (4 * m + 2) w) 5 (4 * m + 3) z
theorem xad_na {g : Nat → Nat → Int32} {m a : Nat} {x y : Int32} (h4 : a ≠ 4) (h5 : a ≠ 5) : xad g m x y a = g a := by
  unfold xad
  rw [up_na h4, up_na h5, up_na h5, up_na h5, up_na h5]
theorem xdo_na {g : Nat → Nat → Int32} {m a : Nat} {x y w z : Int32} (h4 : a ≠ 4) (h5 : a ≠ 5) : xdo g m x y w z a = g a := by
  unfold xdo
  rw [up_na h5, up_na h5, xad_na h4 h5]
theorem xad_41 {g : Nat → Nat → Int32} {m : Nat} {x y : Int32} : xad g m x y 4 1 = nI (m + 1) := up_same ..
theorem xad_f {g : Nat → Nat → Int32} {m : Nat} {y : Int32} {s : Nat} (hs : s < 6) : (fun i => xN (xad g m (nI s) y 5 (4 * i))) = fun i => if i = m then s else xN (g 5 (4 * i)) := by
  funext i
  unfold xad
  by_cases e : i = m
  · subst e
    rw [if_pos rfl, up_ne (Or.inl (by decide)), up_ne (Or.inr (by omega)), up_ne (Or.inr (by omega)), up_ne (Or.inr (by omega)), up_same, xN_nI (by omega)]
  · rw [if_neg e, up_ne (Or.inl (by decide)), up_ne (Or.inr (by omega)), up_ne (Or.inr (by omega)), up_ne (Or.inr (by omega)), up_ne (Or.inr (by omega))]
theorem xad_x {g : Nat → Nat → Int32} {m : Nat} {y : Int32} {s i : Nat} (hs : s < 6) (hx : ∀ i, i < m → xstp (g 5 (4 * i))) (hi : i < m + 1) : xstp (xad g m (nI s) y 5 (4 * i)) := by
  unfold xad
  by_cases e : i = m
  · subst e
    rw [up_ne (Or.inl (by decide)), up_ne (Or.inr (by omega)), up_ne (Or.inr (by omega)), up_ne (Or.inr (by omega)), up_same]
    exact ⟨s, hs, rfl⟩
  · rw [up_ne (Or.inl (by decide)), up_ne (Or.inr (by omega)), up_ne (Or.inr (by omega)), up_ne (Or.inr (by omega)), up_ne (Or.inr (by omega))]
    exact hx i (by omega)
def xdg (h : Int64) (v : Int32) : Int64 := 31 * h + v.toInt64
def xdl (f : Nat → Int32) (h : Int64) (n : Nat) : Int64 := Nat.rec (motive := fun _ => Int64) h (fun j c => xdg c (f j)) n
def xdr (S : Int32) (f : Nat → Int32) (h : Int64) : Int64 := xdl f (xdg h S) (xN S)
def xda (S : Nat → Int32) (F : Nat → Nat → Int32) (h : Int64) (n : Nat) : Int64 := Nat.rec (motive := fun _ => Int64) h (fun r c => xdr (S r) (F r) c) n
theorem xN_m1 : xN (-1) = 0 := rfl
theorem xsz_lt {S : Int32} {n j : Nat} (hz : xsz S n) (hn : n < 2 ^ 31) (hj : j < 2 ^ 31) : nI j < S ↔ j < xN S := by
  rcases hz with rfl | ⟨m, h1, rfl⟩
  · rw [xN_m1]
    constructor
    · intro h
      rw [Int32.lt_iff_toInt_lt, nI_toInt hj] at h
      have : (-1 : Int32).toInt = -1 := rfl
      omega
    · intro h
      omega
  · rw [xN_nI (by omega), nI_ltI hj (by omega)]
theorem xsz_N {S : Int32} {n j : Nat} (hz : xsz S n) (hn : n < 2 ^ 31) (h : j < xN S) : S = nI (xN S) ∧ xN S ≤ n := by
  rcases hz with rfl | ⟨m, h1, rfl⟩
  · rw [xN_m1] at h
    omega
  · rw [xN_nI (by omega)]
    exact ⟨rfl, h1⟩
theorem xsz_le {S : Int32} {n : Nat} (hz : xsz S n) (hn : n < 2 ^ 31) : xN S ≤ n := by
  rcases hz with rfl | ⟨m, h1, rfl⟩
  · rw [xN_m1]; omega
  · rw [xN_nI (by omega)]; exact h1

theorem xif0n {p : Prop} [Decidable p] (h : (if p then (0 : Int32) else 1) = 0) : p := by
  by_cases hp : p
  · exact hp
  · rw [if_neg hp] at h
    exact absurd h (by decide)
theorem xif1n {p : Prop} [Decidable p] (h : ¬ (if p then (0 : Int32) else 1) = 0) : ¬ p := fun hp => by
  rw [if_pos hp] at h
  exact h rfl

section
variable {k a c n n2 m t p s d i1 j1 : Nat} {b : Nat × Nat} {g : Nat → Nat → Int32} {l : Nat → Nat → Int64} {i j x y z v w : Int32} {u w1 w2 : Int64}
variable {L G T : Nat} {Lw : Nat → Nat}
set_option maxRecDepth 10000 in
theorem c_X11_doStep (hb : xro b.1) (hR : xRm g b.1 G T Lw) (hp : xpn g) (hbv : b.1 = 7 ∨ b.1 = 11) (hs : g 4 1 = nI m) (hm : m < 40) (hx : ∀ i, i < m → xstp (g 5 (4 * i))) (hk : t < G) (hs6 : s < 6) : xT (k + 5) 135 [.ref 0, .int (nI t), .int (nI s)] (xH b g l) (fun r M' => M' = xH b (xdo g m (nI s) (nI t) (xshw (g (b.1 + 1)) (Lw t / 4) (Lw t % 4) (fun i => if i = m then s else xN (g 5 (4 * i))) m) (xfI (xfb (g (b.1 + 3)) T (nI s) (xshw (g (b.1 + 1)) (Lw t / 4) (Lw t % 4) (fun i => if i = m then s else xN (g 5 (4 * i))) m)))) l ∧ r = some (.int (xshw (g (b.1 + 1)) (Lw t / 4) (Lw t % 4) (fun i => if i = m then s else xN (g 5 (4 * i))) m))) := by
  refine xT.of rfl (Nat.le_of_ble_eq_true rfl) ?_
  dsimp only [lv_args]
  refine xS.s1 rfl rfl ?_
  try dsimp only [Nat.reduceAdd]
  refine xS.gR rfl rfl rfl ⟨by decide, rfl⟩ rfl ?_
  try dsimp only [Nat.reduceAdd]
  -- 4 yX2_size
  refine xS.cv rfl rfl rfl (xde_deeds.1 _) rfl rfl ⟨by decide, rfl, rfl⟩ (c_X2_size xde_deeds) (fun v M1 hv => ?_)
  rw [hv.1, hv.2, hs]
  clear hv M1 v
  try dsimp only [Nat.reduceAdd, Option.toList, List.cons_append, List.nil_append, List.drop]
  refine xS.s1 rfl rfl ?_
  try dsimp only [Nat.reduceAdd]
  refine xS.s1 rfl rfl ?_
  try dsimp only [Nat.reduceAdd]
  refine xS.gR rfl rfl rfl ⟨by decide, rfl⟩ rfl ?_
  try dsimp only [Nat.reduceAdd]
  refine xS.s1 rfl rfl ?_
  try dsimp only [Nat.reduceAdd]
  refine xS.s1 rfl rfl ?_
  try dsimp only [Nat.reduceAdd]
  -- 14 yX2_add
  refine xS.cv rfl rfl rfl (xde_deeds.1 _) rfl rfl ⟨by decide, rfl, rfl⟩ (c_X2_add xde_deeds hs hm) (fun v M1 hv => ?_)
  rw [hv.1, hv.2]
  clear hv M1 v
  change xS _ _ _ _ _ (xH b (xad g m (nI s) (nI t)) l) _
  have hR1 : xRm (xad g m (nI s) (nI t)) b.1 G T Lw := xRm_fr (fun i _ _ => xad_na (by omega) (by omega)) hR
  have hp1 : xpn (xad g m (nI s) (nI t)) := xpn_fr (fun i _ _ => xad_na (by omega) (by omega)) hp
  have hx1 : ∀ i, i < m + 1 → xstp (xad g m (nI s) (nI t) 5 (4 * i)) := fun i hi => xad_x hs6 hx hi
  have e1 : xad g m (nI s) (nI t) (b.1 + 1) = g (b.1 + 1) := xad_na (by omega) (by omega)
  have e3 : xad g m (nI s) (nI t) (b.1 + 3) = g (b.1 + 3) := xad_na (by omega) (by omega)
  try dsimp only [Nat.reduceAdd, Option.toList, List.cons_append, List.nil_append, List.drop]
  refine xS.s1 rfl rfl ?_
  try dsimp only [Nat.reduceAdd]
  refine xS.gR rfl rfl rfl ⟨by decide, rfl⟩ rfl ?_
  try dsimp only [Nat.reduceAdd]
  refine xS.s1 rfl rfl ?_
  try dsimp only [Nat.reduceAdd]
  refine xS.s1 rfl rfl ?_
  try dsimp only [Nat.reduceAdd]
  -- 23 yX11_paneOf
  refine xS.cv rfl rfl rfl rfl rfl rfl ⟨by decide, rfl, rfl⟩ (c_X11_paneOf hb hR1 hk) (fun v M1 hv => ?_)
  rw [hv.1, hv.2]
  clear hv M1 v
  try dsimp only [Nat.reduceAdd, Option.toList, List.cons_append, List.nil_append, List.drop]
  refine xS.s1 rfl rfl ?_
  try dsimp only [Nat.reduceAdd]
  refine xS.gR rfl rfl rfl ⟨by decide, rfl⟩ rfl ?_
  try dsimp only [Nat.reduceAdd]
  refine xS.s1 rfl rfl ?_
  try dsimp only [Nat.reduceAdd]
  -- 31 yX8_shown
  refine xS.cv rfl rfl rfl (hb.1 _) rfl rfl ⟨by decide, rfl, rfl⟩ (c_X8_shown_D hb xde_deeds hp1 (hR.2.2.1 t hk).2 (by omega) xad_41 (by omega) (fun u h => ⟨by have := xsrc_le h; omega, hx1 u (by have := xsrc_le h; omega)⟩)) (fun v M1 hv => ?_)
  rw [hv.1, hv.2, e1, xad_f hs6]
  clear hv M1 v
  try dsimp only [Nat.reduceAdd, Option.toList, List.cons_append, List.nil_append, List.drop]
  refine xS.s1 rfl rfl ?_
  try dsimp only [Nat.reduceAdd]
  refine xS.s1 rfl rfl ?_
  try dsimp only [Nat.reduceAdd]
  refine xS.gR rfl rfl rfl ⟨by decide, rfl⟩ rfl ?_
  try dsimp only [Nat.reduceAdd]
  refine xS.s1 rfl rfl ?_
  try dsimp only [Nat.reduceAdd]
  refine xS.s1 rfl rfl ?_
  try dsimp only [Nat.reduceAdd]
  refine xS.s1 rfl rfl ?_
  try dsimp only [Nat.reduceAdd]
  refine xS.gR rfl rfl rfl ⟨by decide, rfl⟩ rfl ?_
  try dsimp only [Nat.reduceAdd]
  refine xS.s1 rfl rfl ?_
  try dsimp only [Nat.reduceAdd]
  refine xS.s1 rfl rfl ?_
  try dsimp only [Nat.reduceAdd]
  -- 50 yX8_firstBroken
  refine xS.cv rfl rfl rfl (hb.1 _) rfl rfl ⟨by decide, rfl, rfl⟩ (c_X8_firstBroken hb hR1.2.1.1 hR1.2.1.2) (fun v M1 hv => ?_)
  rw [hv.1, hv.2, e3]
  clear hv M1 v
  try dsimp only [Nat.reduceAdd, Option.toList, List.cons_append, List.nil_append, List.drop]
  -- 53 yX2_see
  refine xS.cv rfl rfl rfl (xde_deeds.1 _) rfl rfl ⟨by decide, rfl, rfl⟩ (c_X2_see xde_deeds hm) (fun v M1 hv => ?_)
  rw [hv.1, hv.2]
  clear hv M1 v
  try dsimp only [Nat.reduceAdd, Option.toList, List.cons_append, List.nil_append, List.drop]
  refine xS.s1 rfl rfl ?_
  try dsimp only [Nat.reduceAdd]
  refine xS.ret rfl rfl rfl (fun _ _ => rfl) ?_
  exact ⟨rfl, rfl⟩

set_option maxRecDepth 10000 in
theorem c_X11_digestOf_rows (hz : ∀ r, r < 6 → xsz (g (23 + 2 * r) 1) 40) : xT (k + 3) 139 [.ref 1, .long u] (xH b g l) (fun r M' => M' = xH b g l ∧ r = some (.long (xda (fun r => g (23 + 2 * r) 1) (fun r => g (23 + 2 * r + 1)) u 6))) := by
  refine xT.of rfl (Nat.le_of_ble_eq_true rfl) ?_
  dsimp only [lv_args]
  refine xS.s1 rfl rfl ?_
  try dsimp only [Nat.reduceAdd]
  refine xS.s1 rfl rfl ?_
  try dsimp only [Nat.reduceAdd]
  refine xS.s1 rfl rfl ?_
  try dsimp only [Nat.reduceAdd, xi_0]
  refine xS.s1 rfl rfl ?_
  try dsimp only [Nat.reduceAdd]
  refine xS.pick [0, 1, 2] rfl ?_
  refine xS.loop (σ := Unit) (6) (fun j S => [(5, .int (nI j)), (3, .long (xda (fun r => g (23 + 2 * r) 1) (fun r => g (23 + 2 * r + 1)) u j)), (0, .ref 1)]) (fun _ _ => xH b g l) (fun _ _ => True) (()) (rfl) (rfl) (trivial) ?_
  intro j S hj hI ih
  try dsimp only
  refine xS.s1 rfl rfl ?_
  try dsimp only [Nat.reduceAdd]
  refine xS.s1 rfl rfl ?_
  try dsimp only [Nat.reduceAdd]
  refine xS.alo rfl rfl (by decide) rfl ?_
  try dsimp only [Nat.reduceAdd]
  refine xS.br (c := .ge) (off := 62) (l := 3) rfl rfl (fun h9 => ?_) (fun h9 => ?_)
  · have g9 := xt_ge h9
    refine xS.s1 rfl rfl ?_
    try dsimp only [Nat.reduceAdd]
    refine xS.ret rfl rfl rfl (fun _ _ => rfl) ?_
    have e := xnle (b := 6) g9 (by omega) (by omega)
    rw [show 6 = j by omega]
    exact ⟨rfl, rfl⟩
  · have g9 := xf_ge h9
    have hlt := xnlt (b := 6) g9 (by omega) (by omega)
    have hln := xsz_le (hz j hlt) (by omega)
    refine xS.s1 rfl rfl ?_
    try dsimp only [Nat.reduceAdd]
    refine xS.s1 rfl rfl ?_
    try dsimp only [Nat.reduceAdd]
    refine xS.s1 rfl rfl ?_
    try dsimp only [Nat.reduceAdd]
    refine xS.s1 rfl rfl ?_
    try dsimp only [Nat.reduceAdd]
    refine xS.s1 rfl rfl ?_
    try dsimp only [Nat.reduceAdd]
    refine xS.aR rfl rfl (by decide) (by omega) (xsh1_get (by omega)) ?_
    try dsimp only [Nat.reduceAdd]
    -- 21 yX0_size
    refine xS.cv rfl rfl rfl ((xce_row (r := j) (by omega)).1 _) rfl rfl ⟨by decide, rfl, rfl⟩ (c_X0_size (xce_row (r := j) (by omega))) (fun v M1 hv => ?_)
    rw [hv.1, hv.2]
    clear hv M1 v
    try dsimp only [Nat.reduceAdd, Option.toList, List.cons_append, List.nil_append, List.drop]
    refine xS.s1 rfl rfl ?_
    try dsimp only [Nat.reduceAdd]
    refine xS.s1 rfl rfl ?_
    try dsimp only [Nat.reduceAdd]
    refine xS.s1 rfl rfl ?_
    try dsimp only [Nat.reduceAdd]
    refine xS.s1 rfl rfl ?_
    try dsimp only [Nat.reduceAdd, xi_0]
    refine xS.s1 rfl rfl ?_
    try dsimp only [Nat.reduceAdd]
    refine xS.pick [0, 1, 2, 3] rfl ?_
    refine xS.loop (σ := Unit) (xN (g (23 + 2 * j) 1)) (fun i S => [(6, .int (nI i)), (3, .long (xdl (g (23 + 2 * j + 1)) (xdg (xda (fun r => g (23 + 2 * r) 1) (fun r => g (23 + 2 * r + 1)) u j) (g (23 + 2 * j) 1)) i)), (5, .int (nI j)), (0, .ref 1)]) (fun _ _ => xH b g l) (fun _ _ => True) (()) (rfl) (rfl) (trivial) ?_
    intro i S2 hi hI2 ih2
    try dsimp only
    refine xS.s1 rfl rfl ?_
    try dsimp only [Nat.reduceAdd]
    refine xS.s1 rfl rfl ?_
    try dsimp only [Nat.reduceAdd]
    refine xS.s1 rfl rfl ?_
    try dsimp only [Nat.reduceAdd]
    refine xS.aR rfl rfl (by decide) (by omega) (xsh1_get (by omega)) ?_
    try dsimp only [Nat.reduceAdd]
    -- 36 yX0_size
    refine xS.cv rfl rfl rfl ((xce_row (r := j) (by omega)).1 _) rfl rfl ⟨by decide, rfl, rfl⟩ (c_X0_size (xce_row (r := j) (by omega))) (fun v M1 hv => ?_)
    rw [hv.1, hv.2]
    clear hv M1 v
    try dsimp only [Nat.reduceAdd, Option.toList, List.cons_append, List.nil_append, List.drop]
    refine xS.br (c := .ge) (off := 26) (l := 3) rfl rfl (fun h39 => ?_) (fun h39 => ?_)
    · have g39 := xt_ge h39
      refine xS.s1 rfl rfl ?_
      try dsimp only [Nat.reduceAdd, xi_1]
      rw [nI_1]
      refine xS.s1 rfl rfl ?_
      try dsimp only [Nat.reduceAdd]
      refine xS.pick [0, 2, 3] rfl ?_
      have ei : i = xN (g (23 + 2 * j) 1) := by
        have := (not_congr (xsz_lt (hz j hlt) (by omega) (by omega : i < 2 ^ 31))).mp (Int32.not_lt.mpr g39)
        omega
      subst ei
      exact ih () (by omega) trivial
    · have g39 := xf_ge h39
      have hlt2 := (xsz_lt (hz j hlt) (by omega) (by omega)).mp g39
      have hN := xsz_N (hz j hlt) (by omega) hlt2
      refine xS.s1 rfl rfl ?_
      try dsimp only [Nat.reduceAdd]
      refine xS.s1 rfl rfl ?_
      try dsimp only [Nat.reduceAdd]
      refine xS.s1 rfl rfl ?_
      try dsimp only [Nat.reduceAdd]
      refine xS.s1 rfl rfl ?_
      try dsimp only [Nat.reduceAdd]
      refine xS.s1 rfl rfl ?_
      try dsimp only [Nat.reduceAdd]
      refine xS.aR rfl rfl (by decide) (by omega) (xsh1_get (by omega)) ?_
      try dsimp only [Nat.reduceAdd]
      refine xS.s1 rfl rfl ?_
      try dsimp only [Nat.reduceAdd]
      -- 53 yX0_get
      refine xS.cv rfl rfl rfl ((xce_row (r := j) (by omega)).1 _) rfl rfl ⟨by decide, rfl, rfl⟩ (c_X0_get (xce_row hlt) hN.1 hN.2 hlt2) (fun v M1 hv => ?_)
      rw [hv.1, hv.2]
      clear hv M1 v
      try dsimp only [Nat.reduceAdd, Option.toList, List.cons_append, List.nil_append, List.drop]
      refine xS.s1 rfl rfl ?_
      try dsimp only [Nat.reduceAdd]
      refine xS.s1 rfl rfl ?_
      try dsimp only [Nat.reduceAdd]
      refine xS.s1 rfl rfl ?_
      try dsimp only [Nat.reduceAdd]
      refine xS.s1 rfl rfl ?_
      try dsimp only [Nat.reduceAdd, xi_1]
      rw [nI_1]
      refine xS.s1 rfl rfl ?_
      try dsimp only [Nat.reduceAdd]
      refine xS.pick [0, 1, 2, 3] rfl ?_
      exact ih2 () (by omega) trivial

set_option maxRecDepth 10000 in
theorem c_X11_digestOf_texts (hz : ∀ r, r < 4 → xsz (g (35 + 2 * r) 1) 60) : xT (k + 3) 139 [.ref 2, .long u] (xH b g l) (fun r M' => M' = xH b g l ∧ r = some (.long (xda (fun r => g (35 + 2 * r) 1) (fun r => g (35 + 2 * r + 1)) u 4))) := by
  refine xT.of rfl (Nat.le_of_ble_eq_true rfl) ?_
  dsimp only [lv_args]
  refine xS.s1 rfl rfl ?_
  try dsimp only [Nat.reduceAdd]
  refine xS.s1 rfl rfl ?_
  try dsimp only [Nat.reduceAdd]
  refine xS.s1 rfl rfl ?_
  try dsimp only [Nat.reduceAdd, xi_0]
  refine xS.s1 rfl rfl ?_
  try dsimp only [Nat.reduceAdd]
  refine xS.pick [0, 1, 2] rfl ?_
  refine xS.loop (σ := Unit) (4) (fun j S => [(5, .int (nI j)), (3, .long (xda (fun r => g (35 + 2 * r) 1) (fun r => g (35 + 2 * r + 1)) u j)), (0, .ref 2)]) (fun _ _ => xH b g l) (fun _ _ => True) (()) (rfl) (rfl) (trivial) ?_
  intro j S hj hI ih
  try dsimp only
  refine xS.s1 rfl rfl ?_
  try dsimp only [Nat.reduceAdd]
  refine xS.s1 rfl rfl ?_
  try dsimp only [Nat.reduceAdd]
  refine xS.alo rfl rfl (by decide) rfl ?_
  try dsimp only [Nat.reduceAdd]
  refine xS.br (c := .ge) (off := 62) (l := 3) rfl rfl (fun h9 => ?_) (fun h9 => ?_)
  · have g9 := xt_ge h9
    refine xS.s1 rfl rfl ?_
    try dsimp only [Nat.reduceAdd]
    refine xS.ret rfl rfl rfl (fun _ _ => rfl) ?_
    have e := xnle (b := 4) g9 (by omega) (by omega)
    rw [show 4 = j by omega]
    exact ⟨rfl, rfl⟩
  · have g9 := xf_ge h9
    have hlt := xnlt (b := 4) g9 (by omega) (by omega)
    have hln := xsz_le (hz j hlt) (by omega)
    refine xS.s1 rfl rfl ?_
    try dsimp only [Nat.reduceAdd]
    refine xS.s1 rfl rfl ?_
    try dsimp only [Nat.reduceAdd]
    refine xS.s1 rfl rfl ?_
    try dsimp only [Nat.reduceAdd]
    refine xS.s1 rfl rfl ?_
    try dsimp only [Nat.reduceAdd]
    refine xS.s1 rfl rfl ?_
    try dsimp only [Nat.reduceAdd]
    refine xS.aR rfl rfl (by decide) (by omega) (xsh2_get (by omega)) ?_
    try dsimp only [Nat.reduceAdd]
    -- 21 yX0_size
    refine xS.cv rfl rfl rfl ((xce_text (r := j) (by omega)).1 _) rfl rfl ⟨by decide, rfl, rfl⟩ (c_X0_size (xce_text (r := j) (by omega))) (fun v M1 hv => ?_)
    rw [hv.1, hv.2]
    clear hv M1 v
    try dsimp only [Nat.reduceAdd, Option.toList, List.cons_append, List.nil_append, List.drop]
    refine xS.s1 rfl rfl ?_
    try dsimp only [Nat.reduceAdd]
    refine xS.s1 rfl rfl ?_
    try dsimp only [Nat.reduceAdd]
    refine xS.s1 rfl rfl ?_
    try dsimp only [Nat.reduceAdd]
    refine xS.s1 rfl rfl ?_
    try dsimp only [Nat.reduceAdd, xi_0]
    refine xS.s1 rfl rfl ?_
    try dsimp only [Nat.reduceAdd]
    refine xS.pick [0, 1, 2, 3] rfl ?_
    refine xS.loop (σ := Unit) (xN (g (35 + 2 * j) 1)) (fun i S => [(6, .int (nI i)), (3, .long (xdl (g (35 + 2 * j + 1)) (xdg (xda (fun r => g (35 + 2 * r) 1) (fun r => g (35 + 2 * r + 1)) u j) (g (35 + 2 * j) 1)) i)), (5, .int (nI j)), (0, .ref 2)]) (fun _ _ => xH b g l) (fun _ _ => True) (()) (rfl) (rfl) (trivial) ?_
    intro i S2 hi hI2 ih2
    try dsimp only
    refine xS.s1 rfl rfl ?_
    try dsimp only [Nat.reduceAdd]
    refine xS.s1 rfl rfl ?_
    try dsimp only [Nat.reduceAdd]
    refine xS.s1 rfl rfl ?_
    try dsimp only [Nat.reduceAdd]
    refine xS.aR rfl rfl (by decide) (by omega) (xsh2_get (by omega)) ?_
    try dsimp only [Nat.reduceAdd]
    -- 36 yX0_size
    refine xS.cv rfl rfl rfl ((xce_text (r := j) (by omega)).1 _) rfl rfl ⟨by decide, rfl, rfl⟩ (c_X0_size (xce_text (r := j) (by omega))) (fun v M1 hv => ?_)
    rw [hv.1, hv.2]
    clear hv M1 v
    try dsimp only [Nat.reduceAdd, Option.toList, List.cons_append, List.nil_append, List.drop]
    refine xS.br (c := .ge) (off := 26) (l := 3) rfl rfl (fun h39 => ?_) (fun h39 => ?_)
    · have g39 := xt_ge h39
      refine xS.s1 rfl rfl ?_
      try dsimp only [Nat.reduceAdd, xi_1]
      rw [nI_1]
      refine xS.s1 rfl rfl ?_
      try dsimp only [Nat.reduceAdd]
      refine xS.pick [0, 2, 3] rfl ?_
      have ei : i = xN (g (35 + 2 * j) 1) := by
        have := (not_congr (xsz_lt (hz j hlt) (by omega) (by omega : i < 2 ^ 31))).mp (Int32.not_lt.mpr g39)
        omega
      subst ei
      exact ih () (by omega) trivial
    · have g39 := xf_ge h39
      have hlt2 := (xsz_lt (hz j hlt) (by omega) (by omega)).mp g39
      have hN := xsz_N (hz j hlt) (by omega) hlt2
      refine xS.s1 rfl rfl ?_
      try dsimp only [Nat.reduceAdd]
      refine xS.s1 rfl rfl ?_
      try dsimp only [Nat.reduceAdd]
      refine xS.s1 rfl rfl ?_
      try dsimp only [Nat.reduceAdd]
      refine xS.s1 rfl rfl ?_
      try dsimp only [Nat.reduceAdd]
      refine xS.s1 rfl rfl ?_
      try dsimp only [Nat.reduceAdd]
      refine xS.aR rfl rfl (by decide) (by omega) (xsh2_get (by omega)) ?_
      try dsimp only [Nat.reduceAdd]
      refine xS.s1 rfl rfl ?_
      try dsimp only [Nat.reduceAdd]
      -- 53 yX0_get
      refine xS.cv rfl rfl rfl ((xce_text (r := j) (by omega)).1 _) rfl rfl ⟨by decide, rfl, rfl⟩ (c_X0_get (xce_text hlt) hN.1 hN.2 hlt2) (fun v M1 hv => ?_)
      rw [hv.1, hv.2]
      clear hv M1 v
      try dsimp only [Nat.reduceAdd, Option.toList, List.cons_append, List.nil_append, List.drop]
      refine xS.s1 rfl rfl ?_
      try dsimp only [Nat.reduceAdd]
      refine xS.s1 rfl rfl ?_
      try dsimp only [Nat.reduceAdd]
      refine xS.s1 rfl rfl ?_
      try dsimp only [Nat.reduceAdd]
      refine xS.s1 rfl rfl ?_
      try dsimp only [Nat.reduceAdd, xi_1]
      rw [nI_1]
      refine xS.s1 rfl rfl ?_
      try dsimp only [Nat.reduceAdd]
      refine xS.pick [0, 1, 2, 3] rfl ?_
      exact ih2 () (by omega) trivial

def xlst (x : Int32) : Nat := (xfst (fun s => decide ((x >>> (nI s &&& 31)) &&& 1 = 1)) 6).getD 0

set_option maxRecDepth 10000 in
theorem c_X11_leastOf  : xT (k + 1) 141 [.int x] (xH b g l) (fun r M' => M' = xH b g l ∧ r = some (.int (nI (xlst x)))) := by
  refine xT.of rfl (Nat.le_of_ble_eq_true rfl) ?_
  dsimp only [lv_args]
  refine xS.s1 rfl rfl ?_
  try dsimp only [Nat.reduceAdd, xi_0]
  refine xS.s1 rfl rfl ?_
  try dsimp only [Nat.reduceAdd]
  refine xS.pick [0, 1] rfl ?_
  refine xS.loop (σ := Unit) (6) (fun j S => [(1, .int (nI j)), (0, .int x)]) (fun _ _ => xH b g l) (fun j _ => xfst (fun s => decide ((x >>> (nI s &&& 31)) &&& 1 = 1)) j = none) (()) (rfl) (rfl) (rfl) ?_
  intro j S hj hI ih
  try dsimp only
  refine xS.s1 rfl rfl ?_
  try dsimp only [Nat.reduceAdd]
  refine xS.s1 rfl rfl ?_
  try dsimp only [Nat.reduceAdd, xj_6]
  refine xS.br (c := .ge) (off := 20) (l := 3) rfl rfl (fun h5 => ?_) (fun h5 => ?_)
  · have g5 := xt_ge h5
    refine xS.s1 rfl rfl ?_
    try dsimp only [Nat.reduceAdd, xi_0]
    refine xS.ret rfl rfl rfl (fun _ _ => rfl) ?_
    unfold xlst
    have e := xnle (b := 6) g5 (by omega) (by omega)
    rw [show 6 = j by omega, hI]
    exact ⟨rfl, rfl⟩
  · have g5 := xf_ge h5
    have hlt := xnlt (b := 6) g5 (by omega) (by omega)
    refine xS.s1 rfl rfl ?_
    try dsimp only [Nat.reduceAdd]
    refine xS.s1 rfl rfl ?_
    try dsimp only [Nat.reduceAdd]
    refine xS.s1 rfl rfl ?_
    try dsimp only [Nat.reduceAdd]
    refine xS.s1 rfl rfl ?_
    try dsimp only [Nat.reduceAdd, xi_1]
    refine xS.s1 rfl rfl ?_
    try dsimp only [Nat.reduceAdd]
    refine xS.s1 rfl rfl ?_
    try dsimp only [Nat.reduceAdd, xi_1]
    refine xS.br (c := .ne) (off := 5) (l := 3) rfl rfl (fun h14 => ?_) (fun h14 => ?_)
    · have g14 := xt_ne h14
      refine xS.s1 rfl rfl ?_
      try dsimp only [Nat.reduceAdd, xi_1]
      rw [nI_1]
      refine xS.s1 rfl rfl ?_
      try dsimp only [Nat.reduceAdd]
      refine xS.pick [0, 1] rfl ?_
      exact ih () (by omega) (xfst_n hI (by simp [g14]))
    · have g14 := xf_ne h14
      refine xS.s1 rfl rfl ?_
      try dsimp only [Nat.reduceAdd]
      refine xS.ret rfl rfl rfl (fun _ _ => rfl) ?_
      unfold xlst
      rw [xfst_at hI (by simp [g14]) hlt]
      exact ⟨rfl, rfl⟩

set_option maxRecDepth 10000 in
theorem c_X11_firstNotShown (hb : xro b.1) (hR : xRm g b.1 G T Lw) (hp : xpn g) (hL : L < 24) (hF : xce c n) (hs : g c 1 = nI m) (hm : m ≤ n) (hx : ∀ i, i < m → xstp (g (c + 1) i)) (hD : xce d n2) (hs2 : g d 1 = nI m) (hm2 : m ≤ n2) : xT (k + 5) 142 [.ref 0, .ref (43 + L), .ref c, .ref d] (xH b g l) (fun r M' => M' = xH b g l ∧ r = some (.int (xfI (xfst (fun i => !decide (xshw (g (b.1 + 1)) (L / 4) (L % 4) (fun i => xN (g (c + 1) i)) i = g (d + 1) i)) m)))) := by
  refine xT.of rfl (Nat.le_of_ble_eq_true rfl) ?_
  dsimp only [lv_args]
  refine xS.s1 rfl rfl ?_
  try dsimp only [Nat.reduceAdd, xi_0]
  refine xS.s1 rfl rfl ?_
  try dsimp only [Nat.reduceAdd]
  refine xS.pick [0, 1, 2, 3, 4] rfl ?_
  refine xS.loop (σ := Unit) (m) (fun j S => [(4, .int (nI j)), (0, .ref 0), (1, .ref (43 + L)), (2, .ref c), (3, .ref d)]) (fun _ _ => xH b g l) (fun j _ => xfst (fun i => !decide (xshw (g (b.1 + 1)) (L / 4) (L % 4) (fun i => xN (g (c + 1) i)) i = g (d + 1) i)) j = none) (()) (rfl) (rfl) (rfl) ?_
  intro j S hj hI ih
  try dsimp only
  have hn := xn31 hF.2
  refine xS.s1 rfl rfl ?_
  try dsimp only [Nat.reduceAdd]
  refine xS.s1 rfl rfl ?_
  try dsimp only [Nat.reduceAdd]
  -- 6 yX0_size
  refine xS.cv rfl rfl rfl (hF.1 _) rfl rfl ⟨by decide, rfl, rfl⟩ (c_X0_size hF) (fun v M1 hv => ?_)
  rw [hv.1, hv.2]
  clear hv M1 v
  try dsimp only [Nat.reduceAdd, Option.toList, List.cons_append, List.nil_append, List.drop]
  refine xS.br (c := .ge) (off := 32) (l := 3) rfl rfl (fun h9 => ?_) (fun h9 => ?_)
  · have g9 := xt_ge h9
    refine xS.s1 rfl rfl ?_
    try dsimp only [Nat.reduceAdd, xj_m9]
    refine xS.ret rfl rfl rfl (fun _ _ => rfl) ?_
    rw [hs] at g9
    have e := xnle g9 (by omega) (by omega)
    rw [show m = j by omega, hI]
    exact ⟨rfl, rfl⟩
  · have g9 := xf_ge h9
    rw [hs] at g9
    have hlt := xnlt g9 (by omega) (by omega)
    refine xS.s1 rfl rfl ?_
    try dsimp only [Nat.reduceAdd]
    refine xS.gR rfl rfl rfl ⟨by decide, rfl⟩ rfl ?_
    try dsimp only [Nat.reduceAdd]
    refine xS.s1 rfl rfl ?_
    try dsimp only [Nat.reduceAdd]
    refine xS.s1 rfl rfl ?_
    try dsimp only [Nat.reduceAdd]
    refine xS.s1 rfl rfl ?_
    try dsimp only [Nat.reduceAdd]
    -- 20 yX8_shown
    refine xS.cv rfl rfl rfl (hb.1 _) rfl rfl ⟨by decide, rfl, rfl⟩ (c_X8_shown_C hb hF hp hL (by have := hF.2.2; omega) hs hm (fun s h => ⟨Nat.lt_of_le_of_lt (xsrc_le h) hlt, hx s (Nat.lt_of_le_of_lt (xsrc_le h) hlt)⟩)) (fun v M1 hv => ?_)
    rw [hv.1, hv.2]
    clear hv M1 v
    try dsimp only [Nat.reduceAdd, Option.toList, List.cons_append, List.nil_append, List.drop]
    refine xS.s1 rfl rfl ?_
    try dsimp only [Nat.reduceAdd]
    refine xS.s1 rfl rfl ?_
    try dsimp only [Nat.reduceAdd]
    -- 26 yX0_get
    refine xS.cv rfl rfl rfl (hD.1 _) rfl rfl ⟨by decide, rfl, rfl⟩ (c_X0_get hD hs2 hm2 hlt) (fun v M1 hv => ?_)
    rw [hv.1, hv.2]
    clear hv M1 v
    try dsimp only [Nat.reduceAdd, Option.toList, List.cons_append, List.nil_append, List.drop]
    refine xS.br (c := .eq) (off := 6) (l := 3) rfl rfl (fun h29 => ?_) (fun h29 => ?_)
    · have g29 := xt_eq h29
      refine xS.s1 rfl rfl ?_
      try dsimp only [Nat.reduceAdd, xi_1]
      rw [nI_1]
      refine xS.s1 rfl rfl ?_
      try dsimp only [Nat.reduceAdd]
      refine xS.pick [0, 1, 2, 3, 4] rfl ?_
      exact ih () (by omega) (xfst_n hI (by simp [g29]))
    · have g29 := xf_eq h29
      refine xS.s1 rfl rfl ?_
      try dsimp only [Nat.reduceAdd]
      refine xS.ret rfl rfl rfl (fun _ _ => rfl) ?_
      rw [xfst_at hI (by simp [g29]) hlt]
      exact ⟨rfl, rfl⟩

set_option maxRecDepth 10000 in
theorem c_X11_lawsOf (hb : xro b.1) (hR : xRm g b.1 G T Lw) (hp : xpn g) (hF : xce c n) (hs : g c 1 = nI m) (hm : m ≤ n) (hx : ∀ i, i < m → xstp (g (c + 1) i)) (hD : xce d n2) (hs2 : g d 1 = nI m) (hm2 : m ≤ n2) : xT (k + 6) 143 [.ref 0, .ref c, .ref d] (xH b g l) (fun r M' => M' = xH b g l ∧ r = some (.int (xbits (fun j => decide (xfst (fun i => !decide (xshw (g (b.1 + 1)) (j / 4) (j % 4) (fun i => xN (g (c + 1) i)) i = g (d + 1) i)) m = none)) 24))) := by
  refine xT.of rfl (Nat.le_of_ble_eq_true rfl) ?_
  dsimp only [lv_args]
  refine xS.s1 rfl rfl ?_
  try dsimp only [Nat.reduceAdd, xi_0]
  refine xS.s1 rfl rfl ?_
  try dsimp only [Nat.reduceAdd]
  refine xS.s1 rfl rfl ?_
  try dsimp only [Nat.reduceAdd, xi_0]
  refine xS.s1 rfl rfl ?_
  try dsimp only [Nat.reduceAdd]
  refine xS.pick [0, 1, 2, 3, 4] rfl ?_
  refine xS.loop (σ := Unit) (24) (fun j S => [(4, .int (nI j)), (3, .int (xbits (fun j => decide (xfst (fun i => !decide (xshw (g (b.1 + 1)) (j / 4) (j % 4) (fun i => xN (g (c + 1) i)) i = g (d + 1) i)) m = none)) j)), (0, .ref 0), (1, .ref c), (2, .ref d)]) (fun _ _ => xH b g l) (fun _ _ => True) (()) (rfl) (rfl) (trivial) ?_
  intro j S hj hI ih
  try dsimp only
  have hn := xn31 hF.2
  refine xS.s1 rfl rfl ?_
  try dsimp only [Nat.reduceAdd]
  refine xS.s1 rfl rfl ?_
  try dsimp only [Nat.reduceAdd, xj_24]
  refine xS.br (c := .ge) (off := 34) (l := 3) rfl rfl (fun h9 => ?_) (fun h9 => ?_)
  · have g9 := xt_ge h9
    refine xS.s1 rfl rfl ?_
    try dsimp only [Nat.reduceAdd]
    refine xS.ret rfl rfl rfl (fun _ _ => rfl) ?_
    have e := xnle (b := 24) g9 (by omega) (by omega)
    rw [show 24 = j by omega]
    exact ⟨rfl, rfl⟩
  · have g9 := xf_ge h9
    have hlt := xnlt (b := 24) g9 (by omega) (by omega)
    refine xS.s1 rfl rfl ?_
    try dsimp only [Nat.reduceAdd]
    refine xS.s1 rfl rfl ?_
    try dsimp only [Nat.reduceAdd]
    refine xS.gR rfl rfl rfl ⟨by decide, rfl⟩ rfl ?_
    try dsimp only [Nat.reduceAdd]
    refine xS.s1 rfl rfl ?_
    try dsimp only [Nat.reduceAdd]
    refine xS.aR rfl rfl (by decide) (by omega) (xsh3_get (by omega)) ?_
    try dsimp only [Nat.reduceAdd]
    refine xS.s1 rfl rfl ?_
    try dsimp only [Nat.reduceAdd]
    refine xS.s1 rfl rfl ?_
    try dsimp only [Nat.reduceAdd]
    -- 22 yX11_firstNotShown
    refine xS.cv rfl rfl rfl rfl rfl rfl ⟨by decide, rfl, rfl⟩ (c_X11_firstNotShown hb hR hp hlt hF hs hm hx hD hs2 hm2) (fun v M1 hv => ?_)
    rw [hv.1, hv.2]
    clear hv M1 v
    try dsimp only [Nat.reduceAdd, Option.toList, List.cons_append, List.nil_append, List.drop]
    refine xS.s1 rfl rfl ?_
    try dsimp only [Nat.reduceAdd, xj_m9]
    refine xS.br (c := .ne) (off := 10) (l := 3) rfl rfl (fun h27 => ?_) (fun h27 => ?_)
    · have g27 := xt_ne h27
      refine xS.s1 rfl rfl ?_
      try dsimp only [Nat.reduceAdd, xi_1]
      rw [nI_1]
      refine xS.s1 rfl rfl ?_
      try dsimp only [Nat.reduceAdd]
      refine xS.pick [0, 1, 2, 3, 4] rfl ?_
      rw [xfI_none (fun d h => by have := (xfst_lt h).1; omega)] at g27
      have ih2 := ih () (by omega) trivial
      first | (rw [show xbits (fun j => decide (xfst (fun i => !decide (xshw (g (b.1 + 1)) (j / 4) (j % 4) (fun i => xN (g (c + 1) i)) i = g (d + 1) i)) m = none)) (j + 1) = xbits (fun j => decide (xfst (fun i => !decide (xshw (g (b.1 + 1)) (j / 4) (j % 4) (fun i => xN (g (c + 1) i)) i = g (d + 1) i)) m = none)) j from by rw [xbits_s, decide_eq_false g27]; rfl] at ih2; exact ih2) | (rw [show xbits (fun j => decide (xfst (fun i => !decide (xshw (g (b.1 + 1)) (j / 4) (j % 4) (fun i => xN (g (c + 1) i)) i = g (d + 1) i)) m = none)) (j + 1) = xbits (fun j => decide (xfst (fun i => !decide (xshw (g (b.1 + 1)) (j / 4) (j % 4) (fun i => xN (g (c + 1) i)) i = g (d + 1) i)) m = none)) j ||| (1 <<< (nI j &&& 31)) from by rw [xbits_s, decide_eq_true g27]; rfl] at ih2; exact ih2)
    · have g27 := xf_ne h27
      refine xS.s1 rfl rfl ?_
      try dsimp only [Nat.reduceAdd]
      refine xS.s1 rfl rfl ?_
      try dsimp only [Nat.reduceAdd, xi_1]
      refine xS.s1 rfl rfl ?_
      try dsimp only [Nat.reduceAdd]
      refine xS.s1 rfl rfl ?_
      try dsimp only [Nat.reduceAdd]
      refine xS.s1 rfl rfl ?_
      try dsimp only [Nat.reduceAdd]
      refine xS.s1 rfl rfl ?_
      try dsimp only [Nat.reduceAdd]
      refine xS.s1 rfl rfl ?_
      try dsimp only [Nat.reduceAdd, xi_1]
      rw [nI_1]
      refine xS.s1 rfl rfl ?_
      try dsimp only [Nat.reduceAdd]
      refine xS.pick [0, 1, 2, 3, 4] rfl ?_
      rw [xfI_none (fun d h => by have := (xfst_lt h).1; omega)] at g27
      have ih2 := ih () (by omega) trivial
      first | (rw [show xbits (fun j => decide (xfst (fun i => !decide (xshw (g (b.1 + 1)) (j / 4) (j % 4) (fun i => xN (g (c + 1) i)) i = g (d + 1) i)) m = none)) (j + 1) = xbits (fun j => decide (xfst (fun i => !decide (xshw (g (b.1 + 1)) (j / 4) (j % 4) (fun i => xN (g (c + 1) i)) i = g (d + 1) i)) m = none)) j from by rw [xbits_s, decide_eq_false g27]; rfl] at ih2; exact ih2) | (rw [show xbits (fun j => decide (xfst (fun i => !decide (xshw (g (b.1 + 1)) (j / 4) (j % 4) (fun i => xN (g (c + 1) i)) i = g (d + 1) i)) m = none)) (j + 1) = xbits (fun j => decide (xfst (fun i => !decide (xshw (g (b.1 + 1)) (j / 4) (j % 4) (fun i => xN (g (c + 1) i)) i = g (d + 1) i)) m = none)) j ||| (1 <<< (nI j &&& 31)) from by rw [xbits_s, decide_eq_true g27]; rfl] at ih2; exact ih2)

set_option maxRecDepth 10000 in
theorem c_X11_breakingOfTwelve (hb : xro b.1) (hR : xRm g b.1 G T Lw) (hp : xpn g) (hL : L < 24) (hF : xce c n) (hs : g c 1 = nI m) (hm : m ≤ n) (hx : ∀ i, i < m → xstp (g (c + 1) i)) (hlt : t < m) : xT (k + 5) 147 [.ref 0, .ref (43 + L), .ref c, .int (nI t), .int x] (xH b g l) (fun r M' => M' = xH b g l ∧ r = some (.int ((if xfb (g (b.1 + 3)) T (g (c + 1) t) 0 = none then 0 else x) + (if xfb (g (b.1 + 3)) T (g (c + 1) t) (xshw (g (b.1 + 1)) (L / 4) (L % 4) (fun i => xN (g (c + 1) i)) t) = none then 0 else 12 - x)))) := by
  refine xT.of rfl (Nat.le_of_ble_eq_true rfl) ?_
  dsimp only [lv_args]
  refine xS.s1 rfl rfl ?_
  try dsimp only [Nat.reduceAdd]
  refine xS.s1 rfl rfl ?_
  try dsimp only [Nat.reduceAdd]
  -- 2 yX0_get
  refine xS.cv rfl rfl rfl (hF.1 _) rfl rfl ⟨by decide, rfl, rfl⟩ (c_X0_get hF hs hm hlt) (fun v M1 hv => ?_)
  rw [hv.1, hv.2]
  clear hv M1 v
  try dsimp only [Nat.reduceAdd, Option.toList, List.cons_append, List.nil_append, List.drop]
  refine xS.s1 rfl rfl ?_
  try dsimp only [Nat.reduceAdd]
  refine xS.s1 rfl rfl ?_
  try dsimp only [Nat.reduceAdd]
  refine xS.gR rfl rfl rfl ⟨by decide, rfl⟩ rfl ?_
  try dsimp only [Nat.reduceAdd]
  refine xS.s1 rfl rfl ?_
  try dsimp only [Nat.reduceAdd]
  refine xS.s1 rfl rfl ?_
  try dsimp only [Nat.reduceAdd, xi_0]
  -- 14 yX8_isBroken
  refine xS.cv rfl rfl rfl (hb.1 _) rfl rfl ⟨by decide, rfl, rfl⟩ (c_X8_isBroken hb hR.2.1.1 hR.2.1.2) (fun v M1 hv => ?_)
  rw [hv.1, hv.2]
  clear hv M1 v
  try dsimp only [Nat.reduceAdd, Option.toList, List.cons_append, List.nil_append, List.drop]
  refine xS.br0 (c := .eq) (off := 8) (l := 3) rfl rfl (fun h17 => ?_) (fun h17 => ?_)
  · have g17 := xt_eq h17
    have e17 := xif0n g17
    refine xS.s1 rfl rfl ?_
    try dsimp only [Nat.reduceAdd, xi_0]
    refine xS.s1 rfl rfl ?_
    try dsimp only [Nat.reduceAdd]
    refine xS.s1 rfl rfl ?_
    try dsimp only [Nat.reduceAdd]
    refine xS.gR rfl rfl rfl ⟨by decide, rfl⟩ rfl ?_
    try dsimp only [Nat.reduceAdd]
    refine xS.s1 rfl rfl ?_
    try dsimp only [Nat.reduceAdd]
    refine xS.s1 rfl rfl ?_
    try dsimp only [Nat.reduceAdd]
    refine xS.gR rfl rfl rfl ⟨by decide, rfl⟩ rfl ?_
    try dsimp only [Nat.reduceAdd]
    refine xS.s1 rfl rfl ?_
    try dsimp only [Nat.reduceAdd]
    refine xS.s1 rfl rfl ?_
    try dsimp only [Nat.reduceAdd]
    refine xS.s1 rfl rfl ?_
    try dsimp only [Nat.reduceAdd]
    -- 41 yX8_shown
    refine xS.cv rfl rfl rfl (hb.1 _) rfl rfl ⟨by decide, rfl, rfl⟩ (c_X8_shown_C hb hF hp hL (by have := hF.2.2; omega) hs hm (fun s h => ⟨Nat.lt_of_le_of_lt (xsrc_le h) hlt, hx s (Nat.lt_of_le_of_lt (xsrc_le h) hlt)⟩)) (fun v M1 hv => ?_)
    rw [hv.1, hv.2]
    clear hv M1 v
    try dsimp only [Nat.reduceAdd, Option.toList, List.cons_append, List.nil_append, List.drop]
    -- 44 yX8_isBroken
    refine xS.cv rfl rfl rfl (hb.1 _) rfl rfl ⟨by decide, rfl, rfl⟩ (c_X8_isBroken hb hR.2.1.1 hR.2.1.2) (fun v M1 hv => ?_)
    rw [hv.1, hv.2]
    clear hv M1 v
    try dsimp only [Nat.reduceAdd, Option.toList, List.cons_append, List.nil_append, List.drop]
    refine xS.br0 (c := .eq) (off := 11) (l := 3) rfl rfl (fun h47 => ?_) (fun h47 => ?_)
    · have g47 := xt_eq h47
      have e47 := xif0n g47
      refine xS.s1 rfl rfl ?_
      try dsimp only [Nat.reduceAdd, xi_0]
      refine xS.s1 rfl rfl ?_
      try dsimp only [Nat.reduceAdd]
      refine xS.s1 rfl rfl ?_
      try dsimp only [Nat.reduceAdd]
      refine xS.s1 rfl rfl ?_
      try dsimp only [Nat.reduceAdd]
      refine xS.s1 rfl rfl ?_
      try dsimp only [Nat.reduceAdd]
      refine xS.ret rfl rfl rfl (fun _ _ => rfl) ?_
      refine ⟨rfl, ?_⟩
      first | (rw [if_pos e17, if_pos e47]; done) | (rw [if_pos e17, if_neg e47]; done) | (rw [if_neg e17, if_pos e47]; done) | (rw [if_neg e17, if_neg e47]; done)
    · have g47 := xf_eq h47
      have e47 := xif1n g47
      refine xS.s1 rfl rfl ?_
      try dsimp only [Nat.reduceAdd, xj_12]
      refine xS.s1 rfl rfl ?_
      try dsimp only [Nat.reduceAdd]
      refine xS.s1 rfl rfl ?_
      try dsimp only [Nat.reduceAdd]
      refine xS.s1 rfl rfl ?_
      try dsimp only [Nat.reduceAdd]
      refine xS.s1 rfl rfl ?_
      try dsimp only [Nat.reduceAdd]
      refine xS.s1 rfl rfl ?_
      try dsimp only [Nat.reduceAdd]
      refine xS.s1 rfl rfl ?_
      try dsimp only [Nat.reduceAdd]
      refine xS.s1 rfl rfl ?_
      try dsimp only [Nat.reduceAdd]
      refine xS.ret rfl rfl rfl (fun _ _ => rfl) ?_
      refine ⟨rfl, ?_⟩
      first | (rw [if_pos e17, if_pos e47]; done) | (rw [if_pos e17, if_neg e47]; done) | (rw [if_neg e17, if_pos e47]; done) | (rw [if_neg e17, if_neg e47]; done)
  · have g17 := xf_eq h17
    have e17 := xif1n g17
    refine xS.s1 rfl rfl ?_
    try dsimp only [Nat.reduceAdd]
    refine xS.s1 rfl rfl ?_
    try dsimp only [Nat.reduceAdd]
    refine xS.s1 rfl rfl ?_
    try dsimp only [Nat.reduceAdd]
    refine xS.s1 rfl rfl ?_
    try dsimp only [Nat.reduceAdd]
    refine xS.gR rfl rfl rfl ⟨by decide, rfl⟩ rfl ?_
    try dsimp only [Nat.reduceAdd]
    refine xS.s1 rfl rfl ?_
    try dsimp only [Nat.reduceAdd]
    refine xS.s1 rfl rfl ?_
    try dsimp only [Nat.reduceAdd]
    refine xS.gR rfl rfl rfl ⟨by decide, rfl⟩ rfl ?_
    try dsimp only [Nat.reduceAdd]
    refine xS.s1 rfl rfl ?_
    try dsimp only [Nat.reduceAdd]
    refine xS.s1 rfl rfl ?_
    try dsimp only [Nat.reduceAdd]
    refine xS.s1 rfl rfl ?_
    try dsimp only [Nat.reduceAdd]
    -- 41 yX8_shown
    refine xS.cv rfl rfl rfl (hb.1 _) rfl rfl ⟨by decide, rfl, rfl⟩ (c_X8_shown_C hb hF hp hL (by have := hF.2.2; omega) hs hm (fun s h => ⟨Nat.lt_of_le_of_lt (xsrc_le h) hlt, hx s (Nat.lt_of_le_of_lt (xsrc_le h) hlt)⟩)) (fun v M1 hv => ?_)
    rw [hv.1, hv.2]
    clear hv M1 v
    try dsimp only [Nat.reduceAdd, Option.toList, List.cons_append, List.nil_append, List.drop]
    -- 44 yX8_isBroken
    refine xS.cv rfl rfl rfl (hb.1 _) rfl rfl ⟨by decide, rfl, rfl⟩ (c_X8_isBroken hb hR.2.1.1 hR.2.1.2) (fun v M1 hv => ?_)
    rw [hv.1, hv.2]
    clear hv M1 v
    try dsimp only [Nat.reduceAdd, Option.toList, List.cons_append, List.nil_append, List.drop]
    refine xS.br0 (c := .eq) (off := 11) (l := 3) rfl rfl (fun h47 => ?_) (fun h47 => ?_)
    · have g47 := xt_eq h47
      have e47 := xif0n g47
      refine xS.s1 rfl rfl ?_
      try dsimp only [Nat.reduceAdd, xi_0]
      refine xS.s1 rfl rfl ?_
      try dsimp only [Nat.reduceAdd]
      refine xS.s1 rfl rfl ?_
      try dsimp only [Nat.reduceAdd]
      refine xS.s1 rfl rfl ?_
      try dsimp only [Nat.reduceAdd]
      refine xS.s1 rfl rfl ?_
      try dsimp only [Nat.reduceAdd]
      refine xS.ret rfl rfl rfl (fun _ _ => rfl) ?_
      refine ⟨rfl, ?_⟩
      first | (rw [if_pos e17, if_pos e47]; done) | (rw [if_pos e17, if_neg e47]; done) | (rw [if_neg e17, if_pos e47]; done) | (rw [if_neg e17, if_neg e47]; done)
    · have g47 := xf_eq h47
      have e47 := xif1n g47
      refine xS.s1 rfl rfl ?_
      try dsimp only [Nat.reduceAdd, xj_12]
      refine xS.s1 rfl rfl ?_
      try dsimp only [Nat.reduceAdd]
      refine xS.s1 rfl rfl ?_
      try dsimp only [Nat.reduceAdd]
      refine xS.s1 rfl rfl ?_
      try dsimp only [Nat.reduceAdd]
      refine xS.s1 rfl rfl ?_
      try dsimp only [Nat.reduceAdd]
      refine xS.s1 rfl rfl ?_
      try dsimp only [Nat.reduceAdd]
      refine xS.s1 rfl rfl ?_
      try dsimp only [Nat.reduceAdd]
      refine xS.s1 rfl rfl ?_
      try dsimp only [Nat.reduceAdd]
      refine xS.ret rfl rfl rfl (fun _ _ => rfl) ?_
      refine ⟨rfl, ?_⟩
      first | (rw [if_pos e17, if_pos e47]; done) | (rw [if_pos e17, if_neg e47]; done) | (rw [if_neg e17, if_pos e47]; done) | (rw [if_neg e17, if_neg e47]; done)

set_option maxRecDepth 10000 in
theorem c_X11_isSafeBeforeAll (hb : xro b.1) (hR : xRm g b.1 G T Lw) (hp : xpn g) (hs : g 15 1 = nI m) (hm : m ≤ 12) (hx : ∀ i, i ≤ t → xstp (g 16 i)) (hlt : t < m) : xT (k + 5) 146 [.ref 0, .int (nI t)] (xH b g l) (fun r M' => M' = xH b g l ∧ r = some (.int (if xfst (fun k => !decide (xfb (g (b.1 + 3)) T (g 16 t) (xshw (g (b.1 + 1)) (Lw k / 4) (Lw k % 4) (fun i => xN (g 16 i)) t) = none)) G = none then 1 else 0))) := by
  refine xT.of rfl (Nat.le_of_ble_eq_true rfl) ?_
  dsimp only [lv_args]
  refine xS.s1 rfl rfl ?_
  try dsimp only [Nat.reduceAdd, xi_0]
  refine xS.s1 rfl rfl ?_
  try dsimp only [Nat.reduceAdd]
  refine xS.pick [0, 1, 2] rfl ?_
  refine xS.loop (σ := Unit) (G) (fun j S => [(2, .int (nI j)), (0, .ref 0), (1, .int (nI t))]) (fun _ _ => xH b g l) (fun j _ => xfst (fun k => !decide (xfb (g (b.1 + 3)) T (g 16 t) (xshw (g (b.1 + 1)) (Lw k / 4) (Lw k % 4) (fun i => xN (g 16 i)) t) = none)) j = none) (()) (rfl) (rfl) (rfl) ?_
  intro j S hj hI ih
  try dsimp only
  have h6 := hR.1.2
  refine xS.s1 rfl rfl ?_
  try dsimp only [Nat.reduceAdd]
  refine xS.s1 rfl rfl ?_
  try dsimp only [Nat.reduceAdd]
  refine xS.gR rfl rfl rfl ⟨by decide, rfl⟩ rfl ?_
  try dsimp only [Nat.reduceAdd]
  -- 7 yX8_glasses
  refine xS.cv rfl rfl rfl (hb.1 _) rfl rfl ⟨by decide, rfl, rfl⟩ (c_X8_glasses hb) (fun v M1 hv => ?_)
  rw [hv.1, hv.2]
  clear hv M1 v
  try dsimp only [Nat.reduceAdd, Option.toList, List.cons_append, List.nil_append, List.drop]
  refine xS.br (c := .ge) (off := 46) (l := 3) rfl rfl (fun h10 => ?_) (fun h10 => ?_)
  · have g10 := xt_ge h10
    refine xS.s1 rfl rfl ?_
    try dsimp only [Nat.reduceAdd, xi_1]
    refine xS.ret rfl rfl rfl (fun _ _ => rfl) ?_
    have h6 := hR.1.2
    rw [hR.1.1] at g10
    have e := xnle g10 (by omega) (by omega)
    rw [show G = j by omega, hI]
    exact ⟨rfl, rfl⟩
  · have g10 := xf_ge h10
    rw [hR.1.1] at g10
    have hlk := xnlt g10 (by omega) (by omega)
    refine xS.s1 rfl rfl ?_
    try dsimp only [Nat.reduceAdd]
    refine xS.gR rfl rfl rfl ⟨by decide, rfl⟩ rfl ?_
    try dsimp only [Nat.reduceAdd]
    refine xS.s1 rfl rfl ?_
    try dsimp only [Nat.reduceAdd]
    refine xS.gR rfl rfl rfl ⟨by decide, rfl⟩ rfl ?_
    try dsimp only [Nat.reduceAdd]
    refine xS.s1 rfl rfl ?_
    try dsimp only [Nat.reduceAdd]
    -- 22 yX0_get
    refine xS.cv rfl rfl rfl (xce_trial.1 _) rfl rfl ⟨by decide, rfl, rfl⟩ (c_X0_get xce_trial hs hm hlt) (fun v M1 hv => ?_)
    rw [hv.1, hv.2]
    clear hv M1 v
    try dsimp only [Nat.reduceAdd, Option.toList, List.cons_append, List.nil_append, List.drop]
    refine xS.s1 rfl rfl ?_
    try dsimp only [Nat.reduceAdd]
    refine xS.gR rfl rfl rfl ⟨by decide, rfl⟩ rfl ?_
    try dsimp only [Nat.reduceAdd]
    refine xS.s1 rfl rfl ?_
    try dsimp only [Nat.reduceAdd]
    refine xS.s1 rfl rfl ?_
    try dsimp only [Nat.reduceAdd]
    -- 31 yX11_paneOf
    refine xS.cv rfl rfl rfl rfl rfl rfl ⟨by decide, rfl, rfl⟩ (c_X11_paneOf hb hR hlk) (fun v M1 hv => ?_)
    rw [hv.1, hv.2]
    clear hv M1 v
    try dsimp only [Nat.reduceAdd, Option.toList, List.cons_append, List.nil_append, List.drop]
    refine xS.s1 rfl rfl ?_
    try dsimp only [Nat.reduceAdd]
    refine xS.gR rfl rfl rfl ⟨by decide, rfl⟩ rfl ?_
    try dsimp only [Nat.reduceAdd]
    refine xS.s1 rfl rfl ?_
    try dsimp only [Nat.reduceAdd]
    -- 39 yX8_shown
    refine xS.cv rfl rfl rfl (hb.1 _) rfl rfl ⟨by decide, rfl, rfl⟩ (c_X8_shown_C hb xce_trial hp (hR.2.2.1 j hlk).2 (by omega) hs hm (fun s h => ⟨Nat.lt_of_le_of_lt (xsrc_le h) hlt, hx s (xsrc_le h)⟩)) (fun v M1 hv => ?_)
    rw [hv.1, hv.2]
    clear hv M1 v
    try dsimp only [Nat.reduceAdd, Option.toList, List.cons_append, List.nil_append, List.drop]
    -- 42 yX8_isBroken
    refine xS.cv rfl rfl rfl (hb.1 _) rfl rfl ⟨by decide, rfl, rfl⟩ (c_X8_isBroken hb hR.2.1.1 hR.2.1.2) (fun v M1 hv => ?_)
    rw [hv.1, hv.2]
    clear hv M1 v
    try dsimp only [Nat.reduceAdd, Option.toList, List.cons_append, List.nil_append, List.drop]
    refine xS.br0 (c := .eq) (off := 5) (l := 3) rfl rfl (fun h45 => ?_) (fun h45 => ?_)
    · have g45 := xt_eq h45
      refine xS.s1 rfl rfl ?_
      try dsimp only [Nat.reduceAdd, xi_1]
      rw [nI_1]
      refine xS.s1 rfl rfl ?_
      try dsimp only [Nat.reduceAdd]
      refine xS.pick [0, 1, 2] rfl ?_
      exact ih () (by omega) (xfst_n hI (by simp [xif0n g45]))
    · have g45 := xf_eq h45
      refine xS.s1 rfl rfl ?_
      try dsimp only [Nat.reduceAdd, xi_0]
      refine xS.ret rfl rfl rfl (fun _ _ => rfl) ?_
      have h6 := hR.1.2
      rw [xfst_at hI (by simp [xif1n g45]) hlk]
      exact ⟨rfl, rfl⟩

end
