/-! LimpMirrorModel: public methods, what is shown, what was done, laws -/
def xnxr (w : Nat → Nat) (n : Nat) : Nat × Int32 := Nat.rec (motive := fun _ => Nat × Int32) (99, -9) (fun s c => if w s < c.1 then (w s, nI s) else c) n
theorem xnxr_s (w : Nat → Nat) (n : Nat) : xnxr w (n + 1) = if w n < (xnxr w n).1 then (w n, nI n) else xnxr w n := rfl
theorem xnxr_le (w : Nat → Nat) : ∀ n, (xnxr w n).1 ≤ 99
  | 0 => Nat.le_refl _
  | n + 1 => by
    have := xnxr_le w n
    rw [xnxr_s]
    split
    · dsimp only; omega
    · omega
def xmv (w : Nat → Nat) (n : Nat) : Nat := Nat.rec (motive := fun _ => Nat) 0 (fun v c => max c (w v)) n
theorem xmv_s (w : Nat → Nat) (n : Nat) : xmv w (n + 1) = max (xmv w n) (w n) := rfl
theorem xmv_le {w : Nat → Nat} {q : Nat} (h : ∀ v, w v ≤ q) : ∀ n, xmv w n ≤ q
  | 0 => Nat.zero_le _
  | n + 1 => by
    rw [xmv_s]
    have := xmv_le h n
    have := h n
    omega
theorem xor0 (x : Int32) : x ||| 0 = x := Int32.toBitVec_inj.mp (by rw [Int32.toBitVec_or]; show x.toBitVec ||| 0#32 = x.toBitVec; simp)
theorem xrem4 {t : Nat} (h : t < 2 ^ 31) : nI t - nI t / 4 * 4 = nI (t % 4) := pk_rem (d := 4) h (by omega) (by omega)
theorem xdiv4 {t : Nat} (h : t < 2 ^ 31) : nI t / 4 = nI (t / 4) := pk_div (d := 4) h (by omega) (by omega)
theorem xhr_and {p q : Nat → Bool} {j : Nat} : xhr (xfst p j) (xfst q j) &&& ((if p j = true then 0 else 1) + (if q j = true then 0 else 2)) = xhr (xfst p (j + 1)) (xfst q (j + 1)) := by
  have e : ∀ p : Nat → Bool, (xfst p (j + 1) = none) ↔ (xfst p j = none ∧ p j = false) := fun p => by
    rw [xfst_s]
    cases xfst p j <;> cases p j <;> simp
  unfold xhr
  by_cases a1 : xfst p j = none <;> by_cases a2 : xfst q j = none <;> cases a3 : p j <;> cases a4 : q j <;> simp [e, a1, a2, a3, a4] <;> decide
theorem xhr_3 {A B : Option Nat} : xhr A B = 3 ↔ (A = none ∧ B = none) := by
  unfold xhr
  by_cases a : A = none <;> by_cases b : B = none <;> simp [a, b] <;> decide
theorem xfst_or {p q : Nat → Bool} {n : Nat} : xfst (fun i => p i || q i) n = none ↔ (xfst p n = none ∧ xfst q n = none) := by
  simp only [xfst_none]
  constructor
  · intro h
    exact ⟨fun i hi => by have := h i hi; revert this; cases p i <;> simp, fun i hi => by have := h i hi; revert this; cases p i <;> simp⟩
  · rintro ⟨h1, h2⟩ i hi
    rw [h1 i hi, h2 i hi]
    rfl

section
variable {k a c n n2 m t p s d i1 j1 : Nat} {b : Nat × Nat} {g : Nat → Nat → Int32} {l : Nat → Nat → Int64} {i j x y z v w : Int32} {u w1 w2 : Int64}
variable {L G T e1 q1 κ δ : Nat} {Lw f f2 : Nat → Nat} {h tx F4 Rw Rw2 O : Nat → Int32}
set_option maxRecDepth 10000 in
theorem c_X12_tellParts (hp1 : p < 2 ^ 63) (hd1 : d < 2 ^ 63) (hd0 : 0 < d) : xT (k + 1) 155 [.ref 73, .long (lN p), .long (lN d)] (xH b g l) (fun r M' => M' = xH b g (up (up l 73 21 (lN (p / Nat.gcd p d))) 73 22 (lN (d / Nat.gcd p d))) ∧ r = none) := by
  refine xT.of rfl (Nat.le_of_ble_eq_true rfl) ?_
  change xS _ _ 0 [(0, .ref 73), (1, .long (lN p)), (3, .long (lN d))] [] _ _
  refine xS.s1 rfl rfl ?_
  try dsimp only [Nat.reduceAdd]
  refine xS.s1 rfl rfl ?_
  try dsimp only [Nat.reduceAdd]
  refine xS.s1 rfl rfl ?_
  try dsimp only [Nat.reduceAdd]
  refine xS.s1 rfl rfl ?_
  try dsimp only [Nat.reduceAdd]
  refine xS.pick [1, 0, 2, 3, 4] rfl ?_
  refine xS.loop (σ := Nat × Nat) (d) (fun j S => [(5, .long (lN S.1)), (7, .long (lN S.2)), (0, .ref 73), (1, .long (lN p)), (3, .long (lN d))]) (fun _ _ => xH b g l) (fun j S => S.2 + j ≤ d ∧ Nat.gcd S.2 S.1 = Nat.gcd p d ∧ S.1 < 2 ^ 63 ∧ S.2 < 2 ^ 63) ((p, d)) (rfl) (rfl) (⟨Nat.le_refl _, Nat.gcd_comm d p, hp1, hd1⟩) ?_
  intro j S hj hI ih
  obtain ⟨A, B⟩ := S
  obtain ⟨i1, i2, i3, i4⟩ := hI
  dsimp only at i1 i2 i3 i4
  try dsimp only
  refine xS.s1 rfl rfl ?_
  try dsimp only [Nat.reduceAdd]
  refine xS.s1 rfl rfl ?_
  try dsimp only [Nat.reduceAdd]
  refine xS.s1 rfl rfl ?_
  try dsimp only [Nat.reduceAdd]
  refine xS.br0 (c := .le) (off := 21) (l := 3) rfl rfl (fun h10 => ?_) (fun h10 => ?_)
  · have g10 := xt_le h10
    have hB0 : B = 0 := by
      have g11 : lN B ≤ (0 : Int64) := (lg_cmp_le _ _).mp g10
      rw [Int64.le_iff_toInt_le] at g11
      unfold lN at g11
      rw [lg_ofNat_toInt i4] at g11
      have h0 : (0 : Int64).toInt = 0 := rfl
      omega
    subst hB0
    rw [Nat.gcd_zero_left] at i2
    subst i2
    have hA0 : 0 < Nat.gcd p d := Nat.gcd_pos_of_pos_right p hd0
    refine xS.s1 rfl rfl ?_
    try dsimp only [Nat.reduceAdd]
    refine xS.s1 rfl rfl ?_
    try dsimp only [Nat.reduceAdd]
    refine xS.s1 rfl rfl ?_
    try dsimp only [Nat.reduceAdd]
    refine xS.ldiv rfl (lN_0 hA0 i3) ?_
    try dsimp only [Nat.reduceAdd]
    refine xS.pL rfl rfl rfl ⟨⟨by decide, rfl⟩, rfl, by decide, by decide⟩ rfl ?_
    try dsimp only [Nat.reduceAdd]
    refine xS.s1 rfl rfl ?_
    try dsimp only [Nat.reduceAdd]
    refine xS.s1 rfl rfl ?_
    try dsimp only [Nat.reduceAdd]
    refine xS.s1 rfl rfl ?_
    try dsimp only [Nat.reduceAdd]
    refine xS.ldiv rfl (lN_0 hA0 i3) ?_
    try dsimp only [Nat.reduceAdd]
    refine xS.pL rfl rfl rfl ⟨⟨by decide, rfl⟩, rfl, by decide, by decide⟩ rfl ?_
    try dsimp only [Nat.reduceAdd]
    refine xS.ret rfl rfl rfl (fun _ _ => rfl) ?_
    rw [pk_lDiv hp1 hA0 i3, pk_lDiv hd1 hA0 i3]
    exact ⟨rfl, rfl⟩
  · have g10 := xf_le h10
    refine xS.s1 rfl rfl ?_
    try dsimp only [Nat.reduceAdd]
    refine xS.s1 rfl rfl ?_
    try dsimp only [Nat.reduceAdd]
    have hB : 0 < B := by
      rcases Nat.eq_zero_or_pos B with e | e
      · subst e; exact absurd g10 (by decide)
      · exact e
    refine xS.lrem rfl (lN_0 hB i4) ?_
    try dsimp only [Nat.reduceAdd]
    rw [pk_lRem i3 hB i4]
    refine xS.s1 rfl rfl ?_
    try dsimp only [Nat.reduceAdd]
    refine xS.s1 rfl rfl ?_
    try dsimp only [Nat.reduceAdd]
    refine xS.s1 rfl rfl ?_
    try dsimp only [Nat.reduceAdd]
    refine xS.s1 rfl rfl ?_
    try dsimp only [Nat.reduceAdd]
    refine xS.s1 rfl rfl ?_
    try dsimp only [Nat.reduceAdd]
    refine xS.s1 rfl rfl ?_
    try dsimp only [Nat.reduceAdd]
    refine xS.pick [1, 0, 3, 4, 5] rfl ?_
    have hlt := Nat.mod_lt A hB
    exact ih (B, A % B) (by omega) ⟨by show A % B + (j + 1) ≤ d; omega, by rw [← i2, Nat.gcd_rec B A], i4, by show A % B < 2 ^ 63; omega⟩

set_option maxRecDepth 10000 in
theorem c_X12_show_ok (hR : xRr g h tx G T Lw) (hk : s < G) (ht : t < 6) (hp1 : p < 6) (hs : g 74 p = nI m) (hm : m ≤ 12) (hf : xfos (g 74 p) (fun i => g 75 (40 * p + i)) 12 = 0) (hx : ∀ i, i < m → xstp (g 75 (40 * p + i))) : xT (k + 4) 202 [.ref 73, .int (nI s), .int (nI p), .int (nI t)] (xH b g l) (fun r M' => ∃ g0, xFr g g0 ∧ M' = xH b (gseg (up g0 74 t (nI m)) 75 (40 * t) m (xshw h (Lw s / 4) (Lw s % 4) (fun i => xN (g 75 (40 * p + i))))) l ∧ r = some (.int (nI m))) := by
  refine xT.of rfl (Nat.le_of_ble_eq_true rfl) ?_
  change xS _ _ 0 [(0, .ref 73), (1, .int (nI s)), (2, .int (nI p)), (3, .int (nI t))] [] _ _
  refine xS.s1 rfl rfl ?_
  try dsimp only [Nat.reduceAdd]
  refine xS.s1 rfl rfl ?_
  try dsimp only [Nat.reduceAdd]
  -- 2 yX12_isGlass
  refine xS.cv rfl rfl rfl rfl rfl rfl ⟨by decide, rfl, rfl⟩ (c_X12_isGlass_in hR.1.1 hR.1.2 hk) (fun v M1 hv => ?_)
  rw [hv.1, hv.2]
  clear hv M1 v
  try dsimp only [Nat.reduceAdd, Option.toList, List.cons_append, List.nil_append, List.drop]
  refine xS.br0 (c := .eq) (off := 17) (l := 3) rfl rfl (fun h5 => ?_) (fun h5 => ?_)
  · have g5 := xt_eq h5
    exfalso; first | exact absurd g5 (by decide) | (simp (disch := omega) only [Int32.lt_iff_toInt_lt, Int32.le_iff_toInt_le, nI_toInt, Int32.reduceToInt] at g5 <;> omega)
  · have g5 := xf_eq h5
    refine xS.s1 rfl rfl ?_
    try dsimp only [Nat.reduceAdd]
    -- 9 yX12_isRow
    refine xS.callS rfl rfl rfl ⟨Nat.le_of_ble_eq_true rfl, rfl⟩ (c_X12_isRow_in hp1) (fun v M1 hv => ?_)
    rw [hv.1, hv.2]
    clear hv M1 v
    try dsimp only [Nat.reduceAdd, Option.toList, List.cons_append, List.nil_append, List.drop]
    refine xS.br0 (c := .eq) (off := 10) (l := 3) rfl rfl (fun h12 => ?_) (fun h12 => ?_)
    · have g12 := xt_eq h12
      exfalso; first | exact absurd g12 (by decide) | (simp (disch := omega) only [Int32.lt_iff_toInt_lt, Int32.le_iff_toInt_le, nI_toInt, Int32.reduceToInt] at g12 <;> omega)
    · have g12 := xf_eq h12
      refine xS.s1 rfl rfl ?_
      try dsimp only [Nat.reduceAdd]
      -- 16 yX12_isRow
      refine xS.callS rfl rfl rfl ⟨Nat.le_of_ble_eq_true rfl, rfl⟩ (c_X12_isRow_in ht) (fun v M1 hv => ?_)
      rw [hv.1, hv.2]
      clear hv M1 v
      try dsimp only [Nat.reduceAdd, Option.toList, List.cons_append, List.nil_append, List.drop]
      refine xS.br0 (c := .ne) (off := 5) (l := 3) rfl rfl (fun h19 => ?_) (fun h19 => ?_)
      · have g19 := xt_ne h19
        refine xS.s1 rfl rfl ?_
        try dsimp only [Nat.reduceAdd]
        refine xS.s1 rfl rfl ?_
        try dsimp only [Nat.reduceAdd]
        refine xS.s1 rfl rfl ?_
        try dsimp only [Nat.reduceAdd, xj_12]
        refine xS.s1 rfl rfl ?_
        try dsimp only [Nat.reduceAdd]
        refine xS.gR rfl rfl rfl ⟨by decide, rfl⟩ rfl ?_
        try dsimp only [Nat.reduceAdd]
        -- 32 yX12_takeOut
        refine xS.cv rfl rfl rfl rfl rfl rfl ⟨by decide, rfl, rfl⟩ (c_X12_takeOut_0 xar_90 (by decide) hp1 hs (by omega) (by decide) hf) (fun v M1 hv => ?_)
        rw [hv.1, hv.2]
        clear hv M1 v
        have hR1 := xRr_F (xFr_gs (n := m) (S := (fun i => g 75 (40 * p + i))) (by decide : 89 ≤ 90)) hR
        have h90 : ∀ u, u < m → gset g 90 m (fun i => g 75 (40 * p + i)) 90 u = nI ((fun i => xN (g 75 (40 * p + i))) u) ∧ (fun i => xN (g 75 (40 * p + i))) u < 6 := fun u hu => by rw [gset_in hu]; exact ⟨(xstp_N (hx u hu)).2, (xstp_N (hx u hu)).1⟩
        have e74 : gset g 90 m (fun i => g 75 (40 * p + i)) 74 p = nI m := by rw [gset_na (by decide)]; exact hs
        try dsimp only [Nat.reduceAdd, Option.toList, List.cons_append, List.nil_append, List.drop]
        refine xS.s1 rfl rfl ?_
        try dsimp only [Nat.reduceAdd]
        refine xS.s1 rfl rfl ?_
        try dsimp only [Nat.reduceAdd]
        refine xS.br0 (c := .ge) (off := 6) (l := 3) rfl rfl (fun h39 => ?_) (fun h39 => ?_)
        · have g39 := xt_ge h39
          refine xS.s1 rfl rfl ?_
          try dsimp only [Nat.reduceAdd]
          refine xS.gR rfl rfl rfl ⟨by decide, rfl⟩ rfl ?_
          try dsimp only [Nat.reduceAdd]
          refine xS.s1 rfl rfl ?_
          try dsimp only [Nat.reduceAdd]
          refine xS.ia rfl xar_74 (by omega) ?_
          try dsimp only [Nat.reduceAdd]
          rw [e74]
          refine xS.s1 rfl rfl ?_
          try dsimp only [Nat.reduceAdd]
          refine xS.s1 rfl rfl ?_
          try dsimp only [Nat.reduceAdd, xi_0]
          refine xS.s1 rfl rfl ?_
          try dsimp only [Nat.reduceAdd]
          refine xS.pick [0, 3, 4, 6, 1] rfl ?_
          refine xS.loop (σ := Unit) (m) (fun j S => [(6, .int (nI j)), (0, .ref 73), (1, .int (nI s)), (3, .int (nI t)), (5, .int (nI m))]) (fun j _ => xH b (gset (gset g 90 m (fun i => g 75 (40 * p + i))) 92 j (xshw h (Lw s / 4) (Lw s % 4) (fun i => xN (g 75 (40 * p + i))))) l) (fun _ _ => True) (()) (rfl) (by rw [gset_0]) (trivial) ?_
          intro j S hj hI ih
          try dsimp only
          have hFj : xFr (gset g 90 m (fun i => g 75 (40 * p + i))) (gset (gset g 90 m (fun i => g 75 (40 * p + i))) 92 j (xshw h (Lw s / 4) (Lw s % 4) (fun i => xN (g 75 (40 * p + i))))) := xFr_gs (by decide)
          have h90j : ∀ u, u < m → gset (gset g 90 m (fun i => g 75 (40 * p + i))) 92 j (xshw h (Lw s / 4) (Lw s % 4) (fun i => xN (g 75 (40 * p + i)))) 90 u = nI ((fun i => xN (g 75 (40 * p + i))) u) ∧ (fun i => xN (g 75 (40 * p + i))) u < 6 := fun u hu => by rw [gset_na (by decide)]; exact h90 u hu
          refine xS.s1 rfl rfl ?_
          try dsimp only [Nat.reduceAdd]
          refine xS.s1 rfl rfl ?_
          try dsimp only [Nat.reduceAdd]
          refine xS.br (c := .ge) (off := 27) (l := 3) rfl rfl (fun h60 => ?_) (fun h60 => ?_)
          · have g60 := xt_ge h60
            have e := xnle g60 (by omega) (by omega)
            have e2 : m = j := by omega
            subst e2
            refine xS.s1 rfl rfl ?_
            try dsimp only [Nat.reduceAdd]
            refine xS.s1 rfl rfl ?_
            try dsimp only [Nat.reduceAdd]
            refine xS.s1 rfl rfl ?_
            try dsimp only [Nat.reduceAdd]
            refine xS.s1 rfl rfl ?_
            try dsimp only [Nat.reduceAdd]
            refine xS.gR rfl rfl rfl ⟨by decide, rfl⟩ rfl ?_
            try dsimp only [Nat.reduceAdd]
            -- 95 yX12_layRow
            refine xS.cv rfl rfl rfl rfl rfl rfl ⟨by decide, rfl, rfl⟩ (c_X12_layRow xar_92 (by decide) (by decide) ht hm (by omega)) (fun v M1 hv => ?_)
            rw [hv.1, hv.2]
            clear hv M1 v
            try dsimp only [Nat.reduceAdd, Option.toList, List.cons_append, List.nil_append, List.drop]
            refine xS.ret rfl rfl rfl (fun _ _ => rfl) ?_
            refine ⟨gset (gset g 90 m (fun i => g 75 (40 * p + i))) 92 m (xshw h (Lw s / 4) (Lw s % 4) (fun i => xN (g 75 (40 * p + i)))), xFr_t (xFr_gs (a := 90) (by decide)) hFj, ?_, rfl⟩
            rw [gseg_congr (fun i hi => gset_in hi)]
          · have g60 := xf_ge h60
            have hlt := xnlt g60 (by omega) (by omega)
            refine xS.s1 rfl rfl ?_
            try dsimp only [Nat.reduceAdd]
            refine xS.gR rfl rfl rfl ⟨by decide, rfl⟩ rfl ?_
            try dsimp only [Nat.reduceAdd]
            refine xS.s1 rfl rfl ?_
            try dsimp only [Nat.reduceAdd]
            refine xS.s1 rfl rfl ?_
            try dsimp only [Nat.reduceAdd]
            refine xS.s1 rfl rfl ?_
            try dsimp only [Nat.reduceAdd]
            refine xS.s1 rfl rfl ?_
            try dsimp only [Nat.reduceAdd]
            refine xS.gR rfl rfl rfl ⟨by decide, rfl⟩ rfl ?_
            try dsimp only [Nat.reduceAdd]
            refine xS.s1 rfl rfl ?_
            try dsimp only [Nat.reduceAdd]
            -- 77 yX12_showsOf
            refine xS.cv rfl rfl rfl rfl rfl rfl ⟨by decide, rfl, rfl⟩ (c_X12_showsOf (f := (fun i => xN (g 75 (40 * p + i)))) xar_90 (xRr_F hFj hR1) (by omega) hk (fun u hu => h90j u (by omega))) (fun v M1 hv => ?_)
            rw [hv.1, hv.2]
            clear hv M1 v
            try dsimp only [Nat.reduceAdd, Option.toList, List.cons_append, List.nil_append, List.drop]
            refine xS.ias rfl xar_92 (by omega) ?_
            try dsimp only [Nat.reduceAdd]
            rw [gset_s (S := (xshw h (Lw s / 4) (Lw s % 4) (fun i => xN (g 75 (40 * p + i)))))]
            refine xS.s1 rfl rfl ?_
            try dsimp only [Nat.reduceAdd, xi_1]
            rw [nI_1]
            refine xS.s1 rfl rfl ?_
            try dsimp only [Nat.reduceAdd]
            refine xS.pick [0, 1, 2, 3, 4] rfl ?_
            exact ih () (by omega) trivial
        · have g39 := xf_ge h39
          exfalso; first | exact absurd g39 (by decide) | (simp (disch := omega) only [Int32.lt_iff_toInt_lt, Int32.le_iff_toInt_le, nI_toInt, Int32.reduceToInt] at g39 <;> omega)
      · have g19 := xf_ne h19
        exfalso; first | exact absurd g19 (by decide) | (simp (disch := omega) only [Int32.lt_iff_toInt_lt, Int32.le_iff_toInt_le, nI_toInt, Int32.reduceToInt] at g19 <;> omega)

set_option maxRecDepth 10000 in
theorem c_X12_breaks_ok (hR : xRr g h tx G T Lw) (hk : s < G) (hp1 : p < 6) (hs : g 74 p = nI m) (hm : m ≤ 12) (hf : xfos (g 74 p) (fun i => g 75 (40 * p + i)) 12 = 0) (hx : ∀ i, i < m → xstp (g 75 (40 * p + i))) : xT (k + 5) 204 [.ref 73, .int (nI s), .int (nI p)] (xH b g l) (fun r M' => ∃ g0, xFr g g0 ∧ M' = xH b (up g0 73 20 (nI (xcnt (fun i => !decide (xfb tx T (nI ((fun i => xN (g 75 (40 * p + i))) i)) ((xshw h (Lw s / 4) (Lw s % 4) (fun i => xN (g 75 (40 * p + i)))) i) = none)) m))) l ∧ r = some (.int (xfI (xfst (fun i => !decide (xfb tx T (nI ((fun i => xN (g 75 (40 * p + i))) i)) ((xshw h (Lw s / 4) (Lw s % 4) (fun i => xN (g 75 (40 * p + i)))) i) = none)) m)))) := by
  refine xT.of rfl (Nat.le_of_ble_eq_true rfl) ?_
  change xS _ _ 0 [(0, .ref 73), (1, .int (nI s)), (2, .int (nI p))] [] _ _
  refine xS.s1 rfl rfl ?_
  try dsimp only [Nat.reduceAdd]
  refine xS.s1 rfl rfl ?_
  try dsimp only [Nat.reduceAdd]
  -- 2 yX12_isGlass
  refine xS.cv rfl rfl rfl rfl rfl rfl ⟨by decide, rfl, rfl⟩ (c_X12_isGlass_in hR.1.1 hR.1.2 hk) (fun v M1 hv => ?_)
  rw [hv.1, hv.2]
  clear hv M1 v
  try dsimp only [Nat.reduceAdd, Option.toList, List.cons_append, List.nil_append, List.drop]
  refine xS.br0 (c := .eq) (off := 10) (l := 3) rfl rfl (fun h5 => ?_) (fun h5 => ?_)
  · have g5 := xt_eq h5
    exfalso; first | exact absurd g5 (by decide) | (simp (disch := omega) only [Int32.lt_iff_toInt_lt, Int32.le_iff_toInt_le, nI_toInt, Int32.reduceToInt] at g5 <;> omega)
  · have g5 := xf_eq h5
    refine xS.s1 rfl rfl ?_
    try dsimp only [Nat.reduceAdd]
    -- 9 yX12_isRow
    refine xS.callS rfl rfl rfl ⟨Nat.le_of_ble_eq_true rfl, rfl⟩ (c_X12_isRow_in hp1) (fun v M1 hv => ?_)
    rw [hv.1, hv.2]
    clear hv M1 v
    try dsimp only [Nat.reduceAdd, Option.toList, List.cons_append, List.nil_append, List.drop]
    refine xS.br0 (c := .ne) (off := 5) (l := 3) rfl rfl (fun h12 => ?_) (fun h12 => ?_)
    · have g12 := xt_ne h12
      refine xS.s1 rfl rfl ?_
      try dsimp only [Nat.reduceAdd]
      refine xS.s1 rfl rfl ?_
      try dsimp only [Nat.reduceAdd]
      refine xS.s1 rfl rfl ?_
      try dsimp only [Nat.reduceAdd, xj_12]
      refine xS.s1 rfl rfl ?_
      try dsimp only [Nat.reduceAdd]
      refine xS.gR rfl rfl rfl ⟨by decide, rfl⟩ rfl ?_
      try dsimp only [Nat.reduceAdd]
      -- 25 yX12_takeOut
      refine xS.cv rfl rfl rfl rfl rfl rfl ⟨by decide, rfl, rfl⟩ (c_X12_takeOut_0 xar_90 (by decide) hp1 hs (by omega) (by decide) hf) (fun v M1 hv => ?_)
      rw [hv.1, hv.2]
      clear hv M1 v
      have hR1 := xRr_F (xFr_gs (n := m) (S := (fun i => g 75 (40 * p + i))) (by decide : 89 ≤ 90)) hR
      have h90 : ∀ u, u < m → gset g 90 m (fun i => g 75 (40 * p + i)) 90 u = nI ((fun i => xN (g 75 (40 * p + i))) u) ∧ (fun i => xN (g 75 (40 * p + i))) u < 6 := fun u hu => by rw [gset_in hu]; exact ⟨(xstp_N (hx u hu)).2, (xstp_N (hx u hu)).1⟩
      have e74 : gset g 90 m (fun i => g 75 (40 * p + i)) 74 p = nI m := by rw [gset_na (by decide)]; exact hs
      try dsimp only [Nat.reduceAdd, Option.toList, List.cons_append, List.nil_append, List.drop]
      refine xS.s1 rfl rfl ?_
      try dsimp only [Nat.reduceAdd]
      refine xS.s1 rfl rfl ?_
      try dsimp only [Nat.reduceAdd]
      refine xS.br0 (c := .ge) (off := 5) (l := 3) rfl rfl (fun h30 => ?_) (fun h30 => ?_)
      · have g30 := xt_ge h30
        refine xS.s1 rfl rfl ?_
        try dsimp only [Nat.reduceAdd, xj_m9]
        refine xS.s1 rfl rfl ?_
        try dsimp only [Nat.reduceAdd]
        refine xS.s1 rfl rfl ?_
        try dsimp only [Nat.reduceAdd, xi_0]
        refine xS.s1 rfl rfl ?_
        try dsimp only [Nat.reduceAdd]
        refine xS.s1 rfl rfl ?_
        try dsimp only [Nat.reduceAdd]
        refine xS.gR rfl rfl rfl ⟨by decide, rfl⟩ rfl ?_
        try dsimp only [Nat.reduceAdd]
        refine xS.s1 rfl rfl ?_
        try dsimp only [Nat.reduceAdd]
        refine xS.ia rfl xar_74 (by omega) ?_
        try dsimp only [Nat.reduceAdd]
        rw [e74]
        refine xS.s1 rfl rfl ?_
        try dsimp only [Nat.reduceAdd, xi_1]
        refine xS.s1 rfl rfl ?_
        try dsimp only [Nat.reduceAdd]
        refine xS.s1 rfl rfl ?_
        try dsimp only [Nat.reduceAdd]
        refine xS.pick [0, 2, 1, 4, 5] rfl ?_
        refine xS.loop (σ := Unit) (m) (fun j S => [(6, .int (nI (m - j) - 1)), (4, .int (xfI (xdn1 (fun i => !decide (xfb tx T (nI ((fun i => xN (g 75 (40 * p + i))) i)) ((xshw h (Lw s / 4) (Lw s % 4) (fun i => xN (g 75 (40 * p + i)))) i) = none)) m j))), (5, .int (nI (xcd (fun i => !decide (xfb tx T (nI ((fun i => xN (g 75 (40 * p + i))) i)) ((xshw h (Lw s / 4) (Lw s % 4) (fun i => xN (g 75 (40 * p + i)))) i) = none)) m j))), (0, .ref 73), (1, .int (nI s))]) (fun _ _ => xH b (gset g 90 m (fun i => g 75 (40 * p + i))) l) (fun _ _ => True) (()) (rfl) (rfl) (trivial) ?_
        intro j S hj hI ih
        try dsimp only
        refine xS.s1 rfl rfl ?_
        try dsimp only [Nat.reduceAdd]
        refine xS.br0 (c := .lt) (off := 47) (l := 3) rfl rfl (fun h54 => ?_) (fun h54 => ?_)
        · have g54 := xt_lt h54
          rw [xdown0 hj (by omega)] at g54
          subst g54
          refine xS.s1 rfl rfl ?_
          try dsimp only [Nat.reduceAdd]
          refine xS.s1 rfl rfl ?_
          try dsimp only [Nat.reduceAdd]
          refine xS.pI rfl rfl rfl ⟨⟨by decide, rfl⟩, rfl, by decide, by decide⟩ rfl ?_
          try dsimp only [Nat.reduceAdd]
          refine xS.s1 rfl rfl ?_
          try dsimp only [Nat.reduceAdd]
          refine xS.ret rfl rfl rfl (fun _ _ => rfl) ?_
          rw [xdn1_m, xcd_m]
          exact ⟨_, xFr_gs (by decide), rfl, rfl⟩
        · have g54 := xf_lt h54
          have hlt : j < m := by
            have := (not_congr (xdown0 hj (by omega))).mp (Int32.not_lt.mpr g54)
            omega
          rw [xdown hlt]
          refine xS.s1 rfl rfl ?_
          try dsimp only [Nat.reduceAdd]
          refine xS.s1 rfl rfl ?_
          try dsimp only [Nat.reduceAdd]
          refine xS.s1 rfl rfl ?_
          try dsimp only [Nat.reduceAdd]
          -- 61 yX12_breaksAt
          refine xS.cv rfl rfl rfl rfl rfl rfl ⟨by decide, rfl, rfl⟩ (c_X12_breaksAt (f := (fun i => xN (g 75 (40 * p + i)))) hR1 hk (by omega) (fun u hu => h90 u (by omega))) (fun v M1 hv => ?_)
          rw [hv.1, hv.2]
          clear hv M1 v
          try dsimp only [Nat.reduceAdd, Option.toList, List.cons_append, List.nil_append, List.drop]
          refine xS.s1 rfl rfl ?_
          try dsimp only [Nat.reduceAdd]
          refine xS.s1 rfl rfl ?_
          try dsimp only [Nat.reduceAdd]
          refine xS.s1 rfl rfl ?_
          try dsimp only [Nat.reduceAdd]
          refine xS.br0 (c := .eq) (off := 7) (l := 3) rfl rfl (fun h70 => ?_) (fun h70 => ?_)
          · have g70 := xt_eq h70
            refine xS.s1 rfl rfl ?_
            try dsimp only [Nat.reduceAdd, xi_0]
            refine xS.s1 rfl rfl ?_
            try dsimp only [Nat.reduceAdd]
            refine xS.s1 rfl rfl ?_
            try dsimp only [Nat.reduceAdd]
            refine xS.s1 rfl rfl ?_
            try dsimp only [Nat.reduceAdd]
            refine xS.br0 (c := .eq) (off := 8) (l := 3) rfl rfl (fun h83 => ?_) (fun h83 => ?_)
            · have g83 := xt_eq h83
              refine xS.s1 rfl rfl ?_
              try dsimp only [Nat.reduceAdd]
              refine xS.s1 rfl rfl ?_
              try dsimp only [Nat.reduceAdd]
              refine xS.s1 rfl rfl ?_
              try dsimp only [Nat.reduceAdd, xi_m1]
              refine xS.s1 rfl rfl ?_
              try dsimp only [Nat.reduceAdd]
              refine xS.pick [0, 1, 2, 4, 5] rfl ?_
              have ih2 := ih () (by omega) trivial
              rw [xdec]
              rw [show xdn1 (fun i => !decide (xfb tx T (nI ((fun i => xN (g 75 (40 * p + i))) i)) ((xshw h (Lw s / 4) (Lw s % 4) (fun i => xN (g 75 (40 * p + i)))) i) = none)) m (j + 1) = xdn1 (fun i => !decide (xfb tx T (nI ((fun i => xN (g 75 (40 * p + i))) i)) ((xshw h (Lw s / 4) (Lw s % 4) (fun i => xN (g 75 (40 * p + i)))) i) = none)) m j from by rw [xdn1_s]; simp [xif0n g70], show xcd (fun i => !decide (xfb tx T (nI ((fun i => xN (g 75 (40 * p + i))) i)) ((xshw h (Lw s / 4) (Lw s % 4) (fun i => xN (g 75 (40 * p + i)))) i) = none)) m (j + 1) = xcd (fun i => !decide (xfb tx T (nI ((fun i => xN (g 75 (40 * p + i))) i)) ((xshw h (Lw s / 4) (Lw s % 4) (fun i => xN (g 75 (40 * p + i)))) i) = none)) m j from by rw [xcd_s]; simp [xif0n g70]] at ih2
              rw [show nI (xcd (fun i => !decide (xfb tx T (nI ((fun i => xN (g 75 (40 * p + i))) i)) ((xshw h (Lw s / 4) (Lw s % 4) (fun i => xN (g 75 (40 * p + i)))) i) = none)) m j) + 0 = nI (xcd (fun i => !decide (xfb tx T (nI ((fun i => xN (g 75 (40 * p + i))) i)) ((xshw h (Lw s / 4) (Lw s % 4) (fun i => xN (g 75 (40 * p + i)))) i) = none)) m j) from nI_add _ 0]
              exact ih2
            · have g83 := xf_eq h83
              refine xS.s1 rfl rfl ?_
              try dsimp only [Nat.reduceAdd]
              refine xS.s1 rfl rfl ?_
              try dsimp only [Nat.reduceAdd]
              refine xS.s1 rfl rfl ?_
              try dsimp only [Nat.reduceAdd]
              refine xS.s1 rfl rfl ?_
              try dsimp only [Nat.reduceAdd, xi_m1]
              refine xS.s1 rfl rfl ?_
              try dsimp only [Nat.reduceAdd]
              refine xS.pick [0, 1, 2, 4, 5] rfl ?_
              exact absurd g70 g83
          · have g70 := xf_eq h70
            refine xS.s1 rfl rfl ?_
            try dsimp only [Nat.reduceAdd, xi_1]
            refine xS.s1 rfl rfl ?_
            try dsimp only [Nat.reduceAdd]
            refine xS.s1 rfl rfl ?_
            try dsimp only [Nat.reduceAdd]
            refine xS.s1 rfl rfl ?_
            try dsimp only [Nat.reduceAdd]
            refine xS.s1 rfl rfl ?_
            try dsimp only [Nat.reduceAdd]
            refine xS.br0 (c := .eq) (off := 8) (l := 3) rfl rfl (fun h83 => ?_) (fun h83 => ?_)
            · have g83 := xt_eq h83
              refine xS.s1 rfl rfl ?_
              try dsimp only [Nat.reduceAdd]
              refine xS.s1 rfl rfl ?_
              try dsimp only [Nat.reduceAdd]
              refine xS.s1 rfl rfl ?_
              try dsimp only [Nat.reduceAdd, xi_m1]
              refine xS.s1 rfl rfl ?_
              try dsimp only [Nat.reduceAdd]
              refine xS.pick [0, 1, 2, 4, 5] rfl ?_
              exact absurd g83 g70
            · have g83 := xf_eq h83
              refine xS.s1 rfl rfl ?_
              try dsimp only [Nat.reduceAdd]
              refine xS.s1 rfl rfl ?_
              try dsimp only [Nat.reduceAdd]
              refine xS.s1 rfl rfl ?_
              try dsimp only [Nat.reduceAdd]
              refine xS.s1 rfl rfl ?_
              try dsimp only [Nat.reduceAdd, xi_m1]
              refine xS.s1 rfl rfl ?_
              try dsimp only [Nat.reduceAdd]
              refine xS.pick [0, 1, 2, 4, 5] rfl ?_
              have ih2 := ih () (by omega) trivial
              rw [xdec]
              rw [show xdn1 (fun i => !decide (xfb tx T (nI ((fun i => xN (g 75 (40 * p + i))) i)) ((xshw h (Lw s / 4) (Lw s % 4) (fun i => xN (g 75 (40 * p + i)))) i) = none)) m (j + 1) = some (m - j - 1) from by rw [xdn1_s]; simp [xif1n g70], show xcd (fun i => !decide (xfb tx T (nI ((fun i => xN (g 75 (40 * p + i))) i)) ((xshw h (Lw s / 4) (Lw s % 4) (fun i => xN (g 75 (40 * p + i)))) i) = none)) m (j + 1) = xcd (fun i => !decide (xfb tx T (nI ((fun i => xN (g 75 (40 * p + i))) i)) ((xshw h (Lw s / 4) (Lw s % 4) (fun i => xN (g 75 (40 * p + i)))) i) = none)) m j + 1 from by rw [xcd_s]; simp [xif1n g70]] at ih2
              rw [nI_1]
              exact ih2
      · have g30 := xf_ge h30
        exfalso; first | exact absurd g30 (by decide) | (simp (disch := omega) only [Int32.lt_iff_toInt_lt, Int32.le_iff_toInt_le, nI_toInt, Int32.reduceToInt] at g30 <;> omega)
    · have g12 := xf_ne h12
      exfalso; first | exact absurd g12 (by decide) | (simp (disch := omega) only [Int32.lt_iff_toInt_lt, Int32.le_iff_toInt_le, nI_toInt, Int32.reduceToInt] at g12 <;> omega)

set_option maxRecDepth 10000 in
theorem c_X12_alike_ok (hR : xRr g h tx G T Lw) (hk : s < G) (hp1 : p < 6) (hs : g 74 p = nI m) (hm : m ≤ 12) (hf : xfos (g 74 p) (fun i => g 75 (40 * p + i)) 12 = 0) (hx : ∀ i, i < m → xstp (g 75 (40 * p + i))) : xT (k + 4) 205 [.ref 73, .int (nI s), .int (nI p)] (xH b g l) (fun r M' => ∃ g0, xFr g g0 ∧ M' = xH b g0 l ∧ r = some (.int (nI (xcnt (fun i => decide ((xshw h (Lw s / 4) (Lw s % 4) (fun i => xN (g 75 (40 * p + i)))) i = g 75 (40 * p + i))) m)))) := by
  refine xT.of rfl (Nat.le_of_ble_eq_true rfl) ?_
  change xS _ _ 0 [(0, .ref 73), (1, .int (nI s)), (2, .int (nI p))] [] _ _
  refine xS.s1 rfl rfl ?_
  try dsimp only [Nat.reduceAdd]
  refine xS.s1 rfl rfl ?_
  try dsimp only [Nat.reduceAdd]
  -- 2 yX12_isGlass
  refine xS.cv rfl rfl rfl rfl rfl rfl ⟨by decide, rfl, rfl⟩ (c_X12_isGlass_in hR.1.1 hR.1.2 hk) (fun v M1 hv => ?_)
  rw [hv.1, hv.2]
  clear hv M1 v
  try dsimp only [Nat.reduceAdd, Option.toList, List.cons_append, List.nil_append, List.drop]
  refine xS.br0 (c := .eq) (off := 10) (l := 3) rfl rfl (fun h5 => ?_) (fun h5 => ?_)
  · have g5 := xt_eq h5
    exfalso; first | exact absurd g5 (by decide) | (simp (disch := omega) only [Int32.lt_iff_toInt_lt, Int32.le_iff_toInt_le, nI_toInt, Int32.reduceToInt] at g5 <;> omega)
  · have g5 := xf_eq h5
    refine xS.s1 rfl rfl ?_
    try dsimp only [Nat.reduceAdd]
    -- 9 yX12_isRow
    refine xS.callS rfl rfl rfl ⟨Nat.le_of_ble_eq_true rfl, rfl⟩ (c_X12_isRow_in hp1) (fun v M1 hv => ?_)
    rw [hv.1, hv.2]
    clear hv M1 v
    try dsimp only [Nat.reduceAdd, Option.toList, List.cons_append, List.nil_append, List.drop]
    refine xS.br0 (c := .ne) (off := 5) (l := 3) rfl rfl (fun h12 => ?_) (fun h12 => ?_)
    · have g12 := xt_ne h12
      refine xS.s1 rfl rfl ?_
      try dsimp only [Nat.reduceAdd]
      refine xS.s1 rfl rfl ?_
      try dsimp only [Nat.reduceAdd]
      refine xS.s1 rfl rfl ?_
      try dsimp only [Nat.reduceAdd, xj_12]
      refine xS.s1 rfl rfl ?_
      try dsimp only [Nat.reduceAdd]
      refine xS.gR rfl rfl rfl ⟨by decide, rfl⟩ rfl ?_
      try dsimp only [Nat.reduceAdd]
      -- 25 yX12_takeOut
      refine xS.cv rfl rfl rfl rfl rfl rfl ⟨by decide, rfl, rfl⟩ (c_X12_takeOut_0 xar_90 (by decide) hp1 hs (by omega) (by decide) hf) (fun v M1 hv => ?_)
      rw [hv.1, hv.2]
      clear hv M1 v
      have hR1 := xRr_F (xFr_gs (n := m) (S := (fun i => g 75 (40 * p + i))) (by decide : 89 ≤ 90)) hR
      have h90 : ∀ u, u < m → gset g 90 m (fun i => g 75 (40 * p + i)) 90 u = nI ((fun i => xN (g 75 (40 * p + i))) u) ∧ (fun i => xN (g 75 (40 * p + i))) u < 6 := fun u hu => by rw [gset_in hu]; exact ⟨(xstp_N (hx u hu)).2, (xstp_N (hx u hu)).1⟩
      have e74 : gset g 90 m (fun i => g 75 (40 * p + i)) 74 p = nI m := by rw [gset_na (by decide)]; exact hs
      try dsimp only [Nat.reduceAdd, Option.toList, List.cons_append, List.nil_append, List.drop]
      refine xS.s1 rfl rfl ?_
      try dsimp only [Nat.reduceAdd]
      refine xS.s1 rfl rfl ?_
      try dsimp only [Nat.reduceAdd]
      refine xS.br0 (c := .ge) (off := 5) (l := 3) rfl rfl (fun h30 => ?_) (fun h30 => ?_)
      · have g30 := xt_ge h30
        refine xS.s1 rfl rfl ?_
        try dsimp only [Nat.reduceAdd, xi_0]
        refine xS.s1 rfl rfl ?_
        try dsimp only [Nat.reduceAdd]
        refine xS.s1 rfl rfl ?_
        try dsimp only [Nat.reduceAdd, xi_0]
        refine xS.s1 rfl rfl ?_
        try dsimp only [Nat.reduceAdd]
        refine xS.pick [0, 1, 3, 4, 5] rfl ?_
        refine xS.loop (σ := Unit) (m) (fun j S => [(5, .int (nI j)), (4, .int (nI (xcnt (fun i => decide ((xshw h (Lw s / 4) (Lw s % 4) (fun i => xN (g 75 (40 * p + i)))) i = g 75 (40 * p + i))) j))), (0, .ref 73), (1, .int (nI s)), (2, .int (nI p))]) (fun _ _ => xH b (gset g 90 m (fun i => g 75 (40 * p + i))) l) (fun _ _ => True) (()) (rfl) (rfl) (trivial) ?_
        intro j S hj hI ih
        try dsimp only
        refine xS.s1 rfl rfl ?_
        try dsimp only [Nat.reduceAdd]
        refine xS.s1 rfl rfl ?_
        try dsimp only [Nat.reduceAdd]
        refine xS.gR rfl rfl rfl ⟨by decide, rfl⟩ rfl ?_
        try dsimp only [Nat.reduceAdd]
        refine xS.s1 rfl rfl ?_
        try dsimp only [Nat.reduceAdd]
        refine xS.ia rfl xar_74 (by omega) ?_
        try dsimp only [Nat.reduceAdd]
        refine xS.br (c := .ge) (off := 40) (l := 3) rfl rfl (fun h49 => ?_) (fun h49 => ?_)
        · have g49 := xt_ge h49
          rw [e74] at g49
          have e := xnle g49 (by omega) (by omega)
          have e2 : m = j := by omega
          subst e2
          refine xS.s1 rfl rfl ?_
          try dsimp only [Nat.reduceAdd]
          refine xS.ret rfl rfl rfl (fun _ _ => rfl) ?_
          exact ⟨_, xFr_gs (by decide), rfl, rfl⟩
        · have g49 := xf_ge h49
          rw [e74] at g49
          have hlt := xnlt g49 (by omega) (by omega)
          refine xS.s1 rfl rfl ?_
          try dsimp only [Nat.reduceAdd]
          refine xS.s1 rfl rfl ?_
          try dsimp only [Nat.reduceAdd]
          refine xS.s1 rfl rfl ?_
          try dsimp only [Nat.reduceAdd]
          refine xS.s1 rfl rfl ?_
          try dsimp only [Nat.reduceAdd]
          refine xS.gR rfl rfl rfl ⟨by decide, rfl⟩ rfl ?_
          try dsimp only [Nat.reduceAdd]
          refine xS.s1 rfl rfl ?_
          try dsimp only [Nat.reduceAdd]
          -- 62 yX12_showsOf
          refine xS.cv rfl rfl rfl rfl rfl rfl ⟨by decide, rfl, rfl⟩ (c_X12_showsOf (f := (fun i => xN (g 75 (40 * p + i)))) xar_90 hR1 (by omega) hk (fun u hu => h90 u (by omega))) (fun v M1 hv => ?_)
          rw [hv.1, hv.2]
          clear hv M1 v
          try dsimp only [Nat.reduceAdd, Option.toList, List.cons_append, List.nil_append, List.drop]
          refine xS.s1 rfl rfl ?_
          try dsimp only [Nat.reduceAdd]
          refine xS.gR rfl rfl rfl ⟨by decide, rfl⟩ rfl ?_
          try dsimp only [Nat.reduceAdd]
          refine xS.s1 rfl rfl ?_
          try dsimp only [Nat.reduceAdd]
          refine xS.ia rfl xar_90 (by omega) ?_
          try dsimp only [Nat.reduceAdd]
          rw [gset_in hlt]
          refine xS.br (c := .ne) (off := 7) (l := 3) rfl rfl (fun h72 => ?_) (fun h72 => ?_)
          · have g72 := xt_ne h72
            refine xS.s1 rfl rfl ?_
            try dsimp only [Nat.reduceAdd, xi_0]
            refine xS.s1 rfl rfl ?_
            try dsimp only [Nat.reduceAdd]
            refine xS.s1 rfl rfl ?_
            try dsimp only [Nat.reduceAdd]
            refine xS.s1 rfl rfl ?_
            try dsimp only [Nat.reduceAdd, xi_1]
            rw [nI_1]
            refine xS.s1 rfl rfl ?_
            try dsimp only [Nat.reduceAdd]
            refine xS.pick [0, 1, 2, 3, 4] rfl ?_
            rw [show nI (xcnt (fun i => decide ((xshw h (Lw s / 4) (Lw s % 4) (fun i => xN (g 75 (40 * p + i)))) i = g 75 (40 * p + i))) j) + 0 = nI (xcnt (fun i => decide ((xshw h (Lw s / 4) (Lw s % 4) (fun i => xN (g 75 (40 * p + i)))) i = g 75 (40 * p + i))) j) from nI_add _ 0]
            have ih2 := ih () (by omega) trivial
            first | (rw [show xcnt (fun i => decide ((xshw h (Lw s / 4) (Lw s % 4) (fun i => xN (g 75 (40 * p + i)))) i = g 75 (40 * p + i))) (j + 1) = xcnt (fun i => decide ((xshw h (Lw s / 4) (Lw s % 4) (fun i => xN (g 75 (40 * p + i)))) i = g 75 (40 * p + i))) j from by simp [xcnt_s, g72]] at ih2; exact ih2) | (rw [show xcnt (fun i => decide ((xshw h (Lw s / 4) (Lw s % 4) (fun i => xN (g 75 (40 * p + i)))) i = g 75 (40 * p + i))) (j + 1) = xcnt (fun i => decide ((xshw h (Lw s / 4) (Lw s % 4) (fun i => xN (g 75 (40 * p + i)))) i = g 75 (40 * p + i))) j + 1 from by simp [xcnt_s, g72]] at ih2; exact ih2)
          · have g72 := xf_ne h72
            refine xS.s1 rfl rfl ?_
            try dsimp only [Nat.reduceAdd, xi_1]
            refine xS.s1 rfl rfl ?_
            try dsimp only [Nat.reduceAdd]
            refine xS.s1 rfl rfl ?_
            try dsimp only [Nat.reduceAdd]
            refine xS.s1 rfl rfl ?_
            try dsimp only [Nat.reduceAdd]
            refine xS.s1 rfl rfl ?_
            try dsimp only [Nat.reduceAdd, xi_1]
            rw [nI_1]
            refine xS.s1 rfl rfl ?_
            try dsimp only [Nat.reduceAdd]
            refine xS.pick [0, 1, 2, 3, 4] rfl ?_
            rw [nI_1]
            have ih2 := ih () (by omega) trivial
            first | (rw [show xcnt (fun i => decide ((xshw h (Lw s / 4) (Lw s % 4) (fun i => xN (g 75 (40 * p + i)))) i = g 75 (40 * p + i))) (j + 1) = xcnt (fun i => decide ((xshw h (Lw s / 4) (Lw s % 4) (fun i => xN (g 75 (40 * p + i)))) i = g 75 (40 * p + i))) j from by simp [xcnt_s, g72]] at ih2; exact ih2) | (rw [show xcnt (fun i => decide ((xshw h (Lw s / 4) (Lw s % 4) (fun i => xN (g 75 (40 * p + i)))) i = g 75 (40 * p + i))) (j + 1) = xcnt (fun i => decide ((xshw h (Lw s / 4) (Lw s % 4) (fun i => xN (g 75 (40 * p + i)))) i = g 75 (40 * p + i))) j + 1 from by simp [xcnt_s, g72]] at ih2; exact ih2)
      · have g30 := xf_ge h30
        exfalso; first | exact absurd g30 (by decide) | (simp (disch := omega) only [Int32.lt_iff_toInt_lt, Int32.le_iff_toInt_le, nI_toInt, Int32.reduceToInt] at g30 <;> omega)
    · have g12 := xf_ne h12
      exfalso; first | exact absurd g12 (by decide) | (simp (disch := omega) only [Int32.lt_iff_toInt_lt, Int32.le_iff_toInt_le, nI_toInt, Int32.reduceToInt] at g12 <;> omega)

set_option maxRecDepth 10000 in
theorem c_X12_fit_ok (hp1 : p < 6) (hs1 : s < 6) (hs : g 74 p = nI m) (hs2 : g 74 s = nI m) (hm : m ≤ 12) (hf : xfos (g 74 p) (fun i => g 75 (40 * p + i)) 12 = 0) (hf2 : xfos (g 74 s) (fun i => g 75 (40 * s + i)) 12 = 0) (hx : ∀ i, i < m → xstp (g 75 (40 * p + i))) (hx2 : ∀ i, i < m → xstp (g 75 (40 * s + i))) : xT (k + 5) 206 [.ref 73, .int (nI p), .int (nI s)] (xH b g l) (fun r M' => ∃ g0, xFr g g0 ∧ M' = xH b (up g0 73 20 (xfI (xfst (fun i => !decide (g 75 (40 * p + i) = g 75 (40 * s + i))) m))) l ∧ r = some (.int (nI (xcnt (fun i => !decide (g 75 (40 * p + i) = g 75 (40 * s + i))) m)))) := by
  refine xT.of rfl (Nat.le_of_ble_eq_true rfl) ?_
  change xS _ _ 0 [(0, .ref 73), (1, .int (nI p)), (2, .int (nI s))] [] _ _
  refine xS.s1 rfl rfl ?_
  try dsimp only [Nat.reduceAdd]
  -- 1 yX12_isRow
  refine xS.callS rfl rfl rfl ⟨Nat.le_of_ble_eq_true rfl, rfl⟩ (c_X12_isRow_in hp1) (fun v M1 hv => ?_)
  rw [hv.1, hv.2]
  clear hv M1 v
  try dsimp only [Nat.reduceAdd, Option.toList, List.cons_append, List.nil_append, List.drop]
  refine xS.br0 (c := .eq) (off := 10) (l := 3) rfl rfl (fun h4 => ?_) (fun h4 => ?_)
  · have g4 := xt_eq h4
    exfalso; first | exact absurd g4 (by decide) | (simp (disch := omega) only [Int32.lt_iff_toInt_lt, Int32.le_iff_toInt_le, nI_toInt, Int32.reduceToInt] at g4 <;> omega)
  · have g4 := xf_eq h4
    refine xS.s1 rfl rfl ?_
    try dsimp only [Nat.reduceAdd]
    -- 8 yX12_isRow
    refine xS.callS rfl rfl rfl ⟨Nat.le_of_ble_eq_true rfl, rfl⟩ (c_X12_isRow_in hs1) (fun v M1 hv => ?_)
    rw [hv.1, hv.2]
    clear hv M1 v
    try dsimp only [Nat.reduceAdd, Option.toList, List.cons_append, List.nil_append, List.drop]
    refine xS.br0 (c := .ne) (off := 5) (l := 3) rfl rfl (fun h11 => ?_) (fun h11 => ?_)
    · have g11 := xt_ne h11
      refine xS.s1 rfl rfl ?_
      try dsimp only [Nat.reduceAdd]
      refine xS.s1 rfl rfl ?_
      try dsimp only [Nat.reduceAdd]
      refine xS.s1 rfl rfl ?_
      try dsimp only [Nat.reduceAdd]
      -- 19 yX12_takeTwo
      refine xS.cv rfl rfl rfl rfl rfl rfl ⟨by decide, rfl, rfl⟩ (c_X12_takeTwo_0 hp1 hs (by omega) hs1 hs2 hf hf2) (fun v M1 hv => ?_)
      rw [hv.1, hv.2]
      clear hv M1 v
      have hF1 : xFr g (gset (gset g 90 m (fun i => g 75 (40 * p + i))) 91 m (fun i => g 75 (40 * s + i))) := xFr_t (xFr_gs (by decide)) (xFr_gs (by decide))
      have h90 : ∀ u, u < m → (gset (gset g 90 m (fun i => g 75 (40 * p + i))) 91 m (fun i => g 75 (40 * s + i))) 90 u = nI ((fun i => xN (g 75 (40 * p + i))) u) ∧ (fun i => xN (g 75 (40 * p + i))) u < 6 := fun u hu => by rw [gset_na (by decide), gset_in hu]; exact ⟨(xstp_N (hx u hu)).2, (xstp_N (hx u hu)).1⟩
      have h91 : ∀ u, u < m → (gset (gset g 90 m (fun i => g 75 (40 * p + i))) 91 m (fun i => g 75 (40 * s + i))) 91 u = g 75 (40 * s + u) := fun u hu => by rw [gset_in hu]
      have e74 : (gset (gset g 90 m (fun i => g 75 (40 * p + i))) 91 m (fun i => g 75 (40 * s + i))) 74 p = nI m := by rw [gset_na (by decide), gset_na (by decide)]; exact hs
      try dsimp only [Nat.reduceAdd, Option.toList, List.cons_append, List.nil_append, List.drop]
      refine xS.s1 rfl rfl ?_
      try dsimp only [Nat.reduceAdd]
      refine xS.s1 rfl rfl ?_
      try dsimp only [Nat.reduceAdd]
      refine xS.br0 (c := .ge) (off := 5) (l := 3) rfl rfl (fun h24 => ?_) (fun h24 => ?_)
      · have g24 := xt_ge h24
        refine xS.s1 rfl rfl ?_
        try dsimp only [Nat.reduceAdd, xj_m9]
        refine xS.s1 rfl rfl ?_
        try dsimp only [Nat.reduceAdd]
        refine xS.s1 rfl rfl ?_
        try dsimp only [Nat.reduceAdd, xi_0]
        refine xS.s1 rfl rfl ?_
        try dsimp only [Nat.reduceAdd]
        refine xS.s1 rfl rfl ?_
        try dsimp only [Nat.reduceAdd]
        refine xS.gR rfl rfl rfl ⟨by decide, rfl⟩ rfl ?_
        try dsimp only [Nat.reduceAdd]
        refine xS.s1 rfl rfl ?_
        try dsimp only [Nat.reduceAdd]
        refine xS.ia rfl xar_74 (by omega) ?_
        try dsimp only [Nat.reduceAdd]
        rw [e74]
        refine xS.s1 rfl rfl ?_
        try dsimp only [Nat.reduceAdd, xi_1]
        refine xS.s1 rfl rfl ?_
        try dsimp only [Nat.reduceAdd]
        refine xS.s1 rfl rfl ?_
        try dsimp only [Nat.reduceAdd]
        refine xS.pick [0, 2, 1, 4] rfl ?_
        refine xS.loop (σ := Unit) (m) (fun j S => [(6, .int (nI (m - j) - 1)), (4, .int (xfI (xdn1 (fun i => !decide (g 75 (40 * p + i) = g 75 (40 * s + i))) m j))), (5, .int (nI (xcd (fun i => !decide (g 75 (40 * p + i) = g 75 (40 * s + i))) m j))), (0, .ref 73)]) (fun _ _ => xH b (gset (gset g 90 m (fun i => g 75 (40 * p + i))) 91 m (fun i => g 75 (40 * s + i))) l) (fun _ _ => True) (()) (rfl) (rfl) (trivial) ?_
        intro j S hj hI ih
        try dsimp only
        refine xS.s1 rfl rfl ?_
        try dsimp only [Nat.reduceAdd]
        refine xS.br0 (c := .lt) (off := 62) (l := 3) rfl rfl (fun h48 => ?_) (fun h48 => ?_)
        · have g48 := xt_lt h48
          rw [xdown0 hj (by omega)] at g48
          subst g48
          refine xS.s1 rfl rfl ?_
          try dsimp only [Nat.reduceAdd]
          refine xS.s1 rfl rfl ?_
          try dsimp only [Nat.reduceAdd]
          refine xS.pI rfl rfl rfl ⟨⟨by decide, rfl⟩, rfl, by decide, by decide⟩ rfl ?_
          try dsimp only [Nat.reduceAdd]
          refine xS.s1 rfl rfl ?_
          try dsimp only [Nat.reduceAdd]
          refine xS.ret rfl rfl rfl (fun _ _ => rfl) ?_
          rw [xdn1_m, xcd_m]
          exact ⟨_, hF1, rfl, rfl⟩
        · have g48 := xf_lt h48
          have hlt : j < m := by
            have := (not_congr (xdown0 hj (by omega))).mp (Int32.not_lt.mpr g48)
            omega
          rw [xdown hlt]
          refine xS.s1 rfl rfl ?_
          try dsimp only [Nat.reduceAdd]
          refine xS.s1 rfl rfl ?_
          try dsimp only [Nat.reduceAdd]
          refine xS.gR rfl rfl rfl ⟨by decide, rfl⟩ rfl ?_
          try dsimp only [Nat.reduceAdd]
          refine xS.s1 rfl rfl ?_
          try dsimp only [Nat.reduceAdd]
          refine xS.ia rfl xar_90 (by omega) ?_
          try dsimp only [Nat.reduceAdd]
          rw [gset_na (by decide), gset_in (by omega)]
          refine xS.s1 rfl rfl ?_
          try dsimp only [Nat.reduceAdd]
          refine xS.gR rfl rfl rfl ⟨by decide, rfl⟩ rfl ?_
          try dsimp only [Nat.reduceAdd]
          refine xS.s1 rfl rfl ?_
          try dsimp only [Nat.reduceAdd]
          refine xS.ia rfl xar_91 (by omega) ?_
          try dsimp only [Nat.reduceAdd]
          rw [gset_in (by omega)]
          refine xS.br (c := .ne) (off := 7) (l := 3) rfl rfl (fun h67 => ?_) (fun h67 => ?_)
          · have g67 := xt_ne h67
            refine xS.s1 rfl rfl ?_
            try dsimp only [Nat.reduceAdd, xi_1]
            refine xS.s1 rfl rfl ?_
            try dsimp only [Nat.reduceAdd]
            refine xS.s1 rfl rfl ?_
            try dsimp only [Nat.reduceAdd]
            refine xS.s1 rfl rfl ?_
            try dsimp only [Nat.reduceAdd]
            refine xS.gR rfl rfl rfl ⟨by decide, rfl⟩ rfl ?_
            try dsimp only [Nat.reduceAdd]
            refine xS.s1 rfl rfl ?_
            try dsimp only [Nat.reduceAdd]
            refine xS.ia rfl xar_90 (by omega) ?_
            try dsimp only [Nat.reduceAdd]
            rw [gset_na (by decide), gset_in (by omega)]
            refine xS.s1 rfl rfl ?_
            try dsimp only [Nat.reduceAdd]
            refine xS.gR rfl rfl rfl ⟨by decide, rfl⟩ rfl ?_
            try dsimp only [Nat.reduceAdd]
            refine xS.s1 rfl rfl ?_
            try dsimp only [Nat.reduceAdd]
            refine xS.ia rfl xar_91 (by omega) ?_
            try dsimp only [Nat.reduceAdd]
            rw [gset_in (by omega)]
            refine xS.br (c := .ne) (off := 8) (l := 3) rfl rfl (fun h92 => ?_) (fun h92 => ?_)
            · have g92 := xt_ne h92
              refine xS.s1 rfl rfl ?_
              try dsimp only [Nat.reduceAdd]
              refine xS.s1 rfl rfl ?_
              try dsimp only [Nat.reduceAdd]
              refine xS.s1 rfl rfl ?_
              try dsimp only [Nat.reduceAdd, xi_m1]
              refine xS.s1 rfl rfl ?_
              try dsimp only [Nat.reduceAdd]
              refine xS.pick [0, 1, 2, 3] rfl ?_
              have ih2 := ih () (by omega) trivial
              rw [xdec]
              rw [show xdn1 (fun i => !decide (g 75 (40 * p + i) = g 75 (40 * s + i))) m (j + 1) = some (m - j - 1) from by rw [xdn1_s]; simp [g67], show xcd (fun i => !decide (g 75 (40 * p + i) = g 75 (40 * s + i))) m (j + 1) = xcd (fun i => !decide (g 75 (40 * p + i) = g 75 (40 * s + i))) m j + 1 from by rw [xcd_s]; simp [g67]] at ih2
              rw [nI_1]
              exact ih2
            · have g92 := xf_ne h92
              refine xS.s1 rfl rfl ?_
              try dsimp only [Nat.reduceAdd]
              refine xS.s1 rfl rfl ?_
              try dsimp only [Nat.reduceAdd]
              refine xS.s1 rfl rfl ?_
              try dsimp only [Nat.reduceAdd]
              refine xS.s1 rfl rfl ?_
              try dsimp only [Nat.reduceAdd, xi_m1]
              refine xS.s1 rfl rfl ?_
              try dsimp only [Nat.reduceAdd]
              refine xS.pick [0, 1, 2, 3] rfl ?_
              exact absurd g92 g67
          · have g67 := xf_ne h67
            refine xS.s1 rfl rfl ?_
            try dsimp only [Nat.reduceAdd, xi_0]
            refine xS.s1 rfl rfl ?_
            try dsimp only [Nat.reduceAdd]
            refine xS.s1 rfl rfl ?_
            try dsimp only [Nat.reduceAdd]
            refine xS.s1 rfl rfl ?_
            try dsimp only [Nat.reduceAdd]
            refine xS.s1 rfl rfl ?_
            try dsimp only [Nat.reduceAdd]
            refine xS.gR rfl rfl rfl ⟨by decide, rfl⟩ rfl ?_
            try dsimp only [Nat.reduceAdd]
            refine xS.s1 rfl rfl ?_
            try dsimp only [Nat.reduceAdd]
            refine xS.ia rfl xar_90 (by omega) ?_
            try dsimp only [Nat.reduceAdd]
            rw [gset_na (by decide), gset_in (by omega)]
            refine xS.s1 rfl rfl ?_
            try dsimp only [Nat.reduceAdd]
            refine xS.gR rfl rfl rfl ⟨by decide, rfl⟩ rfl ?_
            try dsimp only [Nat.reduceAdd]
            refine xS.s1 rfl rfl ?_
            try dsimp only [Nat.reduceAdd]
            refine xS.ia rfl xar_91 (by omega) ?_
            try dsimp only [Nat.reduceAdd]
            rw [gset_in (by omega)]
            refine xS.br (c := .ne) (off := 8) (l := 3) rfl rfl (fun h92 => ?_) (fun h92 => ?_)
            · have g92 := xt_ne h92
              refine xS.s1 rfl rfl ?_
              try dsimp only [Nat.reduceAdd]
              refine xS.s1 rfl rfl ?_
              try dsimp only [Nat.reduceAdd]
              refine xS.s1 rfl rfl ?_
              try dsimp only [Nat.reduceAdd, xi_m1]
              refine xS.s1 rfl rfl ?_
              try dsimp only [Nat.reduceAdd]
              refine xS.pick [0, 1, 2, 3] rfl ?_
              exact absurd g67 g92
            · have g92 := xf_ne h92
              refine xS.s1 rfl rfl ?_
              try dsimp only [Nat.reduceAdd]
              refine xS.s1 rfl rfl ?_
              try dsimp only [Nat.reduceAdd]
              refine xS.s1 rfl rfl ?_
              try dsimp only [Nat.reduceAdd]
              refine xS.s1 rfl rfl ?_
              try dsimp only [Nat.reduceAdd, xi_m1]
              refine xS.s1 rfl rfl ?_
              try dsimp only [Nat.reduceAdd]
              refine xS.pick [0, 1, 2, 3] rfl ?_
              have ih2 := ih () (by omega) trivial
              rw [xdec]
              rw [show xdn1 (fun i => !decide (g 75 (40 * p + i) = g 75 (40 * s + i))) m (j + 1) = xdn1 (fun i => !decide (g 75 (40 * p + i) = g 75 (40 * s + i))) m j from by rw [xdn1_s]; simp [g67], show xcd (fun i => !decide (g 75 (40 * p + i) = g 75 (40 * s + i))) m (j + 1) = xcd (fun i => !decide (g 75 (40 * p + i) = g 75 (40 * s + i))) m j from by rw [xcd_s]; simp [g67]] at ih2
              rw [show nI (xcd (fun i => !decide (g 75 (40 * p + i) = g 75 (40 * s + i))) m j) + 0 = nI (xcd (fun i => !decide (g 75 (40 * p + i) = g 75 (40 * s + i))) m j) from nI_add _ 0]
              exact ih2
      · have g24 := xf_ge h24
        exfalso; first | exact absurd g24 (by decide) | (simp (disch := omega) only [Int32.lt_iff_toInt_lt, Int32.le_iff_toInt_le, nI_toInt, Int32.reduceToInt] at g24 <;> omega)
    · have g11 := xf_ne h11
      exfalso; first | exact absurd g11 (by decide) | (simp (disch := omega) only [Int32.lt_iff_toInt_lt, Int32.le_iff_toInt_le, nI_toInt, Int32.reduceToInt] at g11 <;> omega)

set_option maxRecDepth 10000 in
theorem c_X12_ways_ok (hR : xRr g h tx G T Lw) (hk : s < G) (hp1 : p < 6) (hs : g 74 p = nI m) (hm : m ≤ 6) (hf : xfos (g 74 p) (fun i => g 75 (40 * p + i)) 6 = 0) (hx : ∀ i, i < m → xstp (g 75 (40 * p + i))) : xT (k + 5) 210 [.ref 73, .int (nI s), .int (nI p)] (xH b g l) (fun r M' => ∃ g0, xFr g g0 ∧ M' = xH b g0 (up (up l 73 21 (lN (xcnt (fun c => decide (xfst (fun i => !decide (xshw h (Lw s / 4) (Lw s % 4) (xd6 m c) i = g 75 (40 * p + i))) m = none)) (6 ^ m) / 1))) 73 22 1) ∧ r = some (.int 1)) := by
  refine xT.of rfl (Nat.le_of_ble_eq_true rfl) ?_
  change xS _ _ 0 [(0, .ref 73), (1, .int (nI s)), (2, .int (nI p))] [] _ _
  refine xS.s1 rfl rfl ?_
  try dsimp only [Nat.reduceAdd]
  refine xS.s1 rfl rfl ?_
  try dsimp only [Nat.reduceAdd]
  -- 2 yX12_isGlass
  refine xS.cv rfl rfl rfl rfl rfl rfl ⟨by decide, rfl, rfl⟩ (c_X12_isGlass_in hR.1.1 hR.1.2 hk) (fun v M1 hv => ?_)
  rw [hv.1, hv.2]
  clear hv M1 v
  try dsimp only [Nat.reduceAdd, Option.toList, List.cons_append, List.nil_append, List.drop]
  refine xS.br0 (c := .eq) (off := 10) (l := 3) rfl rfl (fun h5 => ?_) (fun h5 => ?_)
  · have g5 := xt_eq h5
    exfalso; first | exact absurd g5 (by decide) | (simp (disch := omega) only [Int32.lt_iff_toInt_lt, Int32.le_iff_toInt_le, nI_toInt, Int32.reduceToInt] at g5 <;> omega)
  · have g5 := xf_eq h5
    refine xS.s1 rfl rfl ?_
    try dsimp only [Nat.reduceAdd]
    -- 9 yX12_isRow
    refine xS.callS rfl rfl rfl ⟨Nat.le_of_ble_eq_true rfl, rfl⟩ (c_X12_isRow_in hp1) (fun v M1 hv => ?_)
    rw [hv.1, hv.2]
    clear hv M1 v
    try dsimp only [Nat.reduceAdd, Option.toList, List.cons_append, List.nil_append, List.drop]
    refine xS.br0 (c := .ne) (off := 5) (l := 3) rfl rfl (fun h12 => ?_) (fun h12 => ?_)
    · have g12 := xt_ne h12
      refine xS.s1 rfl rfl ?_
      try dsimp only [Nat.reduceAdd]
      refine xS.s1 rfl rfl ?_
      try dsimp only [Nat.reduceAdd]
      refine xS.s1 rfl rfl ?_
      try dsimp only [Nat.reduceAdd, xj_6]
      refine xS.s1 rfl rfl ?_
      try dsimp only [Nat.reduceAdd]
      refine xS.gR rfl rfl rfl ⟨by decide, rfl⟩ rfl ?_
      try dsimp only [Nat.reduceAdd]
      -- 25 yX12_takeOut
      refine xS.cv rfl rfl rfl rfl rfl rfl ⟨by decide, rfl, rfl⟩ (c_X12_takeOut_0 xar_91 (by decide) hp1 hs (by omega) (by decide) hf) (fun v M1 hv => ?_)
      rw [hv.1, hv.2]
      clear hv M1 v
      have hR1 := xRr_F (xFr_gs (n := m) (S := (fun i => g 75 (40 * p + i))) (by decide : 89 ≤ 91)) hR
      have h90 : ∀ u, u < m → gset g 91 m (fun i => g 75 (40 * p + i)) 91 u = nI ((fun i => xN (g 75 (40 * p + i))) u) ∧ (fun i => xN (g 75 (40 * p + i))) u < 6 := fun u hu => by rw [gset_in hu]; exact ⟨(xstp_N (hx u hu)).2, (xstp_N (hx u hu)).1⟩
      have e74 : gset g 91 m (fun i => g 75 (40 * p + i)) 74 p = nI m := by rw [gset_na (by decide)]; exact hs
      try dsimp only [Nat.reduceAdd, Option.toList, List.cons_append, List.nil_append, List.drop]
      refine xS.s1 rfl rfl ?_
      try dsimp only [Nat.reduceAdd]
      refine xS.s1 rfl rfl ?_
      try dsimp only [Nat.reduceAdd]
      refine xS.br0 (c := .ge) (off := 5) (l := 3) rfl rfl (fun h30 => ?_) (fun h30 => ?_)
      · have g30 := xt_ge h30
        refine xS.s1 rfl rfl ?_
        try dsimp only [Nat.reduceAdd]
        refine xS.gR rfl rfl rfl ⟨by decide, rfl⟩ rfl ?_
        try dsimp only [Nat.reduceAdd]
        refine xS.s1 rfl rfl ?_
        try dsimp only [Nat.reduceAdd]
        refine xS.ia rfl xar_74 (by omega) ?_
        try dsimp only [Nat.reduceAdd]
        rw [e74]
        refine xS.s1 rfl rfl ?_
        try dsimp only [Nat.reduceAdd]
        refine xS.s1 rfl rfl ?_
        try dsimp only [Nat.reduceAdd, xi_0]
        refine xS.s1 rfl rfl ?_
        try dsimp only [Nat.reduceAdd]
        refine xS.s1 rfl rfl ?_
        try dsimp only [Nat.reduceAdd, xi_0]
        refine xS.s1 rfl rfl ?_
        try dsimp only [Nat.reduceAdd]
        refine xS.pick [0, 1, 4, 5, 2] rfl ?_
        refine xS.loop (σ := Nat → Nat → Int32) (6 ^ m) (fun j S => [(6, .int (nI j)), (5, .int (nI (xcnt (fun c => decide (xfst (fun i => !decide (xshw h (Lw s / 4) (Lw s % 4) (xd6 m c) i = g 75 (40 * p + i))) m = none)) j))), (0, .ref 73), (1, .int (nI s)), (4, .int (nI m))]) (fun _ S => xH b S l) (fun _ S => ∀ a, a ≠ 90 → S a = (gset g 91 m (fun i => g 75 (40 * p + i))) a) ((gset g 91 m (fun i => g 75 (40 * p + i)))) (rfl) (rfl) (fun _ _ => rfl) ?_
        intro j S hj hI ih
        try dsimp only
        have hp6 := pow6 hm
        have hRj : xRr S h tx G T Lw := xRr_fr (by rw [hI 73 (by decide)]) (by rw [hI 73 (by decide)]) (hI 81 (by decide)) (hI 82 (by decide)) (hI 83 (by decide)) hR1
        refine xS.s1 rfl rfl ?_
        try dsimp only [Nat.reduceAdd]
        refine xS.s1 rfl rfl ?_
        try dsimp only [Nat.reduceAdd]
        -- 53 yX12_rowsOf
        refine xS.callS rfl rfl rfl ⟨Nat.le_of_ble_eq_true rfl, rfl⟩ (c_X12_rowsOf hm) (fun v M1 hv => ?_)
        rw [hv.1, hv.2]
        clear hv M1 v
        try dsimp only [Nat.reduceAdd, Option.toList, List.cons_append, List.nil_append, List.drop]
        refine xS.br (c := .ge) (off := 37) (l := 3) rfl rfl (fun h56 => ?_) (fun h56 => ?_)
        · have g56 := xt_ge h56
          have e := xnle (b := 6 ^ m) g56 (by omega) (by omega)
          have e2 : 6 ^ m = j := by omega
          rw [← e2]
          have hcl := xcnt_le (fun c => decide (xfst (fun i => !decide (xshw h (Lw s / 4) (Lw s % 4) (xd6 m c) i = g 75 (40 * p + i))) m = none)) (6 ^ m)
          refine xS.s1 rfl rfl ?_
          try dsimp only [Nat.reduceAdd]
          refine xS.s1 rfl rfl ?_
          try dsimp only [Nat.reduceAdd]
          refine xS.s1 rfl rfl ?_
          try dsimp only [Nat.reduceAdd]
          rw [nI_l (by omega)]
          refine xS.s1 rfl rfl ?_
          try dsimp only [Nat.reduceAdd]
          -- 98 yX12_tellParts
          refine xS.cv rfl rfl rfl rfl rfl rfl ⟨by decide, rfl, rfl⟩ (c_X12_tellParts (p := xcnt (fun c => decide (xfst (fun i => !decide (xshw h (Lw s / 4) (Lw s % 4) (xd6 m c) i = g 75 (40 * p + i))) m = none)) (6 ^ m)) (d := 1) (by omega) (by omega) (by omega)) (fun v M1 hv => ?_)
          rw [hv.1, hv.2, Nat.gcd_one_right]
          clear hv M1 v
          try dsimp only [Nat.reduceAdd, Option.toList, List.cons_append, List.nil_append, List.drop]
          refine xS.s1 rfl rfl ?_
          try dsimp only [Nat.reduceAdd, xi_1]
          refine xS.ret rfl rfl rfl (fun _ _ => rfl) ?_
          exact ⟨S, ⟨fun a h1 h2 => by rw [hI a (by omega), gset_na (by omega)], fun i _ => by rw [hI 73 (by decide), gset_na (by decide)]⟩, rfl, rfl⟩
        · have g56 := xf_ge h56
          have hlt := xnlt (b := 6 ^ m) g56 (by omega) (by omega)
          refine xS.s1 rfl rfl ?_
          try dsimp only [Nat.reduceAdd]
          refine xS.s1 rfl rfl ?_
          try dsimp only [Nat.reduceAdd]
          refine xS.s1 rfl rfl ?_
          try dsimp only [Nat.reduceAdd]
          -- 64 yX12_layDoings
          refine xS.cv rfl rfl rfl rfl rfl rfl ⟨by decide, rfl, rfl⟩ (c_X12_layDoings hm (by omega)) (fun v M1 hv => ?_)
          rw [hv.1, hv.2]
          clear hv M1 v
          have hRg : xRr (glay S m j m) h tx G T Lw := xRr_fr (by rw [glay_na (by decide)]) (by rw [glay_na (by decide)]) (glay_na (by decide)) (glay_na (by decide)) (glay_na (by decide)) hRj
          try dsimp only [Nat.reduceAdd, Option.toList, List.cons_append, List.nil_append, List.drop]
          refine xS.s1 rfl rfl ?_
          try dsimp only [Nat.reduceAdd]
          refine xS.s1 rfl rfl ?_
          try dsimp only [Nat.reduceAdd]
          refine xS.s1 rfl rfl ?_
          try dsimp only [Nat.reduceAdd]
          refine xS.s1 rfl rfl ?_
          try dsimp only [Nat.reduceAdd]
          -- 73 yX12_shows
          refine xS.cv rfl rfl rfl rfl rfl rfl ⟨by decide, rfl, rfl⟩ (c_X12_shows (f := xd6 m j) (O := fun i => g 75 (40 * p + i)) hRg hk hm (fun u hu => ⟨glay_in hu, xd6_lt _ _ _⟩) (fun u hu => by rw [glay_na (by decide), hI 91 (by decide), gset_in hu])) (fun v M1 hv => ?_)
          rw [hv.1, hv.2]
          clear hv M1 v
          try dsimp only [Nat.reduceAdd, Option.toList, List.cons_append, List.nil_append, List.drop]
          refine xS.br0 (c := .eq) (off := 7) (l := 3) rfl rfl (fun h76 => ?_) (fun h76 => ?_)
          · have g76 := xt_eq h76
            refine xS.s1 rfl rfl ?_
            try dsimp only [Nat.reduceAdd, xi_0]
            refine xS.s1 rfl rfl ?_
            try dsimp only [Nat.reduceAdd]
            refine xS.s1 rfl rfl ?_
            try dsimp only [Nat.reduceAdd]
            refine xS.s1 rfl rfl ?_
            try dsimp only [Nat.reduceAdd, xi_1]
            rw [nI_1]
            refine xS.s1 rfl rfl ?_
            try dsimp only [Nat.reduceAdd]
            refine xS.pick [0, 1, 2, 3, 4] rfl ?_
            rw [show nI (xcnt (fun c => decide (xfst (fun i => !decide (xshw h (Lw s / 4) (Lw s % 4) (xd6 m c) i = g 75 (40 * p + i))) m = none)) j) + 0 = nI (xcnt (fun c => decide (xfst (fun i => !decide (xshw h (Lw s / 4) (Lw s % 4) (xd6 m c) i = g 75 (40 * p + i))) m = none)) j) from nI_add _ 0]
            have ih2 := ih (glay S m j m) (by omega) (fun a ha => by rw [glay_na ha, hI a ha])
            rw [show xcnt (fun c => decide (xfst (fun i => !decide (xshw h (Lw s / 4) (Lw s % 4) (xd6 m c) i = g 75 (40 * p + i))) m = none)) (j + 1) = xcnt (fun c => decide (xfst (fun i => !decide (xshw h (Lw s / 4) (Lw s % 4) (xd6 m c) i = g 75 (40 * p + i))) m = none)) j from by rw [xcnt_s]; simp only [decide_eq_false (xif0 g76), cond_false]] at ih2
            exact ih2
          · have g76 := xf_eq h76
            refine xS.s1 rfl rfl ?_
            try dsimp only [Nat.reduceAdd, xi_1]
            refine xS.s1 rfl rfl ?_
            try dsimp only [Nat.reduceAdd]
            refine xS.s1 rfl rfl ?_
            try dsimp only [Nat.reduceAdd]
            refine xS.s1 rfl rfl ?_
            try dsimp only [Nat.reduceAdd]
            refine xS.s1 rfl rfl ?_
            try dsimp only [Nat.reduceAdd, xi_1]
            rw [nI_1]
            refine xS.s1 rfl rfl ?_
            try dsimp only [Nat.reduceAdd]
            refine xS.pick [0, 1, 2, 3, 4] rfl ?_
            rw [nI_1]
            have ih2 := ih (glay S m j m) (by omega) (fun a ha => by rw [glay_na ha, hI a ha])
            rw [show xcnt (fun c => decide (xfst (fun i => !decide (xshw h (Lw s / 4) (Lw s % 4) (xd6 m c) i = g 75 (40 * p + i))) m = none)) (j + 1) = xcnt (fun c => decide (xfst (fun i => !decide (xshw h (Lw s / 4) (Lw s % 4) (xd6 m c) i = g 75 (40 * p + i))) m = none)) j + 1 from by rw [xcnt_s]; simp only [decide_eq_true (xif1 g76), cond_true]] at ih2
            exact ih2
      · have g30 := xf_ge h30
        exfalso; first | exact absurd g30 (by decide) | (simp (disch := omega) only [Int32.lt_iff_toInt_lt, Int32.le_iff_toInt_le, nI_toInt, Int32.reduceToInt] at g30 <;> omega)
    · have g12 := xf_ne h12
      exfalso; first | exact absurd g12 (by decide) | (simp (disch := omega) only [Int32.lt_iff_toInt_lt, Int32.le_iff_toInt_le, nI_toInt, Int32.reduceToInt] at g12 <;> omega)

set_option maxRecDepth 10000 in
theorem c_X12_first_none (hR : xRr g h tx G T Lw) (hk : s < G) (ht : t < 6) (hp1 : p < 6) (hs : g 74 p = nI m) (hm : m ≤ 6) (hf : xfos (g 74 p) (fun i => g 75 (40 * p + i)) 6 = 0) (hx : ∀ i, i < m → xstp (g 75 (40 * p + i))) (hc : xfst (fun c => decide (xfst (fun i => !decide (xshw h (Lw s / 4) (Lw s % 4) (xd6 m c) i = g 75 (40 * p + i))) m = none)) (6 ^ m) = none) : xT (k + 5) 211 [.ref 73, .int (nI s), .int (nI p), .int (nI t)] (xH b g l) (fun r M' => ∃ g0, xFr g g0 ∧ M' = xH b g0 l ∧ r = some (.int (-9))) := by
  refine xT.of rfl (Nat.le_of_ble_eq_true rfl) ?_
  change xS _ _ 0 [(0, .ref 73), (1, .int (nI s)), (2, .int (nI p)), (3, .int (nI t))] [] _ _
  refine xS.s1 rfl rfl ?_
  try dsimp only [Nat.reduceAdd]
  refine xS.s1 rfl rfl ?_
  try dsimp only [Nat.reduceAdd]
  -- 2 yX12_isGlass
  refine xS.cv rfl rfl rfl rfl rfl rfl ⟨by decide, rfl, rfl⟩ (c_X12_isGlass_in hR.1.1 hR.1.2 hk) (fun v M1 hv => ?_)
  rw [hv.1, hv.2]
  clear hv M1 v
  try dsimp only [Nat.reduceAdd, Option.toList, List.cons_append, List.nil_append, List.drop]
  refine xS.br0 (c := .eq) (off := 17) (l := 3) rfl rfl (fun h5 => ?_) (fun h5 => ?_)
  · have g5 := xt_eq h5
    exfalso; first | exact absurd g5 (by decide) | (simp (disch := omega) only [Int32.lt_iff_toInt_lt, Int32.le_iff_toInt_le, nI_toInt, Int32.reduceToInt] at g5 <;> omega)
  · have g5 := xf_eq h5
    refine xS.s1 rfl rfl ?_
    try dsimp only [Nat.reduceAdd]
    -- 9 yX12_isRow
    refine xS.callS rfl rfl rfl ⟨Nat.le_of_ble_eq_true rfl, rfl⟩ (c_X12_isRow_in hp1) (fun v M1 hv => ?_)
    rw [hv.1, hv.2]
    clear hv M1 v
    try dsimp only [Nat.reduceAdd, Option.toList, List.cons_append, List.nil_append, List.drop]
    refine xS.br0 (c := .eq) (off := 10) (l := 3) rfl rfl (fun h12 => ?_) (fun h12 => ?_)
    · have g12 := xt_eq h12
      exfalso; first | exact absurd g12 (by decide) | (simp (disch := omega) only [Int32.lt_iff_toInt_lt, Int32.le_iff_toInt_le, nI_toInt, Int32.reduceToInt] at g12 <;> omega)
    · have g12 := xf_eq h12
      refine xS.s1 rfl rfl ?_
      try dsimp only [Nat.reduceAdd]
      -- 16 yX12_isRow
      refine xS.callS rfl rfl rfl ⟨Nat.le_of_ble_eq_true rfl, rfl⟩ (c_X12_isRow_in ht) (fun v M1 hv => ?_)
      rw [hv.1, hv.2]
      clear hv M1 v
      try dsimp only [Nat.reduceAdd, Option.toList, List.cons_append, List.nil_append, List.drop]
      refine xS.br0 (c := .ne) (off := 5) (l := 3) rfl rfl (fun h19 => ?_) (fun h19 => ?_)
      · have g19 := xt_ne h19
        refine xS.s1 rfl rfl ?_
        try dsimp only [Nat.reduceAdd]
        refine xS.s1 rfl rfl ?_
        try dsimp only [Nat.reduceAdd]
        refine xS.s1 rfl rfl ?_
        try dsimp only [Nat.reduceAdd, xj_6]
        refine xS.s1 rfl rfl ?_
        try dsimp only [Nat.reduceAdd]
        refine xS.gR rfl rfl rfl ⟨by decide, rfl⟩ rfl ?_
        try dsimp only [Nat.reduceAdd]
        -- 32 yX12_takeOut
        refine xS.cv rfl rfl rfl rfl rfl rfl ⟨by decide, rfl, rfl⟩ (c_X12_takeOut_0 xar_91 (by decide) hp1 hs (by omega) (by decide) hf) (fun v M1 hv => ?_)
        rw [hv.1, hv.2]
        clear hv M1 v
        have hR1 := xRr_F (xFr_gs (n := m) (S := (fun i => g 75 (40 * p + i))) (by decide : 89 ≤ 91)) hR
        have h90 : ∀ u, u < m → gset g 91 m (fun i => g 75 (40 * p + i)) 91 u = nI ((fun i => xN (g 75 (40 * p + i))) u) ∧ (fun i => xN (g 75 (40 * p + i))) u < 6 := fun u hu => by rw [gset_in hu]; exact ⟨(xstp_N (hx u hu)).2, (xstp_N (hx u hu)).1⟩
        have e74 : gset g 91 m (fun i => g 75 (40 * p + i)) 74 p = nI m := by rw [gset_na (by decide)]; exact hs
        try dsimp only [Nat.reduceAdd, Option.toList, List.cons_append, List.nil_append, List.drop]
        refine xS.s1 rfl rfl ?_
        try dsimp only [Nat.reduceAdd]
        refine xS.s1 rfl rfl ?_
        try dsimp only [Nat.reduceAdd]
        refine xS.br0 (c := .ge) (off := 6) (l := 3) rfl rfl (fun h39 => ?_) (fun h39 => ?_)
        · have g39 := xt_ge h39
          refine xS.s1 rfl rfl ?_
          try dsimp only [Nat.reduceAdd]
          refine xS.gR rfl rfl rfl ⟨by decide, rfl⟩ rfl ?_
          try dsimp only [Nat.reduceAdd]
          refine xS.s1 rfl rfl ?_
          try dsimp only [Nat.reduceAdd]
          refine xS.ia rfl xar_74 (by omega) ?_
          try dsimp only [Nat.reduceAdd]
          rw [e74]
          refine xS.s1 rfl rfl ?_
          try dsimp only [Nat.reduceAdd]
          refine xS.s1 rfl rfl ?_
          try dsimp only [Nat.reduceAdd, xi_0]
          refine xS.s1 rfl rfl ?_
          try dsimp only [Nat.reduceAdd]
          refine xS.pick [0, 3, 4, 6, 1] rfl ?_
          refine xS.loop (σ := Nat → Nat → Int32) (6 ^ m) (fun j S => [(6, .int (nI j)), (0, .ref 73), (1, .int (nI s)), (3, .int (nI t)), (5, .int (nI m))]) (fun _ S => xH b S l) (fun j S => (∀ a, a ≠ 90 → S a = (gset g 91 m (fun i => g 75 (40 * p + i))) a) ∧ xfst (fun c => decide (xfst (fun i => !decide (xshw h (Lw s / 4) (Lw s % 4) (xd6 m c) i = g 75 (40 * p + i))) m = none)) j = none) ((gset g 91 m (fun i => g 75 (40 * p + i)))) (rfl) (rfl) (⟨fun _ _ => rfl, rfl⟩) ?_
          intro j S hj hI0 ih
          obtain ⟨hI, hI2⟩ := hI0
          try dsimp only
          have hp6 := pow6 hm
          have hRj : xRr S h tx G T Lw := xRr_fr (by rw [hI 73 (by decide)]) (by rw [hI 73 (by decide)]) (hI 81 (by decide)) (hI 82 (by decide)) (hI 83 (by decide)) hR1
          refine xS.s1 rfl rfl ?_
          try dsimp only [Nat.reduceAdd]
          refine xS.s1 rfl rfl ?_
          try dsimp only [Nat.reduceAdd]
          -- 60 yX12_rowsOf
          refine xS.callS rfl rfl rfl ⟨Nat.le_of_ble_eq_true rfl, rfl⟩ (c_X12_rowsOf hm) (fun v M1 hv => ?_)
          rw [hv.1, hv.2]
          clear hv M1 v
          try dsimp only [Nat.reduceAdd, Option.toList, List.cons_append, List.nil_append, List.drop]
          refine xS.br (c := .ge) (off := 39) (l := 3) rfl rfl (fun h63 => ?_) (fun h63 => ?_)
          · have g63 := xt_ge h63
            have e := xnle (b := 6 ^ m) g63 (by omega) (by omega)
            have e2 : 6 ^ m = j := by omega
            refine xS.s1 rfl rfl ?_
            try dsimp only [Nat.reduceAdd, xj_m9]
            refine xS.ret rfl rfl rfl (fun _ _ => rfl) ?_
            exact ⟨S, ⟨fun a h1 h2 => by rw [hI a (by omega), gset_na (by omega)], fun i _ => by rw [hI 73 (by decide), gset_na (by decide)]⟩, rfl, rfl⟩
          · have g63 := xf_ge h63
            have hlt := xnlt (b := 6 ^ m) g63 (by omega) (by omega)
            refine xS.s1 rfl rfl ?_
            try dsimp only [Nat.reduceAdd]
            refine xS.s1 rfl rfl ?_
            try dsimp only [Nat.reduceAdd]
            refine xS.s1 rfl rfl ?_
            try dsimp only [Nat.reduceAdd]
            -- 71 yX12_layDoings
            refine xS.cv rfl rfl rfl rfl rfl rfl ⟨by decide, rfl, rfl⟩ (c_X12_layDoings hm (by omega)) (fun v M1 hv => ?_)
            rw [hv.1, hv.2]
            clear hv M1 v
            have hRg : xRr (glay S m j m) h tx G T Lw := xRr_fr (by rw [glay_na (by decide)]) (by rw [glay_na (by decide)]) (glay_na (by decide)) (glay_na (by decide)) (glay_na (by decide)) hRj
            try dsimp only [Nat.reduceAdd, Option.toList, List.cons_append, List.nil_append, List.drop]
            refine xS.s1 rfl rfl ?_
            try dsimp only [Nat.reduceAdd]
            refine xS.s1 rfl rfl ?_
            try dsimp only [Nat.reduceAdd]
            refine xS.s1 rfl rfl ?_
            try dsimp only [Nat.reduceAdd]
            -- 78 yX12_shows
            refine xS.cv rfl rfl rfl rfl rfl rfl ⟨by decide, rfl, rfl⟩ (c_X12_shows (f := xd6 m j) (O := fun i => g 75 (40 * p + i)) hRg hk hm (fun u hu => ⟨glay_in hu, xd6_lt _ _ _⟩) (fun u hu => by rw [glay_na (by decide), hI 91 (by decide), gset_in hu])) (fun v M1 hv => ?_)
            rw [hv.1, hv.2]
            clear hv M1 v
            try dsimp only [Nat.reduceAdd, Option.toList, List.cons_append, List.nil_append, List.drop]
            refine xS.br0 (c := .eq) (off := 15) (l := 3) rfl rfl (fun h81 => ?_) (fun h81 => ?_)
            · have g81 := xt_eq h81
              refine xS.s1 rfl rfl ?_
              try dsimp only [Nat.reduceAdd, xi_1]
              rw [nI_1]
              refine xS.s1 rfl rfl ?_
              try dsimp only [Nat.reduceAdd]
              refine xS.pick [0, 1, 2, 3, 4] rfl ?_
              exact ih (glay S m j m) (by omega) ⟨fun a ha => by rw [glay_na ha, hI a ha], xfst_n hI2 (decide_eq_false (xif0 g81))⟩
            · have g81 := xf_eq h81
              exfalso; rw [xfst_at hI2 (decide_eq_true (xif1 g81)) hlt] at hc; cases hc
        · have g39 := xf_ge h39
          exfalso; first | exact absurd g39 (by decide) | (simp (disch := omega) only [Int32.lt_iff_toInt_lt, Int32.le_iff_toInt_le, nI_toInt, Int32.reduceToInt] at g39 <;> omega)
      · have g19 := xf_ne h19
        exfalso; first | exact absurd g19 (by decide) | (simp (disch := omega) only [Int32.lt_iff_toInt_lt, Int32.le_iff_toInt_le, nI_toInt, Int32.reduceToInt] at g19 <;> omega)

set_option maxRecDepth 10000 in
theorem c_X12_first_ok (hR : xRr g h tx G T Lw) (hk : s < G) (ht : t < 6) (hp1 : p < 6) (hs : g 74 p = nI m) (hm : m ≤ 6) (hf : xfos (g 74 p) (fun i => g 75 (40 * p + i)) 6 = 0) (hx : ∀ i, i < m → xstp (g 75 (40 * p + i))) (hc : xfst (fun c => decide (xfst (fun i => !decide (xshw h (Lw s / 4) (Lw s % 4) (xd6 m c) i = g 75 (40 * p + i))) m = none)) (6 ^ m) = some c) : xT (k + 5) 211 [.ref 73, .int (nI s), .int (nI p), .int (nI t)] (xH b g l) (fun r M' => ∃ g0, xFr g g0 ∧ M' = xH b (gseg (up g0 74 t (nI m)) 75 (40 * t) m (fun i => nI (xd6 m c i))) l ∧ r = some (.int (nI m))) := by
  refine xT.of rfl (Nat.le_of_ble_eq_true rfl) ?_
  change xS _ _ 0 [(0, .ref 73), (1, .int (nI s)), (2, .int (nI p)), (3, .int (nI t))] [] _ _
  refine xS.s1 rfl rfl ?_
  try dsimp only [Nat.reduceAdd]
  refine xS.s1 rfl rfl ?_
  try dsimp only [Nat.reduceAdd]
  -- 2 yX12_isGlass
  refine xS.cv rfl rfl rfl rfl rfl rfl ⟨by decide, rfl, rfl⟩ (c_X12_isGlass_in hR.1.1 hR.1.2 hk) (fun v M1 hv => ?_)
  rw [hv.1, hv.2]
  clear hv M1 v
  try dsimp only [Nat.reduceAdd, Option.toList, List.cons_append, List.nil_append, List.drop]
  refine xS.br0 (c := .eq) (off := 17) (l := 3) rfl rfl (fun h5 => ?_) (fun h5 => ?_)
  · have g5 := xt_eq h5
    exfalso; first | exact absurd g5 (by decide) | (simp (disch := omega) only [Int32.lt_iff_toInt_lt, Int32.le_iff_toInt_le, nI_toInt, Int32.reduceToInt] at g5 <;> omega)
  · have g5 := xf_eq h5
    refine xS.s1 rfl rfl ?_
    try dsimp only [Nat.reduceAdd]
    -- 9 yX12_isRow
    refine xS.callS rfl rfl rfl ⟨Nat.le_of_ble_eq_true rfl, rfl⟩ (c_X12_isRow_in hp1) (fun v M1 hv => ?_)
    rw [hv.1, hv.2]
    clear hv M1 v
    try dsimp only [Nat.reduceAdd, Option.toList, List.cons_append, List.nil_append, List.drop]
    refine xS.br0 (c := .eq) (off := 10) (l := 3) rfl rfl (fun h12 => ?_) (fun h12 => ?_)
    · have g12 := xt_eq h12
      exfalso; first | exact absurd g12 (by decide) | (simp (disch := omega) only [Int32.lt_iff_toInt_lt, Int32.le_iff_toInt_le, nI_toInt, Int32.reduceToInt] at g12 <;> omega)
    · have g12 := xf_eq h12
      refine xS.s1 rfl rfl ?_
      try dsimp only [Nat.reduceAdd]
      -- 16 yX12_isRow
      refine xS.callS rfl rfl rfl ⟨Nat.le_of_ble_eq_true rfl, rfl⟩ (c_X12_isRow_in ht) (fun v M1 hv => ?_)
      rw [hv.1, hv.2]
      clear hv M1 v
      try dsimp only [Nat.reduceAdd, Option.toList, List.cons_append, List.nil_append, List.drop]
      refine xS.br0 (c := .ne) (off := 5) (l := 3) rfl rfl (fun h19 => ?_) (fun h19 => ?_)
      · have g19 := xt_ne h19
        refine xS.s1 rfl rfl ?_
        try dsimp only [Nat.reduceAdd]
        refine xS.s1 rfl rfl ?_
        try dsimp only [Nat.reduceAdd]
        refine xS.s1 rfl rfl ?_
        try dsimp only [Nat.reduceAdd, xj_6]
        refine xS.s1 rfl rfl ?_
        try dsimp only [Nat.reduceAdd]
        refine xS.gR rfl rfl rfl ⟨by decide, rfl⟩ rfl ?_
        try dsimp only [Nat.reduceAdd]
        -- 32 yX12_takeOut
        refine xS.cv rfl rfl rfl rfl rfl rfl ⟨by decide, rfl, rfl⟩ (c_X12_takeOut_0 xar_91 (by decide) hp1 hs (by omega) (by decide) hf) (fun v M1 hv => ?_)
        rw [hv.1, hv.2]
        clear hv M1 v
        have hR1 := xRr_F (xFr_gs (n := m) (S := (fun i => g 75 (40 * p + i))) (by decide : 89 ≤ 91)) hR
        have h90 : ∀ u, u < m → gset g 91 m (fun i => g 75 (40 * p + i)) 91 u = nI ((fun i => xN (g 75 (40 * p + i))) u) ∧ (fun i => xN (g 75 (40 * p + i))) u < 6 := fun u hu => by rw [gset_in hu]; exact ⟨(xstp_N (hx u hu)).2, (xstp_N (hx u hu)).1⟩
        have e74 : gset g 91 m (fun i => g 75 (40 * p + i)) 74 p = nI m := by rw [gset_na (by decide)]; exact hs
        try dsimp only [Nat.reduceAdd, Option.toList, List.cons_append, List.nil_append, List.drop]
        refine xS.s1 rfl rfl ?_
        try dsimp only [Nat.reduceAdd]
        refine xS.s1 rfl rfl ?_
        try dsimp only [Nat.reduceAdd]
        refine xS.br0 (c := .ge) (off := 6) (l := 3) rfl rfl (fun h39 => ?_) (fun h39 => ?_)
        · have g39 := xt_ge h39
          refine xS.s1 rfl rfl ?_
          try dsimp only [Nat.reduceAdd]
          refine xS.gR rfl rfl rfl ⟨by decide, rfl⟩ rfl ?_
          try dsimp only [Nat.reduceAdd]
          refine xS.s1 rfl rfl ?_
          try dsimp only [Nat.reduceAdd]
          refine xS.ia rfl xar_74 (by omega) ?_
          try dsimp only [Nat.reduceAdd]
          rw [e74]
          refine xS.s1 rfl rfl ?_
          try dsimp only [Nat.reduceAdd]
          refine xS.s1 rfl rfl ?_
          try dsimp only [Nat.reduceAdd, xi_0]
          refine xS.s1 rfl rfl ?_
          try dsimp only [Nat.reduceAdd]
          refine xS.pick [0, 3, 4, 6, 1] rfl ?_
          refine xS.loop (σ := Nat → Nat → Int32) (6 ^ m) (fun j S => [(6, .int (nI j)), (0, .ref 73), (1, .int (nI s)), (3, .int (nI t)), (5, .int (nI m))]) (fun _ S => xH b S l) (fun j S => (∀ a, a ≠ 90 → S a = (gset g 91 m (fun i => g 75 (40 * p + i))) a) ∧ xfst (fun c => decide (xfst (fun i => !decide (xshw h (Lw s / 4) (Lw s % 4) (xd6 m c) i = g 75 (40 * p + i))) m = none)) j = none) ((gset g 91 m (fun i => g 75 (40 * p + i)))) (rfl) (rfl) (⟨fun _ _ => rfl, rfl⟩) ?_
          intro j S hj hI0 ih
          obtain ⟨hI, hI2⟩ := hI0
          try dsimp only
          have hp6 := pow6 hm
          have hRj : xRr S h tx G T Lw := xRr_fr (by rw [hI 73 (by decide)]) (by rw [hI 73 (by decide)]) (hI 81 (by decide)) (hI 82 (by decide)) (hI 83 (by decide)) hR1
          refine xS.s1 rfl rfl ?_
          try dsimp only [Nat.reduceAdd]
          refine xS.s1 rfl rfl ?_
          try dsimp only [Nat.reduceAdd]
          -- 60 yX12_rowsOf
          refine xS.callS rfl rfl rfl ⟨Nat.le_of_ble_eq_true rfl, rfl⟩ (c_X12_rowsOf hm) (fun v M1 hv => ?_)
          rw [hv.1, hv.2]
          clear hv M1 v
          try dsimp only [Nat.reduceAdd, Option.toList, List.cons_append, List.nil_append, List.drop]
          refine xS.br (c := .ge) (off := 39) (l := 3) rfl rfl (fun h63 => ?_) (fun h63 => ?_)
          · have g63 := xt_ge h63
            have e := xnle (b := 6 ^ m) g63 (by omega) (by omega)
            have e2 : 6 ^ m = j := by omega
            refine xS.s1 rfl rfl ?_
            try dsimp only [Nat.reduceAdd, xj_m9]
            refine xS.ret rfl rfl rfl (fun _ _ => rfl) ?_
            rw [e2, hI2] at hc
            cases hc
          · have g63 := xf_ge h63
            have hlt := xnlt (b := 6 ^ m) g63 (by omega) (by omega)
            refine xS.s1 rfl rfl ?_
            try dsimp only [Nat.reduceAdd]
            refine xS.s1 rfl rfl ?_
            try dsimp only [Nat.reduceAdd]
            refine xS.s1 rfl rfl ?_
            try dsimp only [Nat.reduceAdd]
            -- 71 yX12_layDoings
            refine xS.cv rfl rfl rfl rfl rfl rfl ⟨by decide, rfl, rfl⟩ (c_X12_layDoings hm (by omega)) (fun v M1 hv => ?_)
            rw [hv.1, hv.2]
            clear hv M1 v
            have hRg : xRr (glay S m j m) h tx G T Lw := xRr_fr (by rw [glay_na (by decide)]) (by rw [glay_na (by decide)]) (glay_na (by decide)) (glay_na (by decide)) (glay_na (by decide)) hRj
            try dsimp only [Nat.reduceAdd, Option.toList, List.cons_append, List.nil_append, List.drop]
            refine xS.s1 rfl rfl ?_
            try dsimp only [Nat.reduceAdd]
            refine xS.s1 rfl rfl ?_
            try dsimp only [Nat.reduceAdd]
            refine xS.s1 rfl rfl ?_
            try dsimp only [Nat.reduceAdd]
            -- 78 yX12_shows
            refine xS.cv rfl rfl rfl rfl rfl rfl ⟨by decide, rfl, rfl⟩ (c_X12_shows (f := xd6 m j) (O := fun i => g 75 (40 * p + i)) hRg hk hm (fun u hu => ⟨glay_in hu, xd6_lt _ _ _⟩) (fun u hu => by rw [glay_na (by decide), hI 91 (by decide), gset_in hu])) (fun v M1 hv => ?_)
            rw [hv.1, hv.2]
            clear hv M1 v
            try dsimp only [Nat.reduceAdd, Option.toList, List.cons_append, List.nil_append, List.drop]
            refine xS.br0 (c := .eq) (off := 15) (l := 3) rfl rfl (fun h81 => ?_) (fun h81 => ?_)
            · have g81 := xt_eq h81
              refine xS.s1 rfl rfl ?_
              try dsimp only [Nat.reduceAdd, xi_1]
              rw [nI_1]
              refine xS.s1 rfl rfl ?_
              try dsimp only [Nat.reduceAdd]
              refine xS.pick [0, 1, 2, 3, 4] rfl ?_
              exact ih (glay S m j m) (by omega) ⟨fun a ha => by rw [glay_na ha, hI a ha], xfst_n hI2 (decide_eq_false (xif0 g81))⟩
            · have g81 := xf_eq h81
              refine xS.s1 rfl rfl ?_
              try dsimp only [Nat.reduceAdd]
              refine xS.s1 rfl rfl ?_
              try dsimp only [Nat.reduceAdd]
              refine xS.s1 rfl rfl ?_
              try dsimp only [Nat.reduceAdd]
              refine xS.s1 rfl rfl ?_
              try dsimp only [Nat.reduceAdd]
              refine xS.gR rfl rfl rfl ⟨by decide, rfl⟩ rfl ?_
              try dsimp only [Nat.reduceAdd]
              -- 92 yX12_layRow
              refine xS.cv rfl rfl rfl rfl rfl rfl ⟨by decide, rfl, rfl⟩ (c_X12_layRow xar_90 (by decide) (by decide) ht (by omega) (by omega)) (fun v M1 hv => ?_)
              rw [hv.1, hv.2]
              clear hv M1 v
              try dsimp only [Nat.reduceAdd, Option.toList, List.cons_append, List.nil_append, List.drop]
              refine xS.ret rfl rfl rfl (fun _ _ => rfl) ?_
              rw [xfst_at hI2 (decide_eq_true (xif1 g81)) hlt] at hc
              have ec : j = c := Option.some.inj hc
              rw [← ec]
              refine ⟨glay S m j m, ⟨fun a h1 h2 => by rw [glay_na (by omega), hI a (by omega), gset_na (by omega)], fun i _ => by rw [glay_na (by decide), hI 73 (by decide), gset_na (by decide)]⟩, ?_, rfl⟩
              rw [gseg_congr (fun i hi => glay_in hi)]
        · have g39 := xf_ge h39
          exfalso; first | exact absurd g39 (by decide) | (simp (disch := omega) only [Int32.lt_iff_toInt_lt, Int32.le_iff_toInt_le, nI_toInt, Int32.reduceToInt] at g39 <;> omega)
      · have g19 := xf_ne h19
        exfalso; first | exact absurd g19 (by decide) | (simp (disch := omega) only [Int32.lt_iff_toInt_lt, Int32.le_iff_toInt_le, nI_toInt, Int32.reduceToInt] at g19 <;> omega)

set_option maxRecDepth 10000 in
theorem c_X12_can_bad2 (hR : xRr g h tx G T Lw) (hk : s < G) (hp1 : p < 6) (hs : g 74 p = nI m) (hm : m ≤ 6) (hf : xfos (g 74 p) (fun i => g 75 (40 * p + i)) 6 = 0) (hx : ∀ i, i < m → xstp (g 75 (40 * p + i))) (hd31 : d < 2 ^ 31) (hd : ¬ d < m) : xT (k + 5) 212 [.ref 73, .int (nI s), .int (nI p), .int (nI d)] (xH b g l) (fun r M' => ∃ g0, xFr g g0 ∧ M' = xH b g0 l ∧ r = some (.int (-1))) := by
  refine xT.of rfl (Nat.le_of_ble_eq_true rfl) ?_
  change xS _ _ 0 [(0, .ref 73), (1, .int (nI s)), (2, .int (nI p)), (3, .int (nI d))] [] _ _
  refine xS.s1 rfl rfl ?_
  try dsimp only [Nat.reduceAdd]
  refine xS.s1 rfl rfl ?_
  try dsimp only [Nat.reduceAdd]
  -- 2 yX12_isGlass
  refine xS.cv rfl rfl rfl rfl rfl rfl ⟨by decide, rfl, rfl⟩ (c_X12_isGlass_in hR.1.1 hR.1.2 hk) (fun v M1 hv => ?_)
  rw [hv.1, hv.2]
  clear hv M1 v
  try dsimp only [Nat.reduceAdd, Option.toList, List.cons_append, List.nil_append, List.drop]
  refine xS.br0 (c := .eq) (off := 14) (l := 3) rfl rfl (fun h5 => ?_) (fun h5 => ?_)
  · have g5 := xt_eq h5
    exfalso; first | exact absurd g5 (by decide) | (simp (disch := omega) only [Int32.lt_iff_toInt_lt, Int32.le_iff_toInt_le, nI_toInt, Int32.reduceToInt] at g5 <;> omega)
  · have g5 := xf_eq h5
    refine xS.s1 rfl rfl ?_
    try dsimp only [Nat.reduceAdd]
    -- 9 yX12_isRow
    refine xS.callS rfl rfl rfl ⟨Nat.le_of_ble_eq_true rfl, rfl⟩ (c_X12_isRow_in hp1) (fun v M1 hv => ?_)
    rw [hv.1, hv.2]
    clear hv M1 v
    try dsimp only [Nat.reduceAdd, Option.toList, List.cons_append, List.nil_append, List.drop]
    refine xS.br0 (c := .eq) (off := 7) (l := 3) rfl rfl (fun h12 => ?_) (fun h12 => ?_)
    · have g12 := xt_eq h12
      exfalso; first | exact absurd g12 (by decide) | (simp (disch := omega) only [Int32.lt_iff_toInt_lt, Int32.le_iff_toInt_le, nI_toInt, Int32.reduceToInt] at g12 <;> omega)
    · have g12 := xf_eq h12
      refine xS.s1 rfl rfl ?_
      try dsimp only [Nat.reduceAdd]
      refine xS.br0 (c := .ge) (off := 5) (l := 3) rfl rfl (fun h16 => ?_) (fun h16 => ?_)
      · have g16 := xt_ge h16
        refine xS.s1 rfl rfl ?_
        try dsimp only [Nat.reduceAdd]
        refine xS.s1 rfl rfl ?_
        try dsimp only [Nat.reduceAdd]
        refine xS.s1 rfl rfl ?_
        try dsimp only [Nat.reduceAdd, xj_6]
        refine xS.s1 rfl rfl ?_
        try dsimp only [Nat.reduceAdd]
        refine xS.gR rfl rfl rfl ⟨by decide, rfl⟩ rfl ?_
        try dsimp only [Nat.reduceAdd]
        -- 29 yX12_takeOut
        refine xS.cv rfl rfl rfl rfl rfl rfl ⟨by decide, rfl, rfl⟩ (c_X12_takeOut_0 xar_91 (by decide) hp1 hs (by omega) (by decide) hf) (fun v M1 hv => ?_)
        rw [hv.1, hv.2]
        clear hv M1 v
        have hR1 := xRr_F (xFr_gs (n := m) (S := (fun i => g 75 (40 * p + i))) (by decide : 89 ≤ 91)) hR
        have h90 : ∀ u, u < m → gset g 91 m (fun i => g 75 (40 * p + i)) 91 u = nI ((fun i => xN (g 75 (40 * p + i))) u) ∧ (fun i => xN (g 75 (40 * p + i))) u < 6 := fun u hu => by rw [gset_in hu]; exact ⟨(xstp_N (hx u hu)).2, (xstp_N (hx u hu)).1⟩
        have e74 : gset g 91 m (fun i => g 75 (40 * p + i)) 74 p = nI m := by rw [gset_na (by decide)]; exact hs
        try dsimp only [Nat.reduceAdd, Option.toList, List.cons_append, List.nil_append, List.drop]
        refine xS.s1 rfl rfl ?_
        try dsimp only [Nat.reduceAdd]
        refine xS.s1 rfl rfl ?_
        try dsimp only [Nat.reduceAdd]
        refine xS.br0 (c := .ge) (off := 6) (l := 3) rfl rfl (fun h36 => ?_) (fun h36 => ?_)
        · have g36 := xt_ge h36
          refine xS.s1 rfl rfl ?_
          try dsimp only [Nat.reduceAdd]
          refine xS.gR rfl rfl rfl ⟨by decide, rfl⟩ rfl ?_
          try dsimp only [Nat.reduceAdd]
          refine xS.s1 rfl rfl ?_
          try dsimp only [Nat.reduceAdd]
          refine xS.ia rfl xar_74 (by omega) ?_
          try dsimp only [Nat.reduceAdd]
          rw [e74]
          refine xS.s1 rfl rfl ?_
          try dsimp only [Nat.reduceAdd]
          refine xS.s1 rfl rfl ?_
          try dsimp only [Nat.reduceAdd]
          refine xS.s1 rfl rfl ?_
          try dsimp only [Nat.reduceAdd]
          refine xS.br (c := .lt) (off := 5) (l := 3) rfl rfl (fun h53 => ?_) (fun h53 => ?_)
          · have g53 := xt_lt h53
            exact absurd ((nI_ltI hd31 (by omega)).mp g53) hd
          · have g53 := xf_lt h53
            refine xS.s1 rfl rfl ?_
            try dsimp only [Nat.reduceAdd, xi_m1]
            refine xS.ret rfl rfl rfl (fun _ _ => rfl) ?_
            exact ⟨_, xFr_gs (by decide), rfl, rfl⟩
        · have g36 := xf_ge h36
          exfalso; first | exact absurd g36 (by decide) | (simp (disch := omega) only [Int32.lt_iff_toInt_lt, Int32.le_iff_toInt_le, nI_toInt, Int32.reduceToInt] at g36 <;> omega)
      · have g16 := xf_ge h16
        exfalso; first | exact absurd g16 (by decide) | (simp (disch := omega) only [Int32.lt_iff_toInt_lt, Int32.le_iff_toInt_le, nI_toInt, Int32.reduceToInt] at g16 <;> omega)

set_option maxRecDepth 10000 in
theorem c_X12_can_ok (hR : xRr g h tx G T Lw) (hk : s < G) (hp1 : p < 6) (hs : g 74 p = nI m) (hm : m ≤ 6) (hf : xfos (g 74 p) (fun i => g 75 (40 * p + i)) 6 = 0) (hx : ∀ i, i < m → xstp (g 75 (40 * p + i))) (hd : d < m) : xT (k + 5) 212 [.ref 73, .int (nI s), .int (nI p), .int (nI d)] (xH b g l) (fun r M' => ∃ g0, xFr g g0 ∧ M' = xH b g0 l ∧ r = some (.int (xorf (fun c => decide (xfst (fun i => !decide (xshw h (Lw s / 4) (Lw s % 4) (xd6 m c) i = g 75 (40 * p + i))) m = none)) (fun c => xd6 m c d) (6 ^ m)))) := by
  refine xT.of rfl (Nat.le_of_ble_eq_true rfl) ?_
  change xS _ _ 0 [(0, .ref 73), (1, .int (nI s)), (2, .int (nI p)), (3, .int (nI d))] [] _ _
  refine xS.s1 rfl rfl ?_
  try dsimp only [Nat.reduceAdd]
  refine xS.s1 rfl rfl ?_
  try dsimp only [Nat.reduceAdd]
  -- 2 yX12_isGlass
  refine xS.cv rfl rfl rfl rfl rfl rfl ⟨by decide, rfl, rfl⟩ (c_X12_isGlass_in hR.1.1 hR.1.2 hk) (fun v M1 hv => ?_)
  rw [hv.1, hv.2]
  clear hv M1 v
  try dsimp only [Nat.reduceAdd, Option.toList, List.cons_append, List.nil_append, List.drop]
  refine xS.br0 (c := .eq) (off := 14) (l := 3) rfl rfl (fun h5 => ?_) (fun h5 => ?_)
  · have g5 := xt_eq h5
    exfalso; first | exact absurd g5 (by decide) | (simp (disch := omega) only [Int32.lt_iff_toInt_lt, Int32.le_iff_toInt_le, nI_toInt, Int32.reduceToInt] at g5 <;> omega)
  · have g5 := xf_eq h5
    refine xS.s1 rfl rfl ?_
    try dsimp only [Nat.reduceAdd]
    -- 9 yX12_isRow
    refine xS.callS rfl rfl rfl ⟨Nat.le_of_ble_eq_true rfl, rfl⟩ (c_X12_isRow_in hp1) (fun v M1 hv => ?_)
    rw [hv.1, hv.2]
    clear hv M1 v
    try dsimp only [Nat.reduceAdd, Option.toList, List.cons_append, List.nil_append, List.drop]
    refine xS.br0 (c := .eq) (off := 7) (l := 3) rfl rfl (fun h12 => ?_) (fun h12 => ?_)
    · have g12 := xt_eq h12
      exfalso; first | exact absurd g12 (by decide) | (simp (disch := omega) only [Int32.lt_iff_toInt_lt, Int32.le_iff_toInt_le, nI_toInt, Int32.reduceToInt] at g12 <;> omega)
    · have g12 := xf_eq h12
      refine xS.s1 rfl rfl ?_
      try dsimp only [Nat.reduceAdd]
      refine xS.br0 (c := .ge) (off := 5) (l := 3) rfl rfl (fun h16 => ?_) (fun h16 => ?_)
      · have g16 := xt_ge h16
        refine xS.s1 rfl rfl ?_
        try dsimp only [Nat.reduceAdd]
        refine xS.s1 rfl rfl ?_
        try dsimp only [Nat.reduceAdd]
        refine xS.s1 rfl rfl ?_
        try dsimp only [Nat.reduceAdd, xj_6]
        refine xS.s1 rfl rfl ?_
        try dsimp only [Nat.reduceAdd]
        refine xS.gR rfl rfl rfl ⟨by decide, rfl⟩ rfl ?_
        try dsimp only [Nat.reduceAdd]
        -- 29 yX12_takeOut
        refine xS.cv rfl rfl rfl rfl rfl rfl ⟨by decide, rfl, rfl⟩ (c_X12_takeOut_0 xar_91 (by decide) hp1 hs (by omega) (by decide) hf) (fun v M1 hv => ?_)
        rw [hv.1, hv.2]
        clear hv M1 v
        have hR1 := xRr_F (xFr_gs (n := m) (S := (fun i => g 75 (40 * p + i))) (by decide : 89 ≤ 91)) hR
        have h90 : ∀ u, u < m → gset g 91 m (fun i => g 75 (40 * p + i)) 91 u = nI ((fun i => xN (g 75 (40 * p + i))) u) ∧ (fun i => xN (g 75 (40 * p + i))) u < 6 := fun u hu => by rw [gset_in hu]; exact ⟨(xstp_N (hx u hu)).2, (xstp_N (hx u hu)).1⟩
        have e74 : gset g 91 m (fun i => g 75 (40 * p + i)) 74 p = nI m := by rw [gset_na (by decide)]; exact hs
        try dsimp only [Nat.reduceAdd, Option.toList, List.cons_append, List.nil_append, List.drop]
        refine xS.s1 rfl rfl ?_
        try dsimp only [Nat.reduceAdd]
        refine xS.s1 rfl rfl ?_
        try dsimp only [Nat.reduceAdd]
        refine xS.br0 (c := .ge) (off := 6) (l := 3) rfl rfl (fun h36 => ?_) (fun h36 => ?_)
        · have g36 := xt_ge h36
          refine xS.s1 rfl rfl ?_
          try dsimp only [Nat.reduceAdd]
          refine xS.gR rfl rfl rfl ⟨by decide, rfl⟩ rfl ?_
          try dsimp only [Nat.reduceAdd]
          refine xS.s1 rfl rfl ?_
          try dsimp only [Nat.reduceAdd]
          refine xS.ia rfl xar_74 (by omega) ?_
          try dsimp only [Nat.reduceAdd]
          rw [e74]
          refine xS.s1 rfl rfl ?_
          try dsimp only [Nat.reduceAdd]
          refine xS.s1 rfl rfl ?_
          try dsimp only [Nat.reduceAdd]
          refine xS.s1 rfl rfl ?_
          try dsimp only [Nat.reduceAdd]
          refine xS.br (c := .lt) (off := 5) (l := 3) rfl rfl (fun h53 => ?_) (fun h53 => ?_)
          · have g53 := xt_lt h53
            refine xS.s1 rfl rfl ?_
            try dsimp only [Nat.reduceAdd, xi_0]
            refine xS.s1 rfl rfl ?_
            try dsimp only [Nat.reduceAdd]
            refine xS.s1 rfl rfl ?_
            try dsimp only [Nat.reduceAdd, xi_0]
            refine xS.s1 rfl rfl ?_
            try dsimp only [Nat.reduceAdd]
            refine xS.pick [0, 1, 4, 5, 7, 2] rfl ?_
            refine xS.loop (σ := Nat → Nat → Int32) (6 ^ m) (fun j S => [(7, .int (nI j)), (6, .int (xorf (fun c => decide (xfst (fun i => !decide (xshw h (Lw s / 4) (Lw s % 4) (xd6 m c) i = g 75 (40 * p + i))) m = none)) (fun c => xd6 m c d) j)), (0, .ref 73), (1, .int (nI s)), (3, .int (nI d)), (5, .int (nI m))]) (fun _ S => xH b S l) (fun _ S => ∀ a, a ≠ 90 → S a = (gset g 91 m (fun i => g 75 (40 * p + i))) a) ((gset g 91 m (fun i => g 75 (40 * p + i)))) (rfl) (rfl) (fun _ _ => rfl) ?_
            intro j S hj hI ih
            try dsimp only
            have hp6 := pow6 hm
            have hRj : xRr S h tx G T Lw := xRr_fr (by rw [hI 73 (by decide)]) (by rw [hI 73 (by decide)]) (hI 81 (by decide)) (hI 82 (by decide)) (hI 83 (by decide)) hR1
            refine xS.s1 rfl rfl ?_
            try dsimp only [Nat.reduceAdd]
            refine xS.s1 rfl rfl ?_
            try dsimp only [Nat.reduceAdd]
            -- 68 yX12_rowsOf
            refine xS.callS rfl rfl rfl ⟨Nat.le_of_ble_eq_true rfl, rfl⟩ (c_X12_rowsOf hm) (fun v M1 hv => ?_)
            rw [hv.1, hv.2]
            clear hv M1 v
            try dsimp only [Nat.reduceAdd, Option.toList, List.cons_append, List.nil_append, List.drop]
            refine xS.br (c := .ge) (off := 44) (l := 3) rfl rfl (fun h71 => ?_) (fun h71 => ?_)
            · have g71 := xt_ge h71
              have e := xnle (b := 6 ^ m) g71 (by omega) (by omega)
              have e2 : 6 ^ m = j := by omega
              rw [← e2]
              refine xS.s1 rfl rfl ?_
              try dsimp only [Nat.reduceAdd]
              refine xS.ret rfl rfl rfl (fun _ _ => rfl) ?_
              exact ⟨S, ⟨fun a h1 h2 => by rw [hI a (by omega), gset_na (by omega)], fun i _ => by rw [hI 73 (by decide), gset_na (by decide)]⟩, rfl, rfl⟩
            · have g71 := xf_ge h71
              have hlt := xnlt (b := 6 ^ m) g71 (by omega) (by omega)
              refine xS.s1 rfl rfl ?_
              try dsimp only [Nat.reduceAdd]
              refine xS.s1 rfl rfl ?_
              try dsimp only [Nat.reduceAdd]
              refine xS.s1 rfl rfl ?_
              try dsimp only [Nat.reduceAdd]
              -- 79 yX12_layDoings
              refine xS.cv rfl rfl rfl rfl rfl rfl ⟨by decide, rfl, rfl⟩ (c_X12_layDoings hm (by omega)) (fun v M1 hv => ?_)
              rw [hv.1, hv.2]
              clear hv M1 v
              have hRg : xRr (glay S m j m) h tx G T Lw := xRr_fr (by rw [glay_na (by decide)]) (by rw [glay_na (by decide)]) (glay_na (by decide)) (glay_na (by decide)) (glay_na (by decide)) hRj
              try dsimp only [Nat.reduceAdd, Option.toList, List.cons_append, List.nil_append, List.drop]
              refine xS.s1 rfl rfl ?_
              try dsimp only [Nat.reduceAdd]
              refine xS.s1 rfl rfl ?_
              try dsimp only [Nat.reduceAdd]
              refine xS.s1 rfl rfl ?_
              try dsimp only [Nat.reduceAdd]
              refine xS.s1 rfl rfl ?_
              try dsimp only [Nat.reduceAdd]
              -- 88 yX12_shows
              refine xS.cv rfl rfl rfl rfl rfl rfl ⟨by decide, rfl, rfl⟩ (c_X12_shows (f := xd6 m j) (O := fun i => g 75 (40 * p + i)) hRg hk hm (fun u hu => ⟨glay_in hu, xd6_lt _ _ _⟩) (fun u hu => by rw [glay_na (by decide), hI 91 (by decide), gset_in hu])) (fun v M1 hv => ?_)
              rw [hv.1, hv.2]
              clear hv M1 v
              try dsimp only [Nat.reduceAdd, Option.toList, List.cons_append, List.nil_append, List.drop]
              refine xS.br0 (c := .eq) (off := 14) (l := 3) rfl rfl (fun h91 => ?_) (fun h91 => ?_)
              · have g91 := xt_eq h91
                refine xS.s1 rfl rfl ?_
                try dsimp only [Nat.reduceAdd, xi_0]
                refine xS.s1 rfl rfl ?_
                try dsimp only [Nat.reduceAdd]
                refine xS.s1 rfl rfl ?_
                try dsimp only [Nat.reduceAdd]
                refine xS.s1 rfl rfl ?_
                try dsimp only [Nat.reduceAdd, xi_1]
                rw [nI_1]
                refine xS.s1 rfl rfl ?_
                try dsimp only [Nat.reduceAdd]
                refine xS.pick [0, 1, 2, 3, 4, 5] rfl ?_
                have ih2 := ih (glay S m j m) (by omega) (fun a ha => by rw [glay_na ha, hI a ha])
                rw [xor0]
                rw [show xorf (fun c => decide (xfst (fun i => !decide (xshw h (Lw s / 4) (Lw s % 4) (xd6 m c) i = g 75 (40 * p + i))) m = none)) (fun c => xd6 m c d) (j + 1) = xorf (fun c => decide (xfst (fun i => !decide (xshw h (Lw s / 4) (Lw s % 4) (xd6 m c) i = g 75 (40 * p + i))) m = none)) (fun c => xd6 m c d) j from by rw [xorf_s]; simp only [decide_eq_false (xif0 g91), cond_false]] at ih2
                exact ih2
              · have g91 := xf_eq h91
                refine xS.s1 rfl rfl ?_
                try dsimp only [Nat.reduceAdd, xi_1]
                refine xS.s1 rfl rfl ?_
                try dsimp only [Nat.reduceAdd]
                refine xS.gR rfl rfl rfl ⟨by decide, rfl⟩ rfl ?_
                try dsimp only [Nat.reduceAdd]
                refine xS.s1 rfl rfl ?_
                try dsimp only [Nat.reduceAdd]
                refine xS.ia rfl xar_90 (by omega) ?_
                try dsimp only [Nat.reduceAdd]
                rw [glay_in hd]
                refine xS.s1 rfl rfl ?_
                try dsimp only [Nat.reduceAdd]
                refine xS.s1 rfl rfl ?_
                try dsimp only [Nat.reduceAdd]
                refine xS.s1 rfl rfl ?_
                try dsimp only [Nat.reduceAdd]
                refine xS.s1 rfl rfl ?_
                try dsimp only [Nat.reduceAdd]
                refine xS.s1 rfl rfl ?_
                try dsimp only [Nat.reduceAdd, xi_1]
                rw [nI_1]
                refine xS.s1 rfl rfl ?_
                try dsimp only [Nat.reduceAdd]
                refine xS.pick [0, 1, 2, 3, 4, 5] rfl ?_
                have ih2 := ih (glay S m j m) (by omega) (fun a ha => by rw [glay_na ha, hI a ha])
                rw [show xorf (fun c => decide (xfst (fun i => !decide (xshw h (Lw s / 4) (Lw s % 4) (xd6 m c) i = g 75 (40 * p + i))) m = none)) (fun c => xd6 m c d) (j + 1) = xorf (fun c => decide (xfst (fun i => !decide (xshw h (Lw s / 4) (Lw s % 4) (xd6 m c) i = g 75 (40 * p + i))) m = none)) (fun c => xd6 m c d) j ||| (1 <<< (nI (xd6 m j d) &&& 31)) from by rw [xorf_s]; simp only [decide_eq_true (xif1 g91), cond_true]] at ih2
                exact ih2
          · have g53 := xf_lt h53
            exfalso; first | exact absurd g53 (by decide) | (simp (disch := omega) only [Int32.lt_iff_toInt_lt, Int32.le_iff_toInt_le, nI_toInt, Int32.reduceToInt] at g53 <;> omega)
        · have g36 := xf_ge h36
          exfalso; first | exact absurd g36 (by decide) | (simp (disch := omega) only [Int32.lt_iff_toInt_lt, Int32.le_iff_toInt_le, nI_toInt, Int32.reduceToInt] at g36 <;> omega)
      · have g16 := xf_ge h16
        exfalso; first | exact absurd g16 (by decide) | (simp (disch := omega) only [Int32.lt_iff_toInt_lt, Int32.le_iff_toInt_le, nI_toInt, Int32.reduceToInt] at g16 <;> omega)

end
