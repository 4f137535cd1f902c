section
/-! LimpMirrorModel: he, copy, mark -/
theorem xat_lt {κ δ t u : Nat} (hk : κ = 1 ∨ κ = 4) (hd : 0 < δ) (h : xat κ δ t = some u) : u < t := by
  unfold xat at h
  rw [if_pos hk] at h
  split at h
  · cases h
  · cases h; omega

theorem xfst_ct {p : Nat → Bool} {n : Nat} (h : xfst p n = none) (h1 : ¬ xfst p (n + 1) = none) : xfst p (n + 1) = some n := by
  cases hp : p n with
  | true => exact xfst_c h hp
  | false => exact absurd (xfst_n h hp) h1
theorem xhr_and2 {p q : Nat → Bool} {j : Nat} {A B : Bool} (hA : p j = A) (hB : q j = B) : xhr (xfst p j) (xfst q j) &&& ((if A = true then 0 else 1) + (if B = true then 0 else 2)) = xhr (xfst p (j + 1)) (xfst q (j + 1)) := by
  rw [← hA, ← hB]
  exact xhr_and
theorem xhr_tt {p q : Nat → Bool} {j : Nat} (hA : p j = true) (hB : q j = true) : xhr (xfst p j) (xfst q j) &&& ((0 : Int32) + 0) = xhr (xfst p (j + 1)) (xfst q (j + 1)) := by
  have z := xhr_and2 hA hB
  rw [if_pos rfl, if_pos rfl] at z
  exact z
theorem xhr_tf {p q : Nat → Bool} {j : Nat} (hA : p j = true) (hB : q j = false) : xhr (xfst p j) (xfst q j) &&& ((0 : Int32) + 2) = xhr (xfst p (j + 1)) (xfst q (j + 1)) := by
  have z := xhr_and2 hA hB
  rw [if_pos rfl, if_neg (by decide)] at z
  exact z
theorem xhr_ft {p q : Nat → Bool} {j : Nat} (hA : p j = false) (hB : q j = true) : xhr (xfst p j) (xfst q j) &&& ((1 : Int32) + 0) = xhr (xfst p (j + 1)) (xfst q (j + 1)) := by
  have z := xhr_and2 hA hB
  rw [if_neg (by decide), if_pos rfl] at z
  exact z
theorem xhr_ff {p q : Nat → Bool} {j : Nat} (hA : p j = false) (hB : q j = false) : xhr (xfst p j) (xfst q j) &&& ((1 : Int32) + 2) = xhr (xfst p (j + 1)) (xfst q (j + 1)) := by
  have z := xhr_and2 hA hB
  rw [if_neg (by decide), if_neg (by decide)] at z
  exact z

section
variable {k a c n n2 m t p s d i1 j1 : Nat} {b : Nat × Nat} {g : Nat → Nat → Int32} {l : Nat → Nat → Int64} {i j x y z v w : Int32} {u w1 w2 : Int64}
variable {L G T e1 q1 κ δ : Nat} {Lw f f2 : Nat → Nat} {h tx F4 Rw Rw2 O : Nat → Int32}
set_option maxRecDepth 10000 in
theorem c_X12_isPart  : xT (k + 1) 163 [.int x, .int y, .int z] (xH b g l) (fun r M' => M' = xH b g l ∧ r = some (.int (if 0 ≤ x ∧ y ≤ z ∧ x ≤ z - y then 1 else 0))) := by
  refine xT.of rfl (Nat.le_of_ble_eq_true rfl) ?_
  change xS _ _ 0 [(0, .int x), (1, .int y), (2, .int z)] [] _ _
  refine xS.s1 rfl rfl ?_
  try dsimp only [Nat.reduceAdd]
  refine xS.br0 (c := .lt) (off := 19) (l := 3) rfl rfl (fun h1 => ?_) (fun h1 => ?_)
  · have g1 := xt_lt h1
    refine xS.s1 rfl rfl ?_
    try dsimp only [Nat.reduceAdd, xi_0]
    refine xS.ret rfl rfl rfl (fun _ _ => rfl) ?_
    exact ⟨rfl, by split <;> first | rfl | (exfalso; simp only [Int32.le_iff_toInt_le, Int32.lt_iff_toInt_lt, Int32.reduceToInt] at *; omega)⟩
  · have g1 := xf_lt h1
    refine xS.s1 rfl rfl ?_
    try dsimp only [Nat.reduceAdd]
    refine xS.s1 rfl rfl ?_
    try dsimp only [Nat.reduceAdd]
    refine xS.br (c := .gt) (off := 14) (l := 3) rfl rfl (fun h6 => ?_) (fun h6 => ?_)
    · have g6 := xt_gt h6
      refine xS.s1 rfl rfl ?_
      try dsimp only [Nat.reduceAdd, xi_0]
      refine xS.ret rfl rfl rfl (fun _ _ => rfl) ?_
      exact ⟨rfl, by split <;> first | rfl | (exfalso; simp only [Int32.le_iff_toInt_le, Int32.lt_iff_toInt_lt, Int32.reduceToInt] at *; omega)⟩
    · have g6 := xf_gt h6
      refine xS.s1 rfl rfl ?_
      try dsimp only [Nat.reduceAdd]
      refine xS.s1 rfl rfl ?_
      try dsimp only [Nat.reduceAdd]
      refine xS.s1 rfl rfl ?_
      try dsimp only [Nat.reduceAdd]
      refine xS.s1 rfl rfl ?_
      try dsimp only [Nat.reduceAdd]
      refine xS.br (c := .gt) (off := 7) (l := 3) rfl rfl (fun h13 => ?_) (fun h13 => ?_)
      · have g13 := xt_gt h13
        refine xS.s1 rfl rfl ?_
        try dsimp only [Nat.reduceAdd, xi_0]
        refine xS.ret rfl rfl rfl (fun _ _ => rfl) ?_
        exact ⟨rfl, by split <;> first | rfl | (exfalso; simp only [Int32.le_iff_toInt_le, Int32.lt_iff_toInt_lt, Int32.reduceToInt] at *; omega)⟩
      · have g13 := xf_gt h13
        refine xS.s1 rfl rfl ?_
        try dsimp only [Nat.reduceAdd, xi_1]
        refine xS.s1 rfl rfl ?_
        try dsimp only [Nat.reduceAdd]
        refine xS.ret rfl rfl rfl (fun _ _ => rfl) ?_
        exact ⟨rfl, by split <;> first | rfl | (exfalso; simp only [Int32.le_iff_toInt_le, Int32.lt_iff_toInt_lt, Int32.reduceToInt] at *; omega)⟩

set_option maxRecDepth 10000 in
theorem c_X12_he_ok (hR : xRr g h tx G T Lw) (hk : t < G) (hp1 : p < 6) (hs1 : s < 6) (hs : g 74 p = nI m) (hs2 : g 74 s = nI m) (hm : m ≤ 12) (hf : xfos (g 74 p) (fun i => g 75 (40 * p + i)) 12 = 0) (hf2 : xfos (g 74 s) (fun i => g 75 (40 * s + i)) 12 = 0) (hx : ∀ i, i < m → xstp (g 75 (40 * p + i))) (hx2 : ∀ i, i < m → xstp (g 75 (40 * s + i))) : xT (k + 5) 217 [.ref 73, .int (nI t), .int (nI p), .int (nI s)] (xH b g l) (fun r M' => ∃ g0, xFr g g0 ∧ M' = xH b (up g0 73 20 (xfI (xfst (fun i => (fun i => !decide (xshw h (Lw t / 4) (Lw t % 4) (fun i => xN (g 75 (40 * p + i))) i = g 75 (40 * s + i))) i || (fun i => !decide (xshw h (Lw t / 4) (Lw t % 4) (fun i => xN (g 75 (40 * s + i))) i = g 75 (40 * p + i))) i) m))) l ∧ r = some (.int (xhr (xfst (fun i => !decide (xshw h (Lw t / 4) (Lw t % 4) (fun i => xN (g 75 (40 * p + i))) i = g 75 (40 * s + i))) m) (xfst (fun i => !decide (xshw h (Lw t / 4) (Lw t % 4) (fun i => xN (g 75 (40 * s + i))) i = g 75 (40 * p + i))) m)))) := by
  refine xT.of rfl (Nat.le_of_ble_eq_true rfl) ?_
  change xS _ _ 0 [(0, .ref 73), (1, .int (nI t)), (2, .int (nI p)), (3, .int (nI s))] [] _ _
  refine xS.s1 rfl rfl ?_
  try dsimp only [Nat.reduceAdd]
  refine xS.s1 rfl rfl ?_
  try dsimp only [Nat.reduceAdd]
  -- 2 yX12_isGlass
  refine xS.cv rfl rfl rfl rfl rfl rfl ⟨by decide, rfl, rfl⟩ (c_X12_isGlass_in hR.1.1 hR.1.2 hk) (fun v M1 hv => ?_)
  rw [hv.1, hv.2]
  clear hv M1 v
  try dsimp only [Nat.reduceAdd, Option.toList, List.cons_append, List.nil_append, List.drop]
  refine xS.br0 (c := .eq) (off := 17) (l := 3) rfl rfl (fun h5 => ?_) (fun h5 => ?_)
  · have g5 := xt_eq h5
    exfalso; first | exact absurd g5 (by decide) | (simp (disch := omega) only [Int32.lt_iff_toInt_lt, Int32.le_iff_toInt_le, nI_toInt, Int32.reduceToInt] at g5 <;> omega)
  · have g5 := xf_eq h5
    refine xS.s1 rfl rfl ?_
    try dsimp only [Nat.reduceAdd]
    -- 9 yX12_isRow
    refine xS.callS rfl rfl rfl ⟨Nat.le_of_ble_eq_true rfl, rfl⟩ (c_X12_isRow_in hp1) (fun v M1 hv => ?_)
    rw [hv.1, hv.2]
    clear hv M1 v
    try dsimp only [Nat.reduceAdd, Option.toList, List.cons_append, List.nil_append, List.drop]
    refine xS.br0 (c := .eq) (off := 10) (l := 3) rfl rfl (fun h12 => ?_) (fun h12 => ?_)
    · have g12 := xt_eq h12
      exfalso; first | exact absurd g12 (by decide) | (simp (disch := omega) only [Int32.lt_iff_toInt_lt, Int32.le_iff_toInt_le, nI_toInt, Int32.reduceToInt] at g12 <;> omega)
    · have g12 := xf_eq h12
      refine xS.s1 rfl rfl ?_
      try dsimp only [Nat.reduceAdd]
      -- 16 yX12_isRow
      refine xS.callS rfl rfl rfl ⟨Nat.le_of_ble_eq_true rfl, rfl⟩ (c_X12_isRow_in hs1) (fun v M1 hv => ?_)
      rw [hv.1, hv.2]
      clear hv M1 v
      try dsimp only [Nat.reduceAdd, Option.toList, List.cons_append, List.nil_append, List.drop]
      refine xS.br0 (c := .ne) (off := 5) (l := 3) rfl rfl (fun h19 => ?_) (fun h19 => ?_)
      · have g19 := xt_ne h19
        refine xS.s1 rfl rfl ?_
        try dsimp only [Nat.reduceAdd]
        refine xS.s1 rfl rfl ?_
        try dsimp only [Nat.reduceAdd]
        refine xS.s1 rfl rfl ?_
        try dsimp only [Nat.reduceAdd]
        -- 27 yX12_takeTwo
        refine xS.cv rfl rfl rfl rfl rfl rfl ⟨by decide, rfl, rfl⟩ (c_X12_takeTwo_0 hp1 hs (by omega) hs1 hs2 hf hf2) (fun v M1 hv => ?_)
        rw [hv.1, hv.2]
        clear hv M1 v
        have hF1 : xFr g (gset (gset g 90 m (fun i => g 75 (40 * p + i))) 91 m (fun i => g 75 (40 * s + i))) := xFr_t (xFr_gs (by decide)) (xFr_gs (by decide))
        have h90 : ∀ u, u < m → (gset (gset g 90 m (fun i => g 75 (40 * p + i))) 91 m (fun i => g 75 (40 * s + i))) 90 u = nI ((fun i => xN (g 75 (40 * p + i))) u) ∧ (fun i => xN (g 75 (40 * p + i))) u < 6 := fun u hu => by rw [gset_na (by decide), gset_in hu]; exact ⟨(xstp_N (hx u hu)).2, (xstp_N (hx u hu)).1⟩
        have h91 : ∀ u, u < m → (gset (gset g 90 m (fun i => g 75 (40 * p + i))) 91 m (fun i => g 75 (40 * s + i))) 91 u = g 75 (40 * s + u) := fun u hu => by rw [gset_in hu]
        have e74 : (gset (gset g 90 m (fun i => g 75 (40 * p + i))) 91 m (fun i => g 75 (40 * s + i))) 74 p = nI m := by rw [gset_na (by decide), gset_na (by decide)]; exact hs
        have h91b : ∀ u, u < m → (gset (gset g 90 m (fun i => g 75 (40 * p + i))) 91 m (fun i => g 75 (40 * s + i))) 91 u = nI ((fun i => xN (g 75 (40 * s + i))) u) ∧ (fun i => xN (g 75 (40 * s + i))) u < 6 := fun u hu => by rw [gset_in hu]; exact ⟨(xstp_N (hx2 u hu)).2, (xstp_N (hx2 u hu)).1⟩
        have h90b : ∀ u, u < m → (gset (gset g 90 m (fun i => g 75 (40 * p + i))) 91 m (fun i => g 75 (40 * s + i))) 90 u = g 75 (40 * p + u) := fun u hu => by rw [gset_na (by decide), gset_in hu]
        try dsimp only [Nat.reduceAdd, Option.toList, List.cons_append, List.nil_append, List.drop]
        refine xS.s1 rfl rfl ?_
        try dsimp only [Nat.reduceAdd]
        refine xS.s1 rfl rfl ?_
        try dsimp only [Nat.reduceAdd]
        refine xS.br0 (c := .ge) (off := 6) (l := 3) rfl rfl (fun h34 => ?_) (fun h34 => ?_)
        · have g34 := xt_ge h34
          refine xS.s1 rfl rfl ?_
          try dsimp only [Nat.reduceAdd, xi_3]
          refine xS.s1 rfl rfl ?_
          try dsimp only [Nat.reduceAdd]
          refine xS.s1 rfl rfl ?_
          try dsimp only [Nat.reduceAdd, xj_m9]
          refine xS.s1 rfl rfl ?_
          try dsimp only [Nat.reduceAdd]
          refine xS.s1 rfl rfl ?_
          try dsimp only [Nat.reduceAdd, xi_0]
          refine xS.s1 rfl rfl ?_
          try dsimp only [Nat.reduceAdd]
          refine xS.pick [0, 2, 1, 4, 5, 6] rfl ?_
          refine xS.loop (σ := Unit) (m) (fun j S => [(7, .int (nI j)), (5, .int (xhr (xfst (fun i => !decide (xshw h (Lw t / 4) (Lw t % 4) (fun i => xN (g 75 (40 * p + i))) i = g 75 (40 * s + i))) j) (xfst (fun i => !decide (xshw h (Lw t / 4) (Lw t % 4) (fun i => xN (g 75 (40 * s + i))) i = g 75 (40 * p + i))) j))), (6, .int (xfI (xfst (fun i => (fun i => !decide (xshw h (Lw t / 4) (Lw t % 4) (fun i => xN (g 75 (40 * p + i))) i = g 75 (40 * s + i))) i || (fun i => !decide (xshw h (Lw t / 4) (Lw t % 4) (fun i => xN (g 75 (40 * s + i))) i = g 75 (40 * p + i))) i) j))), (0, .ref 73), (1, .int (nI t)), (2, .int (nI p))]) (fun _ _ => xH b (gset (gset g 90 m (fun i => g 75 (40 * p + i))) 91 m (fun i => g 75 (40 * s + i))) l) (fun _ _ => True) (()) (rfl) (rfl) (trivial) ?_
          intro j S hj hI ih
          try dsimp only
          refine xS.s1 rfl rfl ?_
          try dsimp only [Nat.reduceAdd]
          refine xS.s1 rfl rfl ?_
          try dsimp only [Nat.reduceAdd]
          refine xS.gR rfl rfl rfl ⟨by decide, rfl⟩ rfl ?_
          try dsimp only [Nat.reduceAdd]
          refine xS.s1 rfl rfl ?_
          try dsimp only [Nat.reduceAdd]
          refine xS.ia rfl xar_74 (by omega) ?_
          try dsimp only [Nat.reduceAdd]
          refine xS.br (c := .ge) (off := 93) (l := 3) rfl rfl (fun h58 => ?_) (fun h58 => ?_)
          · have g58 := xt_ge h58
            rw [e74] at g58
            have e := xnle g58 (by omega) (by omega)
            have e2 : m = j := by omega
            subst e2
            refine xS.s1 rfl rfl ?_
            try dsimp only [Nat.reduceAdd]
            refine xS.s1 rfl rfl ?_
            try dsimp only [Nat.reduceAdd]
            refine xS.pI rfl rfl rfl ⟨⟨by decide, rfl⟩, rfl, by decide, by decide⟩ rfl ?_
            try dsimp only [Nat.reduceAdd]
            refine xS.s1 rfl rfl ?_
            try dsimp only [Nat.reduceAdd]
            refine xS.ret rfl rfl rfl (fun _ _ => rfl) ?_
            exact ⟨_, hF1, rfl, rfl⟩
          · have g58 := xf_ge h58
            rw [e74] at g58
            have hlt := xnlt g58 (by omega) (by omega)
            refine xS.s1 rfl rfl ?_
            try dsimp only [Nat.reduceAdd]
            refine xS.s1 rfl rfl ?_
            try dsimp only [Nat.reduceAdd]
            refine xS.s1 rfl rfl ?_
            try dsimp only [Nat.reduceAdd]
            refine xS.gR rfl rfl rfl ⟨by decide, rfl⟩ rfl ?_
            try dsimp only [Nat.reduceAdd]
            refine xS.s1 rfl rfl ?_
            try dsimp only [Nat.reduceAdd]
            -- 69 yX12_showsOf
            refine xS.cv rfl rfl rfl rfl rfl rfl ⟨by decide, rfl, rfl⟩ (c_X12_showsOf (f := (fun i => xN (g 75 (40 * p + i)))) xar_90 (xRr_F hF1 hR) (by omega) hk (fun u hu => h90 u (by omega))) (fun v M1 hv => ?_)
            rw [hv.1, hv.2]
            clear hv M1 v
            try dsimp only [Nat.reduceAdd, Option.toList, List.cons_append, List.nil_append, List.drop]
            refine xS.s1 rfl rfl ?_
            try dsimp only [Nat.reduceAdd]
            refine xS.gR rfl rfl rfl ⟨by decide, rfl⟩ rfl ?_
            try dsimp only [Nat.reduceAdd]
            refine xS.s1 rfl rfl ?_
            try dsimp only [Nat.reduceAdd]
            refine xS.ia rfl xar_91 (by omega) ?_
            try dsimp only [Nat.reduceAdd]
            rw [h91 j hlt]
            refine xS.br (c := .ne) (off := 7) (l := 3) rfl rfl (fun h79 => ?_) (fun h79 => ?_)
            · have g79 := xt_ne h79
              refine xS.s1 rfl rfl ?_
              try dsimp only [Nat.reduceAdd, xi_0]
              refine xS.s1 rfl rfl ?_
              try dsimp only [Nat.reduceAdd]
              refine xS.s1 rfl rfl ?_
              try dsimp only [Nat.reduceAdd]
              refine xS.s1 rfl rfl ?_
              try dsimp only [Nat.reduceAdd]
              refine xS.gR rfl rfl rfl ⟨by decide, rfl⟩ rfl ?_
              try dsimp only [Nat.reduceAdd]
              refine xS.s1 rfl rfl ?_
              try dsimp only [Nat.reduceAdd]
              -- 95 yX12_showsOf
              refine xS.cv rfl rfl rfl rfl rfl rfl ⟨by decide, rfl, rfl⟩ (c_X12_showsOf (f := (fun i => xN (g 75 (40 * s + i)))) xar_91 (xRr_F hF1 hR) (by omega) hk (fun u hu => h91b u (by omega))) (fun v M1 hv => ?_)
              rw [hv.1, hv.2]
              clear hv M1 v
              try dsimp only [Nat.reduceAdd, Option.toList, List.cons_append, List.nil_append, List.drop]
              refine xS.s1 rfl rfl ?_
              try dsimp only [Nat.reduceAdd]
              refine xS.gR rfl rfl rfl ⟨by decide, rfl⟩ rfl ?_
              try dsimp only [Nat.reduceAdd]
              refine xS.s1 rfl rfl ?_
              try dsimp only [Nat.reduceAdd]
              refine xS.ia rfl xar_90 (by omega) ?_
              try dsimp only [Nat.reduceAdd]
              rw [h90b j hlt]
              refine xS.br (c := .ne) (off := 7) (l := 3) rfl rfl (fun h105 => ?_) (fun h105 => ?_)
              · have g105 := xt_ne h105
                refine xS.s1 rfl rfl ?_
                try dsimp only [Nat.reduceAdd, xi_0]
                refine xS.s1 rfl rfl ?_
                try dsimp only [Nat.reduceAdd]
                refine xS.s1 rfl rfl ?_
                try dsimp only [Nat.reduceAdd]
                refine xS.s1 rfl rfl ?_
                try dsimp only [Nat.reduceAdd]
                refine xS.s1 rfl rfl ?_
                try dsimp only [Nat.reduceAdd]
                refine xS.s1 rfl rfl ?_
                try dsimp only [Nat.reduceAdd]
                refine xS.s1 rfl rfl ?_
                try dsimp only [Nat.reduceAdd]
                refine xS.s1 rfl rfl ?_
                try dsimp only [Nat.reduceAdd]
                refine xS.s1 rfl rfl ?_
                try dsimp only [Nat.reduceAdd, xj_m9]
                refine xS.br (c := .ne) (off := 14) (l := 3) rfl rfl (fun h127 => ?_) (fun h127 => ?_)
                · have g127 := xt_ne h127
                  refine xS.s1 rfl rfl ?_
                  try dsimp only [Nat.reduceAdd]
                  refine xS.s1 rfl rfl ?_
                  try dsimp only [Nat.reduceAdd]
                  refine xS.s1 rfl rfl ?_
                  try dsimp only [Nat.reduceAdd, xi_1]
                  rw [nI_1]
                  refine xS.s1 rfl rfl ?_
                  try dsimp only [Nat.reduceAdd]
                  refine xS.pick [0, 2, 1, 4, 5, 6] rfl ?_
                  have hA : (fun i => !decide (xshw h (Lw t / 4) (Lw t % 4) (fun i => xN (g 75 (40 * p + i))) i = g 75 (40 * s + i))) j = true := by simp [g79]
                  have hB : (fun i => !decide (xshw h (Lw t / 4) (Lw t % 4) (fun i => xN (g 75 (40 * s + i))) i = g 75 (40 * p + i))) j = true := by simp [g105]
                  have hc2 : xhr (xfst (fun i => !decide (xshw h (Lw t / 4) (Lw t % 4) (fun i => xN (g 75 (40 * p + i))) i = g 75 (40 * s + i))) j) (xfst (fun i => !decide (xshw h (Lw t / 4) (Lw t % 4) (fun i => xN (g 75 (40 * s + i))) i = g 75 (40 * p + i))) j) &&& (0 + 0) = xhr (xfst (fun i => !decide (xshw h (Lw t / 4) (Lw t % 4) (fun i => xN (g 75 (40 * p + i))) i = g 75 (40 * s + i))) (j + 1)) (xfst (fun i => !decide (xshw h (Lw t / 4) (Lw t % 4) (fun i => xN (g 75 (40 * s + i))) i = g 75 (40 * p + i))) (j + 1)) := xhr_tt hA hB
                  have ih2 := ih () (by omega) trivial
                  rw [xfst_k (p := (fun i => (fun i => !decide (xshw h (Lw t / 4) (Lw t % 4) (fun i => xN (g 75 (40 * p + i))) i = g 75 (40 * s + i))) i || (fun i => !decide (xshw h (Lw t / 4) (Lw t % 4) (fun i => xN (g 75 (40 * s + i))) i = g 75 (40 * p + i))) i)) ((not_congr (xfI_none (xfI_b (by omega)))).mp g127)] at ih2
                  rw [← hc2] at ih2
                  exact ih2
                · have g127 := xf_ne h127
                  refine xS.s1 rfl rfl ?_
                  try dsimp only [Nat.reduceAdd]
                  refine xS.s1 rfl rfl ?_
                  try dsimp only [Nat.reduceAdd, xi_3]
                  refine xS.br (c := .eq) (off := 8) (l := 3) rfl rfl (fun h133 => ?_) (fun h133 => ?_)
                  · have g133 := xt_eq h133
                    refine xS.s1 rfl rfl ?_
                    try dsimp only [Nat.reduceAdd]
                    refine xS.s1 rfl rfl ?_
                    try dsimp only [Nat.reduceAdd]
                    refine xS.s1 rfl rfl ?_
                    try dsimp only [Nat.reduceAdd, xi_1]
                    rw [nI_1]
                    refine xS.s1 rfl rfl ?_
                    try dsimp only [Nat.reduceAdd]
                    refine xS.pick [0, 2, 1, 4, 5, 6] rfl ?_
                    have hA : (fun i => !decide (xshw h (Lw t / 4) (Lw t % 4) (fun i => xN (g 75 (40 * p + i))) i = g 75 (40 * s + i))) j = true := by simp [g79]
                    have hB : (fun i => !decide (xshw h (Lw t / 4) (Lw t % 4) (fun i => xN (g 75 (40 * s + i))) i = g 75 (40 * p + i))) j = true := by simp [g105]
                    have hc2 : xhr (xfst (fun i => !decide (xshw h (Lw t / 4) (Lw t % 4) (fun i => xN (g 75 (40 * p + i))) i = g 75 (40 * s + i))) j) (xfst (fun i => !decide (xshw h (Lw t / 4) (Lw t % 4) (fun i => xN (g 75 (40 * s + i))) i = g 75 (40 * p + i))) j) &&& (0 + 0) = xhr (xfst (fun i => !decide (xshw h (Lw t / 4) (Lw t % 4) (fun i => xN (g 75 (40 * p + i))) i = g 75 (40 * s + i))) (j + 1)) (xfst (fun i => !decide (xshw h (Lw t / 4) (Lw t % 4) (fun i => xN (g 75 (40 * s + i))) i = g 75 (40 * p + i))) (j + 1)) := xhr_tt hA hB
                    have ih2 := ih () (by omega) trivial
                    have n3 := xhr_3.mp (hc2.symm.trans g133)
                    rw [show xfst (fun i => (fun i => !decide (xshw h (Lw t / 4) (Lw t % 4) (fun i => xN (g 75 (40 * p + i))) i = g 75 (40 * s + i))) i || (fun i => !decide (xshw h (Lw t / 4) (Lw t % 4) (fun i => xN (g 75 (40 * s + i))) i = g 75 (40 * p + i))) i) (j + 1) = xfst (fun i => (fun i => !decide (xshw h (Lw t / 4) (Lw t % 4) (fun i => xN (g 75 (40 * p + i))) i = g 75 (40 * s + i))) i || (fun i => !decide (xshw h (Lw t / 4) (Lw t % 4) (fun i => xN (g 75 (40 * s + i))) i = g 75 (40 * p + i))) i) j from by rw [xfst_or.mpr n3, (xfI_none (xfI_b (by omega))).mp g127]] at ih2
                    rw [← hc2] at ih2
                    exact ih2
                  · have g133 := xf_eq h133
                    refine xS.s1 rfl rfl ?_
                    try dsimp only [Nat.reduceAdd]
                    refine xS.s1 rfl rfl ?_
                    try dsimp only [Nat.reduceAdd]
                    refine xS.s1 rfl rfl ?_
                    try dsimp only [Nat.reduceAdd]
                    refine xS.s1 rfl rfl ?_
                    try dsimp only [Nat.reduceAdd, xi_1]
                    rw [nI_1]
                    refine xS.s1 rfl rfl ?_
                    try dsimp only [Nat.reduceAdd]
                    refine xS.pick [0, 2, 1, 4, 5, 6] rfl ?_
                    have hA : (fun i => !decide (xshw h (Lw t / 4) (Lw t % 4) (fun i => xN (g 75 (40 * p + i))) i = g 75 (40 * s + i))) j = true := by simp [g79]
                    have hB : (fun i => !decide (xshw h (Lw t / 4) (Lw t % 4) (fun i => xN (g 75 (40 * s + i))) i = g 75 (40 * p + i))) j = true := by simp [g105]
                    have hc2 : xhr (xfst (fun i => !decide (xshw h (Lw t / 4) (Lw t % 4) (fun i => xN (g 75 (40 * p + i))) i = g 75 (40 * s + i))) j) (xfst (fun i => !decide (xshw h (Lw t / 4) (Lw t % 4) (fun i => xN (g 75 (40 * s + i))) i = g 75 (40 * p + i))) j) &&& (0 + 0) = xhr (xfst (fun i => !decide (xshw h (Lw t / 4) (Lw t % 4) (fun i => xN (g 75 (40 * p + i))) i = g 75 (40 * s + i))) (j + 1)) (xfst (fun i => !decide (xshw h (Lw t / 4) (Lw t % 4) (fun i => xN (g 75 (40 * s + i))) i = g 75 (40 * p + i))) (j + 1)) := xhr_tt hA hB
                    have ih2 := ih () (by omega) trivial
                    have n0 := (xfI_none (xfI_b (by omega))).mp g127
                    have n3 : ¬ xfst (fun i => (fun i => !decide (xshw h (Lw t / 4) (Lw t % 4) (fun i => xN (g 75 (40 * p + i))) i = g 75 (40 * s + i))) i || (fun i => !decide (xshw h (Lw t / 4) (Lw t % 4) (fun i => xN (g 75 (40 * s + i))) i = g 75 (40 * p + i))) i) (j + 1) = none := fun z => g133 (hc2.trans (xhr_3.mpr (xfst_or.mp z)))
                    rw [xfst_ct n0 n3] at ih2
                    rw [← hc2] at ih2
                    exact ih2
              · have g105 := xf_ne h105
                refine xS.s1 rfl rfl ?_
                try dsimp only [Nat.reduceAdd, xi_2]
                refine xS.s1 rfl rfl ?_
                try dsimp only [Nat.reduceAdd]
                refine xS.s1 rfl rfl ?_
                try dsimp only [Nat.reduceAdd]
                refine xS.s1 rfl rfl ?_
                try dsimp only [Nat.reduceAdd]
                refine xS.s1 rfl rfl ?_
                try dsimp only [Nat.reduceAdd]
                refine xS.s1 rfl rfl ?_
                try dsimp only [Nat.reduceAdd]
                refine xS.s1 rfl rfl ?_
                try dsimp only [Nat.reduceAdd]
                refine xS.s1 rfl rfl ?_
                try dsimp only [Nat.reduceAdd]
                refine xS.s1 rfl rfl ?_
                try dsimp only [Nat.reduceAdd]
                refine xS.s1 rfl rfl ?_
                try dsimp only [Nat.reduceAdd, xj_m9]
                refine xS.br (c := .ne) (off := 14) (l := 3) rfl rfl (fun h127 => ?_) (fun h127 => ?_)
                · have g127 := xt_ne h127
                  refine xS.s1 rfl rfl ?_
                  try dsimp only [Nat.reduceAdd]
                  refine xS.s1 rfl rfl ?_
                  try dsimp only [Nat.reduceAdd]
                  refine xS.s1 rfl rfl ?_
                  try dsimp only [Nat.reduceAdd, xi_1]
                  rw [nI_1]
                  refine xS.s1 rfl rfl ?_
                  try dsimp only [Nat.reduceAdd]
                  refine xS.pick [0, 2, 1, 4, 5, 6] rfl ?_
                  have hA : (fun i => !decide (xshw h (Lw t / 4) (Lw t % 4) (fun i => xN (g 75 (40 * p + i))) i = g 75 (40 * s + i))) j = true := by simp [g79]
                  have hB : (fun i => !decide (xshw h (Lw t / 4) (Lw t % 4) (fun i => xN (g 75 (40 * s + i))) i = g 75 (40 * p + i))) j = false := by simp [g105]
                  have hc2 : xhr (xfst (fun i => !decide (xshw h (Lw t / 4) (Lw t % 4) (fun i => xN (g 75 (40 * p + i))) i = g 75 (40 * s + i))) j) (xfst (fun i => !decide (xshw h (Lw t / 4) (Lw t % 4) (fun i => xN (g 75 (40 * s + i))) i = g 75 (40 * p + i))) j) &&& (0 + 2) = xhr (xfst (fun i => !decide (xshw h (Lw t / 4) (Lw t % 4) (fun i => xN (g 75 (40 * p + i))) i = g 75 (40 * s + i))) (j + 1)) (xfst (fun i => !decide (xshw h (Lw t / 4) (Lw t % 4) (fun i => xN (g 75 (40 * s + i))) i = g 75 (40 * p + i))) (j + 1)) := xhr_tf hA hB
                  have ih2 := ih () (by omega) trivial
                  rw [xfst_k (p := (fun i => (fun i => !decide (xshw h (Lw t / 4) (Lw t % 4) (fun i => xN (g 75 (40 * p + i))) i = g 75 (40 * s + i))) i || (fun i => !decide (xshw h (Lw t / 4) (Lw t % 4) (fun i => xN (g 75 (40 * s + i))) i = g 75 (40 * p + i))) i)) ((not_congr (xfI_none (xfI_b (by omega)))).mp g127)] at ih2
                  rw [← hc2] at ih2
                  exact ih2
                · have g127 := xf_ne h127
                  refine xS.s1 rfl rfl ?_
                  try dsimp only [Nat.reduceAdd]
                  refine xS.s1 rfl rfl ?_
                  try dsimp only [Nat.reduceAdd, xi_3]
                  refine xS.br (c := .eq) (off := 8) (l := 3) rfl rfl (fun h133 => ?_) (fun h133 => ?_)
                  · have g133 := xt_eq h133
                    refine xS.s1 rfl rfl ?_
                    try dsimp only [Nat.reduceAdd]
                    refine xS.s1 rfl rfl ?_
                    try dsimp only [Nat.reduceAdd]
                    refine xS.s1 rfl rfl ?_
                    try dsimp only [Nat.reduceAdd, xi_1]
                    rw [nI_1]
                    refine xS.s1 rfl rfl ?_
                    try dsimp only [Nat.reduceAdd]
                    refine xS.pick [0, 2, 1, 4, 5, 6] rfl ?_
                    have hA : (fun i => !decide (xshw h (Lw t / 4) (Lw t % 4) (fun i => xN (g 75 (40 * p + i))) i = g 75 (40 * s + i))) j = true := by simp [g79]
                    have hB : (fun i => !decide (xshw h (Lw t / 4) (Lw t % 4) (fun i => xN (g 75 (40 * s + i))) i = g 75 (40 * p + i))) j = false := by simp [g105]
                    have hc2 : xhr (xfst (fun i => !decide (xshw h (Lw t / 4) (Lw t % 4) (fun i => xN (g 75 (40 * p + i))) i = g 75 (40 * s + i))) j) (xfst (fun i => !decide (xshw h (Lw t / 4) (Lw t % 4) (fun i => xN (g 75 (40 * s + i))) i = g 75 (40 * p + i))) j) &&& (0 + 2) = xhr (xfst (fun i => !decide (xshw h (Lw t / 4) (Lw t % 4) (fun i => xN (g 75 (40 * p + i))) i = g 75 (40 * s + i))) (j + 1)) (xfst (fun i => !decide (xshw h (Lw t / 4) (Lw t % 4) (fun i => xN (g 75 (40 * s + i))) i = g 75 (40 * p + i))) (j + 1)) := xhr_tf hA hB
                    have ih2 := ih () (by omega) trivial
                    have n3 := xhr_3.mp (hc2.symm.trans g133)
                    rw [show xfst (fun i => (fun i => !decide (xshw h (Lw t / 4) (Lw t % 4) (fun i => xN (g 75 (40 * p + i))) i = g 75 (40 * s + i))) i || (fun i => !decide (xshw h (Lw t / 4) (Lw t % 4) (fun i => xN (g 75 (40 * s + i))) i = g 75 (40 * p + i))) i) (j + 1) = xfst (fun i => (fun i => !decide (xshw h (Lw t / 4) (Lw t % 4) (fun i => xN (g 75 (40 * p + i))) i = g 75 (40 * s + i))) i || (fun i => !decide (xshw h (Lw t / 4) (Lw t % 4) (fun i => xN (g 75 (40 * s + i))) i = g 75 (40 * p + i))) i) j from by rw [xfst_or.mpr n3, (xfI_none (xfI_b (by omega))).mp g127]] at ih2
                    rw [← hc2] at ih2
                    exact ih2
                  · have g133 := xf_eq h133
                    refine xS.s1 rfl rfl ?_
                    try dsimp only [Nat.reduceAdd]
                    refine xS.s1 rfl rfl ?_
                    try dsimp only [Nat.reduceAdd]
                    refine xS.s1 rfl rfl ?_
                    try dsimp only [Nat.reduceAdd]
                    refine xS.s1 rfl rfl ?_
                    try dsimp only [Nat.reduceAdd, xi_1]
                    rw [nI_1]
                    refine xS.s1 rfl rfl ?_
                    try dsimp only [Nat.reduceAdd]
                    refine xS.pick [0, 2, 1, 4, 5, 6] rfl ?_
                    have hA : (fun i => !decide (xshw h (Lw t / 4) (Lw t % 4) (fun i => xN (g 75 (40 * p + i))) i = g 75 (40 * s + i))) j = true := by simp [g79]
                    have hB : (fun i => !decide (xshw h (Lw t / 4) (Lw t % 4) (fun i => xN (g 75 (40 * s + i))) i = g 75 (40 * p + i))) j = false := by simp [g105]
                    have hc2 : xhr (xfst (fun i => !decide (xshw h (Lw t / 4) (Lw t % 4) (fun i => xN (g 75 (40 * p + i))) i = g 75 (40 * s + i))) j) (xfst (fun i => !decide (xshw h (Lw t / 4) (Lw t % 4) (fun i => xN (g 75 (40 * s + i))) i = g 75 (40 * p + i))) j) &&& (0 + 2) = xhr (xfst (fun i => !decide (xshw h (Lw t / 4) (Lw t % 4) (fun i => xN (g 75 (40 * p + i))) i = g 75 (40 * s + i))) (j + 1)) (xfst (fun i => !decide (xshw h (Lw t / 4) (Lw t % 4) (fun i => xN (g 75 (40 * s + i))) i = g 75 (40 * p + i))) (j + 1)) := xhr_tf hA hB
                    have ih2 := ih () (by omega) trivial
                    have n0 := (xfI_none (xfI_b (by omega))).mp g127
                    have n3 : ¬ xfst (fun i => (fun i => !decide (xshw h (Lw t / 4) (Lw t % 4) (fun i => xN (g 75 (40 * p + i))) i = g 75 (40 * s + i))) i || (fun i => !decide (xshw h (Lw t / 4) (Lw t % 4) (fun i => xN (g 75 (40 * s + i))) i = g 75 (40 * p + i))) i) (j + 1) = none := fun z => g133 (hc2.trans (xhr_3.mpr (xfst_or.mp z)))
                    rw [xfst_ct n0 n3] at ih2
                    rw [← hc2] at ih2
                    exact ih2
            · have g79 := xf_ne h79
              refine xS.s1 rfl rfl ?_
              try dsimp only [Nat.reduceAdd, xi_1]
              refine xS.s1 rfl rfl ?_
              try dsimp only [Nat.reduceAdd]
              refine xS.s1 rfl rfl ?_
              try dsimp only [Nat.reduceAdd]
              refine xS.s1 rfl rfl ?_
              try dsimp only [Nat.reduceAdd]
              refine xS.s1 rfl rfl ?_
              try dsimp only [Nat.reduceAdd]
              refine xS.gR rfl rfl rfl ⟨by decide, rfl⟩ rfl ?_
              try dsimp only [Nat.reduceAdd]
              refine xS.s1 rfl rfl ?_
              try dsimp only [Nat.reduceAdd]
              -- 95 yX12_showsOf
              refine xS.cv rfl rfl rfl rfl rfl rfl ⟨by decide, rfl, rfl⟩ (c_X12_showsOf (f := (fun i => xN (g 75 (40 * s + i)))) xar_91 (xRr_F hF1 hR) (by omega) hk (fun u hu => h91b u (by omega))) (fun v M1 hv => ?_)
              rw [hv.1, hv.2]
              clear hv M1 v
              try dsimp only [Nat.reduceAdd, Option.toList, List.cons_append, List.nil_append, List.drop]
              refine xS.s1 rfl rfl ?_
              try dsimp only [Nat.reduceAdd]
              refine xS.gR rfl rfl rfl ⟨by decide, rfl⟩ rfl ?_
              try dsimp only [Nat.reduceAdd]
              refine xS.s1 rfl rfl ?_
              try dsimp only [Nat.reduceAdd]
              refine xS.ia rfl xar_90 (by omega) ?_
              try dsimp only [Nat.reduceAdd]
              rw [h90b j hlt]
              refine xS.br (c := .ne) (off := 7) (l := 3) rfl rfl (fun h105 => ?_) (fun h105 => ?_)
              · have g105 := xt_ne h105
                refine xS.s1 rfl rfl ?_
                try dsimp only [Nat.reduceAdd, xi_0]
                refine xS.s1 rfl rfl ?_
                try dsimp only [Nat.reduceAdd]
                refine xS.s1 rfl rfl ?_
                try dsimp only [Nat.reduceAdd]
                refine xS.s1 rfl rfl ?_
                try dsimp only [Nat.reduceAdd]
                refine xS.s1 rfl rfl ?_
                try dsimp only [Nat.reduceAdd]
                refine xS.s1 rfl rfl ?_
                try dsimp only [Nat.reduceAdd]
                refine xS.s1 rfl rfl ?_
                try dsimp only [Nat.reduceAdd]
                refine xS.s1 rfl rfl ?_
                try dsimp only [Nat.reduceAdd]
                refine xS.s1 rfl rfl ?_
                try dsimp only [Nat.reduceAdd, xj_m9]
                refine xS.br (c := .ne) (off := 14) (l := 3) rfl rfl (fun h127 => ?_) (fun h127 => ?_)
                · have g127 := xt_ne h127
                  refine xS.s1 rfl rfl ?_
                  try dsimp only [Nat.reduceAdd]
                  refine xS.s1 rfl rfl ?_
                  try dsimp only [Nat.reduceAdd]
                  refine xS.s1 rfl rfl ?_
                  try dsimp only [Nat.reduceAdd, xi_1]
                  rw [nI_1]
                  refine xS.s1 rfl rfl ?_
                  try dsimp only [Nat.reduceAdd]
                  refine xS.pick [0, 2, 1, 4, 5, 6] rfl ?_
                  have hA : (fun i => !decide (xshw h (Lw t / 4) (Lw t % 4) (fun i => xN (g 75 (40 * p + i))) i = g 75 (40 * s + i))) j = false := by simp [g79]
                  have hB : (fun i => !decide (xshw h (Lw t / 4) (Lw t % 4) (fun i => xN (g 75 (40 * s + i))) i = g 75 (40 * p + i))) j = true := by simp [g105]
                  have hc2 : xhr (xfst (fun i => !decide (xshw h (Lw t / 4) (Lw t % 4) (fun i => xN (g 75 (40 * p + i))) i = g 75 (40 * s + i))) j) (xfst (fun i => !decide (xshw h (Lw t / 4) (Lw t % 4) (fun i => xN (g 75 (40 * s + i))) i = g 75 (40 * p + i))) j) &&& (1 + 0) = xhr (xfst (fun i => !decide (xshw h (Lw t / 4) (Lw t % 4) (fun i => xN (g 75 (40 * p + i))) i = g 75 (40 * s + i))) (j + 1)) (xfst (fun i => !decide (xshw h (Lw t / 4) (Lw t % 4) (fun i => xN (g 75 (40 * s + i))) i = g 75 (40 * p + i))) (j + 1)) := xhr_ft hA hB
                  have ih2 := ih () (by omega) trivial
                  rw [xfst_k (p := (fun i => (fun i => !decide (xshw h (Lw t / 4) (Lw t % 4) (fun i => xN (g 75 (40 * p + i))) i = g 75 (40 * s + i))) i || (fun i => !decide (xshw h (Lw t / 4) (Lw t % 4) (fun i => xN (g 75 (40 * s + i))) i = g 75 (40 * p + i))) i)) ((not_congr (xfI_none (xfI_b (by omega)))).mp g127)] at ih2
                  rw [← hc2] at ih2
                  exact ih2
                · have g127 := xf_ne h127
                  refine xS.s1 rfl rfl ?_
                  try dsimp only [Nat.reduceAdd]
                  refine xS.s1 rfl rfl ?_
                  try dsimp only [Nat.reduceAdd, xi_3]
                  refine xS.br (c := .eq) (off := 8) (l := 3) rfl rfl (fun h133 => ?_) (fun h133 => ?_)
                  · have g133 := xt_eq h133
                    refine xS.s1 rfl rfl ?_
                    try dsimp only [Nat.reduceAdd]
                    refine xS.s1 rfl rfl ?_
                    try dsimp only [Nat.reduceAdd]
                    refine xS.s1 rfl rfl ?_
                    try dsimp only [Nat.reduceAdd, xi_1]
                    rw [nI_1]
                    refine xS.s1 rfl rfl ?_
                    try dsimp only [Nat.reduceAdd]
                    refine xS.pick [0, 2, 1, 4, 5, 6] rfl ?_
                    have hA : (fun i => !decide (xshw h (Lw t / 4) (Lw t % 4) (fun i => xN (g 75 (40 * p + i))) i = g 75 (40 * s + i))) j = false := by simp [g79]
                    have hB : (fun i => !decide (xshw h (Lw t / 4) (Lw t % 4) (fun i => xN (g 75 (40 * s + i))) i = g 75 (40 * p + i))) j = true := by simp [g105]
                    have hc2 : xhr (xfst (fun i => !decide (xshw h (Lw t / 4) (Lw t % 4) (fun i => xN (g 75 (40 * p + i))) i = g 75 (40 * s + i))) j) (xfst (fun i => !decide (xshw h (Lw t / 4) (Lw t % 4) (fun i => xN (g 75 (40 * s + i))) i = g 75 (40 * p + i))) j) &&& (1 + 0) = xhr (xfst (fun i => !decide (xshw h (Lw t / 4) (Lw t % 4) (fun i => xN (g 75 (40 * p + i))) i = g 75 (40 * s + i))) (j + 1)) (xfst (fun i => !decide (xshw h (Lw t / 4) (Lw t % 4) (fun i => xN (g 75 (40 * s + i))) i = g 75 (40 * p + i))) (j + 1)) := xhr_ft hA hB
                    have ih2 := ih () (by omega) trivial
                    have n3 := xhr_3.mp (hc2.symm.trans g133)
                    rw [show xfst (fun i => (fun i => !decide (xshw h (Lw t / 4) (Lw t % 4) (fun i => xN (g 75 (40 * p + i))) i = g 75 (40 * s + i))) i || (fun i => !decide (xshw h (Lw t / 4) (Lw t % 4) (fun i => xN (g 75 (40 * s + i))) i = g 75 (40 * p + i))) i) (j + 1) = xfst (fun i => (fun i => !decide (xshw h (Lw t / 4) (Lw t % 4) (fun i => xN (g 75 (40 * p + i))) i = g 75 (40 * s + i))) i || (fun i => !decide (xshw h (Lw t / 4) (Lw t % 4) (fun i => xN (g 75 (40 * s + i))) i = g 75 (40 * p + i))) i) j from by rw [xfst_or.mpr n3, (xfI_none (xfI_b (by omega))).mp g127]] at ih2
                    rw [← hc2] at ih2
                    exact ih2
                  · have g133 := xf_eq h133
                    refine xS.s1 rfl rfl ?_
                    try dsimp only [Nat.reduceAdd]
                    refine xS.s1 rfl rfl ?_
                    try dsimp only [Nat.reduceAdd]
                    refine xS.s1 rfl rfl ?_
                    try dsimp only [Nat.reduceAdd]
                    refine xS.s1 rfl rfl ?_
                    try dsimp only [Nat.reduceAdd, xi_1]
                    rw [nI_1]
                    refine xS.s1 rfl rfl ?_
                    try dsimp only [Nat.reduceAdd]
                    refine xS.pick [0, 2, 1, 4, 5, 6] rfl ?_
                    have hA : (fun i => !decide (xshw h (Lw t / 4) (Lw t % 4) (fun i => xN (g 75 (40 * p + i))) i = g 75 (40 * s + i))) j = false := by simp [g79]
                    have hB : (fun i => !decide (xshw h (Lw t / 4) (Lw t % 4) (fun i => xN (g 75 (40 * s + i))) i = g 75 (40 * p + i))) j = true := by simp [g105]
                    have hc2 : xhr (xfst (fun i => !decide (xshw h (Lw t / 4) (Lw t % 4) (fun i => xN (g 75 (40 * p + i))) i = g 75 (40 * s + i))) j) (xfst (fun i => !decide (xshw h (Lw t / 4) (Lw t % 4) (fun i => xN (g 75 (40 * s + i))) i = g 75 (40 * p + i))) j) &&& (1 + 0) = xhr (xfst (fun i => !decide (xshw h (Lw t / 4) (Lw t % 4) (fun i => xN (g 75 (40 * p + i))) i = g 75 (40 * s + i))) (j + 1)) (xfst (fun i => !decide (xshw h (Lw t / 4) (Lw t % 4) (fun i => xN (g 75 (40 * s + i))) i = g 75 (40 * p + i))) (j + 1)) := xhr_ft hA hB
                    have ih2 := ih () (by omega) trivial
                    have n0 := (xfI_none (xfI_b (by omega))).mp g127
                    have n3 : ¬ xfst (fun i => (fun i => !decide (xshw h (Lw t / 4) (Lw t % 4) (fun i => xN (g 75 (40 * p + i))) i = g 75 (40 * s + i))) i || (fun i => !decide (xshw h (Lw t / 4) (Lw t % 4) (fun i => xN (g 75 (40 * s + i))) i = g 75 (40 * p + i))) i) (j + 1) = none := fun z => g133 (hc2.trans (xhr_3.mpr (xfst_or.mp z)))
                    rw [xfst_ct n0 n3] at ih2
                    rw [← hc2] at ih2
                    exact ih2
              · have g105 := xf_ne h105
                refine xS.s1 rfl rfl ?_
                try dsimp only [Nat.reduceAdd, xi_2]
                refine xS.s1 rfl rfl ?_
                try dsimp only [Nat.reduceAdd]
                refine xS.s1 rfl rfl ?_
                try dsimp only [Nat.reduceAdd]
                refine xS.s1 rfl rfl ?_
                try dsimp only [Nat.reduceAdd]
                refine xS.s1 rfl rfl ?_
                try dsimp only [Nat.reduceAdd]
                refine xS.s1 rfl rfl ?_
                try dsimp only [Nat.reduceAdd]
                refine xS.s1 rfl rfl ?_
                try dsimp only [Nat.reduceAdd]
                refine xS.s1 rfl rfl ?_
                try dsimp only [Nat.reduceAdd]
                refine xS.s1 rfl rfl ?_
                try dsimp only [Nat.reduceAdd]
                refine xS.s1 rfl rfl ?_
                try dsimp only [Nat.reduceAdd, xj_m9]
                refine xS.br (c := .ne) (off := 14) (l := 3) rfl rfl (fun h127 => ?_) (fun h127 => ?_)
                · have g127 := xt_ne h127
                  refine xS.s1 rfl rfl ?_
                  try dsimp only [Nat.reduceAdd]
                  refine xS.s1 rfl rfl ?_
                  try dsimp only [Nat.reduceAdd]
                  refine xS.s1 rfl rfl ?_
                  try dsimp only [Nat.reduceAdd, xi_1]
                  rw [nI_1]
                  refine xS.s1 rfl rfl ?_
                  try dsimp only [Nat.reduceAdd]
                  refine xS.pick [0, 2, 1, 4, 5, 6] rfl ?_
                  have hA : (fun i => !decide (xshw h (Lw t / 4) (Lw t % 4) (fun i => xN (g 75 (40 * p + i))) i = g 75 (40 * s + i))) j = false := by simp [g79]
                  have hB : (fun i => !decide (xshw h (Lw t / 4) (Lw t % 4) (fun i => xN (g 75 (40 * s + i))) i = g 75 (40 * p + i))) j = false := by simp [g105]
                  have hc2 : xhr (xfst (fun i => !decide (xshw h (Lw t / 4) (Lw t % 4) (fun i => xN (g 75 (40 * p + i))) i = g 75 (40 * s + i))) j) (xfst (fun i => !decide (xshw h (Lw t / 4) (Lw t % 4) (fun i => xN (g 75 (40 * s + i))) i = g 75 (40 * p + i))) j) &&& (1 + 2) = xhr (xfst (fun i => !decide (xshw h (Lw t / 4) (Lw t % 4) (fun i => xN (g 75 (40 * p + i))) i = g 75 (40 * s + i))) (j + 1)) (xfst (fun i => !decide (xshw h (Lw t / 4) (Lw t % 4) (fun i => xN (g 75 (40 * s + i))) i = g 75 (40 * p + i))) (j + 1)) := xhr_ff hA hB
                  have ih2 := ih () (by omega) trivial
                  rw [xfst_k (p := (fun i => (fun i => !decide (xshw h (Lw t / 4) (Lw t % 4) (fun i => xN (g 75 (40 * p + i))) i = g 75 (40 * s + i))) i || (fun i => !decide (xshw h (Lw t / 4) (Lw t % 4) (fun i => xN (g 75 (40 * s + i))) i = g 75 (40 * p + i))) i)) ((not_congr (xfI_none (xfI_b (by omega)))).mp g127)] at ih2
                  rw [← hc2] at ih2
                  exact ih2
                · have g127 := xf_ne h127
                  refine xS.s1 rfl rfl ?_
                  try dsimp only [Nat.reduceAdd]
                  refine xS.s1 rfl rfl ?_
                  try dsimp only [Nat.reduceAdd, xi_3]
                  refine xS.br (c := .eq) (off := 8) (l := 3) rfl rfl (fun h133 => ?_) (fun h133 => ?_)
                  · have g133 := xt_eq h133
                    refine xS.s1 rfl rfl ?_
                    try dsimp only [Nat.reduceAdd]
                    refine xS.s1 rfl rfl ?_
                    try dsimp only [Nat.reduceAdd]
                    refine xS.s1 rfl rfl ?_
                    try dsimp only [Nat.reduceAdd, xi_1]
                    rw [nI_1]
                    refine xS.s1 rfl rfl ?_
                    try dsimp only [Nat.reduceAdd]
                    refine xS.pick [0, 2, 1, 4, 5, 6] rfl ?_
                    have hA : (fun i => !decide (xshw h (Lw t / 4) (Lw t % 4) (fun i => xN (g 75 (40 * p + i))) i = g 75 (40 * s + i))) j = false := by simp [g79]
                    have hB : (fun i => !decide (xshw h (Lw t / 4) (Lw t % 4) (fun i => xN (g 75 (40 * s + i))) i = g 75 (40 * p + i))) j = false := by simp [g105]
                    have hc2 : xhr (xfst (fun i => !decide (xshw h (Lw t / 4) (Lw t % 4) (fun i => xN (g 75 (40 * p + i))) i = g 75 (40 * s + i))) j) (xfst (fun i => !decide (xshw h (Lw t / 4) (Lw t % 4) (fun i => xN (g 75 (40 * s + i))) i = g 75 (40 * p + i))) j) &&& (1 + 2) = xhr (xfst (fun i => !decide (xshw h (Lw t / 4) (Lw t % 4) (fun i => xN (g 75 (40 * p + i))) i = g 75 (40 * s + i))) (j + 1)) (xfst (fun i => !decide (xshw h (Lw t / 4) (Lw t % 4) (fun i => xN (g 75 (40 * s + i))) i = g 75 (40 * p + i))) (j + 1)) := xhr_ff hA hB
                    have ih2 := ih () (by omega) trivial
                    have n3 := xhr_3.mp (hc2.symm.trans g133)
                    rw [show xfst (fun i => (fun i => !decide (xshw h (Lw t / 4) (Lw t % 4) (fun i => xN (g 75 (40 * p + i))) i = g 75 (40 * s + i))) i || (fun i => !decide (xshw h (Lw t / 4) (Lw t % 4) (fun i => xN (g 75 (40 * s + i))) i = g 75 (40 * p + i))) i) (j + 1) = xfst (fun i => (fun i => !decide (xshw h (Lw t / 4) (Lw t % 4) (fun i => xN (g 75 (40 * p + i))) i = g 75 (40 * s + i))) i || (fun i => !decide (xshw h (Lw t / 4) (Lw t % 4) (fun i => xN (g 75 (40 * s + i))) i = g 75 (40 * p + i))) i) j from by rw [xfst_or.mpr n3, (xfI_none (xfI_b (by omega))).mp g127]] at ih2
                    rw [← hc2] at ih2
                    exact ih2
                  · have g133 := xf_eq h133
                    refine xS.s1 rfl rfl ?_
                    try dsimp only [Nat.reduceAdd]
                    refine xS.s1 rfl rfl ?_
                    try dsimp only [Nat.reduceAdd]
                    refine xS.s1 rfl rfl ?_
                    try dsimp only [Nat.reduceAdd]
                    refine xS.s1 rfl rfl ?_
                    try dsimp only [Nat.reduceAdd, xi_1]
                    rw [nI_1]
                    refine xS.s1 rfl rfl ?_
                    try dsimp only [Nat.reduceAdd]
                    refine xS.pick [0, 2, 1, 4, 5, 6] rfl ?_
                    have hA : (fun i => !decide (xshw h (Lw t / 4) (Lw t % 4) (fun i => xN (g 75 (40 * p + i))) i = g 75 (40 * s + i))) j = false := by simp [g79]
                    have hB : (fun i => !decide (xshw h (Lw t / 4) (Lw t % 4) (fun i => xN (g 75 (40 * s + i))) i = g 75 (40 * p + i))) j = false := by simp [g105]
                    have hc2 : xhr (xfst (fun i => !decide (xshw h (Lw t / 4) (Lw t % 4) (fun i => xN (g 75 (40 * p + i))) i = g 75 (40 * s + i))) j) (xfst (fun i => !decide (xshw h (Lw t / 4) (Lw t % 4) (fun i => xN (g 75 (40 * s + i))) i = g 75 (40 * p + i))) j) &&& (1 + 2) = xhr (xfst (fun i => !decide (xshw h (Lw t / 4) (Lw t % 4) (fun i => xN (g 75 (40 * p + i))) i = g 75 (40 * s + i))) (j + 1)) (xfst (fun i => !decide (xshw h (Lw t / 4) (Lw t % 4) (fun i => xN (g 75 (40 * s + i))) i = g 75 (40 * p + i))) (j + 1)) := xhr_ff hA hB
                    have ih2 := ih () (by omega) trivial
                    have n0 := (xfI_none (xfI_b (by omega))).mp g127
                    have n3 : ¬ xfst (fun i => (fun i => !decide (xshw h (Lw t / 4) (Lw t % 4) (fun i => xN (g 75 (40 * p + i))) i = g 75 (40 * s + i))) i || (fun i => !decide (xshw h (Lw t / 4) (Lw t % 4) (fun i => xN (g 75 (40 * s + i))) i = g 75 (40 * p + i))) i) (j + 1) = none := fun z => g133 (hc2.trans (xhr_3.mpr (xfst_or.mp z)))
                    rw [xfst_ct n0 n3] at ih2
                    rw [← hc2] at ih2
                    exact ih2
        · have g34 := xf_ge h34
          exfalso; first | exact absurd g34 (by decide) | (simp (disch := omega) only [Int32.lt_iff_toInt_lt, Int32.le_iff_toInt_le, nI_toInt, Int32.reduceToInt] at g34 <;> omega)
      · have g19 := xf_ne h19
        exfalso; first | exact absurd g19 (by decide) | (simp (disch := omega) only [Int32.lt_iff_toInt_lt, Int32.le_iff_toInt_le, nI_toInt, Int32.reduceToInt] at g19 <;> omega)

set_option maxRecDepth 10000 in
theorem c_X12_copy_bad (hx : ¬ ((0 ≤ x ∧ x < 6) ∧ 0 ≤ y ∧ y < 6)) : xT (k + 3) 164 [.ref 73, .int x, .int i, .int y, .int j, .int z] (xH b g l) (fun r M' => M' = xH b g l ∧ r = some (.int (-1))) := by
  refine xT.of rfl (Nat.le_of_ble_eq_true rfl) ?_
  change xS _ _ 0 [(0, .ref 73), (1, .int x), (2, .int i), (3, .int y), (4, .int j), (5, .int z)] [] _ _
  refine xS.s1 rfl rfl ?_
  try dsimp only [Nat.reduceAdd]
  -- 1 yX12_isRow
  refine xS.callS rfl rfl rfl ⟨Nat.le_of_ble_eq_true rfl, rfl⟩ c_X12_isRow (fun v M1 hv => ?_)
  rw [hv.1, hv.2]
  clear hv M1 v
  try dsimp only [Nat.reduceAdd, Option.toList, List.cons_append, List.nil_append, List.drop]
  refine xS.br0 (c := .eq) (off := 10) (l := 3) rfl rfl (fun h4 => ?_) (fun h4 => ?_)
  · have g4 := xt_eq h4
    refine xS.s1 rfl rfl ?_
    try dsimp only [Nat.reduceAdd, xi_m1]
    refine xS.ret rfl rfl rfl (fun _ _ => rfl) ?_
    exact ⟨rfl, rfl⟩
  · have g4 := xf_eq h4
    refine xS.s1 rfl rfl ?_
    try dsimp only [Nat.reduceAdd]
    -- 8 yX12_isRow
    refine xS.callS rfl rfl rfl ⟨Nat.le_of_ble_eq_true rfl, rfl⟩ c_X12_isRow (fun v M1 hv => ?_)
    rw [hv.1, hv.2]
    clear hv M1 v
    try dsimp only [Nat.reduceAdd, Option.toList, List.cons_append, List.nil_append, List.drop]
    refine xS.br0 (c := .ne) (off := 5) (l := 3) rfl rfl (fun h11 => ?_) (fun h11 => ?_)
    · have g11 := xt_ne h11
      exact absurd ⟨xif1 g4, xif1 g11⟩ hx
    · have g11 := xf_ne h11
      refine xS.s1 rfl rfl ?_
      try dsimp only [Nat.reduceAdd, xi_m1]
      refine xS.ret rfl rfl rfl (fun _ _ => rfl) ?_
      exact ⟨rfl, rfl⟩

set_option maxRecDepth 10000 in
theorem c_X12_copy_neg (hp1 : p < 6) (hs1 : s < 6) (hz : z < 0) : xT (k + 3) 164 [.ref 73, .int (nI p), .int i, .int (nI s), .int j, .int z] (xH b g l) (fun r M' => M' = xH b (xfR g 5) l ∧ r = some (.int (-3))) := by
  refine xT.of rfl (Nat.le_of_ble_eq_true rfl) ?_
  change xS _ _ 0 [(0, .ref 73), (1, .int (nI p)), (2, .int i), (3, .int (nI s)), (4, .int j), (5, .int z)] [] _ _
  refine xS.s1 rfl rfl ?_
  try dsimp only [Nat.reduceAdd]
  -- 1 yX12_isRow
  refine xS.callS rfl rfl rfl ⟨Nat.le_of_ble_eq_true rfl, rfl⟩ (c_X12_isRow_in hp1) (fun v M1 hv => ?_)
  rw [hv.1, hv.2]
  clear hv M1 v
  try dsimp only [Nat.reduceAdd, Option.toList, List.cons_append, List.nil_append, List.drop]
  refine xS.br0 (c := .eq) (off := 10) (l := 3) rfl rfl (fun h4 => ?_) (fun h4 => ?_)
  · have g4 := xt_eq h4
    exfalso; first | exact absurd g4 (by decide) | (simp (disch := omega) only [Int32.lt_iff_toInt_lt, Int32.le_iff_toInt_le, nI_toInt, Int32.reduceToInt] at g4 <;> omega)
  · have g4 := xf_eq h4
    refine xS.s1 rfl rfl ?_
    try dsimp only [Nat.reduceAdd]
    -- 8 yX12_isRow
    refine xS.callS rfl rfl rfl ⟨Nat.le_of_ble_eq_true rfl, rfl⟩ (c_X12_isRow_in hs1) (fun v M1 hv => ?_)
    rw [hv.1, hv.2]
    clear hv M1 v
    try dsimp only [Nat.reduceAdd, Option.toList, List.cons_append, List.nil_append, List.drop]
    refine xS.br0 (c := .ne) (off := 5) (l := 3) rfl rfl (fun h11 => ?_) (fun h11 => ?_)
    · have g11 := xt_ne h11
      refine xS.s1 rfl rfl ?_
      try dsimp only [Nat.reduceAdd]
      refine xS.br0 (c := .ge) (off := 9) (l := 3) rfl rfl (fun h18 => ?_) (fun h18 => ?_)
      · have g18 := xt_ge h18
        exact absurd hz (Int32.not_lt.mpr g18)
      · have g18 := xf_ge h18
        refine xS.s1 rfl rfl ?_
        try dsimp only [Nat.reduceAdd]
        refine xS.s1 rfl rfl ?_
        try dsimp only [Nat.reduceAdd, xi_5]
        -- 23 yX12_finds
        refine xS.cv rfl rfl rfl rfl rfl rfl ⟨by decide, rfl, rfl⟩ (c_X12_finds (t := 5) (by decide)) (fun v M1 hv => ?_)
        rw [hv.1, hv.2]
        clear hv M1 v
        try dsimp only [Nat.reduceAdd, Option.toList, List.cons_append, List.nil_append, List.drop]
        refine xS.ret rfl rfl rfl (fun _ _ => rfl) ?_
        exact ⟨rfl, rfl⟩
    · have g11 := xf_ne h11
      exfalso; first | exact absurd g11 (by decide) | (simp (disch := omega) only [Int32.lt_iff_toInt_lt, Int32.le_iff_toInt_le, nI_toInt, Int32.reduceToInt] at g11 <;> omega)

set_option maxRecDepth 10000 in
theorem c_X12_copy_no (hp1 : p < 6) (hs1 : s < 6) (hm : m < 2 ^ 31) (hq : g 74 p = -1 ∨ g 74 s = -1) : xT (k + 3) 164 [.ref 73, .int (nI p), .int i, .int (nI s), .int j, .int (nI m)] (xH b g l) (fun r M' => M' = xH b (xfR g 1) l ∧ r = some (.int (-3))) := by
  refine xT.of rfl (Nat.le_of_ble_eq_true rfl) ?_
  change xS _ _ 0 [(0, .ref 73), (1, .int (nI p)), (2, .int i), (3, .int (nI s)), (4, .int j), (5, .int (nI m))] [] _ _
  refine xS.s1 rfl rfl ?_
  try dsimp only [Nat.reduceAdd]
  -- 1 yX12_isRow
  refine xS.callS rfl rfl rfl ⟨Nat.le_of_ble_eq_true rfl, rfl⟩ (c_X12_isRow_in hp1) (fun v M1 hv => ?_)
  rw [hv.1, hv.2]
  clear hv M1 v
  try dsimp only [Nat.reduceAdd, Option.toList, List.cons_append, List.nil_append, List.drop]
  refine xS.br0 (c := .eq) (off := 10) (l := 3) rfl rfl (fun h4 => ?_) (fun h4 => ?_)
  · have g4 := xt_eq h4
    exfalso; first | exact absurd g4 (by decide) | (simp (disch := omega) only [Int32.lt_iff_toInt_lt, Int32.le_iff_toInt_le, nI_toInt, Int32.reduceToInt] at g4 <;> omega)
  · have g4 := xf_eq h4
    refine xS.s1 rfl rfl ?_
    try dsimp only [Nat.reduceAdd]
    -- 8 yX12_isRow
    refine xS.callS rfl rfl rfl ⟨Nat.le_of_ble_eq_true rfl, rfl⟩ (c_X12_isRow_in hs1) (fun v M1 hv => ?_)
    rw [hv.1, hv.2]
    clear hv M1 v
    try dsimp only [Nat.reduceAdd, Option.toList, List.cons_append, List.nil_append, List.drop]
    refine xS.br0 (c := .ne) (off := 5) (l := 3) rfl rfl (fun h11 => ?_) (fun h11 => ?_)
    · have g11 := xt_ne h11
      refine xS.s1 rfl rfl ?_
      try dsimp only [Nat.reduceAdd]
      refine xS.br0 (c := .ge) (off := 9) (l := 3) rfl rfl (fun h18 => ?_) (fun h18 => ?_)
      · have g18 := xt_ge h18
        refine xS.s1 rfl rfl ?_
        try dsimp only [Nat.reduceAdd]
        refine xS.gR rfl rfl rfl ⟨by decide, rfl⟩ rfl ?_
        try dsimp only [Nat.reduceAdd]
        refine xS.s1 rfl rfl ?_
        try dsimp only [Nat.reduceAdd]
        refine xS.ia rfl xar_74 (by omega) ?_
        try dsimp only [Nat.reduceAdd]
        refine xS.br0 (c := .lt) (off := 12) (l := 3) rfl rfl (fun h33 => ?_) (fun h33 => ?_)
        · have g33 := xt_lt h33
          refine xS.s1 rfl rfl ?_
          try dsimp only [Nat.reduceAdd]
          refine xS.s1 rfl rfl ?_
          try dsimp only [Nat.reduceAdd, xi_1]
          -- 47 yX12_finds
          refine xS.cv rfl rfl rfl rfl rfl rfl ⟨by decide, rfl, rfl⟩ (c_X12_finds (t := 1) (by decide)) (fun v M1 hv => ?_)
          rw [hv.1, hv.2]
          clear hv M1 v
          try dsimp only [Nat.reduceAdd, Option.toList, List.cons_append, List.nil_append, List.drop]
          refine xS.ret rfl rfl rfl (fun _ _ => rfl) ?_
          exact ⟨rfl, rfl⟩
        · have g33 := xf_lt h33
          refine xS.s1 rfl rfl ?_
          try dsimp only [Nat.reduceAdd]
          refine xS.gR rfl rfl rfl ⟨by decide, rfl⟩ rfl ?_
          try dsimp only [Nat.reduceAdd]
          refine xS.s1 rfl rfl ?_
          try dsimp only [Nat.reduceAdd]
          refine xS.ia rfl xar_74 (by omega) ?_
          try dsimp only [Nat.reduceAdd]
          refine xS.br0 (c := .ge) (off := 9) (l := 3) rfl rfl (fun h42 => ?_) (fun h42 => ?_)
          · have g42 := xt_ge h42
            exfalso; rcases hq with q | q; (rw [q] at g33; exact absurd g33 (by decide)); (rw [q] at g42; exact absurd g42 (by decide))
          · have g42 := xf_ge h42
            refine xS.s1 rfl rfl ?_
            try dsimp only [Nat.reduceAdd]
            refine xS.s1 rfl rfl ?_
            try dsimp only [Nat.reduceAdd, xi_1]
            -- 47 yX12_finds
            refine xS.cv rfl rfl rfl rfl rfl rfl ⟨by decide, rfl, rfl⟩ (c_X12_finds (t := 1) (by decide)) (fun v M1 hv => ?_)
            rw [hv.1, hv.2]
            clear hv M1 v
            try dsimp only [Nat.reduceAdd, Option.toList, List.cons_append, List.nil_append, List.drop]
            refine xS.ret rfl rfl rfl (fun _ _ => rfl) ?_
            exact ⟨rfl, rfl⟩
      · have g18 := xf_ge h18
        exfalso; first | exact absurd g18 (by decide) | (simp (disch := omega) only [Int32.lt_iff_toInt_lt, Int32.le_iff_toInt_le, nI_toInt, Int32.reduceToInt] at g18 <;> omega)
    · have g11 := xf_ne h11
      exfalso; first | exact absurd g11 (by decide) | (simp (disch := omega) only [Int32.lt_iff_toInt_lt, Int32.le_iff_toInt_le, nI_toInt, Int32.reduceToInt] at g11 <;> omega)

theorem xpl_r {i : Int32} {m n : Nat} (hm : m < 2 ^ 31) (hn : n < 2 ^ 30) : (0 ≤ i ∧ nI m ≤ nI n ∧ i ≤ nI n - nI m) ↔ xpl i m n := by
  constructor
  · rintro ⟨h0, h1, h2⟩
    obtain ⟨t, ht, rfl⟩ := nI_of (x := i) (Int32.not_lt.mpr h0)
    have h3 := (nI_leI hm (by omega)).mp h1
    rw [pk_sub h3] at h2
    have h4 := (nI_leI ht (by omega)).mp h2
    exact xpl_in hn (by omega)
  · intro h
    obtain ⟨t, rfl, ht⟩ := xpl_ok hn hm h
    exact ⟨nI_pos' (by omega), nI_le (by omega) (by omega), by rw [pk_sub (by omega)]; exact nI_le (by omega) (by omega)⟩
theorem c_isPart_w (hm : m < 2 ^ 31) (hn : n ≤ 40) (dp : Decidable (xpl i m n)) : xT (k + 1) 163 [.int i, .int (nI m), .int (nI n)] (xH b g l) (fun r M' => M' = xH b g l ∧ r = some (.int (if xpl i m n then 1 else 0))) :=
  c_X12_isPart.weak (fun r M' q => ⟨q.1, by
    rw [q.2]
    by_cases c : xpl i m n
    · rw [if_pos c, if_pos ((xpl_r hm (by omega)).mpr c)]
    · rw [if_neg c, if_neg (fun z => c ((xpl_r hm (by omega)).mp z))]⟩)
theorem c_isPart_in (hn : n ≤ 40) (h1 : t + m ≤ n) : xT (k + 1) 163 [.int (nI t), .int (nI m), .int (nI n)] (xH b g l) (fun r M' => M' = xH b g l ∧ r = some (.int 1)) :=
  (c_isPart_w (by omega) hn (Classical.propDecidable _)).weak (fun r M' q => ⟨q.1, by rw [q.2, if_pos (xpl_in (by omega) h1)]⟩)

set_option maxRecDepth 10000 in
theorem c_X12_copy_bey (hp1 : p < 6) (hs1 : s < 6) (hm : m < 2 ^ 31) (h1s : g 74 p = nI n) (hn : n ≤ 40) (h2s : g 74 s = nI n2) (hn2 : n2 ≤ 40) (hq : ¬ (xpl i m n ∧ xpl j m n2)) : xT (k + 3) 164 [.ref 73, .int (nI p), .int i, .int (nI s), .int j, .int (nI m)] (xH b g l) (fun r M' => M' = xH b (xfR g 2) l ∧ r = some (.int (-3))) := by
  refine xT.of rfl (Nat.le_of_ble_eq_true rfl) ?_
  change xS _ _ 0 [(0, .ref 73), (1, .int (nI p)), (2, .int i), (3, .int (nI s)), (4, .int j), (5, .int (nI m))] [] _ _
  refine xS.s1 rfl rfl ?_
  try dsimp only [Nat.reduceAdd]
  -- 1 yX12_isRow
  refine xS.callS rfl rfl rfl ⟨Nat.le_of_ble_eq_true rfl, rfl⟩ (c_X12_isRow_in hp1) (fun v M1 hv => ?_)
  rw [hv.1, hv.2]
  clear hv M1 v
  try dsimp only [Nat.reduceAdd, Option.toList, List.cons_append, List.nil_append, List.drop]
  refine xS.br0 (c := .eq) (off := 10) (l := 3) rfl rfl (fun h4 => ?_) (fun h4 => ?_)
  · have g4 := xt_eq h4
    exfalso; first | exact absurd g4 (by decide) | (simp (disch := omega) only [Int32.lt_iff_toInt_lt, Int32.le_iff_toInt_le, nI_toInt, Int32.reduceToInt] at g4 <;> omega)
  · have g4 := xf_eq h4
    refine xS.s1 rfl rfl ?_
    try dsimp only [Nat.reduceAdd]
    -- 8 yX12_isRow
    refine xS.callS rfl rfl rfl ⟨Nat.le_of_ble_eq_true rfl, rfl⟩ (c_X12_isRow_in hs1) (fun v M1 hv => ?_)
    rw [hv.1, hv.2]
    clear hv M1 v
    try dsimp only [Nat.reduceAdd, Option.toList, List.cons_append, List.nil_append, List.drop]
    refine xS.br0 (c := .ne) (off := 5) (l := 3) rfl rfl (fun h11 => ?_) (fun h11 => ?_)
    · have g11 := xt_ne h11
      refine xS.s1 rfl rfl ?_
      try dsimp only [Nat.reduceAdd]
      refine xS.br0 (c := .ge) (off := 9) (l := 3) rfl rfl (fun h18 => ?_) (fun h18 => ?_)
      · have g18 := xt_ge h18
        refine xS.s1 rfl rfl ?_
        try dsimp only [Nat.reduceAdd]
        refine xS.gR rfl rfl rfl ⟨by decide, rfl⟩ rfl ?_
        try dsimp only [Nat.reduceAdd]
        refine xS.s1 rfl rfl ?_
        try dsimp only [Nat.reduceAdd]
        refine xS.ia rfl xar_74 (by omega) ?_
        try dsimp only [Nat.reduceAdd]
        refine xS.br0 (c := .lt) (off := 12) (l := 3) rfl rfl (fun h33 => ?_) (fun h33 => ?_)
        · have g33 := xt_lt h33
          exfalso; rw [h1s] at g33; exact absurd g33 (nI_pos (by omega))
        · have g33 := xf_lt h33
          refine xS.s1 rfl rfl ?_
          try dsimp only [Nat.reduceAdd]
          refine xS.gR rfl rfl rfl ⟨by decide, rfl⟩ rfl ?_
          try dsimp only [Nat.reduceAdd]
          refine xS.s1 rfl rfl ?_
          try dsimp only [Nat.reduceAdd]
          refine xS.ia rfl xar_74 (by omega) ?_
          try dsimp only [Nat.reduceAdd]
          refine xS.br0 (c := .ge) (off := 9) (l := 3) rfl rfl (fun h42 => ?_) (fun h42 => ?_)
          · have g42 := xt_ge h42
            refine xS.s1 rfl rfl ?_
            try dsimp only [Nat.reduceAdd]
            refine xS.s1 rfl rfl ?_
            try dsimp only [Nat.reduceAdd]
            refine xS.s1 rfl rfl ?_
            try dsimp only [Nat.reduceAdd]
            refine xS.gR rfl rfl rfl ⟨by decide, rfl⟩ rfl ?_
            try dsimp only [Nat.reduceAdd]
            refine xS.s1 rfl rfl ?_
            try dsimp only [Nat.reduceAdd]
            refine xS.ia rfl xar_74 (by omega) ?_
            try dsimp only [Nat.reduceAdd]
            rw [h1s]
            -- 60 yX12_isPart
            refine xS.callS rfl rfl rfl ⟨Nat.le_of_ble_eq_true rfl, rfl⟩ (c_isPart_w hm hn (Classical.propDecidable _)) (fun v M1 hv => ?_)
            rw [hv.1, hv.2]
            clear hv M1 v
            try dsimp only [Nat.reduceAdd, Option.toList, List.cons_append, List.nil_append, List.drop]
            refine xS.br0 (c := .eq) (off := 19) (l := 3) rfl rfl (fun h63 => ?_) (fun h63 => ?_)
            · have g63 := xt_eq h63
              refine xS.s1 rfl rfl ?_
              try dsimp only [Nat.reduceAdd]
              refine xS.s1 rfl rfl ?_
              try dsimp only [Nat.reduceAdd, xi_2]
              -- 84 yX12_finds
              refine xS.cv rfl rfl rfl rfl rfl rfl ⟨by decide, rfl, rfl⟩ (c_X12_finds (t := 2) (by decide)) (fun v M1 hv => ?_)
              rw [hv.1, hv.2]
              clear hv M1 v
              try dsimp only [Nat.reduceAdd, Option.toList, List.cons_append, List.nil_append, List.drop]
              refine xS.ret rfl rfl rfl (fun _ _ => rfl) ?_
              exact ⟨rfl, rfl⟩
            · have g63 := xf_eq h63
              refine xS.s1 rfl rfl ?_
              try dsimp only [Nat.reduceAdd]
              refine xS.s1 rfl rfl ?_
              try dsimp only [Nat.reduceAdd]
              refine xS.s1 rfl rfl ?_
              try dsimp only [Nat.reduceAdd]
              refine xS.gR rfl rfl rfl ⟨by decide, rfl⟩ rfl ?_
              try dsimp only [Nat.reduceAdd]
              refine xS.s1 rfl rfl ?_
              try dsimp only [Nat.reduceAdd]
              refine xS.ia rfl xar_74 (by omega) ?_
              try dsimp only [Nat.reduceAdd]
              rw [h2s]
              -- 76 yX12_isPart
              refine xS.callS rfl rfl rfl ⟨Nat.le_of_ble_eq_true rfl, rfl⟩ (c_isPart_w hm hn2 (Classical.propDecidable _)) (fun v M1 hv => ?_)
              rw [hv.1, hv.2]
              clear hv M1 v
              try dsimp only [Nat.reduceAdd, Option.toList, List.cons_append, List.nil_append, List.drop]
              refine xS.br0 (c := .ne) (off := 9) (l := 3) rfl rfl (fun h79 => ?_) (fun h79 => ?_)
              · have g79 := xt_ne h79
                exact absurd ⟨@xif1 _ (Classical.propDecidable _) g63, @xif1 _ (Classical.propDecidable _) g79⟩ hq
              · have g79 := xf_ne h79
                refine xS.s1 rfl rfl ?_
                try dsimp only [Nat.reduceAdd]
                refine xS.s1 rfl rfl ?_
                try dsimp only [Nat.reduceAdd, xi_2]
                -- 84 yX12_finds
                refine xS.cv rfl rfl rfl rfl rfl rfl ⟨by decide, rfl, rfl⟩ (c_X12_finds (t := 2) (by decide)) (fun v M1 hv => ?_)
                rw [hv.1, hv.2]
                clear hv M1 v
                try dsimp only [Nat.reduceAdd, Option.toList, List.cons_append, List.nil_append, List.drop]
                refine xS.ret rfl rfl rfl (fun _ _ => rfl) ?_
                exact ⟨rfl, rfl⟩
          · have g42 := xf_ge h42
            exfalso; rw [h2s] at g42; exact absurd g42 (nI_pos (by omega))
      · have g18 := xf_ge h18
        exfalso; first | exact absurd g18 (by decide) | (simp (disch := omega) only [Int32.lt_iff_toInt_lt, Int32.le_iff_toInt_le, nI_toInt, Int32.reduceToInt] at g18 <;> omega)
    · have g11 := xf_ne h11
      exfalso; first | exact absurd g11 (by decide) | (simp (disch := omega) only [Int32.lt_iff_toInt_lt, Int32.le_iff_toInt_le, nI_toInt, Int32.reduceToInt] at g11 <;> omega)

set_option maxRecDepth 10000 in
theorem c_X12_copy_dn (hp1 : p < 6) (hs1 : s < 6) (h1s : g 74 p = nI n) (hn : n ≤ 40) (h2s : g 74 s = nI n2) (hn2 : n2 ≤ 40) (hq1 : i1 + m ≤ n) (hq2 : j1 + m ≤ n2) (hup : ¬ (p = s ∧ i1 < j1)) : xT (k + 3) 164 [.ref 73, .int (nI p), .int (nI i1), .int (nI s), .int (nI j1), .int (nI m)] (xH b g l) (fun r M' => M' = xH b (gseg g 75 (40 * s + j1) m (fun q => g 75 (40 * p + i1 + q))) l ∧ r = some (.int 1)) := by
  refine xT.of rfl (Nat.le_of_ble_eq_true rfl) ?_
  change xS _ _ 0 [(0, .ref 73), (1, .int (nI p)), (2, .int (nI i1)), (3, .int (nI s)), (4, .int (nI j1)), (5, .int (nI m))] [] _ _
  refine xS.s1 rfl rfl ?_
  try dsimp only [Nat.reduceAdd]
  -- 1 yX12_isRow
  refine xS.callS rfl rfl rfl ⟨Nat.le_of_ble_eq_true rfl, rfl⟩ (c_X12_isRow_in hp1) (fun v M1 hv => ?_)
  rw [hv.1, hv.2]
  clear hv M1 v
  try dsimp only [Nat.reduceAdd, Option.toList, List.cons_append, List.nil_append, List.drop]
  refine xS.br0 (c := .eq) (off := 10) (l := 3) rfl rfl (fun h4 => ?_) (fun h4 => ?_)
  · have g4 := xt_eq h4
    exfalso; first | exact absurd g4 (by decide) | (simp (disch := omega) only [Int32.lt_iff_toInt_lt, Int32.le_iff_toInt_le, nI_toInt, Int32.reduceToInt] at g4 <;> omega)
  · have g4 := xf_eq h4
    refine xS.s1 rfl rfl ?_
    try dsimp only [Nat.reduceAdd]
    -- 8 yX12_isRow
    refine xS.callS rfl rfl rfl ⟨Nat.le_of_ble_eq_true rfl, rfl⟩ (c_X12_isRow_in hs1) (fun v M1 hv => ?_)
    rw [hv.1, hv.2]
    clear hv M1 v
    try dsimp only [Nat.reduceAdd, Option.toList, List.cons_append, List.nil_append, List.drop]
    refine xS.br0 (c := .ne) (off := 5) (l := 3) rfl rfl (fun h11 => ?_) (fun h11 => ?_)
    · have g11 := xt_ne h11
      refine xS.s1 rfl rfl ?_
      try dsimp only [Nat.reduceAdd]
      refine xS.br0 (c := .ge) (off := 9) (l := 3) rfl rfl (fun h18 => ?_) (fun h18 => ?_)
      · have g18 := xt_ge h18
        refine xS.s1 rfl rfl ?_
        try dsimp only [Nat.reduceAdd]
        refine xS.gR rfl rfl rfl ⟨by decide, rfl⟩ rfl ?_
        try dsimp only [Nat.reduceAdd]
        refine xS.s1 rfl rfl ?_
        try dsimp only [Nat.reduceAdd]
        refine xS.ia rfl xar_74 (by omega) ?_
        try dsimp only [Nat.reduceAdd]
        refine xS.br0 (c := .lt) (off := 12) (l := 3) rfl rfl (fun h33 => ?_) (fun h33 => ?_)
        · have g33 := xt_lt h33
          exfalso; rw [h1s] at g33; exact absurd g33 (nI_pos (by omega))
        · have g33 := xf_lt h33
          refine xS.s1 rfl rfl ?_
          try dsimp only [Nat.reduceAdd]
          refine xS.gR rfl rfl rfl ⟨by decide, rfl⟩ rfl ?_
          try dsimp only [Nat.reduceAdd]
          refine xS.s1 rfl rfl ?_
          try dsimp only [Nat.reduceAdd]
          refine xS.ia rfl xar_74 (by omega) ?_
          try dsimp only [Nat.reduceAdd]
          refine xS.br0 (c := .ge) (off := 9) (l := 3) rfl rfl (fun h42 => ?_) (fun h42 => ?_)
          · have g42 := xt_ge h42
            refine xS.s1 rfl rfl ?_
            try dsimp only [Nat.reduceAdd]
            refine xS.s1 rfl rfl ?_
            try dsimp only [Nat.reduceAdd]
            refine xS.s1 rfl rfl ?_
            try dsimp only [Nat.reduceAdd]
            refine xS.gR rfl rfl rfl ⟨by decide, rfl⟩ rfl ?_
            try dsimp only [Nat.reduceAdd]
            refine xS.s1 rfl rfl ?_
            try dsimp only [Nat.reduceAdd]
            refine xS.ia rfl xar_74 (by omega) ?_
            try dsimp only [Nat.reduceAdd]
            rw [h1s]
            -- 60 yX12_isPart
            refine xS.callS rfl rfl rfl ⟨Nat.le_of_ble_eq_true rfl, rfl⟩ (c_isPart_in hn hq1) (fun v M1 hv => ?_)
            rw [hv.1, hv.2]
            clear hv M1 v
            try dsimp only [Nat.reduceAdd, Option.toList, List.cons_append, List.nil_append, List.drop]
            refine xS.br0 (c := .eq) (off := 19) (l := 3) rfl rfl (fun h63 => ?_) (fun h63 => ?_)
            · have g63 := xt_eq h63
              exfalso; first | exact absurd g63 (by decide) | (simp (disch := omega) only [Int32.lt_iff_toInt_lt, Int32.le_iff_toInt_le, nI_toInt, Int32.reduceToInt] at g63 <;> omega)
            · have g63 := xf_eq h63
              refine xS.s1 rfl rfl ?_
              try dsimp only [Nat.reduceAdd]
              refine xS.s1 rfl rfl ?_
              try dsimp only [Nat.reduceAdd]
              refine xS.s1 rfl rfl ?_
              try dsimp only [Nat.reduceAdd]
              refine xS.gR rfl rfl rfl ⟨by decide, rfl⟩ rfl ?_
              try dsimp only [Nat.reduceAdd]
              refine xS.s1 rfl rfl ?_
              try dsimp only [Nat.reduceAdd]
              refine xS.ia rfl xar_74 (by omega) ?_
              try dsimp only [Nat.reduceAdd]
              rw [h2s]
              -- 76 yX12_isPart
              refine xS.callS rfl rfl rfl ⟨Nat.le_of_ble_eq_true rfl, rfl⟩ (c_isPart_in hn2 hq2) (fun v M1 hv => ?_)
              rw [hv.1, hv.2]
              clear hv M1 v
              try dsimp only [Nat.reduceAdd, Option.toList, List.cons_append, List.nil_append, List.drop]
              refine xS.br0 (c := .ne) (off := 9) (l := 3) rfl rfl (fun h79 => ?_) (fun h79 => ?_)
              · have g79 := xt_ne h79
                refine xS.s1 rfl rfl ?_
                try dsimp only [Nat.reduceAdd]
                refine xS.s1 rfl rfl ?_
                try dsimp only [Nat.reduceAdd]
                refine xS.br (c := .ne) (off := 13) (l := 3) rfl rfl (fun h90 => ?_) (fun h90 => ?_)
                · have g90 := xt_ne h90
                  refine xS.s1 rfl rfl ?_
                  try dsimp only [Nat.reduceAdd, xi_0]
                  refine xS.s1 rfl rfl ?_
                  try dsimp only [Nat.reduceAdd]
                  refine xS.s1 rfl rfl ?_
                  try dsimp only [Nat.reduceAdd, xi_0]
                  refine xS.s1 rfl rfl ?_
                  try dsimp only [Nat.reduceAdd]
                  refine xS.pick [0, 2, 3, 4, 5, 6, 7, 1] rfl ?_
                  refine xS.loop (σ := Unit) (m) (fun j S => [(7, .int (nI j)), (0, .ref 73), (1, .int (nI p)), (2, .int (nI i1)), (3, .int (nI s)), (4, .int (nI j1)), (5, .int (nI m)), (6, .int 0)]) (fun j _ => xH b (gseg g 75 (40 * s + j1) j (fun q => g 75 (40 * p + i1 + q))) l) (fun _ _ => True) (()) (rfl) (by rw [gseg_0]) (trivial) ?_
                  intro j S hj hI ih
                  try dsimp only
                  refine xS.s1 rfl rfl ?_
                  try dsimp only [Nat.reduceAdd]
                  refine xS.s1 rfl rfl ?_
                  try dsimp only [Nat.reduceAdd]
                  refine xS.br (c := .ge) (off := 57) (l := 3) rfl rfl (fun h113 => ?_) (fun h113 => ?_)
                  · have g113 := xt_ge h113
                    have e := xnle g113 (by omega) (by omega)
                    have e2 : m = j := by omega
                    subst e2
                    refine xS.s1 rfl rfl ?_
                    try dsimp only [Nat.reduceAdd, xi_1]
                    refine xS.ret rfl rfl rfl (fun _ _ => rfl) ?_
                    exact ⟨rfl, rfl⟩
                  · have g113 := xf_ge h113
                    have hlt := xnlt g113 (by omega) (by omega)
                    refine xS.s1 rfl rfl ?_
                    try dsimp only [Nat.reduceAdd]
                    refine xS.br0 (c := .eq) (off := 13) (l := 3) rfl rfl (fun h118 => ?_) (fun h118 => ?_)
                    · have g118 := xt_eq h118
                      refine xS.s1 rfl rfl ?_
                      try dsimp only [Nat.reduceAdd]
                      refine xS.s1 rfl rfl ?_
                      try dsimp only [Nat.reduceAdd]
                      refine xS.s1 rfl rfl ?_
                      try dsimp only [Nat.reduceAdd]
                      refine xS.gR rfl rfl rfl ⟨by decide, rfl⟩ rfl ?_
                      try dsimp only [Nat.reduceAdd]
                      refine xS.s1 rfl rfl ?_
                      try dsimp only [Nat.reduceAdd, xj_40]
                      refine xS.s1 rfl rfl ?_
                      try dsimp only [Nat.reduceAdd]
                      refine xS.s1 rfl rfl ?_
                      try dsimp only [Nat.reduceAdd]
                      refine xS.s1 rfl rfl ?_
                      try dsimp only [Nat.reduceAdd]
                      refine xS.s1 rfl rfl ?_
                      try dsimp only [Nat.reduceAdd]
                      refine xS.s1 rfl rfl ?_
                      try dsimp only [Nat.reduceAdd]
                      refine xS.s1 rfl rfl ?_
                      try dsimp only [Nat.reduceAdd]
                      refine xS.s1 rfl rfl ?_
                      try dsimp only [Nat.reduceAdd]
                      refine xS.gR rfl rfl rfl ⟨by decide, rfl⟩ rfl ?_
                      try dsimp only [Nat.reduceAdd]
                      refine xS.s1 rfl rfl ?_
                      try dsimp only [Nat.reduceAdd, xj_40]
                      refine xS.s1 rfl rfl ?_
                      try dsimp only [Nat.reduceAdd]
                      refine xS.s1 rfl rfl ?_
                      try dsimp only [Nat.reduceAdd]
                      refine xS.s1 rfl rfl ?_
                      try dsimp only [Nat.reduceAdd]
                      refine xS.s1 rfl rfl ?_
                      try dsimp only [Nat.reduceAdd]
                      refine xS.s1 rfl rfl ?_
                      try dsimp only [Nat.reduceAdd]
                      refine xS.s1 rfl rfl ?_
                      try dsimp only [Nat.reduceAdd]
                      rw [show ((((40 * nI p) + nI i1) + nI j) : Int32) = nI (((40 * p) + i1) + j) from by simp only [← nI_add, ← pk_mul]; rfl]
                      refine xS.ia rfl xar_75 (by omega) ?_
                      try dsimp only [Nat.reduceAdd]
                      rw [gseg_out (by have : ¬ (p = s ∧ i1 < j1) := hup; omega)]
                      rw [show ((((40 * nI s) + nI j1) + nI j) : Int32) = nI (((40 * s) + j1) + j) from by simp only [← nI_add, ← pk_mul]; rfl]
                      refine xS.ias rfl xar_75 (by omega) ?_
                      try dsimp only [Nat.reduceAdd]
                      rw [gseg_s (S := (fun q => g 75 (40 * p + i1 + q)))]
                      refine xS.s1 rfl rfl ?_
                      try dsimp only [Nat.reduceAdd, xi_1]
                      rw [nI_1]
                      refine xS.s1 rfl rfl ?_
                      try dsimp only [Nat.reduceAdd]
                      refine xS.pick [0, 2, 3, 4, 5, 6, 7, 8] rfl ?_
                      exact ih () (by omega) trivial
                    · have g118 := xf_eq h118
                      exfalso; first | exact absurd g118 (by decide) | (simp (disch := omega) only [Int32.lt_iff_toInt_lt, Int32.le_iff_toInt_le, nI_toInt, Int32.reduceToInt] at g118 <;> omega)
                · have g90 := xf_ne h90
                  refine xS.s1 rfl rfl ?_
                  try dsimp only [Nat.reduceAdd]
                  refine xS.s1 rfl rfl ?_
                  try dsimp only [Nat.reduceAdd]
                  refine xS.br (c := .le) (off := 7) (l := 3) rfl rfl (fun h96 => ?_) (fun h96 => ?_)
                  · have g96 := xt_le h96
                    refine xS.s1 rfl rfl ?_
                    try dsimp only [Nat.reduceAdd, xi_0]
                    refine xS.s1 rfl rfl ?_
                    try dsimp only [Nat.reduceAdd]
                    refine xS.s1 rfl rfl ?_
                    try dsimp only [Nat.reduceAdd, xi_0]
                    refine xS.s1 rfl rfl ?_
                    try dsimp only [Nat.reduceAdd]
                    refine xS.pick [0, 2, 3, 4, 5, 6, 7, 1] rfl ?_
                    refine xS.loop (σ := Unit) (m) (fun j S => [(7, .int (nI j)), (0, .ref 73), (1, .int (nI p)), (2, .int (nI i1)), (3, .int (nI s)), (4, .int (nI j1)), (5, .int (nI m)), (6, .int 0)]) (fun j _ => xH b (gseg g 75 (40 * s + j1) j (fun q => g 75 (40 * p + i1 + q))) l) (fun _ _ => True) (()) (rfl) (by rw [gseg_0]) (trivial) ?_
                    intro j S hj hI ih
                    try dsimp only
                    refine xS.s1 rfl rfl ?_
                    try dsimp only [Nat.reduceAdd]
                    refine xS.s1 rfl rfl ?_
                    try dsimp only [Nat.reduceAdd]
                    refine xS.br (c := .ge) (off := 57) (l := 3) rfl rfl (fun h113 => ?_) (fun h113 => ?_)
                    · have g113 := xt_ge h113
                      have e := xnle g113 (by omega) (by omega)
                      have e2 : m = j := by omega
                      subst e2
                      refine xS.s1 rfl rfl ?_
                      try dsimp only [Nat.reduceAdd, xi_1]
                      refine xS.ret rfl rfl rfl (fun _ _ => rfl) ?_
                      exact ⟨rfl, rfl⟩
                    · have g113 := xf_ge h113
                      have hlt := xnlt g113 (by omega) (by omega)
                      refine xS.s1 rfl rfl ?_
                      try dsimp only [Nat.reduceAdd]
                      refine xS.br0 (c := .eq) (off := 13) (l := 3) rfl rfl (fun h118 => ?_) (fun h118 => ?_)
                      · have g118 := xt_eq h118
                        refine xS.s1 rfl rfl ?_
                        try dsimp only [Nat.reduceAdd]
                        refine xS.s1 rfl rfl ?_
                        try dsimp only [Nat.reduceAdd]
                        refine xS.s1 rfl rfl ?_
                        try dsimp only [Nat.reduceAdd]
                        refine xS.gR rfl rfl rfl ⟨by decide, rfl⟩ rfl ?_
                        try dsimp only [Nat.reduceAdd]
                        refine xS.s1 rfl rfl ?_
                        try dsimp only [Nat.reduceAdd, xj_40]
                        refine xS.s1 rfl rfl ?_
                        try dsimp only [Nat.reduceAdd]
                        refine xS.s1 rfl rfl ?_
                        try dsimp only [Nat.reduceAdd]
                        refine xS.s1 rfl rfl ?_
                        try dsimp only [Nat.reduceAdd]
                        refine xS.s1 rfl rfl ?_
                        try dsimp only [Nat.reduceAdd]
                        refine xS.s1 rfl rfl ?_
                        try dsimp only [Nat.reduceAdd]
                        refine xS.s1 rfl rfl ?_
                        try dsimp only [Nat.reduceAdd]
                        refine xS.s1 rfl rfl ?_
                        try dsimp only [Nat.reduceAdd]
                        refine xS.gR rfl rfl rfl ⟨by decide, rfl⟩ rfl ?_
                        try dsimp only [Nat.reduceAdd]
                        refine xS.s1 rfl rfl ?_
                        try dsimp only [Nat.reduceAdd, xj_40]
                        refine xS.s1 rfl rfl ?_
                        try dsimp only [Nat.reduceAdd]
                        refine xS.s1 rfl rfl ?_
                        try dsimp only [Nat.reduceAdd]
                        refine xS.s1 rfl rfl ?_
                        try dsimp only [Nat.reduceAdd]
                        refine xS.s1 rfl rfl ?_
                        try dsimp only [Nat.reduceAdd]
                        refine xS.s1 rfl rfl ?_
                        try dsimp only [Nat.reduceAdd]
                        refine xS.s1 rfl rfl ?_
                        try dsimp only [Nat.reduceAdd]
                        rw [show ((((40 * nI p) + nI i1) + nI j) : Int32) = nI (((40 * p) + i1) + j) from by simp only [← nI_add, ← pk_mul]; rfl]
                        refine xS.ia rfl xar_75 (by omega) ?_
                        try dsimp only [Nat.reduceAdd]
                        rw [gseg_out (by have : ¬ (p = s ∧ i1 < j1) := hup; omega)]
                        rw [show ((((40 * nI s) + nI j1) + nI j) : Int32) = nI (((40 * s) + j1) + j) from by simp only [← nI_add, ← pk_mul]; rfl]
                        refine xS.ias rfl xar_75 (by omega) ?_
                        try dsimp only [Nat.reduceAdd]
                        rw [gseg_s (S := (fun q => g 75 (40 * p + i1 + q)))]
                        refine xS.s1 rfl rfl ?_
                        try dsimp only [Nat.reduceAdd, xi_1]
                        rw [nI_1]
                        refine xS.s1 rfl rfl ?_
                        try dsimp only [Nat.reduceAdd]
                        refine xS.pick [0, 2, 3, 4, 5, 6, 7, 8] rfl ?_
                        exact ih () (by omega) trivial
                      · have g118 := xf_eq h118
                        exfalso; first | exact absurd g118 (by decide) | (simp (disch := omega) only [Int32.lt_iff_toInt_lt, Int32.le_iff_toInt_le, nI_toInt, Int32.reduceToInt] at g118 <;> omega)
                  · have g96 := xf_le h96
                    exfalso; exact hup ⟨(nI_eq (by omega) (by omega)).mp g90, xnlt g96 (by omega) (by omega)⟩
              · have g79 := xf_ne h79
                exfalso; first | exact absurd g79 (by decide) | (simp (disch := omega) only [Int32.lt_iff_toInt_lt, Int32.le_iff_toInt_le, nI_toInt, Int32.reduceToInt] at g79 <;> omega)
          · have g42 := xf_ge h42
            exfalso; rw [h2s] at g42; exact absurd g42 (nI_pos (by omega))
      · have g18 := xf_ge h18
        exfalso; first | exact absurd g18 (by decide) | (simp (disch := omega) only [Int32.lt_iff_toInt_lt, Int32.le_iff_toInt_le, nI_toInt, Int32.reduceToInt] at g18 <;> omega)
    · have g11 := xf_ne h11
      exfalso; first | exact absurd g11 (by decide) | (simp (disch := omega) only [Int32.lt_iff_toInt_lt, Int32.le_iff_toInt_le, nI_toInt, Int32.reduceToInt] at g11 <;> omega)

def gcu (g : Nat → Nat → Int32) (o o' m j : Nat) : Nat → Nat → Int32 := fun a' i' => if a' = 75 ∧ o + (m - j) ≤ i' ∧ i' < o + m then g 75 (o' + (i' - o)) else g a' i'
theorem gcu_0 (g : Nat → Nat → Int32) (o o' m : Nat) : gcu g o o' m 0 = g := by
  funext a' i'
  exact if_neg (fun z => by omega)
theorem gcu_s {g : Nat → Nat → Int32} {o o' m j : Nat} (h : j < m) : up (gcu g o o' m j) 75 (o + (m - 1 - j)) (g 75 (o' + (m - 1 - j))) = gcu g o o' m (j + 1) := by
  funext a' i'
  unfold up gcu
  by_cases e : a' = 75
  · subst e
    by_cases e2 : i' = o + (m - 1 - j)
    · subst e2
      rw [if_pos ⟨rfl, rfl⟩, if_pos ⟨rfl, by omega, by omega⟩]
      congr 1
      omega
    · rw [if_neg (fun z => e2 z.2)]
      by_cases e3 : o + (m - j) ≤ i' ∧ i' < o + m
      · rw [if_pos ⟨rfl, e3⟩, if_pos ⟨rfl, by omega, e3.2⟩]
      · rw [if_neg (fun z => e3 z.2), if_neg (fun z => e3 ⟨by omega, z.2.2⟩)]
  · rw [if_neg (fun z => e z.1), if_neg (fun z => e z.1), if_neg (fun z => e z.1)]
theorem gcu_out {g : Nat → Nat → Int32} {o o' m j i : Nat} (h : i < o + (m - j)) : gcu g o o' m j 75 i = g 75 i := if_neg (fun z => by omega)
theorem gcu_m {g : Nat → Nat → Int32} {o o' m : Nat} : gcu g o o' m m = gseg g 75 o m (fun q => g 75 (o' + q)) := by
  funext a' i'
  unfold gcu gseg
  by_cases e : a' = 75 ∧ o ≤ i' ∧ i' < o + m
  · rw [if_pos ⟨e.1, by omega, e.2.2⟩, if_pos e]
  · rw [if_neg (fun z => e ⟨z.1, by omega, z.2.2⟩), if_neg e]

set_option maxRecDepth 10000 in
theorem c_X12_copy_up (hp1 : p < 6) (hs1 : s < 6) (h1s : g 74 p = nI n) (hn : n ≤ 40) (h2s : g 74 s = nI n2) (hn2 : n2 ≤ 40) (hq1 : i1 + m ≤ n) (hq2 : j1 + m ≤ n2) (hps : p = s) (hij : i1 < j1) : xT (k + 3) 164 [.ref 73, .int (nI p), .int (nI i1), .int (nI s), .int (nI j1), .int (nI m)] (xH b g l) (fun r M' => M' = xH b (gseg g 75 (40 * s + j1) m (fun q => g 75 (40 * p + i1 + q))) l ∧ r = some (.int 1)) := by
  refine xT.of rfl (Nat.le_of_ble_eq_true rfl) ?_
  change xS _ _ 0 [(0, .ref 73), (1, .int (nI p)), (2, .int (nI i1)), (3, .int (nI s)), (4, .int (nI j1)), (5, .int (nI m))] [] _ _
  refine xS.s1 rfl rfl ?_
  try dsimp only [Nat.reduceAdd]
  -- 1 yX12_isRow
  refine xS.callS rfl rfl rfl ⟨Nat.le_of_ble_eq_true rfl, rfl⟩ (c_X12_isRow_in hp1) (fun v M1 hv => ?_)
  rw [hv.1, hv.2]
  clear hv M1 v
  try dsimp only [Nat.reduceAdd, Option.toList, List.cons_append, List.nil_append, List.drop]
  refine xS.br0 (c := .eq) (off := 10) (l := 3) rfl rfl (fun h4 => ?_) (fun h4 => ?_)
  · have g4 := xt_eq h4
    exfalso; first | exact absurd g4 (by decide) | (simp (disch := omega) only [Int32.lt_iff_toInt_lt, Int32.le_iff_toInt_le, nI_toInt, Int32.reduceToInt] at g4 <;> omega)
  · have g4 := xf_eq h4
    refine xS.s1 rfl rfl ?_
    try dsimp only [Nat.reduceAdd]
    -- 8 yX12_isRow
    refine xS.callS rfl rfl rfl ⟨Nat.le_of_ble_eq_true rfl, rfl⟩ (c_X12_isRow_in hs1) (fun v M1 hv => ?_)
    rw [hv.1, hv.2]
    clear hv M1 v
    try dsimp only [Nat.reduceAdd, Option.toList, List.cons_append, List.nil_append, List.drop]
    refine xS.br0 (c := .ne) (off := 5) (l := 3) rfl rfl (fun h11 => ?_) (fun h11 => ?_)
    · have g11 := xt_ne h11
      refine xS.s1 rfl rfl ?_
      try dsimp only [Nat.reduceAdd]
      refine xS.br0 (c := .ge) (off := 9) (l := 3) rfl rfl (fun h18 => ?_) (fun h18 => ?_)
      · have g18 := xt_ge h18
        refine xS.s1 rfl rfl ?_
        try dsimp only [Nat.reduceAdd]
        refine xS.gR rfl rfl rfl ⟨by decide, rfl⟩ rfl ?_
        try dsimp only [Nat.reduceAdd]
        refine xS.s1 rfl rfl ?_
        try dsimp only [Nat.reduceAdd]
        refine xS.ia rfl xar_74 (by omega) ?_
        try dsimp only [Nat.reduceAdd]
        refine xS.br0 (c := .lt) (off := 12) (l := 3) rfl rfl (fun h33 => ?_) (fun h33 => ?_)
        · have g33 := xt_lt h33
          exfalso; rw [h1s] at g33; exact absurd g33 (nI_pos (by omega))
        · have g33 := xf_lt h33
          refine xS.s1 rfl rfl ?_
          try dsimp only [Nat.reduceAdd]
          refine xS.gR rfl rfl rfl ⟨by decide, rfl⟩ rfl ?_
          try dsimp only [Nat.reduceAdd]
          refine xS.s1 rfl rfl ?_
          try dsimp only [Nat.reduceAdd]
          refine xS.ia rfl xar_74 (by omega) ?_
          try dsimp only [Nat.reduceAdd]
          refine xS.br0 (c := .ge) (off := 9) (l := 3) rfl rfl (fun h42 => ?_) (fun h42 => ?_)
          · have g42 := xt_ge h42
            refine xS.s1 rfl rfl ?_
            try dsimp only [Nat.reduceAdd]
            refine xS.s1 rfl rfl ?_
            try dsimp only [Nat.reduceAdd]
            refine xS.s1 rfl rfl ?_
            try dsimp only [Nat.reduceAdd]
            refine xS.gR rfl rfl rfl ⟨by decide, rfl⟩ rfl ?_
            try dsimp only [Nat.reduceAdd]
            refine xS.s1 rfl rfl ?_
            try dsimp only [Nat.reduceAdd]
            refine xS.ia rfl xar_74 (by omega) ?_
            try dsimp only [Nat.reduceAdd]
            rw [h1s]
            -- 60 yX12_isPart
            refine xS.callS rfl rfl rfl ⟨Nat.le_of_ble_eq_true rfl, rfl⟩ (c_isPart_in hn hq1) (fun v M1 hv => ?_)
            rw [hv.1, hv.2]
            clear hv M1 v
            try dsimp only [Nat.reduceAdd, Option.toList, List.cons_append, List.nil_append, List.drop]
            refine xS.br0 (c := .eq) (off := 19) (l := 3) rfl rfl (fun h63 => ?_) (fun h63 => ?_)
            · have g63 := xt_eq h63
              exfalso; first | exact absurd g63 (by decide) | (simp (disch := omega) only [Int32.lt_iff_toInt_lt, Int32.le_iff_toInt_le, nI_toInt, Int32.reduceToInt] at g63 <;> omega)
            · have g63 := xf_eq h63
              refine xS.s1 rfl rfl ?_
              try dsimp only [Nat.reduceAdd]
              refine xS.s1 rfl rfl ?_
              try dsimp only [Nat.reduceAdd]
              refine xS.s1 rfl rfl ?_
              try dsimp only [Nat.reduceAdd]
              refine xS.gR rfl rfl rfl ⟨by decide, rfl⟩ rfl ?_
              try dsimp only [Nat.reduceAdd]
              refine xS.s1 rfl rfl ?_
              try dsimp only [Nat.reduceAdd]
              refine xS.ia rfl xar_74 (by omega) ?_
              try dsimp only [Nat.reduceAdd]
              rw [h2s]
              -- 76 yX12_isPart
              refine xS.callS rfl rfl rfl ⟨Nat.le_of_ble_eq_true rfl, rfl⟩ (c_isPart_in hn2 hq2) (fun v M1 hv => ?_)
              rw [hv.1, hv.2]
              clear hv M1 v
              try dsimp only [Nat.reduceAdd, Option.toList, List.cons_append, List.nil_append, List.drop]
              refine xS.br0 (c := .ne) (off := 9) (l := 3) rfl rfl (fun h79 => ?_) (fun h79 => ?_)
              · have g79 := xt_ne h79
                refine xS.s1 rfl rfl ?_
                try dsimp only [Nat.reduceAdd]
                refine xS.s1 rfl rfl ?_
                try dsimp only [Nat.reduceAdd]
                refine xS.br (c := .ne) (off := 13) (l := 3) rfl rfl (fun h90 => ?_) (fun h90 => ?_)
                · have g90 := xt_ne h90
                  exact absurd (congrArg nI hps) g90
                · have g90 := xf_ne h90
                  refine xS.s1 rfl rfl ?_
                  try dsimp only [Nat.reduceAdd]
                  refine xS.s1 rfl rfl ?_
                  try dsimp only [Nat.reduceAdd]
                  refine xS.br (c := .le) (off := 7) (l := 3) rfl rfl (fun h96 => ?_) (fun h96 => ?_)
                  · have g96 := xt_le h96
                    exfalso; have := xnle g96 (by omega) (by omega); omega
                  · have g96 := xf_le h96
                    refine xS.s1 rfl rfl ?_
                    try dsimp only [Nat.reduceAdd, xi_1]
                    refine xS.s1 rfl rfl ?_
                    try dsimp only [Nat.reduceAdd]
                    refine xS.s1 rfl rfl ?_
                    try dsimp only [Nat.reduceAdd]
                    refine xS.s1 rfl rfl ?_
                    try dsimp only [Nat.reduceAdd, xi_0]
                    refine xS.s1 rfl rfl ?_
                    try dsimp only [Nat.reduceAdd]
                    refine xS.pick [0, 2, 3, 4, 5, 6, 7, 1] rfl ?_
                    refine xS.loop (σ := Unit) (m) (fun j S => [(7, .int (nI j)), (0, .ref 73), (1, .int (nI p)), (2, .int (nI i1)), (3, .int (nI s)), (4, .int (nI j1)), (5, .int (nI m)), (6, .int 1)]) (fun j _ => xH b (gcu g (40 * s + j1) (40 * p + i1) m j) l) (fun _ _ => True) (()) (rfl) (by rw [gcu_0]) (trivial) ?_
                    intro j S hj hI ih
                    try dsimp only
                    refine xS.s1 rfl rfl ?_
                    try dsimp only [Nat.reduceAdd]
                    refine xS.s1 rfl rfl ?_
                    try dsimp only [Nat.reduceAdd]
                    refine xS.br (c := .ge) (off := 57) (l := 3) rfl rfl (fun h113 => ?_) (fun h113 => ?_)
                    · have g113 := xt_ge h113
                      have e := xnle g113 (by omega) (by omega)
                      have e2 : m = j := by omega
                      subst e2
                      refine xS.s1 rfl rfl ?_
                      try dsimp only [Nat.reduceAdd, xi_1]
                      refine xS.ret rfl rfl rfl (fun _ _ => rfl) ?_
                      rw [gcu_m]
                      exact ⟨rfl, rfl⟩
                    · have g113 := xf_ge h113
                      have hlt := xnlt g113 (by omega) (by omega)
                      refine xS.s1 rfl rfl ?_
                      try dsimp only [Nat.reduceAdd]
                      refine xS.br0 (c := .eq) (off := 13) (l := 3) rfl rfl (fun h118 => ?_) (fun h118 => ?_)
                      · have g118 := xt_eq h118
                        exfalso; first | exact absurd g118 (by decide) | (simp (disch := omega) only [Int32.lt_iff_toInt_lt, Int32.le_iff_toInt_le, nI_toInt, Int32.reduceToInt] at g118 <;> omega)
                      · have g118 := xf_eq h118
                        refine xS.s1 rfl rfl ?_
                        try dsimp only [Nat.reduceAdd]
                        refine xS.s1 rfl rfl ?_
                        try dsimp only [Nat.reduceAdd, xi_1]
                        refine xS.s1 rfl rfl ?_
                        try dsimp only [Nat.reduceAdd]
                        refine xS.s1 rfl rfl ?_
                        try dsimp only [Nat.reduceAdd]
                        refine xS.s1 rfl rfl ?_
                        try dsimp only [Nat.reduceAdd]
                        rw [show nI m - 1 - nI j = nI (m - 1 - j) from by rw [show (1 : Int32) = nI 1 from rfl, pk_sub (by omega), pk_sub (by omega)]]
                        refine xS.s1 rfl rfl ?_
                        try dsimp only [Nat.reduceAdd]
                        refine xS.s1 rfl rfl ?_
                        try dsimp only [Nat.reduceAdd]
                        refine xS.s1 rfl rfl ?_
                        try dsimp only [Nat.reduceAdd]
                        refine xS.gR rfl rfl rfl ⟨by decide, rfl⟩ rfl ?_
                        try dsimp only [Nat.reduceAdd]
                        refine xS.s1 rfl rfl ?_
                        try dsimp only [Nat.reduceAdd, xj_40]
                        refine xS.s1 rfl rfl ?_
                        try dsimp only [Nat.reduceAdd]
                        refine xS.s1 rfl rfl ?_
                        try dsimp only [Nat.reduceAdd]
                        refine xS.s1 rfl rfl ?_
                        try dsimp only [Nat.reduceAdd]
                        refine xS.s1 rfl rfl ?_
                        try dsimp only [Nat.reduceAdd]
                        refine xS.s1 rfl rfl ?_
                        try dsimp only [Nat.reduceAdd]
                        refine xS.s1 rfl rfl ?_
                        try dsimp only [Nat.reduceAdd]
                        refine xS.s1 rfl rfl ?_
                        try dsimp only [Nat.reduceAdd]
                        refine xS.gR rfl rfl rfl ⟨by decide, rfl⟩ rfl ?_
                        try dsimp only [Nat.reduceAdd]
                        refine xS.s1 rfl rfl ?_
                        try dsimp only [Nat.reduceAdd, xj_40]
                        refine xS.s1 rfl rfl ?_
                        try dsimp only [Nat.reduceAdd]
                        refine xS.s1 rfl rfl ?_
                        try dsimp only [Nat.reduceAdd]
                        refine xS.s1 rfl rfl ?_
                        try dsimp only [Nat.reduceAdd]
                        refine xS.s1 rfl rfl ?_
                        try dsimp only [Nat.reduceAdd]
                        refine xS.s1 rfl rfl ?_
                        try dsimp only [Nat.reduceAdd]
                        refine xS.s1 rfl rfl ?_
                        try dsimp only [Nat.reduceAdd]
                        rw [show ((((40 * nI p) + nI i1) + nI ((m - 1 - j))) : Int32) = nI (((40 * p) + i1) + ((m - 1 - j))) from by simp only [← nI_add, ← pk_mul]; rfl]
                        refine xS.ia rfl xar_75 (by omega) ?_
                        try dsimp only [Nat.reduceAdd]
                        rw [gcu_out (by omega)]
                        rw [show ((((40 * nI s) + nI j1) + nI ((m - 1 - j))) : Int32) = nI (((40 * s) + j1) + ((m - 1 - j))) from by simp only [← nI_add, ← pk_mul]; rfl]
                        refine xS.ias rfl xar_75 (by omega) ?_
                        try dsimp only [Nat.reduceAdd]
                        rw [gcu_s hlt]
                        refine xS.s1 rfl rfl ?_
                        try dsimp only [Nat.reduceAdd, xi_1]
                        rw [nI_1]
                        refine xS.s1 rfl rfl ?_
                        try dsimp only [Nat.reduceAdd]
                        refine xS.pick [0, 2, 3, 4, 5, 6, 7, 8] rfl ?_
                        exact ih () (by omega) trivial
              · have g79 := xf_ne h79
                exfalso; first | exact absurd g79 (by decide) | (simp (disch := omega) only [Int32.lt_iff_toInt_lt, Int32.le_iff_toInt_le, nI_toInt, Int32.reduceToInt] at g79 <;> omega)
          · have g42 := xf_ge h42
            exfalso; rw [h2s] at g42; exact absurd g42 (nI_pos (by omega))
      · have g18 := xf_ge h18
        exfalso; first | exact absurd g18 (by decide) | (simp (disch := omega) only [Int32.lt_iff_toInt_lt, Int32.le_iff_toInt_le, nI_toInt, Int32.reduceToInt] at g18 <;> omega)
    · have g11 := xf_ne h11
      exfalso; first | exact absurd g11 (by decide) | (simp (disch := omega) only [Int32.lt_iff_toInt_lt, Int32.le_iff_toInt_le, nI_toInt, Int32.reduceToInt] at g11 <;> omega)

theorem c_X12_copy_ok (hp1 : p < 6) (hs1 : s < 6) (h1s : g 74 p = nI n) (hn : n ≤ 40) (h2s : g 74 s = nI n2) (hn2 : n2 ≤ 40) (hq1 : i1 + m ≤ n) (hq2 : j1 + m ≤ n2) : xT (k + 3) 164 [.ref 73, .int (nI p), .int (nI i1), .int (nI s), .int (nI j1), .int (nI m)] (xH b g l) (fun r M' => M' = xH b (gseg g 75 (40 * s + j1) m (fun q => g 75 (40 * p + i1 + q))) l ∧ r = some (.int 1)) := by
  by_cases c : p = s ∧ i1 < j1
  · exact c_X12_copy_up hp1 hs1 h1s hn h2s hn2 hq1 hq2 c.1 c.2
  · exact c_X12_copy_dn hp1 hs1 h1s hn h2s hn2 hq1 hq2 c

set_option maxRecDepth 10000 in
theorem c_X12_mark_bad (hR : xRr g h tx G T Lw) (hx : ¬ ((0 ≤ x ∧ x < nI G) ∧ 1 ≤ y ∧ y ≤ 5)) : xT (k + 4) 188 [.ref 73, .int x, .int y] (xH b g l) (fun r M' => M' = xH b g l ∧ r = some (.int (-1))) := by
  refine xT.of rfl (Nat.le_of_ble_eq_true rfl) ?_
  change xS _ _ 0 [(0, .ref 73), (1, .int x), (2, .int y)] [] _ _
  refine xS.s1 rfl rfl ?_
  try dsimp only [Nat.reduceAdd]
  refine xS.s1 rfl rfl ?_
  try dsimp only [Nat.reduceAdd]
  -- 2 yX12_isGlass
  refine xS.cv rfl rfl rfl rfl rfl rfl ⟨by decide, rfl, rfl⟩ (c_X12_isGlass hR.1.1 hR.1.2) (fun v M1 hv => ?_)
  rw [hv.1, hv.2]
  clear hv M1 v
  try dsimp only [Nat.reduceAdd, Option.toList, List.cons_append, List.nil_append, List.drop]
  refine xS.br0 (c := .eq) (off := 12) (l := 3) rfl rfl (fun h5 => ?_) (fun h5 => ?_)
  · have g5 := xt_eq h5
    refine xS.s1 rfl rfl ?_
    try dsimp only [Nat.reduceAdd, xi_m1]
    refine xS.ret rfl rfl rfl (fun _ _ => rfl) ?_
    exact ⟨rfl, rfl⟩
  · have g5 := xf_eq h5
    refine xS.s1 rfl rfl ?_
    try dsimp only [Nat.reduceAdd]
    refine xS.s1 rfl rfl ?_
    try dsimp only [Nat.reduceAdd, xi_1]
    refine xS.s1 rfl rfl ?_
    try dsimp only [Nat.reduceAdd, xi_5]
    -- 11 yX12_in
    refine xS.callS rfl rfl rfl ⟨Nat.le_of_ble_eq_true rfl, rfl⟩ c_in_x (fun v M1 hv => ?_)
    rw [hv.1, hv.2]
    clear hv M1 v
    try dsimp only [Nat.reduceAdd, Option.toList, List.cons_append, List.nil_append, List.drop]
    refine xS.br0 (c := .ne) (off := 5) (l := 3) rfl rfl (fun h14 => ?_) (fun h14 => ?_)
    · have g14 := xt_ne h14
      exact absurd ⟨xif1 g5, xif1 g14⟩ hx
    · have g14 := xf_ne h14
      refine xS.s1 rfl rfl ?_
      try dsimp only [Nat.reduceAdd, xi_m1]
      refine xS.ret rfl rfl rfl (fun _ _ => rfl) ?_
      exact ⟨rfl, rfl⟩

set_option maxRecDepth 10000 in
theorem c_X12_mark_ref (hR : xRr g h tx G T Lw) (hk : s < G) (ht1 : 1 ≤ t) (ht : t ≤ 5) (hi : xiso (Lw s / 4) (nI t) = false) : xT (k + 4) 188 [.ref 73, .int (nI s), .int (nI t)] (xH b g l) (fun r M' => M' = xH b (xfR g 3) l ∧ r = some (.int (-3))) := by
  have h6 := hR.1.2
  obtain ⟨q1, q2, q3⟩ := hR.2.2.1 s hk
  refine xT.of rfl (Nat.le_of_ble_eq_true rfl) ?_
  change xS _ _ 0 [(0, .ref 73), (1, .int (nI s)), (2, .int (nI t))] [] _ _
  refine xS.s1 rfl rfl ?_
  try dsimp only [Nat.reduceAdd]
  refine xS.s1 rfl rfl ?_
  try dsimp only [Nat.reduceAdd]
  -- 2 yX12_isGlass
  refine xS.cv rfl rfl rfl rfl rfl rfl ⟨by decide, rfl, rfl⟩ (c_X12_isGlass_in hR.1.1 hR.1.2 hk) (fun v M1 hv => ?_)
  rw [hv.1, hv.2]
  clear hv M1 v
  try dsimp only [Nat.reduceAdd, Option.toList, List.cons_append, List.nil_append, List.drop]
  refine xS.br0 (c := .eq) (off := 12) (l := 3) rfl rfl (fun h5 => ?_) (fun h5 => ?_)
  · have g5 := xt_eq h5
    exfalso; first | exact absurd g5 (by decide) | (simp (disch := omega) only [Int32.lt_iff_toInt_lt, Int32.le_iff_toInt_le, nI_toInt, Int32.reduceToInt] at g5 <;> omega)
  · have g5 := xf_eq h5
    refine xS.s1 rfl rfl ?_
    try dsimp only [Nat.reduceAdd]
    refine xS.s1 rfl rfl ?_
    try dsimp only [Nat.reduceAdd, xi_1]
    refine xS.s1 rfl rfl ?_
    try dsimp only [Nat.reduceAdd, xi_5]
    -- 11 yX12_in
    refine xS.callS rfl rfl rfl ⟨Nat.le_of_ble_eq_true rfl, rfl⟩ (c_in_n1 (t := t) (s := 1) (m := 5) (by omega) (by omega) (by decide)) (fun v M1 hv => ?_)
    rw [hv.1, hv.2]
    clear hv M1 v
    try dsimp only [Nat.reduceAdd, Option.toList, List.cons_append, List.nil_append, List.drop]
    refine xS.br0 (c := .ne) (off := 5) (l := 3) rfl rfl (fun h14 => ?_) (fun h14 => ?_)
    · have g14 := xt_ne h14
      refine xS.s1 rfl rfl ?_
      try dsimp only [Nat.reduceAdd]
      refine xS.gR rfl rfl rfl ⟨by decide, rfl⟩ rfl ?_
      try dsimp only [Nat.reduceAdd]
      refine xS.s1 rfl rfl ?_
      try dsimp only [Nat.reduceAdd, xi_2]
      refine xS.s1 rfl rfl ?_
      try dsimp only [Nat.reduceAdd]
      refine xS.s1 rfl rfl ?_
      try dsimp only [Nat.reduceAdd]
      rw [show ((2 * nI s) : Int32) = nI (2 * s) from by simp only [← nI_add, ← pk_mul]; rfl]
      refine xS.ia rfl xar_82 (by omega) ?_
      try dsimp only [Nat.reduceAdd]
      rw [q1]
      refine xS.s1 rfl rfl ?_
      try dsimp only [Nat.reduceAdd]
      -- 28 yX12_isOf
      refine xS.callS rfl rfl rfl ⟨Nat.le_of_ble_eq_true rfl, rfl⟩ (c_X12_isOf (by omega) ht1 ht) (fun v M1 hv => ?_)
      rw [hv.1, hv.2]
      clear hv M1 v
      try dsimp only [Nat.reduceAdd, Option.toList, List.cons_append, List.nil_append, List.drop]
      refine xS.br0 (c := .ne) (off := 9) (l := 3) rfl rfl (fun h31 => ?_) (fun h31 => ?_)
      · have g31 := xt_ne h31
        exact absurd (xif1 g31) (by rw [hi]; decide)
      · have g31 := xf_ne h31
        refine xS.s1 rfl rfl ?_
        try dsimp only [Nat.reduceAdd]
        refine xS.s1 rfl rfl ?_
        try dsimp only [Nat.reduceAdd, xi_3]
        -- 36 yX12_finds
        refine xS.cv rfl rfl rfl rfl rfl rfl ⟨by decide, rfl, rfl⟩ (c_X12_finds (t := 3) (by decide)) (fun v M1 hv => ?_)
        rw [hv.1, hv.2]
        clear hv M1 v
        try dsimp only [Nat.reduceAdd, Option.toList, List.cons_append, List.nil_append, List.drop]
        refine xS.ret rfl rfl rfl (fun _ _ => rfl) ?_
        exact ⟨rfl, rfl⟩
    · have g14 := xf_ne h14
      exfalso; first | exact absurd g14 (by decide) | (simp (disch := omega) only [Int32.lt_iff_toInt_lt, Int32.le_iff_toInt_le, nI_toInt, Int32.reduceToInt] at g14 <;> omega)

set_option maxRecDepth 10000 in
theorem c_X12_mark_1 (hR : xRr g h tx G T Lw) (hD : xDr g h tx T G Lw F4 m) (hm : m ≤ 40) (hs : g 73 14 = nI m) (hk : s < G) (hi : xiso (Lw s / 4) (nI 1) = true) : xT (k + 4) 188 [.ref 73, .int (nI s), .int (nI 1)] (xH b g l) (fun r M' => M' = xH b g l ∧ r = some (.int ((if Lw s % 4 = 0 then -9 else (xshw h (Lw s / 4) (Lw s % 4) (fun i => xN (F4 (4 * i)))) m)))) := by
  have h6 := hR.1.2
  obtain ⟨q1, q2, q3⟩ := hR.2.2.1 s hk
  refine xT.of rfl (Nat.le_of_ble_eq_true rfl) ?_
  change xS _ _ 0 [(0, .ref 73), (1, .int (nI s)), (2, .int (nI 1))] [] _ _
  refine xS.s1 rfl rfl ?_
  try dsimp only [Nat.reduceAdd]
  refine xS.s1 rfl rfl ?_
  try dsimp only [Nat.reduceAdd]
  -- 2 yX12_isGlass
  refine xS.cv rfl rfl rfl rfl rfl rfl ⟨by decide, rfl, rfl⟩ (c_X12_isGlass_in hR.1.1 hR.1.2 hk) (fun v M1 hv => ?_)
  rw [hv.1, hv.2]
  clear hv M1 v
  try dsimp only [Nat.reduceAdd, Option.toList, List.cons_append, List.nil_append, List.drop]
  refine xS.br0 (c := .eq) (off := 12) (l := 3) rfl rfl (fun h5 => ?_) (fun h5 => ?_)
  · have g5 := xt_eq h5
    exfalso; first | exact absurd g5 (by decide) | (simp (disch := omega) only [Int32.lt_iff_toInt_lt, Int32.le_iff_toInt_le, nI_toInt, Int32.reduceToInt] at g5 <;> omega)
  · have g5 := xf_eq h5
    refine xS.s1 rfl rfl ?_
    try dsimp only [Nat.reduceAdd]
    refine xS.s1 rfl rfl ?_
    try dsimp only [Nat.reduceAdd, xi_1]
    refine xS.s1 rfl rfl ?_
    try dsimp only [Nat.reduceAdd, xi_5]
    -- 11 yX12_in
    refine xS.callS rfl rfl rfl ⟨Nat.le_of_ble_eq_true rfl, rfl⟩ (c_in_n1 (t := 1) (s := 1) (m := 5) (by decide) (by decide) (by decide)) (fun v M1 hv => ?_)
    rw [hv.1, hv.2]
    clear hv M1 v
    try dsimp only [Nat.reduceAdd, Option.toList, List.cons_append, List.nil_append, List.drop]
    refine xS.br0 (c := .ne) (off := 5) (l := 3) rfl rfl (fun h14 => ?_) (fun h14 => ?_)
    · have g14 := xt_ne h14
      refine xS.s1 rfl rfl ?_
      try dsimp only [Nat.reduceAdd]
      refine xS.gR rfl rfl rfl ⟨by decide, rfl⟩ rfl ?_
      try dsimp only [Nat.reduceAdd]
      refine xS.s1 rfl rfl ?_
      try dsimp only [Nat.reduceAdd, xi_2]
      refine xS.s1 rfl rfl ?_
      try dsimp only [Nat.reduceAdd]
      refine xS.s1 rfl rfl ?_
      try dsimp only [Nat.reduceAdd]
      rw [show ((2 * nI s) : Int32) = nI (2 * s) from by simp only [← nI_add, ← pk_mul]; rfl]
      refine xS.ia rfl xar_82 (by omega) ?_
      try dsimp only [Nat.reduceAdd]
      rw [q1]
      refine xS.s1 rfl rfl ?_
      try dsimp only [Nat.reduceAdd]
      -- 28 yX12_isOf
      refine xS.callS rfl rfl rfl ⟨Nat.le_of_ble_eq_true rfl, rfl⟩ (c_X12_isOf (t := 1) (by omega) (by decide) (by decide)) (fun v M1 hv => ?_)
      rw [hv.1, hv.2]
      clear hv M1 v
      try dsimp only [Nat.reduceAdd, Option.toList, List.cons_append, List.nil_append, List.drop]
      refine xS.br0 (c := .ne) (off := 9) (l := 3) rfl rfl (fun h31 => ?_) (fun h31 => ?_)
      · have g31 := xt_ne h31
        refine xS.s1 rfl rfl ?_
        try dsimp only [Nat.reduceAdd, xi_0]
        refine xS.s1 rfl rfl ?_
        try dsimp only [Nat.reduceAdd]
        refine xS.s1 rfl rfl ?_
        try dsimp only [Nat.reduceAdd]
        refine xS.s1 rfl rfl ?_
        try dsimp only [Nat.reduceAdd]
        refine xS.s1 rfl rfl ?_
        try dsimp only [Nat.reduceAdd]
        refine xS.gR rfl rfl rfl ⟨by decide, rfl⟩ rfl ?_
        try dsimp only [Nat.reduceAdd]
        refine xS.s1 rfl rfl ?_
        try dsimp only [Nat.reduceAdd, xi_2]
        refine xS.s1 rfl rfl ?_
        try dsimp only [Nat.reduceAdd]
        refine xS.s1 rfl rfl ?_
        try dsimp only [Nat.reduceAdd]
        refine xS.s1 rfl rfl ?_
        try dsimp only [Nat.reduceAdd, xi_1]
        refine xS.s1 rfl rfl ?_
        try dsimp only [Nat.reduceAdd]
        rw [show (((2 * nI s) + 1) : Int32) = nI ((2 * s) + 1) from by simp only [← nI_add, ← pk_mul]; rfl]
        refine xS.ia rfl xar_82 (by omega) ?_
        try dsimp only [Nat.reduceAdd]
        rw [q2]
        refine xS.br0 (c := .ne) (off := 8) (l := 3) rfl rfl (fun h82 => ?_) (fun h82 => ?_)
        · have g82 := xt_ne h82
          have e82 : ¬ Lw s % 4 = 0 := fun z => g82 (by rw [z]; rfl)
          refine xS.s1 rfl rfl ?_
          try dsimp only [Nat.reduceAdd]
          refine xS.s1 rfl rfl ?_
          try dsimp only [Nat.reduceAdd]
          refine xS.s1 rfl rfl ?_
          try dsimp only [Nat.reduceAdd]
          refine xS.gR rfl rfl rfl ⟨by decide, rfl⟩ rfl ?_
          try dsimp only [Nat.reduceAdd]
          refine xS.s1 rfl rfl ?_
          try dsimp only [Nat.reduceAdd]
          refine xS.gI rfl rfl rfl ⟨by decide, rfl⟩ rfl ?_
          try dsimp only [Nat.reduceAdd]
          rw [hs]
          -- 100 yX12_showsOf
          refine xS.cv rfl rfl rfl rfl rfl rfl ⟨by decide, rfl, rfl⟩ (c_X12_showsOf_u (f := (fun i => xN (F4 (4 * i)))) xar_84 hR (by omega) hk (fun u hu => have hlt := xat_lt (xiso_1 (by omega) hi) (by omega) hu; ⟨by omega, xDr_84 hD u hlt⟩)) (fun v M1 hv => ?_)
          rw [hv.1, hv.2]
          clear hv M1 v
          try dsimp only [Nat.reduceAdd, Option.toList, List.cons_append, List.nil_append, List.drop]
          refine xS.ret rfl rfl rfl (fun _ _ => rfl) ?_
          rw [if_neg e82]
          exact ⟨rfl, rfl⟩
        · have g82 := xf_ne h82
          refine xS.s1 rfl rfl ?_
          try dsimp only [Nat.reduceAdd, xj_m9]
          refine xS.s1 rfl rfl ?_
          try dsimp only [Nat.reduceAdd]
          refine xS.ret rfl rfl rfl (fun _ _ => rfl) ?_
          rw [if_pos ((nI_eq (b := 0) (by omega) (by omega)).mp g82)]
          exact ⟨rfl, rfl⟩
      · have g31 := xf_ne h31
        exact absurd hi (xif0 g31)
    · have g14 := xf_ne h14
      exfalso; first | exact absurd g14 (by decide) | (simp (disch := omega) only [Int32.lt_iff_toInt_lt, Int32.le_iff_toInt_le, nI_toInt, Int32.reduceToInt] at g14 <;> omega)

set_option maxRecDepth 10000 in
theorem c_X12_mark_2 (hR : xRr g h tx G T Lw) (hD : xDr g h tx T G Lw F4 m) (hm : m ≤ 40) (hs : g 73 14 = nI m) (hk : s < G) (hi : xiso (Lw s / 4) (nI 2) = true) : xT (k + 4) 188 [.ref 73, .int (nI s), .int (nI 2)] (xH b g l) (fun r M' => M' = xH b g l ∧ r = some (.int (nI (xcnt (fun i => decide ((xshw h (Lw s / 4) (Lw s % 4) (fun i => xN (F4 (4 * i)))) i = 0)) m)))) := by
  have h6 := hR.1.2
  obtain ⟨q1, q2, q3⟩ := hR.2.2.1 s hk
  refine xT.of rfl (Nat.le_of_ble_eq_true rfl) ?_
  change xS _ _ 0 [(0, .ref 73), (1, .int (nI s)), (2, .int (nI 2))] [] _ _
  refine xS.s1 rfl rfl ?_
  try dsimp only [Nat.reduceAdd]
  refine xS.s1 rfl rfl ?_
  try dsimp only [Nat.reduceAdd]
  -- 2 yX12_isGlass
  refine xS.cv rfl rfl rfl rfl rfl rfl ⟨by decide, rfl, rfl⟩ (c_X12_isGlass_in hR.1.1 hR.1.2 hk) (fun v M1 hv => ?_)
  rw [hv.1, hv.2]
  clear hv M1 v
  try dsimp only [Nat.reduceAdd, Option.toList, List.cons_append, List.nil_append, List.drop]
  refine xS.br0 (c := .eq) (off := 12) (l := 3) rfl rfl (fun h5 => ?_) (fun h5 => ?_)
  · have g5 := xt_eq h5
    exfalso; first | exact absurd g5 (by decide) | (simp (disch := omega) only [Int32.lt_iff_toInt_lt, Int32.le_iff_toInt_le, nI_toInt, Int32.reduceToInt] at g5 <;> omega)
  · have g5 := xf_eq h5
    refine xS.s1 rfl rfl ?_
    try dsimp only [Nat.reduceAdd]
    refine xS.s1 rfl rfl ?_
    try dsimp only [Nat.reduceAdd, xi_1]
    refine xS.s1 rfl rfl ?_
    try dsimp only [Nat.reduceAdd, xi_5]
    -- 11 yX12_in
    refine xS.callS rfl rfl rfl ⟨Nat.le_of_ble_eq_true rfl, rfl⟩ (c_in_n1 (t := 2) (s := 1) (m := 5) (by decide) (by decide) (by decide)) (fun v M1 hv => ?_)
    rw [hv.1, hv.2]
    clear hv M1 v
    try dsimp only [Nat.reduceAdd, Option.toList, List.cons_append, List.nil_append, List.drop]
    refine xS.br0 (c := .ne) (off := 5) (l := 3) rfl rfl (fun h14 => ?_) (fun h14 => ?_)
    · have g14 := xt_ne h14
      refine xS.s1 rfl rfl ?_
      try dsimp only [Nat.reduceAdd]
      refine xS.gR rfl rfl rfl ⟨by decide, rfl⟩ rfl ?_
      try dsimp only [Nat.reduceAdd]
      refine xS.s1 rfl rfl ?_
      try dsimp only [Nat.reduceAdd, xi_2]
      refine xS.s1 rfl rfl ?_
      try dsimp only [Nat.reduceAdd]
      refine xS.s1 rfl rfl ?_
      try dsimp only [Nat.reduceAdd]
      rw [show ((2 * nI s) : Int32) = nI (2 * s) from by simp only [← nI_add, ← pk_mul]; rfl]
      refine xS.ia rfl xar_82 (by omega) ?_
      try dsimp only [Nat.reduceAdd]
      rw [q1]
      refine xS.s1 rfl rfl ?_
      try dsimp only [Nat.reduceAdd]
      -- 28 yX12_isOf
      refine xS.callS rfl rfl rfl ⟨Nat.le_of_ble_eq_true rfl, rfl⟩ (c_X12_isOf (t := 2) (by omega) (by decide) (by decide)) (fun v M1 hv => ?_)
      rw [hv.1, hv.2]
      clear hv M1 v
      try dsimp only [Nat.reduceAdd, Option.toList, List.cons_append, List.nil_append, List.drop]
      refine xS.br0 (c := .ne) (off := 9) (l := 3) rfl rfl (fun h31 => ?_) (fun h31 => ?_)
      · have g31 := xt_ne h31
        refine xS.s1 rfl rfl ?_
        try dsimp only [Nat.reduceAdd, xi_0]
        refine xS.s1 rfl rfl ?_
        try dsimp only [Nat.reduceAdd]
        refine xS.s1 rfl rfl ?_
        try dsimp only [Nat.reduceAdd]
        refine xS.s1 rfl rfl ?_
        try dsimp only [Nat.reduceAdd]
        refine xS.s1 rfl rfl ?_
        try dsimp only [Nat.reduceAdd, xi_0]
        refine xS.s1 rfl rfl ?_
        try dsimp only [Nat.reduceAdd]
        refine xS.pick [0, 1, 2, 3] rfl ?_
        refine xS.loop (σ := Unit) (m) (fun j S => [(4, .int (nI j)), (3, .int (nI (xcnt (fun i => decide ((xshw h (Lw s / 4) (Lw s % 4) (fun i => xN (F4 (4 * i)))) i = 0)) j))), (0, .ref 73), (1, .int (nI s))]) (fun _ _ => xH b g l) (fun _ _ => True) (()) (rfl) (rfl) (trivial) ?_
        intro j S hj hI ih
        try dsimp only
        refine xS.s1 rfl rfl ?_
        try dsimp only [Nat.reduceAdd]
        refine xS.s1 rfl rfl ?_
        try dsimp only [Nat.reduceAdd]
        refine xS.gI rfl rfl rfl ⟨by decide, rfl⟩ rfl ?_
        try dsimp only [Nat.reduceAdd]
        refine xS.br (c := .ge) (off := 31) (l := 3) rfl rfl (fun h113 => ?_) (fun h113 => ?_)
        · have g113 := xt_ge h113
          rw [hs] at g113
          have e := xnle g113 (by omega) (by omega)
          have e2 : m = j := by omega
          subst e2
          refine xS.s1 rfl rfl ?_
          try dsimp only [Nat.reduceAdd]
          refine xS.ret rfl rfl rfl (fun _ _ => rfl) ?_
          exact ⟨rfl, rfl⟩
        · have g113 := xf_ge h113
          rw [hs] at g113
          have hlt := xnlt g113 (by omega) (by omega)
          refine xS.s1 rfl rfl ?_
          try dsimp only [Nat.reduceAdd]
          refine xS.s1 rfl rfl ?_
          try dsimp only [Nat.reduceAdd]
          refine xS.s1 rfl rfl ?_
          try dsimp only [Nat.reduceAdd]
          refine xS.s1 rfl rfl ?_
          try dsimp only [Nat.reduceAdd]
          refine xS.gR rfl rfl rfl ⟨by decide, rfl⟩ rfl ?_
          try dsimp only [Nat.reduceAdd]
          refine xS.s1 rfl rfl ?_
          try dsimp only [Nat.reduceAdd]
          -- 125 yX12_showsOf
          refine xS.cv rfl rfl rfl rfl rfl rfl ⟨by decide, rfl, rfl⟩ (c_X12_showsOf (f := (fun i => xN (F4 (4 * i)))) xar_84 hR (by omega) hk (fun u hu => xDr_84 hD u (by omega))) (fun v M1 hv => ?_)
          rw [hv.1, hv.2]
          clear hv M1 v
          try dsimp only [Nat.reduceAdd, Option.toList, List.cons_append, List.nil_append, List.drop]
          refine xS.br0 (c := .ne) (off := 7) (l := 3) rfl rfl (fun h128 => ?_) (fun h128 => ?_)
          · have g128 := xt_ne h128
            refine xS.s1 rfl rfl ?_
            try dsimp only [Nat.reduceAdd, xi_0]
            refine xS.s1 rfl rfl ?_
            try dsimp only [Nat.reduceAdd]
            refine xS.s1 rfl rfl ?_
            try dsimp only [Nat.reduceAdd]
            refine xS.s1 rfl rfl ?_
            try dsimp only [Nat.reduceAdd, xi_1]
            rw [nI_1]
            refine xS.s1 rfl rfl ?_
            try dsimp only [Nat.reduceAdd]
            refine xS.pick [0, 1, 2, 3] rfl ?_
            rw [show nI (xcnt (fun i => decide ((xshw h (Lw s / 4) (Lw s % 4) (fun i => xN (F4 (4 * i)))) i = 0)) j) + 0 = nI (xcnt (fun i => decide ((xshw h (Lw s / 4) (Lw s % 4) (fun i => xN (F4 (4 * i)))) i = 0)) j) from nI_add _ 0]
            have ih2 := ih () (by omega) trivial
            first | (rw [show xcnt (fun i => decide ((xshw h (Lw s / 4) (Lw s % 4) (fun i => xN (F4 (4 * i)))) i = 0)) (j + 1) = xcnt (fun i => decide ((xshw h (Lw s / 4) (Lw s % 4) (fun i => xN (F4 (4 * i)))) i = 0)) j from by simp [xcnt_s, g128]] at ih2; exact ih2) | (rw [show xcnt (fun i => decide ((xshw h (Lw s / 4) (Lw s % 4) (fun i => xN (F4 (4 * i)))) i = 0)) (j + 1) = xcnt (fun i => decide ((xshw h (Lw s / 4) (Lw s % 4) (fun i => xN (F4 (4 * i)))) i = 0)) j + 1 from by simp [xcnt_s, g128]] at ih2; exact ih2)
          · have g128 := xf_ne h128
            refine xS.s1 rfl rfl ?_
            try dsimp only [Nat.reduceAdd, xi_1]
            refine xS.s1 rfl rfl ?_
            try dsimp only [Nat.reduceAdd]
            refine xS.s1 rfl rfl ?_
            try dsimp only [Nat.reduceAdd]
            refine xS.s1 rfl rfl ?_
            try dsimp only [Nat.reduceAdd]
            refine xS.s1 rfl rfl ?_
            try dsimp only [Nat.reduceAdd, xi_1]
            rw [nI_1]
            refine xS.s1 rfl rfl ?_
            try dsimp only [Nat.reduceAdd]
            refine xS.pick [0, 1, 2, 3] rfl ?_
            rw [nI_1]
            have ih2 := ih () (by omega) trivial
            first | (rw [show xcnt (fun i => decide ((xshw h (Lw s / 4) (Lw s % 4) (fun i => xN (F4 (4 * i)))) i = 0)) (j + 1) = xcnt (fun i => decide ((xshw h (Lw s / 4) (Lw s % 4) (fun i => xN (F4 (4 * i)))) i = 0)) j from by simp [xcnt_s, g128]] at ih2; exact ih2) | (rw [show xcnt (fun i => decide ((xshw h (Lw s / 4) (Lw s % 4) (fun i => xN (F4 (4 * i)))) i = 0)) (j + 1) = xcnt (fun i => decide ((xshw h (Lw s / 4) (Lw s % 4) (fun i => xN (F4 (4 * i)))) i = 0)) j + 1 from by simp [xcnt_s, g128]] at ih2; exact ih2)
      · have g31 := xf_ne h31
        exact absurd hi (xif0 g31)
    · have g14 := xf_ne h14
      exfalso; first | exact absurd g14 (by decide) | (simp (disch := omega) only [Int32.lt_iff_toInt_lt, Int32.le_iff_toInt_le, nI_toInt, Int32.reduceToInt] at g14 <;> omega)

set_option maxRecDepth 10000 in
theorem c_X12_mark_3 (hR : xRr g h tx G T Lw) (hD : xDr g h tx T G Lw F4 m) (hm : m ≤ 40) (hs : g 73 14 = nI m) (hk : s < G) (hi : xiso (Lw s / 4) (nI 3) = true) : xT (k + 4) 188 [.ref 73, .int (nI s), .int (nI 3)] (xH b g l) (fun r M' => M' = xH b g l ∧ r = some (.int (nI (xcnt (fun q => decide (h q = 0)) 6)))) := by
  have h6 := hR.1.2
  obtain ⟨q1, q2, q3⟩ := hR.2.2.1 s hk
  refine xT.of rfl (Nat.le_of_ble_eq_true rfl) ?_
  change xS _ _ 0 [(0, .ref 73), (1, .int (nI s)), (2, .int (nI 3))] [] _ _
  refine xS.s1 rfl rfl ?_
  try dsimp only [Nat.reduceAdd]
  refine xS.s1 rfl rfl ?_
  try dsimp only [Nat.reduceAdd]
  -- 2 yX12_isGlass
  refine xS.cv rfl rfl rfl rfl rfl rfl ⟨by decide, rfl, rfl⟩ (c_X12_isGlass_in hR.1.1 hR.1.2 hk) (fun v M1 hv => ?_)
  rw [hv.1, hv.2]
  clear hv M1 v
  try dsimp only [Nat.reduceAdd, Option.toList, List.cons_append, List.nil_append, List.drop]
  refine xS.br0 (c := .eq) (off := 12) (l := 3) rfl rfl (fun h5 => ?_) (fun h5 => ?_)
  · have g5 := xt_eq h5
    exfalso; first | exact absurd g5 (by decide) | (simp (disch := omega) only [Int32.lt_iff_toInt_lt, Int32.le_iff_toInt_le, nI_toInt, Int32.reduceToInt] at g5 <;> omega)
  · have g5 := xf_eq h5
    refine xS.s1 rfl rfl ?_
    try dsimp only [Nat.reduceAdd]
    refine xS.s1 rfl rfl ?_
    try dsimp only [Nat.reduceAdd, xi_1]
    refine xS.s1 rfl rfl ?_
    try dsimp only [Nat.reduceAdd, xi_5]
    -- 11 yX12_in
    refine xS.callS rfl rfl rfl ⟨Nat.le_of_ble_eq_true rfl, rfl⟩ (c_in_n1 (t := 3) (s := 1) (m := 5) (by decide) (by decide) (by decide)) (fun v M1 hv => ?_)
    rw [hv.1, hv.2]
    clear hv M1 v
    try dsimp only [Nat.reduceAdd, Option.toList, List.cons_append, List.nil_append, List.drop]
    refine xS.br0 (c := .ne) (off := 5) (l := 3) rfl rfl (fun h14 => ?_) (fun h14 => ?_)
    · have g14 := xt_ne h14
      refine xS.s1 rfl rfl ?_
      try dsimp only [Nat.reduceAdd]
      refine xS.gR rfl rfl rfl ⟨by decide, rfl⟩ rfl ?_
      try dsimp only [Nat.reduceAdd]
      refine xS.s1 rfl rfl ?_
      try dsimp only [Nat.reduceAdd, xi_2]
      refine xS.s1 rfl rfl ?_
      try dsimp only [Nat.reduceAdd]
      refine xS.s1 rfl rfl ?_
      try dsimp only [Nat.reduceAdd]
      rw [show ((2 * nI s) : Int32) = nI (2 * s) from by simp only [← nI_add, ← pk_mul]; rfl]
      refine xS.ia rfl xar_82 (by omega) ?_
      try dsimp only [Nat.reduceAdd]
      rw [q1]
      refine xS.s1 rfl rfl ?_
      try dsimp only [Nat.reduceAdd]
      -- 28 yX12_isOf
      refine xS.callS rfl rfl rfl ⟨Nat.le_of_ble_eq_true rfl, rfl⟩ (c_X12_isOf (t := 3) (by omega) (by decide) (by decide)) (fun v M1 hv => ?_)
      rw [hv.1, hv.2]
      clear hv M1 v
      try dsimp only [Nat.reduceAdd, Option.toList, List.cons_append, List.nil_append, List.drop]
      refine xS.br0 (c := .ne) (off := 9) (l := 3) rfl rfl (fun h31 => ?_) (fun h31 => ?_)
      · have g31 := xt_ne h31
        refine xS.s1 rfl rfl ?_
        try dsimp only [Nat.reduceAdd, xi_0]
        refine xS.s1 rfl rfl ?_
        try dsimp only [Nat.reduceAdd]
        refine xS.s1 rfl rfl ?_
        try dsimp only [Nat.reduceAdd]
        refine xS.s1 rfl rfl ?_
        try dsimp only [Nat.reduceAdd]
        refine xS.s1 rfl rfl ?_
        try dsimp only [Nat.reduceAdd, xi_0]
        refine xS.s1 rfl rfl ?_
        try dsimp only [Nat.reduceAdd]
        refine xS.pick [0, 1, 2] rfl ?_
        refine xS.loop (σ := Unit) (6) (fun j S => [(4, .int (nI j)), (3, .int (nI (xcnt (fun q => decide (h q = 0)) j))), (0, .ref 73)]) (fun _ _ => xH b g l) (fun _ _ => True) (()) (rfl) (rfl) (trivial) ?_
        intro j S hj hI ih
        try dsimp only
        refine xS.s1 rfl rfl ?_
        try dsimp only [Nat.reduceAdd]
        refine xS.s1 rfl rfl ?_
        try dsimp only [Nat.reduceAdd, xj_6]
        refine xS.br (c := .ge) (off := 27) (l := 3) rfl rfl (fun h153 => ?_) (fun h153 => ?_)
        · have g153 := xt_ge h153
          have e := xnle (b := 6) g153 (by omega) (by omega)
          have e2 : 6 = j := by omega
          subst e2
          refine xS.s1 rfl rfl ?_
          try dsimp only [Nat.reduceAdd]
          refine xS.ret rfl rfl rfl (fun _ _ => rfl) ?_
          exact ⟨rfl, rfl⟩
        · have g153 := xf_ge h153
          have hlt := xnlt (b := 6) g153 (by omega) (by omega)
          refine xS.s1 rfl rfl ?_
          try dsimp only [Nat.reduceAdd]
          refine xS.s1 rfl rfl ?_
          try dsimp only [Nat.reduceAdd]
          refine xS.gR rfl rfl rfl ⟨by decide, rfl⟩ rfl ?_
          try dsimp only [Nat.reduceAdd]
          refine xS.s1 rfl rfl ?_
          try dsimp only [Nat.reduceAdd]
          refine xS.ia rfl xar_81 (by omega) ?_
          try dsimp only [Nat.reduceAdd]
          rw [(hR.2.2.2.1 j hlt).1]
          refine xS.br0 (c := .ne) (off := 7) (l := 3) rfl rfl (fun h164 => ?_) (fun h164 => ?_)
          · have g164 := xt_ne h164
            refine xS.s1 rfl rfl ?_
            try dsimp only [Nat.reduceAdd, xi_0]
            refine xS.s1 rfl rfl ?_
            try dsimp only [Nat.reduceAdd]
            refine xS.s1 rfl rfl ?_
            try dsimp only [Nat.reduceAdd]
            refine xS.s1 rfl rfl ?_
            try dsimp only [Nat.reduceAdd, xi_1]
            rw [nI_1]
            refine xS.s1 rfl rfl ?_
            try dsimp only [Nat.reduceAdd]
            refine xS.pick [0, 1, 2] rfl ?_
            rw [show nI (xcnt (fun q => decide (h q = 0)) j) + 0 = nI (xcnt (fun q => decide (h q = 0)) j) from nI_add _ 0]
            have ih2 := ih () (by omega) trivial
            first | (rw [show xcnt (fun q => decide (h q = 0)) (j + 1) = xcnt (fun q => decide (h q = 0)) j from by simp [xcnt_s, g164]] at ih2; exact ih2) | (rw [show xcnt (fun q => decide (h q = 0)) (j + 1) = xcnt (fun q => decide (h q = 0)) j + 1 from by simp [xcnt_s, g164]] at ih2; exact ih2)
          · have g164 := xf_ne h164
            refine xS.s1 rfl rfl ?_
            try dsimp only [Nat.reduceAdd, xi_1]
            refine xS.s1 rfl rfl ?_
            try dsimp only [Nat.reduceAdd]
            refine xS.s1 rfl rfl ?_
            try dsimp only [Nat.reduceAdd]
            refine xS.s1 rfl rfl ?_
            try dsimp only [Nat.reduceAdd]
            refine xS.s1 rfl rfl ?_
            try dsimp only [Nat.reduceAdd, xi_1]
            rw [nI_1]
            refine xS.s1 rfl rfl ?_
            try dsimp only [Nat.reduceAdd]
            refine xS.pick [0, 1, 2] rfl ?_
            rw [nI_1]
            have ih2 := ih () (by omega) trivial
            first | (rw [show xcnt (fun q => decide (h q = 0)) (j + 1) = xcnt (fun q => decide (h q = 0)) j from by simp [xcnt_s, g164]] at ih2; exact ih2) | (rw [show xcnt (fun q => decide (h q = 0)) (j + 1) = xcnt (fun q => decide (h q = 0)) j + 1 from by simp [xcnt_s, g164]] at ih2; exact ih2)
      · have g31 := xf_ne h31
        exact absurd hi (xif0 g31)
    · have g14 := xf_ne h14
      exfalso; first | exact absurd g14 (by decide) | (simp (disch := omega) only [Int32.lt_iff_toInt_lt, Int32.le_iff_toInt_le, nI_toInt, Int32.reduceToInt] at g14 <;> omega)

set_option maxRecDepth 10000 in
theorem c_X12_mark_4 (hR : xRr g h tx G T Lw) (hD : xDr g h tx T G Lw F4 m) (hm : m ≤ 40) (hs : g 73 14 = nI m) (hk : s < G) (hi : xiso (Lw s / 4) (nI 4) = true) : xT (k + 4) 188 [.ref 73, .int (nI s), .int (nI 4)] (xH b g l) (fun r M' => M' = xH b g l ∧ r = some (.int (2 - nI (m % 3)))) := by
  have h6 := hR.1.2
  obtain ⟨q1, q2, q3⟩ := hR.2.2.1 s hk
  refine xT.of rfl (Nat.le_of_ble_eq_true rfl) ?_
  change xS _ _ 0 [(0, .ref 73), (1, .int (nI s)), (2, .int (nI 4))] [] _ _
  refine xS.s1 rfl rfl ?_
  try dsimp only [Nat.reduceAdd]
  refine xS.s1 rfl rfl ?_
  try dsimp only [Nat.reduceAdd]
  -- 2 yX12_isGlass
  refine xS.cv rfl rfl rfl rfl rfl rfl ⟨by decide, rfl, rfl⟩ (c_X12_isGlass_in hR.1.1 hR.1.2 hk) (fun v M1 hv => ?_)
  rw [hv.1, hv.2]
  clear hv M1 v
  try dsimp only [Nat.reduceAdd, Option.toList, List.cons_append, List.nil_append, List.drop]
  refine xS.br0 (c := .eq) (off := 12) (l := 3) rfl rfl (fun h5 => ?_) (fun h5 => ?_)
  · have g5 := xt_eq h5
    exfalso; first | exact absurd g5 (by decide) | (simp (disch := omega) only [Int32.lt_iff_toInt_lt, Int32.le_iff_toInt_le, nI_toInt, Int32.reduceToInt] at g5 <;> omega)
  · have g5 := xf_eq h5
    refine xS.s1 rfl rfl ?_
    try dsimp only [Nat.reduceAdd]
    refine xS.s1 rfl rfl ?_
    try dsimp only [Nat.reduceAdd, xi_1]
    refine xS.s1 rfl rfl ?_
    try dsimp only [Nat.reduceAdd, xi_5]
    -- 11 yX12_in
    refine xS.callS rfl rfl rfl ⟨Nat.le_of_ble_eq_true rfl, rfl⟩ (c_in_n1 (t := 4) (s := 1) (m := 5) (by decide) (by decide) (by decide)) (fun v M1 hv => ?_)
    rw [hv.1, hv.2]
    clear hv M1 v
    try dsimp only [Nat.reduceAdd, Option.toList, List.cons_append, List.nil_append, List.drop]
    refine xS.br0 (c := .ne) (off := 5) (l := 3) rfl rfl (fun h14 => ?_) (fun h14 => ?_)
    · have g14 := xt_ne h14
      refine xS.s1 rfl rfl ?_
      try dsimp only [Nat.reduceAdd]
      refine xS.gR rfl rfl rfl ⟨by decide, rfl⟩ rfl ?_
      try dsimp only [Nat.reduceAdd]
      refine xS.s1 rfl rfl ?_
      try dsimp only [Nat.reduceAdd, xi_2]
      refine xS.s1 rfl rfl ?_
      try dsimp only [Nat.reduceAdd]
      refine xS.s1 rfl rfl ?_
      try dsimp only [Nat.reduceAdd]
      rw [show ((2 * nI s) : Int32) = nI (2 * s) from by simp only [← nI_add, ← pk_mul]; rfl]
      refine xS.ia rfl xar_82 (by omega) ?_
      try dsimp only [Nat.reduceAdd]
      rw [q1]
      refine xS.s1 rfl rfl ?_
      try dsimp only [Nat.reduceAdd]
      -- 28 yX12_isOf
      refine xS.callS rfl rfl rfl ⟨Nat.le_of_ble_eq_true rfl, rfl⟩ (c_X12_isOf (t := 4) (by omega) (by decide) (by decide)) (fun v M1 hv => ?_)
      rw [hv.1, hv.2]
      clear hv M1 v
      try dsimp only [Nat.reduceAdd, Option.toList, List.cons_append, List.nil_append, List.drop]
      refine xS.br0 (c := .ne) (off := 9) (l := 3) rfl rfl (fun h31 => ?_) (fun h31 => ?_)
      · have g31 := xt_ne h31
        refine xS.s1 rfl rfl ?_
        try dsimp only [Nat.reduceAdd, xi_0]
        refine xS.s1 rfl rfl ?_
        try dsimp only [Nat.reduceAdd]
        refine xS.s1 rfl rfl ?_
        try dsimp only [Nat.reduceAdd]
        refine xS.s1 rfl rfl ?_
        try dsimp only [Nat.reduceAdd]
        refine xS.s1 rfl rfl ?_
        try dsimp only [Nat.reduceAdd, xi_2]
        refine xS.s1 rfl rfl ?_
        try dsimp only [Nat.reduceAdd]
        refine xS.gI rfl rfl rfl ⟨by decide, rfl⟩ rfl ?_
        try dsimp only [Nat.reduceAdd]
        rw [hs]
        refine xS.s1 rfl rfl ?_
        try dsimp only [Nat.reduceAdd, xi_3]
        refine xS.s1 rfl rfl ?_
        try dsimp only [Nat.reduceAdd]
        refine xS.s1 rfl rfl ?_
        try dsimp only [Nat.reduceAdd]
        refine xS.ret rfl rfl rfl (fun _ _ => rfl) ?_
        rw [xrem3 (by omega)]
        exact ⟨rfl, rfl⟩
      · have g31 := xf_ne h31
        exact absurd hi (xif0 g31)
    · have g14 := xf_ne h14
      exfalso; first | exact absurd g14 (by decide) | (simp (disch := omega) only [Int32.lt_iff_toInt_lt, Int32.le_iff_toInt_le, nI_toInt, Int32.reduceToInt] at g14 <;> omega)

set_option maxRecDepth 10000 in
theorem c_X12_mark_5 (hR : xRr g h tx G T Lw) (hD : xDr g h tx T G Lw F4 m) (hm : m ≤ 40) (hs : g 73 14 = nI m) (hk : s < G) (hi : xiso (Lw s / 4) (nI 5) = true) : xT (k + 4) 188 [.ref 73, .int (nI s), .int (nI 5)] (xH b g l) (fun r M' => M' = xH b g l ∧ r = some (.int ((if m % 2 = 1 then xmir (h 0) else 0)))) := by
  have h6 := hR.1.2
  obtain ⟨q1, q2, q3⟩ := hR.2.2.1 s hk
  refine xT.of rfl (Nat.le_of_ble_eq_true rfl) ?_
  change xS _ _ 0 [(0, .ref 73), (1, .int (nI s)), (2, .int (nI 5))] [] _ _
  refine xS.s1 rfl rfl ?_
  try dsimp only [Nat.reduceAdd]
  refine xS.s1 rfl rfl ?_
  try dsimp only [Nat.reduceAdd]
  -- 2 yX12_isGlass
  refine xS.cv rfl rfl rfl rfl rfl rfl ⟨by decide, rfl, rfl⟩ (c_X12_isGlass_in hR.1.1 hR.1.2 hk) (fun v M1 hv => ?_)
  rw [hv.1, hv.2]
  clear hv M1 v
  try dsimp only [Nat.reduceAdd, Option.toList, List.cons_append, List.nil_append, List.drop]
  refine xS.br0 (c := .eq) (off := 12) (l := 3) rfl rfl (fun h5 => ?_) (fun h5 => ?_)
  · have g5 := xt_eq h5
    exfalso; first | exact absurd g5 (by decide) | (simp (disch := omega) only [Int32.lt_iff_toInt_lt, Int32.le_iff_toInt_le, nI_toInt, Int32.reduceToInt] at g5 <;> omega)
  · have g5 := xf_eq h5
    refine xS.s1 rfl rfl ?_
    try dsimp only [Nat.reduceAdd]
    refine xS.s1 rfl rfl ?_
    try dsimp only [Nat.reduceAdd, xi_1]
    refine xS.s1 rfl rfl ?_
    try dsimp only [Nat.reduceAdd, xi_5]
    -- 11 yX12_in
    refine xS.callS rfl rfl rfl ⟨Nat.le_of_ble_eq_true rfl, rfl⟩ (c_in_n1 (t := 5) (s := 1) (m := 5) (by decide) (by decide) (by decide)) (fun v M1 hv => ?_)
    rw [hv.1, hv.2]
    clear hv M1 v
    try dsimp only [Nat.reduceAdd, Option.toList, List.cons_append, List.nil_append, List.drop]
    refine xS.br0 (c := .ne) (off := 5) (l := 3) rfl rfl (fun h14 => ?_) (fun h14 => ?_)
    · have g14 := xt_ne h14
      refine xS.s1 rfl rfl ?_
      try dsimp only [Nat.reduceAdd]
      refine xS.gR rfl rfl rfl ⟨by decide, rfl⟩ rfl ?_
      try dsimp only [Nat.reduceAdd]
      refine xS.s1 rfl rfl ?_
      try dsimp only [Nat.reduceAdd, xi_2]
      refine xS.s1 rfl rfl ?_
      try dsimp only [Nat.reduceAdd]
      refine xS.s1 rfl rfl ?_
      try dsimp only [Nat.reduceAdd]
      rw [show ((2 * nI s) : Int32) = nI (2 * s) from by simp only [← nI_add, ← pk_mul]; rfl]
      refine xS.ia rfl xar_82 (by omega) ?_
      try dsimp only [Nat.reduceAdd]
      rw [q1]
      refine xS.s1 rfl rfl ?_
      try dsimp only [Nat.reduceAdd]
      -- 28 yX12_isOf
      refine xS.callS rfl rfl rfl ⟨Nat.le_of_ble_eq_true rfl, rfl⟩ (c_X12_isOf (t := 5) (by omega) (by decide) (by decide)) (fun v M1 hv => ?_)
      rw [hv.1, hv.2]
      clear hv M1 v
      try dsimp only [Nat.reduceAdd, Option.toList, List.cons_append, List.nil_append, List.drop]
      refine xS.br0 (c := .ne) (off := 9) (l := 3) rfl rfl (fun h31 => ?_) (fun h31 => ?_)
      · have g31 := xt_ne h31
        refine xS.s1 rfl rfl ?_
        try dsimp only [Nat.reduceAdd, xi_0]
        refine xS.s1 rfl rfl ?_
        try dsimp only [Nat.reduceAdd]
        refine xS.s1 rfl rfl ?_
        try dsimp only [Nat.reduceAdd]
        refine xS.s1 rfl rfl ?_
        try dsimp only [Nat.reduceAdd]
        refine xS.s1 rfl rfl ?_
        try dsimp only [Nat.reduceAdd]
        refine xS.gI rfl rfl rfl ⟨by decide, rfl⟩ rfl ?_
        try dsimp only [Nat.reduceAdd]
        rw [hs]
        refine xS.s1 rfl rfl ?_
        try dsimp only [Nat.reduceAdd, xi_2]
        refine xS.s1 rfl rfl ?_
        try dsimp only [Nat.reduceAdd]
        rw [xrem2 (by omega)]
        refine xS.s1 rfl rfl ?_
        try dsimp only [Nat.reduceAdd, xi_1]
        refine xS.br (c := .ne) (off := 15) (l := 3) rfl rfl (fun h198 => ?_) (fun h198 => ?_)
        · have g198 := xt_ne h198
          refine xS.s1 rfl rfl ?_
          try dsimp only [Nat.reduceAdd, xi_0]
          refine xS.ret rfl rfl rfl (fun _ _ => rfl) ?_
          rw [if_neg (fun z => g198 (by rw [z]; rfl))]
          exact ⟨rfl, rfl⟩
        · have g198 := xf_ne h198
          refine xS.s1 rfl rfl ?_
          try dsimp only [Nat.reduceAdd]
          refine xS.gR rfl rfl rfl ⟨by decide, rfl⟩ rfl ?_
          try dsimp only [Nat.reduceAdd]
          refine xS.s1 rfl rfl ?_
          try dsimp only [Nat.reduceAdd, xi_0]
          refine xS.ia (t := 0) rfl xar_81 (by omega) ?_
          try dsimp only [Nat.reduceAdd]
          -- 207 yX12_mirrored
          refine xS.callS rfl rfl rfl ⟨Nat.le_of_ble_eq_true rfl, rfl⟩ c_X12_mirrored (fun v M1 hv => ?_)
          rw [hv.1, hv.2]
          clear hv M1 v
          try dsimp only [Nat.reduceAdd, Option.toList, List.cons_append, List.nil_append, List.drop]
          refine xS.s1 rfl rfl ?_
          try dsimp only [Nat.reduceAdd]
          refine xS.ret rfl rfl rfl (fun _ _ => rfl) ?_
          rw [if_pos ((nI_eq (b := 1) (by omega) (by omega)).mp g198), (hR.2.2.2.1 0 (by decide)).1]
          exact ⟨rfl, rfl⟩
      · have g31 := xf_ne h31
        exact absurd hi (xif0 g31)
    · have g14 := xf_ne h14
      exfalso; first | exact absurd g14 (by decide) | (simp (disch := omega) only [Int32.lt_iff_toInt_lt, Int32.le_iff_toInt_le, nI_toInt, Int32.reduceToInt] at g14 <;> omega)

end
end
section
/-! LimpMirrorModel: turns, chances, lots, what is told -/
theorem xbt_12 {A B : Prop} {dA : Decidable A} {dB : Decidable B} {e : Nat} (he : e ≤ 12) : (@ite _ B dB (12 - nI e) 0) + (@ite _ A dA (nI e) 0) = nI (12 - xbt A B e) := by
  unfold xbt
  rw [show (12 : Int32) - nI e = nI (12 - e) from pk_sub (a := 12) he]
  by_cases h1 : A <;> by_cases h2 : B
  · rw [if_pos h1, if_pos h2, if_pos h1, if_pos h2, nI_add]; try (congr 1; try omega)
  · rw [if_pos h1, if_neg h2, if_pos h1, if_neg h2, show (0 : Int32) = nI 0 from rfl, nI_add]; try (congr 1; try omega)
  · rw [if_neg h1, if_pos h2, if_neg h1, if_pos h2, show (0 : Int32) = nI 0 from rfl, nI_add]; try (congr 1; try omega)
  · rw [if_neg h1, if_neg h2, if_neg h1, if_neg h2, show (0 : Int32) = nI 0 from rfl, nI_add]; try (congr 1; try omega)
def xFv (h tx : Nat → Int32) (T G : Nat) (Lw : Nat → Nat) (F4 : Nat → Int32) (m : Nat) : Prop := ∀ d, d < m → ∃ s k, s < 6 ∧ k < G ∧ F4 (4 * d) = nI s ∧ F4 (4 * d + 1) = nI k ∧ F4 (4 * d + 2) = xshw h (Lw k / 4) (Lw k % 4) (fun i => xN (F4 (4 * i))) d ∧ F4 (4 * d + 3) = xfI (xfb tx T (nI s) (xshw h (Lw k / 4) (Lw k % 4) (fun i => xN (F4 (4 * i))) d))
theorem nI_inj {a b : Nat} (ha : a < 2 ^ 31) (hb : b < 2 ^ 31) (h : nI a = nI b) : a = b := (nI_eq ha hb).mp h
theorem xDr_nx {g : Nat → Nat → Int32} {h tx F4 : Nat → Int32} {T G m s t : Nat} {Lw : Nat → Nat} (hV : xFv h tx T G Lw F4 (m + 1)) (hD : xDr g h tx T G Lw F4 m) (h0 : F4 (4 * m) = nI s) (h1 : F4 (4 * m + 1) = nI t) (hs : s < 6) (ht : t < 2 ^ 31) (hG : G ≤ 6) : xDr (up (up (up g 84 m (nI s)) 85 m (nI t)) 73 14 (nI (m + 1))) h tx T G Lw F4 (m + 1) := by
  intro d hd
  obtain ⟨s', k', q1, q2, q3, q4, q5, q6⟩ := hV d hd
  refine ⟨s', k', q1, q2, q3, q4, q5, q6, ?_, ?_⟩
  · rw [up_na (by decide), up_na (by decide)]
    by_cases e : d = m
    · subst e
      rw [up_same, ← h0, q3]
    · rw [up_ne (Or.inr e)]
      obtain ⟨s2, k2, r1, r2, r3, r4, r5, r6, r7, r8⟩ := hD d (by omega)
      rw [r7, ← r3, q3]
  · rw [up_na (by decide)]
    by_cases e : d = m
    · subst e
      rw [up_same, ← h1, q4]
    · rw [up_ne (Or.inr e), up_na (by decide)]
      obtain ⟨s2, k2, r1, r2, r3, r4, r5, r6, r7, r8⟩ := hD d (by omega)
      rw [r8, ← r4, q4]

section
variable {k a c n n2 m t p s d i1 j1 : Nat} {b : Nat × Nat} {g : Nat → Nat → Int32} {l : Nat → Nat → Int64} {i j x y z v w : Int32} {u w1 w2 : Int64}
variable {L G T e1 q1 κ δ : Nat} {Lw f f2 : Nat → Nat} {h tx F4 Rw Rw2 O : Nat → Int32}
set_option maxRecDepth 10000 in
theorem c_X12_isSafe (hR : xRr g h tx G T Lw) (hd : d < 13) (hf : ∀ u, u ≤ d → g 90 u = nI (f u) ∧ f u < 6) : xT (k + 5) 221 [.ref 73, .int (nI d)] (xH b g l) (fun r M' => M' = xH b g l ∧ r = some (.int (if xsafe h tx T G Lw f d = true then 1 else 0))) := by
  refine xT.of rfl (Nat.le_of_ble_eq_true rfl) ?_
  change xS _ _ 0 [(0, .ref 73), (1, .int (nI d))] [] _ _
  refine xS.s1 rfl rfl ?_
  try dsimp only [Nat.reduceAdd, xi_1]
  refine xS.s1 rfl rfl ?_
  try dsimp only [Nat.reduceAdd]
  refine xS.s1 rfl rfl ?_
  try dsimp only [Nat.reduceAdd, xi_0]
  refine xS.s1 rfl rfl ?_
  try dsimp only [Nat.reduceAdd]
  refine xS.pick [0, 1, 2, 3] rfl ?_
  refine xS.loop (σ := Unit) (G) (fun j S => [(3, .int (nI j)), (2, .int (if xfst (fun q => !decide (xfb tx T (nI (f d)) (xshw h (Lw q / 4) (Lw q % 4) f d) = none)) j = none then 1 else 0)), (0, .ref 73), (1, .int (nI d))]) (fun _ _ => xH b g l) (fun _ _ => True) (()) (rfl) (rfl) (trivial) ?_
  intro j S hj hI ih
  try dsimp only
  have h6 := hR.1.2
  refine xS.s1 rfl rfl ?_
  try dsimp only [Nat.reduceAdd]
  refine xS.s1 rfl rfl ?_
  try dsimp only [Nat.reduceAdd]
  refine xS.gI rfl rfl rfl ⟨by decide, rfl⟩ rfl ?_
  try dsimp only [Nat.reduceAdd]
  refine xS.br (c := .ge) (off := 28) (l := 3) rfl rfl (fun h9 => ?_) (fun h9 => ?_)
  · have g9 := xt_ge h9
    rw [hR.1.1] at g9
    have e := xnle g9 (by omega) (by omega)
    have e2 : G = j := by omega
    rw [← e2]
    refine xS.s1 rfl rfl ?_
    try dsimp only [Nat.reduceAdd]
    refine xS.retB rfl rfl ?_
    exact ⟨rfl, by simp only [xsafe, decide_eq_true_eq]⟩
  · have g9 := xf_ge h9
    rw [hR.1.1] at g9
    have hlt := xnlt g9 (by omega) (by omega)
    refine xS.s1 rfl rfl ?_
    try dsimp only [Nat.reduceAdd]
    refine xS.br0 (c := .eq) (off := 16) (l := 3) rfl rfl (fun h13 => ?_) (fun h13 => ?_)
    · have g13 := xt_eq h13
      refine xS.s1 rfl rfl ?_
      try dsimp only [Nat.reduceAdd, xi_0]
      refine xS.s1 rfl rfl ?_
      try dsimp only [Nat.reduceAdd]
      refine xS.s1 rfl rfl ?_
      try dsimp only [Nat.reduceAdd, xi_1]
      rw [nI_1]
      refine xS.s1 rfl rfl ?_
      try dsimp only [Nat.reduceAdd]
      refine xS.pick [0, 1, 2, 3] rfl ?_
      have ih2 := ih () (by omega) trivial
      have e13 := xif0 g13
      rw [if_neg (by rw [xfst_k e13]; exact e13)] at ih2
      exact ih2
    · have g13 := xf_eq h13
      refine xS.s1 rfl rfl ?_
      try dsimp only [Nat.reduceAdd]
      refine xS.s1 rfl rfl ?_
      try dsimp only [Nat.reduceAdd]
      refine xS.s1 rfl rfl ?_
      try dsimp only [Nat.reduceAdd]
      -- 19 yX12_breaksAt
      refine xS.cv rfl rfl rfl rfl rfl rfl ⟨by decide, rfl, rfl⟩ (c_X12_breaksAt hR hlt hd hf) (fun v M1 hv => ?_)
      rw [hv.1, hv.2]
      clear hv M1 v
      try dsimp only [Nat.reduceAdd, Option.toList, List.cons_append, List.nil_append, List.drop]
      refine xS.br0 (c := .ne) (off := 7) (l := 3) rfl rfl (fun h22 => ?_) (fun h22 => ?_)
      · have g22 := xt_ne h22
        refine xS.s1 rfl rfl ?_
        try dsimp only [Nat.reduceAdd, xi_0]
        refine xS.s1 rfl rfl ?_
        try dsimp only [Nat.reduceAdd]
        refine xS.s1 rfl rfl ?_
        try dsimp only [Nat.reduceAdd, xi_1]
        rw [nI_1]
        refine xS.s1 rfl rfl ?_
        try dsimp only [Nat.reduceAdd]
        refine xS.pick [0, 1, 2, 3] rfl ?_
        have ih2 := ih () (by omega) trivial
        have e13 := xif1 g13
        rw [if_neg (by rw [xfst_c e13 (by simp [xif1n g22])]; exact fun z => by cases z)] at ih2
        exact ih2
      · have g22 := xf_ne h22
        refine xS.s1 rfl rfl ?_
        try dsimp only [Nat.reduceAdd, xi_1]
        refine xS.s1 rfl rfl ?_
        try dsimp only [Nat.reduceAdd]
        refine xS.s1 rfl rfl ?_
        try dsimp only [Nat.reduceAdd]
        refine xS.s1 rfl rfl ?_
        try dsimp only [Nat.reduceAdd, xi_1]
        rw [nI_1]
        refine xS.s1 rfl rfl ?_
        try dsimp only [Nat.reduceAdd]
        refine xS.pick [0, 1, 2, 3] rfl ?_
        have ih2 := ih () (by omega) trivial
        have e13 := xif1 g13
        rw [if_pos (xfst_n e13 (by simp [xif0n g22]))] at ih2
        exact ih2

set_option maxRecDepth 10000 in
theorem c_X12_gameBy (hR : xRr g h tx G T Lw) (hn : n ≤ 3) : xT (k + 6) 222 [.ref 73, .int (nI n)] (xH b g l) (fun r M' => ∃ g0, xFr g g0 ∧ (∀ c, xfst (fun c => decide (xfst (fun i => !xsafe h tx T G Lw (xd6 n c) i) n = none)) (6 ^ n) = some c → ∀ u, u < n → g0 90 u = nI (xd6 n c u)) ∧ M' = xH b g0 l ∧ r = some (.int (xoI (xfst (fun c => decide (xfst (fun i => !xsafe h tx T G Lw (xd6 n c) i) n = none)) (6 ^ n))))) := by
  refine xT.of rfl (Nat.le_of_ble_eq_true rfl) ?_
  change xS _ _ 0 [(0, .ref 73), (1, .int (nI n))] [] _ _
  refine xS.s1 rfl rfl ?_
  try dsimp only [Nat.reduceAdd, xi_0]
  refine xS.s1 rfl rfl ?_
  try dsimp only [Nat.reduceAdd]
  refine xS.pick [0, 1, 2] rfl ?_
  refine xS.loop (σ := Nat → Nat → Int32) (6 ^ n) (fun j S => [(2, .int (nI j)), (0, .ref 73), (1, .int (nI n))]) (fun _ S => xH b S l) (fun j S => (∀ a, a ≠ 90 → S a = g a) ∧ xfst (fun c => decide (xfst (fun i => !xsafe h tx T G Lw (xd6 n c) i) n = none)) j = none) (g) (rfl) (rfl) (⟨fun _ _ => rfl, rfl⟩) ?_
  intro j S hj hI0 ih
  obtain ⟨hI, hI2⟩ := hI0
  try dsimp only
  have hp6 := pow6 (n := n) (by omega)
  refine xS.s1 rfl rfl ?_
  try dsimp only [Nat.reduceAdd]
  refine xS.s1 rfl rfl ?_
  try dsimp only [Nat.reduceAdd]
  -- 4 yX12_rowsOf
  refine xS.callS rfl rfl rfl ⟨Nat.le_of_ble_eq_true rfl, rfl⟩ (c_X12_rowsOf (by omega)) (fun v M1 hv => ?_)
  rw [hv.1, hv.2]
  clear hv M1 v
  try dsimp only [Nat.reduceAdd, Option.toList, List.cons_append, List.nil_append, List.drop]
  refine xS.br (c := .ge) (off := 57) (l := 3) rfl rfl (fun h7 => ?_) (fun h7 => ?_)
  · have g7 := xt_ge h7
    have e := xnle (b := 6 ^ n) g7 (by omega) (by omega)
    have e2 : 6 ^ n = j := by omega
    refine xS.s1 rfl rfl ?_
    try dsimp only [Nat.reduceAdd, xi_m1]
    refine xS.ret rfl rfl rfl (fun _ _ => rfl) ?_
    refine ⟨S, ⟨fun a h1 h2 => by rw [hI a (by omega)], fun i _ => by rw [hI 73 (by decide)]⟩, fun c hc2 => ?_, rfl, ?_⟩
    · rw [e2, hI2] at hc2
      cases hc2
    · rw [e2, hI2]
      rfl
  · have g7 := xf_ge h7
    have hlt := xnlt (b := 6 ^ n) g7 (by omega) (by omega)
    refine xS.s1 rfl rfl ?_
    try dsimp only [Nat.reduceAdd]
    refine xS.s1 rfl rfl ?_
    try dsimp only [Nat.reduceAdd]
    refine xS.s1 rfl rfl ?_
    try dsimp only [Nat.reduceAdd]
    -- 13 yX12_layDoings
    refine xS.cv rfl rfl rfl rfl rfl rfl ⟨by decide, rfl, rfl⟩ (c_X12_layDoings (by omega) (by omega)) (fun v M1 hv => ?_)
    rw [hv.1, hv.2]
    clear hv M1 v
    have hRg : xRr (glay S n j n) h tx G T Lw := xRr_fr (by rw [glay_na (by decide), hI 73 (by decide)]) (by rw [glay_na (by decide), hI 73 (by decide)]) (by rw [glay_na (by decide), hI 81 (by decide)]) (by rw [glay_na (by decide), hI 82 (by decide)]) (by rw [glay_na (by decide), hI 83 (by decide)]) hR
    try dsimp only [Nat.reduceAdd, Option.toList, List.cons_append, List.nil_append, List.drop]
    refine xS.s1 rfl rfl ?_
    try dsimp only [Nat.reduceAdd, xi_1]
    refine xS.s1 rfl rfl ?_
    try dsimp only [Nat.reduceAdd]
    refine xS.s1 rfl rfl ?_
    try dsimp only [Nat.reduceAdd, xi_0]
    refine xS.s1 rfl rfl ?_
    try dsimp only [Nat.reduceAdd]
    refine xS.pick [0, 1, 3, 4, 2] rfl ?_
    refine xS.loop (σ := Unit) (n) (fun i S => [(4, .int (nI i)), (3, .int (if xfst (fun i => !xsafe h tx T G Lw (xd6 n j) i) i = none then 1 else 0)), (0, .ref 73), (1, .int (nI n)), (2, .int (nI j))]) (fun _ _ => xH b (glay S n j n) l) (fun _ _ => True) (()) (rfl) (rfl) (trivial) ?_
    intro i S2 hi hI9 ih2
    try dsimp only
    refine xS.s1 rfl rfl ?_
    try dsimp only [Nat.reduceAdd]
    refine xS.s1 rfl rfl ?_
    try dsimp only [Nat.reduceAdd]
    refine xS.br (c := .ge) (off := 28) (l := 3) rfl rfl (fun h24 => ?_) (fun h24 => ?_)
    · have g24 := xt_ge h24
      have e := xnle g24 (by omega) (by omega)
      have e3 : n = i := by omega
      rw [← e3]
      refine xS.s1 rfl rfl ?_
      try dsimp only [Nat.reduceAdd]
      refine xS.br0 (c := .eq) (off := 5) (l := 3) rfl rfl (fun h53 => ?_) (fun h53 => ?_)
      · have g53 := xt_eq h53
        refine xS.s1 rfl rfl ?_
        try dsimp only [Nat.reduceAdd, xi_1]
        rw [nI_1]
        refine xS.s1 rfl rfl ?_
        try dsimp only [Nat.reduceAdd]
        refine xS.pick [0, 3, 4] rfl ?_
        exact ih (glay S n j n) (by omega) ⟨fun a ha => by rw [glay_na ha, hI a ha], xfst_n hI2 (decide_eq_false (xif0 g53))⟩
      · have g53 := xf_eq h53
        refine xS.s1 rfl rfl ?_
        try dsimp only [Nat.reduceAdd]
        refine xS.ret rfl rfl rfl (fun _ _ => rfl) ?_
        have hc := xfst_at hI2 (decide_eq_true (xif1 g53)) hlt
        refine ⟨glay S n j n, ⟨fun a h1 h2 => by rw [glay_na (by omega), hI a (by omega)], fun i _ => by rw [glay_na (by decide), hI 73 (by decide)]⟩, fun c hc2 u hu => ?_, rfl, by rw [hc]; rfl⟩
        rw [hc] at hc2
        have ec : j = c := Option.some.inj hc2
        rw [← ec]
        exact glay_in hu
    · have g24 := xf_ge h24
      have hli := xnlt g24 (by omega) (by omega)
      refine xS.s1 rfl rfl ?_
      try dsimp only [Nat.reduceAdd]
      refine xS.br0 (c := .eq) (off := 16) (l := 3) rfl rfl (fun h28 => ?_) (fun h28 => ?_)
      · have g28 := xt_eq h28
        refine xS.s1 rfl rfl ?_
        try dsimp only [Nat.reduceAdd, xi_0]
        refine xS.s1 rfl rfl ?_
        try dsimp only [Nat.reduceAdd]
        refine xS.s1 rfl rfl ?_
        try dsimp only [Nat.reduceAdd, xi_1]
        rw [nI_1]
        refine xS.s1 rfl rfl ?_
        try dsimp only [Nat.reduceAdd]
        refine xS.pick [0, 1, 2, 3, 4] rfl ?_
        have ih3 := ih2 () (by omega) trivial
        have e28 := xif0 g28
        rw [if_neg (by rw [xfst_k e28]; exact e28)] at ih3
        exact ih3
      · have g28 := xf_eq h28
        refine xS.s1 rfl rfl ?_
        try dsimp only [Nat.reduceAdd]
        refine xS.s1 rfl rfl ?_
        try dsimp only [Nat.reduceAdd]
        -- 34 yX12_isSafe
        refine xS.cv rfl rfl rfl rfl rfl rfl ⟨by decide, rfl, rfl⟩ (c_X12_isSafe (f := xd6 n j) hRg (by omega) (fun u hu => ⟨glay_in (by omega), xd6_lt _ _ _⟩)) (fun v M1 hv => ?_)
        rw [hv.1, hv.2]
        clear hv M1 v
        try dsimp only [Nat.reduceAdd, Option.toList, List.cons_append, List.nil_append, List.drop]
        refine xS.br0 (c := .eq) (off := 7) (l := 3) rfl rfl (fun h37 => ?_) (fun h37 => ?_)
        · have g37 := xt_eq h37
          refine xS.s1 rfl rfl ?_
          try dsimp only [Nat.reduceAdd, xi_0]
          refine xS.s1 rfl rfl ?_
          try dsimp only [Nat.reduceAdd]
          refine xS.s1 rfl rfl ?_
          try dsimp only [Nat.reduceAdd, xi_1]
          rw [nI_1]
          refine xS.s1 rfl rfl ?_
          try dsimp only [Nat.reduceAdd]
          refine xS.pick [0, 1, 2, 3, 4] rfl ?_
          have ih3 := ih2 () (by omega) trivial
          have e28 := xif1 g28
          rw [if_neg (by rw [xfst_c e28 (by simp [xif0 g37])]; exact fun z => by cases z)] at ih3
          exact ih3
        · have g37 := xf_eq h37
          refine xS.s1 rfl rfl ?_
          try dsimp only [Nat.reduceAdd, xi_1]
          refine xS.s1 rfl rfl ?_
          try dsimp only [Nat.reduceAdd]
          refine xS.s1 rfl rfl ?_
          try dsimp only [Nat.reduceAdd]
          refine xS.s1 rfl rfl ?_
          try dsimp only [Nat.reduceAdd, xi_1]
          rw [nI_1]
          refine xS.s1 rfl rfl ?_
          try dsimp only [Nat.reduceAdd]
          refine xS.pick [0, 1, 2, 3, 4] rfl ?_
          have ih3 := ih2 () (by omega) trivial
          have e28 := xif1 g28
          rw [if_pos (xfst_n e28 (by simp [xif1 g37]))] at ih3
          exact ih3

set_option maxRecDepth 10000 in
theorem c_X12_game_bad (hx : ¬ (0 ≤ x ∧ x ≤ 3)) : xT (k + 7) 223 [.ref 73, .int x] (xH b g l) (fun r M' => M' = xH b g l ∧ r = some (.int (-1))) := by
  refine xT.of rfl (Nat.le_of_ble_eq_true rfl) ?_
  change xS _ _ 0 [(0, .ref 73), (1, .int x)] [] _ _
  refine xS.s1 rfl rfl ?_
  try dsimp only [Nat.reduceAdd]
  refine xS.s1 rfl rfl ?_
  try dsimp only [Nat.reduceAdd, xi_0]
  refine xS.s1 rfl rfl ?_
  try dsimp only [Nat.reduceAdd, xi_3]
  -- 3 yX12_in
  refine xS.callS rfl rfl rfl ⟨Nat.le_of_ble_eq_true rfl, rfl⟩ c_in_x (fun v M1 hv => ?_)
  rw [hv.1, hv.2]
  clear hv M1 v
  try dsimp only [Nat.reduceAdd, Option.toList, List.cons_append, List.nil_append, List.drop]
  refine xS.br0 (c := .ne) (off := 5) (l := 3) rfl rfl (fun h6 => ?_) (fun h6 => ?_)
  · have g6 := xt_ne h6
    exact absurd (xif1 g6) hx
  · have g6 := xf_ne h6
    refine xS.s1 rfl rfl ?_
    try dsimp only [Nat.reduceAdd, xi_m1]
    refine xS.ret rfl rfl rfl (fun _ _ => rfl) ?_
    exact ⟨rfl, rfl⟩

set_option maxRecDepth 10000 in
theorem c_X12_game_state (hn : n ≤ 3) (hg : g 73 10 = 0) : xT (k + 7) 223 [.ref 73, .int (nI n)] (xH b g l) (fun r M' => M' = xH b g l ∧ r = some (.int (-4))) := by
  refine xT.of rfl (Nat.le_of_ble_eq_true rfl) ?_
  change xS _ _ 0 [(0, .ref 73), (1, .int (nI n))] [] _ _
  refine xS.s1 rfl rfl ?_
  try dsimp only [Nat.reduceAdd]
  refine xS.s1 rfl rfl ?_
  try dsimp only [Nat.reduceAdd, xi_0]
  refine xS.s1 rfl rfl ?_
  try dsimp only [Nat.reduceAdd, xi_3]
  -- 3 yX12_in
  refine xS.callS rfl rfl rfl ⟨Nat.le_of_ble_eq_true rfl, rfl⟩ (c_in_n1 (s := 0) (m := 3) (by omega) (by omega) (by decide)) (fun v M1 hv => ?_)
  rw [hv.1, hv.2]
  clear hv M1 v
  try dsimp only [Nat.reduceAdd, Option.toList, List.cons_append, List.nil_append, List.drop]
  refine xS.br0 (c := .ne) (off := 5) (l := 3) rfl rfl (fun h6 => ?_) (fun h6 => ?_)
  · have g6 := xt_ne h6
    refine xS.s1 rfl rfl ?_
    try dsimp only [Nat.reduceAdd]
    refine xS.gI rfl rfl rfl ⟨by decide, rfl⟩ rfl ?_
    try dsimp only [Nat.reduceAdd]
    refine xS.br0 (c := .ne) (off := 6) (l := 3) rfl rfl (fun h15 => ?_) (fun h15 => ?_)
    · have g15 := xt_ne h15
      exact absurd hg g15
    · have g15 := xf_ne h15
      refine xS.s1 rfl rfl ?_
      try dsimp only [Nat.reduceAdd, xj_m4]
      refine xS.ret rfl rfl rfl (fun _ _ => rfl) ?_
      exact ⟨rfl, rfl⟩
  · have g6 := xf_ne h6
    exfalso; first | exact absurd g6 (by decide) | (simp (disch := omega) only [Int32.lt_iff_toInt_lt, Int32.le_iff_toInt_le, nI_toInt, Int32.reduceToInt] at g6 <;> omega)

theorem xfst_b6 {p : Nat → Bool} {n : Nat} (hn : n ≤ 6) : ∀ s, xfst p (6 ^ n) = some s → s < 2 ^ 31 := fun s e => by
  have := (xfst_lt e).1
  have := pow6 hn
  omega

set_option maxRecDepth 10000 in
theorem c_X12_game_ok (hR : xRr g h tx G T Lw) (hn : n ≤ 3) (hg : ¬ g 73 10 = 0) : xT (k + 7) 223 [.ref 73, .int (nI n)] (xH b g l) (fun r M' => ∃ g0, xFr g g0 ∧ M' = xH b g0 l ∧ r = some (.int (if xfst (fun c => decide (xfst (fun i => !xsafe h tx T G Lw (xd6 n c) i) n = none)) (6 ^ n) = none then 0 else 1))) := by
  refine xT.of rfl (Nat.le_of_ble_eq_true rfl) ?_
  change xS _ _ 0 [(0, .ref 73), (1, .int (nI n))] [] _ _
  refine xS.s1 rfl rfl ?_
  try dsimp only [Nat.reduceAdd]
  refine xS.s1 rfl rfl ?_
  try dsimp only [Nat.reduceAdd, xi_0]
  refine xS.s1 rfl rfl ?_
  try dsimp only [Nat.reduceAdd, xi_3]
  -- 3 yX12_in
  refine xS.callS rfl rfl rfl ⟨Nat.le_of_ble_eq_true rfl, rfl⟩ (c_in_n1 (s := 0) (m := 3) (by omega) (by omega) (by decide)) (fun v M1 hv => ?_)
  rw [hv.1, hv.2]
  clear hv M1 v
  try dsimp only [Nat.reduceAdd, Option.toList, List.cons_append, List.nil_append, List.drop]
  refine xS.br0 (c := .ne) (off := 5) (l := 3) rfl rfl (fun h6 => ?_) (fun h6 => ?_)
  · have g6 := xt_ne h6
    refine xS.s1 rfl rfl ?_
    try dsimp only [Nat.reduceAdd]
    refine xS.gI rfl rfl rfl ⟨by decide, rfl⟩ rfl ?_
    try dsimp only [Nat.reduceAdd]
    refine xS.br0 (c := .ne) (off := 6) (l := 3) rfl rfl (fun h15 => ?_) (fun h15 => ?_)
    · have g15 := xt_ne h15
      refine xS.s1 rfl rfl ?_
      try dsimp only [Nat.reduceAdd]
      refine xS.s1 rfl rfl ?_
      try dsimp only [Nat.reduceAdd]
      -- 23 yX12_gameBy
      refine xS.cv rfl rfl rfl rfl rfl rfl ⟨by decide, rfl, rfl⟩ (c_X12_gameBy hR hn) (fun v M1 hv => ?_)
      obtain ⟨g2, hF2, hd2, hM2, hv2⟩ := hv
      rw [hM2, hv2]
      clear hM2 hv2 M1 v
      try dsimp only [Nat.reduceAdd, Option.toList, List.cons_append, List.nil_append, List.drop]
      refine xS.br0 (c := .lt) (off := 7) (l := 3) rfl rfl (fun h26 => ?_) (fun h26 => ?_)
      · have g26 := xt_lt h26
        refine xS.s1 rfl rfl ?_
        try dsimp only [Nat.reduceAdd, xi_0]
        refine xS.ret rfl rfl rfl (fun _ _ => rfl) ?_
        have q26 : xfst (fun c => decide (xfst (fun i => !xsafe h tx T G Lw (xd6 n c) i) n = none)) (6 ^ n) = none := (xsrc_pos (xfst_b6 (by omega))).mp g26
        refine ⟨g2, hF2, rfl, ?_⟩
        rw [if_pos q26]
      · have g26 := xf_lt h26
        refine xS.s1 rfl rfl ?_
        try dsimp only [Nat.reduceAdd, xi_1]
        refine xS.s1 rfl rfl ?_
        try dsimp only [Nat.reduceAdd]
        refine xS.ret rfl rfl rfl (fun _ _ => rfl) ?_
        have q26 : ¬ xfst (fun c => decide (xfst (fun i => !xsafe h tx T G Lw (xd6 n c) i) n = none)) (6 ^ n) = none := fun z => absurd ((xsrc_pos (xfst_b6 (by omega))).mpr z) (Int32.not_lt.mpr g26)
        refine ⟨g2, hF2, rfl, ?_⟩
        rw [if_neg q26]
    · have g15 := xf_ne h15
      exact absurd g15 hg
  · have g6 := xf_ne h6
    exfalso; first | exact absurd g6 (by decide) | (simp (disch := omega) only [Int32.lt_iff_toInt_lt, Int32.le_iff_toInt_le, nI_toInt, Int32.reduceToInt] at g6 <;> omega)

set_option maxRecDepth 10000 in
theorem c_X12_picks_bad (hx : ¬ (1 ≤ x ∧ x ≤ 3)) : xT (k + 7) 224 [.ref 73, .int x] (xH b g l) (fun r M' => M' = xH b g l ∧ r = some (.int (-1))) := by
  refine xT.of rfl (Nat.le_of_ble_eq_true rfl) ?_
  change xS _ _ 0 [(0, .ref 73), (1, .int x)] [] _ _
  refine xS.s1 rfl rfl ?_
  try dsimp only [Nat.reduceAdd]
  refine xS.s1 rfl rfl ?_
  try dsimp only [Nat.reduceAdd, xi_1]
  refine xS.s1 rfl rfl ?_
  try dsimp only [Nat.reduceAdd, xi_3]
  -- 3 yX12_in
  refine xS.callS rfl rfl rfl ⟨Nat.le_of_ble_eq_true rfl, rfl⟩ c_in_x (fun v M1 hv => ?_)
  rw [hv.1, hv.2]
  clear hv M1 v
  try dsimp only [Nat.reduceAdd, Option.toList, List.cons_append, List.nil_append, List.drop]
  refine xS.br0 (c := .ne) (off := 5) (l := 3) rfl rfl (fun h6 => ?_) (fun h6 => ?_)
  · have g6 := xt_ne h6
    exact absurd (xif1 g6) hx
  · have g6 := xf_ne h6
    refine xS.s1 rfl rfl ?_
    try dsimp only [Nat.reduceAdd, xi_m1]
    refine xS.ret rfl rfl rfl (fun _ _ => rfl) ?_
    exact ⟨rfl, rfl⟩

set_option maxRecDepth 10000 in
theorem c_X12_picks_state (hn : n ≤ 3) (hn0 : 0 < n) (hg : g 73 10 = 0) : xT (k + 7) 224 [.ref 73, .int (nI n)] (xH b g l) (fun r M' => M' = xH b g l ∧ r = some (.int (-4))) := by
  refine xT.of rfl (Nat.le_of_ble_eq_true rfl) ?_
  change xS _ _ 0 [(0, .ref 73), (1, .int (nI n))] [] _ _
  refine xS.s1 rfl rfl ?_
  try dsimp only [Nat.reduceAdd]
  refine xS.s1 rfl rfl ?_
  try dsimp only [Nat.reduceAdd, xi_1]
  refine xS.s1 rfl rfl ?_
  try dsimp only [Nat.reduceAdd, xi_3]
  -- 3 yX12_in
  refine xS.callS rfl rfl rfl ⟨Nat.le_of_ble_eq_true rfl, rfl⟩ (c_in_n1 (s := 1) (m := 3) (by omega) (by omega) (by decide)) (fun v M1 hv => ?_)
  rw [hv.1, hv.2]
  clear hv M1 v
  try dsimp only [Nat.reduceAdd, Option.toList, List.cons_append, List.nil_append, List.drop]
  refine xS.br0 (c := .ne) (off := 5) (l := 3) rfl rfl (fun h6 => ?_) (fun h6 => ?_)
  · have g6 := xt_ne h6
    refine xS.s1 rfl rfl ?_
    try dsimp only [Nat.reduceAdd]
    refine xS.gI rfl rfl rfl ⟨by decide, rfl⟩ rfl ?_
    try dsimp only [Nat.reduceAdd]
    refine xS.br0 (c := .ne) (off := 6) (l := 3) rfl rfl (fun h15 => ?_) (fun h15 => ?_)
    · have g15 := xt_ne h15
      exact absurd hg g15
    · have g15 := xf_ne h15
      refine xS.s1 rfl rfl ?_
      try dsimp only [Nat.reduceAdd, xj_m4]
      refine xS.ret rfl rfl rfl (fun _ _ => rfl) ?_
      exact ⟨rfl, rfl⟩
  · have g6 := xf_ne h6
    exfalso; first | exact absurd g6 (by decide) | (simp (disch := omega) only [Int32.lt_iff_toInt_lt, Int32.le_iff_toInt_le, nI_toInt, Int32.reduceToInt] at g6 <;> omega)

set_option maxRecDepth 10000 in
theorem c_X12_picks_ok (hR : xRr g h tx G T Lw) (hn : n ≤ 3) (hn0 : 0 < n) (hg : ¬ g 73 10 = 0) : xT (k + 7) 224 [.ref 73, .int (nI n)] (xH b g l) (fun r M' => ∃ g0, xFr g g0 ∧ M' = xH b g0 l ∧ r = some (.int (match xfst (fun c => decide (xfst (fun i => !xsafe h tx T G Lw (xd6 n c) i) n = none)) (6 ^ n) with | none => -9 | some c => nI (xd6 n c 0)))) := by
  refine xT.of rfl (Nat.le_of_ble_eq_true rfl) ?_
  change xS _ _ 0 [(0, .ref 73), (1, .int (nI n))] [] _ _
  refine xS.s1 rfl rfl ?_
  try dsimp only [Nat.reduceAdd]
  refine xS.s1 rfl rfl ?_
  try dsimp only [Nat.reduceAdd, xi_1]
  refine xS.s1 rfl rfl ?_
  try dsimp only [Nat.reduceAdd, xi_3]
  -- 3 yX12_in
  refine xS.callS rfl rfl rfl ⟨Nat.le_of_ble_eq_true rfl, rfl⟩ (c_in_n1 (s := 1) (m := 3) (by omega) (by omega) (by decide)) (fun v M1 hv => ?_)
  rw [hv.1, hv.2]
  clear hv M1 v
  try dsimp only [Nat.reduceAdd, Option.toList, List.cons_append, List.nil_append, List.drop]
  refine xS.br0 (c := .ne) (off := 5) (l := 3) rfl rfl (fun h6 => ?_) (fun h6 => ?_)
  · have g6 := xt_ne h6
    refine xS.s1 rfl rfl ?_
    try dsimp only [Nat.reduceAdd]
    refine xS.gI rfl rfl rfl ⟨by decide, rfl⟩ rfl ?_
    try dsimp only [Nat.reduceAdd]
    refine xS.br0 (c := .ne) (off := 6) (l := 3) rfl rfl (fun h15 => ?_) (fun h15 => ?_)
    · have g15 := xt_ne h15
      refine xS.s1 rfl rfl ?_
      try dsimp only [Nat.reduceAdd]
      refine xS.s1 rfl rfl ?_
      try dsimp only [Nat.reduceAdd]
      -- 23 yX12_gameBy
      refine xS.cv rfl rfl rfl rfl rfl rfl ⟨by decide, rfl, rfl⟩ (c_X12_gameBy hR hn) (fun v M1 hv => ?_)
      obtain ⟨g2, hF2, hd2, hM2, hv2⟩ := hv
      rw [hM2, hv2]
      clear hM2 hv2 M1 v
      try dsimp only [Nat.reduceAdd, Option.toList, List.cons_append, List.nil_append, List.drop]
      refine xS.br0 (c := .lt) (off := 12) (l := 3) rfl rfl (fun h26 => ?_) (fun h26 => ?_)
      · have g26 := xt_lt h26
        refine xS.s1 rfl rfl ?_
        try dsimp only [Nat.reduceAdd, xj_m9]
        refine xS.ret rfl rfl rfl (fun _ _ => rfl) ?_
        have q26 := (xsrc_pos (xfst_b6 (by omega))).mp g26
        exact ⟨g2, hF2, rfl, by rw [q26]⟩
      · have g26 := xf_lt h26
        refine xS.s1 rfl rfl ?_
        try dsimp only [Nat.reduceAdd]
        refine xS.gR rfl rfl rfl ⟨by decide, rfl⟩ rfl ?_
        try dsimp only [Nat.reduceAdd]
        refine xS.s1 rfl rfl ?_
        try dsimp only [Nat.reduceAdd, xi_0]
        refine xS.ia (t := 0) rfl xar_90 (by omega) ?_
        try dsimp only [Nat.reduceAdd]
        refine xS.s1 rfl rfl ?_
        try dsimp only [Nat.reduceAdd]
        refine xS.ret rfl rfl rfl (fun _ _ => rfl) ?_
        cases ec : xfst (fun c => decide (xfst (fun i => !xsafe h tx T G Lw (xd6 n c) i) n = none)) (6 ^ n) with
        | none => rw [ec] at g26; exact absurd g26 (by decide)
        | some c => exact ⟨g2, hF2, rfl, by rw [hd2 c ec 0 hn0]⟩
    · have g15 := xf_ne h15
      exact absurd g15 hg
  · have g6 := xf_ne h6
    exfalso; first | exact absurd g6 (by decide) | (simp (disch := omega) only [Int32.lt_iff_toInt_lt, Int32.le_iff_toInt_le, nI_toInt, Int32.reduceToInt] at g6 <;> omega)

set_option maxRecDepth 10000 in
theorem c_X12_odds_bad (hR : xRr g h tx G T Lw) (hx : ¬ ((0 ≤ x ∧ x < nI G) ∧ (0 ≤ y ∧ y < 6) ∧ 0 ≤ z ∧ z ≤ 12)) : xT (k + 5) 225 [.ref 73, .int x, .int y, .int z] (xH b g l) (fun r M' => M' = xH b g l ∧ r = some (.int (-1))) := by
  refine xT.of rfl (Nat.le_of_ble_eq_true rfl) ?_
  change xS _ _ 0 [(0, .ref 73), (1, .int x), (2, .int y), (3, .int z)] [] _ _
  refine xS.s1 rfl rfl ?_
  try dsimp only [Nat.reduceAdd]
  refine xS.s1 rfl rfl ?_
  try dsimp only [Nat.reduceAdd]
  -- 2 yX12_isGlass
  refine xS.cv rfl rfl rfl rfl rfl rfl ⟨by decide, rfl, rfl⟩ (c_X12_isGlass hR.1.1 hR.1.2) (fun v M1 hv => ?_)
  rw [hv.1, hv.2]
  clear hv M1 v
  try dsimp only [Nat.reduceAdd, Option.toList, List.cons_append, List.nil_append, List.drop]
  refine xS.br0 (c := .eq) (off := 20) (l := 3) rfl rfl (fun h5 => ?_) (fun h5 => ?_)
  · have g5 := xt_eq h5
    refine xS.s1 rfl rfl ?_
    try dsimp only [Nat.reduceAdd, xi_m1]
    refine xS.ret rfl rfl rfl (fun _ _ => rfl) ?_
    exact ⟨rfl, rfl⟩
  · have g5 := xf_eq h5
    refine xS.s1 rfl rfl ?_
    try dsimp only [Nat.reduceAdd]
    -- 9 yX12_isRow
    refine xS.callS rfl rfl rfl ⟨Nat.le_of_ble_eq_true rfl, rfl⟩ c_X12_isRow (fun v M1 hv => ?_)
    rw [hv.1, hv.2]
    clear hv M1 v
    try dsimp only [Nat.reduceAdd, Option.toList, List.cons_append, List.nil_append, List.drop]
    refine xS.br0 (c := .eq) (off := 13) (l := 3) rfl rfl (fun h12 => ?_) (fun h12 => ?_)
    · have g12 := xt_eq h12
      refine xS.s1 rfl rfl ?_
      try dsimp only [Nat.reduceAdd, xi_m1]
      refine xS.ret rfl rfl rfl (fun _ _ => rfl) ?_
      exact ⟨rfl, rfl⟩
    · have g12 := xf_eq h12
      refine xS.s1 rfl rfl ?_
      try dsimp only [Nat.reduceAdd]
      refine xS.s1 rfl rfl ?_
      try dsimp only [Nat.reduceAdd, xi_0]
      refine xS.s1 rfl rfl ?_
      try dsimp only [Nat.reduceAdd, xj_12]
      -- 19 yX12_in
      refine xS.callS rfl rfl rfl ⟨Nat.le_of_ble_eq_true rfl, rfl⟩ c_in_x (fun v M1 hv => ?_)
      rw [hv.1, hv.2]
      clear hv M1 v
      try dsimp only [Nat.reduceAdd, Option.toList, List.cons_append, List.nil_append, List.drop]
      refine xS.br0 (c := .ne) (off := 5) (l := 3) rfl rfl (fun h22 => ?_) (fun h22 => ?_)
      · have g22 := xt_ne h22
        exact absurd ⟨xif1 g5, xif1 g12, xif1 g22⟩ hx
      · have g22 := xf_ne h22
        refine xS.s1 rfl rfl ?_
        try dsimp only [Nat.reduceAdd, xi_m1]
        refine xS.ret rfl rfl rfl (fun _ _ => rfl) ?_
        exact ⟨rfl, rfl⟩

set_option maxRecDepth 10000 in
theorem c_X12_odds_ref (hR : xRr g h tx G T Lw) (hk : s < G) (hp1 : p < 6) (he : e1 ≤ 12) (hz : xsz (g 74 p) 40) (hf : xfos (g 74 p) (fun i => g 75 (40 * p + i)) 12 ≠ 0) : xT (k + 5) 225 [.ref 73, .int (nI s), .int (nI p), .int (nI e1)] (xH b g l) (fun r M' => ∃ g', xFr g g' ∧ M' = xH b g' l ∧ r = some (.int (-3))) := by
  refine xT.of rfl (Nat.le_of_ble_eq_true rfl) ?_
  change xS _ _ 0 [(0, .ref 73), (1, .int (nI s)), (2, .int (nI p)), (3, .int (nI e1))] [] _ _
  refine xS.s1 rfl rfl ?_
  try dsimp only [Nat.reduceAdd]
  refine xS.s1 rfl rfl ?_
  try dsimp only [Nat.reduceAdd]
  -- 2 yX12_isGlass
  refine xS.cv rfl rfl rfl rfl rfl rfl ⟨by decide, rfl, rfl⟩ (c_X12_isGlass_in hR.1.1 hR.1.2 hk) (fun v M1 hv => ?_)
  rw [hv.1, hv.2]
  clear hv M1 v
  try dsimp only [Nat.reduceAdd, Option.toList, List.cons_append, List.nil_append, List.drop]
  refine xS.br0 (c := .eq) (off := 20) (l := 3) rfl rfl (fun h5 => ?_) (fun h5 => ?_)
  · have g5 := xt_eq h5
    exfalso; first | exact absurd g5 (by decide) | (simp (disch := omega) only [Int32.lt_iff_toInt_lt, Int32.le_iff_toInt_le, nI_toInt, Int32.reduceToInt] at g5 <;> omega)
  · have g5 := xf_eq h5
    refine xS.s1 rfl rfl ?_
    try dsimp only [Nat.reduceAdd]
    -- 9 yX12_isRow
    refine xS.callS rfl rfl rfl ⟨Nat.le_of_ble_eq_true rfl, rfl⟩ (c_X12_isRow_in hp1) (fun v M1 hv => ?_)
    rw [hv.1, hv.2]
    clear hv M1 v
    try dsimp only [Nat.reduceAdd, Option.toList, List.cons_append, List.nil_append, List.drop]
    refine xS.br0 (c := .eq) (off := 13) (l := 3) rfl rfl (fun h12 => ?_) (fun h12 => ?_)
    · have g12 := xt_eq h12
      exfalso; first | exact absurd g12 (by decide) | (simp (disch := omega) only [Int32.lt_iff_toInt_lt, Int32.le_iff_toInt_le, nI_toInt, Int32.reduceToInt] at g12 <;> omega)
    · have g12 := xf_eq h12
      refine xS.s1 rfl rfl ?_
      try dsimp only [Nat.reduceAdd]
      refine xS.s1 rfl rfl ?_
      try dsimp only [Nat.reduceAdd, xi_0]
      refine xS.s1 rfl rfl ?_
      try dsimp only [Nat.reduceAdd, xj_12]
      -- 19 yX12_in
      refine xS.callS rfl rfl rfl ⟨Nat.le_of_ble_eq_true rfl, rfl⟩ (c_in_n1 (s := 0) (m := 12) (by omega) he (by decide)) (fun v M1 hv => ?_)
      rw [hv.1, hv.2]
      clear hv M1 v
      try dsimp only [Nat.reduceAdd, Option.toList, List.cons_append, List.nil_append, List.drop]
      refine xS.br0 (c := .ne) (off := 5) (l := 3) rfl rfl (fun h22 => ?_) (fun h22 => ?_)
      · have g22 := xt_ne h22
        refine xS.s1 rfl rfl ?_
        try dsimp only [Nat.reduceAdd]
        refine xS.s1 rfl rfl ?_
        try dsimp only [Nat.reduceAdd]
        refine xS.s1 rfl rfl ?_
        try dsimp only [Nat.reduceAdd, xj_12]
        refine xS.s1 rfl rfl ?_
        try dsimp only [Nat.reduceAdd]
        refine xS.gR rfl rfl rfl ⟨by decide, rfl⟩ rfl ?_
        try dsimp only [Nat.reduceAdd]
        -- 35 yX12_takeOut
        refine xS.cv rfl rfl rfl rfl rfl rfl ⟨by decide, rfl, rfl⟩ (c_X12_takeOut_ref xar_90 (by decide) hp1 hz (by decide) hf) (fun v M1 hv => ?_)
        obtain ⟨g2, hF2, hM2, hv2⟩ := hv
        rw [hM2, hv2]
        clear hM2 hv2 M1 v
        try dsimp only [Nat.reduceAdd, Option.toList, List.cons_append, List.nil_append, List.drop]
        refine xS.s1 rfl rfl ?_
        try dsimp only [Nat.reduceAdd]
        refine xS.s1 rfl rfl ?_
        try dsimp only [Nat.reduceAdd]
        refine xS.br0 (c := .ge) (off := 6) (l := 3) rfl rfl (fun h42 => ?_) (fun h42 => ?_)
        · have g42 := xt_ge h42
          exfalso; first | exact absurd g42 (by decide) | (simp (disch := omega) only [Int32.lt_iff_toInt_lt, Int32.le_iff_toInt_le, nI_toInt, Int32.reduceToInt] at g42 <;> omega)
        · have g42 := xf_ge h42
          refine xS.s1 rfl rfl ?_
          try dsimp only [Nat.reduceAdd]
          refine xS.ret rfl rfl rfl (fun _ _ => rfl) ?_
          exact ⟨g2, hF2, rfl, rfl⟩
      · have g22 := xf_ne h22
        exfalso; first | exact absurd g22 (by decide) | (simp (disch := omega) only [Int32.lt_iff_toInt_lt, Int32.le_iff_toInt_le, nI_toInt, Int32.reduceToInt] at g22 <;> omega)

set_option maxRecDepth 10000 in
theorem c_X12_mid_bad (hR : xRr g h tx G T Lw) (hx : ¬ ((0 ≤ x ∧ x < nI G) ∧ (0 ≤ y ∧ y < 6) ∧ 0 ≤ z ∧ z ≤ 12)) : xT (k + 5) 226 [.ref 73, .int x, .int y, .int z] (xH b g l) (fun r M' => M' = xH b g l ∧ r = some (.int (-1))) := by
  refine xT.of rfl (Nat.le_of_ble_eq_true rfl) ?_
  change xS _ _ 0 [(0, .ref 73), (1, .int x), (2, .int y), (3, .int z)] [] _ _
  refine xS.s1 rfl rfl ?_
  try dsimp only [Nat.reduceAdd]
  refine xS.s1 rfl rfl ?_
  try dsimp only [Nat.reduceAdd]
  -- 2 yX12_isGlass
  refine xS.cv rfl rfl rfl rfl rfl rfl ⟨by decide, rfl, rfl⟩ (c_X12_isGlass hR.1.1 hR.1.2) (fun v M1 hv => ?_)
  rw [hv.1, hv.2]
  clear hv M1 v
  try dsimp only [Nat.reduceAdd, Option.toList, List.cons_append, List.nil_append, List.drop]
  refine xS.br0 (c := .eq) (off := 20) (l := 3) rfl rfl (fun h5 => ?_) (fun h5 => ?_)
  · have g5 := xt_eq h5
    refine xS.s1 rfl rfl ?_
    try dsimp only [Nat.reduceAdd, xi_m1]
    refine xS.ret rfl rfl rfl (fun _ _ => rfl) ?_
    exact ⟨rfl, rfl⟩
  · have g5 := xf_eq h5
    refine xS.s1 rfl rfl ?_
    try dsimp only [Nat.reduceAdd]
    -- 9 yX12_isRow
    refine xS.callS rfl rfl rfl ⟨Nat.le_of_ble_eq_true rfl, rfl⟩ c_X12_isRow (fun v M1 hv => ?_)
    rw [hv.1, hv.2]
    clear hv M1 v
    try dsimp only [Nat.reduceAdd, Option.toList, List.cons_append, List.nil_append, List.drop]
    refine xS.br0 (c := .eq) (off := 13) (l := 3) rfl rfl (fun h12 => ?_) (fun h12 => ?_)
    · have g12 := xt_eq h12
      refine xS.s1 rfl rfl ?_
      try dsimp only [Nat.reduceAdd, xi_m1]
      refine xS.ret rfl rfl rfl (fun _ _ => rfl) ?_
      exact ⟨rfl, rfl⟩
    · have g12 := xf_eq h12
      refine xS.s1 rfl rfl ?_
      try dsimp only [Nat.reduceAdd]
      refine xS.s1 rfl rfl ?_
      try dsimp only [Nat.reduceAdd, xi_0]
      refine xS.s1 rfl rfl ?_
      try dsimp only [Nat.reduceAdd, xj_12]
      -- 19 yX12_in
      refine xS.callS rfl rfl rfl ⟨Nat.le_of_ble_eq_true rfl, rfl⟩ c_in_x (fun v M1 hv => ?_)
      rw [hv.1, hv.2]
      clear hv M1 v
      try dsimp only [Nat.reduceAdd, Option.toList, List.cons_append, List.nil_append, List.drop]
      refine xS.br0 (c := .ne) (off := 5) (l := 3) rfl rfl (fun h22 => ?_) (fun h22 => ?_)
      · have g22 := xt_ne h22
        exact absurd ⟨xif1 g5, xif1 g12, xif1 g22⟩ hx
      · have g22 := xf_ne h22
        refine xS.s1 rfl rfl ?_
        try dsimp only [Nat.reduceAdd, xi_m1]
        refine xS.ret rfl rfl rfl (fun _ _ => rfl) ?_
        exact ⟨rfl, rfl⟩

set_option maxRecDepth 10000 in
theorem c_X12_mid_ref (hR : xRr g h tx G T Lw) (hk : s < G) (hp1 : p < 6) (he : e1 ≤ 12) (hz : xsz (g 74 p) 40) (hf : xfos (g 74 p) (fun i => g 75 (40 * p + i)) 12 ≠ 0) : xT (k + 5) 226 [.ref 73, .int (nI s), .int (nI p), .int (nI e1)] (xH b g l) (fun r M' => ∃ g', xFr g g' ∧ M' = xH b g' l ∧ r = some (.int (-3))) := by
  refine xT.of rfl (Nat.le_of_ble_eq_true rfl) ?_
  change xS _ _ 0 [(0, .ref 73), (1, .int (nI s)), (2, .int (nI p)), (3, .int (nI e1))] [] _ _
  refine xS.s1 rfl rfl ?_
  try dsimp only [Nat.reduceAdd]
  refine xS.s1 rfl rfl ?_
  try dsimp only [Nat.reduceAdd]
  -- 2 yX12_isGlass
  refine xS.cv rfl rfl rfl rfl rfl rfl ⟨by decide, rfl, rfl⟩ (c_X12_isGlass_in hR.1.1 hR.1.2 hk) (fun v M1 hv => ?_)
  rw [hv.1, hv.2]
  clear hv M1 v
  try dsimp only [Nat.reduceAdd, Option.toList, List.cons_append, List.nil_append, List.drop]
  refine xS.br0 (c := .eq) (off := 20) (l := 3) rfl rfl (fun h5 => ?_) (fun h5 => ?_)
  · have g5 := xt_eq h5
    exfalso; first | exact absurd g5 (by decide) | (simp (disch := omega) only [Int32.lt_iff_toInt_lt, Int32.le_iff_toInt_le, nI_toInt, Int32.reduceToInt] at g5 <;> omega)
  · have g5 := xf_eq h5
    refine xS.s1 rfl rfl ?_
    try dsimp only [Nat.reduceAdd]
    -- 9 yX12_isRow
    refine xS.callS rfl rfl rfl ⟨Nat.le_of_ble_eq_true rfl, rfl⟩ (c_X12_isRow_in hp1) (fun v M1 hv => ?_)
    rw [hv.1, hv.2]
    clear hv M1 v
    try dsimp only [Nat.reduceAdd, Option.toList, List.cons_append, List.nil_append, List.drop]
    refine xS.br0 (c := .eq) (off := 13) (l := 3) rfl rfl (fun h12 => ?_) (fun h12 => ?_)
    · have g12 := xt_eq h12
      exfalso; first | exact absurd g12 (by decide) | (simp (disch := omega) only [Int32.lt_iff_toInt_lt, Int32.le_iff_toInt_le, nI_toInt, Int32.reduceToInt] at g12 <;> omega)
    · have g12 := xf_eq h12
      refine xS.s1 rfl rfl ?_
      try dsimp only [Nat.reduceAdd]
      refine xS.s1 rfl rfl ?_
      try dsimp only [Nat.reduceAdd, xi_0]
      refine xS.s1 rfl rfl ?_
      try dsimp only [Nat.reduceAdd, xj_12]
      -- 19 yX12_in
      refine xS.callS rfl rfl rfl ⟨Nat.le_of_ble_eq_true rfl, rfl⟩ (c_in_n1 (s := 0) (m := 12) (by omega) he (by decide)) (fun v M1 hv => ?_)
      rw [hv.1, hv.2]
      clear hv M1 v
      try dsimp only [Nat.reduceAdd, Option.toList, List.cons_append, List.nil_append, List.drop]
      refine xS.br0 (c := .ne) (off := 5) (l := 3) rfl rfl (fun h22 => ?_) (fun h22 => ?_)
      · have g22 := xt_ne h22
        refine xS.s1 rfl rfl ?_
        try dsimp only [Nat.reduceAdd]
        refine xS.s1 rfl rfl ?_
        try dsimp only [Nat.reduceAdd]
        refine xS.s1 rfl rfl ?_
        try dsimp only [Nat.reduceAdd, xj_12]
        refine xS.s1 rfl rfl ?_
        try dsimp only [Nat.reduceAdd]
        refine xS.gR rfl rfl rfl ⟨by decide, rfl⟩ rfl ?_
        try dsimp only [Nat.reduceAdd]
        -- 35 yX12_takeOut
        refine xS.cv rfl rfl rfl rfl rfl rfl ⟨by decide, rfl, rfl⟩ (c_X12_takeOut_ref xar_90 (by decide) hp1 hz (by decide) hf) (fun v M1 hv => ?_)
        obtain ⟨g2, hF2, hM2, hv2⟩ := hv
        rw [hM2, hv2]
        clear hM2 hv2 M1 v
        try dsimp only [Nat.reduceAdd, Option.toList, List.cons_append, List.nil_append, List.drop]
        refine xS.s1 rfl rfl ?_
        try dsimp only [Nat.reduceAdd]
        refine xS.s1 rfl rfl ?_
        try dsimp only [Nat.reduceAdd]
        refine xS.br0 (c := .ge) (off := 6) (l := 3) rfl rfl (fun h42 => ?_) (fun h42 => ?_)
        · have g42 := xt_ge h42
          exfalso; first | exact absurd g42 (by decide) | (simp (disch := omega) only [Int32.lt_iff_toInt_lt, Int32.le_iff_toInt_le, nI_toInt, Int32.reduceToInt] at g42 <;> omega)
        · have g42 := xf_ge h42
          refine xS.s1 rfl rfl ?_
          try dsimp only [Nat.reduceAdd]
          refine xS.ret rfl rfl rfl (fun _ _ => rfl) ?_
          exact ⟨g2, hF2, rfl, rfl⟩
      · have g22 := xf_ne h22
        exfalso; first | exact absurd g22 (by decide) | (simp (disch := omega) only [Int32.lt_iff_toInt_lt, Int32.le_iff_toInt_le, nI_toInt, Int32.reduceToInt] at g22 <;> omega)

set_option maxRecDepth 10000 in
theorem c_X12_odds_ok (hR : xRr g h tx G T Lw) (hk : s < G) (he : e1 ≤ 12) (hp1 : p < 6) (hs : g 74 p = nI m) (hm : m ≤ 12) (hf : xfos (g 74 p) (fun i => g 75 (40 * p + i)) 12 = 0) (hx : ∀ i, i < m → xstp (g 75 (40 * p + i))) : xT (k + 5) 225 [.ref 73, .int (nI s), .int (nI p), .int (nI e1)] (xH b g l) (fun r M' => ∃ g0, xFr g g0 ∧ M' = xH b g0 (up (up l 73 21 (lN (xpr (fun i => 12 - xbt (xfb tx T (nI ((fun i => xN (g 75 (40 * p + i))) i)) 0 = none) (xfb tx T (nI ((fun i => xN (g 75 (40 * p + i))) i)) ((xshw h (Lw s / 4) (Lw s % 4) (fun i => xN (g 75 (40 * p + i)))) i) = none) e1) 1 m / Nat.gcd (xpr (fun i => 12 - xbt (xfb tx T (nI ((fun i => xN (g 75 (40 * p + i))) i)) 0 = none) (xfb tx T (nI ((fun i => xN (g 75 (40 * p + i))) i)) ((xshw h (Lw s / 4) (Lw s % 4) (fun i => xN (g 75 (40 * p + i)))) i) = none) e1) 1 m) (12 ^ m)))) 73 22 (lN (12 ^ m / Nat.gcd (xpr (fun i => 12 - xbt (xfb tx T (nI ((fun i => xN (g 75 (40 * p + i))) i)) 0 = none) (xfb tx T (nI ((fun i => xN (g 75 (40 * p + i))) i)) ((xshw h (Lw s / 4) (Lw s % 4) (fun i => xN (g 75 (40 * p + i)))) i) = none) e1) 1 m) (12 ^ m)))) ∧ r = some (.int 1)) := by
  refine xT.of rfl (Nat.le_of_ble_eq_true rfl) ?_
  change xS _ _ 0 [(0, .ref 73), (1, .int (nI s)), (2, .int (nI p)), (3, .int (nI e1))] [] _ _
  refine xS.s1 rfl rfl ?_
  try dsimp only [Nat.reduceAdd]
  refine xS.s1 rfl rfl ?_
  try dsimp only [Nat.reduceAdd]
  -- 2 yX12_isGlass
  refine xS.cv rfl rfl rfl rfl rfl rfl ⟨by decide, rfl, rfl⟩ (c_X12_isGlass_in hR.1.1 hR.1.2 hk) (fun v M1 hv => ?_)
  rw [hv.1, hv.2]
  clear hv M1 v
  try dsimp only [Nat.reduceAdd, Option.toList, List.cons_append, List.nil_append, List.drop]
  refine xS.br0 (c := .eq) (off := 20) (l := 3) rfl rfl (fun h5 => ?_) (fun h5 => ?_)
  · have g5 := xt_eq h5
    exfalso; first | exact absurd g5 (by decide) | (simp (disch := omega) only [Int32.lt_iff_toInt_lt, Int32.le_iff_toInt_le, nI_toInt, Int32.reduceToInt] at g5 <;> omega)
  · have g5 := xf_eq h5
    refine xS.s1 rfl rfl ?_
    try dsimp only [Nat.reduceAdd]
    -- 9 yX12_isRow
    refine xS.callS rfl rfl rfl ⟨Nat.le_of_ble_eq_true rfl, rfl⟩ (c_X12_isRow_in hp1) (fun v M1 hv => ?_)
    rw [hv.1, hv.2]
    clear hv M1 v
    try dsimp only [Nat.reduceAdd, Option.toList, List.cons_append, List.nil_append, List.drop]
    refine xS.br0 (c := .eq) (off := 13) (l := 3) rfl rfl (fun h12 => ?_) (fun h12 => ?_)
    · have g12 := xt_eq h12
      exfalso; first | exact absurd g12 (by decide) | (simp (disch := omega) only [Int32.lt_iff_toInt_lt, Int32.le_iff_toInt_le, nI_toInt, Int32.reduceToInt] at g12 <;> omega)
    · have g12 := xf_eq h12
      refine xS.s1 rfl rfl ?_
      try dsimp only [Nat.reduceAdd]
      refine xS.s1 rfl rfl ?_
      try dsimp only [Nat.reduceAdd, xi_0]
      refine xS.s1 rfl rfl ?_
      try dsimp only [Nat.reduceAdd, xj_12]
      -- 19 yX12_in
      refine xS.callS rfl rfl rfl ⟨Nat.le_of_ble_eq_true rfl, rfl⟩ (c_in_n1 (s := 0) (m := 12) (by omega) he (by decide)) (fun v M1 hv => ?_)
      rw [hv.1, hv.2]
      clear hv M1 v
      try dsimp only [Nat.reduceAdd, Option.toList, List.cons_append, List.nil_append, List.drop]
      refine xS.br0 (c := .ne) (off := 5) (l := 3) rfl rfl (fun h22 => ?_) (fun h22 => ?_)
      · have g22 := xt_ne h22
        refine xS.s1 rfl rfl ?_
        try dsimp only [Nat.reduceAdd]
        refine xS.s1 rfl rfl ?_
        try dsimp only [Nat.reduceAdd]
        refine xS.s1 rfl rfl ?_
        try dsimp only [Nat.reduceAdd, xj_12]
        refine xS.s1 rfl rfl ?_
        try dsimp only [Nat.reduceAdd]
        refine xS.gR rfl rfl rfl ⟨by decide, rfl⟩ rfl ?_
        try dsimp only [Nat.reduceAdd]
        -- 35 yX12_takeOut
        refine xS.cv rfl rfl rfl rfl rfl rfl ⟨by decide, rfl, rfl⟩ (c_X12_takeOut_0 xar_90 (by decide) hp1 hs (by omega) (by decide) hf) (fun v M1 hv => ?_)
        rw [hv.1, hv.2]
        clear hv M1 v
        have hR1 := xRr_F (xFr_gs (n := m) (S := (fun i => g 75 (40 * p + i))) (by decide : 89 ≤ 90)) hR
        have h90 : ∀ u, u < m → gset g 90 m (fun i => g 75 (40 * p + i)) 90 u = nI ((fun i => xN (g 75 (40 * p + i))) u) ∧ (fun i => xN (g 75 (40 * p + i))) u < 6 := fun u hu => by rw [gset_in hu]; exact ⟨(xstp_N (hx u hu)).2, (xstp_N (hx u hu)).1⟩
        have e74 : gset g 90 m (fun i => g 75 (40 * p + i)) 74 p = nI m := by rw [gset_na (by decide)]; exact hs
        try dsimp only [Nat.reduceAdd, Option.toList, List.cons_append, List.nil_append, List.drop]
        refine xS.s1 rfl rfl ?_
        try dsimp only [Nat.reduceAdd]
        refine xS.s1 rfl rfl ?_
        try dsimp only [Nat.reduceAdd]
        refine xS.br0 (c := .ge) (off := 6) (l := 3) rfl rfl (fun h42 => ?_) (fun h42 => ?_)
        · have g42 := xt_ge h42
          refine xS.s1 rfl rfl ?_
          try dsimp only [Nat.reduceAdd]
          refine xS.s1 rfl rfl ?_
          try dsimp only [Nat.reduceAdd]
          refine xS.s1 rfl rfl ?_
          try dsimp only [Nat.reduceAdd]
          refine xS.s1 rfl rfl ?_
          try dsimp only [Nat.reduceAdd]
          refine xS.s1 rfl rfl ?_
          try dsimp only [Nat.reduceAdd, xi_0]
          refine xS.s1 rfl rfl ?_
          try dsimp only [Nat.reduceAdd]
          refine xS.pick [0, 2, 1, 4, 5, 6, 7] rfl ?_
          refine xS.loop (σ := Unit) (m) (fun j S => [(9, .int (nI j)), (5, .long (lN (xpr (fun i => 12 - xbt (xfb tx T (nI ((fun i => xN (g 75 (40 * p + i))) i)) 0 = none) (xfb tx T (nI ((fun i => xN (g 75 (40 * p + i))) i)) ((xshw h (Lw s / 4) (Lw s % 4) (fun i => xN (g 75 (40 * p + i)))) i) = none) e1) 1 j))), (7, .long (lN (12 ^ j))), (0, .ref 73), (1, .int (nI s)), (2, .int (nI p)), (3, .int (nI e1))]) (fun _ _ => xH b (gset g 90 m (fun i => g 75 (40 * p + i))) l) (fun _ _ => True) (()) (rfl) (rfl) (trivial) ?_
          intro j S hj hI ih
          try dsimp only
          have hb1 := xpr_le (f := (fun i => 12 - xbt (xfb tx T (nI ((fun i => xN (g 75 (40 * p + i))) i)) 0 = none) (xfb tx T (nI ((fun i => xN (g 75 (40 * p + i))) i)) ((xshw h (Lw s / 4) (Lw s % 4) (fun i => xN (g 75 (40 * p + i)))) i) = none) e1)) (a := 1) (q := 12) (fun i => Nat.sub_le _ _) j
          have hb2 : 12 ^ j ≤ 12 ^ 12 := Nat.pow_le_pow_right (by omega) (by omega)
          have hb0 : 0 < 12 ^ j := Nat.pow_pos (by omega)
          refine xS.s1 rfl rfl ?_
          try dsimp only [Nat.reduceAdd]
          refine xS.s1 rfl rfl ?_
          try dsimp only [Nat.reduceAdd]
          refine xS.gR rfl rfl rfl ⟨by decide, rfl⟩ rfl ?_
          try dsimp only [Nat.reduceAdd]
          refine xS.s1 rfl rfl ?_
          try dsimp only [Nat.reduceAdd]
          refine xS.ia rfl xar_74 (by omega) ?_
          try dsimp only [Nat.reduceAdd]
          refine xS.br (c := .ge) (off := 64) (l := 3) rfl rfl (fun h65 => ?_) (fun h65 => ?_)
          · have g65 := xt_ge h65
            rw [e74] at g65
            have e := xnle g65 (by omega) (by omega)
            have e2 : m = j := by omega
            subst e2
            refine xS.s1 rfl rfl ?_
            try dsimp only [Nat.reduceAdd]
            refine xS.s1 rfl rfl ?_
            try dsimp only [Nat.reduceAdd]
            refine xS.s1 rfl rfl ?_
            try dsimp only [Nat.reduceAdd]
            -- 134 yX12_tellParts
            refine xS.cv rfl rfl rfl rfl rfl rfl ⟨by decide, rfl, rfl⟩ (c_X12_tellParts (p := xpr (fun i => 12 - xbt (xfb tx T (nI ((fun i => xN (g 75 (40 * p + i))) i)) 0 = none) (xfb tx T (nI ((fun i => xN (g 75 (40 * p + i))) i)) ((xshw h (Lw s / 4) (Lw s % 4) (fun i => xN (g 75 (40 * p + i)))) i) = none) e1) 1 m) (d := 12 ^ m) (by omega) (by omega) hb0) (fun v M1 hv => ?_)
            rw [hv.1, hv.2]
            clear hv M1 v
            try dsimp only [Nat.reduceAdd, Option.toList, List.cons_append, List.nil_append, List.drop]
            refine xS.s1 rfl rfl ?_
            try dsimp only [Nat.reduceAdd, xi_1]
            refine xS.ret rfl rfl rfl (fun _ _ => rfl) ?_
            exact ⟨_, xFr_gs (a := 90) (by decide), rfl, rfl⟩
          · have g65 := xf_ge h65
            rw [e74] at g65
            have hlt := xnlt g65 (by omega) (by omega)
            refine xS.s1 rfl rfl ?_
            try dsimp only [Nat.reduceAdd]
            refine xS.s1 rfl rfl ?_
            try dsimp only [Nat.reduceAdd]
            refine xS.s1 rfl rfl ?_
            try dsimp only [Nat.reduceAdd]
            refine xS.s1 rfl rfl ?_
            try dsimp only [Nat.reduceAdd]
            -- 74 yX12_breaksAt
            refine xS.cv rfl rfl rfl rfl rfl rfl ⟨by decide, rfl, rfl⟩ (c_X12_breaksAt (f := (fun i => xN (g 75 (40 * p + i)))) hR1 hk (by omega) (fun u hu => h90 u (by omega))) (fun v M1 hv => ?_)
            rw [hv.1, hv.2]
            clear hv M1 v
            try dsimp only [Nat.reduceAdd, Option.toList, List.cons_append, List.nil_append, List.drop]
            refine xS.br0 (c := .eq) (off := 7) (l := 3) rfl rfl (fun h77 => ?_) (fun h77 => ?_)
            · have g77 := xt_eq h77
              refine xS.s1 rfl rfl ?_
              try dsimp only [Nat.reduceAdd, xj_12]
              refine xS.s1 rfl rfl ?_
              try dsimp only [Nat.reduceAdd]
              refine xS.s1 rfl rfl ?_
              try dsimp only [Nat.reduceAdd]
              refine xS.s1 rfl rfl ?_
              try dsimp only [Nat.reduceAdd]
              refine xS.s1 rfl rfl ?_
              try dsimp only [Nat.reduceAdd]
              refine xS.gR rfl rfl rfl ⟨by decide, rfl⟩ rfl ?_
              try dsimp only [Nat.reduceAdd]
              refine xS.s1 rfl rfl ?_
              try dsimp only [Nat.reduceAdd]
              refine xS.ia rfl xar_90 (by omega) ?_
              try dsimp only [Nat.reduceAdd]
              rw [(h90 j hlt).1]
              refine xS.s1 rfl rfl ?_
              try dsimp only [Nat.reduceAdd, xi_0]
              -- 97 yX12_termBy
              refine xS.cv rfl rfl rfl rfl rfl rfl ⟨by decide, rfl, rfl⟩ (c_X12_termBy hR1) (fun v M1 hv => ?_)
              rw [hv.1, hv.2]
              clear hv M1 v
              try dsimp only [Nat.reduceAdd, Option.toList, List.cons_append, List.nil_append, List.drop]
              refine xS.s1 rfl rfl ?_
              try dsimp only [Nat.reduceAdd, xj_m9]
              refine xS.br (c := .ne) (off := 7) (l := 3) rfl rfl (fun h102 => ?_) (fun h102 => ?_)
              · have g102 := xt_ne h102
                refine xS.s1 rfl rfl ?_
                try dsimp only [Nat.reduceAdd, xi_0]
                have qB := xif0n g77
                have qA := (not_congr (xfb_n hR.2.1.2)).mp g102
                refine xS.s1 rfl rfl ?_
                try dsimp only [Nat.reduceAdd]
                rw [show (12 - nI e1 : Int32) + 0 = nI (12 - (xbt (xfb tx T (nI ((fun i => xN (g 75 (40 * p + i))) j)) 0 = none) (xfb tx T (nI ((fun i => xN (g 75 (40 * p + i))) j)) ((xshw h (Lw s / 4) (Lw s % 4) (fun i => xN (g 75 (40 * p + i)))) j) = none) e1)) from by have := xbt_12 (A := (xfb tx T (nI ((fun i => xN (g 75 (40 * p + i))) j)) 0 = none)) (B := (xfb tx T (nI ((fun i => xN (g 75 (40 * p + i))) j)) ((xshw h (Lw s / 4) (Lw s % 4) (fun i => xN (g 75 (40 * p + i)))) j) = none)) (dA := inferInstance) (dB := inferInstance) he; rw [if_pos qB, if_neg qA] at this; exact this]
                refine xS.s1 rfl rfl ?_
                try dsimp only [Nat.reduceAdd]
                refine xS.s1 rfl rfl ?_
                try dsimp only [Nat.reduceAdd]
                rw [nI_l (by omega), lN_mul]
                refine xS.s1 rfl rfl ?_
                try dsimp only [Nat.reduceAdd]
                refine xS.s1 rfl rfl ?_
                try dsimp only [Nat.reduceAdd]
                refine xS.s1 rfl rfl ?_
                try dsimp only [Nat.reduceAdd]
                refine xS.s1 rfl rfl ?_
                try dsimp only [Nat.reduceAdd]
                rw [show lN (12 ^ j) * 12 = lN (12 ^ (j + 1)) from lN_mul (12 ^ j) 12]
                refine xS.s1 rfl rfl ?_
                try dsimp only [Nat.reduceAdd]
                refine xS.s1 rfl rfl ?_
                try dsimp only [Nat.reduceAdd, xi_1]
                rw [nI_1]
                refine xS.s1 rfl rfl ?_
                try dsimp only [Nat.reduceAdd]
                refine xS.pick [0, 2, 1, 3, 4, 5, 6] rfl ?_
                exact ih () (by omega) trivial
              · have g102 := xf_ne h102
                refine xS.s1 rfl rfl ?_
                try dsimp only [Nat.reduceAdd]
                refine xS.s1 rfl rfl ?_
                try dsimp only [Nat.reduceAdd]
                have qB := xif0n g77
                have qA := (xfb_n hR.2.1.2).mp g102
                refine xS.s1 rfl rfl ?_
                try dsimp only [Nat.reduceAdd]
                rw [show (12 - nI e1 : Int32) + nI e1 = nI (12 - (xbt (xfb tx T (nI ((fun i => xN (g 75 (40 * p + i))) j)) 0 = none) (xfb tx T (nI ((fun i => xN (g 75 (40 * p + i))) j)) ((xshw h (Lw s / 4) (Lw s % 4) (fun i => xN (g 75 (40 * p + i)))) j) = none) e1)) from by have := xbt_12 (A := (xfb tx T (nI ((fun i => xN (g 75 (40 * p + i))) j)) 0 = none)) (B := (xfb tx T (nI ((fun i => xN (g 75 (40 * p + i))) j)) ((xshw h (Lw s / 4) (Lw s % 4) (fun i => xN (g 75 (40 * p + i)))) j) = none)) (dA := inferInstance) (dB := inferInstance) he; rw [if_pos qB, if_pos qA] at this; exact this]
                refine xS.s1 rfl rfl ?_
                try dsimp only [Nat.reduceAdd]
                refine xS.s1 rfl rfl ?_
                try dsimp only [Nat.reduceAdd]
                rw [nI_l (by omega), lN_mul]
                refine xS.s1 rfl rfl ?_
                try dsimp only [Nat.reduceAdd]
                refine xS.s1 rfl rfl ?_
                try dsimp only [Nat.reduceAdd]
                refine xS.s1 rfl rfl ?_
                try dsimp only [Nat.reduceAdd]
                refine xS.s1 rfl rfl ?_
                try dsimp only [Nat.reduceAdd]
                rw [show lN (12 ^ j) * 12 = lN (12 ^ (j + 1)) from lN_mul (12 ^ j) 12]
                refine xS.s1 rfl rfl ?_
                try dsimp only [Nat.reduceAdd]
                refine xS.s1 rfl rfl ?_
                try dsimp only [Nat.reduceAdd, xi_1]
                rw [nI_1]
                refine xS.s1 rfl rfl ?_
                try dsimp only [Nat.reduceAdd]
                refine xS.pick [0, 2, 1, 3, 4, 5, 6] rfl ?_
                exact ih () (by omega) trivial
            · have g77 := xf_eq h77
              refine xS.s1 rfl rfl ?_
              try dsimp only [Nat.reduceAdd, xi_0]
              refine xS.s1 rfl rfl ?_
              try dsimp only [Nat.reduceAdd]
              refine xS.s1 rfl rfl ?_
              try dsimp only [Nat.reduceAdd]
              refine xS.s1 rfl rfl ?_
              try dsimp only [Nat.reduceAdd]
              refine xS.gR rfl rfl rfl ⟨by decide, rfl⟩ rfl ?_
              try dsimp only [Nat.reduceAdd]
              refine xS.s1 rfl rfl ?_
              try dsimp only [Nat.reduceAdd]
              refine xS.ia rfl xar_90 (by omega) ?_
              try dsimp only [Nat.reduceAdd]
              rw [(h90 j hlt).1]
              refine xS.s1 rfl rfl ?_
              try dsimp only [Nat.reduceAdd, xi_0]
              -- 97 yX12_termBy
              refine xS.cv rfl rfl rfl rfl rfl rfl ⟨by decide, rfl, rfl⟩ (c_X12_termBy hR1) (fun v M1 hv => ?_)
              rw [hv.1, hv.2]
              clear hv M1 v
              try dsimp only [Nat.reduceAdd, Option.toList, List.cons_append, List.nil_append, List.drop]
              refine xS.s1 rfl rfl ?_
              try dsimp only [Nat.reduceAdd, xj_m9]
              refine xS.br (c := .ne) (off := 7) (l := 3) rfl rfl (fun h102 => ?_) (fun h102 => ?_)
              · have g102 := xt_ne h102
                refine xS.s1 rfl rfl ?_
                try dsimp only [Nat.reduceAdd, xi_0]
                have qB := xif1n g77
                have qA := (not_congr (xfb_n hR.2.1.2)).mp g102
                refine xS.s1 rfl rfl ?_
                try dsimp only [Nat.reduceAdd]
                rw [show (0 : Int32) + 0 = nI (12 - (xbt (xfb tx T (nI ((fun i => xN (g 75 (40 * p + i))) j)) 0 = none) (xfb tx T (nI ((fun i => xN (g 75 (40 * p + i))) j)) ((xshw h (Lw s / 4) (Lw s % 4) (fun i => xN (g 75 (40 * p + i)))) j) = none) e1)) from by have := xbt_12 (A := (xfb tx T (nI ((fun i => xN (g 75 (40 * p + i))) j)) 0 = none)) (B := (xfb tx T (nI ((fun i => xN (g 75 (40 * p + i))) j)) ((xshw h (Lw s / 4) (Lw s % 4) (fun i => xN (g 75 (40 * p + i)))) j) = none)) (dA := inferInstance) (dB := inferInstance) he; rw [if_neg qB, if_neg qA] at this; exact this]
                refine xS.s1 rfl rfl ?_
                try dsimp only [Nat.reduceAdd]
                refine xS.s1 rfl rfl ?_
                try dsimp only [Nat.reduceAdd]
                rw [nI_l (by omega), lN_mul]
                refine xS.s1 rfl rfl ?_
                try dsimp only [Nat.reduceAdd]
                refine xS.s1 rfl rfl ?_
                try dsimp only [Nat.reduceAdd]
                refine xS.s1 rfl rfl ?_
                try dsimp only [Nat.reduceAdd]
                refine xS.s1 rfl rfl ?_
                try dsimp only [Nat.reduceAdd]
                rw [show lN (12 ^ j) * 12 = lN (12 ^ (j + 1)) from lN_mul (12 ^ j) 12]
                refine xS.s1 rfl rfl ?_
                try dsimp only [Nat.reduceAdd]
                refine xS.s1 rfl rfl ?_
                try dsimp only [Nat.reduceAdd, xi_1]
                rw [nI_1]
                refine xS.s1 rfl rfl ?_
                try dsimp only [Nat.reduceAdd]
                refine xS.pick [0, 2, 1, 3, 4, 5, 6] rfl ?_
                exact ih () (by omega) trivial
              · have g102 := xf_ne h102
                refine xS.s1 rfl rfl ?_
                try dsimp only [Nat.reduceAdd]
                refine xS.s1 rfl rfl ?_
                try dsimp only [Nat.reduceAdd]
                have qB := xif1n g77
                have qA := (xfb_n hR.2.1.2).mp g102
                refine xS.s1 rfl rfl ?_
                try dsimp only [Nat.reduceAdd]
                rw [show (0 : Int32) + nI e1 = nI (12 - (xbt (xfb tx T (nI ((fun i => xN (g 75 (40 * p + i))) j)) 0 = none) (xfb tx T (nI ((fun i => xN (g 75 (40 * p + i))) j)) ((xshw h (Lw s / 4) (Lw s % 4) (fun i => xN (g 75 (40 * p + i)))) j) = none) e1)) from by have := xbt_12 (A := (xfb tx T (nI ((fun i => xN (g 75 (40 * p + i))) j)) 0 = none)) (B := (xfb tx T (nI ((fun i => xN (g 75 (40 * p + i))) j)) ((xshw h (Lw s / 4) (Lw s % 4) (fun i => xN (g 75 (40 * p + i)))) j) = none)) (dA := inferInstance) (dB := inferInstance) he; rw [if_neg qB, if_pos qA] at this; exact this]
                refine xS.s1 rfl rfl ?_
                try dsimp only [Nat.reduceAdd]
                refine xS.s1 rfl rfl ?_
                try dsimp only [Nat.reduceAdd]
                rw [nI_l (by omega), lN_mul]
                refine xS.s1 rfl rfl ?_
                try dsimp only [Nat.reduceAdd]
                refine xS.s1 rfl rfl ?_
                try dsimp only [Nat.reduceAdd]
                refine xS.s1 rfl rfl ?_
                try dsimp only [Nat.reduceAdd]
                refine xS.s1 rfl rfl ?_
                try dsimp only [Nat.reduceAdd]
                rw [show lN (12 ^ j) * 12 = lN (12 ^ (j + 1)) from lN_mul (12 ^ j) 12]
                refine xS.s1 rfl rfl ?_
                try dsimp only [Nat.reduceAdd]
                refine xS.s1 rfl rfl ?_
                try dsimp only [Nat.reduceAdd, xi_1]
                rw [nI_1]
                refine xS.s1 rfl rfl ?_
                try dsimp only [Nat.reduceAdd]
                refine xS.pick [0, 2, 1, 3, 4, 5, 6] rfl ?_
                exact ih () (by omega) trivial
        · have g42 := xf_ge h42
          exfalso; first | exact absurd g42 (by decide) | (simp (disch := omega) only [Int32.lt_iff_toInt_lt, Int32.le_iff_toInt_le, nI_toInt, Int32.reduceToInt] at g42 <;> omega)
      · have g22 := xf_ne h22
        exfalso; first | exact absurd g22 (by decide) | (simp (disch := omega) only [Int32.lt_iff_toInt_lt, Int32.le_iff_toInt_le, nI_toInt, Int32.reduceToInt] at g22 <;> omega)

set_option maxRecDepth 10000 in
theorem c_X12_mid_ok (hR : xRr g h tx G T Lw) (hk : s < G) (he : e1 ≤ 12) (hp1 : p < 6) (hs : g 74 p = nI m) (hm : m ≤ 12) (hf : xfos (g 74 p) (fun i => g 75 (40 * p + i)) 12 = 0) (hx : ∀ i, i < m → xstp (g 75 (40 * p + i))) : xT (k + 5) 226 [.ref 73, .int (nI s), .int (nI p), .int (nI e1)] (xH b g l) (fun r M' => ∃ g0, xFr g g0 ∧ M' = xH b g0 (up (up l 73 21 (lN (xsm (fun i => xbt (xfb tx T (nI ((fun i => xN (g 75 (40 * p + i))) i)) 0 = none) (xfb tx T (nI ((fun i => xN (g 75 (40 * p + i))) i)) ((xshw h (Lw s / 4) (Lw s % 4) (fun i => xN (g 75 (40 * p + i)))) i) = none) e1) m / Nat.gcd (xsm (fun i => xbt (xfb tx T (nI ((fun i => xN (g 75 (40 * p + i))) i)) 0 = none) (xfb tx T (nI ((fun i => xN (g 75 (40 * p + i))) i)) ((xshw h (Lw s / 4) (Lw s % 4) (fun i => xN (g 75 (40 * p + i)))) i) = none) e1) m) 12))) 73 22 (lN (12 / Nat.gcd (xsm (fun i => xbt (xfb tx T (nI ((fun i => xN (g 75 (40 * p + i))) i)) 0 = none) (xfb tx T (nI ((fun i => xN (g 75 (40 * p + i))) i)) ((xshw h (Lw s / 4) (Lw s % 4) (fun i => xN (g 75 (40 * p + i)))) i) = none) e1) m) 12))) ∧ r = some (.int 1)) := by
  refine xT.of rfl (Nat.le_of_ble_eq_true rfl) ?_
  change xS _ _ 0 [(0, .ref 73), (1, .int (nI s)), (2, .int (nI p)), (3, .int (nI e1))] [] _ _
  refine xS.s1 rfl rfl ?_
  try dsimp only [Nat.reduceAdd]
  refine xS.s1 rfl rfl ?_
  try dsimp only [Nat.reduceAdd]
  -- 2 yX12_isGlass
  refine xS.cv rfl rfl rfl rfl rfl rfl ⟨by decide, rfl, rfl⟩ (c_X12_isGlass_in hR.1.1 hR.1.2 hk) (fun v M1 hv => ?_)
  rw [hv.1, hv.2]
  clear hv M1 v
  try dsimp only [Nat.reduceAdd, Option.toList, List.cons_append, List.nil_append, List.drop]
  refine xS.br0 (c := .eq) (off := 20) (l := 3) rfl rfl (fun h5 => ?_) (fun h5 => ?_)
  · have g5 := xt_eq h5
    exfalso; first | exact absurd g5 (by decide) | (simp (disch := omega) only [Int32.lt_iff_toInt_lt, Int32.le_iff_toInt_le, nI_toInt, Int32.reduceToInt] at g5 <;> omega)
  · have g5 := xf_eq h5
    refine xS.s1 rfl rfl ?_
    try dsimp only [Nat.reduceAdd]
    -- 9 yX12_isRow
    refine xS.callS rfl rfl rfl ⟨Nat.le_of_ble_eq_true rfl, rfl⟩ (c_X12_isRow_in hp1) (fun v M1 hv => ?_)
    rw [hv.1, hv.2]
    clear hv M1 v
    try dsimp only [Nat.reduceAdd, Option.toList, List.cons_append, List.nil_append, List.drop]
    refine xS.br0 (c := .eq) (off := 13) (l := 3) rfl rfl (fun h12 => ?_) (fun h12 => ?_)
    · have g12 := xt_eq h12
      exfalso; first | exact absurd g12 (by decide) | (simp (disch := omega) only [Int32.lt_iff_toInt_lt, Int32.le_iff_toInt_le, nI_toInt, Int32.reduceToInt] at g12 <;> omega)
    · have g12 := xf_eq h12
      refine xS.s1 rfl rfl ?_
      try dsimp only [Nat.reduceAdd]
      refine xS.s1 rfl rfl ?_
      try dsimp only [Nat.reduceAdd, xi_0]
      refine xS.s1 rfl rfl ?_
      try dsimp only [Nat.reduceAdd, xj_12]
      -- 19 yX12_in
      refine xS.callS rfl rfl rfl ⟨Nat.le_of_ble_eq_true rfl, rfl⟩ (c_in_n1 (s := 0) (m := 12) (by omega) he (by decide)) (fun v M1 hv => ?_)
      rw [hv.1, hv.2]
      clear hv M1 v
      try dsimp only [Nat.reduceAdd, Option.toList, List.cons_append, List.nil_append, List.drop]
      refine xS.br0 (c := .ne) (off := 5) (l := 3) rfl rfl (fun h22 => ?_) (fun h22 => ?_)
      · have g22 := xt_ne h22
        refine xS.s1 rfl rfl ?_
        try dsimp only [Nat.reduceAdd]
        refine xS.s1 rfl rfl ?_
        try dsimp only [Nat.reduceAdd]
        refine xS.s1 rfl rfl ?_
        try dsimp only [Nat.reduceAdd, xj_12]
        refine xS.s1 rfl rfl ?_
        try dsimp only [Nat.reduceAdd]
        refine xS.gR rfl rfl rfl ⟨by decide, rfl⟩ rfl ?_
        try dsimp only [Nat.reduceAdd]
        -- 35 yX12_takeOut
        refine xS.cv rfl rfl rfl rfl rfl rfl ⟨by decide, rfl, rfl⟩ (c_X12_takeOut_0 xar_90 (by decide) hp1 hs (by omega) (by decide) hf) (fun v M1 hv => ?_)
        rw [hv.1, hv.2]
        clear hv M1 v
        have hR1 := xRr_F (xFr_gs (n := m) (S := (fun i => g 75 (40 * p + i))) (by decide : 89 ≤ 90)) hR
        have h90 : ∀ u, u < m → gset g 90 m (fun i => g 75 (40 * p + i)) 90 u = nI ((fun i => xN (g 75 (40 * p + i))) u) ∧ (fun i => xN (g 75 (40 * p + i))) u < 6 := fun u hu => by rw [gset_in hu]; exact ⟨(xstp_N (hx u hu)).2, (xstp_N (hx u hu)).1⟩
        have e74 : gset g 90 m (fun i => g 75 (40 * p + i)) 74 p = nI m := by rw [gset_na (by decide)]; exact hs
        try dsimp only [Nat.reduceAdd, Option.toList, List.cons_append, List.nil_append, List.drop]
        refine xS.s1 rfl rfl ?_
        try dsimp only [Nat.reduceAdd]
        refine xS.s1 rfl rfl ?_
        try dsimp only [Nat.reduceAdd]
        refine xS.br0 (c := .ge) (off := 6) (l := 3) rfl rfl (fun h42 => ?_) (fun h42 => ?_)
        · have g42 := xt_ge h42
          refine xS.s1 rfl rfl ?_
          try dsimp only [Nat.reduceAdd]
          refine xS.s1 rfl rfl ?_
          try dsimp only [Nat.reduceAdd]
          refine xS.s1 rfl rfl ?_
          try dsimp only [Nat.reduceAdd, xi_0]
          refine xS.s1 rfl rfl ?_
          try dsimp only [Nat.reduceAdd]
          refine xS.pick [0, 1, 3, 4, 5, 6] rfl ?_
          refine xS.loop (σ := Unit) (m) (fun j S => [(7, .int (nI j)), (5, .long (lN (xsm (fun i => xbt (xfb tx T (nI ((fun i => xN (g 75 (40 * p + i))) i)) 0 = none) (xfb tx T (nI ((fun i => xN (g 75 (40 * p + i))) i)) ((xshw h (Lw s / 4) (Lw s % 4) (fun i => xN (g 75 (40 * p + i)))) i) = none) e1) j))), (0, .ref 73), (1, .int (nI s)), (2, .int (nI p)), (3, .int (nI e1))]) (fun _ _ => xH b (gset g 90 m (fun i => g 75 (40 * p + i))) l) (fun _ _ => True) (()) (rfl) (rfl) (trivial) ?_
          intro j S hj hI ih
          try dsimp only
          have hb1 := xsm_le (f := (fun i => xbt (xfb tx T (nI ((fun i => xN (g 75 (40 * p + i))) i)) 0 = none) (xfb tx T (nI ((fun i => xN (g 75 (40 * p + i))) i)) ((xshw h (Lw s / 4) (Lw s % 4) (fun i => xN (g 75 (40 * p + i)))) i) = none) e1)) (q := 12) (fun i => xbt_le he) j
          refine xS.s1 rfl rfl ?_
          try dsimp only [Nat.reduceAdd]
          refine xS.s1 rfl rfl ?_
          try dsimp only [Nat.reduceAdd]
          refine xS.gR rfl rfl rfl ⟨by decide, rfl⟩ rfl ?_
          try dsimp only [Nat.reduceAdd]
          refine xS.s1 rfl rfl ?_
          try dsimp only [Nat.reduceAdd]
          refine xS.ia rfl xar_74 (by omega) ?_
          try dsimp only [Nat.reduceAdd]
          refine xS.br (c := .ge) (off := 56) (l := 3) rfl rfl (fun h62 => ?_) (fun h62 => ?_)
          · have g62 := xt_ge h62
            rw [e74] at g62
            have e := xnle g62 (by omega) (by omega)
            have e2 : m = j := by omega
            subst e2
            refine xS.s1 rfl rfl ?_
            try dsimp only [Nat.reduceAdd]
            refine xS.s1 rfl rfl ?_
            try dsimp only [Nat.reduceAdd]
            refine xS.s1 rfl rfl ?_
            try dsimp only [Nat.reduceAdd]
            -- 124 yX12_tellParts
            refine xS.cv rfl rfl rfl rfl rfl rfl ⟨by decide, rfl, rfl⟩ (c_X12_tellParts (p := xsm (fun i => xbt (xfb tx T (nI ((fun i => xN (g 75 (40 * p + i))) i)) 0 = none) (xfb tx T (nI ((fun i => xN (g 75 (40 * p + i))) i)) ((xshw h (Lw s / 4) (Lw s % 4) (fun i => xN (g 75 (40 * p + i)))) i) = none) e1) m) (d := 12) (by omega) (by omega) (by omega)) (fun v M1 hv => ?_)
            rw [hv.1, hv.2]
            clear hv M1 v
            try dsimp only [Nat.reduceAdd, Option.toList, List.cons_append, List.nil_append, List.drop]
            refine xS.s1 rfl rfl ?_
            try dsimp only [Nat.reduceAdd, xi_1]
            refine xS.ret rfl rfl rfl (fun _ _ => rfl) ?_
            exact ⟨_, xFr_gs (a := 90) (by decide), rfl, rfl⟩
          · have g62 := xf_ge h62
            rw [e74] at g62
            have hlt := xnlt g62 (by omega) (by omega)
            refine xS.s1 rfl rfl ?_
            try dsimp only [Nat.reduceAdd]
            refine xS.s1 rfl rfl ?_
            try dsimp only [Nat.reduceAdd]
            refine xS.s1 rfl rfl ?_
            try dsimp only [Nat.reduceAdd]
            refine xS.s1 rfl rfl ?_
            try dsimp only [Nat.reduceAdd]
            -- 71 yX12_breaksAt
            refine xS.cv rfl rfl rfl rfl rfl rfl ⟨by decide, rfl, rfl⟩ (c_X12_breaksAt (f := (fun i => xN (g 75 (40 * p + i)))) hR1 hk (by omega) (fun u hu => h90 u (by omega))) (fun v M1 hv => ?_)
            rw [hv.1, hv.2]
            clear hv M1 v
            try dsimp only [Nat.reduceAdd, Option.toList, List.cons_append, List.nil_append, List.drop]
            refine xS.br0 (c := .eq) (off := 10) (l := 3) rfl rfl (fun h74 => ?_) (fun h74 => ?_)
            · have g74 := xt_eq h74
              refine xS.s1 rfl rfl ?_
              try dsimp only [Nat.reduceAdd, xi_0]
              refine xS.s1 rfl rfl ?_
              try dsimp only [Nat.reduceAdd]
              refine xS.s1 rfl rfl ?_
              try dsimp only [Nat.reduceAdd]
              refine xS.gR rfl rfl rfl ⟨by decide, rfl⟩ rfl ?_
              try dsimp only [Nat.reduceAdd]
              refine xS.s1 rfl rfl ?_
              try dsimp only [Nat.reduceAdd]
              refine xS.ia rfl xar_90 (by omega) ?_
              try dsimp only [Nat.reduceAdd]
              rw [(h90 j hlt).1]
              refine xS.s1 rfl rfl ?_
              try dsimp only [Nat.reduceAdd, xi_0]
              -- 94 yX12_termBy
              refine xS.cv rfl rfl rfl rfl rfl rfl ⟨by decide, rfl, rfl⟩ (c_X12_termBy hR1) (fun v M1 hv => ?_)
              rw [hv.1, hv.2]
              clear hv M1 v
              try dsimp only [Nat.reduceAdd, Option.toList, List.cons_append, List.nil_append, List.drop]
              refine xS.s1 rfl rfl ?_
              try dsimp only [Nat.reduceAdd, xj_m9]
              refine xS.br (c := .ne) (off := 7) (l := 3) rfl rfl (fun h99 => ?_) (fun h99 => ?_)
              · have g99 := xt_ne h99
                refine xS.s1 rfl rfl ?_
                try dsimp only [Nat.reduceAdd]
                have qB := xif0n g74
                have qA := (not_congr (xfb_n hR.2.1.2)).mp g99
                refine xS.s1 rfl rfl ?_
                try dsimp only [Nat.reduceAdd]
                rw [show (0 : Int32) + nI e1 = nI (xbt (xfb tx T (nI ((fun i => xN (g 75 (40 * p + i))) j)) 0 = none) (xfb tx T (nI ((fun i => xN (g 75 (40 * p + i))) j)) ((xshw h (Lw s / 4) (Lw s % 4) (fun i => xN (g 75 (40 * p + i)))) j) = none) e1) from by have := xbt_e (A := (xfb tx T (nI ((fun i => xN (g 75 (40 * p + i))) j)) 0 = none)) (B := (xfb tx T (nI ((fun i => xN (g 75 (40 * p + i))) j)) ((xshw h (Lw s / 4) (Lw s % 4) (fun i => xN (g 75 (40 * p + i)))) j) = none)) (dA := inferInstance) (dB := inferInstance) he; rw [if_pos qB, if_neg qA, Int32.add_comm] at this; exact this]
                refine xS.s1 rfl rfl ?_
                try dsimp only [Nat.reduceAdd]
                refine xS.s1 rfl rfl ?_
                try dsimp only [Nat.reduceAdd]
                rw [nI_l (Nat.lt_of_le_of_lt (xbt_le he) (by decide)), lN_add]
                refine xS.s1 rfl rfl ?_
                try dsimp only [Nat.reduceAdd]
                refine xS.s1 rfl rfl ?_
                try dsimp only [Nat.reduceAdd, xi_1]
                rw [nI_1]
                refine xS.s1 rfl rfl ?_
                try dsimp only [Nat.reduceAdd]
                refine xS.pick [0, 1, 2, 3, 4, 5] rfl ?_
                exact ih () (by omega) trivial
              · have g99 := xf_ne h99
                refine xS.s1 rfl rfl ?_
                try dsimp only [Nat.reduceAdd, xi_0]
                refine xS.s1 rfl rfl ?_
                try dsimp only [Nat.reduceAdd]
                have qB := xif0n g74
                have qA := (xfb_n hR.2.1.2).mp g99
                refine xS.s1 rfl rfl ?_
                try dsimp only [Nat.reduceAdd]
                rw [show (0 : Int32) + 0 = nI (xbt (xfb tx T (nI ((fun i => xN (g 75 (40 * p + i))) j)) 0 = none) (xfb tx T (nI ((fun i => xN (g 75 (40 * p + i))) j)) ((xshw h (Lw s / 4) (Lw s % 4) (fun i => xN (g 75 (40 * p + i)))) j) = none) e1) from by have := xbt_e (A := (xfb tx T (nI ((fun i => xN (g 75 (40 * p + i))) j)) 0 = none)) (B := (xfb tx T (nI ((fun i => xN (g 75 (40 * p + i))) j)) ((xshw h (Lw s / 4) (Lw s % 4) (fun i => xN (g 75 (40 * p + i)))) j) = none)) (dA := inferInstance) (dB := inferInstance) he; rw [if_pos qB, if_pos qA, Int32.add_comm] at this; exact this]
                refine xS.s1 rfl rfl ?_
                try dsimp only [Nat.reduceAdd]
                refine xS.s1 rfl rfl ?_
                try dsimp only [Nat.reduceAdd]
                rw [nI_l (Nat.lt_of_le_of_lt (xbt_le he) (by decide)), lN_add]
                refine xS.s1 rfl rfl ?_
                try dsimp only [Nat.reduceAdd]
                refine xS.s1 rfl rfl ?_
                try dsimp only [Nat.reduceAdd, xi_1]
                rw [nI_1]
                refine xS.s1 rfl rfl ?_
                try dsimp only [Nat.reduceAdd]
                refine xS.pick [0, 1, 2, 3, 4, 5] rfl ?_
                exact ih () (by omega) trivial
            · have g74 := xf_eq h74
              refine xS.s1 rfl rfl ?_
              try dsimp only [Nat.reduceAdd, xj_12]
              refine xS.s1 rfl rfl ?_
              try dsimp only [Nat.reduceAdd]
              refine xS.s1 rfl rfl ?_
              try dsimp only [Nat.reduceAdd]
              refine xS.s1 rfl rfl ?_
              try dsimp only [Nat.reduceAdd]
              refine xS.s1 rfl rfl ?_
              try dsimp only [Nat.reduceAdd]
              refine xS.s1 rfl rfl ?_
              try dsimp only [Nat.reduceAdd]
              refine xS.gR rfl rfl rfl ⟨by decide, rfl⟩ rfl ?_
              try dsimp only [Nat.reduceAdd]
              refine xS.s1 rfl rfl ?_
              try dsimp only [Nat.reduceAdd]
              refine xS.ia rfl xar_90 (by omega) ?_
              try dsimp only [Nat.reduceAdd]
              rw [(h90 j hlt).1]
              refine xS.s1 rfl rfl ?_
              try dsimp only [Nat.reduceAdd, xi_0]
              -- 94 yX12_termBy
              refine xS.cv rfl rfl rfl rfl rfl rfl ⟨by decide, rfl, rfl⟩ (c_X12_termBy hR1) (fun v M1 hv => ?_)
              rw [hv.1, hv.2]
              clear hv M1 v
              try dsimp only [Nat.reduceAdd, Option.toList, List.cons_append, List.nil_append, List.drop]
              refine xS.s1 rfl rfl ?_
              try dsimp only [Nat.reduceAdd, xj_m9]
              refine xS.br (c := .ne) (off := 7) (l := 3) rfl rfl (fun h99 => ?_) (fun h99 => ?_)
              · have g99 := xt_ne h99
                refine xS.s1 rfl rfl ?_
                try dsimp only [Nat.reduceAdd]
                have qB := xif1n g74
                have qA := (not_congr (xfb_n hR.2.1.2)).mp g99
                refine xS.s1 rfl rfl ?_
                try dsimp only [Nat.reduceAdd]
                rw [show (12 - nI e1 : Int32) + nI e1 = nI (xbt (xfb tx T (nI ((fun i => xN (g 75 (40 * p + i))) j)) 0 = none) (xfb tx T (nI ((fun i => xN (g 75 (40 * p + i))) j)) ((xshw h (Lw s / 4) (Lw s % 4) (fun i => xN (g 75 (40 * p + i)))) j) = none) e1) from by have := xbt_e (A := (xfb tx T (nI ((fun i => xN (g 75 (40 * p + i))) j)) 0 = none)) (B := (xfb tx T (nI ((fun i => xN (g 75 (40 * p + i))) j)) ((xshw h (Lw s / 4) (Lw s % 4) (fun i => xN (g 75 (40 * p + i)))) j) = none)) (dA := inferInstance) (dB := inferInstance) he; rw [if_neg qB, if_neg qA, Int32.add_comm] at this; exact this]
                refine xS.s1 rfl rfl ?_
                try dsimp only [Nat.reduceAdd]
                refine xS.s1 rfl rfl ?_
                try dsimp only [Nat.reduceAdd]
                rw [nI_l (Nat.lt_of_le_of_lt (xbt_le he) (by decide)), lN_add]
                refine xS.s1 rfl rfl ?_
                try dsimp only [Nat.reduceAdd]
                refine xS.s1 rfl rfl ?_
                try dsimp only [Nat.reduceAdd, xi_1]
                rw [nI_1]
                refine xS.s1 rfl rfl ?_
                try dsimp only [Nat.reduceAdd]
                refine xS.pick [0, 1, 2, 3, 4, 5] rfl ?_
                exact ih () (by omega) trivial
              · have g99 := xf_ne h99
                refine xS.s1 rfl rfl ?_
                try dsimp only [Nat.reduceAdd, xi_0]
                refine xS.s1 rfl rfl ?_
                try dsimp only [Nat.reduceAdd]
                have qB := xif1n g74
                have qA := (xfb_n hR.2.1.2).mp g99
                refine xS.s1 rfl rfl ?_
                try dsimp only [Nat.reduceAdd]
                rw [show (12 - nI e1 : Int32) + 0 = nI (xbt (xfb tx T (nI ((fun i => xN (g 75 (40 * p + i))) j)) 0 = none) (xfb tx T (nI ((fun i => xN (g 75 (40 * p + i))) j)) ((xshw h (Lw s / 4) (Lw s % 4) (fun i => xN (g 75 (40 * p + i)))) j) = none) e1) from by have := xbt_e (A := (xfb tx T (nI ((fun i => xN (g 75 (40 * p + i))) j)) 0 = none)) (B := (xfb tx T (nI ((fun i => xN (g 75 (40 * p + i))) j)) ((xshw h (Lw s / 4) (Lw s % 4) (fun i => xN (g 75 (40 * p + i)))) j) = none)) (dA := inferInstance) (dB := inferInstance) he; rw [if_neg qB, if_pos qA, Int32.add_comm] at this; exact this]
                refine xS.s1 rfl rfl ?_
                try dsimp only [Nat.reduceAdd]
                refine xS.s1 rfl rfl ?_
                try dsimp only [Nat.reduceAdd]
                rw [nI_l (Nat.lt_of_le_of_lt (xbt_le he) (by decide)), lN_add]
                refine xS.s1 rfl rfl ?_
                try dsimp only [Nat.reduceAdd]
                refine xS.s1 rfl rfl ?_
                try dsimp only [Nat.reduceAdd, xi_1]
                rw [nI_1]
                refine xS.s1 rfl rfl ?_
                try dsimp only [Nat.reduceAdd]
                refine xS.pick [0, 1, 2, 3, 4, 5] rfl ?_
                exact ih () (by omega) trivial
        · have g42 := xf_ge h42
          exfalso; first | exact absurd g42 (by decide) | (simp (disch := omega) only [Int32.lt_iff_toInt_lt, Int32.le_iff_toInt_le, nI_toInt, Int32.reduceToInt] at g42 <;> omega)
      · have g22 := xf_ne h22
        exfalso; first | exact absurd g22 (by decide) | (simp (disch := omega) only [Int32.lt_iff_toInt_lt, Int32.le_iff_toInt_le, nI_toInt, Int32.reduceToInt] at g22 <;> omega)

end
end
section
/-! LimpMirrorModel: lots, counts, digest, keeps, still -/
theorem up_up {α : Type} {g : Nat → Nat → α} {a i : Nat} {v w : α} : up (up g a i v) a i w = up g a i w := by
  funext x y
  unfold up
  by_cases e : x = a ∧ y = i
  · rw [if_pos e, if_pos e]
  · rw [if_neg e, if_neg e]
    exact (if_neg e).symm
def xfw (p : Nat → Bool) (st : Nat → Nat) (n : Nat) : Option Nat := Nat.rec (motive := fun _ => Option Nat) none (fun c o => bif p c then (match o with
  | none => some (st c)
  | some f => some (if st c < f then st c else f)) else o) n
theorem xfw_s (p : Nat → Bool) (st : Nat → Nat) (n : Nat) : xfw p st (n + 1) = bif p n then (match xfw p st n with
  | none => some (st n)
  | some f => some (if st n < f then st n else f)) else xfw p st n := rfl
theorem xfw_b {p : Nat → Bool} {st : Nat → Nat} {q : Nat} (h : ∀ c, st c ≤ q) : ∀ n d, xfw p st n = some d → d ≤ q := by
  intro n
  induction n with
  | zero => intro d e; cases e
  | succ n ih =>
    intro d e
    rw [xfw_s] at e
    cases hp : p n with
    | false => rw [hp] at e; exact ih d e
    | true =>
      rw [hp] at e
      cases eo : xfw p st n with
      | none => rw [eo] at e; cases e; exact h n
      | some f =>
        rw [eo] at e
        have e := Option.some.inj e
        have h1 := ih f eo
        have h2 := h n
        rw [← e]
        split <;> omega
theorem xfI_neg {o : Option Nat} (h : ∀ d, o = some d → d < 2 ^ 31) : xfI o < 0 ↔ o = none := by
  cases o with
  | none => exact ⟨fun _ => rfl, fun _ => by decide⟩
  | some d => exact ⟨fun z => absurd z (nI_pos (h d rfl)), fun z => by cases z⟩

section
variable {k a c n n2 m t p s d i1 j1 : Nat} {b : Nat × Nat} {g : Nat → Nat → Int32} {l : Nat → Nat → Int64} {i j x y z v w : Int32} {u w1 w2 : Int64}
variable {L G T e1 q1 κ δ : Nat} {Lw f f2 : Nat → Nat} {h tx F4 Rw Rw2 O : Nat → Int32}
set_option maxRecDepth 10000 in
theorem c_X12_lots_bad (hx : ¬ ((1 ≤ x ∧ x ≤ 20) ∧ 1 ≤ y ∧ y ≤ 2147483646)) : xT (k + 6) 227 [.ref 73, .int x, .int y] (xH b g l) (fun r M' => M' = xH b g l ∧ r = some (.int (-1))) := by
  refine xT.of rfl (Nat.le_of_ble_eq_true rfl) ?_
  change xS _ _ 0 [(0, .ref 73), (1, .int x), (2, .int y)] [] _ _
  refine xS.s1 rfl rfl ?_
  try dsimp only [Nat.reduceAdd]
  refine xS.s1 rfl rfl ?_
  try dsimp only [Nat.reduceAdd, xi_1]
  refine xS.s1 rfl rfl ?_
  try dsimp only [Nat.reduceAdd, xj_20]
  -- 4 yX12_in
  refine xS.callS rfl rfl rfl ⟨Nat.le_of_ble_eq_true rfl, rfl⟩ c_in_x (fun v M1 hv => ?_)
  rw [hv.1, hv.2]
  clear hv M1 v
  try dsimp only [Nat.reduceAdd, Option.toList, List.cons_append, List.nil_append, List.drop]
  refine xS.br0 (c := .eq) (off := 13) (l := 3) rfl rfl (fun h7 => ?_) (fun h7 => ?_)
  · have g7 := xt_eq h7
    refine xS.s1 rfl rfl ?_
    try dsimp only [Nat.reduceAdd, xi_m1]
    refine xS.ret rfl rfl rfl (fun _ _ => rfl) ?_
    exact ⟨rfl, rfl⟩
  · have g7 := xf_eq h7
    refine xS.s1 rfl rfl ?_
    try dsimp only [Nat.reduceAdd]
    refine xS.s1 rfl rfl ?_
    try dsimp only [Nat.reduceAdd, xi_1]
    refine xS.s1 rfl rfl ?_
    try dsimp only [Nat.reduceAdd]
    -- 14 yX12_in
    refine xS.callS rfl rfl rfl ⟨Nat.le_of_ble_eq_true rfl, rfl⟩ c_in_x (fun v M1 hv => ?_)
    rw [hv.1, hv.2]
    clear hv M1 v
    try dsimp only [Nat.reduceAdd, Option.toList, List.cons_append, List.nil_append, List.drop]
    refine xS.br0 (c := .ne) (off := 5) (l := 3) rfl rfl (fun h17 => ?_) (fun h17 => ?_)
    · have g17 := xt_ne h17
      exact absurd ⟨xif1 g7, xif1 g17⟩ hx
    · have g17 := xf_ne h17
      refine xS.s1 rfl rfl ?_
      try dsimp only [Nat.reduceAdd, xi_m1]
      refine xS.ret rfl rfl rfl (fun _ _ => rfl) ?_
      exact ⟨rfl, rfl⟩

set_option maxRecDepth 10000 in
theorem c_X12_lots_state (hn1 : 1 ≤ n) (hn : n ≤ 20) (hq : 1 ≤ q1) (hq2 : q1 < 2147483647) (hg : g 73 10 = 0) : xT (k + 6) 227 [.ref 73, .int (nI n), .int (nI q1)] (xH b g l) (fun r M' => M' = xH b g l ∧ r = some (.int (-4))) := by
  refine xT.of rfl (Nat.le_of_ble_eq_true rfl) ?_
  change xS _ _ 0 [(0, .ref 73), (1, .int (nI n)), (2, .int (nI q1))] [] _ _
  refine xS.s1 rfl rfl ?_
  try dsimp only [Nat.reduceAdd]
  refine xS.s1 rfl rfl ?_
  try dsimp only [Nat.reduceAdd, xi_1]
  refine xS.s1 rfl rfl ?_
  try dsimp only [Nat.reduceAdd, xj_20]
  -- 4 yX12_in
  refine xS.callS rfl rfl rfl ⟨Nat.le_of_ble_eq_true rfl, rfl⟩ (c_in_n1 (s := 1) (m := 20) hn1 hn (by decide)) (fun v M1 hv => ?_)
  rw [hv.1, hv.2]
  clear hv M1 v
  try dsimp only [Nat.reduceAdd, Option.toList, List.cons_append, List.nil_append, List.drop]
  refine xS.br0 (c := .eq) (off := 13) (l := 3) rfl rfl (fun h7 => ?_) (fun h7 => ?_)
  · have g7 := xt_eq h7
    exfalso; first | exact absurd g7 (by decide) | (simp (disch := omega) only [Int32.lt_iff_toInt_lt, Int32.le_iff_toInt_le, nI_toInt, Int32.reduceToInt] at g7 <;> omega)
  · have g7 := xf_eq h7
    refine xS.s1 rfl rfl ?_
    try dsimp only [Nat.reduceAdd]
    refine xS.s1 rfl rfl ?_
    try dsimp only [Nat.reduceAdd, xi_1]
    refine xS.s1 rfl rfl ?_
    try dsimp only [Nat.reduceAdd]
    -- 14 yX12_in
    refine xS.callS rfl rfl rfl ⟨Nat.le_of_ble_eq_true rfl, rfl⟩ (c_in_n1 (s := 1) (m := 2147483646) hq (by omega) (by decide)) (fun v M1 hv => ?_)
    rw [hv.1, hv.2]
    clear hv M1 v
    try dsimp only [Nat.reduceAdd, Option.toList, List.cons_append, List.nil_append, List.drop]
    refine xS.br0 (c := .ne) (off := 5) (l := 3) rfl rfl (fun h17 => ?_) (fun h17 => ?_)
    · have g17 := xt_ne h17
      refine xS.s1 rfl rfl ?_
      try dsimp only [Nat.reduceAdd]
      refine xS.gI rfl rfl rfl ⟨by decide, rfl⟩ rfl ?_
      try dsimp only [Nat.reduceAdd]
      refine xS.br0 (c := .ne) (off := 6) (l := 3) rfl rfl (fun h26 => ?_) (fun h26 => ?_)
      · have g26 := xt_ne h26
        exact absurd hg g26
      · have g26 := xf_ne h26
        refine xS.s1 rfl rfl ?_
        try dsimp only [Nat.reduceAdd, xj_m4]
        refine xS.ret rfl rfl rfl (fun _ _ => rfl) ?_
        exact ⟨rfl, rfl⟩
    · have g17 := xf_ne h17
      exfalso; first | exact absurd g17 (by decide) | (simp (disch := omega) only [Int32.lt_iff_toInt_lt, Int32.le_iff_toInt_le, nI_toInt, Int32.reduceToInt] at g17 <;> omega)

set_option maxRecDepth 10000 in
theorem c_X12_lots_full (hn1 : 1 ≤ n) (hn : n ≤ 20) (hq : 1 ≤ q1) (hq2 : q1 < 2147483647) (hg : ¬ g 73 10 = 0) (hs : g 73 14 = nI m) (hm : m ≤ 40) (hmn : 40 < m + n) : xT (k + 6) 227 [.ref 73, .int (nI n), .int (nI q1)] (xH b g l) (fun r M' => M' = xH b g l ∧ r = some (.int (-2))) := by
  refine xT.of rfl (Nat.le_of_ble_eq_true rfl) ?_
  change xS _ _ 0 [(0, .ref 73), (1, .int (nI n)), (2, .int (nI q1))] [] _ _
  refine xS.s1 rfl rfl ?_
  try dsimp only [Nat.reduceAdd]
  refine xS.s1 rfl rfl ?_
  try dsimp only [Nat.reduceAdd, xi_1]
  refine xS.s1 rfl rfl ?_
  try dsimp only [Nat.reduceAdd, xj_20]
  -- 4 yX12_in
  refine xS.callS rfl rfl rfl ⟨Nat.le_of_ble_eq_true rfl, rfl⟩ (c_in_n1 (s := 1) (m := 20) hn1 hn (by decide)) (fun v M1 hv => ?_)
  rw [hv.1, hv.2]
  clear hv M1 v
  try dsimp only [Nat.reduceAdd, Option.toList, List.cons_append, List.nil_append, List.drop]
  refine xS.br0 (c := .eq) (off := 13) (l := 3) rfl rfl (fun h7 => ?_) (fun h7 => ?_)
  · have g7 := xt_eq h7
    exfalso; first | exact absurd g7 (by decide) | (simp (disch := omega) only [Int32.lt_iff_toInt_lt, Int32.le_iff_toInt_le, nI_toInt, Int32.reduceToInt] at g7 <;> omega)
  · have g7 := xf_eq h7
    refine xS.s1 rfl rfl ?_
    try dsimp only [Nat.reduceAdd]
    refine xS.s1 rfl rfl ?_
    try dsimp only [Nat.reduceAdd, xi_1]
    refine xS.s1 rfl rfl ?_
    try dsimp only [Nat.reduceAdd]
    -- 14 yX12_in
    refine xS.callS rfl rfl rfl ⟨Nat.le_of_ble_eq_true rfl, rfl⟩ (c_in_n1 (s := 1) (m := 2147483646) hq (by omega) (by decide)) (fun v M1 hv => ?_)
    rw [hv.1, hv.2]
    clear hv M1 v
    try dsimp only [Nat.reduceAdd, Option.toList, List.cons_append, List.nil_append, List.drop]
    refine xS.br0 (c := .ne) (off := 5) (l := 3) rfl rfl (fun h17 => ?_) (fun h17 => ?_)
    · have g17 := xt_ne h17
      refine xS.s1 rfl rfl ?_
      try dsimp only [Nat.reduceAdd]
      refine xS.gI rfl rfl rfl ⟨by decide, rfl⟩ rfl ?_
      try dsimp only [Nat.reduceAdd]
      refine xS.br0 (c := .ne) (off := 6) (l := 3) rfl rfl (fun h26 => ?_) (fun h26 => ?_)
      · have g26 := xt_ne h26
        refine xS.s1 rfl rfl ?_
        try dsimp only [Nat.reduceAdd]
        refine xS.gI rfl rfl rfl ⟨by decide, rfl⟩ rfl ?_
        try dsimp only [Nat.reduceAdd]
        rw [hs]
        refine xS.s1 rfl rfl ?_
        try dsimp only [Nat.reduceAdd]
        refine xS.s1 rfl rfl ?_
        try dsimp only [Nat.reduceAdd]
        rw [nI_add]
        refine xS.s1 rfl rfl ?_
        try dsimp only [Nat.reduceAdd, xj_40]
        refine xS.br (c := .le) (off := 6) (l := 3) rfl rfl (fun h40 => ?_) (fun h40 => ?_)
        · have g40 := xt_le h40
          exfalso; have := (nI_leI (a := m + n) (b := 40) (by omega) (by omega)).mp g40; omega
        · have g40 := xf_le h40
          refine xS.s1 rfl rfl ?_
          try dsimp only [Nat.reduceAdd, xj_m2]
          refine xS.ret rfl rfl rfl (fun _ _ => rfl) ?_
          exact ⟨rfl, rfl⟩
      · have g26 := xf_ne h26
        exact absurd g26 hg
    · have g17 := xf_ne h17
      exfalso; first | exact absurd g17 (by decide) | (simp (disch := omega) only [Int32.lt_iff_toInt_lt, Int32.le_iff_toInt_le, nI_toInt, Int32.reduceToInt] at g17 <;> omega)

set_option maxRecDepth 10000 in
theorem c_X12_lots_ok (hn1 : 1 ≤ n) (hn : n ≤ 20) (hq : 1 ≤ q1) (hq2 : q1 < 2147483647) (hR : xRr g h tx G T Lw) (hG : 0 < G) (hs : g 73 14 = nI m) (hmn : m + n ≤ 40) (hD : xDr g h tx T G Lw F4 m) (hV : xFv h tx T G Lw F4 (m + n)) (hFx : ∀ u, u < n → F4 (4 * (m + u)) = nI (xlot q1 (u + 1) / 8 % 6) ∧ F4 (4 * (m + u) + 1) = nI (xlot q1 (u + 1) % G)) : xT (k + 6) 227 [.ref 73, .int (nI n), .int (nI q1)] (xH b g l) (fun r M' => ∃ S, ((∀ a, a ≠ 73 → a ≠ 84 → a ≠ 85 → S a = g a) ∧ (∀ i, i ≠ 14 → S 73 i = g 73 i) ∧ S 73 14 = nI (m + n) ∧ xDr S h tx T G Lw F4 (m + n)) ∧ M' = xH b S l ∧ r = some (.int (nI (xcnt (fun d => !decide (F4 (4 * (m + d) + 3) = -9)) n)))) := by
  refine xT.of rfl (Nat.le_of_ble_eq_true rfl) ?_
  change xS _ _ 0 [(0, .ref 73), (1, .int (nI n)), (2, .int (nI q1))] [] _ _
  refine xS.s1 rfl rfl ?_
  try dsimp only [Nat.reduceAdd]
  refine xS.s1 rfl rfl ?_
  try dsimp only [Nat.reduceAdd, xi_1]
  refine xS.s1 rfl rfl ?_
  try dsimp only [Nat.reduceAdd, xj_20]
  -- 4 yX12_in
  refine xS.callS rfl rfl rfl ⟨Nat.le_of_ble_eq_true rfl, rfl⟩ (c_in_n1 (s := 1) (m := 20) hn1 hn (by decide)) (fun v M1 hv => ?_)
  rw [hv.1, hv.2]
  clear hv M1 v
  try dsimp only [Nat.reduceAdd, Option.toList, List.cons_append, List.nil_append, List.drop]
  refine xS.br0 (c := .eq) (off := 13) (l := 3) rfl rfl (fun h7 => ?_) (fun h7 => ?_)
  · have g7 := xt_eq h7
    exfalso; first | exact absurd g7 (by decide) | (simp (disch := omega) only [Int32.lt_iff_toInt_lt, Int32.le_iff_toInt_le, nI_toInt, Int32.reduceToInt] at g7 <;> omega)
  · have g7 := xf_eq h7
    refine xS.s1 rfl rfl ?_
    try dsimp only [Nat.reduceAdd]
    refine xS.s1 rfl rfl ?_
    try dsimp only [Nat.reduceAdd, xi_1]
    refine xS.s1 rfl rfl ?_
    try dsimp only [Nat.reduceAdd]
    -- 14 yX12_in
    refine xS.callS rfl rfl rfl ⟨Nat.le_of_ble_eq_true rfl, rfl⟩ (c_in_n1 (s := 1) (m := 2147483646) hq (by omega) (by decide)) (fun v M1 hv => ?_)
    rw [hv.1, hv.2]
    clear hv M1 v
    try dsimp only [Nat.reduceAdd, Option.toList, List.cons_append, List.nil_append, List.drop]
    refine xS.br0 (c := .ne) (off := 5) (l := 3) rfl rfl (fun h17 => ?_) (fun h17 => ?_)
    · have g17 := xt_ne h17
      refine xS.s1 rfl rfl ?_
      try dsimp only [Nat.reduceAdd]
      refine xS.gI rfl rfl rfl ⟨by decide, rfl⟩ rfl ?_
      try dsimp only [Nat.reduceAdd]
      refine xS.br0 (c := .ne) (off := 6) (l := 3) rfl rfl (fun h26 => ?_) (fun h26 => ?_)
      · have g26 := xt_ne h26
        refine xS.s1 rfl rfl ?_
        try dsimp only [Nat.reduceAdd]
        refine xS.gI rfl rfl rfl ⟨by decide, rfl⟩ rfl ?_
        try dsimp only [Nat.reduceAdd]
        rw [hs]
        refine xS.s1 rfl rfl ?_
        try dsimp only [Nat.reduceAdd]
        refine xS.s1 rfl rfl ?_
        try dsimp only [Nat.reduceAdd]
        rw [nI_add]
        refine xS.s1 rfl rfl ?_
        try dsimp only [Nat.reduceAdd, xj_40]
        refine xS.br (c := .le) (off := 6) (l := 3) rfl rfl (fun h40 => ?_) (fun h40 => ?_)
        · have g40 := xt_le h40
          refine xS.s1 rfl rfl ?_
          try dsimp only [Nat.reduceAdd]
          refine xS.s1 rfl rfl ?_
          try dsimp only [Nat.reduceAdd]
          refine xS.s1 rfl rfl ?_
          try dsimp only [Nat.reduceAdd]
          refine xS.s1 rfl rfl ?_
          try dsimp only [Nat.reduceAdd, xi_0]
          refine xS.s1 rfl rfl ?_
          try dsimp only [Nat.reduceAdd]
          refine xS.s1 rfl rfl ?_
          try dsimp only [Nat.reduceAdd, xi_0]
          refine xS.s1 rfl rfl ?_
          try dsimp only [Nat.reduceAdd]
          refine xS.pick [0, 2, 1, 3, 4] rfl ?_
          refine xS.loop (σ := Nat → Nat → Int32) (n) (fun j S => [(6, .int (nI j)), (3, .long (lN (xlot q1 j))), (5, .int (nI (xcnt (fun d => !decide (F4 (4 * (m + d) + 3) = -9)) j))), (0, .ref 73), (1, .int (nI n))]) (fun _ S => xH b S l) (fun j S => (∀ a, a ≠ 73 → a ≠ 84 → a ≠ 85 → S a = g a) ∧ (∀ i, i ≠ 14 → S 73 i = g 73 i) ∧ S 73 14 = nI (m + j) ∧ xDr S h tx T G Lw F4 (m + j)) (g) (by show _ = [_, (3, Value.long (lN q1)), _, _, _]; rw [← nI_l (by omega)]; rfl) (rfl) (⟨fun _ _ _ _ => rfl, fun _ _ => rfl, hs, hD⟩) ?_
          intro j S hj hI ih
          obtain ⟨i1, i2, i3, i4⟩ := hI
          try dsimp only
          have h6 := hR.1.2
          have hRS : xRr S h tx G T Lw := xRr_fr (i2 10 (by decide)) (i2 12 (by decide)) (i1 81 (by decide) (by decide) (by decide)) (i1 82 (by decide) (by decide) (by decide)) (i1 83 (by decide) (by decide) (by decide)) hR
          refine xS.s1 rfl rfl ?_
          try dsimp only [Nat.reduceAdd]
          refine xS.s1 rfl rfl ?_
          try dsimp only [Nat.reduceAdd]
          refine xS.br (c := .ge) (off := 67) (l := 3) rfl rfl (fun h58 => ?_) (fun h58 => ?_)
          · have g58 := xt_ge h58
            have e := xnle g58 (by omega) (by omega)
            have e2 : n = j := by omega
            subst e2
            refine xS.s1 rfl rfl ?_
            try dsimp only [Nat.reduceAdd]
            refine xS.ret rfl rfl rfl (fun _ _ => rfl) ?_
            exact ⟨S, ⟨i1, i2, i3, i4⟩, rfl, rfl⟩
          · have g58 := xf_ge h58
            have hlt := xnlt g58 (by omega) (by omega)
            refine xS.s1 rfl rfl ?_
            try dsimp only [Nat.reduceAdd]
            refine xS.s1 rfl rfl ?_
            try dsimp only [Nat.reduceAdd]
            refine xS.s1 rfl rfl ?_
            try dsimp only [Nat.reduceAdd]
            refine xS.s1 rfl rfl ?_
            try dsimp only [Nat.reduceAdd]
            refine xS.lrem rfl (by decide) ?_
            try dsimp only [Nat.reduceAdd]
            rw [show lN (xlot q1 j) * 48271 = lN (48271 * xlot q1 j) from by rw [Nat.mul_comm]; exact lN_mul _ 48271]
            rw [show lN (48271 * xlot q1 j) - lN (48271 * xlot q1 j) / 2147483647 * 2147483647 = lN (xlot q1 (j + 1)) from pk_lRem (b := 2147483647) (by have := xlot_lt hq2 j; omega) (by omega) (by omega)]
            have hxl := xlot_lt hq2 (j + 1)
            refine xS.s1 rfl rfl ?_
            try dsimp only [Nat.reduceAdd]
            refine xS.s1 rfl rfl ?_
            try dsimp only [Nat.reduceAdd]
            refine xS.s1 rfl rfl ?_
            try dsimp only [Nat.reduceAdd]
            refine xS.s1 rfl rfl ?_
            try dsimp only [Nat.reduceAdd]
            refine xS.gI rfl rfl rfl ⟨by decide, rfl⟩ rfl ?_
            try dsimp only [Nat.reduceAdd]
            refine xS.s1 rfl rfl ?_
            try dsimp only [Nat.reduceAdd]
            rw [i2 10 (by decide), hR.1.1, nI_l (n := G) (by omega)]
            refine xS.lrem rfl (lN_0 hG (by omega)) ?_
            try dsimp only [Nat.reduceAdd]
            rw [pk_lRem (by omega) hG (by omega)]
            refine xS.s1 rfl rfl ?_
            try dsimp only [Nat.reduceAdd]
            rw [lN_i]
            refine xS.s1 rfl rfl ?_
            try dsimp only [Nat.reduceAdd]
            refine xS.s1 rfl rfl ?_
            try dsimp only [Nat.reduceAdd]
            refine xS.ldiv rfl (by decide) ?_
            try dsimp only [Nat.reduceAdd]
            rw [show lN (xlot q1 (j + 1)) / 8 = lN (xlot q1 (j + 1) / 8) from pk_lDiv (b := 8) (by omega) (by omega) (by omega)]
            refine xS.s1 rfl rfl ?_
            try dsimp only [Nat.reduceAdd]
            refine xS.lrem rfl (by decide) ?_
            try dsimp only [Nat.reduceAdd]
            rw [show lN (xlot q1 (j + 1) / 8) - lN (xlot q1 (j + 1) / 8) / 6 * 6 = lN (xlot q1 (j + 1) / 8 % 6) from pk_lRem (b := 6) (by omega) (by omega) (by omega)]
            refine xS.s1 rfl rfl ?_
            try dsimp only [Nat.reduceAdd]
            rw [lN_i]
            -- 90 yX12_doStep
            refine xS.cv rfl rfl rfl rfl rfl rfl ⟨by decide, rfl, rfl⟩ (c_X12_doStep (m := m + j) (F4 := F4) hRS i3 (by omega) i4 (Nat.mod_lt _ hG) (Nat.mod_lt _ (by omega))) (fun v M1 hv => ?_)
            rw [hv.1, hv.2]
            clear hv M1 v
            have hD2 : xDr (up (up (up S 84 (m + j) (nI (xlot q1 (j + 1) / 8 % 6))) 85 (m + j) (nI (xlot q1 (j + 1) % G))) 73 14 (nI (m + j + 1))) h tx T G Lw F4 (m + j + 1) := xDr_nx (fun d hd => hV d (by omega)) i4 (hFx j hlt).1 (hFx j hlt).2 (Nat.mod_lt _ (by omega)) (by have := Nat.mod_lt (xlot q1 (j + 1)) hG; omega) hR.1.2
            have hR2 : xRr (up (up (up S 84 (m + j) (nI (xlot q1 (j + 1) / 8 % 6))) 85 (m + j) (nI (xlot q1 (j + 1) % G))) 73 14 (nI (m + j + 1))) h tx G T Lw := xRr_fr (by rw [up_ne (Or.inr (by decide)), up_na (by decide), up_na (by decide)]; exact i2 10 (by decide)) (by rw [up_ne (Or.inr (by decide)), up_na (by decide), up_na (by decide)]; exact i2 12 (by decide)) (by rw [up_na (by decide), up_na (by decide), up_na (by decide)]; exact i1 81 (by decide) (by decide) (by decide)) (by rw [up_na (by decide), up_na (by decide), up_na (by decide)]; exact i1 82 (by decide) (by decide) (by decide)) (by rw [up_na (by decide), up_na (by decide), up_na (by decide)]; exact i1 83 (by decide) (by decide) (by decide)) hR
            try dsimp only [Nat.reduceAdd, Option.toList, List.cons_append, List.nil_append, List.drop]
            refine xS.s1 rfl rfl ?_
            try dsimp only [Nat.reduceAdd]
            refine xS.s1 rfl rfl ?_
            try dsimp only [Nat.reduceAdd]
            refine xS.s1 rfl rfl ?_
            try dsimp only [Nat.reduceAdd]
            refine xS.s1 rfl rfl ?_
            try dsimp only [Nat.reduceAdd]
            refine xS.gI rfl rfl rfl ⟨by decide, rfl⟩ rfl ?_
            try dsimp only [Nat.reduceAdd]
            rw [up_same]
            refine xS.s1 rfl rfl ?_
            try dsimp only [Nat.reduceAdd, xi_1]
            refine xS.s1 rfl rfl ?_
            try dsimp only [Nat.reduceAdd]
            rw [nI_pred]
            -- 103 yX12_brokenBy
            refine xS.cv rfl rfl rfl rfl rfl rfl ⟨by decide, rfl, rfl⟩ (c_X12_brokenBy (m := m + j + 1) hR2 hD2 (by omega) (by omega)) (fun v M1 hv => ?_)
            rw [hv.1, hv.2]
            clear hv M1 v
            try dsimp only [Nat.reduceAdd, Option.toList, List.cons_append, List.nil_append, List.drop]
            refine xS.s1 rfl rfl ?_
            try dsimp only [Nat.reduceAdd, xj_m9]
            refine xS.br (c := .ne) (off := 7) (l := 3) rfl rfl (fun h108 => ?_) (fun h108 => ?_)
            · have g108 := xt_ne h108
              refine xS.s1 rfl rfl ?_
              try dsimp only [Nat.reduceAdd, xi_1]
              refine xS.s1 rfl rfl ?_
              try dsimp only [Nat.reduceAdd]
              refine xS.s1 rfl rfl ?_
              try dsimp only [Nat.reduceAdd]
              refine xS.s1 rfl rfl ?_
              try dsimp only [Nat.reduceAdd, xi_1]
              rw [nI_1]
              refine xS.s1 rfl rfl ?_
              try dsimp only [Nat.reduceAdd]
              refine xS.pick [0, 2, 1, 3, 4] rfl ?_
              rw [nI_1]
              have ih2 := ih (up (up (up S 84 (m + j) (nI (xlot q1 (j + 1) / 8 % 6))) 85 (m + j) (nI (xlot q1 (j + 1) % G))) 73 14 (nI (m + j + 1))) (by omega) ⟨fun a h1 h2 h3 => by rw [up_na h1, up_na h3, up_na h2, i1 a h1 h2 h3], fun i hi => by rw [up_ne (Or.inr hi), up_na (by decide), up_na (by decide), i2 i hi], up_same .., hD2⟩
              rw [show xcnt (fun d => !decide (F4 (4 * (m + d) + 3) = -9)) (j + 1) = xcnt (fun d => !decide (F4 (4 * (m + d) + 3) = -9)) j + 1 from by simp [xcnt_s, g108]] at ih2
              exact ih2
            · have g108 := xf_ne h108
              refine xS.s1 rfl rfl ?_
              try dsimp only [Nat.reduceAdd, xi_0]
              refine xS.s1 rfl rfl ?_
              try dsimp only [Nat.reduceAdd]
              refine xS.s1 rfl rfl ?_
              try dsimp only [Nat.reduceAdd]
              refine xS.s1 rfl rfl ?_
              try dsimp only [Nat.reduceAdd]
              refine xS.s1 rfl rfl ?_
              try dsimp only [Nat.reduceAdd, xi_1]
              rw [nI_1]
              refine xS.s1 rfl rfl ?_
              try dsimp only [Nat.reduceAdd]
              refine xS.pick [0, 2, 1, 3, 4] rfl ?_
              rw [show nI (xcnt (fun d => !decide (F4 (4 * (m + d) + 3) = -9)) j) + 0 = nI (xcnt (fun d => !decide (F4 (4 * (m + d) + 3) = -9)) j) from nI_add _ 0]
              have ih2 := ih (up (up (up S 84 (m + j) (nI (xlot q1 (j + 1) / 8 % 6))) 85 (m + j) (nI (xlot q1 (j + 1) % G))) 73 14 (nI (m + j + 1))) (by omega) ⟨fun a h1 h2 h3 => by rw [up_na h1, up_na h3, up_na h2, i1 a h1 h2 h3], fun i hi => by rw [up_ne (Or.inr hi), up_na (by decide), up_na (by decide), i2 i hi], up_same .., hD2⟩
              rw [show xcnt (fun d => !decide (F4 (4 * (m + d) + 3) = -9)) (j + 1) = xcnt (fun d => !decide (F4 (4 * (m + d) + 3) = -9)) j from by simp [xcnt_s, g108]] at ih2
              exact ih2
        · have g40 := xf_le h40
          exfalso; have := (nI_ltI (a := 40) (b := m + n) (by omega) (by omega)).mp g40; omega
      · have g26 := xf_ne h26
        rw [hR.1.1] at g26; exact absurd g26 (nI_ne0 hG (by have := hR.1.2; omega))
    · have g17 := xf_ne h17
      exfalso; first | exact absurd g17 (by decide) | (simp (disch := omega) only [Int32.lt_iff_toInt_lt, Int32.le_iff_toInt_le, nI_toInt, Int32.reduceToInt] at g17 <;> omega)

set_option maxRecDepth 10000 in
theorem c_X12_asked  : xT (k + 1) 228 [.ref 73] (xH b g l) (fun r M' => M' = xH b g l ∧ r = some (.int (g 73 20))) := by
  refine xT.of rfl (Nat.le_of_ble_eq_true rfl) ?_
  change xS _ _ 0 [(0, .ref 73)] [] _ _
  refine xS.s1 rfl rfl ?_
  try dsimp only [Nat.reduceAdd]
  refine xS.gI rfl rfl rfl ⟨by decide, rfl⟩ rfl ?_
  try dsimp only [Nat.reduceAdd]
  refine xS.ret rfl rfl rfl (fun _ _ => rfl) ?_
  exact ⟨rfl, rfl⟩

set_option maxRecDepth 10000 in
theorem c_X12_upper  : xT (k + 1) 229 [.ref 73] (xH b g l) (fun r M' => M' = xH b g l ∧ r = some (.long (l 73 21))) := by
  refine xT.of rfl (Nat.le_of_ble_eq_true rfl) ?_
  change xS _ _ 0 [(0, .ref 73)] [] _ _
  refine xS.s1 rfl rfl ?_
  try dsimp only [Nat.reduceAdd]
  refine xS.gL rfl rfl rfl ⟨by decide, rfl⟩ rfl ?_
  try dsimp only [Nat.reduceAdd]
  refine xS.ret rfl rfl rfl (fun _ _ => rfl) ?_
  exact ⟨rfl, rfl⟩

set_option maxRecDepth 10000 in
theorem c_X12_lower  : xT (k + 1) 230 [.ref 73] (xH b g l) (fun r M' => M' = xH b g l ∧ r = some (.long (l 73 22))) := by
  refine xT.of rfl (Nat.le_of_ble_eq_true rfl) ?_
  change xS _ _ 0 [(0, .ref 73)] [] _ _
  refine xS.s1 rfl rfl ?_
  try dsimp only [Nat.reduceAdd]
  refine xS.gL rfl rfl rfl ⟨by decide, rfl⟩ rfl ?_
  try dsimp only [Nat.reduceAdd]
  refine xS.ret rfl rfl rfl (fun _ _ => rfl) ?_
  exact ⟨rfl, rfl⟩

set_option maxRecDepth 10000 in
theorem c_X12_finding  : xT (k + 1) 235 [.ref 73] (xH b g l) (fun r M' => M' = xH b g l ∧ r = some (.int (g 73 23))) := by
  refine xT.of rfl (Nat.le_of_ble_eq_true rfl) ?_
  change xS _ _ 0 [(0, .ref 73)] [] _ _
  refine xS.s1 rfl rfl ?_
  try dsimp only [Nat.reduceAdd]
  refine xS.gI rfl rfl rfl ⟨by decide, rfl⟩ rfl ?_
  try dsimp only [Nat.reduceAdd]
  refine xS.ret rfl rfl rfl (fun _ _ => rfl) ?_
  exact ⟨rfl, rfl⟩

set_option maxRecDepth 10000 in
theorem c_X12_findings_bad (hx : ¬ (1 ≤ x ∧ x ≤ 5)) : xT (k + 2) 236 [.ref 73, .int x] (xH b g l) (fun r M' => M' = xH b g l ∧ r = some (.int (-1))) := by
  refine xT.of rfl (Nat.le_of_ble_eq_true rfl) ?_
  change xS _ _ 0 [(0, .ref 73), (1, .int x)] [] _ _
  refine xS.s1 rfl rfl ?_
  try dsimp only [Nat.reduceAdd]
  refine xS.s1 rfl rfl ?_
  try dsimp only [Nat.reduceAdd, xi_1]
  refine xS.s1 rfl rfl ?_
  try dsimp only [Nat.reduceAdd, xi_5]
  -- 3 yX12_in
  refine xS.callS rfl rfl rfl ⟨Nat.le_of_ble_eq_true rfl, rfl⟩ c_in_x (fun v M1 hv => ?_)
  rw [hv.1, hv.2]
  clear hv M1 v
  try dsimp only [Nat.reduceAdd, Option.toList, List.cons_append, List.nil_append, List.drop]
  refine xS.br0 (c := .eq) (off := 12) (l := 3) rfl rfl (fun h6 => ?_) (fun h6 => ?_)
  · have g6 := xt_eq h6
    refine xS.s1 rfl rfl ?_
    try dsimp only [Nat.reduceAdd, xi_m1]
    refine xS.ret rfl rfl rfl (fun _ _ => rfl) ?_
    exact ⟨rfl, rfl⟩
  · have g6 := xf_eq h6
    exact absurd (xif1 g6) hx

set_option maxRecDepth 10000 in
theorem c_X12_findings_ok (ht1 : 1 ≤ t) (ht : t ≤ 5) : xT (k + 2) 236 [.ref 73, .int (nI t)] (xH b g l) (fun r M' => M' = xH b g l ∧ r = some (.int (g 89 t))) := by
  refine xT.of rfl (Nat.le_of_ble_eq_true rfl) ?_
  change xS _ _ 0 [(0, .ref 73), (1, .int (nI t))] [] _ _
  refine xS.s1 rfl rfl ?_
  try dsimp only [Nat.reduceAdd]
  refine xS.s1 rfl rfl ?_
  try dsimp only [Nat.reduceAdd, xi_1]
  refine xS.s1 rfl rfl ?_
  try dsimp only [Nat.reduceAdd, xi_5]
  -- 3 yX12_in
  refine xS.callS rfl rfl rfl ⟨Nat.le_of_ble_eq_true rfl, rfl⟩ (c_in_n1 (s := 1) (m := 5) ht1 ht (by decide)) (fun v M1 hv => ?_)
  rw [hv.1, hv.2]
  clear hv M1 v
  try dsimp only [Nat.reduceAdd, Option.toList, List.cons_append, List.nil_append, List.drop]
  refine xS.br0 (c := .eq) (off := 12) (l := 3) rfl rfl (fun h6 => ?_) (fun h6 => ?_)
  · have g6 := xt_eq h6
    exfalso; first | exact absurd g6 (by decide) | (simp (disch := omega) only [Int32.lt_iff_toInt_lt, Int32.le_iff_toInt_le, nI_toInt, Int32.reduceToInt] at g6 <;> omega)
  · have g6 := xf_eq h6
    refine xS.s1 rfl rfl ?_
    try dsimp only [Nat.reduceAdd]
    refine xS.gR rfl rfl rfl ⟨by decide, rfl⟩ rfl ?_
    try dsimp only [Nat.reduceAdd]
    refine xS.s1 rfl rfl ?_
    try dsimp only [Nat.reduceAdd]
    refine xS.ia rfl xar_89 (by omega) ?_
    try dsimp only [Nat.reduceAdd]
    refine xS.s1 rfl rfl ?_
    try dsimp only [Nat.reduceAdd]
    refine xS.ret rfl rfl rfl (fun _ _ => rfl) ?_
    exact ⟨rfl, rfl⟩

set_option maxRecDepth 10000 in
theorem c_X12_kindsOf (hR : xRr g h tx G T Lw) (ht1 : 1 ≤ t) (ht : t ≤ 5) : xT (k + 2) 231 [.ref 73, .int (nI t)] (xH b g l) (fun r M' => M' = xH b g l ∧ r = some (.int (nI (xcnt (fun q => xiso (Lw q / 4) (nI t)) G)))) := by
  refine xT.of rfl (Nat.le_of_ble_eq_true rfl) ?_
  change xS _ _ 0 [(0, .ref 73), (1, .int (nI t))] [] _ _
  refine xS.s1 rfl rfl ?_
  try dsimp only [Nat.reduceAdd, xi_0]
  refine xS.s1 rfl rfl ?_
  try dsimp only [Nat.reduceAdd]
  refine xS.s1 rfl rfl ?_
  try dsimp only [Nat.reduceAdd, xi_0]
  refine xS.s1 rfl rfl ?_
  try dsimp only [Nat.reduceAdd]
  refine xS.pick [0, 1, 2, 3] rfl ?_
  refine xS.loop (σ := Unit) (G) (fun j S => [(3, .int (nI j)), (2, .int (nI (xcnt (fun q => xiso (Lw q / 4) (nI t)) j))), (0, .ref 73), (1, .int (nI t))]) (fun _ _ => xH b g l) (fun _ _ => True) (()) (rfl) (rfl) (trivial) ?_
  intro j S hj hI ih
  try dsimp only
  have h6 := hR.1.2
  refine xS.s1 rfl rfl ?_
  try dsimp only [Nat.reduceAdd]
  refine xS.s1 rfl rfl ?_
  try dsimp only [Nat.reduceAdd]
  refine xS.gI rfl rfl rfl ⟨by decide, rfl⟩ rfl ?_
  try dsimp only [Nat.reduceAdd]
  refine xS.br (c := .ge) (off := 32) (l := 3) rfl rfl (fun h9 => ?_) (fun h9 => ?_)
  · have g9 := xt_ge h9
    rw [hR.1.1] at g9
    have e := xnle g9 (by omega) (by omega)
    have e2 : G = j := by omega
    rw [← e2]
    refine xS.s1 rfl rfl ?_
    try dsimp only [Nat.reduceAdd]
    refine xS.ret rfl rfl rfl (fun _ _ => rfl) ?_
    exact ⟨rfl, rfl⟩
  · have g9 := xf_ge h9
    rw [hR.1.1] at g9
    have hlt := xnlt g9 (by omega) (by omega)
    obtain ⟨r1, r2, r3⟩ := hR.2.2.1 j hlt
    refine xS.s1 rfl rfl ?_
    try dsimp only [Nat.reduceAdd]
    refine xS.s1 rfl rfl ?_
    try dsimp only [Nat.reduceAdd]
    refine xS.gR rfl rfl rfl ⟨by decide, rfl⟩ rfl ?_
    try dsimp only [Nat.reduceAdd]
    refine xS.s1 rfl rfl ?_
    try dsimp only [Nat.reduceAdd, xi_2]
    refine xS.s1 rfl rfl ?_
    try dsimp only [Nat.reduceAdd]
    refine xS.s1 rfl rfl ?_
    try dsimp only [Nat.reduceAdd]
    rw [show ((2 * nI j) : Int32) = nI (2 * j) from by simp only [← nI_add, ← pk_mul]; rfl]
    refine xS.ia rfl xar_82 (by omega) ?_
    try dsimp only [Nat.reduceAdd]
    rw [r1]
    refine xS.s1 rfl rfl ?_
    try dsimp only [Nat.reduceAdd]
    -- 22 yX12_isOf
    refine xS.callS rfl rfl rfl ⟨Nat.le_of_ble_eq_true rfl, rfl⟩ (c_X12_isOf (by omega) ht1 ht) (fun v M1 hv => ?_)
    rw [hv.1, hv.2]
    clear hv M1 v
    try dsimp only [Nat.reduceAdd, Option.toList, List.cons_append, List.nil_append, List.drop]
    refine xS.br0 (c := .eq) (off := 7) (l := 3) rfl rfl (fun h25 => ?_) (fun h25 => ?_)
    · have g25 := xt_eq h25
      refine xS.s1 rfl rfl ?_
      try dsimp only [Nat.reduceAdd, xi_0]
      refine xS.s1 rfl rfl ?_
      try dsimp only [Nat.reduceAdd]
      refine xS.s1 rfl rfl ?_
      try dsimp only [Nat.reduceAdd]
      refine xS.s1 rfl rfl ?_
      try dsimp only [Nat.reduceAdd, xi_1]
      rw [nI_1]
      refine xS.s1 rfl rfl ?_
      try dsimp only [Nat.reduceAdd]
      refine xS.pick [0, 1, 2, 3] rfl ?_
      rw [show nI (xcnt (fun q => xiso (Lw q / 4) (nI t)) j) + 0 = nI (xcnt (fun q => xiso (Lw q / 4) (nI t)) j) from nI_add _ 0]
      have e25 := xif0 g25
      have ih2 := ih () (by omega) trivial
      first | (rw [show xcnt (fun q => xiso (Lw q / 4) (nI t)) (j + 1) = xcnt (fun q => xiso (Lw q / 4) (nI t)) j from by simp [xcnt_s, e25]] at ih2; exact ih2) | (rw [show xcnt (fun q => xiso (Lw q / 4) (nI t)) (j + 1) = xcnt (fun q => xiso (Lw q / 4) (nI t)) j + 1 from by simp [xcnt_s, e25]] at ih2; exact ih2)
    · have g25 := xf_eq h25
      refine xS.s1 rfl rfl ?_
      try dsimp only [Nat.reduceAdd, xi_1]
      refine xS.s1 rfl rfl ?_
      try dsimp only [Nat.reduceAdd]
      refine xS.s1 rfl rfl ?_
      try dsimp only [Nat.reduceAdd]
      refine xS.s1 rfl rfl ?_
      try dsimp only [Nat.reduceAdd]
      refine xS.s1 rfl rfl ?_
      try dsimp only [Nat.reduceAdd, xi_1]
      rw [nI_1]
      refine xS.s1 rfl rfl ?_
      try dsimp only [Nat.reduceAdd]
      refine xS.pick [0, 1, 2, 3] rfl ?_
      rw [nI_1]
      have e25 := xif1 g25
      have ih2 := ih () (by omega) trivial
      first | (rw [show xcnt (fun q => xiso (Lw q / 4) (nI t)) (j + 1) = xcnt (fun q => xiso (Lw q / 4) (nI t)) j from by simp [xcnt_s, e25]] at ih2; exact ih2) | (rw [show xcnt (fun q => xiso (Lw q / 4) (nI t)) (j + 1) = xcnt (fun q => xiso (Lw q / 4) (nI t)) j + 1 from by simp [xcnt_s, e25]] at ih2; exact ih2)

theorem xsz_neg {S : Int32} {n : Nat} (hz : xsz S n) (hn : n < 2 ^ 31) : S < 0 ↔ S = -1 := by
  rcases hz with rfl | ⟨m, h1, rfl⟩
  · exact ⟨fun _ => rfl, fun _ => by decide⟩
  · exact ⟨fun z => absurd z (nI_pos (by omega)), fun z => absurd z (nI_nm1 (by omega))⟩

set_option maxRecDepth 10000 in
theorem c_X12_thereOf (hA : xar a n) (hmn : m ≤ n) (hz : ∀ q, q < m → xsz (g a q) 60) : xT (k + 1) 232 [.ref a, .int (nI m)] (xH b g l) (fun r M' => M' = xH b g l ∧ r = some (.int (nI (xcnt (fun q => !decide (g a q = -1)) m)))) := by
  refine xT.of rfl (Nat.le_of_ble_eq_true rfl) ?_
  change xS _ _ 0 [(0, .ref a), (1, .int (nI m))] [] _ _
  refine xS.s1 rfl rfl ?_
  try dsimp only [Nat.reduceAdd, xi_0]
  refine xS.s1 rfl rfl ?_
  try dsimp only [Nat.reduceAdd]
  refine xS.s1 rfl rfl ?_
  try dsimp only [Nat.reduceAdd, xi_0]
  refine xS.s1 rfl rfl ?_
  try dsimp only [Nat.reduceAdd]
  refine xS.pick [0, 1, 2, 3] rfl ?_
  refine xS.loop (σ := Unit) (m) (fun j S => [(3, .int (nI j)), (2, .int (nI (xcnt (fun q => !decide (g a q = -1)) j))), (0, .ref a), (1, .int (nI m))]) (fun _ _ => xH b g l) (fun _ _ => True) (()) (rfl) (rfl) (trivial) ?_
  intro j S hj hI ih
  try dsimp only
  have hA2 := hA.2
  refine xS.s1 rfl rfl ?_
  try dsimp only [Nat.reduceAdd]
  refine xS.s1 rfl rfl ?_
  try dsimp only [Nat.reduceAdd]
  refine xS.br (c := .ge) (off := 23) (l := 3) rfl rfl (fun h6 => ?_) (fun h6 => ?_)
  · have g6 := xt_ge h6
    have e := xnle g6 (by omega) (by omega)
    have e2 : m = j := by omega
    rw [← e2]
    refine xS.s1 rfl rfl ?_
    try dsimp only [Nat.reduceAdd]
    refine xS.ret rfl rfl rfl (fun _ _ => rfl) ?_
    exact ⟨rfl, rfl⟩
  · have g6 := xf_ge h6
    have hlt := xnlt g6 (by omega) (by omega)
    refine xS.s1 rfl rfl ?_
    try dsimp only [Nat.reduceAdd]
    refine xS.s1 rfl rfl ?_
    try dsimp only [Nat.reduceAdd]
    refine xS.s1 rfl rfl ?_
    try dsimp only [Nat.reduceAdd]
    refine xS.ia rfl hA (by omega) ?_
    try dsimp only [Nat.reduceAdd]
    refine xS.br0 (c := .ge) (off := 7) (l := 3) rfl rfl (fun h13 => ?_) (fun h13 => ?_)
    · have g13 := xt_ge h13
      refine xS.s1 rfl rfl ?_
      try dsimp only [Nat.reduceAdd, xi_1]
      refine xS.s1 rfl rfl ?_
      try dsimp only [Nat.reduceAdd]
      refine xS.s1 rfl rfl ?_
      try dsimp only [Nat.reduceAdd]
      refine xS.s1 rfl rfl ?_
      try dsimp only [Nat.reduceAdd, xi_1]
      rw [nI_1]
      refine xS.s1 rfl rfl ?_
      try dsimp only [Nat.reduceAdd]
      refine xS.pick [0, 1, 2, 3] rfl ?_
      rw [nI_1]
      have e13 : ¬ g a j = -1 := fun z => absurd ((xsz_neg (hz j hlt) (by omega)).mpr z) (Int32.not_lt.mpr g13)
      have ih2 := ih () (by omega) trivial
      first | (rw [show xcnt (fun q => !decide (g a q = -1)) (j + 1) = xcnt (fun q => !decide (g a q = -1)) j from by simp [xcnt_s, e13]] at ih2; exact ih2) | (rw [show xcnt (fun q => !decide (g a q = -1)) (j + 1) = xcnt (fun q => !decide (g a q = -1)) j + 1 from by simp [xcnt_s, e13]] at ih2; exact ih2)
    · have g13 := xf_ge h13
      refine xS.s1 rfl rfl ?_
      try dsimp only [Nat.reduceAdd, xi_0]
      refine xS.s1 rfl rfl ?_
      try dsimp only [Nat.reduceAdd]
      refine xS.s1 rfl rfl ?_
      try dsimp only [Nat.reduceAdd]
      refine xS.s1 rfl rfl ?_
      try dsimp only [Nat.reduceAdd]
      refine xS.s1 rfl rfl ?_
      try dsimp only [Nat.reduceAdd, xi_1]
      rw [nI_1]
      refine xS.s1 rfl rfl ?_
      try dsimp only [Nat.reduceAdd]
      refine xS.pick [0, 1, 2, 3] rfl ?_
      rw [show nI (xcnt (fun q => !decide (g a q = -1)) j) + 0 = nI (xcnt (fun q => !decide (g a q = -1)) j) from nI_add _ 0]
      have e13 := (xsz_neg (hz j hlt) (by omega)).mp g13
      have ih2 := ih () (by omega) trivial
      first | (rw [show xcnt (fun q => !decide (g a q = -1)) (j + 1) = xcnt (fun q => !decide (g a q = -1)) j from by simp [xcnt_s, e13]] at ih2; exact ih2) | (rw [show xcnt (fun q => !decide (g a q = -1)) (j + 1) = xcnt (fun q => !decide (g a q = -1)) j + 1 from by simp [xcnt_s, e13]] at ih2; exact ih2)

set_option maxRecDepth 10000 in
theorem c_X12_countOf_0 (hR : xRr g h tx G T Lw) (hD : xDr g h tx T G Lw F4 m) (hm : m ≤ 40) (hs : g 73 14 = nI m) (hz1 : ∀ q, q < 6 → xsz (g 74 q) 60) (hz2 : ∀ q, q < 4 → xsz (g 76 q) 60) (hz3 : ∀ q, q < 3 → xsz (g 86 q) 60) : xT (k + 7) 233 [.ref 73, .int (nI 0)] (xH b g l) (fun r M' => M' = xH b g l ∧ r = some (.int (nI G))) := by
  refine xT.of rfl (Nat.le_of_ble_eq_true rfl) ?_
  change xS _ _ 0 [(0, .ref 73), (1, .int (nI 0))] [] _ _
  refine xS.s1 rfl rfl ?_
  try dsimp only [Nat.reduceAdd]
  refine xS.s1 rfl rfl ?_
  try dsimp only [Nat.reduceAdd]
  refine xS.s1 rfl rfl ?_
  try dsimp only [Nat.reduceAdd]
  refine xS.gI rfl rfl rfl ⟨by decide, rfl⟩ rfl ?_
  try dsimp only [Nat.reduceAdd]
  rw [hR.1.1]
  refine xS.ret rfl rfl rfl (fun _ _ => rfl) ?_
  exact ⟨rfl, rfl⟩

set_option maxRecDepth 10000 in
theorem c_X12_countOf_1 (hR : xRr g h tx G T Lw) (hD : xDr g h tx T G Lw F4 m) (hm : m ≤ 40) (hs : g 73 14 = nI m) (hz1 : ∀ q, q < 6 → xsz (g 74 q) 60) (hz2 : ∀ q, q < 4 → xsz (g 76 q) 60) (hz3 : ∀ q, q < 3 → xsz (g 86 q) 60) : xT (k + 7) 233 [.ref 73, .int (nI 1)] (xH b g l) (fun r M' => M' = xH b g l ∧ r = some (.int (nI T))) := by
  refine xT.of rfl (Nat.le_of_ble_eq_true rfl) ?_
  change xS _ _ 0 [(0, .ref 73), (1, .int (nI 1))] [] _ _
  refine xS.s1 rfl rfl ?_
  try dsimp only [Nat.reduceAdd]
  refine xS.s1 rfl rfl ?_
  try dsimp only [Nat.reduceAdd]
  refine xS.s1 rfl rfl ?_
  try dsimp only [Nat.reduceAdd]
  refine xS.gI rfl rfl rfl ⟨by decide, rfl⟩ rfl ?_
  try dsimp only [Nat.reduceAdd]
  rw [hR.2.1.1]
  refine xS.ret rfl rfl rfl (fun _ _ => rfl) ?_
  exact ⟨rfl, rfl⟩

set_option maxRecDepth 10000 in
theorem c_X12_countOf_2 (hR : xRr g h tx G T Lw) (hD : xDr g h tx T G Lw F4 m) (hm : m ≤ 40) (hs : g 73 14 = nI m) (hz1 : ∀ q, q < 6 → xsz (g 74 q) 60) (hz2 : ∀ q, q < 4 → xsz (g 76 q) 60) (hz3 : ∀ q, q < 3 → xsz (g 86 q) 60) : xT (k + 7) 233 [.ref 73, .int (nI 2)] (xH b g l) (fun r M' => M' = xH b g l ∧ r = some (.int (nI m))) := by
  refine xT.of rfl (Nat.le_of_ble_eq_true rfl) ?_
  change xS _ _ 0 [(0, .ref 73), (1, .int (nI 2))] [] _ _
  refine xS.s1 rfl rfl ?_
  try dsimp only [Nat.reduceAdd]
  refine xS.s1 rfl rfl ?_
  try dsimp only [Nat.reduceAdd]
  refine xS.s1 rfl rfl ?_
  try dsimp only [Nat.reduceAdd]
  refine xS.gI rfl rfl rfl ⟨by decide, rfl⟩ rfl ?_
  try dsimp only [Nat.reduceAdd]
  rw [hs]
  refine xS.ret rfl rfl rfl (fun _ _ => rfl) ?_
  exact ⟨rfl, rfl⟩

set_option maxRecDepth 10000 in
theorem c_X12_countOf_3 (hR : xRr g h tx G T Lw) (hD : xDr g h tx T G Lw F4 m) (hm : m ≤ 40) (hs : g 73 14 = nI m) (hz1 : ∀ q, q < 6 → xsz (g 74 q) 60) (hz2 : ∀ q, q < 4 → xsz (g 76 q) 60) (hz3 : ∀ q, q < 3 → xsz (g 86 q) 60) : xT (k + 7) 233 [.ref 73, .int (nI 3)] (xH b g l) (fun r M' => M' = xH b g l ∧ r = some (.int (nI (xcnt (fun d => !decide (F4 (4 * d + 3) = -9)) m)))) := by
  refine xT.of rfl (Nat.le_of_ble_eq_true rfl) ?_
  change xS _ _ 0 [(0, .ref 73), (1, .int (nI 3))] [] _ _
  refine xS.s1 rfl rfl ?_
  try dsimp only [Nat.reduceAdd]
  refine xS.s1 rfl rfl ?_
  try dsimp only [Nat.reduceAdd]
  refine xS.s1 rfl rfl ?_
  try dsimp only [Nat.reduceAdd]
  -- 68 yX12_brokenMany
  refine xS.cv rfl rfl rfl rfl rfl rfl ⟨by decide, rfl, rfl⟩ (c_X12_brokenMany hR hD hm hs) (fun v M1 hv => ?_)
  rw [hv.1, hv.2]
  clear hv M1 v
  try dsimp only [Nat.reduceAdd, Option.toList, List.cons_append, List.nil_append, List.drop]
  refine xS.ret rfl rfl rfl (fun _ _ => rfl) ?_
  exact ⟨rfl, rfl⟩

set_option maxRecDepth 10000 in
theorem c_X12_countOf_4 (hR : xRr g h tx G T Lw) (hD : xDr g h tx T G Lw F4 m) (hm : m ≤ 40) (hs : g 73 14 = nI m) (hz1 : ∀ q, q < 6 → xsz (g 74 q) 60) (hz2 : ∀ q, q < 4 → xsz (g 76 q) 60) (hz3 : ∀ q, q < 3 → xsz (g 86 q) 60) : xT (k + 7) 233 [.ref 73, .int (nI 4)] (xH b g l) (fun r M' => M' = xH b g l ∧ r = some (.int (nI (xcnt (fun q => xiso (Lw q / 4) 1) G)))) := by
  refine xT.of rfl (Nat.le_of_ble_eq_true rfl) ?_
  change xS _ _ 0 [(0, .ref 73), (1, .int (nI 4))] [] _ _
  refine xS.s1 rfl rfl ?_
  try dsimp only [Nat.reduceAdd]
  refine xS.s1 rfl rfl ?_
  try dsimp only [Nat.reduceAdd]
  refine xS.s1 rfl rfl ?_
  try dsimp only [Nat.reduceAdd]
  refine xS.s1 rfl rfl ?_
  try dsimp only [Nat.reduceAdd, xi_1]
  -- 74 yX12_kindsOf
  refine xS.cv rfl rfl rfl rfl rfl rfl ⟨by decide, rfl, rfl⟩ (c_X12_kindsOf (t := 1) hR (by decide) (by decide)) (fun v M1 hv => ?_)
  rw [hv.1, hv.2]
  clear hv M1 v
  try dsimp only [Nat.reduceAdd, Option.toList, List.cons_append, List.nil_append, List.drop]
  refine xS.ret rfl rfl rfl (fun _ _ => rfl) ?_
  exact ⟨rfl, rfl⟩

set_option maxRecDepth 10000 in
theorem c_X12_countOf_5 (hR : xRr g h tx G T Lw) (hD : xDr g h tx T G Lw F4 m) (hm : m ≤ 40) (hs : g 73 14 = nI m) (hz1 : ∀ q, q < 6 → xsz (g 74 q) 60) (hz2 : ∀ q, q < 4 → xsz (g 76 q) 60) (hz3 : ∀ q, q < 3 → xsz (g 86 q) 60) : xT (k + 7) 233 [.ref 73, .int (nI 5)] (xH b g l) (fun r M' => M' = xH b g l ∧ r = some (.int (nI (xcnt (fun q => xiso (Lw q / 4) 2) G)))) := by
  refine xT.of rfl (Nat.le_of_ble_eq_true rfl) ?_
  change xS _ _ 0 [(0, .ref 73), (1, .int (nI 5))] [] _ _
  refine xS.s1 rfl rfl ?_
  try dsimp only [Nat.reduceAdd]
  refine xS.s1 rfl rfl ?_
  try dsimp only [Nat.reduceAdd]
  refine xS.s1 rfl rfl ?_
  try dsimp only [Nat.reduceAdd]
  refine xS.s1 rfl rfl ?_
  try dsimp only [Nat.reduceAdd, xi_2]
  -- 80 yX12_kindsOf
  refine xS.cv rfl rfl rfl rfl rfl rfl ⟨by decide, rfl, rfl⟩ (c_X12_kindsOf (t := 2) hR (by decide) (by decide)) (fun v M1 hv => ?_)
  rw [hv.1, hv.2]
  clear hv M1 v
  try dsimp only [Nat.reduceAdd, Option.toList, List.cons_append, List.nil_append, List.drop]
  refine xS.ret rfl rfl rfl (fun _ _ => rfl) ?_
  exact ⟨rfl, rfl⟩

set_option maxRecDepth 10000 in
theorem c_X12_countOf_6 (hR : xRr g h tx G T Lw) (hD : xDr g h tx T G Lw F4 m) (hm : m ≤ 40) (hs : g 73 14 = nI m) (hz1 : ∀ q, q < 6 → xsz (g 74 q) 60) (hz2 : ∀ q, q < 4 → xsz (g 76 q) 60) (hz3 : ∀ q, q < 3 → xsz (g 86 q) 60) : xT (k + 7) 233 [.ref 73, .int (nI 6)] (xH b g l) (fun r M' => M' = xH b g l ∧ r = some (.int (nI (xcnt (fun q => !decide (g 74 q = -1)) 6)))) := by
  refine xT.of rfl (Nat.le_of_ble_eq_true rfl) ?_
  change xS _ _ 0 [(0, .ref 73), (1, .int (nI 6))] [] _ _
  refine xS.s1 rfl rfl ?_
  try dsimp only [Nat.reduceAdd]
  refine xS.s1 rfl rfl ?_
  try dsimp only [Nat.reduceAdd]
  refine xS.s1 rfl rfl ?_
  try dsimp only [Nat.reduceAdd]
  refine xS.gR rfl rfl rfl ⟨by decide, rfl⟩ rfl ?_
  try dsimp only [Nat.reduceAdd]
  refine xS.s1 rfl rfl ?_
  try dsimp only [Nat.reduceAdd, xj_6]
  -- 90 yX12_thereOf
  refine xS.callS rfl rfl rfl ⟨Nat.le_of_ble_eq_true rfl, rfl⟩ (c_X12_thereOf (m := 6) xar_74 (by decide) hz1) (fun v M1 hv => ?_)
  rw [hv.1, hv.2]
  clear hv M1 v
  try dsimp only [Nat.reduceAdd, Option.toList, List.cons_append, List.nil_append, List.drop]
  refine xS.ret rfl rfl rfl (fun _ _ => rfl) ?_
  exact ⟨rfl, rfl⟩

set_option maxRecDepth 10000 in
theorem c_X12_countOf_7 (hR : xRr g h tx G T Lw) (hD : xDr g h tx T G Lw F4 m) (hm : m ≤ 40) (hs : g 73 14 = nI m) (hz1 : ∀ q, q < 6 → xsz (g 74 q) 60) (hz2 : ∀ q, q < 4 → xsz (g 76 q) 60) (hz3 : ∀ q, q < 3 → xsz (g 86 q) 60) : xT (k + 7) 233 [.ref 73, .int (nI 7)] (xH b g l) (fun r M' => M' = xH b g l ∧ r = some (.int (nI (xcnt (fun q => !decide (g 76 q = -1)) 4)))) := by
  refine xT.of rfl (Nat.le_of_ble_eq_true rfl) ?_
  change xS _ _ 0 [(0, .ref 73), (1, .int (nI 7))] [] _ _
  refine xS.s1 rfl rfl ?_
  try dsimp only [Nat.reduceAdd]
  refine xS.s1 rfl rfl ?_
  try dsimp only [Nat.reduceAdd]
  refine xS.s1 rfl rfl ?_
  try dsimp only [Nat.reduceAdd]
  refine xS.gR rfl rfl rfl ⟨by decide, rfl⟩ rfl ?_
  try dsimp only [Nat.reduceAdd]
  refine xS.s1 rfl rfl ?_
  try dsimp only [Nat.reduceAdd, xi_4]
  -- 99 yX12_thereOf
  refine xS.callS rfl rfl rfl ⟨Nat.le_of_ble_eq_true rfl, rfl⟩ (c_X12_thereOf (m := 4) xar_76 (by decide) hz2) (fun v M1 hv => ?_)
  rw [hv.1, hv.2]
  clear hv M1 v
  try dsimp only [Nat.reduceAdd, Option.toList, List.cons_append, List.nil_append, List.drop]
  refine xS.ret rfl rfl rfl (fun _ _ => rfl) ?_
  exact ⟨rfl, rfl⟩

set_option maxRecDepth 10000 in
theorem c_X12_countOf_8 (hR : xRr g h tx G T Lw) (hD : xDr g h tx T G Lw F4 m) (hm : m ≤ 40) (hs : g 73 14 = nI m) (hz1 : ∀ q, q < 6 → xsz (g 74 q) 60) (hz2 : ∀ q, q < 4 → xsz (g 76 q) 60) (hz3 : ∀ q, q < 3 → xsz (g 86 q) 60) : xT (k + 7) 233 [.ref 73, .int (nI 8)] (xH b g l) (fun r M' => M' = xH b g l ∧ r = some (.int (nI (xcnt (fun q => !decide (g 86 q = -1)) 3)))) := by
  refine xT.of rfl (Nat.le_of_ble_eq_true rfl) ?_
  change xS _ _ 0 [(0, .ref 73), (1, .int (nI 8))] [] _ _
  refine xS.s1 rfl rfl ?_
  try dsimp only [Nat.reduceAdd]
  refine xS.s1 rfl rfl ?_
  try dsimp only [Nat.reduceAdd]
  refine xS.s1 rfl rfl ?_
  try dsimp only [Nat.reduceAdd]
  refine xS.gR rfl rfl rfl ⟨by decide, rfl⟩ rfl ?_
  try dsimp only [Nat.reduceAdd]
  refine xS.s1 rfl rfl ?_
  try dsimp only [Nat.reduceAdd, xi_3]
  -- 108 yX12_thereOf
  refine xS.callS rfl rfl rfl ⟨Nat.le_of_ble_eq_true rfl, rfl⟩ (c_X12_thereOf (m := 3) xar_86 (by decide) hz3) (fun v M1 hv => ?_)
  rw [hv.1, hv.2]
  clear hv M1 v
  try dsimp only [Nat.reduceAdd, Option.toList, List.cons_append, List.nil_append, List.drop]
  refine xS.ret rfl rfl rfl (fun _ _ => rfl) ?_
  exact ⟨rfl, rfl⟩

def xctr (g : Nat → Nat → Int32) (F4 : Nat → Int32) (G T m : Nat) (Lw : Nat → Nat) (t : Nat) : Int32 := if t = 0 then nI G else if t = 1 then nI T else if t = 2 then nI m else if t = 3 then nI (xcnt (fun d => !decide (F4 (4 * d + 3) = -9)) m) else if t = 4 then nI (xcnt (fun q => xiso (Lw q / 4) 1) G) else if t = 5 then nI (xcnt (fun q => xiso (Lw q / 4) 2) G) else if t = 6 then nI (xcnt (fun q => !decide (g 74 q = -1)) 6) else if t = 7 then nI (xcnt (fun q => !decide (g 76 q = -1)) 4) else nI (xcnt (fun q => !decide (g 86 q = -1)) 3)
theorem c_X12_countOf (hR : xRr g h tx G T Lw) (hD : xDr g h tx T G Lw F4 m) (hm : m ≤ 40) (hs : g 73 14 = nI m) (hz1 : ∀ q, q < 6 → xsz (g 74 q) 60) (hz2 : ∀ q, q < 4 → xsz (g 76 q) 60) (hz3 : ∀ q, q < 3 → xsz (g 86 q) 60) : ∀ {t : Nat}, t < 9 → xT (k + 7) 233 [.ref 73, .int (nI t)] (xH b g l) (fun r M' => M' = xH b g l ∧ r = some (.int (xctr g F4 G T m Lw t)))
  | 0, _ => c_X12_countOf_0 hR hD hm hs hz1 hz2 hz3
  | 1, _ => c_X12_countOf_1 hR hD hm hs hz1 hz2 hz3
  | 2, _ => c_X12_countOf_2 hR hD hm hs hz1 hz2 hz3
  | 3, _ => c_X12_countOf_3 hR hD hm hs hz1 hz2 hz3
  | 4, _ => c_X12_countOf_4 hR hD hm hs hz1 hz2 hz3
  | 5, _ => c_X12_countOf_5 hR hD hm hs hz1 hz2 hz3
  | 6, _ => c_X12_countOf_6 hR hD hm hs hz1 hz2 hz3
  | 7, _ => c_X12_countOf_7 hR hD hm hs hz1 hz2 hz3
  | 8, _ => c_X12_countOf_8 hR hD hm hs hz1 hz2 hz3
  | _ + 9, h => absurd h (by omega)
set_option maxRecDepth 10000 in
theorem c_X12_countOf_bad (hx : ¬ (0 ≤ x ∧ x < 9)) : xT (k + 7) 233 [.ref 73, .int x] (xH b g l) (fun r M' => M' = xH b g l ∧ r = some (.int (-1))) := by
  refine xT.of rfl (Nat.le_of_ble_eq_true rfl) ?_
  change xS _ _ 0 [(0, .ref 73), (1, .int x)] [] _ _
  refine xS.s1 rfl rfl ?_
  try dsimp only [Nat.reduceAdd]
  refine xS.tsd (t := 112) rfl (by simp only [Int32.le_iff_toInt_le, Int32.lt_iff_toInt_lt, Int32.reduceToInt] at hx; omega) rfl ?_
  try dsimp only [Nat.reduceAdd]
  refine xS.s1 rfl rfl ?_
  try dsimp only [Nat.reduceAdd, xi_m1]
  refine xS.ret rfl rfl rfl (fun _ _ => rfl) ?_
  exact ⟨rfl, rfl⟩

set_option maxRecDepth 10000 in
theorem c_X12_count_bad (hx : ¬ (0 ≤ x ∧ x < 9)) : xT (k + 8) 234 [.ref 73, .int x] (xH b g l) (fun r M' => M' = xH b g l ∧ r = some (.int (-1))) := by
  refine xT.of rfl (Nat.le_of_ble_eq_true rfl) ?_
  change xS _ _ 0 [(0, .ref 73), (1, .int x)] [] _ _
  refine xS.s1 rfl rfl ?_
  try dsimp only [Nat.reduceAdd]
  refine xS.s1 rfl rfl ?_
  try dsimp only [Nat.reduceAdd]
  -- 2 yX12_countOf
  refine xS.cv rfl rfl rfl rfl rfl rfl ⟨by decide, rfl, rfl⟩ (c_X12_countOf_bad hx) (fun v M1 hv => ?_)
  rw [hv.1, hv.2]
  clear hv M1 v
  try dsimp only [Nat.reduceAdd, Option.toList, List.cons_append, List.nil_append, List.drop]
  refine xS.ret rfl rfl rfl (fun _ _ => rfl) ?_
  exact ⟨rfl, rfl⟩

set_option maxRecDepth 10000 in
theorem c_X12_count_ok (hR : xRr g h tx G T Lw) (hD : xDr g h tx T G Lw F4 m) (hm : m ≤ 40) (hs : g 73 14 = nI m) (hz1 : ∀ q, q < 6 → xsz (g 74 q) 60) (hz2 : ∀ q, q < 4 → xsz (g 76 q) 60) (hz3 : ∀ q, q < 3 → xsz (g 86 q) 60) (ht : t < 9) : xT (k + 8) 234 [.ref 73, .int (nI t)] (xH b g l) (fun r M' => M' = xH b g l ∧ r = some (.int (xctr g F4 G T m Lw t))) := by
  refine xT.of rfl (Nat.le_of_ble_eq_true rfl) ?_
  change xS _ _ 0 [(0, .ref 73), (1, .int (nI t))] [] _ _
  refine xS.s1 rfl rfl ?_
  try dsimp only [Nat.reduceAdd]
  refine xS.s1 rfl rfl ?_
  try dsimp only [Nat.reduceAdd]
  -- 2 yX12_countOf
  refine xS.cv rfl rfl rfl rfl rfl rfl ⟨by decide, rfl, rfl⟩ (c_X12_countOf hR hD hm hs hz1 hz2 hz3 ht) (fun v M1 hv => ?_)
  rw [hv.1, hv.2]
  clear hv M1 v
  try dsimp only [Nat.reduceAdd, Option.toList, List.cons_append, List.nil_append, List.drop]
  refine xS.ret rfl rfl rfl (fun _ _ => rfl) ?_
  exact ⟨rfl, rfl⟩

set_option maxRecDepth 10000 in
theorem c_X12_add  : xT (k + 1) 237 [.ref 73, .int x] (xH b g (up l 73 31 u)) (fun r M' => M' = xH b g (up l 73 31 (xdg u x)) ∧ r = none) := by
  refine xT.of rfl (Nat.le_of_ble_eq_true rfl) ?_
  change xS _ _ 0 [(0, .ref 73), (1, .int x)] [] _ _
  refine xS.s1 rfl rfl ?_
  try dsimp only [Nat.reduceAdd]
  refine xS.s1 rfl rfl ?_
  try dsimp only [Nat.reduceAdd]
  refine xS.s1 rfl rfl ?_
  try dsimp only [Nat.reduceAdd]
  refine xS.gL rfl rfl rfl ⟨by decide, rfl⟩ rfl ?_
  try dsimp only [Nat.reduceAdd]
  refine xS.s1 rfl rfl ?_
  try dsimp only [Nat.reduceAdd]
  refine xS.s1 rfl rfl ?_
  try dsimp only [Nat.reduceAdd]
  refine xS.s1 rfl rfl ?_
  try dsimp only [Nat.reduceAdd]
  refine xS.s1 rfl rfl ?_
  try dsimp only [Nat.reduceAdd]
  refine xS.pL rfl rfl rfl ⟨⟨by decide, rfl⟩, rfl, by decide, by decide⟩ rfl ?_
  try dsimp only [Nat.reduceAdd]
  refine xS.ret rfl rfl rfl (fun _ _ => rfl) ?_
  rw [up_same, up_up]
  exact ⟨rfl, rfl⟩

end
end
