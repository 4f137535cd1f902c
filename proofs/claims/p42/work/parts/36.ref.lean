/-! LimpMirrorModel: he, copy, mark -/
theorem xat_lt {κ δ t u : Nat} (hk : κ = 1 ∨ κ = 4) (hd : 0 < δ) (h : xat κ δ t = some u) : u < t := by
  unfold xat at h
  rw [if_pos hk] at h
  split at h
  · cases h
  · cases h; omega

theorem xfst_ct {p : Nat → Bool} {n : Nat} (h : xfst p n = none) (h1 : ¬ xfst p (n + 1) = none) : xfst p (n + 1) = some n := by
  cases hp : p n with
  | true => exact xfst_c h hp
  | false => exact absurd (xfst_n h hp) h1
theorem xhr_and2 {p q : Nat → Bool} {j : Nat} {A B : Bool} (hA : p j = A) (hB : q j = B) : xhr (xfst p j) (xfst q j) &&& ((if A = true then 0 else 1) + (if B = true then 0 else 2)) = xhr (xfst p (j + 1)) (xfst q (j + 1)) := by
  rw [← hA, ← hB]
  exact xhr_and
theorem xhr_tt {p q : Nat → Bool} {j : Nat} (hA : p j = true) (hB : q j = true) : xhr (xfst p j) (xfst q j) &&& ((0 : Int32) + 0) = xhr (xfst p (j + 1)) (xfst q (j + 1)) := by
  have z := xhr_and2 hA hB
  rw [if_pos rfl, if_pos rfl] at z
  exact z
theorem xhr_tf {p q : Nat → Bool} {j : Nat} (hA : p j = true) (hB : q j = false) : xhr (xfst p j) (xfst q j) &&& ((0 : Int32) + 2) = xhr (xfst p (j + 1)) (xfst q (j + 1)) := by
  have z := xhr_and2 hA hB
  rw [if_pos rfl, if_neg (by decide)] at z
  exact z
theorem xhr_ft {p q : Nat → Bool} {j : Nat} (hA : p j = false) (hB : q j = true) : xhr (xfst p j) (xfst q j) &&& ((1 : Int32) + 0) = xhr (xfst p (j + 1)) (xfst q (j + 1)) := by
  have z := xhr_and2 hA hB
  rw [if_neg (by decide), if_pos rfl] at z
  exact z
theorem xhr_ff {p q : Nat → Bool} {j : Nat} (hA : p j = false) (hB : q j = false) : xhr (xfst p j) (xfst q j) &&& ((1 : Int32) + 2) = xhr (xfst p (j + 1)) (xfst q (j + 1)) := by
  have z := xhr_and2 hA hB
  rw [if_neg (by decide), if_neg (by decide)] at z
  exact z

section
variable {k a c n n2 m t p s d i1 j1 : Nat} {b : Nat × Nat} {g : Nat → Nat → Int32} {l : Nat → Nat → Int64} {i j x y z v w : Int32} {u w1 w2 : Int64}
variable {L G T e1 q1 κ δ : Nat} {Lw f f2 : Nat → Nat} {h tx F4 Rw Rw2 O : Nat → Int32}
set_option maxRecDepth 10000 in
theorem c_X12_isPart  : xT (k + 1) 163 [.int x, .int y, .int z] (xH b g l) (fun r M' => M' = xH b g l ∧ r = some (.int (if 0 ≤ x ∧ y ≤ z ∧ x ≤ z - y then 1 else 0))) := by
  refine xT.of rfl (Nat.le_of_ble_eq_true rfl) ?_
  change xS _ _ 0 [(0, .int x), (1, .int y), (2, .int z)] [] _ _
  refine xS.s1 rfl rfl ?_
  try dsimp only [Nat.reduceAdd]
  refine xS.br0 (c := .lt) (off := 19) (l := 3) rfl rfl (fun h1 => ?_) (fun h1 => ?_)
  · have g1 := xt_lt h1
    refine xS.s1 rfl rfl ?_
    try dsimp only [Nat.reduceAdd, xi_0]
    refine xS.ret rfl rfl rfl (fun _ _ => rfl) ?_
    exact ⟨rfl, by split <;> first | rfl | (exfalso; simp only [Int32.le_iff_toInt_le, Int32.lt_iff_toInt_lt, Int32.reduceToInt] at *; omega)⟩
  · have g1 := xf_lt h1
    refine xS.s1 rfl rfl ?_
    try dsimp only [Nat.reduceAdd]
    refine xS.s1 rfl rfl ?_
    try dsimp only [Nat.reduceAdd]
    refine xS.br (c := .gt) (off := 14) (l := 3) rfl rfl (fun h6 => ?_) (fun h6 => ?_)
    · have g6 := xt_gt h6
      refine xS.s1 rfl rfl ?_
      try dsimp only [Nat.reduceAdd, xi_0]
      refine xS.ret rfl rfl rfl (fun _ _ => rfl) ?_
      exact ⟨rfl, by split <;> first | rfl | (exfalso; simp only [Int32.le_iff_toInt_le, Int32.lt_iff_toInt_lt, Int32.reduceToInt] at *; omega)⟩
    · have g6 := xf_gt h6
      refine xS.s1 rfl rfl ?_
      try dsimp only [Nat.reduceAdd]
      refine xS.s1 rfl rfl ?_
      try dsimp only [Nat.reduceAdd]
      refine xS.s1 rfl rfl ?_
      try dsimp only [Nat.reduceAdd]
      refine xS.s1 rfl rfl ?_
      try dsimp only [Nat.reduceAdd]
      refine xS.br (c := .gt) (off := 7) (l := 3) rfl rfl (fun h13 => ?_) (fun h13 => ?_)
      · have g13 := xt_gt h13
        refine xS.s1 rfl rfl ?_
        try dsimp only [Nat.reduceAdd, xi_0]
        refine xS.ret rfl rfl rfl (fun _ _ => rfl) ?_
        exact ⟨rfl, by split <;> first | rfl | (exfalso; simp only [Int32.le_iff_toInt_le, Int32.lt_iff_toInt_lt, Int32.reduceToInt] at *; omega)⟩
      · have g13 := xf_gt h13
        refine xS.s1 rfl rfl ?_
        try dsimp only [Nat.reduceAdd, xi_1]
        refine xS.s1 rfl rfl ?_
        try dsimp only [Nat.reduceAdd]
        refine xS.ret rfl rfl rfl (fun _ _ => rfl) ?_
        exact ⟨rfl, by split <;> first | rfl | (exfalso; simp only [Int32.le_iff_toInt_le, Int32.lt_iff_toInt_lt, Int32.reduceToInt] at *; omega)⟩

set_option maxRecDepth 10000 in
theorem c_X12_he_ok (hR : xRr g h tx G T Lw) (hk : t < G) (hp1 : p < 6) (hs1 : s < 6) (hs : g 74 p = nI m) (hs2 : g 74 s = nI m) (hm : m ≤ 12) (hf : xfos (g 74 p) (fun i => g 75 (40 * p + i)) 12 = 0) (hf2 : xfos (g 74 s) (fun i => g 75 (40 * s + i)) 12 = 0) (hx : ∀ i, i < m → xstp (g 75 (40 * p + i))) (hx2 : ∀ i, i < m → xstp (g 75 (40 * s + i))) : xT (k + 5) 217 [.ref 73, .int (nI t), .int (nI p), .int (nI s)] (xH b g l) (fun r M' => ∃ g0, xFr g g0 ∧ M' = xH b (up g0 73 20 (xfI (xfst (fun i => (fun i => !decide (xshw h (Lw t / 4) (Lw t % 4) (fun i => xN (g 75 (40 * p + i))) i = g 75 (40 * s + i))) i || (fun i => !decide (xshw h (Lw t / 4) (Lw t % 4) (fun i => xN (g 75 (40 * s + i))) i = g 75 (40 * p + i))) i) m))) l ∧ r = some (.int (xhr (xfst (fun i => !decide (xshw h (Lw t / 4) (Lw t % 4) (fun i => xN (g 75 (40 * p + i))) i = g 75 (40 * s + i))) m) (xfst (fun i => !decide (xshw h (Lw t / 4) (Lw t % 4) (fun i => xN (g 75 (40 * s + i))) i = g 75 (40 * p + i))) m)))) := by
  refine xT.of rfl (Nat.le_of_ble_eq_true rfl) ?_
  change xS _ _ 0 [(0, .ref 73), (1, .int (nI t)), (2, .int (nI p)), (3, .int (nI s))] [] _ _
  refine xS.s1 rfl rfl ?_
  try dsimp only [Nat.reduceAdd]
  refine xS.s1 rfl rfl ?_
  try dsimp only [Nat.reduceAdd]
  -- 2 yX12_isGlass
  refine xS.cv rfl rfl rfl rfl rfl rfl ⟨by decide, rfl, rfl⟩ (c_X12_isGlass_in hR.1.1 hR.1.2 hk) (fun v M1 hv => ?_)
  rw [hv.1, hv.2]
  clear hv M1 v
  try dsimp only [Nat.reduceAdd, Option.toList, List.cons_append, List.nil_append, List.drop]
  refine xS.br0 (c := .eq) (off := 17) (l := 3) rfl rfl (fun h5 => ?_) (fun h5 => ?_)
  · have g5 := xt_eq h5
    exfalso; first | exact absurd g5 (by decide) | (simp (disch := omega) only [Int32.lt_iff_toInt_lt, Int32.le_iff_toInt_le, nI_toInt, Int32.reduceToInt] at g5 <;> omega)
  · have g5 := xf_eq h5
    refine xS.s1 rfl rfl ?_
    try dsimp only [Nat.reduceAdd]
    -- 9 yX12_isRow
    refine xS.callS rfl rfl rfl ⟨Nat.le_of_ble_eq_true rfl, rfl⟩ (c_X12_isRow_in hp1) (fun v M1 hv => ?_)
    rw [hv.1, hv.2]
    clear hv M1 v
    try dsimp only [Nat.reduceAdd, Option.toList, List.cons_append, List.nil_append, List.drop]
    refine xS.br0 (c := .eq) (off := 10) (l := 3) rfl rfl (fun h12 => ?_) (fun h12 => ?_)
    · have g12 := xt_eq h12
      exfalso; first | exact absurd g12 (by decide) | (simp (disch := omega) only [Int32.lt_iff_toInt_lt, Int32.le_iff_toInt_le, nI_toInt, Int32.reduceToInt] at g12 <;> omega)
    · have g12 := xf_eq h12
      refine xS.s1 rfl rfl ?_
      try dsimp only [Nat.reduceAdd]
      -- 16 yX12_isRow
      refine xS.callS rfl rfl rfl ⟨Nat.le_of_ble_eq_true rfl, rfl⟩ (c_X12_isRow_in hs1) (fun v M1 hv => ?_)
      rw [hv.1, hv.2]
      clear hv M1 v
      try dsimp only [Nat.reduceAdd, Option.toList, List.cons_append, List.nil_append, List.drop]
      refine xS.br0 (c := .ne) (off := 5) (l := 3) rfl rfl (fun h19 => ?_) (fun h19 => ?_)
      · have g19 := xt_ne h19
        refine xS.s1 rfl rfl ?_
        try dsimp only [Nat.reduceAdd]
        refine xS.s1 rfl rfl ?_
        try dsimp only [Nat.reduceAdd]
        refine xS.s1 rfl rfl ?_
        try dsimp only [Nat.reduceAdd]
        -- 27 yX12_takeTwo
        refine xS.cv rfl rfl rfl rfl rfl rfl ⟨by decide, rfl, rfl⟩ (c_X12_takeTwo_0 hp1 hs (by omega) hs1 hs2 hf hf2) (fun v M1 hv => ?_)
        rw [hv.1, hv.2]
        clear hv M1 v
        have hF1 : xFr g (gset (gset g 90 m (fun i => g 75 (40 * p + i))) 91 m (fun i => g 75 (40 * s + i))) := xFr_t (xFr_gs (by decide)) (xFr_gs (by decide))
        have h90 : ∀ u, u < m → (gset (gset g 90 m (fun i => g 75 (40 * p + i))) 91 m (fun i => g 75 (40 * s + i))) 90 u = nI ((fun i => xN (g 75 (40 * p + i))) u) ∧ (fun i => xN (g 75 (40 * p + i))) u < 6 := fun u hu => by rw [gset_na (by decide), gset_in hu]; exact ⟨(xstp_N (hx u hu)).2, (xstp_N (hx u hu)).1⟩
        have h91 : ∀ u, u < m → (gset (gset g 90 m (fun i => g 75 (40 * p + i))) 91 m (fun i => g 75 (40 * s + i))) 91 u = g 75 (40 * s + u) := fun u hu => by rw [gset_in hu]
        have e74 : (gset (gset g 90 m (fun i => g 75 (40 * p + i))) 91 m (fun i => g 75 (40 * s + i))) 74 p = nI m := by rw [gset_na (by decide), gset_na (by decide)]; exact hs
        have h91b : ∀ u, u < m → (gset (gset g 90 m (fun i => g 75 (40 * p + i))) 91 m (fun i => g 75 (40 * s + i))) 91 u = nI ((fun i => xN (g 75 (40 * s + i))) u) ∧ (fun i => xN (g 75 (40 * s + i))) u < 6 := fun u hu => by rw [gset_in hu]; exact ⟨(xstp_N (hx2 u hu)).2, (xstp_N (hx2 u hu)).1⟩
        have h90b : ∀ u, u < m → (gset (gset g 90 m (fun i => g 75 (40 * p + i))) 91 m (fun i => g 75 (40 * s + i))) 90 u = g 75 (40 * p + u) := fun u hu => by rw [gset_na (by decide), gset_in hu]
        try dsimp only [Nat.reduceAdd, Option.toList, List.cons_append, List.nil_append, List.drop]
        refine xS.s1 rfl rfl ?_
        try dsimp only [Nat.reduceAdd]
        refine xS.s1 rfl rfl ?_
        try dsimp only [Nat.reduceAdd]
        refine xS.br0 (c := .ge) (off := 6) (l := 3) rfl rfl (fun h34 => ?_) (fun h34 => ?_)
        · have g34 := xt_ge h34
          refine xS.s1 rfl rfl ?_
          try dsimp only [Nat.reduceAdd, xi_3]
          refine xS.s1 rfl rfl ?_
          try dsimp only [Nat.reduceAdd]
          refine xS.s1 rfl rfl ?_
          try dsimp only [Nat.reduceAdd, xj_m9]
          refine xS.s1 rfl rfl ?_
          try dsimp only [Nat.reduceAdd]
          refine xS.s1 rfl rfl ?_
          try dsimp only [Nat.reduceAdd, xi_0]
          refine xS.s1 rfl rfl ?_
          try dsimp only [Nat.reduceAdd]
          refine xS.pick [0, 2, 1, 4, 5, 6] rfl ?_
          refine xS.loop (σ := Unit) (m) (fun j S => [(7, .int (nI j)), (5, .int (xhr (xfst (fun i => !decide (xshw h (Lw t / 4) (Lw t % 4) (fun i => xN (g 75 (40 * p + i))) i = g 75 (40 * s + i))) j) (xfst (fun i => !decide (xshw h (Lw t / 4) (Lw t % 4) (fun i => xN (g 75 (40 * s + i))) i = g 75 (40 * p + i))) j))), (6, .int (xfI (xfst (fun i => (fun i => !decide (xshw h (Lw t / 4) (Lw t % 4) (fun i => xN (g 75 (40 * p + i))) i = g 75 (40 * s + i))) i || (fun i => !decide (xshw h (Lw t / 4) (Lw t % 4) (fun i => xN (g 75 (40 * s + i))) i = g 75 (40 * p + i))) i) j))), (0, .ref 73), (1, .int (nI t)), (2, .int (nI p))]) (fun _ _ => xH b (gset (gset g 90 m (fun i => g 75 (40 * p + i))) 91 m (fun i => g 75 (40 * s + i))) l) (fun _ _ => True) (()) (rfl) (rfl) (trivial) ?_
          intro j S hj hI ih
          try dsimp only
          refine xS.s1 rfl rfl ?_
          try dsimp only [Nat.reduceAdd]
          refine xS.s1 rfl rfl ?_
          try dsimp only [Nat.reduceAdd]
          refine xS.gR rfl rfl rfl ⟨by decide, rfl⟩ rfl ?_
          try dsimp only [Nat.reduceAdd]
          refine xS.s1 rfl rfl ?_
          try dsimp only [Nat.reduceAdd]
          refine xS.ia rfl xar_74 (by omega) ?_
          try dsimp only [Nat.reduceAdd]
          refine xS.br (c := .ge) (off := 93) (l := 3) rfl rfl (fun h58 => ?_) (fun h58 => ?_)
          · have g58 := xt_ge h58
            rw [e74] at g58
            have e := xnle g58 (by omega) (by omega)
            have e2 : m = j := by omega
            subst e2
            refine xS.s1 rfl rfl ?_
            try dsimp only [Nat.reduceAdd]
            refine xS.s1 rfl rfl ?_
            try dsimp only [Nat.reduceAdd]
            refine xS.pI rfl rfl rfl ⟨⟨by decide, rfl⟩, rfl, by decide, by decide⟩ rfl ?_
            try dsimp only [Nat.reduceAdd]
            refine xS.s1 rfl rfl ?_
            try dsimp only [Nat.reduceAdd]
            refine xS.ret rfl rfl rfl (fun _ _ => rfl) ?_
            exact ⟨_, hF1, rfl, rfl⟩
          · have g58 := xf_ge h58
            rw [e74] at g58
            have hlt := xnlt g58 (by omega) (by omega)
            refine xS.s1 rfl rfl ?_
            try dsimp only [Nat.reduceAdd]
            refine xS.s1 rfl rfl ?_
            try dsimp only [Nat.reduceAdd]
            refine xS.s1 rfl rfl ?_
            try dsimp only [Nat.reduceAdd]
            refine xS.gR rfl rfl rfl ⟨by decide, rfl⟩ rfl ?_
            try dsimp only [Nat.reduceAdd]
            refine xS.s1 rfl rfl ?_
            try dsimp only [Nat.reduceAdd]
            -- 69 yX12_showsOf
            refine xS.cv rfl rfl rfl rfl rfl rfl ⟨by decide, rfl, rfl⟩ (c_X12_showsOf (f := (fun i => xN (g 75 (40 * p + i)))) xar_90 (xRr_F hF1 hR) (by omega) hk (fun u hu => h90 u (by omega))) (fun v M1 hv => ?_)
            rw [hv.1, hv.2]
            clear hv M1 v
            try dsimp only [Nat.reduceAdd, Option.toList, List.cons_append, List.nil_append, List.drop]
            refine xS.s1 rfl rfl ?_
            try dsimp only [Nat.reduceAdd]
            refine xS.gR rfl rfl rfl ⟨by decide, rfl⟩ rfl ?_
            try dsimp only [Nat.reduceAdd]
            refine xS.s1 rfl rfl ?_
            try dsimp only [Nat.reduceAdd]
            refine xS.ia rfl xar_91 (by omega) ?_
            try dsimp only [Nat.reduceAdd]
            rw [h91 j hlt]
            refine xS.br (c := .ne) (off := 7) (l := 3) rfl rfl (fun h79 => ?_) (fun h79 => ?_)
            · have g79 := xt_ne h79
              refine xS.s1 rfl rfl ?_
              try dsimp only [Nat.reduceAdd, xi_0]
              refine xS.s1 rfl rfl ?_
              try dsimp only [Nat.reduceAdd]
              refine xS.s1 rfl rfl ?_
              try dsimp only [Nat.reduceAdd]
              refine xS.s1 rfl rfl ?_
              try dsimp only [Nat.reduceAdd]
              refine xS.gR rfl rfl rfl ⟨by decide, rfl⟩ rfl ?_
              try dsimp only [Nat.reduceAdd]
              refine xS.s1 rfl rfl ?_
              try dsimp only [Nat.reduceAdd]
              -- 95 yX12_showsOf
              refine xS.cv rfl rfl rfl rfl rfl rfl ⟨by decide, rfl, rfl⟩ (c_X12_showsOf (f := (fun i => xN (g 75 (40 * s + i)))) xar_91 (xRr_F hF1 hR) (by omega) hk (fun u hu => h91b u (by omega))) (fun v M1 hv => ?_)
              rw [hv.1, hv.2]
              clear hv M1 v
              try dsimp only [Nat.reduceAdd, Option.toList, List.cons_append, List.nil_append, List.drop]
              refine xS.s1 rfl rfl ?_
              try dsimp only [Nat.reduceAdd]
              refine xS.gR rfl rfl rfl ⟨by decide, rfl⟩ rfl ?_
              try dsimp only [Nat.reduceAdd]
              refine xS.s1 rfl rfl ?_
              try dsimp only [Nat.reduceAdd]
              refine xS.ia rfl xar_90 (by omega) ?_
              try dsimp only [Nat.reduceAdd]
              rw [h90b j hlt]
              refine xS.br (c := .ne) (off := 7) (l := 3) rfl rfl (fun h105 => ?_) (fun h105 => ?_)
              · have g105 := xt_ne h105
                refine xS.s1 rfl rfl ?_
                try dsimp only [Nat.reduceAdd, xi_0]
                refine xS.s1 rfl rfl ?_
                try dsimp only [Nat.reduceAdd]
                refine xS.s1 rfl rfl ?_
                try dsimp only [Nat.reduceAdd]
                refine xS.s1 rfl rfl ?_
                try dsimp only [Nat.reduceAdd]
                refine xS.s1 rfl rfl ?_
                try dsimp only [Nat.reduceAdd]
                refine xS.s1 rfl rfl ?_
                try dsimp only [Nat.reduceAdd]
                refine xS.s1 rfl rfl ?_
                try dsimp only [Nat.reduceAdd]
                refine xS.s1 rfl rfl ?_
                try dsimp only [Nat.reduceAdd]
                refine xS.s1 rfl rfl ?_
                try dsimp only [Nat.reduceAdd, xj_m9]
                refine xS.br (c := .ne) (off := 14) (l := 3) rfl rfl (fun h127 => ?_) (fun h127 => ?_)
                · have g127 := xt_ne h127
                  refine xS.s1 rfl rfl ?_
                  try dsimp only [Nat.reduceAdd]
                  refine xS.s1 rfl rfl ?_
                  try dsimp only [Nat.reduceAdd]
                  refine xS.s1 rfl rfl ?_
                  try dsimp only [Nat.reduceAdd, xi_1]
                  rw [nI_1]
                  refine xS.s1 rfl rfl ?_
                  try dsimp only [Nat.reduceAdd]
                  refine xS.pick [0, 2, 1, 4, 5, 6] rfl ?_
                  have hA : (fun i => !decide (xshw h (Lw t / 4) (Lw t % 4) (fun i => xN (g 75 (40 * p + i))) i = g 75 (40 * s + i))) j = true := by simp [g79]
                  have hB : (fun i => !decide (xshw h (Lw t / 4) (Lw t % 4) (fun i => xN (g 75 (40 * s + i))) i = g 75 (40 * p + i))) j = true := by simp [g105]
                  have hc2 : xhr (xfst (fun i => !decide (xshw h (Lw t / 4) (Lw t % 4) (fun i => xN (g 75 (40 * p + i))) i = g 75 (40 * s + i))) j) (xfst (fun i => !decide (xshw h (Lw t / 4) (Lw t % 4) (fun i => xN (g 75 (40 * s + i))) i = g 75 (40 * p + i))) j) &&& (0 + 0) = xhr (xfst (fun i => !decide (xshw h (Lw t / 4) (Lw t % 4) (fun i => xN (g 75 (40 * p + i))) i = g 75 (40 * s + i))) (j + 1)) (xfst (fun i => !decide (xshw h (Lw t / 4) (Lw t % 4) (fun i => xN (g 75 (40 * s + i))) i = g 75 (40 * p + i))) (j + 1)) := xhr_tt hA hB
                  have ih2 := ih () (by omega) trivial
                  rw [xfst_k (p := (fun i => (fun i => !decide (xshw h (Lw t / 4) (Lw t % 4) (fun i => xN (g 75 (40 * p + i))) i = g 75 (40 * s + i))) i || (fun i => !decide (xshw h (Lw t / 4) (Lw t % 4) (fun i => xN (g 75 (40 * s + i))) i = g 75 (40 * p + i))) i)) ((not_congr (xfI_none (xfI_b (by omega)))).mp g127)] at ih2
                  rw [← hc2] at ih2
                  exact ih2
                · have g127 := xf_ne h127
                  refine xS.s1 rfl rfl ?_
                  try dsimp only [Nat.reduceAdd]
                  refine xS.s1 rfl rfl ?_
                  try dsimp only [Nat.reduceAdd, xi_3]
                  refine xS.br (c := .eq) (off := 8) (l := 3) rfl rfl (fun h133 => ?_) (fun h133 => ?_)
                  · have g133 := xt_eq h133
                    refine xS.s1 rfl rfl ?_
                    try dsimp only [Nat.reduceAdd]
                    refine xS.s1 rfl rfl ?_
                    try dsimp only [Nat.reduceAdd]
                    refine xS.s1 rfl rfl ?_
                    try dsimp only [Nat.reduceAdd, xi_1]
                    rw [nI_1]
                    refine xS.s1 rfl rfl ?_
                    try dsimp only [Nat.reduceAdd]
                    refine xS.pick [0, 2, 1, 4, 5, 6] rfl ?_
                    have hA : (fun i => !decide (xshw h (Lw t / 4) (Lw t % 4) (fun i => xN (g 75 (40 * p + i))) i = g 75 (40 * s + i))) j = true := by simp [g79]
                    have hB : (fun i => !decide (xshw h (Lw t / 4) (Lw t % 4) (fun i => xN (g 75 (40 * s + i))) i = g 75 (40 * p + i))) j = true := by simp [g105]
                    have hc2 : xhr (xfst (fun i => !decide (xshw h (Lw t / 4) (Lw t % 4) (fun i => xN (g 75 (40 * p + i))) i = g 75 (40 * s + i))) j) (xfst (fun i => !decide (xshw h (Lw t / 4) (Lw t % 4) (fun i => xN (g 75 (40 * s + i))) i = g 75 (40 * p + i))) j) &&& (0 + 0) = xhr (xfst (fun i => !decide (xshw h (Lw t / 4) (Lw t % 4) (fun i => xN (g 75 (40 * p + i))) i = g 75 (40 * s + i))) (j + 1)) (xfst (fun i => !decide (xshw h (Lw t / 4) (Lw t % 4) (fun i => xN (g 75 (40 * s + i))) i = g 75 (40 * p + i))) (j + 1)) := xhr_tt hA hB
                    have ih2 := ih () (by omega) trivial
                    have n3 := xhr_3.mp (hc2.symm.trans g133)
                    rw [show xfst (fun i => (fun i => !decide (xshw h (Lw t / 4) (Lw t % 4) (fun i => xN (g 75 (40 * p + i))) i = g 75 (40 * s + i))) i || (fun i => !decide (xshw h (Lw t / 4) (Lw t % 4) (fun i => xN (g 75 (40 * s + i))) i = g 75 (40 * p + i))) i) (j + 1) = xfst (fun i => (fun i => !decide (xshw h (Lw t / 4) (Lw t % 4) (fun i => xN (g 75 (40 * p + i))) i = g 75 (40 * s + i))) i || (fun i => !decide (xshw h (Lw t / 4) (Lw t % 4) (fun i => xN (g 75 (40 * s + i))) i = g 75 (40 * p + i))) i) j from by rw [xfst_or.mpr n3, (xfI_none (xfI_b (by omega))).mp g127]] at ih2
                    rw [← hc2] at ih2
                    exact ih2
                  · have g133 := xf_eq h133
                    refine xS.s1 rfl rfl ?_
                    try dsimp only [Nat.reduceAdd]
                    refine xS.s1 rfl rfl ?_
                    try dsimp only [Nat.reduceAdd]
                    refine xS.s1 rfl rfl ?_
                    try dsimp only [Nat.reduceAdd]
                    refine xS.s1 rfl rfl ?_
                    try dsimp only [Nat.reduceAdd, xi_1]
                    rw [nI_1]
                    refine xS.s1 rfl rfl ?_
                    try dsimp only [Nat.reduceAdd]
                    refine xS.pick [0, 2, 1, 4, 5, 6] rfl ?_
                    have hA : (fun i => !decide (xshw h (Lw t / 4) (Lw t % 4) (fun i => xN (g 75 (40 * p + i))) i = g 75 (40 * s + i))) j = true := by simp [g79]
                    have hB : (fun i => !decide (xshw h (Lw t / 4) (Lw t % 4) (fun i => xN (g 75 (40 * s + i))) i = g 75 (40 * p + i))) j = true := by simp [g105]
                    have hc2 : xhr (xfst (fun i => !decide (xshw h (Lw t / 4) (Lw t % 4) (fun i => xN (g 75 (40 * p + i))) i = g 75 (40 * s + i))) j) (xfst (fun i => !decide (xshw h (Lw t / 4) (Lw t % 4) (fun i => xN (g 75 (40 * s + i))) i = g 75 (40 * p + i))) j) &&& (0 + 0) = xhr (xfst (fun i => !decide (xshw h (Lw t / 4) (Lw t % 4) (fun i => xN (g 75 (40 * p + i))) i = g 75 (40 * s + i))) (j + 1)) (xfst (fun i => !decide (xshw h (Lw t / 4) (Lw t % 4) (fun i => xN (g 75 (40 * s + i))) i = g 75 (40 * p + i))) (j + 1)) := xhr_tt hA hB
                    have ih2 := ih () (by omega) trivial
                    have n0 := (xfI_none (xfI_b (by omega))).mp g127
                    have n3 : ¬ xfst (fun i => (fun i => !decide (xshw h (Lw t / 4) (Lw t % 4) (fun i => xN (g 75 (40 * p + i))) i = g 75 (40 * s + i))) i || (fun i => !decide (xshw h (Lw t / 4) (Lw t % 4) (fun i => xN (g 75 (40 * s + i))) i = g 75 (40 * p + i))) i) (j + 1) = none := fun z => g133 (hc2.trans (xhr_3.mpr (xfst_or.mp z)))
                    rw [xfst_ct n0 n3] at ih2
                    rw [← hc2] at ih2
                    exact ih2
              · have g105 := xf_ne h105
                refine xS.s1 rfl rfl ?_
                try dsimp only [Nat.reduceAdd, xi_2]
                refine xS.s1 rfl rfl ?_
                try dsimp only [Nat.reduceAdd]
                refine xS.s1 rfl rfl ?_
                try dsimp only [Nat.reduceAdd]
                refine xS.s1 rfl rfl ?_
                try dsimp only [Nat.reduceAdd]
                refine xS.s1 rfl rfl ?_
                try dsimp only [Nat.reduceAdd]
                refine xS.s1 rfl rfl ?_
                try dsimp only [Nat.reduceAdd]
                refine xS.s1 rfl rfl ?_
                try dsimp only [Nat.reduceAdd]
                refine xS.s1 rfl rfl ?_
                try dsimp only [Nat.reduceAdd]
                refine xS.s1 rfl rfl ?_
                try dsimp only [Nat.reduceAdd]
                refine xS.s1 rfl rfl ?_
                try dsimp only [Nat.reduceAdd, xj_m9]
                refine xS.br (c := .ne) (off := 14) (l := 3) rfl rfl (fun h127 => ?_) (fun h127 => ?_)
                · have g127 := xt_ne h127
                  refine xS.s1 rfl rfl ?_
                  try dsimp only [Nat.reduceAdd]
                  refine xS.s1 rfl rfl ?_
                  try dsimp only [Nat.reduceAdd]
                  refine xS.s1 rfl rfl ?_
                  try dsimp only [Nat.reduceAdd, xi_1]
                  rw [nI_1]
                  refine xS.s1 rfl rfl ?_
                  try dsimp only [Nat.reduceAdd]
                  refine xS.pick [0, 2, 1, 4, 5, 6] rfl ?_
                  have hA : (fun i => !decide (xshw h (Lw t / 4) (Lw t % 4) (fun i => xN (g 75 (40 * p + i))) i = g 75 (40 * s + i))) j = true := by simp [g79]
                  have hB : (fun i => !decide (xshw h (Lw t / 4) (Lw t % 4) (fun i => xN (g 75 (40 * s + i))) i = g 75 (40 * p + i))) j = false := by simp [g105]
                  have hc2 : xhr (xfst (fun i => !decide (xshw h (Lw t / 4) (Lw t % 4) (fun i => xN (g 75 (40 * p + i))) i = g 75 (40 * s + i))) j) (xfst (fun i => !decide (xshw h (Lw t / 4) (Lw t % 4) (fun i => xN (g 75 (40 * s + i))) i = g 75 (40 * p + i))) j) &&& (0 + 2) = xhr (xfst (fun i => !decide (xshw h (Lw t / 4) (Lw t % 4) (fun i => xN (g 75 (40 * p + i))) i = g 75 (40 * s + i))) (j + 1)) (xfst (fun i => !decide (xshw h (Lw t / 4) (Lw t % 4) (fun i => xN (g 75 (40 * s + i))) i = g 75 (40 * p + i))) (j + 1)) := xhr_tf hA hB
                  have ih2 := ih () (by omega) trivial
                  rw [xfst_k (p := (fun i => (fun i => !decide (xshw h (Lw t / 4) (Lw t % 4) (fun i => xN (g 75 (40 * p + i))) i = g 75 (40 * s + i))) i || (fun i => !decide (xshw h (Lw t / 4) (Lw t % 4) (fun i => xN (g 75 (40 * s + i))) i = g 75 (40 * p + i))) i)) ((not_congr (xfI_none (xfI_b (by omega)))).mp g127)] at ih2
                  rw [← hc2] at ih2
                  exact ih2
                · have g127 := xf_ne h127
                  refine xS.s1 rfl rfl ?_
                  try dsimp only [Nat.reduceAdd]
                  refine xS.s1 rfl rfl ?_
                  try dsimp only [Nat.reduceAdd, xi_3]
                  refine xS.br (c := .eq) (off := 8) (l := 3) rfl rfl (fun h133 => ?_) (fun h133 => ?_)
                  · have g133 := xt_eq h133
                    refine xS.s1 rfl rfl ?_
                    try dsimp only [Nat.reduceAdd]
                    refine xS.s1 rfl rfl ?_
                    try dsimp only [Nat.reduceAdd]
                    refine xS.s1 rfl rfl ?_
                    try dsimp only [Nat.reduceAdd, xi_1]
                    rw [nI_1]
                    refine xS.s1 rfl rfl ?_
                    try dsimp only [Nat.reduceAdd]
                    refine xS.pick [0, 2, 1, 4, 5, 6] rfl ?_
                    have hA : (fun i => !decide (xshw h (Lw t / 4) (Lw t % 4) (fun i => xN (g 75 (40 * p + i))) i = g 75 (40 * s + i))) j = true := by simp [g79]
                    have hB : (fun i => !decide (xshw h (Lw t / 4) (Lw t % 4) (fun i => xN (g 75 (40 * s + i))) i = g 75 (40 * p + i))) j = false := by simp [g105]
                    have hc2 : xhr (xfst (fun i => !decide (xshw h (Lw t / 4) (Lw t % 4) (fun i => xN (g 75 (40 * p + i))) i = g 75 (40 * s + i))) j) (xfst (fun i => !decide (xshw h (Lw t / 4) (Lw t % 4) (fun i => xN (g 75 (40 * s + i))) i = g 75 (40 * p + i))) j) &&& (0 + 2) = xhr (xfst (fun i => !decide (xshw h (Lw t / 4) (Lw t % 4) (fun i => xN (g 75 (40 * p + i))) i = g 75 (40 * s + i))) (j + 1)) (xfst (fun i => !decide (xshw h (Lw t / 4) (Lw t % 4) (fun i => xN (g 75 (40 * s + i))) i = g 75 (40 * p + i))) (j + 1)) := xhr_tf hA hB
                    have ih2 := ih () (by omega) trivial
                    have n3 := xhr_3.mp (hc2.symm.trans g133)
                    rw [show xfst (fun i => (fun i => !decide (xshw h (Lw t / 4) (Lw t % 4) (fun i => xN (g 75 (40 * p + i))) i = g 75 (40 * s + i))) i || (fun i => !decide (xshw h (Lw t / 4) (Lw t % 4) (fun i => xN (g 75 (40 * s + i))) i = g 75 (40 * p + i))) i) (j + 1) = xfst (fun i => (fun i => !decide (xshw h (Lw t / 4) (Lw t % 4) (fun i => xN (g 75 (40 * p + i))) i = g 75 (40 * s + i))) i || (fun i => !decide (xshw h (Lw t / 4) (Lw t % 4) (fun i => xN (g 75 (40 * s + i))) i = g 75 (40 * p + i))) i) j from by rw [xfst_or.mpr n3, (xfI_none (xfI_b (by omega))).mp g127]] at ih2
                    rw [← hc2] at ih2
                    exact ih2
                  · have g133 := xf_eq h133
                    refine xS.s1 rfl rfl ?_
                    try dsimp only [Nat.reduceAdd]
                    refine xS.s1 rfl rfl ?_
                    try dsimp only [Nat.reduceAdd]
                    refine xS.s1 rfl rfl ?_
                    try dsimp only [Nat.reduceAdd]
                    refine xS.s1 rfl rfl ?_
                    try dsimp only [Nat.reduceAdd, xi_1]
                    rw [nI_1]
                    refine xS.s1 rfl rfl ?_
                    try dsimp only [Nat.reduceAdd]
                    refine xS.pick [0, 2, 1, 4, 5, 6] rfl ?_
                    have hA : (fun i => !decide (xshw h (Lw t / 4) (Lw t % 4) (fun i => xN (g 75 (40 * p + i))) i = g 75 (40 * s + i))) j = true := by simp [g79]
                    have hB : (fun i => !decide (xshw h (Lw t / 4) (Lw t % 4) (fun i => xN (g 75 (40 * s + i))) i = g 75 (40 * p + i))) j = false := by simp [g105]
                    have hc2 : xhr (xfst (fun i => !decide (xshw h (Lw t / 4) (Lw t % 4) (fun i => xN (g 75 (40 * p + i))) i = g 75 (40 * s + i))) j) (xfst (fun i => !decide (xshw h (Lw t / 4) (Lw t % 4) (fun i => xN (g 75 (40 * s + i))) i = g 75 (40 * p + i))) j) &&& (0 + 2) = xhr (xfst (fun i => !decide (xshw h (Lw t / 4) (Lw t % 4) (fun i => xN (g 75 (40 * p + i))) i = g 75 (40 * s + i))) (j + 1)) (xfst (fun i => !decide (xshw h (Lw t / 4) (Lw t % 4) (fun i => xN (g 75 (40 * s + i))) i = g 75 (40 * p + i))) (j + 1)) := xhr_tf hA hB
                    have ih2 := ih () (by omega) trivial
                    have n0 := (xfI_none (xfI_b (by omega))).mp g127
                    have n3 : ¬ xfst (fun i => (fun i => !decide (xshw h (Lw t / 4) (Lw t % 4) (fun i => xN (g 75 (40 * p + i))) i = g 75 (40 * s + i))) i || (fun i => !decide (xshw h (Lw t / 4) (Lw t % 4) (fun i => xN (g 75 (40 * s + i))) i = g 75 (40 * p + i))) i) (j + 1) = none := fun z => g133 (hc2.trans (xhr_3.mpr (xfst_or.mp z)))
                    rw [xfst_ct n0 n3] at ih2
                    rw [← hc2] at ih2
                    exact ih2
            · have g79 := xf_ne h79
              refine xS.s1 rfl rfl ?_
              try dsimp only [Nat.reduceAdd, xi_1]
              refine xS.s1 rfl rfl ?_
              try dsimp only [Nat.reduceAdd]
              refine xS.s1 rfl rfl ?_
              try dsimp only [Nat.reduceAdd]
              refine xS.s1 rfl rfl ?_
              try dsimp only [Nat.reduceAdd]
              refine xS.s1 rfl rfl ?_
              try dsimp only [Nat.reduceAdd]
              refine xS.gR rfl rfl rfl ⟨by decide, rfl⟩ rfl ?_
              try dsimp only [Nat.reduceAdd]
              refine xS.s1 rfl rfl ?_
              try dsimp only [Nat.reduceAdd]
              -- 95 yX12_showsOf
              refine xS.cv rfl rfl rfl rfl rfl rfl ⟨by decide, rfl, rfl⟩ (c_X12_showsOf (f := (fun i => xN (g 75 (40 * s + i)))) xar_91 (xRr_F hF1 hR) (by omega) hk (fun u hu => h91b u (by omega))) (fun v M1 hv => ?_)
              rw [hv.1, hv.2]
              clear hv M1 v
              try dsimp only [Nat.reduceAdd, Option.toList, List.cons_append, List.nil_append, List.drop]
              refine xS.s1 rfl rfl ?_
              try dsimp only [Nat.reduceAdd]
              refine xS.gR rfl rfl rfl ⟨by decide, rfl⟩ rfl ?_
              try dsimp only [Nat.reduceAdd]
              refine xS.s1 rfl rfl ?_
              try dsimp only [Nat.reduceAdd]
              refine xS.ia rfl xar_90 (by omega) ?_
              try dsimp only [Nat.reduceAdd]
              rw [h90b j hlt]
              refine xS.br (c := .ne) (off := 7) (l := 3) rfl rfl (fun h105 => ?_) (fun h105 => ?_)
              · have g105 := xt_ne h105
                refine xS.s1 rfl rfl ?_
                try dsimp only [Nat.reduceAdd, xi_0]
                refine xS.s1 rfl rfl ?_
                try dsimp only [Nat.reduceAdd]
                refine xS.s1 rfl rfl ?_
                try dsimp only [Nat.reduceAdd]
                refine xS.s1 rfl rfl ?_
                try dsimp only [Nat.reduceAdd]
                refine xS.s1 rfl rfl ?_
                try dsimp only [Nat.reduceAdd]
                refine xS.s1 rfl rfl ?_
                try dsimp only [Nat.reduceAdd]
                refine xS.s1 rfl rfl ?_
                try dsimp only [Nat.reduceAdd]
                refine xS.s1 rfl rfl ?_
                try dsimp only [Nat.reduceAdd]
                refine xS.s1 rfl rfl ?_
                try dsimp only [Nat.reduceAdd, xj_m9]
                refine xS.br (c := .ne) (off := 14) (l := 3) rfl rfl (fun h127 => ?_) (fun h127 => ?_)
                · have g127 := xt_ne h127
                  refine xS.s1 rfl rfl ?_
                  try dsimp only [Nat.reduceAdd]
                  refine xS.s1 rfl rfl ?_
                  try dsimp only [Nat.reduceAdd]
                  refine xS.s1 rfl rfl ?_
                  try dsimp only [Nat.reduceAdd, xi_1]
                  rw [nI_1]
                  refine xS.s1 rfl rfl ?_
                  try dsimp only [Nat.reduceAdd]
                  refine xS.pick [0, 2, 1, 4, 5, 6] rfl ?_
                  have hA : (fun i => !decide (xshw h (Lw t / 4) (Lw t % 4) (fun i => xN (g 75 (40 * p + i))) i = g 75 (40 * s + i))) j = false := by simp [g79]
                  have hB : (fun i => !decide (xshw h (Lw t / 4) (Lw t % 4) (fun i => xN (g 75 (40 * s + i))) i = g 75 (40 * p + i))) j = true := by simp [g105]
                  have hc2 : xhr (xfst (fun i => !decide (xshw h (Lw t / 4) (Lw t % 4) (fun i => xN (g 75 (40 * p + i))) i = g 75 (40 * s + i))) j) (xfst (fun i => !decide (xshw h (Lw t / 4) (Lw t % 4) (fun i => xN (g 75 (40 * s + i))) i = g 75 (40 * p + i))) j) &&& (1 + 0) = xhr (xfst (fun i => !decide (xshw h (Lw t / 4) (Lw t % 4) (fun i => xN (g 75 (40 * p + i))) i = g 75 (40 * s + i))) (j + 1)) (xfst (fun i => !decide (xshw h (Lw t / 4) (Lw t % 4) (fun i => xN (g 75 (40 * s + i))) i = g 75 (40 * p + i))) (j + 1)) := xhr_ft hA hB
                  have ih2 := ih () (by omega) trivial
                  rw [xfst_k (p := (fun i => (fun i => !decide (xshw h (Lw t / 4) (Lw t % 4) (fun i => xN (g 75 (40 * p + i))) i = g 75 (40 * s + i))) i || (fun i => !decide (xshw h (Lw t / 4) (Lw t % 4) (fun i => xN (g 75 (40 * s + i))) i = g 75 (40 * p + i))) i)) ((not_congr (xfI_none (xfI_b (by omega)))).mp g127)] at ih2
                  rw [← hc2] at ih2
                  exact ih2
                · have g127 := xf_ne h127
                  refine xS.s1 rfl rfl ?_
                  try dsimp only [Nat.reduceAdd]
                  refine xS.s1 rfl rfl ?_
                  try dsimp only [Nat.reduceAdd, xi_3]
                  refine xS.br (c := .eq) (off := 8) (l := 3) rfl rfl (fun h133 => ?_) (fun h133 => ?_)
                  · have g133 := xt_eq h133
                    refine xS.s1 rfl rfl ?_
                    try dsimp only [Nat.reduceAdd]
                    refine xS.s1 rfl rfl ?_
                    try dsimp only [Nat.reduceAdd]
                    refine xS.s1 rfl rfl ?_
                    try dsimp only [Nat.reduceAdd, xi_1]
                    rw [nI_1]
                    refine xS.s1 rfl rfl ?_
                    try dsimp only [Nat.reduceAdd]
                    refine xS.pick [0, 2, 1, 4, 5, 6] rfl ?_
                    have hA : (fun i => !decide (xshw h (Lw t / 4) (Lw t % 4) (fun i => xN (g 75 (40 * p + i))) i = g 75 (40 * s + i))) j = false := by simp [g79]
                    have hB : (fun i => !decide (xshw h (Lw t / 4) (Lw t % 4) (fun i => xN (g 75 (40 * s + i))) i = g 75 (40 * p + i))) j = true := by simp [g105]
                    have hc2 : xhr (xfst (fun i => !decide (xshw h (Lw t / 4) (Lw t % 4) (fun i => xN (g 75 (40 * p + i))) i = g 75 (40 * s + i))) j) (xfst (fun i => !decide (xshw h (Lw t / 4) (Lw t % 4) (fun i => xN (g 75 (40 * s + i))) i = g 75 (40 * p + i))) j) &&& (1 + 0) = xhr (xfst (fun i => !decide (xshw h (Lw t / 4) (Lw t % 4) (fun i => xN (g 75 (40 * p + i))) i = g 75 (40 * s + i))) (j + 1)) (xfst (fun i => !decide (xshw h (Lw t / 4) (Lw t % 4) (fun i => xN (g 75 (40 * s + i))) i = g 75 (40 * p + i))) (j + 1)) := xhr_ft hA hB
                    have ih2 := ih () (by omega) trivial
                    have n3 := xhr_3.mp (hc2.symm.trans g133)
                    rw [show xfst (fun i => (fun i => !decide (xshw h (Lw t / 4) (Lw t % 4) (fun i => xN (g 75 (40 * p + i))) i = g 75 (40 * s + i))) i || (fun i => !decide (xshw h (Lw t / 4) (Lw t % 4) (fun i => xN (g 75 (40 * s + i))) i = g 75 (40 * p + i))) i) (j + 1) = xfst (fun i => (fun i => !decide (xshw h (Lw t / 4) (Lw t % 4) (fun i => xN (g 75 (40 * p + i))) i = g 75 (40 * s + i))) i || (fun i => !decide (xshw h (Lw t / 4) (Lw t % 4) (fun i => xN (g 75 (40 * s + i))) i = g 75 (40 * p + i))) i) j from by rw [xfst_or.mpr n3, (xfI_none (xfI_b (by omega))).mp g127]] at ih2
                    rw [← hc2] at ih2
                    exact ih2
                  · have g133 := xf_eq h133
                    refine xS.s1 rfl rfl ?_
                    try dsimp only [Nat.reduceAdd]
                    refine xS.s1 rfl rfl ?_
                    try dsimp only [Nat.reduceAdd]
                    refine xS.s1 rfl rfl ?_
                    try dsimp only [Nat.reduceAdd]
                    refine xS.s1 rfl rfl ?_
                    try dsimp only [Nat.reduceAdd, xi_1]
                    rw [nI_1]
                    refine xS.s1 rfl rfl ?_
                    try dsimp only [Nat.reduceAdd]
                    refine xS.pick [0, 2, 1, 4, 5, 6] rfl ?_
                    have hA : (fun i => !decide (xshw h (Lw t / 4) (Lw t % 4) (fun i => xN (g 75 (40 * p + i))) i = g 75 (40 * s + i))) j = false := by simp [g79]
                    have hB : (fun i => !decide (xshw h (Lw t / 4) (Lw t % 4) (fun i => xN (g 75 (40 * s + i))) i = g 75 (40 * p + i))) j = true := by simp [g105]
                    have hc2 : xhr (xfst (fun i => !decide (xshw h (Lw t / 4) (Lw t % 4) (fun i => xN (g 75 (40 * p + i))) i = g 75 (40 * s + i))) j) (xfst (fun i => !decide (xshw h (Lw t / 4) (Lw t % 4) (fun i => xN (g 75 (40 * s + i))) i = g 75 (40 * p + i))) j) &&& (1 + 0) = xhr (xfst (fun i => !decide (xshw h (Lw t / 4) (Lw t % 4) (fun i => xN (g 75 (40 * p + i))) i = g 75 (40 * s + i))) (j + 1)) (xfst (fun i => !decide (xshw h (Lw t / 4) (Lw t % 4) (fun i => xN (g 75 (40 * s + i))) i = g 75 (40 * p + i))) (j + 1)) := xhr_ft hA hB
                    have ih2 := ih () (by omega) trivial
                    have n0 := (xfI_none (xfI_b (by omega))).mp g127
                    have n3 : ¬ xfst (fun i => (fun i => !decide (xshw h (Lw t / 4) (Lw t % 4) (fun i => xN (g 75 (40 * p + i))) i = g 75 (40 * s + i))) i || (fun i => !decide (xshw h (Lw t / 4) (Lw t % 4) (fun i => xN (g 75 (40 * s + i))) i = g 75 (40 * p + i))) i) (j + 1) = none := fun z => g133 (hc2.trans (xhr_3.mpr (xfst_or.mp z)))
                    rw [xfst_ct n0 n3] at ih2
                    rw [← hc2] at ih2
                    exact ih2
              · have g105 := xf_ne h105
                refine xS.s1 rfl rfl ?_
                try dsimp only [Nat.reduceAdd, xi_2]
                refine xS.s1 rfl rfl ?_
                try dsimp only [Nat.reduceAdd]
                refine xS.s1 rfl rfl ?_
                try dsimp only [Nat.reduceAdd]
                refine xS.s1 rfl rfl ?_
                try dsimp only [Nat.reduceAdd]
                refine xS.s1 rfl rfl ?_
                try dsimp only [Nat.reduceAdd]
                refine xS.s1 rfl rfl ?_
                try dsimp only [Nat.reduceAdd]
                refine xS.s1 rfl rfl ?_
                try dsimp only [Nat.reduceAdd]
                refine xS.s1 rfl rfl ?_
                try dsimp only [Nat.reduceAdd]
                refine xS.s1 rfl rfl ?_
                try dsimp only [Nat.reduceAdd]
                refine xS.s1 rfl rfl ?_
                try dsimp only [Nat.reduceAdd, xj_m9]
                refine xS.br (c := .ne) (off := 14) (l := 3) rfl rfl (fun h127 => ?_) (fun h127 => ?_)
                · have g127 := xt_ne h127
                  refine xS.s1 rfl rfl ?_
                  try dsimp only [Nat.reduceAdd]
                  refine xS.s1 rfl rfl ?_
                  try dsimp only [Nat.reduceAdd]
                  refine xS.s1 rfl rfl ?_
                  try dsimp only [Nat.reduceAdd, xi_1]
                  rw [nI_1]
                  refine xS.s1 rfl rfl ?_
                  try dsimp only [Nat.reduceAdd]
                  refine xS.pick [0, 2, 1, 4, 5, 6] rfl ?_
                  have hA : (fun i => !decide (xshw h (Lw t / 4) (Lw t % 4) (fun i => xN (g 75 (40 * p + i))) i = g 75 (40 * s + i))) j = false := by simp [g79]
                  have hB : (fun i => !decide (xshw h (Lw t / 4) (Lw t % 4) (fun i => xN (g 75 (40 * s + i))) i = g 75 (40 * p + i))) j = false := by simp [g105]
                  have hc2 : xhr (xfst (fun i => !decide (xshw h (Lw t / 4) (Lw t % 4) (fun i => xN (g 75 (40 * p + i))) i = g 75 (40 * s + i))) j) (xfst (fun i => !decide (xshw h (Lw t / 4) (Lw t % 4) (fun i => xN (g 75 (40 * s + i))) i = g 75 (40 * p + i))) j) &&& (1 + 2) = xhr (xfst (fun i => !decide (xshw h (Lw t / 4) (Lw t % 4) (fun i => xN (g 75 (40 * p + i))) i = g 75 (40 * s + i))) (j + 1)) (xfst (fun i => !decide (xshw h (Lw t / 4) (Lw t % 4) (fun i => xN (g 75 (40 * s + i))) i = g 75 (40 * p + i))) (j + 1)) := xhr_ff hA hB
                  have ih2 := ih () (by omega) trivial
                  rw [xfst_k (p := (fun i => (fun i => !decide (xshw h (Lw t / 4) (Lw t % 4) (fun i => xN (g 75 (40 * p + i))) i = g 75 (40 * s + i))) i || (fun i => !decide (xshw h (Lw t / 4) (Lw t % 4) (fun i => xN (g 75 (40 * s + i))) i = g 75 (40 * p + i))) i)) ((not_congr (xfI_none (xfI_b (by omega)))).mp g127)] at ih2
                  rw [← hc2] at ih2
                  exact ih2
                · have g127 := xf_ne h127
                  refine xS.s1 rfl rfl ?_
                  try dsimp only [Nat.reduceAdd]
                  refine xS.s1 rfl rfl ?_
                  try dsimp only [Nat.reduceAdd, xi_3]
                  refine xS.br (c := .eq) (off := 8) (l := 3) rfl rfl (fun h133 => ?_) (fun h133 => ?_)
                  · have g133 := xt_eq h133
                    refine xS.s1 rfl rfl ?_
                    try dsimp only [Nat.reduceAdd]
                    refine xS.s1 rfl rfl ?_
                    try dsimp only [Nat.reduceAdd]
                    refine xS.s1 rfl rfl ?_
                    try dsimp only [Nat.reduceAdd, xi_1]
                    rw [nI_1]
                    refine xS.s1 rfl rfl ?_
                    try dsimp only [Nat.reduceAdd]
                    refine xS.pick [0, 2, 1, 4, 5, 6] rfl ?_
                    have hA : (fun i => !decide (xshw h (Lw t / 4) (Lw t % 4) (fun i => xN (g 75 (40 * p + i))) i = g 75 (40 * s + i))) j = false := by simp [g79]
                    have hB : (fun i => !decide (xshw h (Lw t / 4) (Lw t % 4) (fun i => xN (g 75 (40 * s + i))) i = g 75 (40 * p + i))) j = false := by simp [g105]
                    have hc2 : xhr (xfst (fun i => !decide (xshw h (Lw t / 4) (Lw t % 4) (fun i => xN (g 75 (40 * p + i))) i = g 75 (40 * s + i))) j) (xfst (fun i => !decide (xshw h (Lw t / 4) (Lw t % 4) (fun i => xN (g 75 (40 * s + i))) i = g 75 (40 * p + i))) j) &&& (1 + 2) = xhr (xfst (fun i => !decide (xshw h (Lw t / 4) (Lw t % 4) (fun i => xN (g 75 (40 * p + i))) i = g 75 (40 * s + i))) (j + 1)) (xfst (fun i => !decide (xshw h (Lw t / 4) (Lw t % 4) (fun i => xN (g 75 (40 * s + i))) i = g 75 (40 * p + i))) (j + 1)) := xhr_ff hA hB
                    have ih2 := ih () (by omega) trivial
                    have n3 := xhr_3.mp (hc2.symm.trans g133)
                    rw [show xfst (fun i => (fun i => !decide (xshw h (Lw t / 4) (Lw t % 4) (fun i => xN (g 75 (40 * p + i))) i = g 75 (40 * s + i))) i || (fun i => !decide (xshw h (Lw t / 4) (Lw t % 4) (fun i => xN (g 75 (40 * s + i))) i = g 75 (40 * p + i))) i) (j + 1) = xfst (fun i => (fun i => !decide (xshw h (Lw t / 4) (Lw t % 4) (fun i => xN (g 75 (40 * p + i))) i = g 75 (40 * s + i))) i || (fun i => !decide (xshw h (Lw t / 4) (Lw t % 4) (fun i => xN (g 75 (40 * s + i))) i = g 75 (40 * p + i))) i) j from by rw [xfst_or.mpr n3, (xfI_none (xfI_b (by omega))).mp g127]] at ih2
                    rw [← hc2] at ih2
                    exact ih2
                  · have g133 := xf_eq h133
                    refine xS.s1 rfl rfl ?_
                    try dsimp only [Nat.reduceAdd]
                    refine xS.s1 rfl rfl ?_
                    try dsimp only [Nat.reduceAdd]
                    refine xS.s1 rfl rfl ?_
                    try dsimp only [Nat.reduceAdd]
                    refine xS.s1 rfl rfl ?_
                    try dsimp only [Nat.reduceAdd, xi_1]
                    rw [nI_1]
                    refine xS.s1 rfl rfl ?_
                    try dsimp only [Nat.reduceAdd]
                    refine xS.pick [0, 2, 1, 4, 5, 6] rfl ?_
                    have hA : (fun i => !decide (xshw h (Lw t / 4) (Lw t % 4) (fun i => xN (g 75 (40 * p + i))) i = g 75 (40 * s + i))) j = false := by simp [g79]
                    have hB : (fun i => !decide (xshw h (Lw t / 4) (Lw t % 4) (fun i => xN (g 75 (40 * s + i))) i = g 75 (40 * p + i))) j = false := by simp [g105]
                    have hc2 : xhr (xfst (fun i => !decide (xshw h (Lw t / 4) (Lw t % 4) (fun i => xN (g 75 (40 * p + i))) i = g 75 (40 * s + i))) j) (xfst (fun i => !decide (xshw h (Lw t / 4) (Lw t % 4) (fun i => xN (g 75 (40 * s + i))) i = g 75 (40 * p + i))) j) &&& (1 + 2) = xhr (xfst (fun i => !decide (xshw h (Lw t / 4) (Lw t % 4) (fun i => xN (g 75 (40 * p + i))) i = g 75 (40 * s + i))) (j + 1)) (xfst (fun i => !decide (xshw h (Lw t / 4) (Lw t % 4) (fun i => xN (g 75 (40 * s + i))) i = g 75 (40 * p + i))) (j + 1)) := xhr_ff hA hB
                    have ih2 := ih () (by omega) trivial
                    have n0 := (xfI_none (xfI_b (by omega))).mp g127
                    have n3 : ¬ xfst (fun i => (fun i => !decide (xshw h (Lw t / 4) (Lw t % 4) (fun i => xN (g 75 (40 * p + i))) i = g 75 (40 * s + i))) i || (fun i => !decide (xshw h (Lw t / 4) (Lw t % 4) (fun i => xN (g 75 (40 * s + i))) i = g 75 (40 * p + i))) i) (j + 1) = none := fun z => g133 (hc2.trans (xhr_3.mpr (xfst_or.mp z)))
                    rw [xfst_ct n0 n3] at ih2
                    rw [← hc2] at ih2
                    exact ih2
        · have g34 := xf_ge h34
          exfalso; first | exact absurd g34 (by decide) | (simp (disch := omega) only [Int32.lt_iff_toInt_lt, Int32.le_iff_toInt_le, nI_toInt, Int32.reduceToInt] at g34 <;> omega)
      · have g19 := xf_ne h19
        exfalso; first | exact absurd g19 (by decide) | (simp (disch := omega) only [Int32.lt_iff_toInt_lt, Int32.le_iff_toInt_le, nI_toInt, Int32.reduceToInt] at g19 <;> omega)

set_option maxRecDepth 10000 in
theorem c_X12_copy_bad (hx : ¬ ((0 ≤ x ∧ x < 6) ∧ 0 ≤ y ∧ y < 6)) : xT (k + 3) 164 [.ref 73, .int x, .int i, .int y, .int j, .int z] (xH b g l) (fun r M' => M' = xH b g l ∧ r = some (.int (-1))) := by
  refine xT.of rfl (Nat.le_of_ble_eq_true rfl) ?_
  change xS _ _ 0 [(0, .ref 73), (1, .int x), (2, .int i), (3, .int y), (4, .int j), (5, .int z)] [] _ _
  refine xS.s1 rfl rfl ?_
  try dsimp only [Nat.reduceAdd]
  -- 1 yX12_isRow
  refine xS.callS rfl rfl rfl ⟨Nat.le_of_ble_eq_true rfl, rfl⟩ c_X12_isRow (fun v M1 hv => ?_)
  rw [hv.1, hv.2]
  clear hv M1 v
  try dsimp only [Nat.reduceAdd, Option.toList, List.cons_append, List.nil_append, List.drop]
  refine xS.br0 (c := .eq) (off := 10) (l := 3) rfl rfl (fun h4 => ?_) (fun h4 => ?_)
  · have g4 := xt_eq h4
    refine xS.s1 rfl rfl ?_
    try dsimp only [Nat.reduceAdd, xi_m1]
    refine xS.ret rfl rfl rfl (fun _ _ => rfl) ?_
    exact ⟨rfl, rfl⟩
  · have g4 := xf_eq h4
    refine xS.s1 rfl rfl ?_
    try dsimp only [Nat.reduceAdd]
    -- 8 yX12_isRow
    refine xS.callS rfl rfl rfl ⟨Nat.le_of_ble_eq_true rfl, rfl⟩ c_X12_isRow (fun v M1 hv => ?_)
    rw [hv.1, hv.2]
    clear hv M1 v
    try dsimp only [Nat.reduceAdd, Option.toList, List.cons_append, List.nil_append, List.drop]
    refine xS.br0 (c := .ne) (off := 5) (l := 3) rfl rfl (fun h11 => ?_) (fun h11 => ?_)
    · have g11 := xt_ne h11
      exact absurd ⟨xif1 g4, xif1 g11⟩ hx
    · have g11 := xf_ne h11
      refine xS.s1 rfl rfl ?_
      try dsimp only [Nat.reduceAdd, xi_m1]
      refine xS.ret rfl rfl rfl (fun _ _ => rfl) ?_
      exact ⟨rfl, rfl⟩

set_option maxRecDepth 10000 in
theorem c_X12_copy_neg (hp1 : p < 6) (hs1 : s < 6) (hz : z < 0) : xT (k + 3) 164 [.ref 73, .int (nI p), .int i, .int (nI s), .int j, .int z] (xH b g l) (fun r M' => M' = xH b (xfR g 5) l ∧ r = some (.int (-3))) := by
  refine xT.of rfl (Nat.le_of_ble_eq_true rfl) ?_
  change xS _ _ 0 [(0, .ref 73), (1, .int (nI p)), (2, .int i), (3, .int (nI s)), (4, .int j), (5, .int z)] [] _ _
  refine xS.s1 rfl rfl ?_
  try dsimp only [Nat.reduceAdd]
  -- 1 yX12_isRow
  refine xS.callS rfl rfl rfl ⟨Nat.le_of_ble_eq_true rfl, rfl⟩ (c_X12_isRow_in hp1) (fun v M1 hv => ?_)
  rw [hv.1, hv.2]
  clear hv M1 v
  try dsimp only [Nat.reduceAdd, Option.toList, List.cons_append, List.nil_append, List.drop]
  refine xS.br0 (c := .eq) (off := 10) (l := 3) rfl rfl (fun h4 => ?_) (fun h4 => ?_)
  · have g4 := xt_eq h4
    exfalso; first | exact absurd g4 (by decide) | (simp (disch := omega) only [Int32.lt_iff_toInt_lt, Int32.le_iff_toInt_le, nI_toInt, Int32.reduceToInt] at g4 <;> omega)
  · have g4 := xf_eq h4
    refine xS.s1 rfl rfl ?_
    try dsimp only [Nat.reduceAdd]
    -- 8 yX12_isRow
    refine xS.callS rfl rfl rfl ⟨Nat.le_of_ble_eq_true rfl, rfl⟩ (c_X12_isRow_in hs1) (fun v M1 hv => ?_)
    rw [hv.1, hv.2]
    clear hv M1 v
    try dsimp only [Nat.reduceAdd, Option.toList, List.cons_append, List.nil_append, List.drop]
    refine xS.br0 (c := .ne) (off := 5) (l := 3) rfl rfl (fun h11 => ?_) (fun h11 => ?_)
    · have g11 := xt_ne h11
      refine xS.s1 rfl rfl ?_
      try dsimp only [Nat.reduceAdd]
      refine xS.br0 (c := .ge) (off := 9) (l := 3) rfl rfl (fun h18 => ?_) (fun h18 => ?_)
      · have g18 := xt_ge h18
        exact absurd hz (Int32.not_lt.mpr g18)
      · have g18 := xf_ge h18
        refine xS.s1 rfl rfl ?_
        try dsimp only [Nat.reduceAdd]
        refine xS.s1 rfl rfl ?_
        try dsimp only [Nat.reduceAdd, xi_5]
        -- 23 yX12_finds
        refine xS.cv rfl rfl rfl rfl rfl rfl ⟨by decide, rfl, rfl⟩ (c_X12_finds (t := 5) (by decide)) (fun v M1 hv => ?_)
        rw [hv.1, hv.2]
        clear hv M1 v
        try dsimp only [Nat.reduceAdd, Option.toList, List.cons_append, List.nil_append, List.drop]
        refine xS.ret rfl rfl rfl (fun _ _ => rfl) ?_
        exact ⟨rfl, rfl⟩
    · have g11 := xf_ne h11
      exfalso; first | exact absurd g11 (by decide) | (simp (disch := omega) only [Int32.lt_iff_toInt_lt, Int32.le_iff_toInt_le, nI_toInt, Int32.reduceToInt] at g11 <;> omega)

set_option maxRecDepth 10000 in
theorem c_X12_copy_no (hp1 : p < 6) (hs1 : s < 6) (hm : m < 2 ^ 31) (hq : g 74 p = -1 ∨ g 74 s = -1) : xT (k + 3) 164 [.ref 73, .int (nI p), .int i, .int (nI s), .int j, .int (nI m)] (xH b g l) (fun r M' => M' = xH b (xfR g 1) l ∧ r = some (.int (-3))) := by
  refine xT.of rfl (Nat.le_of_ble_eq_true rfl) ?_
  change xS _ _ 0 [(0, .ref 73), (1, .int (nI p)), (2, .int i), (3, .int (nI s)), (4, .int j), (5, .int (nI m))] [] _ _
  refine xS.s1 rfl rfl ?_
  try dsimp only [Nat.reduceAdd]
  -- 1 yX12_isRow
  refine xS.callS rfl rfl rfl ⟨Nat.le_of_ble_eq_true rfl, rfl⟩ (c_X12_isRow_in hp1) (fun v M1 hv => ?_)
  rw [hv.1, hv.2]
  clear hv M1 v
  try dsimp only [Nat.reduceAdd, Option.toList, List.cons_append, List.nil_append, List.drop]
  refine xS.br0 (c := .eq) (off := 10) (l := 3) rfl rfl (fun h4 => ?_) (fun h4 => ?_)
  · have g4 := xt_eq h4
    exfalso; first | exact absurd g4 (by decide) | (simp (disch := omega) only [Int32.lt_iff_toInt_lt, Int32.le_iff_toInt_le, nI_toInt, Int32.reduceToInt] at g4 <;> omega)
  · have g4 := xf_eq h4
    refine xS.s1 rfl rfl ?_
    try dsimp only [Nat.reduceAdd]
    -- 8 yX12_isRow
    refine xS.callS rfl rfl rfl ⟨Nat.le_of_ble_eq_true rfl, rfl⟩ (c_X12_isRow_in hs1) (fun v M1 hv => ?_)
    rw [hv.1, hv.2]
    clear hv M1 v
    try dsimp only [Nat.reduceAdd, Option.toList, List.cons_append, List.nil_append, List.drop]
    refine xS.br0 (c := .ne) (off := 5) (l := 3) rfl rfl (fun h11 => ?_) (fun h11 => ?_)
    · have g11 := xt_ne h11
      refine xS.s1 rfl rfl ?_
      try dsimp only [Nat.reduceAdd]
      refine xS.br0 (c := .ge) (off := 9) (l := 3) rfl rfl (fun h18 => ?_) (fun h18 => ?_)
      · have g18 := xt_ge h18
        refine xS.s1 rfl rfl ?_
        try dsimp only [Nat.reduceAdd]
        refine xS.gR rfl rfl rfl ⟨by decide, rfl⟩ rfl ?_
        try dsimp only [Nat.reduceAdd]
        refine xS.s1 rfl rfl ?_
        try dsimp only [Nat.reduceAdd]
        refine xS.ia rfl xar_74 (by omega) ?_
        try dsimp only [Nat.reduceAdd]
        refine xS.br0 (c := .lt) (off := 12) (l := 3) rfl rfl (fun h33 => ?_) (fun h33 => ?_)
        · have g33 := xt_lt h33
          refine xS.s1 rfl rfl ?_
          try dsimp only [Nat.reduceAdd]
          refine xS.s1 rfl rfl ?_
          try dsimp only [Nat.reduceAdd, xi_1]
          -- 47 yX12_finds
          refine xS.cv rfl rfl rfl rfl rfl rfl ⟨by decide, rfl, rfl⟩ (c_X12_finds (t := 1) (by decide)) (fun v M1 hv => ?_)
          rw [hv.1, hv.2]
          clear hv M1 v
          try dsimp only [Nat.reduceAdd, Option.toList, List.cons_append, List.nil_append, List.drop]
          refine xS.ret rfl rfl rfl (fun _ _ => rfl) ?_
          exact ⟨rfl, rfl⟩
        · have g33 := xf_lt h33
          refine xS.s1 rfl rfl ?_
          try dsimp only [Nat.reduceAdd]
          refine xS.gR rfl rfl rfl ⟨by decide, rfl⟩ rfl ?_
          try dsimp only [Nat.reduceAdd]
          refine xS.s1 rfl rfl ?_
          try dsimp only [Nat.reduceAdd]
          refine xS.ia rfl xar_74 (by omega) ?_
          try dsimp only [Nat.reduceAdd]
          refine xS.br0 (c := .ge) (off := 9) (l := 3) rfl rfl (fun h42 => ?_) (fun h42 => ?_)
          · have g42 := xt_ge h42
            exfalso; rcases hq with q | q; (rw [q] at g33; exact absurd g33 (by decide)); (rw [q] at g42; exact absurd g42 (by decide))
          · have g42 := xf_ge h42
            refine xS.s1 rfl rfl ?_
            try dsimp only [Nat.reduceAdd]
            refine xS.s1 rfl rfl ?_
            try dsimp only [Nat.reduceAdd, xi_1]
            -- 47 yX12_finds
            refine xS.cv rfl rfl rfl rfl rfl rfl ⟨by decide, rfl, rfl⟩ (c_X12_finds (t := 1) (by decide)) (fun v M1 hv => ?_)
            rw [hv.1, hv.2]
            clear hv M1 v
            try dsimp only [Nat.reduceAdd, Option.toList, List.cons_append, List.nil_append, List.drop]
            refine xS.ret rfl rfl rfl (fun _ _ => rfl) ?_
            exact ⟨rfl, rfl⟩
      · have g18 := xf_ge h18
        exfalso; first | exact absurd g18 (by decide) | (simp (disch := omega) only [Int32.lt_iff_toInt_lt, Int32.le_iff_toInt_le, nI_toInt, Int32.reduceToInt] at g18 <;> omega)
    · have g11 := xf_ne h11
      exfalso; first | exact absurd g11 (by decide) | (simp (disch := omega) only [Int32.lt_iff_toInt_lt, Int32.le_iff_toInt_le, nI_toInt, Int32.reduceToInt] at g11 <;> omega)

theorem xpl_r {i : Int32} {m n : Nat} (hm : m < 2 ^ 31) (hn : n < 2 ^ 30) : (0 ≤ i ∧ nI m ≤ nI n ∧ i ≤ nI n - nI m) ↔ xpl i m n := by
  constructor
  · rintro ⟨h0, h1, h2⟩
    obtain ⟨t, ht, rfl⟩ := nI_of (x := i) (Int32.not_lt.mpr h0)
    have h3 := (nI_leI hm (by omega)).mp h1
    rw [pk_sub h3] at h2
    have h4 := (nI_leI ht (by omega)).mp h2
    exact xpl_in hn (by omega)
  · intro h
    obtain ⟨t, rfl, ht⟩ := xpl_ok hn hm h
    exact ⟨nI_pos' (by omega), nI_le (by omega) (by omega), by rw [pk_sub (by omega)]; exact nI_le (by omega) (by omega)⟩
theorem c_isPart_w (hm : m < 2 ^ 31) (hn : n ≤ 40) (dp : Decidable (xpl i m n)) : xT (k + 1) 163 [.int i, .int (nI m), .int (nI n)] (xH b g l) (fun r M' => M' = xH b g l ∧ r = some (.int (if xpl i m n then 1 else 0))) :=
  c_X12_isPart.weak (fun r M' q => ⟨q.1, by
    rw [q.2]
    by_cases c : xpl i m n
    · rw [if_pos c, if_pos ((xpl_r hm (by omega)).mpr c)]
    · rw [if_neg c, if_neg (fun z => c ((xpl_r hm (by omega)).mp z))]⟩)
theorem c_isPart_in (hn : n ≤ 40) (h1 : t + m ≤ n) : xT (k + 1) 163 [.int (nI t), .int (nI m), .int (nI n)] (xH b g l) (fun r M' => M' = xH b g l ∧ r = some (.int 1)) :=
  (c_isPart_w (by omega) hn (Classical.propDecidable _)).weak (fun r M' q => ⟨q.1, by rw [q.2, if_pos (xpl_in (by omega) h1)]⟩)

set_option maxRecDepth 10000 in
theorem c_X12_copy_bey (hp1 : p < 6) (hs1 : s < 6) (hm : m < 2 ^ 31) (h1s : g 74 p = nI n) (hn : n ≤ 40) (h2s : g 74 s = nI n2) (hn2 : n2 ≤ 40) (hq : ¬ (xpl i m n ∧ xpl j m n2)) : xT (k + 3) 164 [.ref 73, .int (nI p), .int i, .int (nI s), .int j, .int (nI m)] (xH b g l) (fun r M' => M' = xH b (xfR g 2) l ∧ r = some (.int (-3))) := by
  refine xT.of rfl (Nat.le_of_ble_eq_true rfl) ?_
  change xS _ _ 0 [(0, .ref 73), (1, .int (nI p)), (2, .int i), (3, .int (nI s)), (4, .int j), (5, .int (nI m))] [] _ _
  refine xS.s1 rfl rfl ?_
  try dsimp only [Nat.reduceAdd]
  -- 1 yX12_isRow
  refine xS.callS rfl rfl rfl ⟨Nat.le_of_ble_eq_true rfl, rfl⟩ (c_X12_isRow_in hp1) (fun v M1 hv => ?_)
  rw [hv.1, hv.2]
  clear hv M1 v
  try dsimp only [Nat.reduceAdd, Option.toList, List.cons_append, List.nil_append, List.drop]
  refine xS.br0 (c := .eq) (off := 10) (l := 3) rfl rfl (fun h4 => ?_) (fun h4 => ?_)
  · have g4 := xt_eq h4
    exfalso; first | exact absurd g4 (by decide) | (simp (disch := omega) only [Int32.lt_iff_toInt_lt, Int32.le_iff_toInt_le, nI_toInt, Int32.reduceToInt] at g4 <;> omega)
  · have g4 := xf_eq h4
    refine xS.s1 rfl rfl ?_
    try dsimp only [Nat.reduceAdd]
    -- 8 yX12_isRow
    refine xS.callS rfl rfl rfl ⟨Nat.le_of_ble_eq_true rfl, rfl⟩ (c_X12_isRow_in hs1) (fun v M1 hv => ?_)
    rw [hv.1, hv.2]
    clear hv M1 v
    try dsimp only [Nat.reduceAdd, Option.toList, List.cons_append, List.nil_append, List.drop]
    refine xS.br0 (c := .ne) (off := 5) (l := 3) rfl rfl (fun h11 => ?_) (fun h11 => ?_)
    · have g11 := xt_ne h11
      refine xS.s1 rfl rfl ?_
      try dsimp only [Nat.reduceAdd]
      refine xS.br0 (c := .ge) (off := 9) (l := 3) rfl rfl (fun h18 => ?_) (fun h18 => ?_)
      · have g18 := xt_ge h18
        refine xS.s1 rfl rfl ?_
        try dsimp only [Nat.reduceAdd]
        refine xS.gR rfl rfl rfl ⟨by decide, rfl⟩ rfl ?_
        try dsimp only [Nat.reduceAdd]
        refine xS.s1 rfl rfl ?_
        try dsimp only [Nat.reduceAdd]
        refine xS.ia rfl xar_74 (by omega) ?_
        try dsimp only [Nat.reduceAdd]
        refine xS.br0 (c := .lt) (off := 12) (l := 3) rfl rfl (fun h33 => ?_) (fun h33 => ?_)
        · have g33 := xt_lt h33
          exfalso; rw [h1s] at g33; exact absurd g33 (nI_pos (by omega))
        · have g33 := xf_lt h33
          refine xS.s1 rfl rfl ?_
          try dsimp only [Nat.reduceAdd]
          refine xS.gR rfl rfl rfl ⟨by decide, rfl⟩ rfl ?_
          try dsimp only [Nat.reduceAdd]
          refine xS.s1 rfl rfl ?_
          try dsimp only [Nat.reduceAdd]
          refine xS.ia rfl xar_74 (by omega) ?_
          try dsimp only [Nat.reduceAdd]
          refine xS.br0 (c := .ge) (off := 9) (l := 3) rfl rfl (fun h42 => ?_) (fun h42 => ?_)
          · have g42 := xt_ge h42
            refine xS.s1 rfl rfl ?_
            try dsimp only [Nat.reduceAdd]
            refine xS.s1 rfl rfl ?_
            try dsimp only [Nat.reduceAdd]
            refine xS.s1 rfl rfl ?_
            try dsimp only [Nat.reduceAdd]
            refine xS.gR rfl rfl rfl ⟨by decide, rfl⟩ rfl ?_
            try dsimp only [Nat.reduceAdd]
            refine xS.s1 rfl rfl ?_
            try dsimp only [Nat.reduceAdd]
            refine xS.ia rfl xar_74 (by omega) ?_
            try dsimp only [Nat.reduceAdd]
            rw [h1s]
            -- 60 yX12_isPart
            refine xS.callS rfl rfl rfl ⟨Nat.le_of_ble_eq_true rfl, rfl⟩ (c_isPart_w hm hn (Classical.propDecidable _)) (fun v M1 hv => ?_)
            rw [hv.1, hv.2]
            clear hv M1 v
            try dsimp only [Nat.reduceAdd, Option.toList, List.cons_append, List.nil_append, List.drop]
            refine xS.br0 (c := .eq) (off := 19) (l := 3) rfl rfl (fun h63 => ?_) (fun h63 => ?_)
            · have g63 := xt_eq h63
              refine xS.s1 rfl rfl ?_
              try dsimp only [Nat.reduceAdd]
              refine xS.s1 rfl rfl ?_
              try dsimp only [Nat.reduceAdd, xi_2]
              -- 84 yX12_finds
              refine xS.cv rfl rfl rfl rfl rfl rfl ⟨by decide, rfl, rfl⟩ (c_X12_finds (t := 2) (by decide)) (fun v M1 hv => ?_)
              rw [hv.1, hv.2]
              clear hv M1 v
              try dsimp only [Nat.reduceAdd, Option.toList, List.cons_append, List.nil_append, List.drop]
              refine xS.ret rfl rfl rfl (fun _ _ => rfl) ?_
              exact ⟨rfl, rfl⟩
            · have g63 := xf_eq h63
              refine xS.s1 rfl rfl ?_
              try dsimp only [Nat.reduceAdd]
              refine xS.s1 rfl rfl ?_
              try dsimp only [Nat.reduceAdd]
              refine xS.s1 rfl rfl ?_
              try dsimp only [Nat.reduceAdd]
              refine xS.gR rfl rfl rfl ⟨by decide, rfl⟩ rfl ?_
              try dsimp only [Nat.reduceAdd]
              refine xS.s1 rfl rfl ?_
              try dsimp only [Nat.reduceAdd]
              refine xS.ia rfl xar_74 (by omega) ?_
              try dsimp only [Nat.reduceAdd]
              rw [h2s]
              -- 76 yX12_isPart
              refine xS.callS rfl rfl rfl ⟨Nat.le_of_ble_eq_true rfl, rfl⟩ (c_isPart_w hm hn2 (Classical.propDecidable _)) (fun v M1 hv => ?_)
              rw [hv.1, hv.2]
              clear hv M1 v
              try dsimp only [Nat.reduceAdd, Option.toList, List.cons_append, List.nil_append, List.drop]
              refine xS.br0 (c := .ne) (off := 9) (l := 3) rfl rfl (fun h79 => ?_) (fun h79 => ?_)
              · have g79 := xt_ne h79
                exact absurd ⟨@xif1 _ (Classical.propDecidable _) g63, @xif1 _ (Classical.propDecidable _) g79⟩ hq
              · have g79 := xf_ne h79
                refine xS.s1 rfl rfl ?_
                try dsimp only [Nat.reduceAdd]
                refine xS.s1 rfl rfl ?_
                try dsimp only [Nat.reduceAdd, xi_2]
                -- 84 yX12_finds
                refine xS.cv rfl rfl rfl rfl rfl rfl ⟨by decide, rfl, rfl⟩ (c_X12_finds (t := 2) (by decide)) (fun v M1 hv => ?_)
                rw [hv.1, hv.2]
                clear hv M1 v
                try dsimp only [Nat.reduceAdd, Option.toList, List.cons_append, List.nil_append, List.drop]
                refine xS.ret rfl rfl rfl (fun _ _ => rfl) ?_
                exact ⟨rfl, rfl⟩
          · have g42 := xf_ge h42
            exfalso; rw [h2s] at g42; exact absurd g42 (nI_pos (by omega))
      · have g18 := xf_ge h18
        exfalso; first | exact absurd g18 (by decide) | (simp (disch := omega) only [Int32.lt_iff_toInt_lt, Int32.le_iff_toInt_le, nI_toInt, Int32.reduceToInt] at g18 <;> omega)
    · have g11 := xf_ne h11
      exfalso; first | exact absurd g11 (by decide) | (simp (disch := omega) only [Int32.lt_iff_toInt_lt, Int32.le_iff_toInt_le, nI_toInt, Int32.reduceToInt] at g11 <;> omega)

set_option maxRecDepth 10000 in
theorem c_X12_copy_dn (hp1 : p < 6) (hs1 : s < 6) (h1s : g 74 p = nI n) (hn : n ≤ 40) (h2s : g 74 s = nI n2) (hn2 : n2 ≤ 40) (hq1 : i1 + m ≤ n) (hq2 : j1 + m ≤ n2) (hup : ¬ (p = s ∧ i1 < j1)) : xT (k + 3) 164 [.ref 73, .int (nI p), .int (nI i1), .int (nI s), .int (nI j1), .int (nI m)] (xH b g l) (fun r M' => M' = xH b (gseg g 75 (40 * s + j1) m (fun q => g 75 (40 * p + i1 + q))) l ∧ r = some (.int 1)) := by
  refine xT.of rfl (Nat.le_of_ble_eq_true rfl) ?_
  change xS _ _ 0 [(0, .ref 73), (1, .int (nI p)), (2, .int (nI i1)), (3, .int (nI s)), (4, .int (nI j1)), (5, .int (nI m))] [] _ _
  refine xS.s1 rfl rfl ?_
  try dsimp only [Nat.reduceAdd]
  -- 1 yX12_isRow
  refine xS.callS rfl rfl rfl ⟨Nat.le_of_ble_eq_true rfl, rfl⟩ (c_X12_isRow_in hp1) (fun v M1 hv => ?_)
  rw [hv.1, hv.2]
  clear hv M1 v
  try dsimp only [Nat.reduceAdd, Option.toList, List.cons_append, List.nil_append, List.drop]
  refine xS.br0 (c := .eq) (off := 10) (l := 3) rfl rfl (fun h4 => ?_) (fun h4 => ?_)
  · have g4 := xt_eq h4
    exfalso; first | exact absurd g4 (by decide) | (simp (disch := omega) only [Int32.lt_iff_toInt_lt, Int32.le_iff_toInt_le, nI_toInt, Int32.reduceToInt] at g4 <;> omega)
  · have g4 := xf_eq h4
    refine xS.s1 rfl rfl ?_
    try dsimp only [Nat.reduceAdd]
    -- 8 yX12_isRow
    refine xS.callS rfl rfl rfl ⟨Nat.le_of_ble_eq_true rfl, rfl⟩ (c_X12_isRow_in hs1) (fun v M1 hv => ?_)
    rw [hv.1, hv.2]
    clear hv M1 v
    try dsimp only [Nat.reduceAdd, Option.toList, List.cons_append, List.nil_append, List.drop]
    refine xS.br0 (c := .ne) (off := 5) (l := 3) rfl rfl (fun h11 => ?_) (fun h11 => ?_)
    · have g11 := xt_ne h11
      refine xS.s1 rfl rfl ?_
      try dsimp only [Nat.reduceAdd]
      refine xS.br0 (c := .ge) (off := 9) (l := 3) rfl rfl (fun h18 => ?_) (fun h18 => ?_)
      · have g18 := xt_ge h18
        refine xS.s1 rfl rfl ?_
        try dsimp only [Nat.reduceAdd]
        refine xS.gR rfl rfl rfl ⟨by decide, rfl⟩ rfl ?_
        try dsimp only [Nat.reduceAdd]
        refine xS.s1 rfl rfl ?_
        try dsimp only [Nat.reduceAdd]
        refine xS.ia rfl xar_74 (by omega) ?_
        try dsimp only [Nat.reduceAdd]
        refine xS.br0 (c := .lt) (off := 12) (l := 3) rfl rfl (fun h33 => ?_) (fun h33 => ?_)
        · have g33 := xt_lt h33
          exfalso; rw [h1s] at g33; exact absurd g33 (nI_pos (by omega))
        · have g33 := xf_lt h33
          refine xS.s1 rfl rfl ?_
          try dsimp only [Nat.reduceAdd]
          refine xS.gR rfl rfl rfl ⟨by decide, rfl⟩ rfl ?_
          try dsimp only [Nat.reduceAdd]
          refine xS.s1 rfl rfl ?_
          try dsimp only [Nat.reduceAdd]
          refine xS.ia rfl xar_74 (by omega) ?_
          try dsimp only [Nat.reduceAdd]
          refine xS.br0 (c := .ge) (off := 9) (l := 3) rfl rfl (fun h42 => ?_) (fun h42 => ?_)
          · have g42 := xt_ge h42
            refine xS.s1 rfl rfl ?_
            try dsimp only [Nat.reduceAdd]
            refine xS.s1 rfl rfl ?_
            try dsimp only [Nat.reduceAdd]
            refine xS.s1 rfl rfl ?_
            try dsimp only [Nat.reduceAdd]
            refine xS.gR rfl rfl rfl ⟨by decide, rfl⟩ rfl ?_
            try dsimp only [Nat.reduceAdd]
            refine xS.s1 rfl rfl ?_
            try dsimp only [Nat.reduceAdd]
            refine xS.ia rfl xar_74 (by omega) ?_
            try dsimp only [Nat.reduceAdd]
            rw [h1s]
            -- 60 yX12_isPart
            refine xS.callS rfl rfl rfl ⟨Nat.le_of_ble_eq_true rfl, rfl⟩ (c_isPart_in hn hq1) (fun v M1 hv => ?_)
            rw [hv.1, hv.2]
            clear hv M1 v
            try dsimp only [Nat.reduceAdd, Option.toList, List.cons_append, List.nil_append, List.drop]
            refine xS.br0 (c := .eq) (off := 19) (l := 3) rfl rfl (fun h63 => ?_) (fun h63 => ?_)
            · have g63 := xt_eq h63
              exfalso; first | exact absurd g63 (by decide) | (simp (disch := omega) only [Int32.lt_iff_toInt_lt, Int32.le_iff_toInt_le, nI_toInt, Int32.reduceToInt] at g63 <;> omega)
            · have g63 := xf_eq h63
              refine xS.s1 rfl rfl ?_
              try dsimp only [Nat.reduceAdd]
              refine xS.s1 rfl rfl ?_
              try dsimp only [Nat.reduceAdd]
              refine xS.s1 rfl rfl ?_
              try dsimp only [Nat.reduceAdd]
              refine xS.gR rfl rfl rfl ⟨by decide, rfl⟩ rfl ?_
              try dsimp only [Nat.reduceAdd]
              refine xS.s1 rfl rfl ?_
              try dsimp only [Nat.reduceAdd]
              refine xS.ia rfl xar_74 (by omega) ?_
              try dsimp only [Nat.reduceAdd]
              rw [h2s]
              -- 76 yX12_isPart
              refine xS.callS rfl rfl rfl ⟨Nat.le_of_ble_eq_true rfl, rfl⟩ (c_isPart_in hn2 hq2) (fun v M1 hv => ?_)
              rw [hv.1, hv.2]
              clear hv M1 v
              try dsimp only [Nat.reduceAdd, Option.toList, List.cons_append, List.nil_append, List.drop]
              refine xS.br0 (c := .ne) (off := 9) (l := 3) rfl rfl (fun h79 => ?_) (fun h79 => ?_)
              · have g79 := xt_ne h79
                refine xS.s1 rfl rfl ?_
                try dsimp only [Nat.reduceAdd]
                refine xS.s1 rfl rfl ?_
                try dsimp only [Nat.reduceAdd]
                refine xS.br (c := .ne) (off := 13) (l := 3) rfl rfl (fun h90 => ?_) (fun h90 => ?_)
                · have g90 := xt_ne h90
                  refine xS.s1 rfl rfl ?_
                  try dsimp only [Nat.reduceAdd, xi_0]
                  refine xS.s1 rfl rfl ?_
                  try dsimp only [Nat.reduceAdd]
                  refine xS.s1 rfl rfl ?_
                  try dsimp only [Nat.reduceAdd, xi_0]
                  refine xS.s1 rfl rfl ?_
                  try dsimp only [Nat.reduceAdd]
                  refine xS.pick [0, 2, 3, 4, 5, 6, 7, 1] rfl ?_
                  refine xS.loop (σ := Unit) (m) (fun j S => [(7, .int (nI j)), (0, .ref 73), (1, .int (nI p)), (2, .int (nI i1)), (3, .int (nI s)), (4, .int (nI j1)), (5, .int (nI m)), (6, .int 0)]) (fun j _ => xH b (gseg g 75 (40 * s + j1) j (fun q => g 75 (40 * p + i1 + q))) l) (fun _ _ => True) (()) (rfl) (by rw [gseg_0]) (trivial) ?_
                  intro j S hj hI ih
                  try dsimp only
                  refine xS.s1 rfl rfl ?_
                  try dsimp only [Nat.reduceAdd]
                  refine xS.s1 rfl rfl ?_
                  try dsimp only [Nat.reduceAdd]
                  refine xS.br (c := .ge) (off := 57) (l := 3) rfl rfl (fun h113 => ?_) (fun h113 => ?_)
                  · have g113 := xt_ge h113
                    have e := xnle g113 (by omega) (by omega)
                    have e2 : m = j := by omega
                    subst e2
                    refine xS.s1 rfl rfl ?_
                    try dsimp only [Nat.reduceAdd, xi_1]
                    refine xS.ret rfl rfl rfl (fun _ _ => rfl) ?_
                    exact ⟨rfl, rfl⟩
                  · have g113 := xf_ge h113
                    have hlt := xnlt g113 (by omega) (by omega)
                    refine xS.s1 rfl rfl ?_
                    try dsimp only [Nat.reduceAdd]
                    refine xS.br0 (c := .eq) (off := 13) (l := 3) rfl rfl (fun h118 => ?_) (fun h118 => ?_)
                    · have g118 := xt_eq h118
                      refine xS.s1 rfl rfl ?_
                      try dsimp only [Nat.reduceAdd]
                      refine xS.s1 rfl rfl ?_
                      try dsimp only [Nat.reduceAdd]
                      refine xS.s1 rfl rfl ?_
                      try dsimp only [Nat.reduceAdd]
                      refine xS.gR rfl rfl rfl ⟨by decide, rfl⟩ rfl ?_
                      try dsimp only [Nat.reduceAdd]
                      refine xS.s1 rfl rfl ?_
                      try dsimp only [Nat.reduceAdd, xj_40]
                      refine xS.s1 rfl rfl ?_
                      try dsimp only [Nat.reduceAdd]
                      refine xS.s1 rfl rfl ?_
                      try dsimp only [Nat.reduceAdd]
                      refine xS.s1 rfl rfl ?_
                      try dsimp only [Nat.reduceAdd]
                      refine xS.s1 rfl rfl ?_
                      try dsimp only [Nat.reduceAdd]
                      refine xS.s1 rfl rfl ?_
                      try dsimp only [Nat.reduceAdd]
                      refine xS.s1 rfl rfl ?_
                      try dsimp only [Nat.reduceAdd]
                      refine xS.s1 rfl rfl ?_
                      try dsimp only [Nat.reduceAdd]
                      refine xS.gR rfl rfl rfl ⟨by decide, rfl⟩ rfl ?_
                      try dsimp only [Nat.reduceAdd]
                      refine xS.s1 rfl rfl ?_
                      try dsimp only [Nat.reduceAdd, xj_40]
                      refine xS.s1 rfl rfl ?_
                      try dsimp only [Nat.reduceAdd]
                      refine xS.s1 rfl rfl ?_
                      try dsimp only [Nat.reduceAdd]
                      refine xS.s1 rfl rfl ?_
                      try dsimp only [Nat.reduceAdd]
                      refine xS.s1 rfl rfl ?_
                      try dsimp only [Nat.reduceAdd]
                      refine xS.s1 rfl rfl ?_
                      try dsimp only [Nat.reduceAdd]
                      refine xS.s1 rfl rfl ?_
                      try dsimp only [Nat.reduceAdd]
                      rw [show ((((40 * nI p) + nI i1) + nI j) : Int32) = nI (((40 * p) + i1) + j) from by simp only [← nI_add, ← pk_mul]; rfl]
                      refine xS.ia rfl xar_75 (by omega) ?_
                      try dsimp only [Nat.reduceAdd]
                      rw [gseg_out (by have : ¬ (p = s ∧ i1 < j1) := hup; omega)]
                      rw [show ((((40 * nI s) + nI j1) + nI j) : Int32) = nI (((40 * s) + j1) + j) from by simp only [← nI_add, ← pk_mul]; rfl]
                      refine xS.ias rfl xar_75 (by omega) ?_
                      try dsimp only [Nat.reduceAdd]
                      rw [gseg_s (S := (fun q => g 75 (40 * p + i1 + q)))]
                      refine xS.s1 rfl rfl ?_
                      try dsimp only [Nat.reduceAdd, xi_1]
                      rw [nI_1]
                      refine xS.s1 rfl rfl ?_
                      try dsimp only [Nat.reduceAdd]
                      refine xS.pick [0, 2, 3, 4, 5, 6, 7, 8] rfl ?_
                      exact ih () (by omega) trivial
                    · have g118 := xf_eq h118
                      exfalso; first | exact absurd g118 (by decide) | (simp (disch := omega) only [Int32.lt_iff_toInt_lt, Int32.le_iff_toInt_le, nI_toInt, Int32.reduceToInt] at g118 <;> omega)
                · have g90 := xf_ne h90
                  refine xS.s1 rfl rfl ?_
                  try dsimp only [Nat.reduceAdd]
                  refine xS.s1 rfl rfl ?_
                  try dsimp only [Nat.reduceAdd]
                  refine xS.br (c := .le) (off := 7) (l := 3) rfl rfl (fun h96 => ?_) (fun h96 => ?_)
                  · have g96 := xt_le h96
                    refine xS.s1 rfl rfl ?_
                    try dsimp only [Nat.reduceAdd, xi_0]
                    refine xS.s1 rfl rfl ?_
                    try dsimp only [Nat.reduceAdd]
                    refine xS.s1 rfl rfl ?_
                    try dsimp only [Nat.reduceAdd, xi_0]
                    refine xS.s1 rfl rfl ?_
                    try dsimp only [Nat.reduceAdd]
                    refine xS.pick [0, 2, 3, 4, 5, 6, 7, 1] rfl ?_
                    refine xS.loop (σ := Unit) (m) (fun j S => [(7, .int (nI j)), (0, .ref 73), (1, .int (nI p)), (2, .int (nI i1)), (3, .int (nI s)), (4, .int (nI j1)), (5, .int (nI m)), (6, .int 0)]) (fun j _ => xH b (gseg g 75 (40 * s + j1) j (fun q => g 75 (40 * p + i1 + q))) l) (fun _ _ => True) (()) (rfl) (by rw [gseg_0]) (trivial) ?_
                    intro j S hj hI ih
                    try dsimp only
                    refine xS.s1 rfl rfl ?_
                    try dsimp only [Nat.reduceAdd]
                    refine xS.s1 rfl rfl ?_
                    try dsimp only [Nat.reduceAdd]
                    refine xS.br (c := .ge) (off := 57) (l := 3) rfl rfl (fun h113 => ?_) (fun h113 => ?_)
                    · have g113 := xt_ge h113
                      have e := xnle g113 (by omega) (by omega)
                      have e2 : m = j := by omega
                      subst e2
                      refine xS.s1 rfl rfl ?_
                      try dsimp only [Nat.reduceAdd, xi_1]
                      refine xS.ret rfl rfl rfl (fun _ _ => rfl) ?_
                      exact ⟨rfl, rfl⟩
                    · have g113 := xf_ge h113
                      have hlt := xnlt g113 (by omega) (by omega)
                      refine xS.s1 rfl rfl ?_
                      try dsimp only [Nat.reduceAdd]
                      refine xS.br0 (c := .eq) (off := 13) (l := 3) rfl rfl (fun h118 => ?_) (fun h118 => ?_)
                      · have g118 := xt_eq h118
                        refine xS.s1 rfl rfl ?_
                        try dsimp only [Nat.reduceAdd]
                        refine xS.s1 rfl rfl ?_
                        try dsimp only [Nat.reduceAdd]
                        refine xS.s1 rfl rfl ?_
                        try dsimp only [Nat.reduceAdd]
                        refine xS.gR rfl rfl rfl ⟨by decide, rfl⟩ rfl ?_
                        try dsimp only [Nat.reduceAdd]
                        refine xS.s1 rfl rfl ?_
                        try dsimp only [Nat.reduceAdd, xj_40]
                        refine xS.s1 rfl rfl ?_
                        try dsimp only [Nat.reduceAdd]
                        refine xS.s1 rfl rfl ?_
                        try dsimp only [Nat.reduceAdd]
                        refine xS.s1 rfl rfl ?_
                        try dsimp only [Nat.reduceAdd]
                        refine xS.s1 rfl rfl ?_
                        try dsimp only [Nat.reduceAdd]
                        refine xS.s1 rfl rfl ?_
                        try dsimp only [Nat.reduceAdd]
                        refine xS.s1 rfl rfl ?_
                        try dsimp only [Nat.reduceAdd]
                        refine xS.s1 rfl rfl ?_
                        try dsimp only [Nat.reduceAdd]
                        refine xS.gR rfl rfl rfl ⟨by decide, rfl⟩ rfl ?_
                        try dsimp only [Nat.reduceAdd]
                        refine xS.s1 rfl rfl ?_
                        try dsimp only [Nat.reduceAdd, xj_40]
                        refine xS.s1 rfl rfl ?_
                        try dsimp only [Nat.reduceAdd]
                        refine xS.s1 rfl rfl ?_
                        try dsimp only [Nat.reduceAdd]
                        refine xS.s1 rfl rfl ?_
                        try dsimp only [Nat.reduceAdd]
                        refine xS.s1 rfl rfl ?_
                        try dsimp only [Nat.reduceAdd]
                        refine xS.s1 rfl rfl ?_
                        try dsimp only [Nat.reduceAdd]
                        refine xS.s1 rfl rfl ?_
                        try dsimp only [Nat.reduceAdd]
                        rw [show ((((40 * nI p) + nI i1) + nI j) : Int32) = nI (((40 * p) + i1) + j) from by simp only [← nI_add, ← pk_mul]; rfl]
                        refine xS.ia rfl xar_75 (by omega) ?_
                        try dsimp only [Nat.reduceAdd]
                        rw [gseg_out (by have : ¬ (p = s ∧ i1 < j1) := hup; omega)]
                        rw [show ((((40 * nI s) + nI j1) + nI j) : Int32) = nI (((40 * s) + j1) + j) from by simp only [← nI_add, ← pk_mul]; rfl]
                        refine xS.ias rfl xar_75 (by omega) ?_
                        try dsimp only [Nat.reduceAdd]
                        rw [gseg_s (S := (fun q => g 75 (40 * p + i1 + q)))]
                        refine xS.s1 rfl rfl ?_
                        try dsimp only [Nat.reduceAdd, xi_1]
                        rw [nI_1]
                        refine xS.s1 rfl rfl ?_
                        try dsimp only [Nat.reduceAdd]
                        refine xS.pick [0, 2, 3, 4, 5, 6, 7, 8] rfl ?_
                        exact ih () (by omega) trivial
                      · have g118 := xf_eq h118
                        exfalso; first | exact absurd g118 (by decide) | (simp (disch := omega) only [Int32.lt_iff_toInt_lt, Int32.le_iff_toInt_le, nI_toInt, Int32.reduceToInt] at g118 <;> omega)
                  · have g96 := xf_le h96
                    exfalso; exact hup ⟨(nI_eq (by omega) (by omega)).mp g90, xnlt g96 (by omega) (by omega)⟩
              · have g79 := xf_ne h79
                exfalso; first | exact absurd g79 (by decide) | (simp (disch := omega) only [Int32.lt_iff_toInt_lt, Int32.le_iff_toInt_le, nI_toInt, Int32.reduceToInt] at g79 <;> omega)
          · have g42 := xf_ge h42
            exfalso; rw [h2s] at g42; exact absurd g42 (nI_pos (by omega))
      · have g18 := xf_ge h18
        exfalso; first | exact absurd g18 (by decide) | (simp (disch := omega) only [Int32.lt_iff_toInt_lt, Int32.le_iff_toInt_le, nI_toInt, Int32.reduceToInt] at g18 <;> omega)
    · have g11 := xf_ne h11
      exfalso; first | exact absurd g11 (by decide) | (simp (disch := omega) only [Int32.lt_iff_toInt_lt, Int32.le_iff_toInt_le, nI_toInt, Int32.reduceToInt] at g11 <;> omega)

def gcu (g : Nat → Nat → Int32) (o o' m j : Nat) : Nat → Nat → Int32 := fun a' i' => if a' = 75 ∧ o + (m - j) ≤ i' ∧ i' < o + m then g 75 (o' + (i' - o)) else g a' i'
theorem gcu_0 (g : Nat → Nat → Int32) (o o' m : Nat) : gcu g o o' m 0 = g := by
  funext a' i'
  exact if_neg (fun z => by omega)
theorem gcu_s {g : Nat → Nat → Int32} {o o' m j : Nat} (h : j < m) : up (gcu g o o' m j) 75 (o + (m - 1 - j)) (g 75 (o' + (m - 1 - j))) = gcu g o o' m (j + 1) := by
  funext a' i'
  unfold up gcu
  by_cases e : a' = 75
  · subst e
    by_cases e2 : i' = o + (m - 1 - j)
    · subst e2
      rw [if_pos ⟨rfl, rfl⟩, if_pos ⟨rfl, by omega, by omega⟩]
      congr 1
      omega
    · rw [if_neg (fun z => e2 z.2)]
      by_cases e3 : o + (m - j) ≤ i' ∧ i' < o + m
      · rw [if_pos ⟨rfl, e3⟩, if_pos ⟨rfl, by omega, e3.2⟩]
      · rw [if_neg (fun z => e3 z.2), if_neg (fun z => e3 ⟨by omega, z.2.2⟩)]
  · rw [if_neg (fun z => e z.1), if_neg (fun z => e z.1), if_neg (fun z => e z.1)]
theorem gcu_out {g : Nat → Nat → Int32} {o o' m j i : Nat} (h : i < o + (m - j)) : gcu g o o' m j 75 i = g 75 i := if_neg (fun z => by omega)
theorem gcu_m {g : Nat → Nat → Int32} {o o' m : Nat} : gcu g o o' m m = gseg g 75 o m (fun q => g 75 (o' + q)) := by
  funext a' i'
  unfold gcu gseg
  by_cases e : a' = 75 ∧ o ≤ i' ∧ i' < o + m
  · rw [if_pos ⟨e.1, by omega, e.2.2⟩, if_pos e]
  · rw [if_neg (fun z => e ⟨z.1, by omega, z.2.2⟩), if_neg e]

set_option maxRecDepth 10000 in
theorem c_X12_copy_up (hp1 : p < 6) (hs1 : s < 6) (h1s : g 74 p = nI n) (hn : n ≤ 40) (h2s : g 74 s = nI n2) (hn2 : n2 ≤ 40) (hq1 : i1 + m ≤ n) (hq2 : j1 + m ≤ n2) (hps : p = s) (hij : i1 < j1) : xT (k + 3) 164 [.ref 73, .int (nI p), .int (nI i1), .int (nI s), .int (nI j1), .int (nI m)] (xH b g l) (fun r M' => M' = xH b (gseg g 75 (40 * s + j1) m (fun q => g 75 (40 * p + i1 + q))) l ∧ r = some (.int 1)) := by
  refine xT.of rfl (Nat.le_of_ble_eq_true rfl) ?_
  change xS _ _ 0 [(0, .ref 73), (1, .int (nI p)), (2, .int (nI i1)), (3, .int (nI s)), (4, .int (nI j1)), (5, .int (nI m))] [] _ _
  refine xS.s1 rfl rfl ?_
  try dsimp only [Nat.reduceAdd]
  -- 1 yX12_isRow
  refine xS.callS rfl rfl rfl ⟨Nat.le_of_ble_eq_true rfl, rfl⟩ (c_X12_isRow_in hp1) (fun v M1 hv => ?_)
  rw [hv.1, hv.2]
  clear hv M1 v
  try dsimp only [Nat.reduceAdd, Option.toList, List.cons_append, List.nil_append, List.drop]
  refine xS.br0 (c := .eq) (off := 10) (l := 3) rfl rfl (fun h4 => ?_) (fun h4 => ?_)
  · have g4 := xt_eq h4
    exfalso; first | exact absurd g4 (by decide) | (simp (disch := omega) only [Int32.lt_iff_toInt_lt, Int32.le_iff_toInt_le, nI_toInt, Int32.reduceToInt] at g4 <;> omega)
  · have g4 := xf_eq h4
    refine xS.s1 rfl rfl ?_
    try dsimp only [Nat.reduceAdd]
    -- 8 yX12_isRow
    refine xS.callS rfl rfl rfl ⟨Nat.le_of_ble_eq_true rfl, rfl⟩ (c_X12_isRow_in hs1) (fun v M1 hv => ?_)
    rw [hv.1, hv.2]
    clear hv M1 v
    try dsimp only [Nat.reduceAdd, Option.toList, List.cons_append, List.nil_append, List.drop]
    refine xS.br0 (c := .ne) (off := 5) (l := 3) rfl rfl (fun h11 => ?_) (fun h11 => ?_)
    · have g11 := xt_ne h11
      refine xS.s1 rfl rfl ?_
      try dsimp only [Nat.reduceAdd]
      refine xS.br0 (c := .ge) (off := 9) (l := 3) rfl rfl (fun h18 => ?_) (fun h18 => ?_)
      · have g18 := xt_ge h18
        refine xS.s1 rfl rfl ?_
        try dsimp only [Nat.reduceAdd]
        refine xS.gR rfl rfl rfl ⟨by decide, rfl⟩ rfl ?_
        try dsimp only [Nat.reduceAdd]
        refine xS.s1 rfl rfl ?_
        try dsimp only [Nat.reduceAdd]
        refine xS.ia rfl xar_74 (by omega) ?_
        try dsimp only [Nat.reduceAdd]
        refine xS.br0 (c := .lt) (off := 12) (l := 3) rfl rfl (fun h33 => ?_) (fun h33 => ?_)
        · have g33 := xt_lt h33
          exfalso; rw [h1s] at g33; exact absurd g33 (nI_pos (by omega))
        · have g33 := xf_lt h33
          refine xS.s1 rfl rfl ?_
          try dsimp only [Nat.reduceAdd]
          refine xS.gR rfl rfl rfl ⟨by decide, rfl⟩ rfl ?_
          try dsimp only [Nat.reduceAdd]
          refine xS.s1 rfl rfl ?_
          try dsimp only [Nat.reduceAdd]
          refine xS.ia rfl xar_74 (by omega) ?_
          try dsimp only [Nat.reduceAdd]
          refine xS.br0 (c := .ge) (off := 9) (l := 3) rfl rfl (fun h42 => ?_) (fun h42 => ?_)
          · have g42 := xt_ge h42
            refine xS.s1 rfl rfl ?_
            try dsimp only [Nat.reduceAdd]
            refine xS.s1 rfl rfl ?_
            try dsimp only [Nat.reduceAdd]
            refine xS.s1 rfl rfl ?_
            try dsimp only [Nat.reduceAdd]
            refine xS.gR rfl rfl rfl ⟨by decide, rfl⟩ rfl ?_
            try dsimp only [Nat.reduceAdd]
            refine xS.s1 rfl rfl ?_
            try dsimp only [Nat.reduceAdd]
            refine xS.ia rfl xar_74 (by omega) ?_
            try dsimp only [Nat.reduceAdd]
            rw [h1s]
            -- 60 yX12_isPart
            refine xS.callS rfl rfl rfl ⟨Nat.le_of_ble_eq_true rfl, rfl⟩ (c_isPart_in hn hq1) (fun v M1 hv => ?_)
            rw [hv.1, hv.2]
            clear hv M1 v
            try dsimp only [Nat.reduceAdd, Option.toList, List.cons_append, List.nil_append, List.drop]
            refine xS.br0 (c := .eq) (off := 19) (l := 3) rfl rfl (fun h63 => ?_) (fun h63 => ?_)
            · have g63 := xt_eq h63
              exfalso; first | exact absurd g63 (by decide) | (simp (disch := omega) only [Int32.lt_iff_toInt_lt, Int32.le_iff_toInt_le, nI_toInt, Int32.reduceToInt] at g63 <;> omega)
            · have g63 := xf_eq h63
              refine xS.s1 rfl rfl ?_
              try dsimp only [Nat.reduceAdd]
              refine xS.s1 rfl rfl ?_
              try dsimp only [Nat.reduceAdd]
              refine xS.s1 rfl rfl ?_
              try dsimp only [Nat.reduceAdd]
              refine xS.gR rfl rfl rfl ⟨by decide, rfl⟩ rfl ?_
              try dsimp only [Nat.reduceAdd]
              refine xS.s1 rfl rfl ?_
              try dsimp only [Nat.reduceAdd]
              refine xS.ia rfl xar_74 (by omega) ?_
              try dsimp only [Nat.reduceAdd]
              rw [h2s]
              -- 76 yX12_isPart
              refine xS.callS rfl rfl rfl ⟨Nat.le_of_ble_eq_true rfl, rfl⟩ (c_isPart_in hn2 hq2) (fun v M1 hv => ?_)
              rw [hv.1, hv.2]
              clear hv M1 v
              try dsimp only [Nat.reduceAdd, Option.toList, List.cons_append, List.nil_append, List.drop]
              refine xS.br0 (c := .ne) (off := 9) (l := 3) rfl rfl (fun h79 => ?_) (fun h79 => ?_)
              · have g79 := xt_ne h79
                refine xS.s1 rfl rfl ?_
                try dsimp only [Nat.reduceAdd]
                refine xS.s1 rfl rfl ?_
                try dsimp only [Nat.reduceAdd]
                refine xS.br (c := .ne) (off := 13) (l := 3) rfl rfl (fun h90 => ?_) (fun h90 => ?_)
                · have g90 := xt_ne h90
                  exact absurd (congrArg nI hps) g90
                · have g90 := xf_ne h90
                  refine xS.s1 rfl rfl ?_
                  try dsimp only [Nat.reduceAdd]
                  refine xS.s1 rfl rfl ?_
                  try dsimp only [Nat.reduceAdd]
                  refine xS.br (c := .le) (off := 7) (l := 3) rfl rfl (fun h96 => ?_) (fun h96 => ?_)
                  · have g96 := xt_le h96
                    exfalso; have := xnle g96 (by omega) (by omega); omega
                  · have g96 := xf_le h96
                    refine xS.s1 rfl rfl ?_
                    try dsimp only [Nat.reduceAdd, xi_1]
                    refine xS.s1 rfl rfl ?_
                    try dsimp only [Nat.reduceAdd]
                    refine xS.s1 rfl rfl ?_
                    try dsimp only [Nat.reduceAdd]
                    refine xS.s1 rfl rfl ?_
                    try dsimp only [Nat.reduceAdd, xi_0]
                    refine xS.s1 rfl rfl ?_
                    try dsimp only [Nat.reduceAdd]
                    refine xS.pick [0, 2, 3, 4, 5, 6, 7, 1] rfl ?_
                    refine xS.loop (σ := Unit) (m) (fun j S => [(7, .int (nI j)), (0, .ref 73), (1, .int (nI p)), (2, .int (nI i1)), (3, .int (nI s)), (4, .int (nI j1)), (5, .int (nI m)), (6, .int 1)]) (fun j _ => xH b (gcu g (40 * s + j1) (40 * p + i1) m j) l) (fun _ _ => True) (()) (rfl) (by rw [gcu_0]) (trivial) ?_
                    intro j S hj hI ih
                    try dsimp only
                    refine xS.s1 rfl rfl ?_
                    try dsimp only [Nat.reduceAdd]
                    refine xS.s1 rfl rfl ?_
                    try dsimp only [Nat.reduceAdd]
                    refine xS.br (c := .ge) (off := 57) (l := 3) rfl rfl (fun h113 => ?_) (fun h113 => ?_)
                    · have g113 := xt_ge h113
                      have e := xnle g113 (by omega) (by omega)
                      have e2 : m = j := by omega
                      subst e2
                      refine xS.s1 rfl rfl ?_
                      try dsimp only [Nat.reduceAdd, xi_1]
                      refine xS.ret rfl rfl rfl (fun _ _ => rfl) ?_
                      rw [gcu_m]
                      exact ⟨rfl, rfl⟩
                    · have g113 := xf_ge h113
                      have hlt := xnlt g113 (by omega) (by omega)
                      refine xS.s1 rfl rfl ?_
                      try dsimp only [Nat.reduceAdd]
                      refine xS.br0 (c := .eq) (off := 13) (l := 3) rfl rfl (fun h118 => ?_) (fun h118 => ?_)
                      · have g118 := xt_eq h118
                        exfalso; first | exact absurd g118 (by decide) | (simp (disch := omega) only [Int32.lt_iff_toInt_lt, Int32.le_iff_toInt_le, nI_toInt, Int32.reduceToInt] at g118 <;> omega)
                      · have g118 := xf_eq h118
                        refine xS.s1 rfl rfl ?_
                        try dsimp only [Nat.reduceAdd]
                        refine xS.s1 rfl rfl ?_
                        try dsimp only [Nat.reduceAdd, xi_1]
                        refine xS.s1 rfl rfl ?_
                        try dsimp only [Nat.reduceAdd]
                        refine xS.s1 rfl rfl ?_
                        try dsimp only [Nat.reduceAdd]
                        refine xS.s1 rfl rfl ?_
                        try dsimp only [Nat.reduceAdd]
                        rw [show nI m - 1 - nI j = nI (m - 1 - j) from by rw [show (1 : Int32) = nI 1 from rfl, pk_sub (by omega), pk_sub (by omega)]]
                        refine xS.s1 rfl rfl ?_
                        try dsimp only [Nat.reduceAdd]
                        refine xS.s1 rfl rfl ?_
                        try dsimp only [Nat.reduceAdd]
                        refine xS.s1 rfl rfl ?_
                        try dsimp only [Nat.reduceAdd]
                        refine xS.gR rfl rfl rfl ⟨by decide, rfl⟩ rfl ?_
                        try dsimp only [Nat.reduceAdd]
                        refine xS.s1 rfl rfl ?_
                        try dsimp only [Nat.reduceAdd, xj_40]
                        refine xS.s1 rfl rfl ?_
                        try dsimp only [Nat.reduceAdd]
                        refine xS.s1 rfl rfl ?_
                        try dsimp only [Nat.reduceAdd]
                        refine xS.s1 rfl rfl ?_
                        try dsimp only [Nat.reduceAdd]
                        refine xS.s1 rfl rfl ?_
                        try dsimp only [Nat.reduceAdd]
                        refine xS.s1 rfl rfl ?_
                        try dsimp only [Nat.reduceAdd]
                        refine xS.s1 rfl rfl ?_
                        try dsimp only [Nat.reduceAdd]
                        refine xS.s1 rfl rfl ?_
                        try dsimp only [Nat.reduceAdd]
                        refine xS.gR rfl rfl rfl ⟨by decide, rfl⟩ rfl ?_
                        try dsimp only [Nat.reduceAdd]
                        refine xS.s1 rfl rfl ?_
                        try dsimp only [Nat.reduceAdd, xj_40]
                        refine xS.s1 rfl rfl ?_
                        try dsimp only [Nat.reduceAdd]
                        refine xS.s1 rfl rfl ?_
                        try dsimp only [Nat.reduceAdd]
                        refine xS.s1 rfl rfl ?_
                        try dsimp only [Nat.reduceAdd]
                        refine xS.s1 rfl rfl ?_
                        try dsimp only [Nat.reduceAdd]
                        refine xS.s1 rfl rfl ?_
                        try dsimp only [Nat.reduceAdd]
                        refine xS.s1 rfl rfl ?_
                        try dsimp only [Nat.reduceAdd]
                        rw [show ((((40 * nI p) + nI i1) + nI ((m - 1 - j))) : Int32) = nI (((40 * p) + i1) + ((m - 1 - j))) from by simp only [← nI_add, ← pk_mul]; rfl]
                        refine xS.ia rfl xar_75 (by omega) ?_
                        try dsimp only [Nat.reduceAdd]
                        rw [gcu_out (by omega)]
                        rw [show ((((40 * nI s) + nI j1) + nI ((m - 1 - j))) : Int32) = nI (((40 * s) + j1) + ((m - 1 - j))) from by simp only [← nI_add, ← pk_mul]; rfl]
                        refine xS.ias rfl xar_75 (by omega) ?_
                        try dsimp only [Nat.reduceAdd]
                        rw [gcu_s hlt]
                        refine xS.s1 rfl rfl ?_
                        try dsimp only [Nat.reduceAdd, xi_1]
                        rw [nI_1]
                        refine xS.s1 rfl rfl ?_
                        try dsimp only [Nat.reduceAdd]
                        refine xS.pick [0, 2, 3, 4, 5, 6, 7, 8] rfl ?_
                        exact ih () (by omega) trivial
              · have g79 := xf_ne h79
                exfalso; first | exact absurd g79 (by decide) | (simp (disch := omega) only [Int32.lt_iff_toInt_lt, Int32.le_iff_toInt_le, nI_toInt, Int32.reduceToInt] at g79 <;> omega)
          · have g42 := xf_ge h42
            exfalso; rw [h2s] at g42; exact absurd g42 (nI_pos (by omega))
      · have g18 := xf_ge h18
        exfalso; first | exact absurd g18 (by decide) | (simp (disch := omega) only [Int32.lt_iff_toInt_lt, Int32.le_iff_toInt_le, nI_toInt, Int32.reduceToInt] at g18 <;> omega)
    · have g11 := xf_ne h11
      exfalso; first | exact absurd g11 (by decide) | (simp (disch := omega) only [Int32.lt_iff_toInt_lt, Int32.le_iff_toInt_le, nI_toInt, Int32.reduceToInt] at g11 <;> omega)

theorem c_X12_copy_ok (hp1 : p < 6) (hs1 : s < 6) (h1s : g 74 p = nI n) (hn : n ≤ 40) (h2s : g 74 s = nI n2) (hn2 : n2 ≤ 40) (hq1 : i1 + m ≤ n) (hq2 : j1 + m ≤ n2) : xT (k + 3) 164 [.ref 73, .int (nI p), .int (nI i1), .int (nI s), .int (nI j1), .int (nI m)] (xH b g l) (fun r M' => M' = xH b (gseg g 75 (40 * s + j1) m (fun q => g 75 (40 * p + i1 + q))) l ∧ r = some (.int 1)) := by
  by_cases c : p = s ∧ i1 < j1
  · exact c_X12_copy_up hp1 hs1 h1s hn h2s hn2 hq1 hq2 c.1 c.2
  · exact c_X12_copy_dn hp1 hs1 h1s hn h2s hn2 hq1 hq2 c

set_option maxRecDepth 10000 in
theorem c_X12_mark_bad (hR : xRr g h tx G T Lw) (hx : ¬ ((0 ≤ x ∧ x < nI G) ∧ 1 ≤ y ∧ y ≤ 5)) : xT (k + 4) 188 [.ref 73, .int x, .int y] (xH b g l) (fun r M' => M' = xH b g l ∧ r = some (.int (-1))) := by
  refine xT.of rfl (Nat.le_of_ble_eq_true rfl) ?_
  change xS _ _ 0 [(0, .ref 73), (1, .int x), (2, .int y)] [] _ _
  refine xS.s1 rfl rfl ?_
  try dsimp only [Nat.reduceAdd]
  refine xS.s1 rfl rfl ?_
  try dsimp only [Nat.reduceAdd]
  -- 2 yX12_isGlass
  refine xS.cv rfl rfl rfl rfl rfl rfl ⟨by decide, rfl, rfl⟩ (c_X12_isGlass hR.1.1 hR.1.2) (fun v M1 hv => ?_)
  rw [hv.1, hv.2]
  clear hv M1 v
  try dsimp only [Nat.reduceAdd, Option.toList, List.cons_append, List.nil_append, List.drop]
  refine xS.br0 (c := .eq) (off := 12) (l := 3) rfl rfl (fun h5 => ?_) (fun h5 => ?_)
  · have g5 := xt_eq h5
    refine xS.s1 rfl rfl ?_
    try dsimp only [Nat.reduceAdd, xi_m1]
    refine xS.ret rfl rfl rfl (fun _ _ => rfl) ?_
    exact ⟨rfl, rfl⟩
  · have g5 := xf_eq h5
    refine xS.s1 rfl rfl ?_
    try dsimp only [Nat.reduceAdd]
    refine xS.s1 rfl rfl ?_
    try dsimp only [Nat.reduceAdd, xi_1]
    refine xS.s1 rfl rfl ?_
    try dsimp only [Nat.reduceAdd, xi_5]
    -- 11 yX12_in
    refine xS.callS rfl rfl rfl ⟨Nat.le_of_ble_eq_true rfl, rfl⟩ c_in_x (fun v M1 hv => ?_)
    rw [hv.1, hv.2]
    clear hv M1 v
    try dsimp only [Nat.reduceAdd, Option.toList, List.cons_append, List.nil_append, List.drop]
    refine xS.br0 (c := .ne) (off := 5) (l := 3) rfl rfl (fun h14 => ?_) (fun h14 => ?_)
    · have g14 := xt_ne h14
      exact absurd ⟨xif1 g5, xif1 g14⟩ hx
    · have g14 := xf_ne h14
      refine xS.s1 rfl rfl ?_
      try dsimp only [Nat.reduceAdd, xi_m1]
      refine xS.ret rfl rfl rfl (fun _ _ => rfl) ?_
      exact ⟨rfl, rfl⟩

set_option maxRecDepth 10000 in
theorem c_X12_mark_ref (hR : xRr g h tx G T Lw) (hk : s < G) (ht1 : 1 ≤ t) (ht : t ≤ 5) (hi : xiso (Lw s / 4) (nI t) = false) : xT (k + 4) 188 [.ref 73, .int (nI s), .int (nI t)] (xH b g l) (fun r M' => M' = xH b (xfR g 3) l ∧ r = some (.int (-3))) := by
  have h6 := hR.1.2
  obtain ⟨q1, q2, q3⟩ := hR.2.2.1 s hk
  refine xT.of rfl (Nat.le_of_ble_eq_true rfl) ?_
  change xS _ _ 0 [(0, .ref 73), (1, .int (nI s)), (2, .int (nI t))] [] _ _
  refine xS.s1 rfl rfl ?_
  try dsimp only [Nat.reduceAdd]
  refine xS.s1 rfl rfl ?_
  try dsimp only [Nat.reduceAdd]
  -- 2 yX12_isGlass
  refine xS.cv rfl rfl rfl rfl rfl rfl ⟨by decide, rfl, rfl⟩ (c_X12_isGlass_in hR.1.1 hR.1.2 hk) (fun v M1 hv => ?_)
  rw [hv.1, hv.2]
  clear hv M1 v
  try dsimp only [Nat.reduceAdd, Option.toList, List.cons_append, List.nil_append, List.drop]
  refine xS.br0 (c := .eq) (off := 12) (l := 3) rfl rfl (fun h5 => ?_) (fun h5 => ?_)
  · have g5 := xt_eq h5
    exfalso; first | exact absurd g5 (by decide) | (simp (disch := omega) only [Int32.lt_iff_toInt_lt, Int32.le_iff_toInt_le, nI_toInt, Int32.reduceToInt] at g5 <;> omega)
  · have g5 := xf_eq h5
    refine xS.s1 rfl rfl ?_
    try dsimp only [Nat.reduceAdd]
    refine xS.s1 rfl rfl ?_
    try dsimp only [Nat.reduceAdd, xi_1]
    refine xS.s1 rfl rfl ?_
    try dsimp only [Nat.reduceAdd, xi_5]
    -- 11 yX12_in
    refine xS.callS rfl rfl rfl ⟨Nat.le_of_ble_eq_true rfl, rfl⟩ (c_in_n1 (t := t) (s := 1) (m := 5) (by omega) (by omega) (by decide)) (fun v M1 hv => ?_)
    rw [hv.1, hv.2]
    clear hv M1 v
    try dsimp only [Nat.reduceAdd, Option.toList, List.cons_append, List.nil_append, List.drop]
    refine xS.br0 (c := .ne) (off := 5) (l := 3) rfl rfl (fun h14 => ?_) (fun h14 => ?_)
    · have g14 := xt_ne h14
      refine xS.s1 rfl rfl ?_
      try dsimp only [Nat.reduceAdd]
      refine xS.gR rfl rfl rfl ⟨by decide, rfl⟩ rfl ?_
      try dsimp only [Nat.reduceAdd]
      refine xS.s1 rfl rfl ?_
      try dsimp only [Nat.reduceAdd, xi_2]
      refine xS.s1 rfl rfl ?_
      try dsimp only [Nat.reduceAdd]
      refine xS.s1 rfl rfl ?_
      try dsimp only [Nat.reduceAdd]
      rw [show ((2 * nI s) : Int32) = nI (2 * s) from by simp only [← nI_add, ← pk_mul]; rfl]
      refine xS.ia rfl xar_82 (by omega) ?_
      try dsimp only [Nat.reduceAdd]
      rw [q1]
      refine xS.s1 rfl rfl ?_
      try dsimp only [Nat.reduceAdd]
      -- 28 yX12_isOf
      refine xS.callS rfl rfl rfl ⟨Nat.le_of_ble_eq_true rfl, rfl⟩ (c_X12_isOf (by omega) ht1 ht) (fun v M1 hv => ?_)
      rw [hv.1, hv.2]
      clear hv M1 v
      try dsimp only [Nat.reduceAdd, Option.toList, List.cons_append, List.nil_append, List.drop]
      refine xS.br0 (c := .ne) (off := 9) (l := 3) rfl rfl (fun h31 => ?_) (fun h31 => ?_)
      · have g31 := xt_ne h31
        exact absurd (xif1 g31) (by rw [hi]; decide)
      · have g31 := xf_ne h31
        refine xS.s1 rfl rfl ?_
        try dsimp only [Nat.reduceAdd]
        refine xS.s1 rfl rfl ?_
        try dsimp only [Nat.reduceAdd, xi_3]
        -- 36 yX12_finds
        refine xS.cv rfl rfl rfl rfl rfl rfl ⟨by decide, rfl, rfl⟩ (c_X12_finds (t := 3) (by decide)) (fun v M1 hv => ?_)
        rw [hv.1, hv.2]
        clear hv M1 v
        try dsimp only [Nat.reduceAdd, Option.toList, List.cons_append, List.nil_append, List.drop]
        refine xS.ret rfl rfl rfl (fun _ _ => rfl) ?_
        exact ⟨rfl, rfl⟩
    · have g14 := xf_ne h14
      exfalso; first | exact absurd g14 (by decide) | (simp (disch := omega) only [Int32.lt_iff_toInt_lt, Int32.le_iff_toInt_le, nI_toInt, Int32.reduceToInt] at g14 <;> omega)

set_option maxRecDepth 10000 in
theorem c_X12_mark_1 (hR : xRr g h tx G T Lw) (hD : xDr g h tx T G Lw F4 m) (hm : m ≤ 40) (hs : g 73 14 = nI m) (hk : s < G) (hi : xiso (Lw s / 4) (nI 1) = true) : xT (k + 4) 188 [.ref 73, .int (nI s), .int (nI 1)] (xH b g l) (fun r M' => M' = xH b g l ∧ r = some (.int ((if Lw s % 4 = 0 then -9 else (xshw h (Lw s / 4) (Lw s % 4) (fun i => xN (F4 (4 * i)))) m)))) := by
  have h6 := hR.1.2
  obtain ⟨q1, q2, q3⟩ := hR.2.2.1 s hk
  refine xT.of rfl (Nat.le_of_ble_eq_true rfl) ?_
  change xS _ _ 0 [(0, .ref 73), (1, .int (nI s)), (2, .int (nI 1))] [] _ _
  refine xS.s1 rfl rfl ?_
  try dsimp only [Nat.reduceAdd]
  refine xS.s1 rfl rfl ?_
  try dsimp only [Nat.reduceAdd]
  -- 2 yX12_isGlass
  refine xS.cv rfl rfl rfl rfl rfl rfl ⟨by decide, rfl, rfl⟩ (c_X12_isGlass_in hR.1.1 hR.1.2 hk) (fun v M1 hv => ?_)
  rw [hv.1, hv.2]
  clear hv M1 v
  try dsimp only [Nat.reduceAdd, Option.toList, List.cons_append, List.nil_append, List.drop]
  refine xS.br0 (c := .eq) (off := 12) (l := 3) rfl rfl (fun h5 => ?_) (fun h5 => ?_)
  · have g5 := xt_eq h5
    exfalso; first | exact absurd g5 (by decide) | (simp (disch := omega) only [Int32.lt_iff_toInt_lt, Int32.le_iff_toInt_le, nI_toInt, Int32.reduceToInt] at g5 <;> omega)
  · have g5 := xf_eq h5
    refine xS.s1 rfl rfl ?_
    try dsimp only [Nat.reduceAdd]
    refine xS.s1 rfl rfl ?_
    try dsimp only [Nat.reduceAdd, xi_1]
    refine xS.s1 rfl rfl ?_
    try dsimp only [Nat.reduceAdd, xi_5]
    -- 11 yX12_in
    refine xS.callS rfl rfl rfl ⟨Nat.le_of_ble_eq_true rfl, rfl⟩ (c_in_n1 (t := 1) (s := 1) (m := 5) (by decide) (by decide) (by decide)) (fun v M1 hv => ?_)
    rw [hv.1, hv.2]
    clear hv M1 v
    try dsimp only [Nat.reduceAdd, Option.toList, List.cons_append, List.nil_append, List.drop]
    refine xS.br0 (c := .ne) (off := 5) (l := 3) rfl rfl (fun h14 => ?_) (fun h14 => ?_)
    · have g14 := xt_ne h14
      refine xS.s1 rfl rfl ?_
      try dsimp only [Nat.reduceAdd]
      refine xS.gR rfl rfl rfl ⟨by decide, rfl⟩ rfl ?_
      try dsimp only [Nat.reduceAdd]
      refine xS.s1 rfl rfl ?_
      try dsimp only [Nat.reduceAdd, xi_2]
      refine xS.s1 rfl rfl ?_
      try dsimp only [Nat.reduceAdd]
      refine xS.s1 rfl rfl ?_
      try dsimp only [Nat.reduceAdd]
      rw [show ((2 * nI s) : Int32) = nI (2 * s) from by simp only [← nI_add, ← pk_mul]; rfl]
      refine xS.ia rfl xar_82 (by omega) ?_
      try dsimp only [Nat.reduceAdd]
      rw [q1]
      refine xS.s1 rfl rfl ?_
      try dsimp only [Nat.reduceAdd]
      -- 28 yX12_isOf
      refine xS.callS rfl rfl rfl ⟨Nat.le_of_ble_eq_true rfl, rfl⟩ (c_X12_isOf (t := 1) (by omega) (by decide) (by decide)) (fun v M1 hv => ?_)
      rw [hv.1, hv.2]
      clear hv M1 v
      try dsimp only [Nat.reduceAdd, Option.toList, List.cons_append, List.nil_append, List.drop]
      refine xS.br0 (c := .ne) (off := 9) (l := 3) rfl rfl (fun h31 => ?_) (fun h31 => ?_)
      · have g31 := xt_ne h31
        refine xS.s1 rfl rfl ?_
        try dsimp only [Nat.reduceAdd, xi_0]
        refine xS.s1 rfl rfl ?_
        try dsimp only [Nat.reduceAdd]
        refine xS.s1 rfl rfl ?_
        try dsimp only [Nat.reduceAdd]
        refine xS.s1 rfl rfl ?_
        try dsimp only [Nat.reduceAdd]
        refine xS.s1 rfl rfl ?_
        try dsimp only [Nat.reduceAdd]
        refine xS.gR rfl rfl rfl ⟨by decide, rfl⟩ rfl ?_
        try dsimp only [Nat.reduceAdd]
        refine xS.s1 rfl rfl ?_
        try dsimp only [Nat.reduceAdd, xi_2]
        refine xS.s1 rfl rfl ?_
        try dsimp only [Nat.reduceAdd]
        refine xS.s1 rfl rfl ?_
        try dsimp only [Nat.reduceAdd]
        refine xS.s1 rfl rfl ?_
        try dsimp only [Nat.reduceAdd, xi_1]
        refine xS.s1 rfl rfl ?_
        try dsimp only [Nat.reduceAdd]
        rw [show (((2 * nI s) + 1) : Int32) = nI ((2 * s) + 1) from by simp only [← nI_add, ← pk_mul]; rfl]
        refine xS.ia rfl xar_82 (by omega) ?_
        try dsimp only [Nat.reduceAdd]
        rw [q2]
        refine xS.br0 (c := .ne) (off := 8) (l := 3) rfl rfl (fun h82 => ?_) (fun h82 => ?_)
        · have g82 := xt_ne h82
          have e82 : ¬ Lw s % 4 = 0 := fun z => g82 (by rw [z]; rfl)
          refine xS.s1 rfl rfl ?_
          try dsimp only [Nat.reduceAdd]
          refine xS.s1 rfl rfl ?_
          try dsimp only [Nat.reduceAdd]
          refine xS.s1 rfl rfl ?_
          try dsimp only [Nat.reduceAdd]
          refine xS.gR rfl rfl rfl ⟨by decide, rfl⟩ rfl ?_
          try dsimp only [Nat.reduceAdd]
          refine xS.s1 rfl rfl ?_
          try dsimp only [Nat.reduceAdd]
          refine xS.gI rfl rfl rfl ⟨by decide, rfl⟩ rfl ?_
          try dsimp only [Nat.reduceAdd]
          rw [hs]
          -- 100 yX12_showsOf
          refine xS.cv rfl rfl rfl rfl rfl rfl ⟨by decide, rfl, rfl⟩ (c_X12_showsOf_u (f := (fun i => xN (F4 (4 * i)))) xar_84 hR (by omega) hk (fun u hu => have hlt := xat_lt (xiso_1 (by omega) hi) (by omega) hu; ⟨by omega, xDr_84 hD u hlt⟩)) (fun v M1 hv => ?_)
          rw [hv.1, hv.2]
          clear hv M1 v
          try dsimp only [Nat.reduceAdd, Option.toList, List.cons_append, List.nil_append, List.drop]
          refine xS.ret rfl rfl rfl (fun _ _ => rfl) ?_
          rw [if_neg e82]
          exact ⟨rfl, rfl⟩
        · have g82 := xf_ne h82
          refine xS.s1 rfl rfl ?_
          try dsimp only [Nat.reduceAdd, xj_m9]
          refine xS.s1 rfl rfl ?_
          try dsimp only [Nat.reduceAdd]
          refine xS.ret rfl rfl rfl (fun _ _ => rfl) ?_
          rw [if_pos ((nI_eq (b := 0) (by omega) (by omega)).mp g82)]
          exact ⟨rfl, rfl⟩
      · have g31 := xf_ne h31
        exact absurd hi (xif0 g31)
    · have g14 := xf_ne h14
      exfalso; first | exact absurd g14 (by decide) | (simp (disch := omega) only [Int32.lt_iff_toInt_lt, Int32.le_iff_toInt_le, nI_toInt, Int32.reduceToInt] at g14 <;> omega)

set_option maxRecDepth 10000 in
theorem c_X12_mark_2 (hR : xRr g h tx G T Lw) (hD : xDr g h tx T G Lw F4 m) (hm : m ≤ 40) (hs : g 73 14 = nI m) (hk : s < G) (hi : xiso (Lw s / 4) (nI 2) = true) : xT (k + 4) 188 [.ref 73, .int (nI s), .int (nI 2)] (xH b g l) (fun r M' => M' = xH b g l ∧ r = some (.int (nI (xcnt (fun i => decide ((xshw h (Lw s / 4) (Lw s % 4) (fun i => xN (F4 (4 * i)))) i = 0)) m)))) := by
  have h6 := hR.1.2
  obtain ⟨q1, q2, q3⟩ := hR.2.2.1 s hk
  refine xT.of rfl (Nat.le_of_ble_eq_true rfl) ?_
  change xS _ _ 0 [(0, .ref 73), (1, .int (nI s)), (2, .int (nI 2))] [] _ _
  refine xS.s1 rfl rfl ?_
  try dsimp only [Nat.reduceAdd]
  refine xS.s1 rfl rfl ?_
  try dsimp only [Nat.reduceAdd]
  -- 2 yX12_isGlass
  refine xS.cv rfl rfl rfl rfl rfl rfl ⟨by decide, rfl, rfl⟩ (c_X12_isGlass_in hR.1.1 hR.1.2 hk) (fun v M1 hv => ?_)
  rw [hv.1, hv.2]
  clear hv M1 v
  try dsimp only [Nat.reduceAdd, Option.toList, List.cons_append, List.nil_append, List.drop]
  refine xS.br0 (c := .eq) (off := 12) (l := 3) rfl rfl (fun h5 => ?_) (fun h5 => ?_)
  · have g5 := xt_eq h5
    exfalso; first | exact absurd g5 (by decide) | (simp (disch := omega) only [Int32.lt_iff_toInt_lt, Int32.le_iff_toInt_le, nI_toInt, Int32.reduceToInt] at g5 <;> omega)
  · have g5 := xf_eq h5
    refine xS.s1 rfl rfl ?_
    try dsimp only [Nat.reduceAdd]
    refine xS.s1 rfl rfl ?_
    try dsimp only [Nat.reduceAdd, xi_1]
    refine xS.s1 rfl rfl ?_
    try dsimp only [Nat.reduceAdd, xi_5]
    -- 11 yX12_in
    refine xS.callS rfl rfl rfl ⟨Nat.le_of_ble_eq_true rfl, rfl⟩ (c_in_n1 (t := 2) (s := 1) (m := 5) (by decide) (by decide) (by decide)) (fun v M1 hv => ?_)
    rw [hv.1, hv.2]
    clear hv M1 v
    try dsimp only [Nat.reduceAdd, Option.toList, List.cons_append, List.nil_append, List.drop]
    refine xS.br0 (c := .ne) (off := 5) (l := 3) rfl rfl (fun h14 => ?_) (fun h14 => ?_)
    · have g14 := xt_ne h14
      refine xS.s1 rfl rfl ?_
      try dsimp only [Nat.reduceAdd]
      refine xS.gR rfl rfl rfl ⟨by decide, rfl⟩ rfl ?_
      try dsimp only [Nat.reduceAdd]
      refine xS.s1 rfl rfl ?_
      try dsimp only [Nat.reduceAdd, xi_2]
      refine xS.s1 rfl rfl ?_
      try dsimp only [Nat.reduceAdd]
      refine xS.s1 rfl rfl ?_
      try dsimp only [Nat.reduceAdd]
      rw [show ((2 * nI s) : Int32) = nI (2 * s) from by simp only [← nI_add, ← pk_mul]; rfl]
      refine xS.ia rfl xar_82 (by omega) ?_
      try dsimp only [Nat.reduceAdd]
      rw [q1]
      refine xS.s1 rfl rfl ?_
      try dsimp only [Nat.reduceAdd]
      -- 28 yX12_isOf
      refine xS.callS rfl rfl rfl ⟨Nat.le_of_ble_eq_true rfl, rfl⟩ (c_X12_isOf (t := 2) (by omega) (by decide) (by decide)) (fun v M1 hv => ?_)
      rw [hv.1, hv.2]
      clear hv M1 v
      try dsimp only [Nat.reduceAdd, Option.toList, List.cons_append, List.nil_append, List.drop]
      refine xS.br0 (c := .ne) (off := 9) (l := 3) rfl rfl (fun h31 => ?_) (fun h31 => ?_)
      · have g31 := xt_ne h31
        refine xS.s1 rfl rfl ?_
        try dsimp only [Nat.reduceAdd, xi_0]
        refine xS.s1 rfl rfl ?_
        try dsimp only [Nat.reduceAdd]
        refine xS.s1 rfl rfl ?_
        try dsimp only [Nat.reduceAdd]
        refine xS.s1 rfl rfl ?_
        try dsimp only [Nat.reduceAdd]
        refine xS.s1 rfl rfl ?_
        try dsimp only [Nat.reduceAdd, xi_0]
        refine xS.s1 rfl rfl ?_
        try dsimp only [Nat.reduceAdd]
        refine xS.pick [0, 1, 2, 3] rfl ?_
        refine xS.loop (σ := Unit) (m) (fun j S => [(4, .int (nI j)), (3, .int (nI (xcnt (fun i => decide ((xshw h (Lw s / 4) (Lw s % 4) (fun i => xN (F4 (4 * i)))) i = 0)) j))), (0, .ref 73), (1, .int (nI s))]) (fun _ _ => xH b g l) (fun _ _ => True) (()) (rfl) (rfl) (trivial) ?_
        intro j S hj hI ih
        try dsimp only
        refine xS.s1 rfl rfl ?_
        try dsimp only [Nat.reduceAdd]
        refine xS.s1 rfl rfl ?_
        try dsimp only [Nat.reduceAdd]
        refine xS.gI rfl rfl rfl ⟨by decide, rfl⟩ rfl ?_
        try dsimp only [Nat.reduceAdd]
        refine xS.br (c := .ge) (off := 31) (l := 3) rfl rfl (fun h113 => ?_) (fun h113 => ?_)
        · have g113 := xt_ge h113
          rw [hs] at g113
          have e := xnle g113 (by omega) (by omega)
          have e2 : m = j := by omega
          subst e2
          refine xS.s1 rfl rfl ?_
          try dsimp only [Nat.reduceAdd]
          refine xS.ret rfl rfl rfl (fun _ _ => rfl) ?_
          exact ⟨rfl, rfl⟩
        · have g113 := xf_ge h113
          rw [hs] at g113
          have hlt := xnlt g113 (by omega) (by omega)
          refine xS.s1 rfl rfl ?_
          try dsimp only [Nat.reduceAdd]
          refine xS.s1 rfl rfl ?_
          try dsimp only [Nat.reduceAdd]
          refine xS.s1 rfl rfl ?_
          try dsimp only [Nat.reduceAdd]
          refine xS.s1 rfl rfl ?_
          try dsimp only [Nat.reduceAdd]
          refine xS.gR rfl rfl rfl ⟨by decide, rfl⟩ rfl ?_
          try dsimp only [Nat.reduceAdd]
          refine xS.s1 rfl rfl ?_
          try dsimp only [Nat.reduceAdd]
          -- 125 yX12_showsOf
          refine xS.cv rfl rfl rfl rfl rfl rfl ⟨by decide, rfl, rfl⟩ (c_X12_showsOf (f := (fun i => xN (F4 (4 * i)))) xar_84 hR (by omega) hk (fun u hu => xDr_84 hD u (by omega))) (fun v M1 hv => ?_)
          rw [hv.1, hv.2]
          clear hv M1 v
          try dsimp only [Nat.reduceAdd, Option.toList, List.cons_append, List.nil_append, List.drop]
          refine xS.br0 (c := .ne) (off := 7) (l := 3) rfl rfl (fun h128 => ?_) (fun h128 => ?_)
          · have g128 := xt_ne h128
            refine xS.s1 rfl rfl ?_
            try dsimp only [Nat.reduceAdd, xi_0]
            refine xS.s1 rfl rfl ?_
            try dsimp only [Nat.reduceAdd]
            refine xS.s1 rfl rfl ?_
            try dsimp only [Nat.reduceAdd]
            refine xS.s1 rfl rfl ?_
            try dsimp only [Nat.reduceAdd, xi_1]
            rw [nI_1]
            refine xS.s1 rfl rfl ?_
            try dsimp only [Nat.reduceAdd]
            refine xS.pick [0, 1, 2, 3] rfl ?_
            rw [show nI (xcnt (fun i => decide ((xshw h (Lw s / 4) (Lw s % 4) (fun i => xN (F4 (4 * i)))) i = 0)) j) + 0 = nI (xcnt (fun i => decide ((xshw h (Lw s / 4) (Lw s % 4) (fun i => xN (F4 (4 * i)))) i = 0)) j) from nI_add _ 0]
            have ih2 := ih () (by omega) trivial
            first | (rw [show xcnt (fun i => decide ((xshw h (Lw s / 4) (Lw s % 4) (fun i => xN (F4 (4 * i)))) i = 0)) (j + 1) = xcnt (fun i => decide ((xshw h (Lw s / 4) (Lw s % 4) (fun i => xN (F4 (4 * i)))) i = 0)) j from by simp [xcnt_s, g128]] at ih2; exact ih2) | (rw [show xcnt (fun i => decide ((xshw h (Lw s / 4) (Lw s % 4) (fun i => xN (F4 (4 * i)))) i = 0)) (j + 1) = xcnt (fun i => decide ((xshw h (Lw s / 4) (Lw s % 4) (fun i => xN (F4 (4 * i)))) i = 0)) j + 1 from by simp [xcnt_s, g128]] at ih2; exact ih2)
          · have g128 := xf_ne h128
            refine xS.s1 rfl rfl ?_
            try dsimp only [Nat.reduceAdd, xi_1]
            refine xS.s1 rfl rfl ?_
            try dsimp only [Nat.reduceAdd]
            refine xS.s1 rfl rfl ?_
            try dsimp only [Nat.reduceAdd]
            refine xS.s1 rfl rfl ?_
            try dsimp only [Nat.reduceAdd]
            refine xS.s1 rfl rfl ?_
            try dsimp only [Nat.reduceAdd, xi_1]
            rw [nI_1]
            refine xS.s1 rfl rfl ?_
            try dsimp only [Nat.reduceAdd]
            refine xS.pick [0, 1, 2, 3] rfl ?_
            rw [nI_1]
            have ih2 := ih () (by omega) trivial
            first | (rw [show xcnt (fun i => decide ((xshw h (Lw s / 4) (Lw s % 4) (fun i => xN (F4 (4 * i)))) i = 0)) (j + 1) = xcnt (fun i => decide ((xshw h (Lw s / 4) (Lw s % 4) (fun i => xN (F4 (4 * i)))) i = 0)) j from by simp [xcnt_s, g128]] at ih2; exact ih2) | (rw [show xcnt (fun i => decide ((xshw h (Lw s / 4) (Lw s % 4) (fun i => xN (F4 (4 * i)))) i = 0)) (j + 1) = xcnt (fun i => decide ((xshw h (Lw s / 4) (Lw s % 4) (fun i => xN (F4 (4 * i)))) i = 0)) j + 1 from by simp [xcnt_s, g128]] at ih2; exact ih2)
      · have g31 := xf_ne h31
        exact absurd hi (xif0 g31)
    · have g14 := xf_ne h14
      exfalso; first | exact absurd g14 (by decide) | (simp (disch := omega) only [Int32.lt_iff_toInt_lt, Int32.le_iff_toInt_le, nI_toInt, Int32.reduceToInt] at g14 <;> omega)

set_option maxRecDepth 10000 in
theorem c_X12_mark_3 (hR : xRr g h tx G T Lw) (hD : xDr g h tx T G Lw F4 m) (hm : m ≤ 40) (hs : g 73 14 = nI m) (hk : s < G) (hi : xiso (Lw s / 4) (nI 3) = true) : xT (k + 4) 188 [.ref 73, .int (nI s), .int (nI 3)] (xH b g l) (fun r M' => M' = xH b g l ∧ r = some (.int (nI (xcnt (fun q => decide (h q = 0)) 6)))) := by
  have h6 := hR.1.2
  obtain ⟨q1, q2, q3⟩ := hR.2.2.1 s hk
  refine xT.of rfl (Nat.le_of_ble_eq_true rfl) ?_
  change xS _ _ 0 [(0, .ref 73), (1, .int (nI s)), (2, .int (nI 3))] [] _ _
  refine xS.s1 rfl rfl ?_
  try dsimp only [Nat.reduceAdd]
  refine xS.s1 rfl rfl ?_
  try dsimp only [Nat.reduceAdd]
  -- 2 yX12_isGlass
  refine xS.cv rfl rfl rfl rfl rfl rfl ⟨by decide, rfl, rfl⟩ (c_X12_isGlass_in hR.1.1 hR.1.2 hk) (fun v M1 hv => ?_)
  rw [hv.1, hv.2]
  clear hv M1 v
  try dsimp only [Nat.reduceAdd, Option.toList, List.cons_append, List.nil_append, List.drop]
  refine xS.br0 (c := .eq) (off := 12) (l := 3) rfl rfl (fun h5 => ?_) (fun h5 => ?_)
  · have g5 := xt_eq h5
    exfalso; first | exact absurd g5 (by decide) | (simp (disch := omega) only [Int32.lt_iff_toInt_lt, Int32.le_iff_toInt_le, nI_toInt, Int32.reduceToInt] at g5 <;> omega)
  · have g5 := xf_eq h5
    refine xS.s1 rfl rfl ?_
    try dsimp only [Nat.reduceAdd]
    refine xS.s1 rfl rfl ?_
    try dsimp only [Nat.reduceAdd, xi_1]
    refine xS.s1 rfl rfl ?_
    try dsimp only [Nat.reduceAdd, xi_5]
    -- 11 yX12_in
    refine xS.callS rfl rfl rfl ⟨Nat.le_of_ble_eq_true rfl, rfl⟩ (c_in_n1 (t := 3) (s := 1) (m := 5) (by decide) (by decide) (by decide)) (fun v M1 hv => ?_)
    rw [hv.1, hv.2]
    clear hv M1 v
    try dsimp only [Nat.reduceAdd, Option.toList, List.cons_append, List.nil_append, List.drop]
    refine xS.br0 (c := .ne) (off := 5) (l := 3) rfl rfl (fun h14 => ?_) (fun h14 => ?_)
    · have g14 := xt_ne h14
      refine xS.s1 rfl rfl ?_
      try dsimp only [Nat.reduceAdd]
      refine xS.gR rfl rfl rfl ⟨by decide, rfl⟩ rfl ?_
      try dsimp only [Nat.reduceAdd]
      refine xS.s1 rfl rfl ?_
      try dsimp only [Nat.reduceAdd, xi_2]
      refine xS.s1 rfl rfl ?_
      try dsimp only [Nat.reduceAdd]
      refine xS.s1 rfl rfl ?_
      try dsimp only [Nat.reduceAdd]
      rw [show ((2 * nI s) : Int32) = nI (2 * s) from by simp only [← nI_add, ← pk_mul]; rfl]
      refine xS.ia rfl xar_82 (by omega) ?_
      try dsimp only [Nat.reduceAdd]
      rw [q1]
      refine xS.s1 rfl rfl ?_
      try dsimp only [Nat.reduceAdd]
      -- 28 yX12_isOf
      refine xS.callS rfl rfl rfl ⟨Nat.le_of_ble_eq_true rfl, rfl⟩ (c_X12_isOf (t := 3) (by omega) (by decide) (by decide)) (fun v M1 hv => ?_)
      rw [hv.1, hv.2]
      clear hv M1 v
      try dsimp only [Nat.reduceAdd, Option.toList, List.cons_append, List.nil_append, List.drop]
      refine xS.br0 (c := .ne) (off := 9) (l := 3) rfl rfl (fun h31 => ?_) (fun h31 => ?_)
      · have g31 := xt_ne h31
        refine xS.s1 rfl rfl ?_
        try dsimp only [Nat.reduceAdd, xi_0]
        refine xS.s1 rfl rfl ?_
        try dsimp only [Nat.reduceAdd]
        refine xS.s1 rfl rfl ?_
        try dsimp only [Nat.reduceAdd]
        refine xS.s1 rfl rfl ?_
        try dsimp only [Nat.reduceAdd]
        refine xS.s1 rfl rfl ?_
        try dsimp only [Nat.reduceAdd, xi_0]
        refine xS.s1 rfl rfl ?_
        try dsimp only [Nat.reduceAdd]
        refine xS.pick [0, 1, 2] rfl ?_
        refine xS.loop (σ := Unit) (6) (fun j S => [(4, .int (nI j)), (3, .int (nI (xcnt (fun q => decide (h q = 0)) j))), (0, .ref 73)]) (fun _ _ => xH b g l) (fun _ _ => True) (()) (rfl) (rfl) (trivial) ?_
        intro j S hj hI ih
        try dsimp only
        refine xS.s1 rfl rfl ?_
        try dsimp only [Nat.reduceAdd]
        refine xS.s1 rfl rfl ?_
        try dsimp only [Nat.reduceAdd, xj_6]
        refine xS.br (c := .ge) (off := 27) (l := 3) rfl rfl (fun h153 => ?_) (fun h153 => ?_)
        · have g153 := xt_ge h153
          have e := xnle (b := 6) g153 (by omega) (by omega)
          have e2 : 6 = j := by omega
          subst e2
          refine xS.s1 rfl rfl ?_
          try dsimp only [Nat.reduceAdd]
          refine xS.ret rfl rfl rfl (fun _ _ => rfl) ?_
          exact ⟨rfl, rfl⟩
        · have g153 := xf_ge h153
          have hlt := xnlt (b := 6) g153 (by omega) (by omega)
          refine xS.s1 rfl rfl ?_
          try dsimp only [Nat.reduceAdd]
          refine xS.s1 rfl rfl ?_
          try dsimp only [Nat.reduceAdd]
          refine xS.gR rfl rfl rfl ⟨by decide, rfl⟩ rfl ?_
          try dsimp only [Nat.reduceAdd]
          refine xS.s1 rfl rfl ?_
          try dsimp only [Nat.reduceAdd]
          refine xS.ia rfl xar_81 (by omega) ?_
          try dsimp only [Nat.reduceAdd]
          rw [(hR.2.2.2.1 j hlt).1]
          refine xS.br0 (c := .ne) (off := 7) (l := 3) rfl rfl (fun h164 => ?_) (fun h164 => ?_)
          · have g164 := xt_ne h164
            refine xS.s1 rfl rfl ?_
            try dsimp only [Nat.reduceAdd, xi_0]
            refine xS.s1 rfl rfl ?_
            try dsimp only [Nat.reduceAdd]
            refine xS.s1 rfl rfl ?_
            try dsimp only [Nat.reduceAdd]
            refine xS.s1 rfl rfl ?_
            try dsimp only [Nat.reduceAdd, xi_1]
            rw [nI_1]
            refine xS.s1 rfl rfl ?_
            try dsimp only [Nat.reduceAdd]
            refine xS.pick [0, 1, 2] rfl ?_
            rw [show nI (xcnt (fun q => decide (h q = 0)) j) + 0 = nI (xcnt (fun q => decide (h q = 0)) j) from nI_add _ 0]
            have ih2 := ih () (by omega) trivial
            first | (rw [show xcnt (fun q => decide (h q = 0)) (j + 1) = xcnt (fun q => decide (h q = 0)) j from by simp [xcnt_s, g164]] at ih2; exact ih2) | (rw [show xcnt (fun q => decide (h q = 0)) (j + 1) = xcnt (fun q => decide (h q = 0)) j + 1 from by simp [xcnt_s, g164]] at ih2; exact ih2)
          · have g164 := xf_ne h164
            refine xS.s1 rfl rfl ?_
            try dsimp only [Nat.reduceAdd, xi_1]
            refine xS.s1 rfl rfl ?_
            try dsimp only [Nat.reduceAdd]
            refine xS.s1 rfl rfl ?_
            try dsimp only [Nat.reduceAdd]
            refine xS.s1 rfl rfl ?_
            try dsimp only [Nat.reduceAdd]
            refine xS.s1 rfl rfl ?_
            try dsimp only [Nat.reduceAdd, xi_1]
            rw [nI_1]
            refine xS.s1 rfl rfl ?_
            try dsimp only [Nat.reduceAdd]
            refine xS.pick [0, 1, 2] rfl ?_
            rw [nI_1]
            have ih2 := ih () (by omega) trivial
            first | (rw [show xcnt (fun q => decide (h q = 0)) (j + 1) = xcnt (fun q => decide (h q = 0)) j from by simp [xcnt_s, g164]] at ih2; exact ih2) | (rw [show xcnt (fun q => decide (h q = 0)) (j + 1) = xcnt (fun q => decide (h q = 0)) j + 1 from by simp [xcnt_s, g164]] at ih2; exact ih2)
      · have g31 := xf_ne h31
        exact absurd hi (xif0 g31)
    · have g14 := xf_ne h14
      exfalso; first | exact absurd g14 (by decide) | (simp (disch := omega) only [Int32.lt_iff_toInt_lt, Int32.le_iff_toInt_le, nI_toInt, Int32.reduceToInt] at g14 <;> omega)

set_option maxRecDepth 10000 in
theorem c_X12_mark_4 (hR : xRr g h tx G T Lw) (hD : xDr g h tx T G Lw F4 m) (hm : m ≤ 40) (hs : g 73 14 = nI m) (hk : s < G) (hi : xiso (Lw s / 4) (nI 4) = true) : xT (k + 4) 188 [.ref 73, .int (nI s), .int (nI 4)] (xH b g l) (fun r M' => M' = xH b g l ∧ r = some (.int (2 - nI (m % 3)))) := by
  have h6 := hR.1.2
  obtain ⟨q1, q2, q3⟩ := hR.2.2.1 s hk
  refine xT.of rfl (Nat.le_of_ble_eq_true rfl) ?_
  change xS _ _ 0 [(0, .ref 73), (1, .int (nI s)), (2, .int (nI 4))] [] _ _
  refine xS.s1 rfl rfl ?_
  try dsimp only [Nat.reduceAdd]
  refine xS.s1 rfl rfl ?_
  try dsimp only [Nat.reduceAdd]
  -- 2 yX12_isGlass
  refine xS.cv rfl rfl rfl rfl rfl rfl ⟨by decide, rfl, rfl⟩ (c_X12_isGlass_in hR.1.1 hR.1.2 hk) (fun v M1 hv => ?_)
  rw [hv.1, hv.2]
  clear hv M1 v
  try dsimp only [Nat.reduceAdd, Option.toList, List.cons_append, List.nil_append, List.drop]
  refine xS.br0 (c := .eq) (off := 12) (l := 3) rfl rfl (fun h5 => ?_) (fun h5 => ?_)
  · have g5 := xt_eq h5
    exfalso; first | exact absurd g5 (by decide) | (simp (disch := omega) only [Int32.lt_iff_toInt_lt, Int32.le_iff_toInt_le, nI_toInt, Int32.reduceToInt] at g5 <;> omega)
  · have g5 := xf_eq h5
    refine xS.s1 rfl rfl ?_
    try dsimp only [Nat.reduceAdd]
    refine xS.s1 rfl rfl ?_
    try dsimp only [Nat.reduceAdd, xi_1]
    refine xS.s1 rfl rfl ?_
    try dsimp only [Nat.reduceAdd, xi_5]
    -- 11 yX12_in
    refine xS.callS rfl rfl rfl ⟨Nat.le_of_ble_eq_true rfl, rfl⟩ (c_in_n1 (t := 4) (s := 1) (m := 5) (by decide) (by decide) (by decide)) (fun v M1 hv => ?_)
    rw [hv.1, hv.2]
    clear hv M1 v
    try dsimp only [Nat.reduceAdd, Option.toList, List.cons_append, List.nil_append, List.drop]
    refine xS.br0 (c := .ne) (off := 5) (l := 3) rfl rfl (fun h14 => ?_) (fun h14 => ?_)
    · have g14 := xt_ne h14
      refine xS.s1 rfl rfl ?_
      try dsimp only [Nat.reduceAdd]
      refine xS.gR rfl rfl rfl ⟨by decide, rfl⟩ rfl ?_
      try dsimp only [Nat.reduceAdd]
      refine xS.s1 rfl rfl ?_
      try dsimp only [Nat.reduceAdd, xi_2]
      refine xS.s1 rfl rfl ?_
      try dsimp only [Nat.reduceAdd]
      refine xS.s1 rfl rfl ?_
      try dsimp only [Nat.reduceAdd]
      rw [show ((2 * nI s) : Int32) = nI (2 * s) from by simp only [← nI_add, ← pk_mul]; rfl]
      refine xS.ia rfl xar_82 (by omega) ?_
      try dsimp only [Nat.reduceAdd]
      rw [q1]
      refine xS.s1 rfl rfl ?_
      try dsimp only [Nat.reduceAdd]
      -- 28 yX12_isOf
      refine xS.callS rfl rfl rfl ⟨Nat.le_of_ble_eq_true rfl, rfl⟩ (c_X12_isOf (t := 4) (by omega) (by decide) (by decide)) (fun v M1 hv => ?_)
      rw [hv.1, hv.2]
      clear hv M1 v
      try dsimp only [Nat.reduceAdd, Option.toList, List.cons_append, List.nil_append, List.drop]
      refine xS.br0 (c := .ne) (off := 9) (l := 3) rfl rfl (fun h31 => ?_) (fun h31 => ?_)
      · have g31 := xt_ne h31
        refine xS.s1 rfl rfl ?_
        try dsimp only [Nat.reduceAdd, xi_0]
        refine xS.s1 rfl rfl ?_
        try dsimp only [Nat.reduceAdd]
        refine xS.s1 rfl rfl ?_
        try dsimp only [Nat.reduceAdd]
        refine xS.s1 rfl rfl ?_
        try dsimp only [Nat.reduceAdd]
        refine xS.s1 rfl rfl ?_
        try dsimp only [Nat.reduceAdd, xi_2]
        refine xS.s1 rfl rfl ?_
        try dsimp only [Nat.reduceAdd]
        refine xS.gI rfl rfl rfl ⟨by decide, rfl⟩ rfl ?_
        try dsimp only [Nat.reduceAdd]
        rw [hs]
        refine xS.s1 rfl rfl ?_
        try dsimp only [Nat.reduceAdd, xi_3]
        refine xS.s1 rfl rfl ?_
        try dsimp only [Nat.reduceAdd]
        refine xS.s1 rfl rfl ?_
        try dsimp only [Nat.reduceAdd]
        refine xS.ret rfl rfl rfl (fun _ _ => rfl) ?_
        rw [xrem3 (by omega)]
        exact ⟨rfl, rfl⟩
      · have g31 := xf_ne h31
        exact absurd hi (xif0 g31)
    · have g14 := xf_ne h14
      exfalso; first | exact absurd g14 (by decide) | (simp (disch := omega) only [Int32.lt_iff_toInt_lt, Int32.le_iff_toInt_le, nI_toInt, Int32.reduceToInt] at g14 <;> omega)

set_option maxRecDepth 10000 in
theorem c_X12_mark_5 (hR : xRr g h tx G T Lw) (hD : xDr g h tx T G Lw F4 m) (hm : m ≤ 40) (hs : g 73 14 = nI m) (hk : s < G) (hi : xiso (Lw s / 4) (nI 5) = true) : xT (k + 4) 188 [.ref 73, .int (nI s), .int (nI 5)] (xH b g l) (fun r M' => M' = xH b g l ∧ r = some (.int ((if m % 2 = 1 then xmir (h 0) else 0)))) := by
  have h6 := hR.1.2
  obtain ⟨q1, q2, q3⟩ := hR.2.2.1 s hk
  refine xT.of rfl (Nat.le_of_ble_eq_true rfl) ?_
  change xS _ _ 0 [(0, .ref 73), (1, .int (nI s)), (2, .int (nI 5))] [] _ _
  refine xS.s1 rfl rfl ?_
  try dsimp only [Nat.reduceAdd]
  refine xS.s1 rfl rfl ?_
  try dsimp only [Nat.reduceAdd]
  -- 2 yX12_isGlass
  refine xS.cv rfl rfl rfl rfl rfl rfl ⟨by decide, rfl, rfl⟩ (c_X12_isGlass_in hR.1.1 hR.1.2 hk) (fun v M1 hv => ?_)
  rw [hv.1, hv.2]
  clear hv M1 v
  try dsimp only [Nat.reduceAdd, Option.toList, List.cons_append, List.nil_append, List.drop]
  refine xS.br0 (c := .eq) (off := 12) (l := 3) rfl rfl (fun h5 => ?_) (fun h5 => ?_)
  · have g5 := xt_eq h5
    exfalso; first | exact absurd g5 (by decide) | (simp (disch := omega) only [Int32.lt_iff_toInt_lt, Int32.le_iff_toInt_le, nI_toInt, Int32.reduceToInt] at g5 <;> omega)
  · have g5 := xf_eq h5
    refine xS.s1 rfl rfl ?_
    try dsimp only [Nat.reduceAdd]
    refine xS.s1 rfl rfl ?_
    try dsimp only [Nat.reduceAdd, xi_1]
    refine xS.s1 rfl rfl ?_
    try dsimp only [Nat.reduceAdd, xi_5]
    -- 11 yX12_in
    refine xS.callS rfl rfl rfl ⟨Nat.le_of_ble_eq_true rfl, rfl⟩ (c_in_n1 (t := 5) (s := 1) (m := 5) (by decide) (by decide) (by decide)) (fun v M1 hv => ?_)
    rw [hv.1, hv.2]
    clear hv M1 v
    try dsimp only [Nat.reduceAdd, Option.toList, List.cons_append, List.nil_append, List.drop]
    refine xS.br0 (c := .ne) (off := 5) (l := 3) rfl rfl (fun h14 => ?_) (fun h14 => ?_)
    · have g14 := xt_ne h14
      refine xS.s1 rfl rfl ?_
      try dsimp only [Nat.reduceAdd]
      refine xS.gR rfl rfl rfl ⟨by decide, rfl⟩ rfl ?_
      try dsimp only [Nat.reduceAdd]
      refine xS.s1 rfl rfl ?_
      try dsimp only [Nat.reduceAdd, xi_2]
      refine xS.s1 rfl rfl ?_
      try dsimp only [Nat.reduceAdd]
      refine xS.s1 rfl rfl ?_
      try dsimp only [Nat.reduceAdd]
      rw [show ((2 * nI s) : Int32) = nI (2 * s) from by simp only [← nI_add, ← pk_mul]; rfl]
      refine xS.ia rfl xar_82 (by omega) ?_
      try dsimp only [Nat.reduceAdd]
      rw [q1]
      refine xS.s1 rfl rfl ?_
      try dsimp only [Nat.reduceAdd]
      -- 28 yX12_isOf
      refine xS.callS rfl rfl rfl ⟨Nat.le_of_ble_eq_true rfl, rfl⟩ (c_X12_isOf (t := 5) (by omega) (by decide) (by decide)) (fun v M1 hv => ?_)
      rw [hv.1, hv.2]
      clear hv M1 v
      try dsimp only [Nat.reduceAdd, Option.toList, List.cons_append, List.nil_append, List.drop]
      refine xS.br0 (c := .ne) (off := 9) (l := 3) rfl rfl (fun h31 => ?_) (fun h31 => ?_)
      · have g31 := xt_ne h31
        refine xS.s1 rfl rfl ?_
        try dsimp only [Nat.reduceAdd, xi_0]
        refine xS.s1 rfl rfl ?_
        try dsimp only [Nat.reduceAdd]
        refine xS.s1 rfl rfl ?_
        try dsimp only [Nat.reduceAdd]
        refine xS.s1 rfl rfl ?_
        try dsimp only [Nat.reduceAdd]
        refine xS.s1 rfl rfl ?_
        try dsimp only [Nat.reduceAdd]
        refine xS.gI rfl rfl rfl ⟨by decide, rfl⟩ rfl ?_
        try dsimp only [Nat.reduceAdd]
        rw [hs]
        refine xS.s1 rfl rfl ?_
        try dsimp only [Nat.reduceAdd, xi_2]
        refine xS.s1 rfl rfl ?_
        try dsimp only [Nat.reduceAdd]
        rw [xrem2 (by omega)]
        refine xS.s1 rfl rfl ?_
        try dsimp only [Nat.reduceAdd, xi_1]
        refine xS.br (c := .ne) (off := 15) (l := 3) rfl rfl (fun h198 => ?_) (fun h198 => ?_)
        · have g198 := xt_ne h198
          refine xS.s1 rfl rfl ?_
          try dsimp only [Nat.reduceAdd, xi_0]
          refine xS.ret rfl rfl rfl (fun _ _ => rfl) ?_
          rw [if_neg (fun z => g198 (by rw [z]; rfl))]
          exact ⟨rfl, rfl⟩
        · have g198 := xf_ne h198
          refine xS.s1 rfl rfl ?_
          try dsimp only [Nat.reduceAdd]
          refine xS.gR rfl rfl rfl ⟨by decide, rfl⟩ rfl ?_
          try dsimp only [Nat.reduceAdd]
          refine xS.s1 rfl rfl ?_
          try dsimp only [Nat.reduceAdd, xi_0]
          refine xS.ia (t := 0) rfl xar_81 (by omega) ?_
          try dsimp only [Nat.reduceAdd]
          -- 207 yX12_mirrored
          refine xS.callS rfl rfl rfl ⟨Nat.le_of_ble_eq_true rfl, rfl⟩ c_X12_mirrored (fun v M1 hv => ?_)
          rw [hv.1, hv.2]
          clear hv M1 v
          try dsimp only [Nat.reduceAdd, Option.toList, List.cons_append, List.nil_append, List.drop]
          refine xS.s1 rfl rfl ?_
          try dsimp only [Nat.reduceAdd]
          refine xS.ret rfl rfl rfl (fun _ _ => rfl) ?_
          rw [if_pos ((nI_eq (b := 1) (by omega) (by omega)).mp g198), (hR.2.2.2.1 0 (by decide)).1]
          exact ⟨rfl, rfl⟩
      · have g31 := xf_ne h31
        exact absurd hi (xif0 g31)
    · have g14 := xf_ne h14
      exfalso; first | exact absurd g14 (by decide) | (simp (disch := omega) only [Int32.lt_iff_toInt_lt, Int32.le_iff_toInt_le, nI_toInt, Int32.reduceToInt] at g14 <;> omega)

end
