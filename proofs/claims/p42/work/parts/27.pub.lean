/-! LimpMirror: public methods, what was done, laws -/
def xhe (A B : Option Nat) : Int32 := match A, B with
  | none, B => xfI B
  | A, none => xfI A
  | some a, some b => nI (min a b)
def xhr (A B : Option Nat) : Int32 := (if A = none then 1 else 0) + (if B = none then 2 else 0)

section
variable {k a c n n2 m t p s d i1 j1 : Nat} {b : Nat × Nat} {g : Nat → Nat → Int32} {l : Nat → Nat → Int64} {i j x y z v w : Int32} {u w1 w2 : Int64}
variable {L G T : Nat} {Lw : Nat → Nat}
set_option maxRecDepth 10000 in
theorem c_X11_ways_ok (hb : xro b.1) (hR : xRm g b.1 G T Lw) (hp : xpn g) (hbv : b.1 = 7 ∨ b.1 = 11) (hk : s < G) (ht : t < 6) (hs : g (23 + 2 * t) 1 = nI m) (hm : m ≤ 6) (hf : xfos (g (23 + 2 * t) 1) (g (23 + 2 * t + 1)) 6 = 0) (hx : ∀ i, i < m → xstp (g (23 + 2 * t + 1) i)) : xT (k + 6) 102 [.ref 0, .int (nI s), .int (nI t)] (xH b g l) (fun r M' => M' = xH b (gset g 17 m (xst (Lw s / 4) (Lw s % 4) (xB (g (b.1 + 1)) (Lw s / 4) (g (23 + 2 * t + 1))) m)) (up (up l 0 12 (lN (xpr (fun i => xpc (xN ((xst (Lw s / 4) (Lw s % 4) (xB (g (b.1 + 1)) (Lw s / 4) (g (23 + 2 * t + 1))) m) i))) (if (xnz (xst (Lw s / 4) (Lw s % 4) (xB (g (b.1 + 1)) (Lw s / 4) (g (23 + 2 * t + 1))) m) m (xps (Lw s / 4) (Lw s % 4) (g (23 + 2 * t + 1)) m)) = true then 1 else 0) m / 1))) 0 13 1) ∧ r = some (.int 1)) := by
  have hz : xsz (g (23 + 2 * t) 1) 40 := Or.inr ⟨m, by omega, hs⟩
  refine xT.of rfl (Nat.le_of_ble_eq_true rfl) ?_
  change xS _ _ 0 [(0, .ref 0), (1, .int (nI s)), (2, .int (nI t))] [] _ _
  refine xS.s1 rfl rfl ?_
  try dsimp only [Nat.reduceAdd]
  refine xS.s1 rfl rfl ?_
  try dsimp only [Nat.reduceAdd]
  -- 2 yX11_isGlass
  refine xS.cv rfl rfl rfl rfl rfl rfl ⟨by decide, rfl, rfl⟩ (c_X11_isGlass_in hb hR hk) (fun v M1 hv => ?_)
  rw [hv.1, hv.2]
  clear hv M1 v
  try dsimp only [Nat.reduceAdd, Option.toList, List.cons_append, List.nil_append, List.drop]
  refine xS.br0 (c := .eq) (off := 10) (l := 3) rfl rfl (fun h5 => ?_) (fun h5 => ?_)
  · have g5 := xt_eq h5
    exfalso; first | exact absurd g5 (by decide) | (simp (disch := omega) only [Int32.lt_iff_toInt_lt, Int32.le_iff_toInt_le, nI_toInt, Int32.reduceToInt] at g5 <;> omega)
  · have g5 := xf_eq h5
    refine xS.s1 rfl rfl ?_
    try dsimp only [Nat.reduceAdd]
    -- 9 yX11_isRow
    refine xS.callS rfl rfl rfl ⟨Nat.le_of_ble_eq_true rfl, rfl⟩ (c_X11_isRow_in ht) (fun v M1 hv => ?_)
    rw [hv.1, hv.2]
    clear hv M1 v
    try dsimp only [Nat.reduceAdd, Option.toList, List.cons_append, List.nil_append, List.drop]
    refine xS.br0 (c := .ne) (off := 5) (l := 3) rfl rfl (fun h12 => ?_) (fun h12 => ?_)
    · have g12 := xt_ne h12
      refine xS.s1 rfl rfl ?_
      try dsimp only [Nat.reduceAdd]
      refine xS.gR rfl rfl rfl ⟨by decide, rfl⟩ rfl ?_
      try dsimp only [Nat.reduceAdd]
      refine xS.s1 rfl rfl ?_
      try dsimp only [Nat.reduceAdd]
      refine xS.aR rfl rfl (by decide) (by omega) (xsh1_get (by omega)) ?_
      try dsimp only [Nat.reduceAdd]
      refine xS.s1 rfl rfl ?_
      try dsimp only [Nat.reduceAdd, xj_6]
      -- 25 yX11_findingOfSteps
      refine xS.callS rfl rfl rfl ⟨Nat.le_of_ble_eq_true rfl, rfl⟩ (c_X11_findingOfSteps (xce_row ht) hz (by decide)) (fun v M1 hv => ?_)
      rw [hv.1, hv.2, hf]
      clear hv M1 v
      try dsimp only [Nat.reduceAdd, Option.toList, List.cons_append, List.nil_append, List.drop]
      refine xS.s1 rfl rfl ?_
      try dsimp only [Nat.reduceAdd]
      refine xS.s1 rfl rfl ?_
      try dsimp only [Nat.reduceAdd]
      refine xS.br0 (c := .eq) (off := 9) (l := 3) rfl rfl (fun h30 => ?_) (fun h30 => ?_)
      · have g30 := xt_eq h30
        refine xS.s1 rfl rfl ?_
        try dsimp only [Nat.reduceAdd]
        refine xS.s1 rfl rfl ?_
        try dsimp only [Nat.reduceAdd]
        refine xS.s1 rfl rfl ?_
        try dsimp only [Nat.reduceAdd]
        -- 42 yX11_paneOf
        refine xS.cv rfl rfl rfl rfl rfl rfl ⟨by decide, rfl, rfl⟩ (c_X11_paneOf hb hR hk) (fun v M1 hv => ?_)
        rw [hv.1, hv.2]
        clear hv M1 v
        try dsimp only [Nat.reduceAdd, Option.toList, List.cons_append, List.nil_append, List.drop]
        refine xS.s1 rfl rfl ?_
        try dsimp only [Nat.reduceAdd]
        refine xS.gR rfl rfl rfl ⟨by decide, rfl⟩ rfl ?_
        try dsimp only [Nat.reduceAdd]
        refine xS.s1 rfl rfl ?_
        try dsimp only [Nat.reduceAdd]
        refine xS.aR rfl rfl (by decide) (by omega) (xsh1_get (by omega)) ?_
        try dsimp only [Nat.reduceAdd]
        -- 51 yX11_findSets
        refine xS.cv rfl rfl rfl rfl rfl rfl ⟨by decide, rfl, rfl⟩ (c_X11_findSets hb hR hp hbv (hR.2.2.1 s hk).2 (xce_row ht) hs (by omega) hm (by omega) (by omega)) (fun v M1 hv => ?_)
        rw [hv.1, hv.2]
        clear hv M1 v
        try dsimp only [Nat.reduceAdd, Option.toList, List.cons_append, List.nil_append, List.drop]
        refine xS.br0 (c := .eq) (off := 7) (l := 3) rfl rfl (fun h54 => ?_) (fun h54 => ?_)
        · have g54 := xt_eq h54
          refine xS.s1 rfl rfl ?_
          try dsimp only [Nat.reduceAdd]
          show xS _ _ _ _ [.long (lN 0)] _ _
          rw [show lN 0 = lN (if (xnz (xst (Lw s / 4) (Lw s % 4) (xB (g (b.1 + 1)) (Lw s / 4) (g (23 + 2 * t + 1))) m) m (xps (Lw s / 4) (Lw s % 4) (g (23 + 2 * t + 1)) m)) = true then 1 else 0) from by rw [if_neg (xif0 g54)]]
          refine xS.s1 rfl rfl ?_
          try dsimp only [Nat.reduceAdd]
          refine xS.s1 rfl rfl ?_
          try dsimp only [Nat.reduceAdd, xi_0]
          refine xS.s1 rfl rfl ?_
          try dsimp only [Nat.reduceAdd]
          refine xS.pick [0, 1, 3, 5] rfl ?_
          refine xS.loop (σ := Unit) (m) (fun j S => [(6, .int (nI j)), (4, .long (lN (xpr (fun i => xpc (xN ((xst (Lw s / 4) (Lw s % 4) (xB (g (b.1 + 1)) (Lw s / 4) (g (23 + 2 * t + 1))) m) i))) (if (xnz (xst (Lw s / 4) (Lw s % 4) (xB (g (b.1 + 1)) (Lw s / 4) (g (23 + 2 * t + 1))) m) m (xps (Lw s / 4) (Lw s % 4) (g (23 + 2 * t + 1)) m)) = true then 1 else 0) j))), (0, .ref 0), (2, .int (nI t))]) (fun _ _ => xH b (gset g 17 m (xst (Lw s / 4) (Lw s % 4) (xB (g (b.1 + 1)) (Lw s / 4) (g (23 + 2 * t + 1))) m)) l) (fun _ _ => True) (()) (rfl) (rfl) (trivial) ?_
          intro j S hj hI ih
          try dsimp only
          have hbd := xpr_le (f := (fun i => xpc (xN ((xst (Lw s / 4) (Lw s % 4) (xB (g (b.1 + 1)) (Lw s / 4) (g (23 + 2 * t + 1))) m) i)))) (a := (if (xnz (xst (Lw s / 4) (Lw s % 4) (xB (g (b.1 + 1)) (Lw s / 4) (g (23 + 2 * t + 1))) m) m (xps (Lw s / 4) (Lw s % 4) (g (23 + 2 * t + 1)) m)) = true then 1 else 0)) (q := 6) (fun i => xpc_le _) j
          have hb1 : (if (xnz (xst (Lw s / 4) (Lw s % 4) (xB (g (b.1 + 1)) (Lw s / 4) (g (23 + 2 * t + 1))) m) m (xps (Lw s / 4) (Lw s % 4) (g (23 + 2 * t + 1)) m)) = true then 1 else 0) ≤ 1 := by split <;> omega
          have hb2 : 6 ^ j ≤ 6 ^ 6 := Nat.pow_le_pow_right (by omega) (by omega)
          have hb3 : xpr (fun i => xpc (xN ((xst (Lw s / 4) (Lw s % 4) (xB (g (b.1 + 1)) (Lw s / 4) (g (23 + 2 * t + 1))) m) i))) (if (xnz (xst (Lw s / 4) (Lw s % 4) (xB (g (b.1 + 1)) (Lw s / 4) (g (23 + 2 * t + 1))) m) m (xps (Lw s / 4) (Lw s % 4) (g (23 + 2 * t + 1)) m)) = true then 1 else 0) j ≤ 6 ^ 6 := Nat.le_trans hbd (Nat.le_trans (Nat.mul_le_mul hb1 hb2) (by decide))
          refine xS.s1 rfl rfl ?_
          try dsimp only [Nat.reduceAdd]
          refine xS.s1 rfl rfl ?_
          try dsimp only [Nat.reduceAdd]
          refine xS.gR rfl rfl rfl ⟨by decide, rfl⟩ rfl ?_
          try dsimp only [Nat.reduceAdd]
          refine xS.s1 rfl rfl ?_
          try dsimp only [Nat.reduceAdd]
          refine xS.aR rfl rfl (by decide) (by omega) (xsh1_get (by omega)) ?_
          try dsimp only [Nat.reduceAdd]
          -- 75 yX0_size
          refine xS.cv rfl rfl rfl ((xce_row (r := t) (by omega)).1 _) rfl rfl ⟨by decide, rfl, rfl⟩ (c_X0_size (xce_row ht)) (fun v M1 hv => ?_)
          rw [hv.1, hv.2, gset_na (by omega), hs]
          clear hv M1 v
          try dsimp only [Nat.reduceAdd, Option.toList, List.cons_append, List.nil_append, List.drop]
          refine xS.br (c := .ge) (off := 32) (l := 3) rfl rfl (fun h78 => ?_) (fun h78 => ?_)
          · have g78 := xt_ge h78
            have e := xnle g78 (by omega) (by omega)
            have e2 : m = j := by omega
            subst e2
            refine xS.s1 rfl rfl ?_
            try dsimp only [Nat.reduceAdd]
            refine xS.s1 rfl rfl ?_
            try dsimp only [Nat.reduceAdd]
            refine xS.s1 rfl rfl ?_
            try dsimp only [Nat.reduceAdd]
            -- 114 yX11_tell
            refine xS.cv rfl rfl rfl rfl rfl rfl ⟨by decide, rfl, rfl⟩ (c_X11_tell (p := xpr (fun i => xpc (xN ((xst (Lw s / 4) (Lw s % 4) (xB (g (b.1 + 1)) (Lw s / 4) (g (23 + 2 * t + 1))) m) i))) (if (xnz (xst (Lw s / 4) (Lw s % 4) (xB (g (b.1 + 1)) (Lw s / 4) (g (23 + 2 * t + 1))) m) m (xps (Lw s / 4) (Lw s % 4) (g (23 + 2 * t + 1)) m)) = true then 1 else 0) m) (d := 1) (by omega) (by omega) (by omega) (by omega)) (fun v M1 hv => ?_)
            rw [hv.1, hv.2, Nat.gcd_one_right]
            clear hv M1 v
            try dsimp only [Nat.reduceAdd, Option.toList, List.cons_append, List.nil_append, List.drop]
            refine xS.s1 rfl rfl ?_
            try dsimp only [Nat.reduceAdd, xi_1]
            refine xS.ret rfl rfl rfl (fun _ _ => rfl) ?_
            exact ⟨rfl, rfl⟩
          · have g78 := xf_ge h78
            have hlt := xnlt g78 (by omega) (by omega)
            refine xS.s1 rfl rfl ?_
            try dsimp only [Nat.reduceAdd]
            refine xS.s1 rfl rfl ?_
            try dsimp only [Nat.reduceAdd, xj_6]
            refine xS.br (c := .ge) (off := 25) (l := 3) rfl rfl (fun h85 => ?_) (fun h85 => ?_)
            · have g85 := xt_ge h85
              exfalso; first | exact absurd g85 (by decide) | (simp (disch := omega) only [Int32.lt_iff_toInt_lt, Int32.le_iff_toInt_le, nI_toInt, Int32.reduceToInt] at g85 <;> omega)
            · have g85 := xf_ge h85
              refine xS.s1 rfl rfl ?_
              try dsimp only [Nat.reduceAdd]
              refine xS.s1 rfl rfl ?_
              try dsimp only [Nat.reduceAdd]
              refine xS.gR rfl rfl rfl ⟨by decide, rfl⟩ rfl ?_
              try dsimp only [Nat.reduceAdd]
              refine xS.s1 rfl rfl ?_
              try dsimp only [Nat.reduceAdd]
              refine xS.ia rfl xar_17 (by omega) ?_
              try dsimp only [Nat.reduceAdd]
              try rw [gset_in hlt]
              -- 97 yJ6_bitCount_0f7a4
              refine xS.callS rfl rfl rfl ⟨Nat.le_of_ble_eq_true rfl, rfl⟩ c_J6_bitCount (fun v M1 hv => ?_)
              obtain ⟨y1, hy1, hy2⟩ := xst_64 (κ := Lw s / 4) (δ := Lw s % 4) (h := g (b.1 + 1)) (f := g (23 + 2 * t + 1)) (c := Lw s / 4) m j
              rw [hv.1, hv.2]
              rw [show (xst (Lw s / 4) (Lw s % 4) (xB (g (b.1 + 1)) (Lw s / 4) (g (23 + 2 * t + 1))) m) j = nI y1 from hy2, xbc_64 y1 hy1]
              clear hv M1 v
              have hpj : (fun i => xpc (xN ((xst (Lw s / 4) (Lw s % 4) (xB (g (b.1 + 1)) (Lw s / 4) (g (23 + 2 * t + 1))) m) i))) j = xpc y1 := by show xpc (xN ((xst (Lw s / 4) (Lw s % 4) (xB (g (b.1 + 1)) (Lw s / 4) (g (23 + 2 * t + 1))) m) j)) = _; rw [show (xst (Lw s / 4) (Lw s % 4) (xB (g (b.1 + 1)) (Lw s / 4) (g (23 + 2 * t + 1))) m) j = nI y1 from hy2, xN_nI (by omega)]
              try dsimp only [Nat.reduceAdd, Option.toList, List.cons_append, List.nil_append, List.drop]
              refine xS.s1 rfl rfl ?_
              try dsimp only [Nat.reduceAdd]
              refine xS.s1 rfl rfl ?_
              try dsimp only [Nat.reduceAdd]
              rw [nI_l (by have := xpc_le y1; omega), lN_mul, ← hpj]
              refine xS.s1 rfl rfl ?_
              try dsimp only [Nat.reduceAdd]
              refine xS.s1 rfl rfl ?_
              try dsimp only [Nat.reduceAdd, xi_1]
              rw [nI_1]
              refine xS.s1 rfl rfl ?_
              try dsimp only [Nat.reduceAdd]
              refine xS.pick [0, 1, 2, 3] rfl ?_
              exact ih () (by omega) trivial
        · have g54 := xf_eq h54
          refine xS.s1 rfl rfl ?_
          try dsimp only [Nat.reduceAdd]
          refine xS.s1 rfl rfl ?_
          try dsimp only [Nat.reduceAdd]
          show xS _ _ _ _ [.long (lN 1)] _ _
          rw [show lN 1 = lN (if (xnz (xst (Lw s / 4) (Lw s % 4) (xB (g (b.1 + 1)) (Lw s / 4) (g (23 + 2 * t + 1))) m) m (xps (Lw s / 4) (Lw s % 4) (g (23 + 2 * t + 1)) m)) = true then 1 else 0) from by rw [if_pos (xif1 g54)]]
          refine xS.s1 rfl rfl ?_
          try dsimp only [Nat.reduceAdd]
          refine xS.s1 rfl rfl ?_
          try dsimp only [Nat.reduceAdd, xi_0]
          refine xS.s1 rfl rfl ?_
          try dsimp only [Nat.reduceAdd]
          refine xS.pick [0, 1, 3, 5] rfl ?_
          refine xS.loop (σ := Unit) (m) (fun j S => [(6, .int (nI j)), (4, .long (lN (xpr (fun i => xpc (xN ((xst (Lw s / 4) (Lw s % 4) (xB (g (b.1 + 1)) (Lw s / 4) (g (23 + 2 * t + 1))) m) i))) (if (xnz (xst (Lw s / 4) (Lw s % 4) (xB (g (b.1 + 1)) (Lw s / 4) (g (23 + 2 * t + 1))) m) m (xps (Lw s / 4) (Lw s % 4) (g (23 + 2 * t + 1)) m)) = true then 1 else 0) j))), (0, .ref 0), (2, .int (nI t))]) (fun _ _ => xH b (gset g 17 m (xst (Lw s / 4) (Lw s % 4) (xB (g (b.1 + 1)) (Lw s / 4) (g (23 + 2 * t + 1))) m)) l) (fun _ _ => True) (()) (rfl) (rfl) (trivial) ?_
          intro j S hj hI ih
          try dsimp only
          have hbd := xpr_le (f := (fun i => xpc (xN ((xst (Lw s / 4) (Lw s % 4) (xB (g (b.1 + 1)) (Lw s / 4) (g (23 + 2 * t + 1))) m) i)))) (a := (if (xnz (xst (Lw s / 4) (Lw s % 4) (xB (g (b.1 + 1)) (Lw s / 4) (g (23 + 2 * t + 1))) m) m (xps (Lw s / 4) (Lw s % 4) (g (23 + 2 * t + 1)) m)) = true then 1 else 0)) (q := 6) (fun i => xpc_le _) j
          have hb1 : (if (xnz (xst (Lw s / 4) (Lw s % 4) (xB (g (b.1 + 1)) (Lw s / 4) (g (23 + 2 * t + 1))) m) m (xps (Lw s / 4) (Lw s % 4) (g (23 + 2 * t + 1)) m)) = true then 1 else 0) ≤ 1 := by split <;> omega
          have hb2 : 6 ^ j ≤ 6 ^ 6 := Nat.pow_le_pow_right (by omega) (by omega)
          have hb3 : xpr (fun i => xpc (xN ((xst (Lw s / 4) (Lw s % 4) (xB (g (b.1 + 1)) (Lw s / 4) (g (23 + 2 * t + 1))) m) i))) (if (xnz (xst (Lw s / 4) (Lw s % 4) (xB (g (b.1 + 1)) (Lw s / 4) (g (23 + 2 * t + 1))) m) m (xps (Lw s / 4) (Lw s % 4) (g (23 + 2 * t + 1)) m)) = true then 1 else 0) j ≤ 6 ^ 6 := Nat.le_trans hbd (Nat.le_trans (Nat.mul_le_mul hb1 hb2) (by decide))
          refine xS.s1 rfl rfl ?_
          try dsimp only [Nat.reduceAdd]
          refine xS.s1 rfl rfl ?_
          try dsimp only [Nat.reduceAdd]
          refine xS.gR rfl rfl rfl ⟨by decide, rfl⟩ rfl ?_
          try dsimp only [Nat.reduceAdd]
          refine xS.s1 rfl rfl ?_
          try dsimp only [Nat.reduceAdd]
          refine xS.aR rfl rfl (by decide) (by omega) (xsh1_get (by omega)) ?_
          try dsimp only [Nat.reduceAdd]
          -- 75 yX0_size
          refine xS.cv rfl rfl rfl ((xce_row (r := t) (by omega)).1 _) rfl rfl ⟨by decide, rfl, rfl⟩ (c_X0_size (xce_row ht)) (fun v M1 hv => ?_)
          rw [hv.1, hv.2, gset_na (by omega), hs]
          clear hv M1 v
          try dsimp only [Nat.reduceAdd, Option.toList, List.cons_append, List.nil_append, List.drop]
          refine xS.br (c := .ge) (off := 32) (l := 3) rfl rfl (fun h78 => ?_) (fun h78 => ?_)
          · have g78 := xt_ge h78
            have e := xnle g78 (by omega) (by omega)
            have e2 : m = j := by omega
            subst e2
            refine xS.s1 rfl rfl ?_
            try dsimp only [Nat.reduceAdd]
            refine xS.s1 rfl rfl ?_
            try dsimp only [Nat.reduceAdd]
            refine xS.s1 rfl rfl ?_
            try dsimp only [Nat.reduceAdd]
            -- 114 yX11_tell
            refine xS.cv rfl rfl rfl rfl rfl rfl ⟨by decide, rfl, rfl⟩ (c_X11_tell (p := xpr (fun i => xpc (xN ((xst (Lw s / 4) (Lw s % 4) (xB (g (b.1 + 1)) (Lw s / 4) (g (23 + 2 * t + 1))) m) i))) (if (xnz (xst (Lw s / 4) (Lw s % 4) (xB (g (b.1 + 1)) (Lw s / 4) (g (23 + 2 * t + 1))) m) m (xps (Lw s / 4) (Lw s % 4) (g (23 + 2 * t + 1)) m)) = true then 1 else 0) m) (d := 1) (by omega) (by omega) (by omega) (by omega)) (fun v M1 hv => ?_)
            rw [hv.1, hv.2, Nat.gcd_one_right]
            clear hv M1 v
            try dsimp only [Nat.reduceAdd, Option.toList, List.cons_append, List.nil_append, List.drop]
            refine xS.s1 rfl rfl ?_
            try dsimp only [Nat.reduceAdd, xi_1]
            refine xS.ret rfl rfl rfl (fun _ _ => rfl) ?_
            exact ⟨rfl, rfl⟩
          · have g78 := xf_ge h78
            have hlt := xnlt g78 (by omega) (by omega)
            refine xS.s1 rfl rfl ?_
            try dsimp only [Nat.reduceAdd]
            refine xS.s1 rfl rfl ?_
            try dsimp only [Nat.reduceAdd, xj_6]
            refine xS.br (c := .ge) (off := 25) (l := 3) rfl rfl (fun h85 => ?_) (fun h85 => ?_)
            · have g85 := xt_ge h85
              exfalso; first | exact absurd g85 (by decide) | (simp (disch := omega) only [Int32.lt_iff_toInt_lt, Int32.le_iff_toInt_le, nI_toInt, Int32.reduceToInt] at g85 <;> omega)
            · have g85 := xf_ge h85
              refine xS.s1 rfl rfl ?_
              try dsimp only [Nat.reduceAdd]
              refine xS.s1 rfl rfl ?_
              try dsimp only [Nat.reduceAdd]
              refine xS.gR rfl rfl rfl ⟨by decide, rfl⟩ rfl ?_
              try dsimp only [Nat.reduceAdd]
              refine xS.s1 rfl rfl ?_
              try dsimp only [Nat.reduceAdd]
              refine xS.ia rfl xar_17 (by omega) ?_
              try dsimp only [Nat.reduceAdd]
              try rw [gset_in hlt]
              -- 97 yJ6_bitCount_0f7a4
              refine xS.callS rfl rfl rfl ⟨Nat.le_of_ble_eq_true rfl, rfl⟩ c_J6_bitCount (fun v M1 hv => ?_)
              obtain ⟨y1, hy1, hy2⟩ := xst_64 (κ := Lw s / 4) (δ := Lw s % 4) (h := g (b.1 + 1)) (f := g (23 + 2 * t + 1)) (c := Lw s / 4) m j
              rw [hv.1, hv.2]
              rw [show (xst (Lw s / 4) (Lw s % 4) (xB (g (b.1 + 1)) (Lw s / 4) (g (23 + 2 * t + 1))) m) j = nI y1 from hy2, xbc_64 y1 hy1]
              clear hv M1 v
              have hpj : (fun i => xpc (xN ((xst (Lw s / 4) (Lw s % 4) (xB (g (b.1 + 1)) (Lw s / 4) (g (23 + 2 * t + 1))) m) i))) j = xpc y1 := by show xpc (xN ((xst (Lw s / 4) (Lw s % 4) (xB (g (b.1 + 1)) (Lw s / 4) (g (23 + 2 * t + 1))) m) j)) = _; rw [show (xst (Lw s / 4) (Lw s % 4) (xB (g (b.1 + 1)) (Lw s / 4) (g (23 + 2 * t + 1))) m) j = nI y1 from hy2, xN_nI (by omega)]
              try dsimp only [Nat.reduceAdd, Option.toList, List.cons_append, List.nil_append, List.drop]
              refine xS.s1 rfl rfl ?_
              try dsimp only [Nat.reduceAdd]
              refine xS.s1 rfl rfl ?_
              try dsimp only [Nat.reduceAdd]
              rw [nI_l (by have := xpc_le y1; omega), lN_mul, ← hpj]
              refine xS.s1 rfl rfl ?_
              try dsimp only [Nat.reduceAdd]
              refine xS.s1 rfl rfl ?_
              try dsimp only [Nat.reduceAdd, xi_1]
              rw [nI_1]
              refine xS.s1 rfl rfl ?_
              try dsimp only [Nat.reduceAdd]
              refine xS.pick [0, 1, 2, 3] rfl ?_
              exact ih () (by omega) trivial
      · have g30 := xf_eq h30
        exfalso; first | exact absurd g30 (by decide) | (simp (disch := omega) only [Int32.lt_iff_toInt_lt, Int32.le_iff_toInt_le, nI_toInt, Int32.reduceToInt] at g30 <;> omega)
    · have g12 := xf_ne h12
      exfalso; first | exact absurd g12 (by decide) | (simp (disch := omega) only [Int32.lt_iff_toInt_lt, Int32.le_iff_toInt_le, nI_toInt, Int32.reduceToInt] at g12 <;> omega)

set_option maxRecDepth 10000 in
theorem c_X11_first_bad (hb : xro b.1) (hx : ¬ ((0 ≤ x ∧ x < g b.1 2) ∧ (0 ≤ y ∧ y < 6) ∧ 0 ≤ z ∧ z < 6)) : xT (k + 6) 103 [.ref 0, .int x, .int y, .int z] (xH b g l) (fun r M' => M' = xH b g l ∧ r = some (.int (-1))) := by
  refine xT.of rfl (Nat.le_of_ble_eq_true rfl) ?_
  change xS _ _ 0 [(0, .ref 0), (1, .int x), (2, .int y), (3, .int z)] [] _ _
  refine xS.s1 rfl rfl ?_
  try dsimp only [Nat.reduceAdd]
  refine xS.s1 rfl rfl ?_
  try dsimp only [Nat.reduceAdd]
  -- 2 yX11_isGlass
  refine xS.cv rfl rfl rfl rfl rfl rfl ⟨by decide, rfl, rfl⟩ (c_X11_isGlass hb) (fun v M1 hv => ?_)
  rw [hv.1, hv.2]
  clear hv M1 v
  try dsimp only [Nat.reduceAdd, Option.toList, List.cons_append, List.nil_append, List.drop]
  refine xS.br0 (c := .eq) (off := 17) (l := 3) rfl rfl (fun h5 => ?_) (fun h5 => ?_)
  · have g5 := xt_eq h5
    refine xS.s1 rfl rfl ?_
    try dsimp only [Nat.reduceAdd, xi_m1]
    refine xS.ret rfl rfl rfl (fun _ _ => rfl) ?_
    exact ⟨rfl, rfl⟩
  · have g5 := xf_eq h5
    refine xS.s1 rfl rfl ?_
    try dsimp only [Nat.reduceAdd]
    -- 9 yX11_isRow
    refine xS.callS rfl rfl rfl ⟨Nat.le_of_ble_eq_true rfl, rfl⟩ c_X11_isRow (fun v M1 hv => ?_)
    rw [hv.1, hv.2]
    clear hv M1 v
    try dsimp only [Nat.reduceAdd, Option.toList, List.cons_append, List.nil_append, List.drop]
    refine xS.br0 (c := .eq) (off := 10) (l := 3) rfl rfl (fun h12 => ?_) (fun h12 => ?_)
    · have g12 := xt_eq h12
      refine xS.s1 rfl rfl ?_
      try dsimp only [Nat.reduceAdd, xi_m1]
      refine xS.ret rfl rfl rfl (fun _ _ => rfl) ?_
      exact ⟨rfl, rfl⟩
    · have g12 := xf_eq h12
      refine xS.s1 rfl rfl ?_
      try dsimp only [Nat.reduceAdd]
      -- 16 yX11_isRow
      refine xS.callS rfl rfl rfl ⟨Nat.le_of_ble_eq_true rfl, rfl⟩ c_X11_isRow (fun v M1 hv => ?_)
      rw [hv.1, hv.2]
      clear hv M1 v
      try dsimp only [Nat.reduceAdd, Option.toList, List.cons_append, List.nil_append, List.drop]
      refine xS.br0 (c := .ne) (off := 5) (l := 3) rfl rfl (fun h19 => ?_) (fun h19 => ?_)
      · have g19 := xt_ne h19
        exact absurd ⟨xif1 g5, xif1 g12, xif1 g19⟩ hx
      · have g19 := xf_ne h19
        refine xS.s1 rfl rfl ?_
        try dsimp only [Nat.reduceAdd, xi_m1]
        refine xS.ret rfl rfl rfl (fun _ _ => rfl) ?_
        exact ⟨rfl, rfl⟩

set_option maxRecDepth 10000 in
theorem c_X11_first_ref (hb : xro b.1) (hR : xRm g b.1 G T Lw) (hk : s < G) (ht : t < 6) (hz : xsz (g (23 + 2 * t) 1) 40) (hp1 : p < 6) (hf : (xfos (g (23 + 2 * t) 1) (g (23 + 2 * t + 1)) 6) ≠ 0) : xT (k + 6) 103 [.ref 0, .int (nI s), .int (nI t), .int (nI p)] (xH b g l) (fun r M' => M' = xH b (xfC g (xfos (g (23 + 2 * t) 1) (g (23 + 2 * t + 1)) 6)) l ∧ r = some (.int (-3))) := by
  refine xT.of rfl (Nat.le_of_ble_eq_true rfl) ?_
  change xS _ _ 0 [(0, .ref 0), (1, .int (nI s)), (2, .int (nI t)), (3, .int (nI p))] [] _ _
  refine xS.s1 rfl rfl ?_
  try dsimp only [Nat.reduceAdd]
  refine xS.s1 rfl rfl ?_
  try dsimp only [Nat.reduceAdd]
  -- 2 yX11_isGlass
  refine xS.cv rfl rfl rfl rfl rfl rfl ⟨by decide, rfl, rfl⟩ (c_X11_isGlass_in hb hR hk) (fun v M1 hv => ?_)
  rw [hv.1, hv.2]
  clear hv M1 v
  try dsimp only [Nat.reduceAdd, Option.toList, List.cons_append, List.nil_append, List.drop]
  refine xS.br0 (c := .eq) (off := 17) (l := 3) rfl rfl (fun h5 => ?_) (fun h5 => ?_)
  · have g5 := xt_eq h5
    exfalso; first | exact absurd g5 (by decide) | (simp (disch := omega) only [Int32.lt_iff_toInt_lt, Int32.le_iff_toInt_le, nI_toInt, Int32.reduceToInt] at g5 <;> omega)
  · have g5 := xf_eq h5
    refine xS.s1 rfl rfl ?_
    try dsimp only [Nat.reduceAdd]
    -- 9 yX11_isRow
    refine xS.callS rfl rfl rfl ⟨Nat.le_of_ble_eq_true rfl, rfl⟩ (c_X11_isRow_in ht) (fun v M1 hv => ?_)
    rw [hv.1, hv.2]
    clear hv M1 v
    try dsimp only [Nat.reduceAdd, Option.toList, List.cons_append, List.nil_append, List.drop]
    refine xS.br0 (c := .eq) (off := 10) (l := 3) rfl rfl (fun h12 => ?_) (fun h12 => ?_)
    · have g12 := xt_eq h12
      exfalso; first | exact absurd g12 (by decide) | (simp (disch := omega) only [Int32.lt_iff_toInt_lt, Int32.le_iff_toInt_le, nI_toInt, Int32.reduceToInt] at g12 <;> omega)
    · have g12 := xf_eq h12
      refine xS.s1 rfl rfl ?_
      try dsimp only [Nat.reduceAdd]
      -- 16 yX11_isRow
      refine xS.callS rfl rfl rfl ⟨Nat.le_of_ble_eq_true rfl, rfl⟩ (c_X11_isRow_in hp1) (fun v M1 hv => ?_)
      rw [hv.1, hv.2]
      clear hv M1 v
      try dsimp only [Nat.reduceAdd, Option.toList, List.cons_append, List.nil_append, List.drop]
      refine xS.br0 (c := .ne) (off := 5) (l := 3) rfl rfl (fun h19 => ?_) (fun h19 => ?_)
      · have g19 := xt_ne h19
        refine xS.s1 rfl rfl ?_
        try dsimp only [Nat.reduceAdd]
        refine xS.gR rfl rfl rfl ⟨by decide, rfl⟩ rfl ?_
        try dsimp only [Nat.reduceAdd]
        refine xS.s1 rfl rfl ?_
        try dsimp only [Nat.reduceAdd]
        refine xS.aR rfl rfl (by decide) (by omega) (xsh1_get (by omega)) ?_
        try dsimp only [Nat.reduceAdd]
        refine xS.s1 rfl rfl ?_
        try dsimp only [Nat.reduceAdd, xj_6]
        -- 32 yX11_findingOfSteps
        refine xS.callS rfl rfl rfl ⟨Nat.le_of_ble_eq_true rfl, rfl⟩ (c_X11_findingOfSteps (xce_row ht) hz (by decide)) (fun v M1 hv => ?_)
        rw [hv.1, hv.2]
        clear hv M1 v
        try dsimp only [Nat.reduceAdd, Option.toList, List.cons_append, List.nil_append, List.drop]
        refine xS.s1 rfl rfl ?_
        try dsimp only [Nat.reduceAdd]
        refine xS.s1 rfl rfl ?_
        try dsimp only [Nat.reduceAdd]
        refine xS.br0 (c := .eq) (off := 10) (l := 3) rfl rfl (fun h39 => ?_) (fun h39 => ?_)
        · have g39 := xt_eq h39
          exact absurd ((nI_eq (b := 0) (by have := xfos_le (g (23 + 2 * t) 1) (g (23 + 2 * t + 1)) 6; omega) (by omega)).mp g39) hf
        · have g39 := xf_eq h39
          refine xS.s1 rfl rfl ?_
          try dsimp only [Nat.reduceAdd]
          refine xS.s1 rfl rfl ?_
          try dsimp only [Nat.reduceAdd]
          -- 45 yX11_refuse
          refine xS.cv rfl rfl rfl rfl rfl rfl ⟨by decide, rfl, rfl⟩ (c_X11_refuse (t := (xfos (g (23 + 2 * t) 1) (g (23 + 2 * t + 1)) 6)) (by omega) (xfos_le _ _ _)) (fun v M1 hv => ?_)
          rw [hv.1, hv.2]
          clear hv M1 v
          try dsimp only [Nat.reduceAdd, Option.toList, List.cons_append, List.nil_append, List.drop]
          refine xS.ret rfl rfl rfl (fun _ _ => rfl) ?_
          exact ⟨rfl, rfl⟩
      · have g19 := xf_ne h19
        exfalso; first | exact absurd g19 (by decide) | (simp (disch := omega) only [Int32.lt_iff_toInt_lt, Int32.le_iff_toInt_le, nI_toInt, Int32.reduceToInt] at g19 <;> omega)

set_option maxRecDepth 10000 in
theorem c_X11_first_none (hb : xro b.1) (hR : xRm g b.1 G T Lw) (hp : xpn g) (hbv : b.1 = 7 ∨ b.1 = 11) (hk : s < G) (ht : t < 6) (hp1 : p < 6) (hs : g (23 + 2 * t) 1 = nI m) (hm : m ≤ 6) (hf : xfos (g (23 + 2 * t) 1) (g (23 + 2 * t + 1)) 6 = 0) (hx : ∀ i, i < m → xstp (g (23 + 2 * t + 1) i)) (hnz : (xnz (xst (Lw s / 4) (Lw s % 4) (xB (g (b.1 + 1)) (Lw s / 4) (g (23 + 2 * t + 1))) m) m (xps (Lw s / 4) (Lw s % 4) (g (23 + 2 * t + 1)) m)) = false) : xT (k + 6) 103 [.ref 0, .int (nI s), .int (nI t), .int (nI p)] (xH b g l) (fun r M' => M' = xH b (gset g 17 m (xst (Lw s / 4) (Lw s % 4) (xB (g (b.1 + 1)) (Lw s / 4) (g (23 + 2 * t + 1))) m)) l ∧ r = some (.int (-9))) := by
  have hz : xsz (g (23 + 2 * t) 1) 40 := Or.inr ⟨m, by omega, hs⟩
  refine xT.of rfl (Nat.le_of_ble_eq_true rfl) ?_
  change xS _ _ 0 [(0, .ref 0), (1, .int (nI s)), (2, .int (nI t)), (3, .int (nI p))] [] _ _
  refine xS.s1 rfl rfl ?_
  try dsimp only [Nat.reduceAdd]
  refine xS.s1 rfl rfl ?_
  try dsimp only [Nat.reduceAdd]
  -- 2 yX11_isGlass
  refine xS.cv rfl rfl rfl rfl rfl rfl ⟨by decide, rfl, rfl⟩ (c_X11_isGlass_in hb hR hk) (fun v M1 hv => ?_)
  rw [hv.1, hv.2]
  clear hv M1 v
  try dsimp only [Nat.reduceAdd, Option.toList, List.cons_append, List.nil_append, List.drop]
  refine xS.br0 (c := .eq) (off := 17) (l := 3) rfl rfl (fun h5 => ?_) (fun h5 => ?_)
  · have g5 := xt_eq h5
    exfalso; first | exact absurd g5 (by decide) | (simp (disch := omega) only [Int32.lt_iff_toInt_lt, Int32.le_iff_toInt_le, nI_toInt, Int32.reduceToInt] at g5 <;> omega)
  · have g5 := xf_eq h5
    refine xS.s1 rfl rfl ?_
    try dsimp only [Nat.reduceAdd]
    -- 9 yX11_isRow
    refine xS.callS rfl rfl rfl ⟨Nat.le_of_ble_eq_true rfl, rfl⟩ (c_X11_isRow_in ht) (fun v M1 hv => ?_)
    rw [hv.1, hv.2]
    clear hv M1 v
    try dsimp only [Nat.reduceAdd, Option.toList, List.cons_append, List.nil_append, List.drop]
    refine xS.br0 (c := .eq) (off := 10) (l := 3) rfl rfl (fun h12 => ?_) (fun h12 => ?_)
    · have g12 := xt_eq h12
      exfalso; first | exact absurd g12 (by decide) | (simp (disch := omega) only [Int32.lt_iff_toInt_lt, Int32.le_iff_toInt_le, nI_toInt, Int32.reduceToInt] at g12 <;> omega)
    · have g12 := xf_eq h12
      refine xS.s1 rfl rfl ?_
      try dsimp only [Nat.reduceAdd]
      -- 16 yX11_isRow
      refine xS.callS rfl rfl rfl ⟨Nat.le_of_ble_eq_true rfl, rfl⟩ (c_X11_isRow_in hp1) (fun v M1 hv => ?_)
      rw [hv.1, hv.2]
      clear hv M1 v
      try dsimp only [Nat.reduceAdd, Option.toList, List.cons_append, List.nil_append, List.drop]
      refine xS.br0 (c := .ne) (off := 5) (l := 3) rfl rfl (fun h19 => ?_) (fun h19 => ?_)
      · have g19 := xt_ne h19
        refine xS.s1 rfl rfl ?_
        try dsimp only [Nat.reduceAdd]
        refine xS.gR rfl rfl rfl ⟨by decide, rfl⟩ rfl ?_
        try dsimp only [Nat.reduceAdd]
        refine xS.s1 rfl rfl ?_
        try dsimp only [Nat.reduceAdd]
        refine xS.aR rfl rfl (by decide) (by omega) (xsh1_get (by omega)) ?_
        try dsimp only [Nat.reduceAdd]
        refine xS.s1 rfl rfl ?_
        try dsimp only [Nat.reduceAdd, xj_6]
        -- 32 yX11_findingOfSteps
        refine xS.callS rfl rfl rfl ⟨Nat.le_of_ble_eq_true rfl, rfl⟩ (c_X11_findingOfSteps (xce_row ht) hz (by decide)) (fun v M1 hv => ?_)
        rw [hv.1, hv.2, hf]
        clear hv M1 v
        try dsimp only [Nat.reduceAdd, Option.toList, List.cons_append, List.nil_append, List.drop]
        refine xS.s1 rfl rfl ?_
        try dsimp only [Nat.reduceAdd]
        refine xS.s1 rfl rfl ?_
        try dsimp only [Nat.reduceAdd]
        refine xS.br0 (c := .eq) (off := 10) (l := 3) rfl rfl (fun h39 => ?_) (fun h39 => ?_)
        · have g39 := xt_eq h39
          refine xS.s1 rfl rfl ?_
          try dsimp only [Nat.reduceAdd]
          refine xS.s1 rfl rfl ?_
          try dsimp only [Nat.reduceAdd]
          refine xS.s1 rfl rfl ?_
          try dsimp only [Nat.reduceAdd]
          -- 52 yX11_paneOf
          refine xS.cv rfl rfl rfl rfl rfl rfl ⟨by decide, rfl, rfl⟩ (c_X11_paneOf hb hR hk) (fun v M1 hv => ?_)
          rw [hv.1, hv.2]
          clear hv M1 v
          try dsimp only [Nat.reduceAdd, Option.toList, List.cons_append, List.nil_append, List.drop]
          refine xS.s1 rfl rfl ?_
          try dsimp only [Nat.reduceAdd]
          refine xS.gR rfl rfl rfl ⟨by decide, rfl⟩ rfl ?_
          try dsimp only [Nat.reduceAdd]
          refine xS.s1 rfl rfl ?_
          try dsimp only [Nat.reduceAdd]
          refine xS.aR rfl rfl (by decide) (by omega) (xsh1_get (by omega)) ?_
          try dsimp only [Nat.reduceAdd]
          -- 61 yX11_findSets
          refine xS.cv rfl rfl rfl rfl rfl rfl ⟨by decide, rfl, rfl⟩ (c_X11_findSets hb hR hp hbv (hR.2.2.1 s hk).2 (xce_row ht) hs (by omega) hm (by omega) (by omega)) (fun v M1 hv => ?_)
          rw [hv.1, hv.2]
          clear hv M1 v
          try dsimp only [Nat.reduceAdd, Option.toList, List.cons_append, List.nil_append, List.drop]
          refine xS.br0 (c := .ne) (off := 6) (l := 3) rfl rfl (fun h64 => ?_) (fun h64 => ?_)
          · have g64 := xt_ne h64
            exact absurd (xif1 g64) (by rw [hnz]; decide)
          · have g64 := xf_ne h64
            refine xS.s1 rfl rfl ?_
            try dsimp only [Nat.reduceAdd, xj_m9]
            refine xS.ret rfl rfl rfl (fun _ _ => rfl) ?_
            exact ⟨rfl, rfl⟩
        · have g39 := xf_eq h39
          exfalso; first | exact absurd g39 (by decide) | (simp (disch := omega) only [Int32.lt_iff_toInt_lt, Int32.le_iff_toInt_le, nI_toInt, Int32.reduceToInt] at g39 <;> omega)
      · have g19 := xf_ne h19
        exfalso; first | exact absurd g19 (by decide) | (simp (disch := omega) only [Int32.lt_iff_toInt_lt, Int32.le_iff_toInt_le, nI_toInt, Int32.reduceToInt] at g19 <;> omega)

set_option maxRecDepth 10000 in
theorem c_X11_first_ok (hb : xro b.1) (hR : xRm g b.1 G T Lw) (hp : xpn g) (hbv : b.1 = 7 ∨ b.1 = 11) (hk : s < G) (ht : t < 6) (hp1 : p < 6) (hs : g (23 + 2 * t) 1 = nI m) (hm : m ≤ 6) (hf : xfos (g (23 + 2 * t) 1) (g (23 + 2 * t + 1)) 6 = 0) (hx : ∀ i, i < m → xstp (g (23 + 2 * t + 1) i)) (hnz : (xnz (xst (Lw s / 4) (Lw s % 4) (xB (g (b.1 + 1)) (Lw s / 4) (g (23 + 2 * t + 1))) m) m (xps (Lw s / 4) (Lw s % 4) (g (23 + 2 * t + 1)) m)) = true) : xT (k + 6) 103 [.ref 0, .int (nI s), .int (nI t), .int (nI p)] (xH b g l) (fun r M' => M' = xH b (gset (gfill (up (gset g 17 m (xst (Lw s / 4) (Lw s % 4) (xB (g (b.1 + 1)) (Lw s / 4) (g (23 + 2 * t + 1))) m)) (23 + 2 * p) 1 (nI m)) (23 + 2 * p + 1) m 0) (23 + 2 * p + 1) m (fun i => nI (xlst ((xst (Lw s / 4) (Lw s % 4) (xB (g (b.1 + 1)) (Lw s / 4) (g (23 + 2 * t + 1))) m) i)))) l ∧ r = some (.int (nI m))) := by
  have hz : xsz (g (23 + 2 * t) 1) 40 := Or.inr ⟨m, by omega, hs⟩
  refine xT.of rfl (Nat.le_of_ble_eq_true rfl) ?_
  change xS _ _ 0 [(0, .ref 0), (1, .int (nI s)), (2, .int (nI t)), (3, .int (nI p))] [] _ _
  refine xS.s1 rfl rfl ?_
  try dsimp only [Nat.reduceAdd]
  refine xS.s1 rfl rfl ?_
  try dsimp only [Nat.reduceAdd]
  -- 2 yX11_isGlass
  refine xS.cv rfl rfl rfl rfl rfl rfl ⟨by decide, rfl, rfl⟩ (c_X11_isGlass_in hb hR hk) (fun v M1 hv => ?_)
  rw [hv.1, hv.2]
  clear hv M1 v
  try dsimp only [Nat.reduceAdd, Option.toList, List.cons_append, List.nil_append, List.drop]
  refine xS.br0 (c := .eq) (off := 17) (l := 3) rfl rfl (fun h5 => ?_) (fun h5 => ?_)
  · have g5 := xt_eq h5
    exfalso; first | exact absurd g5 (by decide) | (simp (disch := omega) only [Int32.lt_iff_toInt_lt, Int32.le_iff_toInt_le, nI_toInt, Int32.reduceToInt] at g5 <;> omega)
  · have g5 := xf_eq h5
    refine xS.s1 rfl rfl ?_
    try dsimp only [Nat.reduceAdd]
    -- 9 yX11_isRow
    refine xS.callS rfl rfl rfl ⟨Nat.le_of_ble_eq_true rfl, rfl⟩ (c_X11_isRow_in ht) (fun v M1 hv => ?_)
    rw [hv.1, hv.2]
    clear hv M1 v
    try dsimp only [Nat.reduceAdd, Option.toList, List.cons_append, List.nil_append, List.drop]
    refine xS.br0 (c := .eq) (off := 10) (l := 3) rfl rfl (fun h12 => ?_) (fun h12 => ?_)
    · have g12 := xt_eq h12
      exfalso; first | exact absurd g12 (by decide) | (simp (disch := omega) only [Int32.lt_iff_toInt_lt, Int32.le_iff_toInt_le, nI_toInt, Int32.reduceToInt] at g12 <;> omega)
    · have g12 := xf_eq h12
      refine xS.s1 rfl rfl ?_
      try dsimp only [Nat.reduceAdd]
      -- 16 yX11_isRow
      refine xS.callS rfl rfl rfl ⟨Nat.le_of_ble_eq_true rfl, rfl⟩ (c_X11_isRow_in hp1) (fun v M1 hv => ?_)
      rw [hv.1, hv.2]
      clear hv M1 v
      try dsimp only [Nat.reduceAdd, Option.toList, List.cons_append, List.nil_append, List.drop]
      refine xS.br0 (c := .ne) (off := 5) (l := 3) rfl rfl (fun h19 => ?_) (fun h19 => ?_)
      · have g19 := xt_ne h19
        refine xS.s1 rfl rfl ?_
        try dsimp only [Nat.reduceAdd]
        refine xS.gR rfl rfl rfl ⟨by decide, rfl⟩ rfl ?_
        try dsimp only [Nat.reduceAdd]
        refine xS.s1 rfl rfl ?_
        try dsimp only [Nat.reduceAdd]
        refine xS.aR rfl rfl (by decide) (by omega) (xsh1_get (by omega)) ?_
        try dsimp only [Nat.reduceAdd]
        refine xS.s1 rfl rfl ?_
        try dsimp only [Nat.reduceAdd, xj_6]
        -- 32 yX11_findingOfSteps
        refine xS.callS rfl rfl rfl ⟨Nat.le_of_ble_eq_true rfl, rfl⟩ (c_X11_findingOfSteps (xce_row ht) hz (by decide)) (fun v M1 hv => ?_)
        rw [hv.1, hv.2, hf]
        clear hv M1 v
        try dsimp only [Nat.reduceAdd, Option.toList, List.cons_append, List.nil_append, List.drop]
        refine xS.s1 rfl rfl ?_
        try dsimp only [Nat.reduceAdd]
        refine xS.s1 rfl rfl ?_
        try dsimp only [Nat.reduceAdd]
        refine xS.br0 (c := .eq) (off := 10) (l := 3) rfl rfl (fun h39 => ?_) (fun h39 => ?_)
        · have g39 := xt_eq h39
          refine xS.s1 rfl rfl ?_
          try dsimp only [Nat.reduceAdd]
          refine xS.s1 rfl rfl ?_
          try dsimp only [Nat.reduceAdd]
          refine xS.s1 rfl rfl ?_
          try dsimp only [Nat.reduceAdd]
          -- 52 yX11_paneOf
          refine xS.cv rfl rfl rfl rfl rfl rfl ⟨by decide, rfl, rfl⟩ (c_X11_paneOf hb hR hk) (fun v M1 hv => ?_)
          rw [hv.1, hv.2]
          clear hv M1 v
          try dsimp only [Nat.reduceAdd, Option.toList, List.cons_append, List.nil_append, List.drop]
          refine xS.s1 rfl rfl ?_
          try dsimp only [Nat.reduceAdd]
          refine xS.gR rfl rfl rfl ⟨by decide, rfl⟩ rfl ?_
          try dsimp only [Nat.reduceAdd]
          refine xS.s1 rfl rfl ?_
          try dsimp only [Nat.reduceAdd]
          refine xS.aR rfl rfl (by decide) (by omega) (xsh1_get (by omega)) ?_
          try dsimp only [Nat.reduceAdd]
          -- 61 yX11_findSets
          refine xS.cv rfl rfl rfl rfl rfl rfl ⟨by decide, rfl, rfl⟩ (c_X11_findSets hb hR hp hbv (hR.2.2.1 s hk).2 (xce_row ht) hs (by omega) hm (by omega) (by omega)) (fun v M1 hv => ?_)
          rw [hv.1, hv.2]
          clear hv M1 v
          try dsimp only [Nat.reduceAdd, Option.toList, List.cons_append, List.nil_append, List.drop]
          refine xS.br0 (c := .ne) (off := 6) (l := 3) rfl rfl (fun h64 => ?_) (fun h64 => ?_)
          · have g64 := xt_ne h64
            refine xS.s1 rfl rfl ?_
            try dsimp only [Nat.reduceAdd]
            refine xS.gR rfl rfl rfl ⟨by decide, rfl⟩ rfl ?_
            try dsimp only [Nat.reduceAdd]
            refine xS.s1 rfl rfl ?_
            try dsimp only [Nat.reduceAdd]
            refine xS.aR rfl rfl (by decide) (by omega) (xsh1_get (by omega)) ?_
            try dsimp only [Nat.reduceAdd]
            -- 76 yX0_size
            refine xS.cv rfl rfl rfl ((xce_row (r := t) (by omega)).1 _) rfl rfl ⟨by decide, rfl, rfl⟩ (c_X0_size (xce_row ht)) (fun v M1 hv => ?_)
            rw [hv.1, hv.2, gset_na (by omega), hs]
            clear hv M1 v
            try dsimp only [Nat.reduceAdd, Option.toList, List.cons_append, List.nil_append, List.drop]
            refine xS.s1 rfl rfl ?_
            try dsimp only [Nat.reduceAdd]
            refine xS.s1 rfl rfl ?_
            try dsimp only [Nat.reduceAdd]
            refine xS.gR rfl rfl rfl ⟨by decide, rfl⟩ rfl ?_
            try dsimp only [Nat.reduceAdd]
            refine xS.s1 rfl rfl ?_
            try dsimp only [Nat.reduceAdd]
            refine xS.aR rfl rfl (by decide) (by omega) (xsh1_get (by omega)) ?_
            try dsimp only [Nat.reduceAdd]
            refine xS.s1 rfl rfl ?_
            try dsimp only [Nat.reduceAdd]
            refine xS.s1 rfl rfl ?_
            try dsimp only [Nat.reduceAdd, xi_0]
            -- 90 yX0_open
            refine xS.cv rfl rfl rfl ((xce_row (r := p) (by omega)).1 _) rfl rfl ⟨by decide, rfl, rfl⟩ (c_X0_open (xce_row hp1) (by omega)) (fun v M1 hv => ?_)
            rw [hv.1, hv.2]
            clear hv M1 v
            try dsimp only [Nat.reduceAdd, Option.toList, List.cons_append, List.nil_append, List.drop]
            refine xS.s1 rfl rfl ?_
            try dsimp only [Nat.reduceAdd, xi_0]
            refine xS.s1 rfl rfl ?_
            try dsimp only [Nat.reduceAdd]
            refine xS.pick [0, 3, 6, 1] rfl ?_
            refine xS.loop (σ := Unit) (m) (fun j S => [(6, .int (nI j)), (0, .ref 0), (3, .int (nI p)), (5, .int (nI m))]) (fun j _ => xH b (gset (gfill (up (gset g 17 m (xst (Lw s / 4) (Lw s % 4) (xB (g (b.1 + 1)) (Lw s / 4) (g (23 + 2 * t + 1))) m)) (23 + 2 * p) 1 (nI m)) (23 + 2 * p + 1) m 0) (23 + 2 * p + 1) j (fun i => nI (xlst ((xst (Lw s / 4) (Lw s % 4) (xB (g (b.1 + 1)) (Lw s / 4) (g (23 + 2 * t + 1))) m) i)))) l) (fun _ _ => True) (()) (rfl) (by rw [gset_0]) (trivial) ?_
            intro j S hj hI ih
            try dsimp only
            have ep : gset (gfill (up (gset g 17 m (xst (Lw s / 4) (Lw s % 4) (xB (g (b.1 + 1)) (Lw s / 4) (g (23 + 2 * t + 1))) m)) (23 + 2 * p) 1 (nI m)) (23 + 2 * p + 1) m 0) (23 + 2 * p + 1) j (fun i => nI (xlst ((xst (Lw s / 4) (Lw s % 4) (xB (g (b.1 + 1)) (Lw s / 4) (g (23 + 2 * t + 1))) m) i))) (23 + 2 * p) 1 = nI m := by rw [gset_na (by omega), gfill_na (by omega), up_same]
            have e17 : ∀ i, i < m → gset (gfill (up (gset g 17 m (xst (Lw s / 4) (Lw s % 4) (xB (g (b.1 + 1)) (Lw s / 4) (g (23 + 2 * t + 1))) m)) (23 + 2 * p) 1 (nI m)) (23 + 2 * p + 1) m 0) (23 + 2 * p + 1) j (fun i => nI (xlst ((xst (Lw s / 4) (Lw s % 4) (xB (g (b.1 + 1)) (Lw s / 4) (g (23 + 2 * t + 1))) m) i))) 17 i = (xst (Lw s / 4) (Lw s % 4) (xB (g (b.1 + 1)) (Lw s / 4) (g (23 + 2 * t + 1))) m) i := fun i hi => by rw [gset_na (by omega), gfill_na (by omega), up_na (by omega), gset_in hi]
            refine xS.s1 rfl rfl ?_
            try dsimp only [Nat.reduceAdd]
            refine xS.s1 rfl rfl ?_
            try dsimp only [Nat.reduceAdd]
            refine xS.br (c := .ge) (off := 37) (l := 3) rfl rfl (fun h100 => ?_) (fun h100 => ?_)
            · have g100 := xt_ge h100
              have e := xnle g100 (by omega) (by omega)
              have e2 : m = j := by omega
              subst e2
              refine xS.s1 rfl rfl ?_
              try dsimp only [Nat.reduceAdd]
              refine xS.ret rfl rfl rfl (fun _ _ => rfl) ?_
              exact ⟨rfl, rfl⟩
            · have g100 := xf_ge h100
              have hlt := xnlt g100 (by omega) (by omega)
              refine xS.s1 rfl rfl ?_
              try dsimp only [Nat.reduceAdd]
              refine xS.s1 rfl rfl ?_
              try dsimp only [Nat.reduceAdd, xj_6]
              refine xS.br (c := .ge) (off := 30) (l := 3) rfl rfl (fun h107 => ?_) (fun h107 => ?_)
              · have g107 := xt_ge h107
                exfalso; first | exact absurd g107 (by decide) | (simp (disch := omega) only [Int32.lt_iff_toInt_lt, Int32.le_iff_toInt_le, nI_toInt, Int32.reduceToInt] at g107 <;> omega)
              · have g107 := xf_ge h107
                refine xS.s1 rfl rfl ?_
                try dsimp only [Nat.reduceAdd]
                refine xS.gR rfl rfl rfl ⟨by decide, rfl⟩ rfl ?_
                try dsimp only [Nat.reduceAdd]
                refine xS.s1 rfl rfl ?_
                try dsimp only [Nat.reduceAdd]
                refine xS.aR rfl rfl (by decide) (by omega) (xsh1_get (by omega)) ?_
                try dsimp only [Nat.reduceAdd]
                refine xS.s1 rfl rfl ?_
                try dsimp only [Nat.reduceAdd]
                refine xS.s1 rfl rfl ?_
                try dsimp only [Nat.reduceAdd]
                refine xS.gR rfl rfl rfl ⟨by decide, rfl⟩ rfl ?_
                try dsimp only [Nat.reduceAdd]
                refine xS.s1 rfl rfl ?_
                try dsimp only [Nat.reduceAdd]
                refine xS.ia rfl xar_17 (by omega) ?_
                try dsimp only [Nat.reduceAdd]
                rw [e17 j hlt]
                -- 125 yX11_leastOf
                refine xS.callS rfl rfl rfl ⟨Nat.le_of_ble_eq_true rfl, rfl⟩ c_X11_leastOf (fun v M1 hv => ?_)
                rw [hv.1, hv.2]
                clear hv M1 v
                try dsimp only [Nat.reduceAdd, Option.toList, List.cons_append, List.nil_append, List.drop]
                -- 128 yX0_set
                refine xS.cv rfl rfl rfl ((xce_row (r := p) (by omega)).1 _) rfl rfl ⟨by decide, rfl, rfl⟩ (c_X0_set (xce_row hp1) ep (by omega) hlt) (fun v M1 hv => ?_)
                rw [hv.1, hv.2]
                clear hv M1 v
                try dsimp only [Nat.reduceAdd, Option.toList, List.cons_append, List.nil_append, List.drop]
                refine xS.s1 rfl rfl ?_
                try dsimp only [Nat.reduceAdd, xi_1]
                rw [nI_1]
                refine xS.s1 rfl rfl ?_
                try dsimp only [Nat.reduceAdd]
                refine xS.pick [0, 1, 2, 3] rfl ?_
                rw [gset_s (S := (fun i => nI (xlst ((xst (Lw s / 4) (Lw s % 4) (xB (g (b.1 + 1)) (Lw s / 4) (g (23 + 2 * t + 1))) m) i))))]
                exact ih () (by omega) trivial
          · have g64 := xf_ne h64
            exact absurd hnz (xif0 g64)
        · have g39 := xf_eq h39
          exfalso; first | exact absurd g39 (by decide) | (simp (disch := omega) only [Int32.lt_iff_toInt_lt, Int32.le_iff_toInt_le, nI_toInt, Int32.reduceToInt] at g39 <;> omega)
      · have g19 := xf_ne h19
        exfalso; first | exact absurd g19 (by decide) | (simp (disch := omega) only [Int32.lt_iff_toInt_lt, Int32.le_iff_toInt_le, nI_toInt, Int32.reduceToInt] at g19 <;> omega)

set_option maxRecDepth 10000 in
theorem c_X11_can_bad (hb : xro b.1) (hx : ¬ ((0 ≤ x ∧ x < g b.1 2) ∧ (0 ≤ y ∧ y < 6) ∧ 0 ≤ z)) : xT (k + 6) 104 [.ref 0, .int x, .int y, .int z] (xH b g l) (fun r M' => M' = xH b g l ∧ r = some (.int (-1))) := by
  refine xT.of rfl (Nat.le_of_ble_eq_true rfl) ?_
  change xS _ _ 0 [(0, .ref 0), (1, .int x), (2, .int y), (3, .int z)] [] _ _
  refine xS.s1 rfl rfl ?_
  try dsimp only [Nat.reduceAdd]
  refine xS.s1 rfl rfl ?_
  try dsimp only [Nat.reduceAdd]
  -- 2 yX11_isGlass
  refine xS.cv rfl rfl rfl rfl rfl rfl ⟨by decide, rfl, rfl⟩ (c_X11_isGlass hb) (fun v M1 hv => ?_)
  rw [hv.1, hv.2]
  clear hv M1 v
  try dsimp only [Nat.reduceAdd, Option.toList, List.cons_append, List.nil_append, List.drop]
  refine xS.br0 (c := .eq) (off := 14) (l := 3) rfl rfl (fun h5 => ?_) (fun h5 => ?_)
  · have g5 := xt_eq h5
    refine xS.s1 rfl rfl ?_
    try dsimp only [Nat.reduceAdd, xi_m1]
    refine xS.ret rfl rfl rfl (fun _ _ => rfl) ?_
    exact ⟨rfl, rfl⟩
  · have g5 := xf_eq h5
    refine xS.s1 rfl rfl ?_
    try dsimp only [Nat.reduceAdd]
    -- 9 yX11_isRow
    refine xS.callS rfl rfl rfl ⟨Nat.le_of_ble_eq_true rfl, rfl⟩ c_X11_isRow (fun v M1 hv => ?_)
    rw [hv.1, hv.2]
    clear hv M1 v
    try dsimp only [Nat.reduceAdd, Option.toList, List.cons_append, List.nil_append, List.drop]
    refine xS.br0 (c := .eq) (off := 7) (l := 3) rfl rfl (fun h12 => ?_) (fun h12 => ?_)
    · have g12 := xt_eq h12
      refine xS.s1 rfl rfl ?_
      try dsimp only [Nat.reduceAdd, xi_m1]
      refine xS.ret rfl rfl rfl (fun _ _ => rfl) ?_
      exact ⟨rfl, rfl⟩
    · have g12 := xf_eq h12
      refine xS.s1 rfl rfl ?_
      try dsimp only [Nat.reduceAdd]
      refine xS.br0 (c := .ge) (off := 5) (l := 3) rfl rfl (fun h16 => ?_) (fun h16 => ?_)
      · have g16 := xt_ge h16
        exact absurd ⟨xif1 g5, xif1 g12, g16⟩ hx
      · have g16 := xf_ge h16
        refine xS.s1 rfl rfl ?_
        try dsimp only [Nat.reduceAdd, xi_m1]
        refine xS.ret rfl rfl rfl (fun _ _ => rfl) ?_
        exact ⟨rfl, rfl⟩

set_option maxRecDepth 10000 in
theorem c_X11_can_ref (hb : xro b.1) (hR : xRm g b.1 G T Lw) (hk : s < G) (ht : t < 6) (hz : xsz (g (23 + 2 * t) 1) 40) (hd31 : d < 2 ^ 31) (hf : (xfos (g (23 + 2 * t) 1) (g (23 + 2 * t + 1)) 6) ≠ 0) : xT (k + 6) 104 [.ref 0, .int (nI s), .int (nI t), .int (nI d)] (xH b g l) (fun r M' => M' = xH b (xfC g (xfos (g (23 + 2 * t) 1) (g (23 + 2 * t + 1)) 6)) l ∧ r = some (.int (-3))) := by
  refine xT.of rfl (Nat.le_of_ble_eq_true rfl) ?_
  change xS _ _ 0 [(0, .ref 0), (1, .int (nI s)), (2, .int (nI t)), (3, .int (nI d))] [] _ _
  refine xS.s1 rfl rfl ?_
  try dsimp only [Nat.reduceAdd]
  refine xS.s1 rfl rfl ?_
  try dsimp only [Nat.reduceAdd]
  -- 2 yX11_isGlass
  refine xS.cv rfl rfl rfl rfl rfl rfl ⟨by decide, rfl, rfl⟩ (c_X11_isGlass_in hb hR hk) (fun v M1 hv => ?_)
  rw [hv.1, hv.2]
  clear hv M1 v
  try dsimp only [Nat.reduceAdd, Option.toList, List.cons_append, List.nil_append, List.drop]
  refine xS.br0 (c := .eq) (off := 14) (l := 3) rfl rfl (fun h5 => ?_) (fun h5 => ?_)
  · have g5 := xt_eq h5
    exfalso; first | exact absurd g5 (by decide) | (simp (disch := omega) only [Int32.lt_iff_toInt_lt, Int32.le_iff_toInt_le, nI_toInt, Int32.reduceToInt] at g5 <;> omega)
  · have g5 := xf_eq h5
    refine xS.s1 rfl rfl ?_
    try dsimp only [Nat.reduceAdd]
    -- 9 yX11_isRow
    refine xS.callS rfl rfl rfl ⟨Nat.le_of_ble_eq_true rfl, rfl⟩ (c_X11_isRow_in ht) (fun v M1 hv => ?_)
    rw [hv.1, hv.2]
    clear hv M1 v
    try dsimp only [Nat.reduceAdd, Option.toList, List.cons_append, List.nil_append, List.drop]
    refine xS.br0 (c := .eq) (off := 7) (l := 3) rfl rfl (fun h12 => ?_) (fun h12 => ?_)
    · have g12 := xt_eq h12
      exfalso; first | exact absurd g12 (by decide) | (simp (disch := omega) only [Int32.lt_iff_toInt_lt, Int32.le_iff_toInt_le, nI_toInt, Int32.reduceToInt] at g12 <;> omega)
    · have g12 := xf_eq h12
      refine xS.s1 rfl rfl ?_
      try dsimp only [Nat.reduceAdd]
      refine xS.br0 (c := .ge) (off := 5) (l := 3) rfl rfl (fun h16 => ?_) (fun h16 => ?_)
      · have g16 := xt_ge h16
        refine xS.s1 rfl rfl ?_
        try dsimp only [Nat.reduceAdd]
        refine xS.gR rfl rfl rfl ⟨by decide, rfl⟩ rfl ?_
        try dsimp only [Nat.reduceAdd]
        refine xS.s1 rfl rfl ?_
        try dsimp only [Nat.reduceAdd]
        refine xS.aR rfl rfl (by decide) (by omega) (xsh1_get (by omega)) ?_
        try dsimp only [Nat.reduceAdd]
        refine xS.s1 rfl rfl ?_
        try dsimp only [Nat.reduceAdd, xj_6]
        -- 29 yX11_findingOfSteps
        refine xS.callS rfl rfl rfl ⟨Nat.le_of_ble_eq_true rfl, rfl⟩ (c_X11_findingOfSteps (xce_row ht) hz (by decide)) (fun v M1 hv => ?_)
        rw [hv.1, hv.2]
        clear hv M1 v
        try dsimp only [Nat.reduceAdd, Option.toList, List.cons_append, List.nil_append, List.drop]
        refine xS.s1 rfl rfl ?_
        try dsimp only [Nat.reduceAdd]
        refine xS.s1 rfl rfl ?_
        try dsimp only [Nat.reduceAdd]
        refine xS.br0 (c := .eq) (off := 10) (l := 3) rfl rfl (fun h36 => ?_) (fun h36 => ?_)
        · have g36 := xt_eq h36
          exact absurd ((nI_eq (b := 0) (by have := xfos_le (g (23 + 2 * t) 1) (g (23 + 2 * t + 1)) 6; omega) (by omega)).mp g36) hf
        · have g36 := xf_eq h36
          refine xS.s1 rfl rfl ?_
          try dsimp only [Nat.reduceAdd]
          refine xS.s1 rfl rfl ?_
          try dsimp only [Nat.reduceAdd]
          -- 42 yX11_refuse
          refine xS.cv rfl rfl rfl rfl rfl rfl ⟨by decide, rfl, rfl⟩ (c_X11_refuse (t := (xfos (g (23 + 2 * t) 1) (g (23 + 2 * t + 1)) 6)) (by omega) (xfos_le _ _ _)) (fun v M1 hv => ?_)
          rw [hv.1, hv.2]
          clear hv M1 v
          try dsimp only [Nat.reduceAdd, Option.toList, List.cons_append, List.nil_append, List.drop]
          refine xS.ret rfl rfl rfl (fun _ _ => rfl) ?_
          exact ⟨rfl, rfl⟩
      · have g16 := xf_ge h16
        exfalso; first | exact absurd g16 (by decide) | (simp (disch := omega) only [Int32.lt_iff_toInt_lt, Int32.le_iff_toInt_le, nI_toInt, Int32.reduceToInt] at g16 <;> omega)

set_option maxRecDepth 10000 in
theorem c_X11_can_bad2 (hb : xro b.1) (hR : xRm g b.1 G T Lw) (hk : s < G) (ht : t < 6) (hs : g (23 + 2 * t) 1 = nI m) (hm : m ≤ 6) (hf : xfos (g (23 + 2 * t) 1) (g (23 + 2 * t + 1)) 6 = 0) (hx : ∀ i, i < m → xstp (g (23 + 2 * t + 1) i)) (hd31 : d < 2 ^ 31) (hd : ¬ d < m) : xT (k + 6) 104 [.ref 0, .int (nI s), .int (nI t), .int (nI d)] (xH b g l) (fun r M' => M' = xH b g l ∧ r = some (.int (-1))) := by
  have hz : xsz (g (23 + 2 * t) 1) 40 := Or.inr ⟨m, by omega, hs⟩
  refine xT.of rfl (Nat.le_of_ble_eq_true rfl) ?_
  change xS _ _ 0 [(0, .ref 0), (1, .int (nI s)), (2, .int (nI t)), (3, .int (nI d))] [] _ _
  refine xS.s1 rfl rfl ?_
  try dsimp only [Nat.reduceAdd]
  refine xS.s1 rfl rfl ?_
  try dsimp only [Nat.reduceAdd]
  -- 2 yX11_isGlass
  refine xS.cv rfl rfl rfl rfl rfl rfl ⟨by decide, rfl, rfl⟩ (c_X11_isGlass_in hb hR hk) (fun v M1 hv => ?_)
  rw [hv.1, hv.2]
  clear hv M1 v
  try dsimp only [Nat.reduceAdd, Option.toList, List.cons_append, List.nil_append, List.drop]
  refine xS.br0 (c := .eq) (off := 14) (l := 3) rfl rfl (fun h5 => ?_) (fun h5 => ?_)
  · have g5 := xt_eq h5
    exfalso; first | exact absurd g5 (by decide) | (simp (disch := omega) only [Int32.lt_iff_toInt_lt, Int32.le_iff_toInt_le, nI_toInt, Int32.reduceToInt] at g5 <;> omega)
  · have g5 := xf_eq h5
    refine xS.s1 rfl rfl ?_
    try dsimp only [Nat.reduceAdd]
    -- 9 yX11_isRow
    refine xS.callS rfl rfl rfl ⟨Nat.le_of_ble_eq_true rfl, rfl⟩ (c_X11_isRow_in ht) (fun v M1 hv => ?_)
    rw [hv.1, hv.2]
    clear hv M1 v
    try dsimp only [Nat.reduceAdd, Option.toList, List.cons_append, List.nil_append, List.drop]
    refine xS.br0 (c := .eq) (off := 7) (l := 3) rfl rfl (fun h12 => ?_) (fun h12 => ?_)
    · have g12 := xt_eq h12
      exfalso; first | exact absurd g12 (by decide) | (simp (disch := omega) only [Int32.lt_iff_toInt_lt, Int32.le_iff_toInt_le, nI_toInt, Int32.reduceToInt] at g12 <;> omega)
    · have g12 := xf_eq h12
      refine xS.s1 rfl rfl ?_
      try dsimp only [Nat.reduceAdd]
      refine xS.br0 (c := .ge) (off := 5) (l := 3) rfl rfl (fun h16 => ?_) (fun h16 => ?_)
      · have g16 := xt_ge h16
        refine xS.s1 rfl rfl ?_
        try dsimp only [Nat.reduceAdd]
        refine xS.gR rfl rfl rfl ⟨by decide, rfl⟩ rfl ?_
        try dsimp only [Nat.reduceAdd]
        refine xS.s1 rfl rfl ?_
        try dsimp only [Nat.reduceAdd]
        refine xS.aR rfl rfl (by decide) (by omega) (xsh1_get (by omega)) ?_
        try dsimp only [Nat.reduceAdd]
        refine xS.s1 rfl rfl ?_
        try dsimp only [Nat.reduceAdd, xj_6]
        -- 29 yX11_findingOfSteps
        refine xS.callS rfl rfl rfl ⟨Nat.le_of_ble_eq_true rfl, rfl⟩ (c_X11_findingOfSteps (xce_row ht) hz (by decide)) (fun v M1 hv => ?_)
        rw [hv.1, hv.2, hf]
        clear hv M1 v
        try dsimp only [Nat.reduceAdd, Option.toList, List.cons_append, List.nil_append, List.drop]
        refine xS.s1 rfl rfl ?_
        try dsimp only [Nat.reduceAdd]
        refine xS.s1 rfl rfl ?_
        try dsimp only [Nat.reduceAdd]
        refine xS.br0 (c := .eq) (off := 10) (l := 3) rfl rfl (fun h36 => ?_) (fun h36 => ?_)
        · have g36 := xt_eq h36
          refine xS.s1 rfl rfl ?_
          try dsimp only [Nat.reduceAdd]
          refine xS.gR rfl rfl rfl ⟨by decide, rfl⟩ rfl ?_
          try dsimp only [Nat.reduceAdd]
          refine xS.s1 rfl rfl ?_
          try dsimp only [Nat.reduceAdd]
          refine xS.aR rfl rfl (by decide) (by omega) (xsh1_get (by omega)) ?_
          try dsimp only [Nat.reduceAdd]
          refine xS.s1 rfl rfl ?_
          try dsimp only [Nat.reduceAdd]
          -- 53 yX0_has
          refine xS.cv rfl rfl rfl ((xce_row (r := t) (by omega)).1 _) rfl rfl ⟨by decide, rfl, rfl⟩ (c_X0_has (xce_row ht)) (fun v M1 hv => ?_)
          rw [hv.1, hv.2]
          clear hv M1 v
          try dsimp only [Nat.reduceAdd, Option.toList, List.cons_append, List.nil_append, List.drop]
          refine xS.br0 (c := .eq) (off := 9) (l := 3) rfl rfl (fun h56 => ?_) (fun h56 => ?_)
          · have g56 := xt_eq h56
            refine xS.s1 rfl rfl ?_
            try dsimp only [Nat.reduceAdd, xi_m1]
            refine xS.ret rfl rfl rfl (fun _ _ => rfl) ?_
            exact ⟨rfl, rfl⟩
          · have g56 := xf_eq h56
            refine xS.s1 rfl rfl ?_
            try dsimp only [Nat.reduceAdd]
            refine xS.s1 rfl rfl ?_
            try dsimp only [Nat.reduceAdd, xj_6]
            refine xS.br (c := .lt) (off := 5) (l := 3) rfl rfl (fun h62 => ?_) (fun h62 => ?_)
            · have g62 := xt_lt h62
              exact absurd ((nI_ltI hd31 (by omega)).mp (by rw [← hs]; exact (xif1 g56).2.1)) hd
            · have g62 := xf_lt h62
              refine xS.s1 rfl rfl ?_
              try dsimp only [Nat.reduceAdd, xi_m1]
              refine xS.ret rfl rfl rfl (fun _ _ => rfl) ?_
              exact ⟨rfl, rfl⟩
        · have g36 := xf_eq h36
          exfalso; first | exact absurd g36 (by decide) | (simp (disch := omega) only [Int32.lt_iff_toInt_lt, Int32.le_iff_toInt_le, nI_toInt, Int32.reduceToInt] at g36 <;> omega)
      · have g16 := xf_ge h16
        exfalso; first | exact absurd g16 (by decide) | (simp (disch := omega) only [Int32.lt_iff_toInt_lt, Int32.le_iff_toInt_le, nI_toInt, Int32.reduceToInt] at g16 <;> omega)

set_option maxRecDepth 10000 in
theorem c_X11_can_ok (hb : xro b.1) (hR : xRm g b.1 G T Lw) (hp : xpn g) (hbv : b.1 = 7 ∨ b.1 = 11) (hk : s < G) (ht : t < 6) (hs : g (23 + 2 * t) 1 = nI m) (hm : m ≤ 6) (hf : xfos (g (23 + 2 * t) 1) (g (23 + 2 * t + 1)) 6 = 0) (hx : ∀ i, i < m → xstp (g (23 + 2 * t + 1) i)) (hd : d < m) : xT (k + 6) 104 [.ref 0, .int (nI s), .int (nI t), .int (nI d)] (xH b g l) (fun r M' => M' = xH b (gset g 17 m (xst (Lw s / 4) (Lw s % 4) (xB (g (b.1 + 1)) (Lw s / 4) (g (23 + 2 * t + 1))) m)) l ∧ r = some (.int (if (xnz (xst (Lw s / 4) (Lw s % 4) (xB (g (b.1 + 1)) (Lw s / 4) (g (23 + 2 * t + 1))) m) m (xps (Lw s / 4) (Lw s % 4) (g (23 + 2 * t + 1)) m)) = true then (xst (Lw s / 4) (Lw s % 4) (xB (g (b.1 + 1)) (Lw s / 4) (g (23 + 2 * t + 1))) m) d else 0))) := by
  have hz : xsz (g (23 + 2 * t) 1) 40 := Or.inr ⟨m, by omega, hs⟩
  refine xT.of rfl (Nat.le_of_ble_eq_true rfl) ?_
  change xS _ _ 0 [(0, .ref 0), (1, .int (nI s)), (2, .int (nI t)), (3, .int (nI d))] [] _ _
  refine xS.s1 rfl rfl ?_
  try dsimp only [Nat.reduceAdd]
  refine xS.s1 rfl rfl ?_
  try dsimp only [Nat.reduceAdd]
  -- 2 yX11_isGlass
  refine xS.cv rfl rfl rfl rfl rfl rfl ⟨by decide, rfl, rfl⟩ (c_X11_isGlass_in hb hR hk) (fun v M1 hv => ?_)
  rw [hv.1, hv.2]
  clear hv M1 v
  try dsimp only [Nat.reduceAdd, Option.toList, List.cons_append, List.nil_append, List.drop]
  refine xS.br0 (c := .eq) (off := 14) (l := 3) rfl rfl (fun h5 => ?_) (fun h5 => ?_)
  · have g5 := xt_eq h5
    exfalso; first | exact absurd g5 (by decide) | (simp (disch := omega) only [Int32.lt_iff_toInt_lt, Int32.le_iff_toInt_le, nI_toInt, Int32.reduceToInt] at g5 <;> omega)
  · have g5 := xf_eq h5
    refine xS.s1 rfl rfl ?_
    try dsimp only [Nat.reduceAdd]
    -- 9 yX11_isRow
    refine xS.callS rfl rfl rfl ⟨Nat.le_of_ble_eq_true rfl, rfl⟩ (c_X11_isRow_in ht) (fun v M1 hv => ?_)
    rw [hv.1, hv.2]
    clear hv M1 v
    try dsimp only [Nat.reduceAdd, Option.toList, List.cons_append, List.nil_append, List.drop]
    refine xS.br0 (c := .eq) (off := 7) (l := 3) rfl rfl (fun h12 => ?_) (fun h12 => ?_)
    · have g12 := xt_eq h12
      exfalso; first | exact absurd g12 (by decide) | (simp (disch := omega) only [Int32.lt_iff_toInt_lt, Int32.le_iff_toInt_le, nI_toInt, Int32.reduceToInt] at g12 <;> omega)
    · have g12 := xf_eq h12
      refine xS.s1 rfl rfl ?_
      try dsimp only [Nat.reduceAdd]
      refine xS.br0 (c := .ge) (off := 5) (l := 3) rfl rfl (fun h16 => ?_) (fun h16 => ?_)
      · have g16 := xt_ge h16
        refine xS.s1 rfl rfl ?_
        try dsimp only [Nat.reduceAdd]
        refine xS.gR rfl rfl rfl ⟨by decide, rfl⟩ rfl ?_
        try dsimp only [Nat.reduceAdd]
        refine xS.s1 rfl rfl ?_
        try dsimp only [Nat.reduceAdd]
        refine xS.aR rfl rfl (by decide) (by omega) (xsh1_get (by omega)) ?_
        try dsimp only [Nat.reduceAdd]
        refine xS.s1 rfl rfl ?_
        try dsimp only [Nat.reduceAdd, xj_6]
        -- 29 yX11_findingOfSteps
        refine xS.callS rfl rfl rfl ⟨Nat.le_of_ble_eq_true rfl, rfl⟩ (c_X11_findingOfSteps (xce_row ht) hz (by decide)) (fun v M1 hv => ?_)
        rw [hv.1, hv.2, hf]
        clear hv M1 v
        try dsimp only [Nat.reduceAdd, Option.toList, List.cons_append, List.nil_append, List.drop]
        refine xS.s1 rfl rfl ?_
        try dsimp only [Nat.reduceAdd]
        refine xS.s1 rfl rfl ?_
        try dsimp only [Nat.reduceAdd]
        refine xS.br0 (c := .eq) (off := 10) (l := 3) rfl rfl (fun h36 => ?_) (fun h36 => ?_)
        · have g36 := xt_eq h36
          refine xS.s1 rfl rfl ?_
          try dsimp only [Nat.reduceAdd]
          refine xS.gR rfl rfl rfl ⟨by decide, rfl⟩ rfl ?_
          try dsimp only [Nat.reduceAdd]
          refine xS.s1 rfl rfl ?_
          try dsimp only [Nat.reduceAdd]
          refine xS.aR rfl rfl (by decide) (by omega) (xsh1_get (by omega)) ?_
          try dsimp only [Nat.reduceAdd]
          refine xS.s1 rfl rfl ?_
          try dsimp only [Nat.reduceAdd]
          -- 53 yX0_has
          refine xS.cv rfl rfl rfl ((xce_row (r := t) (by omega)).1 _) rfl rfl ⟨by decide, rfl, rfl⟩ (c_X0_has_in (xce_row ht) hs (by omega) hd) (fun v M1 hv => ?_)
          rw [hv.1, hv.2]
          clear hv M1 v
          try dsimp only [Nat.reduceAdd, Option.toList, List.cons_append, List.nil_append, List.drop]
          refine xS.br0 (c := .eq) (off := 9) (l := 3) rfl rfl (fun h56 => ?_) (fun h56 => ?_)
          · have g56 := xt_eq h56
            exfalso; first | exact absurd g56 (by decide) | (simp (disch := omega) only [Int32.lt_iff_toInt_lt, Int32.le_iff_toInt_le, nI_toInt, Int32.reduceToInt] at g56 <;> omega)
          · have g56 := xf_eq h56
            refine xS.s1 rfl rfl ?_
            try dsimp only [Nat.reduceAdd]
            refine xS.s1 rfl rfl ?_
            try dsimp only [Nat.reduceAdd, xj_6]
            refine xS.br (c := .lt) (off := 5) (l := 3) rfl rfl (fun h62 => ?_) (fun h62 => ?_)
            · have g62 := xt_lt h62
              refine xS.s1 rfl rfl ?_
              try dsimp only [Nat.reduceAdd]
              refine xS.s1 rfl rfl ?_
              try dsimp only [Nat.reduceAdd]
              refine xS.s1 rfl rfl ?_
              try dsimp only [Nat.reduceAdd]
              -- 70 yX11_paneOf
              refine xS.cv rfl rfl rfl rfl rfl rfl ⟨by decide, rfl, rfl⟩ (c_X11_paneOf hb hR hk) (fun v M1 hv => ?_)
              rw [hv.1, hv.2]
              clear hv M1 v
              try dsimp only [Nat.reduceAdd, Option.toList, List.cons_append, List.nil_append, List.drop]
              refine xS.s1 rfl rfl ?_
              try dsimp only [Nat.reduceAdd]
              refine xS.gR rfl rfl rfl ⟨by decide, rfl⟩ rfl ?_
              try dsimp only [Nat.reduceAdd]
              refine xS.s1 rfl rfl ?_
              try dsimp only [Nat.reduceAdd]
              refine xS.aR rfl rfl (by decide) (by omega) (xsh1_get (by omega)) ?_
              try dsimp only [Nat.reduceAdd]
              -- 79 yX11_findSets
              refine xS.cv rfl rfl rfl rfl rfl rfl ⟨by decide, rfl, rfl⟩ (c_X11_findSets hb hR hp hbv (hR.2.2.1 s hk).2 (xce_row ht) hs (by omega) hm (by omega) (by omega)) (fun v M1 hv => ?_)
              rw [hv.1, hv.2]
              clear hv M1 v
              try dsimp only [Nat.reduceAdd, Option.toList, List.cons_append, List.nil_append, List.drop]
              refine xS.br0 (c := .eq) (off := 12) (l := 3) rfl rfl (fun h82 => ?_) (fun h82 => ?_)
              · have g82 := xt_eq h82
                refine xS.s1 rfl rfl ?_
                try dsimp only [Nat.reduceAdd, xi_0]
                refine xS.ret rfl rfl rfl (fun _ _ => rfl) ?_
                rw [if_neg (xif0 g82)]
                exact ⟨rfl, rfl⟩
              · have g82 := xf_eq h82
                refine xS.s1 rfl rfl ?_
                try dsimp only [Nat.reduceAdd]
                refine xS.gR rfl rfl rfl ⟨by decide, rfl⟩ rfl ?_
                try dsimp only [Nat.reduceAdd]
                refine xS.s1 rfl rfl ?_
                try dsimp only [Nat.reduceAdd]
                refine xS.ia rfl xar_17 (by omega) ?_
                try dsimp only [Nat.reduceAdd]
                refine xS.s1 rfl rfl ?_
                try dsimp only [Nat.reduceAdd]
                refine xS.ret rfl rfl rfl (fun _ _ => rfl) ?_
                rw [if_pos (xif1 g82), gset_in hd]
                exact ⟨rfl, rfl⟩
            · have g62 := xf_lt h62
              exfalso; first | exact absurd g62 (by decide) | (simp (disch := omega) only [Int32.lt_iff_toInt_lt, Int32.le_iff_toInt_le, nI_toInt, Int32.reduceToInt] at g62 <;> omega)
        · have g36 := xf_eq h36
          exfalso; first | exact absurd g36 (by decide) | (simp (disch := omega) only [Int32.lt_iff_toInt_lt, Int32.le_iff_toInt_le, nI_toInt, Int32.reduceToInt] at g36 <;> omega)
      · have g16 := xf_ge h16
        exfalso; first | exact absurd g16 (by decide) | (simp (disch := omega) only [Int32.lt_iff_toInt_lt, Int32.le_iff_toInt_le, nI_toInt, Int32.reduceToInt] at g16 <;> omega)

set_option maxRecDepth 10000 in
theorem c_X11_laws_ok (hb : xro b.1) (hR : xRm g b.1 G T Lw) (hp : xpn g) (ht : t < 6) (hp1 : p < 6) (hs : g (23 + 2 * t) 1 = nI m) (hs2 : g (23 + 2 * p) 1 = nI m) (hm : m ≤ 12) (hf : xfop (g (23 + 2 * t) 1) (g (23 + 2 * t + 1)) (g (23 + 2 * p) 1) (g (23 + 2 * p + 1)) 12 = 0) (hx : ∀ i, i < m → xstp (g (23 + 2 * t + 1) i)) (hx2 : ∀ i, i < m → xstp (g (23 + 2 * p + 1) i)) : xT (k + 7) 105 [.ref 0, .int (nI t), .int (nI p)] (xH b g l) (fun r M' => M' = xH b g l ∧ r = some (.int ((xbits (fun j => decide (xfst (fun i => !decide (xshw (g (b.1 + 1)) (j / 4) (j % 4) (fun i => xN (g (23 + 2 * t + 1) i)) i = g (23 + 2 * p + 1) i)) m = none)) 24)))) := by
  have hz : xsz (g (23 + 2 * t) 1) 40 := Or.inr ⟨m, by omega, hs⟩
  have hz2 : xsz (g (23 + 2 * p) 1) 40 := Or.inr ⟨m, by omega, hs2⟩
  refine xT.of rfl (Nat.le_of_ble_eq_true rfl) ?_
  change xS _ _ 0 [(0, .ref 0), (1, .int (nI t)), (2, .int (nI p))] [] _ _
  refine xS.s1 rfl rfl ?_
  try dsimp only [Nat.reduceAdd]
  -- 1 yX11_isRow
  refine xS.callS rfl rfl rfl ⟨Nat.le_of_ble_eq_true rfl, rfl⟩ (c_X11_isRow_in ht) (fun v M1 hv => ?_)
  rw [hv.1, hv.2]
  clear hv M1 v
  try dsimp only [Nat.reduceAdd, Option.toList, List.cons_append, List.nil_append, List.drop]
  refine xS.br0 (c := .eq) (off := 10) (l := 3) rfl rfl (fun h4 => ?_) (fun h4 => ?_)
  · have g4 := xt_eq h4
    exfalso; first | exact absurd g4 (by decide) | (simp (disch := omega) only [Int32.lt_iff_toInt_lt, Int32.le_iff_toInt_le, nI_toInt, Int32.reduceToInt] at g4 <;> omega)
  · have g4 := xf_eq h4
    refine xS.s1 rfl rfl ?_
    try dsimp only [Nat.reduceAdd]
    -- 8 yX11_isRow
    refine xS.callS rfl rfl rfl ⟨Nat.le_of_ble_eq_true rfl, rfl⟩ (c_X11_isRow_in hp1) (fun v M1 hv => ?_)
    rw [hv.1, hv.2]
    clear hv M1 v
    try dsimp only [Nat.reduceAdd, Option.toList, List.cons_append, List.nil_append, List.drop]
    refine xS.br0 (c := .ne) (off := 5) (l := 3) rfl rfl (fun h11 => ?_) (fun h11 => ?_)
    · have g11 := xt_ne h11
      refine xS.s1 rfl rfl ?_
      try dsimp only [Nat.reduceAdd]
      refine xS.gR rfl rfl rfl ⟨by decide, rfl⟩ rfl ?_
      try dsimp only [Nat.reduceAdd]
      refine xS.s1 rfl rfl ?_
      try dsimp only [Nat.reduceAdd]
      refine xS.aR rfl rfl (by decide) (by omega) (xsh1_get (by omega)) ?_
      try dsimp only [Nat.reduceAdd]
      refine xS.s1 rfl rfl ?_
      try dsimp only [Nat.reduceAdd]
      refine xS.gR rfl rfl rfl ⟨by decide, rfl⟩ rfl ?_
      try dsimp only [Nat.reduceAdd]
      refine xS.s1 rfl rfl ?_
      try dsimp only [Nat.reduceAdd]
      refine xS.aR rfl rfl (by decide) (by omega) (xsh1_get (by omega)) ?_
      try dsimp only [Nat.reduceAdd]
      refine xS.s1 rfl rfl ?_
      try dsimp only [Nat.reduceAdd, xj_12]
      -- 30 yX11_findingOfPair
      refine xS.callS rfl rfl rfl ⟨Nat.le_of_ble_eq_true rfl, rfl⟩ (c_X11_findingOfPair (xce_row ht) hz (xce_row hp1) hz2 (by decide)) (fun v M1 hv => ?_)
      rw [hv.1, hv.2, hf]
      clear hv M1 v
      try dsimp only [Nat.reduceAdd, Option.toList, List.cons_append, List.nil_append, List.drop]
      refine xS.s1 rfl rfl ?_
      try dsimp only [Nat.reduceAdd]
      refine xS.s1 rfl rfl ?_
      try dsimp only [Nat.reduceAdd]
      refine xS.br0 (c := .eq) (off := 9) (l := 3) rfl rfl (fun h35 => ?_) (fun h35 => ?_)
      · have g35 := xt_eq h35
        refine xS.s1 rfl rfl ?_
        try dsimp only [Nat.reduceAdd]
        refine xS.s1 rfl rfl ?_
        try dsimp only [Nat.reduceAdd]
        refine xS.gR rfl rfl rfl ⟨by decide, rfl⟩ rfl ?_
        try dsimp only [Nat.reduceAdd]
        refine xS.s1 rfl rfl ?_
        try dsimp only [Nat.reduceAdd]
        refine xS.aR rfl rfl (by decide) (by omega) (xsh1_get (by omega)) ?_
        try dsimp only [Nat.reduceAdd]
        refine xS.s1 rfl rfl ?_
        try dsimp only [Nat.reduceAdd]
        refine xS.gR rfl rfl rfl ⟨by decide, rfl⟩ rfl ?_
        try dsimp only [Nat.reduceAdd]
        refine xS.s1 rfl rfl ?_
        try dsimp only [Nat.reduceAdd]
        refine xS.aR rfl rfl (by decide) (by omega) (xsh1_get (by omega)) ?_
        try dsimp only [Nat.reduceAdd]
        -- 57 yX11_lawsOf
        refine xS.cv rfl rfl rfl rfl rfl rfl ⟨by decide, rfl, rfl⟩ (c_X11_lawsOf hb hR hp (xce_row ht) hs (by omega) hx (xce_row hp1) hs2 (by omega)) (fun v M1 hv => ?_)
        rw [hv.1, hv.2]
        clear hv M1 v
        try dsimp only [Nat.reduceAdd, Option.toList, List.cons_append, List.nil_append, List.drop]
        refine xS.ret rfl rfl rfl (fun _ _ => rfl) ?_
        exact ⟨rfl, rfl⟩
      · have g35 := xf_eq h35
        exfalso; first | exact absurd g35 (by decide) | (simp (disch := omega) only [Int32.lt_iff_toInt_lt, Int32.le_iff_toInt_le, nI_toInt, Int32.reduceToInt] at g35 <;> omega)
    · have g11 := xf_ne h11
      exfalso; first | exact absurd g11 (by decide) | (simp (disch := omega) only [Int32.lt_iff_toInt_lt, Int32.le_iff_toInt_le, nI_toInt, Int32.reduceToInt] at g11 <;> omega)

set_option maxRecDepth 10000 in
theorem c_X11_next_none (hb : xro b.1) (hR : xRm g b.1 G T Lw) (hp : xpn g) (ht : t < 6) (hp1 : p < 6) (hs : g (23 + 2 * t) 1 = nI m) (hs2 : g (23 + 2 * p) 1 = nI m) (hm : m ≤ 11) (hf : xfop (g (23 + 2 * t) 1) (g (23 + 2 * t + 1)) (g (23 + 2 * p) 1) (g (23 + 2 * p + 1)) 11 = 0) (hx : ∀ i, i < m → xstp (g (23 + 2 * t + 1) i)) (hx2 : ∀ i, i < m → xstp (g (23 + 2 * p + 1) i)) (hbc : xbc (xbits (fun j => decide (xfst (fun i => !decide (xshw (g (b.1 + 1)) (j / 4) (j % 4) (fun i => xN (g (23 + 2 * t + 1) i)) i = g (23 + 2 * p + 1) i)) m = none)) 24) < 2) : xT (k + 7) 106 [.ref 0, .int (nI t), .int (nI p)] (xH b g l) (fun r M' => M' = xH b g l ∧ r = some (.int (-9))) := by
  have hz : xsz (g (23 + 2 * t) 1) 40 := Or.inr ⟨m, by omega, hs⟩
  have hz2 : xsz (g (23 + 2 * p) 1) 40 := Or.inr ⟨m, by omega, hs2⟩
  refine xT.of rfl (Nat.le_of_ble_eq_true rfl) ?_
  change xS _ _ 0 [(0, .ref 0), (1, .int (nI t)), (2, .int (nI p))] [] _ _
  refine xS.s1 rfl rfl ?_
  try dsimp only [Nat.reduceAdd]
  -- 1 yX11_isRow
  refine xS.callS rfl rfl rfl ⟨Nat.le_of_ble_eq_true rfl, rfl⟩ (c_X11_isRow_in ht) (fun v M1 hv => ?_)
  rw [hv.1, hv.2]
  clear hv M1 v
  try dsimp only [Nat.reduceAdd, Option.toList, List.cons_append, List.nil_append, List.drop]
  refine xS.br0 (c := .eq) (off := 10) (l := 3) rfl rfl (fun h4 => ?_) (fun h4 => ?_)
  · have g4 := xt_eq h4
    exfalso; first | exact absurd g4 (by decide) | (simp (disch := omega) only [Int32.lt_iff_toInt_lt, Int32.le_iff_toInt_le, nI_toInt, Int32.reduceToInt] at g4 <;> omega)
  · have g4 := xf_eq h4
    refine xS.s1 rfl rfl ?_
    try dsimp only [Nat.reduceAdd]
    -- 8 yX11_isRow
    refine xS.callS rfl rfl rfl ⟨Nat.le_of_ble_eq_true rfl, rfl⟩ (c_X11_isRow_in hp1) (fun v M1 hv => ?_)
    rw [hv.1, hv.2]
    clear hv M1 v
    try dsimp only [Nat.reduceAdd, Option.toList, List.cons_append, List.nil_append, List.drop]
    refine xS.br0 (c := .ne) (off := 5) (l := 3) rfl rfl (fun h11 => ?_) (fun h11 => ?_)
    · have g11 := xt_ne h11
      refine xS.s1 rfl rfl ?_
      try dsimp only [Nat.reduceAdd]
      refine xS.gR rfl rfl rfl ⟨by decide, rfl⟩ rfl ?_
      try dsimp only [Nat.reduceAdd]
      refine xS.s1 rfl rfl ?_
      try dsimp only [Nat.reduceAdd]
      refine xS.aR rfl rfl (by decide) (by omega) (xsh1_get (by omega)) ?_
      try dsimp only [Nat.reduceAdd]
      refine xS.s1 rfl rfl ?_
      try dsimp only [Nat.reduceAdd]
      refine xS.gR rfl rfl rfl ⟨by decide, rfl⟩ rfl ?_
      try dsimp only [Nat.reduceAdd]
      refine xS.s1 rfl rfl ?_
      try dsimp only [Nat.reduceAdd]
      refine xS.aR rfl rfl (by decide) (by omega) (xsh1_get (by omega)) ?_
      try dsimp only [Nat.reduceAdd]
      refine xS.s1 rfl rfl ?_
      try dsimp only [Nat.reduceAdd, xj_11]
      -- 30 yX11_findingOfPair
      refine xS.callS rfl rfl rfl ⟨Nat.le_of_ble_eq_true rfl, rfl⟩ (c_X11_findingOfPair (xce_row ht) hz (xce_row hp1) hz2 (by decide)) (fun v M1 hv => ?_)
      rw [hv.1, hv.2, hf]
      clear hv M1 v
      try dsimp only [Nat.reduceAdd, Option.toList, List.cons_append, List.nil_append, List.drop]
      refine xS.s1 rfl rfl ?_
      try dsimp only [Nat.reduceAdd]
      refine xS.s1 rfl rfl ?_
      try dsimp only [Nat.reduceAdd]
      refine xS.br0 (c := .eq) (off := 9) (l := 3) rfl rfl (fun h35 => ?_) (fun h35 => ?_)
      · have g35 := xt_eq h35
        refine xS.s1 rfl rfl ?_
        try dsimp only [Nat.reduceAdd]
        refine xS.s1 rfl rfl ?_
        try dsimp only [Nat.reduceAdd]
        refine xS.gR rfl rfl rfl ⟨by decide, rfl⟩ rfl ?_
        try dsimp only [Nat.reduceAdd]
        refine xS.s1 rfl rfl ?_
        try dsimp only [Nat.reduceAdd]
        refine xS.aR rfl rfl (by decide) (by omega) (xsh1_get (by omega)) ?_
        try dsimp only [Nat.reduceAdd]
        refine xS.s1 rfl rfl ?_
        try dsimp only [Nat.reduceAdd]
        refine xS.gR rfl rfl rfl ⟨by decide, rfl⟩ rfl ?_
        try dsimp only [Nat.reduceAdd]
        refine xS.s1 rfl rfl ?_
        try dsimp only [Nat.reduceAdd]
        refine xS.aR rfl rfl (by decide) (by omega) (xsh1_get (by omega)) ?_
        try dsimp only [Nat.reduceAdd]
        -- 57 yX11_lawsOf
        refine xS.cv rfl rfl rfl rfl rfl rfl ⟨by decide, rfl, rfl⟩ (c_X11_lawsOf hb hR hp (xce_row ht) hs (by omega) hx (xce_row hp1) hs2 (by omega)) (fun v M1 hv => ?_)
        rw [hv.1, hv.2]
        clear hv M1 v
        try dsimp only [Nat.reduceAdd, Option.toList, List.cons_append, List.nil_append, List.drop]
        refine xS.s1 rfl rfl ?_
        try dsimp only [Nat.reduceAdd]
        refine xS.s1 rfl rfl ?_
        try dsimp only [Nat.reduceAdd]
        -- 64 yJ6_bitCount_0f7a4
        refine xS.callS rfl rfl rfl ⟨Nat.le_of_ble_eq_true rfl, rfl⟩ c_J6_bitCount (fun v M1 hv => ?_)
        rw [hv.1, hv.2]
        clear hv M1 v
        try dsimp only [Nat.reduceAdd, Option.toList, List.cons_append, List.nil_append, List.drop]
        refine xS.s1 rfl rfl ?_
        try dsimp only [Nat.reduceAdd, xi_2]
        refine xS.br (c := .ge) (off := 6) (l := 3) rfl rfl (fun h68 => ?_) (fun h68 => ?_)
        · have g68 := xt_ge h68
          exact absurd hbc (Int32.not_lt.mpr g68)
        · have g68 := xf_ge h68
          refine xS.s1 rfl rfl ?_
          try dsimp only [Nat.reduceAdd, xj_m9]
          refine xS.ret rfl rfl rfl (fun _ _ => rfl) ?_
          exact ⟨rfl, rfl⟩
      · have g35 := xf_eq h35
        exfalso; first | exact absurd g35 (by decide) | (simp (disch := omega) only [Int32.lt_iff_toInt_lt, Int32.le_iff_toInt_le, nI_toInt, Int32.reduceToInt] at g35 <;> omega)
    · have g11 := xf_ne h11
      exfalso; first | exact absurd g11 (by decide) | (simp (disch := omega) only [Int32.lt_iff_toInt_lt, Int32.le_iff_toInt_le, nI_toInt, Int32.reduceToInt] at g11 <;> omega)

set_option maxRecDepth 10000 in
theorem c_X11_next_ok (hb : xro b.1) (hR : xRm g b.1 G T Lw) (hp : xpn g) (hbv : b.1 = 7 ∨ b.1 = 11) (ht : t < 6) (hp1 : p < 6) (hs : g (23 + 2 * t) 1 = nI m) (hs2 : g (23 + 2 * p) 1 = nI m) (hm : m ≤ 11) (hf : xfop (g (23 + 2 * t) 1) (g (23 + 2 * t + 1)) (g (23 + 2 * p) 1) (g (23 + 2 * p + 1)) 11 = 0) (hx : ∀ i, i < m → xstp (g (23 + 2 * t + 1) i)) (hx2 : ∀ i, i < m → xstp (g (23 + 2 * p + 1) i)) (hbc : ¬ xbc (xbits (fun j => decide (xfst (fun i => !decide (xshw (g (b.1 + 1)) (j / 4) (j % 4) (fun i => xN (g (23 + 2 * t + 1) i)) i = g (23 + 2 * p + 1) i)) m = none)) 24) < 2) : xT (k + 7) 106 [.ref 0, .int (nI t), .int (nI p)] (xH b g l) (fun r M' => ∃ S, ((∀ a, a ≠ 15 → a ≠ 16 → a ≠ 18 → S a = g a) ∧ S 15 1 = nI (m + 1) ∧ (∀ i, i < m → S 16 i = g (23 + 2 * t + 1) i)) ∧ M' = xH b (up S 0 11 (nI (xnx (fun s => xmx (fun j => decide (((xbits (fun j => decide (xfst (fun i => !decide (xshw (g (b.1 + 1)) (j / 4) (j % 4) (fun i => xN (g (23 + 2 * t + 1) i)) i = g (23 + 2 * p + 1) i)) m = none)) 24) >>> (nI j &&& 31)) &&& 1 = 1)) (fun q => xN (xshw (g (b.1 + 1)) (q / 4) (q % 4) (fup (fun i => xN (g (23 + 2 * t + 1) i)) m s) m)) 24) 6).1)) l ∧ r = some (.int (nI (xnx (fun s => xmx (fun j => decide (((xbits (fun j => decide (xfst (fun i => !decide (xshw (g (b.1 + 1)) (j / 4) (j % 4) (fun i => xN (g (23 + 2 * t + 1) i)) i = g (23 + 2 * p + 1) i)) m = none)) 24) >>> (nI j &&& 31)) &&& 1 = 1)) (fun q => xN (xshw (g (b.1 + 1)) (q / 4) (q % 4) (fup (fun i => xN (g (23 + 2 * t + 1) i)) m s) m)) 24) 6).2))) := by
  have hz : xsz (g (23 + 2 * t) 1) 40 := Or.inr ⟨m, by omega, hs⟩
  have hz2 : xsz (g (23 + 2 * p) 1) 40 := Or.inr ⟨m, by omega, hs2⟩
  refine xT.of rfl (Nat.le_of_ble_eq_true rfl) ?_
  change xS _ _ 0 [(0, .ref 0), (1, .int (nI t)), (2, .int (nI p))] [] _ _
  refine xS.s1 rfl rfl ?_
  try dsimp only [Nat.reduceAdd]
  -- 1 yX11_isRow
  refine xS.callS rfl rfl rfl ⟨Nat.le_of_ble_eq_true rfl, rfl⟩ (c_X11_isRow_in ht) (fun v M1 hv => ?_)
  rw [hv.1, hv.2]
  clear hv M1 v
  try dsimp only [Nat.reduceAdd, Option.toList, List.cons_append, List.nil_append, List.drop]
  refine xS.br0 (c := .eq) (off := 10) (l := 3) rfl rfl (fun h4 => ?_) (fun h4 => ?_)
  · have g4 := xt_eq h4
    exfalso; first | exact absurd g4 (by decide) | (simp (disch := omega) only [Int32.lt_iff_toInt_lt, Int32.le_iff_toInt_le, nI_toInt, Int32.reduceToInt] at g4 <;> omega)
  · have g4 := xf_eq h4
    refine xS.s1 rfl rfl ?_
    try dsimp only [Nat.reduceAdd]
    -- 8 yX11_isRow
    refine xS.callS rfl rfl rfl ⟨Nat.le_of_ble_eq_true rfl, rfl⟩ (c_X11_isRow_in hp1) (fun v M1 hv => ?_)
    rw [hv.1, hv.2]
    clear hv M1 v
    try dsimp only [Nat.reduceAdd, Option.toList, List.cons_append, List.nil_append, List.drop]
    refine xS.br0 (c := .ne) (off := 5) (l := 3) rfl rfl (fun h11 => ?_) (fun h11 => ?_)
    · have g11 := xt_ne h11
      refine xS.s1 rfl rfl ?_
      try dsimp only [Nat.reduceAdd]
      refine xS.gR rfl rfl rfl ⟨by decide, rfl⟩ rfl ?_
      try dsimp only [Nat.reduceAdd]
      refine xS.s1 rfl rfl ?_
      try dsimp only [Nat.reduceAdd]
      refine xS.aR rfl rfl (by decide) (by omega) (xsh1_get (by omega)) ?_
      try dsimp only [Nat.reduceAdd]
      refine xS.s1 rfl rfl ?_
      try dsimp only [Nat.reduceAdd]
      refine xS.gR rfl rfl rfl ⟨by decide, rfl⟩ rfl ?_
      try dsimp only [Nat.reduceAdd]
      refine xS.s1 rfl rfl ?_
      try dsimp only [Nat.reduceAdd]
      refine xS.aR rfl rfl (by decide) (by omega) (xsh1_get (by omega)) ?_
      try dsimp only [Nat.reduceAdd]
      refine xS.s1 rfl rfl ?_
      try dsimp only [Nat.reduceAdd, xj_11]
      -- 30 yX11_findingOfPair
      refine xS.callS rfl rfl rfl ⟨Nat.le_of_ble_eq_true rfl, rfl⟩ (c_X11_findingOfPair (xce_row ht) hz (xce_row hp1) hz2 (by decide)) (fun v M1 hv => ?_)
      rw [hv.1, hv.2, hf]
      clear hv M1 v
      try dsimp only [Nat.reduceAdd, Option.toList, List.cons_append, List.nil_append, List.drop]
      refine xS.s1 rfl rfl ?_
      try dsimp only [Nat.reduceAdd]
      refine xS.s1 rfl rfl ?_
      try dsimp only [Nat.reduceAdd]
      refine xS.br0 (c := .eq) (off := 9) (l := 3) rfl rfl (fun h35 => ?_) (fun h35 => ?_)
      · have g35 := xt_eq h35
        refine xS.s1 rfl rfl ?_
        try dsimp only [Nat.reduceAdd]
        refine xS.s1 rfl rfl ?_
        try dsimp only [Nat.reduceAdd]
        refine xS.gR rfl rfl rfl ⟨by decide, rfl⟩ rfl ?_
        try dsimp only [Nat.reduceAdd]
        refine xS.s1 rfl rfl ?_
        try dsimp only [Nat.reduceAdd]
        refine xS.aR rfl rfl (by decide) (by omega) (xsh1_get (by omega)) ?_
        try dsimp only [Nat.reduceAdd]
        refine xS.s1 rfl rfl ?_
        try dsimp only [Nat.reduceAdd]
        refine xS.gR rfl rfl rfl ⟨by decide, rfl⟩ rfl ?_
        try dsimp only [Nat.reduceAdd]
        refine xS.s1 rfl rfl ?_
        try dsimp only [Nat.reduceAdd]
        refine xS.aR rfl rfl (by decide) (by omega) (xsh1_get (by omega)) ?_
        try dsimp only [Nat.reduceAdd]
        -- 57 yX11_lawsOf
        refine xS.cv rfl rfl rfl rfl rfl rfl ⟨by decide, rfl, rfl⟩ (c_X11_lawsOf hb hR hp (xce_row ht) hs (by omega) hx (xce_row hp1) hs2 (by omega)) (fun v M1 hv => ?_)
        rw [hv.1, hv.2]
        clear hv M1 v
        try dsimp only [Nat.reduceAdd, Option.toList, List.cons_append, List.nil_append, List.drop]
        refine xS.s1 rfl rfl ?_
        try dsimp only [Nat.reduceAdd]
        refine xS.s1 rfl rfl ?_
        try dsimp only [Nat.reduceAdd]
        -- 64 yJ6_bitCount_0f7a4
        refine xS.callS rfl rfl rfl ⟨Nat.le_of_ble_eq_true rfl, rfl⟩ c_J6_bitCount (fun v M1 hv => ?_)
        rw [hv.1, hv.2]
        clear hv M1 v
        try dsimp only [Nat.reduceAdd, Option.toList, List.cons_append, List.nil_append, List.drop]
        refine xS.s1 rfl rfl ?_
        try dsimp only [Nat.reduceAdd, xi_2]
        refine xS.br (c := .ge) (off := 6) (l := 3) rfl rfl (fun h68 => ?_) (fun h68 => ?_)
        · have g68 := xt_ge h68
          refine xS.s1 rfl rfl ?_
          try dsimp only [Nat.reduceAdd]
          refine xS.gR rfl rfl rfl ⟨by decide, rfl⟩ rfl ?_
          try dsimp only [Nat.reduceAdd]
          refine xS.s1 rfl rfl ?_
          try dsimp only [Nat.reduceAdd]
          refine xS.aR rfl rfl (by decide) (by omega) (xsh1_get (by omega)) ?_
          try dsimp only [Nat.reduceAdd]
          -- 80 yX0_size
          refine xS.cv rfl rfl rfl ((xce_row (r := t) (by omega)).1 _) rfl rfl ⟨by decide, rfl, rfl⟩ (c_X0_size (xce_row ht)) (fun v M1 hv => ?_)
          rw [hv.1, hv.2, hs]
          clear hv M1 v
          try dsimp only [Nat.reduceAdd, Option.toList, List.cons_append, List.nil_append, List.drop]
          refine xS.s1 rfl rfl ?_
          try dsimp only [Nat.reduceAdd]
          refine xS.s1 rfl rfl ?_
          try dsimp only [Nat.reduceAdd]
          refine xS.gR rfl rfl rfl ⟨by decide, rfl⟩ rfl ?_
          try dsimp only [Nat.reduceAdd]
          refine xS.s1 rfl rfl ?_
          try dsimp only [Nat.reduceAdd]
          refine xS.s1 rfl rfl ?_
          try dsimp only [Nat.reduceAdd, xi_1]
          refine xS.s1 rfl rfl ?_
          try dsimp only [Nat.reduceAdd]
          rw [nI_1]
          refine xS.s1 rfl rfl ?_
          try dsimp only [Nat.reduceAdd, xi_0]
          -- 94 yX0_open
          refine xS.cv rfl rfl rfl (xce_trial.1 _) rfl rfl ⟨by decide, rfl, rfl⟩ (c_X0_open xce_trial (m := m + 1) (by omega)) (fun v M1 hv => ?_)
          rw [hv.1, hv.2]
          clear hv M1 v
          try dsimp only [Nat.reduceAdd, Option.toList, List.cons_append, List.nil_append, List.drop]
          refine xS.s1 rfl rfl ?_
          try dsimp only [Nat.reduceAdd]
          refine xS.gR rfl rfl rfl ⟨by decide, rfl⟩ rfl ?_
          try dsimp only [Nat.reduceAdd]
          refine xS.s1 rfl rfl ?_
          try dsimp only [Nat.reduceAdd]
          refine xS.gR rfl rfl rfl ⟨by decide, rfl⟩ rfl ?_
          try dsimp only [Nat.reduceAdd]
          refine xS.s1 rfl rfl ?_
          try dsimp only [Nat.reduceAdd]
          refine xS.aR rfl rfl (by decide) (by omega) (xsh1_get (by omega)) ?_
          try dsimp only [Nat.reduceAdd]
          refine xS.s1 rfl rfl ?_
          try dsimp only [Nat.reduceAdd, xi_0]
          refine xS.s1 rfl rfl ?_
          try dsimp only [Nat.reduceAdd, xi_0]
          refine xS.s1 rfl rfl ?_
          try dsimp only [Nat.reduceAdd]
          -- 111 yX0_take
          refine xS.cv rfl rfl rfl (xce_trial.1 _) rfl rfl ⟨by decide, rfl, rfl⟩ (c_X0_take (i1 := 0) (j1 := 0) (m := m) (s := m) (d := m + 1) xce_trial (xce_row ht) (by rw [gfill_na (by omega), up_na (by omega)]; exact hs) (by rw [gfill_na (by decide), up_same]) (by omega) (by omega) (by omega) (by omega)) (fun v M1 hv => ?_)
          rw [hv.1, hv.2]
          clear hv M1 v
          try dsimp only [Nat.reduceAdd, Option.toList, List.cons_append, List.nil_append, List.drop]
          refine xS.s1 rfl rfl ?_
          try dsimp only [Nat.reduceAdd, xi_0]
          refine xS.s1 rfl rfl ?_
          try dsimp only [Nat.reduceAdd]
          refine xS.s1 rfl rfl ?_
          try dsimp only [Nat.reduceAdd, xj_25]
          refine xS.s1 rfl rfl ?_
          try dsimp only [Nat.reduceAdd]
          refine xS.s1 rfl rfl ?_
          try dsimp only [Nat.reduceAdd, xi_0]
          refine xS.s1 rfl rfl ?_
          try dsimp only [Nat.reduceAdd]
          refine xS.pick [0, 1, 2, 6, 4, 3] rfl ?_
          refine xS.loop (σ := Nat → Nat → Int32) (6) (fun j S => [(8, .int (nI j)), (7, .int (nI (xnx (fun s => xmx (fun j => decide (((xbits (fun j => decide (xfst (fun i => !decide (xshw (g (b.1 + 1)) (j / 4) (j % 4) (fun i => xN (g (23 + 2 * t + 1) i)) i = g (23 + 2 * p + 1) i)) m = none)) 24) >>> (nI j &&& 31)) &&& 1 = 1)) (fun q => xN (xshw (g (b.1 + 1)) (q / 4) (q % 4) (fup (fun i => xN (g (23 + 2 * t + 1) i)) m s) m)) 24) j).1)), (6, .int (nI (xnx (fun s => xmx (fun j => decide (((xbits (fun j => decide (xfst (fun i => !decide (xshw (g (b.1 + 1)) (j / 4) (j % 4) (fun i => xN (g (23 + 2 * t + 1) i)) i = g (23 + 2 * p + 1) i)) m = none)) 24) >>> (nI j &&& 31)) &&& 1 = 1)) (fun q => xN (xshw (g (b.1 + 1)) (q / 4) (q % 4) (fup (fun i => xN (g (23 + 2 * t + 1) i)) m s) m)) 24) j).2)), (0, .ref 0), (4, .int (xbits (fun j => decide (xfst (fun i => !decide (xshw (g (b.1 + 1)) (j / 4) (j % 4) (fun i => xN (g (23 + 2 * t + 1) i)) i = g (23 + 2 * p + 1) i)) m = none)) 24)), (5, .int (nI m))]) (fun _ S => xH b S l) (fun _ S => (∀ a, a ≠ 15 → a ≠ 16 → a ≠ 18 → S a = g a) ∧ S 15 1 = nI (m + 1) ∧ (∀ i, i < m → S 16 i = g (23 + 2 * t + 1) i)) ((gcopy (gfill (up g 15 1 (nI (m + 1))) (15 + 1) (m + 1) 0) (23 + 2 * t + 1) 0 (15 + 1) 0 m)) (rfl) (rfl) (⟨fun a h1 h2 h3 => by rw [gcopy_na (by omega), gfill_na (by omega), up_na (by omega)], by rw [gcopy_na (by decide), gfill_na (by decide), up_same], fun i hi => by
                show gcopy (gfill (up g 15 1 (nI (m + 1))) (15 + 1) (m + 1) 0) (23 + 2 * t + 1) 0 16 0 m 16 i = _
                have := gcopy_in (g := (gfill (up g 15 1 (nI (m + 1))) (15 + 1) (m + 1) 0)) (sa := 23 + 2 * t + 1) (si := 0) (da := 16) (di := 0) hi
                rw [Nat.zero_add, gfill_na (by omega), up_na (by omega)] at this
                exact this⟩) ?_
          intro j S hj hI ih
          obtain ⟨i1, i2, i3⟩ := hI
          try dsimp only
          refine xS.s1 rfl rfl ?_
          try dsimp only [Nat.reduceAdd]
          refine xS.s1 rfl rfl ?_
          try dsimp only [Nat.reduceAdd, xj_6]
          refine xS.br (c := .ge) (off := 45) (l := 3) rfl rfl (fun h128 => ?_) (fun h128 => ?_)
          · have g128 := xt_ge h128
            have e := xnle (b := 6) g128 (by omega) (by omega)
            have e2 : 6 = j := by omega
            subst e2
            refine xS.s1 rfl rfl ?_
            try dsimp only [Nat.reduceAdd]
            refine xS.s1 rfl rfl ?_
            try dsimp only [Nat.reduceAdd]
            refine xS.pI rfl rfl rfl ⟨⟨by decide, rfl⟩, rfl, by decide, by decide⟩ rfl ?_
            try dsimp only [Nat.reduceAdd]
            refine xS.s1 rfl rfl ?_
            try dsimp only [Nat.reduceAdd]
            refine xS.ret rfl rfl rfl (fun _ _ => rfl) ?_
            exact ⟨S, ⟨i1, i2, i3⟩, rfl, rfl⟩
          · have g128 := xf_ge h128
            have hlt := xnlt (b := 6) g128 (by omega) (by omega)
            have hxl := xnx_le (fun s => xmx (fun j => decide (((xbits (fun j => decide (xfst (fun i => !decide (xshw (g (b.1 + 1)) (j / 4) (j % 4) (fun i => xN (g (23 + 2 * t + 1) i)) i = g (23 + 2 * p + 1) i)) m = none)) 24) >>> (nI j &&& 31)) &&& 1 = 1)) (fun q => xN (xshw (g (b.1 + 1)) (q / 4) (q % 4) (fup (fun i => xN (g (23 + 2 * t + 1) i)) m s) m)) 24) j
            refine xS.s1 rfl rfl ?_
            try dsimp only [Nat.reduceAdd]
            refine xS.gR rfl rfl rfl ⟨by decide, rfl⟩ rfl ?_
            try dsimp only [Nat.reduceAdd]
            refine xS.s1 rfl rfl ?_
            try dsimp only [Nat.reduceAdd]
            refine xS.s1 rfl rfl ?_
            try dsimp only [Nat.reduceAdd]
            -- 139 yX0_set
            refine xS.cv rfl rfl rfl (xce_trial.1 _) rfl rfl ⟨by decide, rfl, rfl⟩ (c_X0_set xce_trial (m := m + 1) i2 (by omega) (by omega)) (fun v M1 hv => ?_)
            rw [hv.1, hv.2]
            clear hv M1 v
            rw [show 15 + 1 = 16 from rfl]
            have hR1 : xRm (up S 16 m (nI j)) b.1 G T Lw := xRm_fr (fun i _ _ => by rw [up_na (by omega), i1 i (by omega) (by omega) (by omega)]) hR
            have hpn1 : xpn (up S 16 m (nI j)) := xpn_fr (fun i _ _ => by rw [up_na (by omega), i1 i (by omega) (by omega) (by omega)]) hp
            have h15 : up S 16 m (nI j) 15 1 = nI (m + 1) := by rw [up_na (by decide)]; exact i2
            have h16 : ∀ i, i ≤ m → xstp (up S 16 m (nI j) 16 i) ∧ xN (up S 16 m (nI j) 16 i) = fup (fun i => xN (g (23 + 2 * t + 1) i)) m j i := fun i hi => by
              unfold fup
              by_cases e : i = m
              · rw [e, up_same, if_pos rfl, xN_nI (by omega)]
                exact ⟨⟨j, hlt, rfl⟩, rfl⟩
              · rw [up_ne (Or.inr e), if_neg e, i3 i (by omega)]
                exact ⟨hx i (by omega), rfl⟩
            have e1 : up S 16 m (nI j) (b.1 + 1) = g (b.1 + 1) := by rw [up_na (by omega), i1 _ (by omega) (by omega) (by omega)]
            try dsimp only [Nat.reduceAdd, Option.toList, List.cons_append, List.nil_append, List.drop]
            refine xS.s1 rfl rfl ?_
            try dsimp only [Nat.reduceAdd]
            refine xS.s1 rfl rfl ?_
            try dsimp only [Nat.reduceAdd]
            refine xS.s1 rfl rfl ?_
            try dsimp only [Nat.reduceAdd]
            -- 147 yX11_mostThatShowOneThing
            refine xS.cv rfl rfl rfl rfl rfl rfl ⟨by decide, rfl, rfl⟩ (c_X11_mostThatShowOneThing hb hR1 hpn1 hbv h15 (by omega) (fun i hi => (h16 i hi).1) (by omega)) (fun v M1 hv => ?_)
            rw [hv.1, hv.2]
            clear hv M1 v
            rw [show xmx (fun j => decide (((xbits (fun j => decide (xfst (fun i => !decide (xshw (g (b.1 + 1)) (j / 4) (j % 4) (fun i => xN (g (23 + 2 * t + 1) i)) i = g (23 + 2 * p + 1) i)) m = none)) 24) >>> (nI j &&& 31)) &&& 1 = 1)) (fun q => xN (xshw (up S 16 m (nI j) (b.1 + 1)) (q / 4) (q % 4) (fun i => xN (up S 16 m (nI j) 16 i)) m)) 24 = (fun s => xmx (fun j => decide (((xbits (fun j => decide (xfst (fun i => !decide (xshw (g (b.1 + 1)) (j / 4) (j % 4) (fun i => xN (g (23 + 2 * t + 1) i)) i = g (23 + 2 * p + 1) i)) m = none)) 24) >>> (nI j &&& 31)) &&& 1 = 1)) (fun q => xN (xshw (g (b.1 + 1)) (q / 4) (q % 4) (fup (fun i => xN (g (23 + 2 * t + 1) i)) m s) m)) 24) j from by
              show _ = xmx (fun j => decide (((xbits (fun j => decide (xfst (fun i => !decide (xshw (g (b.1 + 1)) (j / 4) (j % 4) (fun i => xN (g (23 + 2 * t + 1) i)) i = g (23 + 2 * p + 1) i)) m = none)) 24) >>> (nI j &&& 31)) &&& 1 = 1)) (fun q => xN (xshw (g (b.1 + 1)) (q / 4) (q % 4) (fup (fun i => xN (g (23 + 2 * t + 1) i)) m j) m)) 24
              rw [show (fun q => xN (xshw (up S 16 m (nI j) (b.1 + 1)) (q / 4) (q % 4) (fun i => xN (up S 16 m (nI j) 16 i)) m)) = (fun q => xN (xshw (g (b.1 + 1)) (q / 4) (q % 4) (fup (fun i => xN (g (23 + 2 * t + 1) i)) m j) m)) from by
                funext q
                rw [e1, xshw_congr (f' := fup (fun i => xN (g (23 + 2 * t + 1) i)) m j) (fun u hu => (h16 u hu).2)]]]
            try dsimp only [Nat.reduceAdd, Option.toList, List.cons_append, List.nil_append, List.drop]
            refine xS.s1 rfl rfl ?_
            try dsimp only [Nat.reduceAdd]
            refine xS.s1 rfl rfl ?_
            try dsimp only [Nat.reduceAdd]
            refine xS.s1 rfl rfl ?_
            try dsimp only [Nat.reduceAdd]
            refine xS.br (c := .ge) (off := 11) (l := 3) rfl rfl (fun h156 => ?_) (fun h156 => ?_)
            · have g156 := xt_ge h156
              refine xS.s1 rfl rfl ?_
              try dsimp only [Nat.reduceAdd, xi_1]
              rw [nI_1]
              refine xS.s1 rfl rfl ?_
              try dsimp only [Nat.reduceAdd]
              refine xS.pick [0, 2, 3, 4, 5, 6] rfl ?_
              have hnx : xnx (fun s => xmx (fun j => decide (((xbits (fun j => decide (xfst (fun i => !decide (xshw (g (b.1 + 1)) (j / 4) (j % 4) (fun i => xN (g (23 + 2 * t + 1) i)) i = g (23 + 2 * p + 1) i)) m = none)) 24) >>> (nI j &&& 31)) &&& 1 = 1)) (fun q => xN (xshw (g (b.1 + 1)) (q / 4) (q % 4) (fup (fun i => xN (g (23 + 2 * t + 1) i)) m s) m)) 24) (j + 1) = xnx (fun s => xmx (fun j => decide (((xbits (fun j => decide (xfst (fun i => !decide (xshw (g (b.1 + 1)) (j / 4) (j % 4) (fun i => xN (g (23 + 2 * t + 1) i)) i = g (23 + 2 * p + 1) i)) m = none)) 24) >>> (nI j &&& 31)) &&& 1 = 1)) (fun q => xN (xshw (g (b.1 + 1)) (q / 4) (q % 4) (fup (fun i => xN (g (23 + 2 * t + 1) i)) m s) m)) 24) j := by
                rw [xnx_s, if_neg (Nat.not_lt.mpr (xnle g156 (by have := xmx_le (fun j => decide (((xbits (fun j => decide (xfst (fun i => !decide (xshw (g (b.1 + 1)) (j / 4) (j % 4) (fun i => xN (g (23 + 2 * t + 1) i)) i = g (23 + 2 * p + 1) i)) m = none)) 24) >>> (nI j &&& 31)) &&& 1 = 1)) (fun q => xN (xshw (g (b.1 + 1)) (q / 4) (q % 4) (fup (fun i => xN (g (23 + 2 * t + 1) i)) m j) m)) 24; omega) (by omega)))]
              rw [hnx] at ih
              exact ih _ (by omega) ⟨fun a h1 h2 h3 => by rw [gset_na h3, up_na h2, i1 a h1 h2 h3], by rw [gset_na (by decide)]; exact h15, fun i hi => by rw [gset_na (by decide), up_ne (Or.inr (by omega)), i3 i hi]⟩
            · have g156 := xf_ge h156
              refine xS.s1 rfl rfl ?_
              try dsimp only [Nat.reduceAdd]
              refine xS.s1 rfl rfl ?_
              try dsimp only [Nat.reduceAdd]
              refine xS.s1 rfl rfl ?_
              try dsimp only [Nat.reduceAdd]
              refine xS.s1 rfl rfl ?_
              try dsimp only [Nat.reduceAdd]
              refine xS.s1 rfl rfl ?_
              try dsimp only [Nat.reduceAdd, xi_1]
              rw [nI_1]
              refine xS.s1 rfl rfl ?_
              try dsimp only [Nat.reduceAdd]
              refine xS.pick [0, 2, 1, 4, 5, 6] rfl ?_
              have hnx : xnx (fun s => xmx (fun j => decide (((xbits (fun j => decide (xfst (fun i => !decide (xshw (g (b.1 + 1)) (j / 4) (j % 4) (fun i => xN (g (23 + 2 * t + 1) i)) i = g (23 + 2 * p + 1) i)) m = none)) 24) >>> (nI j &&& 31)) &&& 1 = 1)) (fun q => xN (xshw (g (b.1 + 1)) (q / 4) (q % 4) (fup (fun i => xN (g (23 + 2 * t + 1) i)) m s) m)) 24) (j + 1) = (xmx (fun j => decide (((xbits (fun j => decide (xfst (fun i => !decide (xshw (g (b.1 + 1)) (j / 4) (j % 4) (fun i => xN (g (23 + 2 * t + 1) i)) i = g (23 + 2 * p + 1) i)) m = none)) 24) >>> (nI j &&& 31)) &&& 1 = 1)) (fun q => xN (xshw (g (b.1 + 1)) (q / 4) (q % 4) (fup (fun i => xN (g (23 + 2 * t + 1) i)) m j) m)) 24, j) := by
                rw [xnx_s, if_pos (xnlt g156 (by have := xmx_le (fun j => decide (((xbits (fun j => decide (xfst (fun i => !decide (xshw (g (b.1 + 1)) (j / 4) (j % 4) (fun i => xN (g (23 + 2 * t + 1) i)) i = g (23 + 2 * p + 1) i)) m = none)) 24) >>> (nI j &&& 31)) &&& 1 = 1)) (fun q => xN (xshw (g (b.1 + 1)) (q / 4) (q % 4) (fup (fun i => xN (g (23 + 2 * t + 1) i)) m j) m)) 24; omega) (by omega))]
              rw [hnx] at ih
              exact ih _ (by omega) ⟨fun a h1 h2 h3 => by rw [gset_na h3, up_na h2, i1 a h1 h2 h3], by rw [gset_na (by decide)]; exact h15, fun i hi => by rw [gset_na (by decide), up_ne (Or.inr (by omega)), i3 i hi]⟩
        · have g68 := xf_ge h68
          exact absurd g68 hbc
      · have g35 := xf_eq h35
        exfalso; first | exact absurd g35 (by decide) | (simp (disch := omega) only [Int32.lt_iff_toInt_lt, Int32.le_iff_toInt_le, nI_toInt, Int32.reduceToInt] at g35 <;> omega)
    · have g11 := xf_ne h11
      exfalso; first | exact absurd g11 (by decide) | (simp (disch := omega) only [Int32.lt_iff_toInt_lt, Int32.le_iff_toInt_le, nI_toInt, Int32.reduceToInt] at g11 <;> omega)

set_option maxRecDepth 10000 in
theorem c_X11_he_bad (hb : xro b.1) (hx : ¬ ((0 ≤ x ∧ x < g b.1 2) ∧ (0 ≤ y ∧ y < 6) ∧ 0 ≤ z ∧ z < 6)) : xT (k + 6) 107 [.ref 0, .int x, .int y, .int z] (xH b g l) (fun r M' => M' = xH b g l ∧ r = some (.int (-1))) := by
  refine xT.of rfl (Nat.le_of_ble_eq_true rfl) ?_
  change xS _ _ 0 [(0, .ref 0), (1, .int x), (2, .int y), (3, .int z)] [] _ _
  refine xS.s1 rfl rfl ?_
  try dsimp only [Nat.reduceAdd]
  refine xS.s1 rfl rfl ?_
  try dsimp only [Nat.reduceAdd]
  -- 2 yX11_isGlass
  refine xS.cv rfl rfl rfl rfl rfl rfl ⟨by decide, rfl, rfl⟩ (c_X11_isGlass hb) (fun v M1 hv => ?_)
  rw [hv.1, hv.2]
  clear hv M1 v
  try dsimp only [Nat.reduceAdd, Option.toList, List.cons_append, List.nil_append, List.drop]
  refine xS.br0 (c := .eq) (off := 17) (l := 3) rfl rfl (fun h5 => ?_) (fun h5 => ?_)
  · have g5 := xt_eq h5
    refine xS.s1 rfl rfl ?_
    try dsimp only [Nat.reduceAdd, xi_m1]
    refine xS.ret rfl rfl rfl (fun _ _ => rfl) ?_
    exact ⟨rfl, rfl⟩
  · have g5 := xf_eq h5
    refine xS.s1 rfl rfl ?_
    try dsimp only [Nat.reduceAdd]
    -- 9 yX11_isRow
    refine xS.callS rfl rfl rfl ⟨Nat.le_of_ble_eq_true rfl, rfl⟩ c_X11_isRow (fun v M1 hv => ?_)
    rw [hv.1, hv.2]
    clear hv M1 v
    try dsimp only [Nat.reduceAdd, Option.toList, List.cons_append, List.nil_append, List.drop]
    refine xS.br0 (c := .eq) (off := 10) (l := 3) rfl rfl (fun h12 => ?_) (fun h12 => ?_)
    · have g12 := xt_eq h12
      refine xS.s1 rfl rfl ?_
      try dsimp only [Nat.reduceAdd, xi_m1]
      refine xS.ret rfl rfl rfl (fun _ _ => rfl) ?_
      exact ⟨rfl, rfl⟩
    · have g12 := xf_eq h12
      refine xS.s1 rfl rfl ?_
      try dsimp only [Nat.reduceAdd]
      -- 16 yX11_isRow
      refine xS.callS rfl rfl rfl ⟨Nat.le_of_ble_eq_true rfl, rfl⟩ c_X11_isRow (fun v M1 hv => ?_)
      rw [hv.1, hv.2]
      clear hv M1 v
      try dsimp only [Nat.reduceAdd, Option.toList, List.cons_append, List.nil_append, List.drop]
      refine xS.br0 (c := .ne) (off := 5) (l := 3) rfl rfl (fun h19 => ?_) (fun h19 => ?_)
      · have g19 := xt_ne h19
        exact absurd ⟨xif1 g5, xif1 g12, xif1 g19⟩ hx
      · have g19 := xf_ne h19
        refine xS.s1 rfl rfl ?_
        try dsimp only [Nat.reduceAdd, xi_m1]
        refine xS.ret rfl rfl rfl (fun _ _ => rfl) ?_
        exact ⟨rfl, rfl⟩

set_option maxRecDepth 10000 in
theorem c_X11_he_ref (hb : xro b.1) (hR : xRm g b.1 G T Lw) (hk : s < G) (ht : t < 6) (hz : xsz (g (23 + 2 * t) 1) 40) (hp1 : p < 6) (hz2 : xsz (g (23 + 2 * p) 1) 40) (hf : (xfop (g (23 + 2 * t) 1) (g (23 + 2 * t + 1)) (g (23 + 2 * p) 1) (g (23 + 2 * p + 1)) 12) ≠ 0) : xT (k + 6) 107 [.ref 0, .int (nI s), .int (nI t), .int (nI p)] (xH b g l) (fun r M' => M' = xH b (xfC g (xfop (g (23 + 2 * t) 1) (g (23 + 2 * t + 1)) (g (23 + 2 * p) 1) (g (23 + 2 * p + 1)) 12)) l ∧ r = some (.int (-3))) := by
  refine xT.of rfl (Nat.le_of_ble_eq_true rfl) ?_
  change xS _ _ 0 [(0, .ref 0), (1, .int (nI s)), (2, .int (nI t)), (3, .int (nI p))] [] _ _
  refine xS.s1 rfl rfl ?_
  try dsimp only [Nat.reduceAdd]
  refine xS.s1 rfl rfl ?_
  try dsimp only [Nat.reduceAdd]
  -- 2 yX11_isGlass
  refine xS.cv rfl rfl rfl rfl rfl rfl ⟨by decide, rfl, rfl⟩ (c_X11_isGlass_in hb hR hk) (fun v M1 hv => ?_)
  rw [hv.1, hv.2]
  clear hv M1 v
  try dsimp only [Nat.reduceAdd, Option.toList, List.cons_append, List.nil_append, List.drop]
  refine xS.br0 (c := .eq) (off := 17) (l := 3) rfl rfl (fun h5 => ?_) (fun h5 => ?_)
  · have g5 := xt_eq h5
    exfalso; first | exact absurd g5 (by decide) | (simp (disch := omega) only [Int32.lt_iff_toInt_lt, Int32.le_iff_toInt_le, nI_toInt, Int32.reduceToInt] at g5 <;> omega)
  · have g5 := xf_eq h5
    refine xS.s1 rfl rfl ?_
    try dsimp only [Nat.reduceAdd]
    -- 9 yX11_isRow
    refine xS.callS rfl rfl rfl ⟨Nat.le_of_ble_eq_true rfl, rfl⟩ (c_X11_isRow_in ht) (fun v M1 hv => ?_)
    rw [hv.1, hv.2]
    clear hv M1 v
    try dsimp only [Nat.reduceAdd, Option.toList, List.cons_append, List.nil_append, List.drop]
    refine xS.br0 (c := .eq) (off := 10) (l := 3) rfl rfl (fun h12 => ?_) (fun h12 => ?_)
    · have g12 := xt_eq h12
      exfalso; first | exact absurd g12 (by decide) | (simp (disch := omega) only [Int32.lt_iff_toInt_lt, Int32.le_iff_toInt_le, nI_toInt, Int32.reduceToInt] at g12 <;> omega)
    · have g12 := xf_eq h12
      refine xS.s1 rfl rfl ?_
      try dsimp only [Nat.reduceAdd]
      -- 16 yX11_isRow
      refine xS.callS rfl rfl rfl ⟨Nat.le_of_ble_eq_true rfl, rfl⟩ (c_X11_isRow_in hp1) (fun v M1 hv => ?_)
      rw [hv.1, hv.2]
      clear hv M1 v
      try dsimp only [Nat.reduceAdd, Option.toList, List.cons_append, List.nil_append, List.drop]
      refine xS.br0 (c := .ne) (off := 5) (l := 3) rfl rfl (fun h19 => ?_) (fun h19 => ?_)
      · have g19 := xt_ne h19
        refine xS.s1 rfl rfl ?_
        try dsimp only [Nat.reduceAdd]
        refine xS.gR rfl rfl rfl ⟨by decide, rfl⟩ rfl ?_
        try dsimp only [Nat.reduceAdd]
        refine xS.s1 rfl rfl ?_
        try dsimp only [Nat.reduceAdd]
        refine xS.aR rfl rfl (by decide) (by omega) (xsh1_get (by omega)) ?_
        try dsimp only [Nat.reduceAdd]
        refine xS.s1 rfl rfl ?_
        try dsimp only [Nat.reduceAdd]
        refine xS.gR rfl rfl rfl ⟨by decide, rfl⟩ rfl ?_
        try dsimp only [Nat.reduceAdd]
        refine xS.s1 rfl rfl ?_
        try dsimp only [Nat.reduceAdd]
        refine xS.aR rfl rfl (by decide) (by omega) (xsh1_get (by omega)) ?_
        try dsimp only [Nat.reduceAdd]
        refine xS.s1 rfl rfl ?_
        try dsimp only [Nat.reduceAdd, xj_12]
        -- 38 yX11_findingOfPair
        refine xS.callS rfl rfl rfl ⟨Nat.le_of_ble_eq_true rfl, rfl⟩ (c_X11_findingOfPair (xce_row ht) hz (xce_row hp1) hz2 (by decide)) (fun v M1 hv => ?_)
        rw [hv.1, hv.2]
        clear hv M1 v
        try dsimp only [Nat.reduceAdd, Option.toList, List.cons_append, List.nil_append, List.drop]
        refine xS.s1 rfl rfl ?_
        try dsimp only [Nat.reduceAdd]
        refine xS.s1 rfl rfl ?_
        try dsimp only [Nat.reduceAdd]
        refine xS.br0 (c := .eq) (off := 10) (l := 3) rfl rfl (fun h45 => ?_) (fun h45 => ?_)
        · have g45 := xt_eq h45
          exact absurd ((nI_eq (b := 0) (by have := xfop_le (g (23 + 2 * t) 1) (g (23 + 2 * t + 1)) (g (23 + 2 * p) 1) (g (23 + 2 * p + 1)) 12; omega) (by omega)).mp g45) hf
        · have g45 := xf_eq h45
          refine xS.s1 rfl rfl ?_
          try dsimp only [Nat.reduceAdd]
          refine xS.s1 rfl rfl ?_
          try dsimp only [Nat.reduceAdd]
          -- 51 yX11_refuse
          refine xS.cv rfl rfl rfl rfl rfl rfl ⟨by decide, rfl, rfl⟩ (c_X11_refuse (t := (xfop (g (23 + 2 * t) 1) (g (23 + 2 * t + 1)) (g (23 + 2 * p) 1) (g (23 + 2 * p + 1)) 12)) (by omega) (xfop_le _ _ _ _ _)) (fun v M1 hv => ?_)
          rw [hv.1, hv.2]
          clear hv M1 v
          try dsimp only [Nat.reduceAdd, Option.toList, List.cons_append, List.nil_append, List.drop]
          refine xS.ret rfl rfl rfl (fun _ _ => rfl) ?_
          exact ⟨rfl, rfl⟩
      · have g19 := xf_ne h19
        exfalso; first | exact absurd g19 (by decide) | (simp (disch := omega) only [Int32.lt_iff_toInt_lt, Int32.le_iff_toInt_le, nI_toInt, Int32.reduceToInt] at g19 <;> omega)

theorem xhe_1 {A B : Option Nat} (h : A = none) : xhe A B = xfI B := by
  subst h
  cases B <;> rfl
theorem xhe_2 {A B : Option Nat} (h : B = none) : xhe A B = xfI A := by
  subst h
  cases A <;> rfl
theorem xhe_3 {A B : Option Nat} (hA : ∀ d, A = some d → d < 2 ^ 31) (hB : ∀ d, B = some d → d < 2 ^ 31) (h1 : ¬ A = none) (h2 : ¬ B = none) : (if xfI B < xfI A then xfI B else xfI A) = xhe A B := by
  cases A with
  | none => exact absurd rfl h1
  | some a =>
    cases B with
    | none => exact absurd rfl h2
    | some c => exact nI_min (hA a rfl) (hB c rfl)
theorem xhr_e (A B : Option Nat) (x y : Int32) (hx : x = if A = none then 1 else 0) (hy : y = if B = none then 2 else 0) : x + y = xhr A B := by
  rw [hx, hy]
  rfl

set_option maxRecDepth 10000 in
theorem c_X11_he_ok (hb : xro b.1) (hR : xRm g b.1 G T Lw) (hp : xpn g) (hk : s < G) (ht : t < 6) (hp1 : p < 6) (hs : g (23 + 2 * t) 1 = nI m) (hs2 : g (23 + 2 * p) 1 = nI m) (hm : m ≤ 12) (hf : xfop (g (23 + 2 * t) 1) (g (23 + 2 * t + 1)) (g (23 + 2 * p) 1) (g (23 + 2 * p + 1)) 12 = 0) (hx : ∀ i, i < m → xstp (g (23 + 2 * t + 1) i)) (hx2 : ∀ i, i < m → xstp (g (23 + 2 * p + 1) i)) : xT (k + 6) 107 [.ref 0, .int (nI s), .int (nI t), .int (nI p)] (xH b g l) (fun r M' => M' = xH b (up g 0 11 (xhe (xfst (fun i => !decide (xshw (g (b.1 + 1)) (Lw s / 4) (Lw s % 4) (fun i => xN (g (23 + 2 * t + 1) i)) i = g (23 + 2 * p + 1) i)) m) (xfst (fun i => !decide (xshw (g (b.1 + 1)) (Lw s / 4) (Lw s % 4) (fun i => xN (g (23 + 2 * p + 1) i)) i = g (23 + 2 * t + 1) i)) m))) l ∧ r = some (.int (xhr (xfst (fun i => !decide (xshw (g (b.1 + 1)) (Lw s / 4) (Lw s % 4) (fun i => xN (g (23 + 2 * t + 1) i)) i = g (23 + 2 * p + 1) i)) m) (xfst (fun i => !decide (xshw (g (b.1 + 1)) (Lw s / 4) (Lw s % 4) (fun i => xN (g (23 + 2 * p + 1) i)) i = g (23 + 2 * t + 1) i)) m)))) := by
  have hz : xsz (g (23 + 2 * t) 1) 40 := Or.inr ⟨m, by omega, hs⟩
  have hz2 : xsz (g (23 + 2 * p) 1) 40 := Or.inr ⟨m, by omega, hs2⟩
  refine xT.of rfl (Nat.le_of_ble_eq_true rfl) ?_
  change xS _ _ 0 [(0, .ref 0), (1, .int (nI s)), (2, .int (nI t)), (3, .int (nI p))] [] _ _
  refine xS.s1 rfl rfl ?_
  try dsimp only [Nat.reduceAdd]
  refine xS.s1 rfl rfl ?_
  try dsimp only [Nat.reduceAdd]
  -- 2 yX11_isGlass
  refine xS.cv rfl rfl rfl rfl rfl rfl ⟨by decide, rfl, rfl⟩ (c_X11_isGlass_in hb hR hk) (fun v M1 hv => ?_)
  rw [hv.1, hv.2]
  clear hv M1 v
  try dsimp only [Nat.reduceAdd, Option.toList, List.cons_append, List.nil_append, List.drop]
  refine xS.br0 (c := .eq) (off := 17) (l := 3) rfl rfl (fun h5 => ?_) (fun h5 => ?_)
  · have g5 := xt_eq h5
    exfalso; first | exact absurd g5 (by decide) | (simp (disch := omega) only [Int32.lt_iff_toInt_lt, Int32.le_iff_toInt_le, nI_toInt, Int32.reduceToInt] at g5 <;> omega)
  · have g5 := xf_eq h5
    refine xS.s1 rfl rfl ?_
    try dsimp only [Nat.reduceAdd]
    -- 9 yX11_isRow
    refine xS.callS rfl rfl rfl ⟨Nat.le_of_ble_eq_true rfl, rfl⟩ (c_X11_isRow_in ht) (fun v M1 hv => ?_)
    rw [hv.1, hv.2]
    clear hv M1 v
    try dsimp only [Nat.reduceAdd, Option.toList, List.cons_append, List.nil_append, List.drop]
    refine xS.br0 (c := .eq) (off := 10) (l := 3) rfl rfl (fun h12 => ?_) (fun h12 => ?_)
    · have g12 := xt_eq h12
      exfalso; first | exact absurd g12 (by decide) | (simp (disch := omega) only [Int32.lt_iff_toInt_lt, Int32.le_iff_toInt_le, nI_toInt, Int32.reduceToInt] at g12 <;> omega)
    · have g12 := xf_eq h12
      refine xS.s1 rfl rfl ?_
      try dsimp only [Nat.reduceAdd]
      -- 16 yX11_isRow
      refine xS.callS rfl rfl rfl ⟨Nat.le_of_ble_eq_true rfl, rfl⟩ (c_X11_isRow_in hp1) (fun v M1 hv => ?_)
      rw [hv.1, hv.2]
      clear hv M1 v
      try dsimp only [Nat.reduceAdd, Option.toList, List.cons_append, List.nil_append, List.drop]
      refine xS.br0 (c := .ne) (off := 5) (l := 3) rfl rfl (fun h19 => ?_) (fun h19 => ?_)
      · have g19 := xt_ne h19
        refine xS.s1 rfl rfl ?_
        try dsimp only [Nat.reduceAdd]
        refine xS.gR rfl rfl rfl ⟨by decide, rfl⟩ rfl ?_
        try dsimp only [Nat.reduceAdd]
        refine xS.s1 rfl rfl ?_
        try dsimp only [Nat.reduceAdd]
        refine xS.aR rfl rfl (by decide) (by omega) (xsh1_get (by omega)) ?_
        try dsimp only [Nat.reduceAdd]
        refine xS.s1 rfl rfl ?_
        try dsimp only [Nat.reduceAdd]
        refine xS.gR rfl rfl rfl ⟨by decide, rfl⟩ rfl ?_
        try dsimp only [Nat.reduceAdd]
        refine xS.s1 rfl rfl ?_
        try dsimp only [Nat.reduceAdd]
        refine xS.aR rfl rfl (by decide) (by omega) (xsh1_get (by omega)) ?_
        try dsimp only [Nat.reduceAdd]
        refine xS.s1 rfl rfl ?_
        try dsimp only [Nat.reduceAdd, xj_12]
        -- 38 yX11_findingOfPair
        refine xS.callS rfl rfl rfl ⟨Nat.le_of_ble_eq_true rfl, rfl⟩ (c_X11_findingOfPair (xce_row ht) hz (xce_row hp1) hz2 (by decide)) (fun v M1 hv => ?_)
        rw [hv.1, hv.2, hf]
        clear hv M1 v
        try dsimp only [Nat.reduceAdd, Option.toList, List.cons_append, List.nil_append, List.drop]
        refine xS.s1 rfl rfl ?_
        try dsimp only [Nat.reduceAdd]
        refine xS.s1 rfl rfl ?_
        try dsimp only [Nat.reduceAdd]
        refine xS.br0 (c := .eq) (off := 10) (l := 3) rfl rfl (fun h45 => ?_) (fun h45 => ?_)
        · have g45 := xt_eq h45
          refine xS.s1 rfl rfl ?_
          try dsimp only [Nat.reduceAdd]
          refine xS.s1 rfl rfl ?_
          try dsimp only [Nat.reduceAdd]
          refine xS.s1 rfl rfl ?_
          try dsimp only [Nat.reduceAdd]
          -- 58 yX11_paneOf
          refine xS.cv rfl rfl rfl rfl rfl rfl ⟨by decide, rfl, rfl⟩ (c_X11_paneOf hb hR hk) (fun v M1 hv => ?_)
          rw [hv.1, hv.2]
          clear hv M1 v
          try dsimp only [Nat.reduceAdd, Option.toList, List.cons_append, List.nil_append, List.drop]
          refine xS.s1 rfl rfl ?_
          try dsimp only [Nat.reduceAdd]
          refine xS.gR rfl rfl rfl ⟨by decide, rfl⟩ rfl ?_
          try dsimp only [Nat.reduceAdd]
          refine xS.s1 rfl rfl ?_
          try dsimp only [Nat.reduceAdd]
          refine xS.aR rfl rfl (by decide) (by omega) (xsh1_get (by omega)) ?_
          try dsimp only [Nat.reduceAdd]
          refine xS.s1 rfl rfl ?_
          try dsimp only [Nat.reduceAdd]
          refine xS.gR rfl rfl rfl ⟨by decide, rfl⟩ rfl ?_
          try dsimp only [Nat.reduceAdd]
          refine xS.s1 rfl rfl ?_
          try dsimp only [Nat.reduceAdd]
          refine xS.aR rfl rfl (by decide) (by omega) (xsh1_get (by omega)) ?_
          try dsimp only [Nat.reduceAdd]
          -- 73 yX11_firstNotShown
          refine xS.cv rfl rfl rfl rfl rfl rfl ⟨by decide, rfl, rfl⟩ (c_X11_firstNotShown hb hR hp (hR.2.2.1 s hk).2 (xce_row ht) hs (by omega) hx (xce_row hp1) hs2 (by omega)) (fun v M1 hv => ?_)
          rw [hv.1, hv.2]
          clear hv M1 v
          try dsimp only [Nat.reduceAdd, Option.toList, List.cons_append, List.nil_append, List.drop]
          refine xS.s1 rfl rfl ?_
          try dsimp only [Nat.reduceAdd]
          refine xS.s1 rfl rfl ?_
          try dsimp only [Nat.reduceAdd]
          refine xS.s1 rfl rfl ?_
          try dsimp only [Nat.reduceAdd]
          refine xS.s1 rfl rfl ?_
          try dsimp only [Nat.reduceAdd]
          -- 81 yX11_paneOf
          refine xS.cv rfl rfl rfl rfl rfl rfl ⟨by decide, rfl, rfl⟩ (c_X11_paneOf hb hR hk) (fun v M1 hv => ?_)
          rw [hv.1, hv.2]
          clear hv M1 v
          try dsimp only [Nat.reduceAdd, Option.toList, List.cons_append, List.nil_append, List.drop]
          refine xS.s1 rfl rfl ?_
          try dsimp only [Nat.reduceAdd]
          refine xS.gR rfl rfl rfl ⟨by decide, rfl⟩ rfl ?_
          try dsimp only [Nat.reduceAdd]
          refine xS.s1 rfl rfl ?_
          try dsimp only [Nat.reduceAdd]
          refine xS.aR rfl rfl (by decide) (by omega) (xsh1_get (by omega)) ?_
          try dsimp only [Nat.reduceAdd]
          refine xS.s1 rfl rfl ?_
          try dsimp only [Nat.reduceAdd]
          refine xS.gR rfl rfl rfl ⟨by decide, rfl⟩ rfl ?_
          try dsimp only [Nat.reduceAdd]
          refine xS.s1 rfl rfl ?_
          try dsimp only [Nat.reduceAdd]
          refine xS.aR rfl rfl (by decide) (by omega) (xsh1_get (by omega)) ?_
          try dsimp only [Nat.reduceAdd]
          -- 96 yX11_firstNotShown
          refine xS.cv rfl rfl rfl rfl rfl rfl ⟨by decide, rfl, rfl⟩ (c_X11_firstNotShown hb hR hp (hR.2.2.1 s hk).2 (xce_row hp1) hs2 (by omega) hx2 (xce_row ht) hs (by omega)) (fun v M1 hv => ?_)
          rw [hv.1, hv.2]
          clear hv M1 v
          try dsimp only [Nat.reduceAdd, Option.toList, List.cons_append, List.nil_append, List.drop]
          refine xS.s1 rfl rfl ?_
          try dsimp only [Nat.reduceAdd]
          refine xS.s1 rfl rfl ?_
          try dsimp only [Nat.reduceAdd]
          refine xS.s1 rfl rfl ?_
          try dsimp only [Nat.reduceAdd, xj_m9]
          refine xS.br (c := .eq) (off := 10) (l := 3) rfl rfl (fun h105 => ?_) (fun h105 => ?_)
          · have g105 := xt_eq h105
            refine xS.s1 rfl rfl ?_
            try dsimp only [Nat.reduceAdd]
            refine xS.s1 rfl rfl ?_
            try dsimp only [Nat.reduceAdd]
            refine xS.s1 rfl rfl ?_
            try dsimp only [Nat.reduceAdd, xj_m9]
            refine xS.br (c := .ne) (off := 8) (l := 3) rfl rfl (fun h120 => ?_) (fun h120 => ?_)
            · have g120 := xt_ne h120
              refine xS.s1 rfl rfl ?_
              try dsimp only [Nat.reduceAdd]
              refine xS.pI rfl rfl rfl ⟨⟨by decide, rfl⟩, rfl, by decide, by decide⟩ rfl ?_
              try dsimp only [Nat.reduceAdd]
              refine xS.s1 rfl rfl ?_
              try dsimp only [Nat.reduceAdd]
              refine xS.s1 rfl rfl ?_
              try dsimp only [Nat.reduceAdd]
              refine xS.s1 rfl rfl ?_
              try dsimp only [Nat.reduceAdd, xj_m9]
              refine xS.br (c := .ne) (off := 7) (l := 3) rfl rfl (fun h151 => ?_) (fun h151 => ?_)
              · have g151 := xt_ne h151
                refine xS.s1 rfl rfl ?_
                try dsimp only [Nat.reduceAdd, xi_0]
                refine xS.s1 rfl rfl ?_
                try dsimp only [Nat.reduceAdd]
                refine xS.s1 rfl rfl ?_
                try dsimp only [Nat.reduceAdd, xj_m9]
                refine xS.br (c := .ne) (off := 7) (l := 3) rfl rfl (fun h163 => ?_) (fun h163 => ?_)
                · have g163 := xt_ne h163
                  refine xS.s1 rfl rfl ?_
                  try dsimp only [Nat.reduceAdd, xi_0]
                  refine xS.s1 rfl rfl ?_
                  try dsimp only [Nat.reduceAdd]
                  refine xS.ret rfl rfl rfl (fun _ _ => rfl) ?_
                  exact absurd g105 g151
                · have g163 := xf_ne h163
                  refine xS.s1 rfl rfl ?_
                  try dsimp only [Nat.reduceAdd, xi_2]
                  refine xS.s1 rfl rfl ?_
                  try dsimp only [Nat.reduceAdd]
                  refine xS.s1 rfl rfl ?_
                  try dsimp only [Nat.reduceAdd]
                  refine xS.ret rfl rfl rfl (fun _ _ => rfl) ?_
                  exact absurd g105 g151
              · have g151 := xf_ne h151
                refine xS.s1 rfl rfl ?_
                try dsimp only [Nat.reduceAdd, xi_1]
                refine xS.s1 rfl rfl ?_
                try dsimp only [Nat.reduceAdd]
                refine xS.s1 rfl rfl ?_
                try dsimp only [Nat.reduceAdd]
                refine xS.s1 rfl rfl ?_
                try dsimp only [Nat.reduceAdd, xj_m9]
                refine xS.br (c := .ne) (off := 7) (l := 3) rfl rfl (fun h163 => ?_) (fun h163 => ?_)
                · have g163 := xt_ne h163
                  refine xS.s1 rfl rfl ?_
                  try dsimp only [Nat.reduceAdd, xi_0]
                  refine xS.s1 rfl rfl ?_
                  try dsimp only [Nat.reduceAdd]
                  refine xS.ret rfl rfl rfl (fun _ _ => rfl) ?_
                  exact absurd g151 g120
                · have g163 := xf_ne h163
                  refine xS.s1 rfl rfl ?_
                  try dsimp only [Nat.reduceAdd, xi_2]
                  refine xS.s1 rfl rfl ?_
                  try dsimp only [Nat.reduceAdd]
                  refine xS.s1 rfl rfl ?_
                  try dsimp only [Nat.reduceAdd]
                  refine xS.ret rfl rfl rfl (fun _ _ => rfl) ?_
                  exact absurd g151 g120
            · have g120 := xf_ne h120
              refine xS.s1 rfl rfl ?_
              try dsimp only [Nat.reduceAdd]
              refine xS.s1 rfl rfl ?_
              try dsimp only [Nat.reduceAdd]
              refine xS.pI rfl rfl rfl ⟨⟨by decide, rfl⟩, rfl, by decide, by decide⟩ rfl ?_
              try dsimp only [Nat.reduceAdd]
              refine xS.s1 rfl rfl ?_
              try dsimp only [Nat.reduceAdd]
              refine xS.s1 rfl rfl ?_
              try dsimp only [Nat.reduceAdd]
              refine xS.s1 rfl rfl ?_
              try dsimp only [Nat.reduceAdd, xj_m9]
              refine xS.br (c := .ne) (off := 7) (l := 3) rfl rfl (fun h151 => ?_) (fun h151 => ?_)
              · have g151 := xt_ne h151
                refine xS.s1 rfl rfl ?_
                try dsimp only [Nat.reduceAdd, xi_0]
                refine xS.s1 rfl rfl ?_
                try dsimp only [Nat.reduceAdd]
                refine xS.s1 rfl rfl ?_
                try dsimp only [Nat.reduceAdd, xj_m9]
                refine xS.br (c := .ne) (off := 7) (l := 3) rfl rfl (fun h163 => ?_) (fun h163 => ?_)
                · have g163 := xt_ne h163
                  refine xS.s1 rfl rfl ?_
                  try dsimp only [Nat.reduceAdd, xi_0]
                  refine xS.s1 rfl rfl ?_
                  try dsimp only [Nat.reduceAdd]
                  refine xS.ret rfl rfl rfl (fun _ _ => rfl) ?_
                  exact absurd g105 g151
                · have g163 := xf_ne h163
                  refine xS.s1 rfl rfl ?_
                  try dsimp only [Nat.reduceAdd, xi_2]
                  refine xS.s1 rfl rfl ?_
                  try dsimp only [Nat.reduceAdd]
                  refine xS.s1 rfl rfl ?_
                  try dsimp only [Nat.reduceAdd]
                  refine xS.ret rfl rfl rfl (fun _ _ => rfl) ?_
                  exact absurd g105 g151
              · have g151 := xf_ne h151
                refine xS.s1 rfl rfl ?_
                try dsimp only [Nat.reduceAdd, xi_1]
                refine xS.s1 rfl rfl ?_
                try dsimp only [Nat.reduceAdd]
                refine xS.s1 rfl rfl ?_
                try dsimp only [Nat.reduceAdd]
                refine xS.s1 rfl rfl ?_
                try dsimp only [Nat.reduceAdd, xj_m9]
                refine xS.br (c := .ne) (off := 7) (l := 3) rfl rfl (fun h163 => ?_) (fun h163 => ?_)
                · have g163 := xt_ne h163
                  refine xS.s1 rfl rfl ?_
                  try dsimp only [Nat.reduceAdd, xi_0]
                  refine xS.s1 rfl rfl ?_
                  try dsimp only [Nat.reduceAdd]
                  refine xS.ret rfl rfl rfl (fun _ _ => rfl) ?_
                  have q1 := (xfI_none (xfI_b (by omega))).mp g151
                  have q2 := (not_congr (xfI_none (xfI_b (by omega)))).mp g163
                  refine ⟨?_, ?_⟩
                  · rw [xhe_1 q1]
                  · rw [xhr_e _ _ _ _ (by rw [if_pos q1]) (by rw [if_neg q2])]
                · have g163 := xf_ne h163
                  refine xS.s1 rfl rfl ?_
                  try dsimp only [Nat.reduceAdd, xi_2]
                  refine xS.s1 rfl rfl ?_
                  try dsimp only [Nat.reduceAdd]
                  refine xS.s1 rfl rfl ?_
                  try dsimp only [Nat.reduceAdd]
                  refine xS.ret rfl rfl rfl (fun _ _ => rfl) ?_
                  have q1 := (xfI_none (xfI_b (by omega))).mp g151
                  have q2 := (xfI_none (xfI_b (by omega))).mp g163
                  refine ⟨?_, ?_⟩
                  · rw [xhe_1 q1]
                  · rw [xhr_e _ _ _ _ (by rw [if_pos q1]) (by rw [if_pos q2])]
          · have g105 := xf_eq h105
            refine xS.s1 rfl rfl ?_
            try dsimp only [Nat.reduceAdd]
            refine xS.s1 rfl rfl ?_
            try dsimp only [Nat.reduceAdd, xj_m9]
            refine xS.br (c := .ne) (off := 24) (l := 3) rfl rfl (fun h112 => ?_) (fun h112 => ?_)
            · have g112 := xt_ne h112
              refine xS.s1 rfl rfl ?_
              try dsimp only [Nat.reduceAdd]
              refine xS.s1 rfl rfl ?_
              try dsimp only [Nat.reduceAdd]
              refine xS.s1 rfl rfl ?_
              try dsimp only [Nat.reduceAdd]
              refine xS.mn rfl rfl rfl ?_
              try dsimp only [Nat.reduceAdd]
              refine xS.pI rfl rfl rfl ⟨⟨by decide, rfl⟩, rfl, by decide, by decide⟩ rfl ?_
              try dsimp only [Nat.reduceAdd]
              refine xS.s1 rfl rfl ?_
              try dsimp only [Nat.reduceAdd]
              refine xS.s1 rfl rfl ?_
              try dsimp only [Nat.reduceAdd, xj_m9]
              refine xS.br (c := .ne) (off := 7) (l := 3) rfl rfl (fun h151 => ?_) (fun h151 => ?_)
              · have g151 := xt_ne h151
                refine xS.s1 rfl rfl ?_
                try dsimp only [Nat.reduceAdd, xi_0]
                refine xS.s1 rfl rfl ?_
                try dsimp only [Nat.reduceAdd]
                refine xS.s1 rfl rfl ?_
                try dsimp only [Nat.reduceAdd, xj_m9]
                refine xS.br (c := .ne) (off := 7) (l := 3) rfl rfl (fun h163 => ?_) (fun h163 => ?_)
                · have g163 := xt_ne h163
                  refine xS.s1 rfl rfl ?_
                  try dsimp only [Nat.reduceAdd, xi_0]
                  refine xS.s1 rfl rfl ?_
                  try dsimp only [Nat.reduceAdd]
                  refine xS.ret rfl rfl rfl (fun _ _ => rfl) ?_
                  have q1 := (not_congr (xfI_none (xfI_b (by omega)))).mp g151
                  have q2 := (not_congr (xfI_none (xfI_b (by omega)))).mp g163
                  refine ⟨?_, ?_⟩
                  · rw [← xhe_3 (xfI_b (by omega)) (xfI_b (by omega)) q1 q2]
                  · rw [xhr_e _ _ _ _ (by rw [if_neg q1]) (by rw [if_neg q2])]
                · have g163 := xf_ne h163
                  refine xS.s1 rfl rfl ?_
                  try dsimp only [Nat.reduceAdd, xi_2]
                  refine xS.s1 rfl rfl ?_
                  try dsimp only [Nat.reduceAdd]
                  refine xS.s1 rfl rfl ?_
                  try dsimp only [Nat.reduceAdd]
                  refine xS.ret rfl rfl rfl (fun _ _ => rfl) ?_
                  exact absurd g163 g112
              · have g151 := xf_ne h151
                refine xS.s1 rfl rfl ?_
                try dsimp only [Nat.reduceAdd, xi_1]
                refine xS.s1 rfl rfl ?_
                try dsimp only [Nat.reduceAdd]
                refine xS.s1 rfl rfl ?_
                try dsimp only [Nat.reduceAdd]
                refine xS.s1 rfl rfl ?_
                try dsimp only [Nat.reduceAdd, xj_m9]
                refine xS.br (c := .ne) (off := 7) (l := 3) rfl rfl (fun h163 => ?_) (fun h163 => ?_)
                · have g163 := xt_ne h163
                  refine xS.s1 rfl rfl ?_
                  try dsimp only [Nat.reduceAdd, xi_0]
                  refine xS.s1 rfl rfl ?_
                  try dsimp only [Nat.reduceAdd]
                  refine xS.ret rfl rfl rfl (fun _ _ => rfl) ?_
                  exact absurd g151 g105
                · have g163 := xf_ne h163
                  refine xS.s1 rfl rfl ?_
                  try dsimp only [Nat.reduceAdd, xi_2]
                  refine xS.s1 rfl rfl ?_
                  try dsimp only [Nat.reduceAdd]
                  refine xS.s1 rfl rfl ?_
                  try dsimp only [Nat.reduceAdd]
                  refine xS.ret rfl rfl rfl (fun _ _ => rfl) ?_
                  exact absurd g151 g105
            · have g112 := xf_ne h112
              refine xS.s1 rfl rfl ?_
              try dsimp only [Nat.reduceAdd]
              refine xS.s1 rfl rfl ?_
              try dsimp only [Nat.reduceAdd]
              refine xS.s1 rfl rfl ?_
              try dsimp only [Nat.reduceAdd, xj_m9]
              refine xS.br (c := .ne) (off := 8) (l := 3) rfl rfl (fun h120 => ?_) (fun h120 => ?_)
              · have g120 := xt_ne h120
                refine xS.s1 rfl rfl ?_
                try dsimp only [Nat.reduceAdd]
                refine xS.pI rfl rfl rfl ⟨⟨by decide, rfl⟩, rfl, by decide, by decide⟩ rfl ?_
                try dsimp only [Nat.reduceAdd]
                refine xS.s1 rfl rfl ?_
                try dsimp only [Nat.reduceAdd]
                refine xS.s1 rfl rfl ?_
                try dsimp only [Nat.reduceAdd]
                refine xS.s1 rfl rfl ?_
                try dsimp only [Nat.reduceAdd, xj_m9]
                refine xS.br (c := .ne) (off := 7) (l := 3) rfl rfl (fun h151 => ?_) (fun h151 => ?_)
                · have g151 := xt_ne h151
                  refine xS.s1 rfl rfl ?_
                  try dsimp only [Nat.reduceAdd, xi_0]
                  refine xS.s1 rfl rfl ?_
                  try dsimp only [Nat.reduceAdd]
                  refine xS.s1 rfl rfl ?_
                  try dsimp only [Nat.reduceAdd, xj_m9]
                  refine xS.br (c := .ne) (off := 7) (l := 3) rfl rfl (fun h163 => ?_) (fun h163 => ?_)
                  · have g163 := xt_ne h163
                    refine xS.s1 rfl rfl ?_
                    try dsimp only [Nat.reduceAdd, xi_0]
                    refine xS.s1 rfl rfl ?_
                    try dsimp only [Nat.reduceAdd]
                    refine xS.ret rfl rfl rfl (fun _ _ => rfl) ?_
                    exact absurd g112 g163
                  · have g163 := xf_ne h163
                    refine xS.s1 rfl rfl ?_
                    try dsimp only [Nat.reduceAdd, xi_2]
                    refine xS.s1 rfl rfl ?_
                    try dsimp only [Nat.reduceAdd]
                    refine xS.s1 rfl rfl ?_
                    try dsimp only [Nat.reduceAdd]
                    refine xS.ret rfl rfl rfl (fun _ _ => rfl) ?_
                    have q1 := (not_congr (xfI_none (xfI_b (by omega)))).mp g151
                    have q2 := (xfI_none (xfI_b (by omega))).mp g163
                    refine ⟨?_, ?_⟩
                    · rw [xhe_2 q2]
                    · rw [xhr_e _ _ _ _ (by rw [if_neg q1]) (by rw [if_pos q2])]
                · have g151 := xf_ne h151
                  refine xS.s1 rfl rfl ?_
                  try dsimp only [Nat.reduceAdd, xi_1]
                  refine xS.s1 rfl rfl ?_
                  try dsimp only [Nat.reduceAdd]
                  refine xS.s1 rfl rfl ?_
                  try dsimp only [Nat.reduceAdd]
                  refine xS.s1 rfl rfl ?_
                  try dsimp only [Nat.reduceAdd, xj_m9]
                  refine xS.br (c := .ne) (off := 7) (l := 3) rfl rfl (fun h163 => ?_) (fun h163 => ?_)
                  · have g163 := xt_ne h163
                    refine xS.s1 rfl rfl ?_
                    try dsimp only [Nat.reduceAdd, xi_0]
                    refine xS.s1 rfl rfl ?_
                    try dsimp only [Nat.reduceAdd]
                    refine xS.ret rfl rfl rfl (fun _ _ => rfl) ?_
                    exact absurd g151 g105
                  · have g163 := xf_ne h163
                    refine xS.s1 rfl rfl ?_
                    try dsimp only [Nat.reduceAdd, xi_2]
                    refine xS.s1 rfl rfl ?_
                    try dsimp only [Nat.reduceAdd]
                    refine xS.s1 rfl rfl ?_
                    try dsimp only [Nat.reduceAdd]
                    refine xS.ret rfl rfl rfl (fun _ _ => rfl) ?_
                    exact absurd g151 g105
              · have g120 := xf_ne h120
                refine xS.s1 rfl rfl ?_
                try dsimp only [Nat.reduceAdd]
                refine xS.s1 rfl rfl ?_
                try dsimp only [Nat.reduceAdd]
                refine xS.pI rfl rfl rfl ⟨⟨by decide, rfl⟩, rfl, by decide, by decide⟩ rfl ?_
                try dsimp only [Nat.reduceAdd]
                refine xS.s1 rfl rfl ?_
                try dsimp only [Nat.reduceAdd]
                refine xS.s1 rfl rfl ?_
                try dsimp only [Nat.reduceAdd]
                refine xS.s1 rfl rfl ?_
                try dsimp only [Nat.reduceAdd, xj_m9]
                refine xS.br (c := .ne) (off := 7) (l := 3) rfl rfl (fun h151 => ?_) (fun h151 => ?_)
                · have g151 := xt_ne h151
                  refine xS.s1 rfl rfl ?_
                  try dsimp only [Nat.reduceAdd, xi_0]
                  refine xS.s1 rfl rfl ?_
                  try dsimp only [Nat.reduceAdd]
                  refine xS.s1 rfl rfl ?_
                  try dsimp only [Nat.reduceAdd, xj_m9]
                  refine xS.br (c := .ne) (off := 7) (l := 3) rfl rfl (fun h163 => ?_) (fun h163 => ?_)
                  · have g163 := xt_ne h163
                    refine xS.s1 rfl rfl ?_
                    try dsimp only [Nat.reduceAdd, xi_0]
                    refine xS.s1 rfl rfl ?_
                    try dsimp only [Nat.reduceAdd]
                    refine xS.ret rfl rfl rfl (fun _ _ => rfl) ?_
                    exact absurd g112 g163
                  · have g163 := xf_ne h163
                    refine xS.s1 rfl rfl ?_
                    try dsimp only [Nat.reduceAdd, xi_2]
                    refine xS.s1 rfl rfl ?_
                    try dsimp only [Nat.reduceAdd]
                    refine xS.s1 rfl rfl ?_
                    try dsimp only [Nat.reduceAdd]
                    refine xS.ret rfl rfl rfl (fun _ _ => rfl) ?_
                    exact absurd g120 g151
                · have g151 := xf_ne h151
                  refine xS.s1 rfl rfl ?_
                  try dsimp only [Nat.reduceAdd, xi_1]
                  refine xS.s1 rfl rfl ?_
                  try dsimp only [Nat.reduceAdd]
                  refine xS.s1 rfl rfl ?_
                  try dsimp only [Nat.reduceAdd]
                  refine xS.s1 rfl rfl ?_
                  try dsimp only [Nat.reduceAdd, xj_m9]
                  refine xS.br (c := .ne) (off := 7) (l := 3) rfl rfl (fun h163 => ?_) (fun h163 => ?_)
                  · have g163 := xt_ne h163
                    refine xS.s1 rfl rfl ?_
                    try dsimp only [Nat.reduceAdd, xi_0]
                    refine xS.s1 rfl rfl ?_
                    try dsimp only [Nat.reduceAdd]
                    refine xS.ret rfl rfl rfl (fun _ _ => rfl) ?_
                    exact absurd g151 g105
                  · have g163 := xf_ne h163
                    refine xS.s1 rfl rfl ?_
                    try dsimp only [Nat.reduceAdd, xi_2]
                    refine xS.s1 rfl rfl ?_
                    try dsimp only [Nat.reduceAdd]
                    refine xS.s1 rfl rfl ?_
                    try dsimp only [Nat.reduceAdd]
                    refine xS.ret rfl rfl rfl (fun _ _ => rfl) ?_
                    exact absurd g151 g105
        · have g45 := xf_eq h45
          exfalso; first | exact absurd g45 (by decide) | (simp (disch := omega) only [Int32.lt_iff_toInt_lt, Int32.le_iff_toInt_le, nI_toInt, Int32.reduceToInt] at g45 <;> omega)
      · have g19 := xf_ne h19
        exfalso; first | exact absurd g19 (by decide) | (simp (disch := omega) only [Int32.lt_iff_toInt_lt, Int32.le_iff_toInt_le, nI_toInt, Int32.reduceToInt] at g19 <;> omega)

end
