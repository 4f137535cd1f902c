/-! LimpMirrorModel: digest -/
section
variable {k a c n n2 m t p s d i1 j1 : Nat} {b : Nat × Nat} {g : Nat → Nat → Int32} {l : Nat → Nat → Int64} {i j x y z v w : Int32} {u w1 w2 : Int64}
variable {L G T e1 q1 κ δ : Nat} {Lw f f2 : Nat → Nat} {h tx F4 Rw Rw2 O : Nat → Int32}
set_option maxRecDepth 10000 in
theorem c_X12_digest (hR : xRr g h tx G T Lw) (hD : xDr g h tx T G Lw F4 m) (hm : m ≤ 40) (hs : g 73 14 = nI m) (hz1 : ∀ q, q < 6 → xsz (g 74 q) 60) (hz2 : ∀ q, q < 4 → xsz (g 76 q) 60) (hz3 : ∀ q, q < 3 → xsz (g 86 q) 60) (hz1b : ∀ q, q < 6 → xsz (g 74 q) 40) : xT (k + 8) 238 [.ref 73] (xH b g l) (fun r M' => M' = xH b g (up l 73 31 (xda (g 76) (fun r i => g 77 (60 * r + i)) (xda (g 74) (fun r i => g 75 (40 * r + i)) (xdl (g 86) (xdl F4 (xdl tx (xdG (xgf (fun _ => F4) Lw m) 4 (xdl h (xdl (xctr g F4 G T m Lw) 17 9) 6) G) (2 * T)) (4 * m)) 3) 6) 4)) ∧ r = some (.long (xda (g 76) (fun r i => g 77 (60 * r + i)) (xda (g 74) (fun r i => g 75 (40 * r + i)) (xdl (g 86) (xdl F4 (xdl tx (xdG (xgf (fun _ => F4) Lw m) 4 (xdl h (xdl (xctr g F4 G T m Lw) 17 9) 6) G) (2 * T)) (4 * m)) 3) 6) 4))) := by
  have h6 := hR.1.2
  have h8 := hR.2.1.2
  refine xT.of rfl (Nat.le_of_ble_eq_true rfl) ?_
  change xS _ _ 0 [(0, .ref 73)] [] _ _
  refine xS.s1 rfl rfl ?_
  try dsimp only [Nat.reduceAdd]
  refine xS.s1 rfl rfl ?_
  try dsimp only [Nat.reduceAdd]
  refine xS.pL rfl rfl rfl ⟨⟨by decide, rfl⟩, rfl, by decide, by decide⟩ rfl ?_
  try dsimp only [Nat.reduceAdd]
  refine xS.s1 rfl rfl ?_
  try dsimp only [Nat.reduceAdd, xi_0]
  refine xS.s1 rfl rfl ?_
  try dsimp only [Nat.reduceAdd]
  refine xS.pick [0, 1] rfl ?_
  refine xS.loop (σ := Unit) (9) (fun j S => [(1, .int (nI j)), (0, .ref 73)]) (fun j _ => xH b g (up l 73 31 (xdl (xctr g F4 G T m Lw) 17 j))) (fun _ _ => True) (()) (rfl) (rfl) (trivial) ?_
  intro j S9 hj hI9 ih
  try dsimp only
  refine xS.s1 rfl rfl ?_
  try dsimp only [Nat.reduceAdd]
  refine xS.s1 rfl rfl ?_
  try dsimp only [Nat.reduceAdd, xj_9]
  refine xS.br (c := .ge) (off := 18) (l := 3) rfl rfl (fun h12 => ?_) (fun h12 => ?_)
  · have g12 := xt_ge h12
    have e := xnle (b := 9) g12 (by omega) (by omega)
    have e2 : 9 = j := by omega
    subst e2
    refine xS.s1 rfl rfl ?_
    try dsimp only [Nat.reduceAdd, xi_0]
    refine xS.s1 rfl rfl ?_
    try dsimp only [Nat.reduceAdd]
    refine xS.pick [0, 1] rfl ?_
    refine xS.loop (σ := Unit) (6) (fun j S => [(1, .int (nI j)), (0, .ref 73)]) (fun j _ => xH b g (up l 73 31 (xdl h (xdl (xctr g F4 G T m Lw) 17 9) j))) (fun _ _ => True) (()) (rfl) (rfl) (trivial) ?_
    intro j S32 hj hI32 ih
    try dsimp only
    refine xS.s1 rfl rfl ?_
    try dsimp only [Nat.reduceAdd]
    refine xS.s1 rfl rfl ?_
    try dsimp only [Nat.reduceAdd, xj_6]
    refine xS.br (c := .ge) (off := 19) (l := 3) rfl rfl (fun h35 => ?_) (fun h35 => ?_)
    · have g35 := xt_ge h35
      have e := xnle (b := 6) g35 (by omega) (by omega)
      have e2 : 6 = j := by omega
      subst e2
      refine xS.s1 rfl rfl ?_
      try dsimp only [Nat.reduceAdd, xi_0]
      refine xS.s1 rfl rfl ?_
      try dsimp only [Nat.reduceAdd]
      refine xS.pick [0, 1] rfl ?_
      refine xS.loop (σ := Unit) (G) (fun j S => [(1, .int (nI j)), (0, .ref 73)]) (fun j _ => xH b g (up l 73 31 (xdG (xgf (fun _ => F4) Lw m) 4 (xdl h (xdl (xctr g F4 G T m Lw) 17 9) 6) j))) (fun _ _ => True) (()) (rfl) (rfl) (trivial) ?_
      intro j S56 hj hI56 ih
      try dsimp only
      refine xS.s1 rfl rfl ?_
      try dsimp only [Nat.reduceAdd]
      refine xS.s1 rfl rfl ?_
      try dsimp only [Nat.reduceAdd]
      refine xS.gI rfl rfl rfl ⟨by decide, rfl⟩ rfl ?_
      try dsimp only [Nat.reduceAdd]
      refine xS.br (c := .ge) (off := 116) (l := 3) rfl rfl (fun h61 => ?_) (fun h61 => ?_)
      · have g61 := xt_ge h61
        rw [hR.1.1] at g61
        have e := xnle (b := G) g61 (by omega) (by omega)
        have e2 : G = j := by omega
        subst e2
        refine xS.s1 rfl rfl ?_
        try dsimp only [Nat.reduceAdd, xi_0]
        refine xS.s1 rfl rfl ?_
        try dsimp only [Nat.reduceAdd]
        refine xS.pick [0, 1] rfl ?_
        refine xS.loop (σ := Unit) (2 * T) (fun j S => [(1, .int (nI j)), (0, .ref 73)]) (fun j _ => xH b g (up l 73 31 (xdl tx (xdG (xgf (fun _ => F4) Lw m) 4 (xdl h (xdl (xctr g F4 G T m Lw) 17 9) 6) G) j))) (fun _ _ => True) (()) (rfl) (rfl) (trivial) ?_
        intro j S179 hj hI179 ih
        try dsimp only
        refine xS.s1 rfl rfl ?_
        try dsimp only [Nat.reduceAdd]
        refine xS.s1 rfl rfl ?_
        try dsimp only [Nat.reduceAdd, xi_2]
        refine xS.s1 rfl rfl ?_
        try dsimp only [Nat.reduceAdd]
        refine xS.gI rfl rfl rfl ⟨by decide, rfl⟩ rfl ?_
        try dsimp only [Nat.reduceAdd]
        refine xS.s1 rfl rfl ?_
        try dsimp only [Nat.reduceAdd]
        rw [hR.2.1.1, show (2 : Int32) * nI T = nI (2 * T) from pk_mul 2 T]
        refine xS.br (c := .ge) (off := 19) (l := 3) rfl rfl (fun h186 => ?_) (fun h186 => ?_)
        · have g186 := xt_ge h186
          have e := xnle (b := 2 * T) g186 (by omega) (by omega)
          have e2 : 2 * T = j := by omega
          subst e2
          refine xS.s1 rfl rfl ?_
          try dsimp only [Nat.reduceAdd, xi_0]
          refine xS.s1 rfl rfl ?_
          try dsimp only [Nat.reduceAdd]
          refine xS.pick [0, 1] rfl ?_
          refine xS.loop (σ := Unit) (m) (fun j S => [(1, .int (nI j)), (0, .ref 73)]) (fun j _ => xH b g (up l 73 31 (xdl F4 (xdl tx (xdG (xgf (fun _ => F4) Lw m) 4 (xdl h (xdl (xctr g F4 G T m Lw) 17 9) 6) G) (2 * T)) (4 * j)))) (fun _ _ => True) (()) (rfl) (rfl) (trivial) ?_
          intro j S207 hj hI207 ih
          try dsimp only
          refine xS.s1 rfl rfl ?_
          try dsimp only [Nat.reduceAdd]
          refine xS.s1 rfl rfl ?_
          try dsimp only [Nat.reduceAdd]
          refine xS.gI rfl rfl rfl ⟨by decide, rfl⟩ rfl ?_
          try dsimp only [Nat.reduceAdd]
          refine xS.br (c := .ge) (off := 47) (l := 3) rfl rfl (fun h212 => ?_) (fun h212 => ?_)
          · have g212 := xt_ge h212
            rw [hs] at g212
            have e := xnle (b := m) g212 (by omega) (by omega)
            have e2 : m = j := by omega
            subst e2
            refine xS.s1 rfl rfl ?_
            try dsimp only [Nat.reduceAdd, xi_0]
            refine xS.s1 rfl rfl ?_
            try dsimp only [Nat.reduceAdd]
            refine xS.pick [0, 1] rfl ?_
            refine xS.loop (σ := Unit) (3) (fun j S => [(1, .int (nI j)), (0, .ref 73)]) (fun j _ => xH b g (up l 73 31 (xdl (g 86) (xdl F4 (xdl tx (xdG (xgf (fun _ => F4) Lw m) 4 (xdl h (xdl (xctr g F4 G T m Lw) 17 9) 6) G) (2 * T)) (4 * m)) j))) (fun _ _ => True) (()) (rfl) (rfl) (trivial) ?_
            intro j S261 hj hI261 ih
            try dsimp only
            refine xS.s1 rfl rfl ?_
            try dsimp only [Nat.reduceAdd]
            refine xS.s1 rfl rfl ?_
            try dsimp only [Nat.reduceAdd, xi_3]
            refine xS.br (c := .ge) (off := 19) (l := 3) rfl rfl (fun h263 => ?_) (fun h263 => ?_)
            · have g263 := xt_ge h263
              have e := xnle (b := 3) g263 (by omega) (by omega)
              have e2 : 3 = j := by omega
              subst e2
              refine xS.s1 rfl rfl ?_
              try dsimp only [Nat.reduceAdd, xi_0]
              refine xS.s1 rfl rfl ?_
              try dsimp only [Nat.reduceAdd]
              refine xS.pick [0, 1] rfl ?_
              refine xS.loop (σ := Unit) (6) (fun j S => [(1, .int (nI j)), (0, .ref 73)]) (fun j _ => xH b g (up l 73 31 (xda (g 74) (fun r i => g 75 (40 * r + i)) (xdl (g 86) (xdl F4 (xdl tx (xdG (xgf (fun _ => F4) Lw m) 4 (xdl h (xdl (xctr g F4 G T m Lw) 17 9) 6) G) (2 * T)) (4 * m)) 3) j))) (fun _ _ => True) (()) (rfl) (rfl) (trivial) ?_
              intro j S284 hj hI284 ih
              try dsimp only
              refine xS.s1 rfl rfl ?_
              try dsimp only [Nat.reduceAdd]
              refine xS.s1 rfl rfl ?_
              try dsimp only [Nat.reduceAdd, xj_6]
              refine xS.br (c := .ge) (off := 52) (l := 3) rfl rfl (fun h287 => ?_) (fun h287 => ?_)
              · have g287 := xt_ge h287
                have e := xnle (b := 6) g287 (by omega) (by omega)
                have e2 : 6 = j := by omega
                subst e2
                refine xS.s1 rfl rfl ?_
                try dsimp only [Nat.reduceAdd, xi_0]
                refine xS.s1 rfl rfl ?_
                try dsimp only [Nat.reduceAdd]
                refine xS.pick [0, 1] rfl ?_
                refine xS.loop (σ := Unit) (4) (fun j S => [(1, .int (nI j)), (0, .ref 73)]) (fun j _ => xH b g (up l 73 31 (xda (g 76) (fun r i => g 77 (60 * r + i)) (xda (g 74) (fun r i => g 75 (40 * r + i)) (xdl (g 86) (xdl F4 (xdl tx (xdG (xgf (fun _ => F4) Lw m) 4 (xdl h (xdl (xctr g F4 G T m Lw) 17 9) 6) G) (2 * T)) (4 * m)) 3) 6) j))) (fun _ _ => True) (()) (rfl) (rfl) (trivial) ?_
                intro j S341 hj hI341 ih
                try dsimp only
                refine xS.s1 rfl rfl ?_
                try dsimp only [Nat.reduceAdd]
                refine xS.s1 rfl rfl ?_
                try dsimp only [Nat.reduceAdd, xi_4]
                refine xS.br (c := .ge) (off := 52) (l := 3) rfl rfl (fun h343 => ?_) (fun h343 => ?_)
                · have g343 := xt_ge h343
                  have e := xnle (b := 4) g343 (by omega) (by omega)
                  have e2 : 4 = j := by omega
                  subst e2
                  refine xS.s1 rfl rfl ?_
                  try dsimp only [Nat.reduceAdd]
                  refine xS.gL rfl rfl rfl ⟨by decide, rfl⟩ rfl ?_
                  try dsimp only [Nat.reduceAdd]
                  refine xS.ret rfl rfl rfl (fun _ _ => rfl) ?_
                  rw [up_same]
                  exact ⟨rfl, rfl⟩
                · have g343 := xf_ge h343
                  have hlt := xnlt (b := 4) g343 (by omega) (by omega)
                  have hln := xsz_le (hz2 j hlt) (by omega)
                  refine xS.s1 rfl rfl ?_
                  try dsimp only [Nat.reduceAdd]
                  refine xS.s1 rfl rfl ?_
                  try dsimp only [Nat.reduceAdd]
                  refine xS.gR rfl rfl rfl ⟨by decide, rfl⟩ rfl ?_
                  try dsimp only [Nat.reduceAdd]
                  refine xS.s1 rfl rfl ?_
                  try dsimp only [Nat.reduceAdd]
                  refine xS.ia rfl xar_76 (by omega) ?_
                  try dsimp only [Nat.reduceAdd]
                  -- 353 yX12_add
                  refine xS.cv rfl rfl rfl rfl rfl rfl ⟨by decide, rfl, rfl⟩ c_X12_add (fun v M1 hv => ?_)
                  rw [hv.1, hv.2]
                  clear hv M1 v
                  try dsimp only [Nat.reduceAdd, Option.toList, List.cons_append, List.nil_append, List.drop]
                  refine xS.s1 rfl rfl ?_
                  try dsimp only [Nat.reduceAdd, xi_0]
                  refine xS.s1 rfl rfl ?_
                  try dsimp only [Nat.reduceAdd]
                  refine xS.pick [0, 2, 1] rfl ?_
                  refine xS.loop (σ := Unit) (xN (g 76 j)) (fun i S => [(2, .int (nI i)), (0, .ref 73), (1, .int (nI j))]) (fun i _ => xH b g (up l 73 31 (xdl (fun i => g 77 (60 * j + i)) (xdg (xda (g 76) (fun r i => g 77 (60 * r + i)) (xda (g 74) (fun r i => g 75 (40 * r + i)) (xdl (g 86) (xdl F4 (xdl tx (xdG (xgf (fun _ => F4) Lw m) 4 (xdl h (xdl (xctr g F4 G T m Lw) 17 9) 6) G) (2 * T)) (4 * m)) 3) 6) j) (g 76 j)) i))) (fun _ _ => True) (()) (rfl) (rfl) (trivial) ?_
                  intro i S358 hi hI358 ih2
                  try dsimp only
                  refine xS.s1 rfl rfl ?_
                  try dsimp only [Nat.reduceAdd]
                  refine xS.s1 rfl rfl ?_
                  try dsimp only [Nat.reduceAdd]
                  refine xS.gR rfl rfl rfl ⟨by decide, rfl⟩ rfl ?_
                  try dsimp only [Nat.reduceAdd]
                  refine xS.s1 rfl rfl ?_
                  try dsimp only [Nat.reduceAdd]
                  refine xS.ia rfl xar_76 (by omega) ?_
                  try dsimp only [Nat.reduceAdd]
                  refine xS.br (c := .ge) (off := 24) (l := 3) rfl rfl (fun h365 => ?_) (fun h365 => ?_)
                  · have g365 := xt_ge h365
                    refine xS.s1 rfl rfl ?_
                    try dsimp only [Nat.reduceAdd, xi_1]
                    rw [nI_1]
                    refine xS.s1 rfl rfl ?_
                    try dsimp only [Nat.reduceAdd]
                    refine xS.pick [0, 2] rfl ?_
                    have ei : xN (g 76 j) = i := by
                      have := (not_congr (xsz_lt (hz2 j hlt) (by omega) (by omega : i < 2 ^ 31))).mp (Int32.not_lt.mpr g365)
                      omega
                    subst ei
                    exact ih () (by omega) trivial
                  · have g365 := xf_ge h365
                    have hl2 := (xsz_lt (hz2 j hlt) (by omega) (by omega)).mp g365
                    refine xS.s1 rfl rfl ?_
                    try dsimp only [Nat.reduceAdd]
                    refine xS.s1 rfl rfl ?_
                    try dsimp only [Nat.reduceAdd]
                    refine xS.gR rfl rfl rfl ⟨by decide, rfl⟩ rfl ?_
                    try dsimp only [Nat.reduceAdd]
                    refine xS.s1 rfl rfl ?_
                    try dsimp only [Nat.reduceAdd, xj_60]
                    refine xS.s1 rfl rfl ?_
                    try dsimp only [Nat.reduceAdd]
                    refine xS.s1 rfl rfl ?_
                    try dsimp only [Nat.reduceAdd]
                    refine xS.s1 rfl rfl ?_
                    try dsimp only [Nat.reduceAdd]
                    refine xS.s1 rfl rfl ?_
                    try dsimp only [Nat.reduceAdd]
                    rw [show (((60 * nI j) + nI i) : Int32) = nI ((60 * j) + i) from by simp only [← nI_add, ← pk_mul]; rfl]
                    refine xS.ia rfl xar_77 (by omega) ?_
                    try dsimp only [Nat.reduceAdd]
                    -- 380 yX12_add
                    refine xS.cv rfl rfl rfl rfl rfl rfl ⟨by decide, rfl, rfl⟩ c_X12_add (fun v M1 hv => ?_)
                    rw [hv.1, hv.2]
                    clear hv M1 v
                    try dsimp only [Nat.reduceAdd, Option.toList, List.cons_append, List.nil_append, List.drop]
                    refine xS.s1 rfl rfl ?_
                    try dsimp only [Nat.reduceAdd, xi_1]
                    rw [nI_1]
                    refine xS.s1 rfl rfl ?_
                    try dsimp only [Nat.reduceAdd]
                    refine xS.pick [0, 1, 2] rfl ?_
                    exact ih2 () (by omega) trivial
              · have g287 := xf_ge h287
                have hlt := xnlt (b := 6) g287 (by omega) (by omega)
                have hln := xsz_le (hz1b j hlt) (by omega)
                refine xS.s1 rfl rfl ?_
                try dsimp only [Nat.reduceAdd]
                refine xS.s1 rfl rfl ?_
                try dsimp only [Nat.reduceAdd]
                refine xS.gR rfl rfl rfl ⟨by decide, rfl⟩ rfl ?_
                try dsimp only [Nat.reduceAdd]
                refine xS.s1 rfl rfl ?_
                try dsimp only [Nat.reduceAdd]
                refine xS.ia rfl xar_74 (by omega) ?_
                try dsimp only [Nat.reduceAdd]
                -- 297 yX12_add
                refine xS.cv rfl rfl rfl rfl rfl rfl ⟨by decide, rfl, rfl⟩ c_X12_add (fun v M1 hv => ?_)
                rw [hv.1, hv.2]
                clear hv M1 v
                try dsimp only [Nat.reduceAdd, Option.toList, List.cons_append, List.nil_append, List.drop]
                refine xS.s1 rfl rfl ?_
                try dsimp only [Nat.reduceAdd, xi_0]
                refine xS.s1 rfl rfl ?_
                try dsimp only [Nat.reduceAdd]
                refine xS.pick [0, 2, 1] rfl ?_
                refine xS.loop (σ := Unit) (xN (g 74 j)) (fun i S => [(2, .int (nI i)), (0, .ref 73), (1, .int (nI j))]) (fun i _ => xH b g (up l 73 31 (xdl (fun i => g 75 (40 * j + i)) (xdg (xda (g 74) (fun r i => g 75 (40 * r + i)) (xdl (g 86) (xdl F4 (xdl tx (xdG (xgf (fun _ => F4) Lw m) 4 (xdl h (xdl (xctr g F4 G T m Lw) 17 9) 6) G) (2 * T)) (4 * m)) 3) j) (g 74 j)) i))) (fun _ _ => True) (()) (rfl) (rfl) (trivial) ?_
                intro i S302 hi hI302 ih2
                try dsimp only
                refine xS.s1 rfl rfl ?_
                try dsimp only [Nat.reduceAdd]
                refine xS.s1 rfl rfl ?_
                try dsimp only [Nat.reduceAdd]
                refine xS.gR rfl rfl rfl ⟨by decide, rfl⟩ rfl ?_
                try dsimp only [Nat.reduceAdd]
                refine xS.s1 rfl rfl ?_
                try dsimp only [Nat.reduceAdd]
                refine xS.ia rfl xar_74 (by omega) ?_
                try dsimp only [Nat.reduceAdd]
                refine xS.br (c := .ge) (off := 24) (l := 3) rfl rfl (fun h309 => ?_) (fun h309 => ?_)
                · have g309 := xt_ge h309
                  refine xS.s1 rfl rfl ?_
                  try dsimp only [Nat.reduceAdd, xi_1]
                  rw [nI_1]
                  refine xS.s1 rfl rfl ?_
                  try dsimp only [Nat.reduceAdd]
                  refine xS.pick [0, 2] rfl ?_
                  have ei : xN (g 74 j) = i := by
                    have := (not_congr (xsz_lt (hz1 j hlt) (by omega) (by omega : i < 2 ^ 31))).mp (Int32.not_lt.mpr g309)
                    omega
                  subst ei
                  exact ih () (by omega) trivial
                · have g309 := xf_ge h309
                  have hl2 := (xsz_lt (hz1 j hlt) (by omega) (by omega)).mp g309
                  refine xS.s1 rfl rfl ?_
                  try dsimp only [Nat.reduceAdd]
                  refine xS.s1 rfl rfl ?_
                  try dsimp only [Nat.reduceAdd]
                  refine xS.gR rfl rfl rfl ⟨by decide, rfl⟩ rfl ?_
                  try dsimp only [Nat.reduceAdd]
                  refine xS.s1 rfl rfl ?_
                  try dsimp only [Nat.reduceAdd, xj_40]
                  refine xS.s1 rfl rfl ?_
                  try dsimp only [Nat.reduceAdd]
                  refine xS.s1 rfl rfl ?_
                  try dsimp only [Nat.reduceAdd]
                  refine xS.s1 rfl rfl ?_
                  try dsimp only [Nat.reduceAdd]
                  refine xS.s1 rfl rfl ?_
                  try dsimp only [Nat.reduceAdd]
                  rw [show (((40 * nI j) + nI i) : Int32) = nI ((40 * j) + i) from by simp only [← nI_add, ← pk_mul]; rfl]
                  refine xS.ia rfl xar_75 (by omega) ?_
                  try dsimp only [Nat.reduceAdd]
                  -- 324 yX12_add
                  refine xS.cv rfl rfl rfl rfl rfl rfl ⟨by decide, rfl, rfl⟩ c_X12_add (fun v M1 hv => ?_)
                  rw [hv.1, hv.2]
                  clear hv M1 v
                  try dsimp only [Nat.reduceAdd, Option.toList, List.cons_append, List.nil_append, List.drop]
                  refine xS.s1 rfl rfl ?_
                  try dsimp only [Nat.reduceAdd, xi_1]
                  rw [nI_1]
                  refine xS.s1 rfl rfl ?_
                  try dsimp only [Nat.reduceAdd]
                  refine xS.pick [0, 1, 2] rfl ?_
                  exact ih2 () (by omega) trivial
            · have g263 := xf_ge h263
              have hlt := xnlt (b := 3) g263 (by omega) (by omega)
              refine xS.s1 rfl rfl ?_
              try dsimp only [Nat.reduceAdd]
              refine xS.s1 rfl rfl ?_
              try dsimp only [Nat.reduceAdd]
              refine xS.gR rfl rfl rfl ⟨by decide, rfl⟩ rfl ?_
              try dsimp only [Nat.reduceAdd]
              refine xS.s1 rfl rfl ?_
              try dsimp only [Nat.reduceAdd]
              refine xS.ia rfl xar_86 (by omega) ?_
              try dsimp only [Nat.reduceAdd]
              -- 273 yX12_add
              refine xS.cv rfl rfl rfl rfl rfl rfl ⟨by decide, rfl, rfl⟩ c_X12_add (fun v M1 hv => ?_)
              rw [hv.1, hv.2]
              clear hv M1 v
              try dsimp only [Nat.reduceAdd, Option.toList, List.cons_append, List.nil_append, List.drop]
              refine xS.s1 rfl rfl ?_
              try dsimp only [Nat.reduceAdd, xi_1]
              rw [nI_1]
              refine xS.s1 rfl rfl ?_
              try dsimp only [Nat.reduceAdd]
              refine xS.pick [0, 1] rfl ?_
              exact ih () (by omega) trivial
          · have g212 := xf_ge h212
            rw [hs] at g212
            have hlt := xnlt (b := m) g212 (by omega) (by omega)
            obtain ⟨s9, k9, p1, p2, p3, p4, p5, p6, p7, p8⟩ := hD j hlt
            refine xS.s1 rfl rfl ?_
            try dsimp only [Nat.reduceAdd]
            refine xS.s1 rfl rfl ?_
            try dsimp only [Nat.reduceAdd]
            refine xS.gR rfl rfl rfl ⟨by decide, rfl⟩ rfl ?_
            try dsimp only [Nat.reduceAdd]
            refine xS.s1 rfl rfl ?_
            try dsimp only [Nat.reduceAdd]
            refine xS.ia rfl xar_84 (by omega) ?_
            try dsimp only [Nat.reduceAdd]
            rw [p7, ← p3]
            -- 222 yX12_add
            refine xS.cv rfl rfl rfl rfl rfl rfl ⟨by decide, rfl, rfl⟩ c_X12_add (fun v M1 hv => ?_)
            rw [hv.1, hv.2]
            clear hv M1 v
            try dsimp only [Nat.reduceAdd, Option.toList, List.cons_append, List.nil_append, List.drop]
            refine xS.s1 rfl rfl ?_
            try dsimp only [Nat.reduceAdd]
            refine xS.s1 rfl rfl ?_
            try dsimp only [Nat.reduceAdd]
            refine xS.gR rfl rfl rfl ⟨by decide, rfl⟩ rfl ?_
            try dsimp only [Nat.reduceAdd]
            refine xS.s1 rfl rfl ?_
            try dsimp only [Nat.reduceAdd]
            refine xS.ia rfl xar_85 (by omega) ?_
            try dsimp only [Nat.reduceAdd]
            rw [p8, ← p4]
            -- 232 yX12_add
            refine xS.cv rfl rfl rfl rfl rfl rfl ⟨by decide, rfl, rfl⟩ c_X12_add (fun v M1 hv => ?_)
            rw [hv.1, hv.2]
            clear hv M1 v
            try dsimp only [Nat.reduceAdd, Option.toList, List.cons_append, List.nil_append, List.drop]
            refine xS.s1 rfl rfl ?_
            try dsimp only [Nat.reduceAdd]
            refine xS.s1 rfl rfl ?_
            try dsimp only [Nat.reduceAdd]
            refine xS.s1 rfl rfl ?_
            try dsimp only [Nat.reduceAdd]
            -- 238 yX12_shownOf
            refine xS.cv rfl rfl rfl rfl rfl rfl ⟨by decide, rfl, rfl⟩ (c_X12_shownOf hR hD hm hlt) (fun v M1 hv => ?_)
            rw [hv.1, hv.2]
            clear hv M1 v
            try dsimp only [Nat.reduceAdd, Option.toList, List.cons_append, List.nil_append, List.drop]
            -- 241 yX12_add
            refine xS.cv rfl rfl rfl rfl rfl rfl ⟨by decide, rfl, rfl⟩ c_X12_add (fun v M1 hv => ?_)
            rw [hv.1, hv.2]
            clear hv M1 v
            try dsimp only [Nat.reduceAdd, Option.toList, List.cons_append, List.nil_append, List.drop]
            refine xS.s1 rfl rfl ?_
            try dsimp only [Nat.reduceAdd]
            refine xS.s1 rfl rfl ?_
            try dsimp only [Nat.reduceAdd]
            refine xS.s1 rfl rfl ?_
            try dsimp only [Nat.reduceAdd]
            -- 247 yX12_brokenBy
            refine xS.cv rfl rfl rfl rfl rfl rfl ⟨by decide, rfl, rfl⟩ (c_X12_brokenBy hR hD hm hlt) (fun v M1 hv => ?_)
            rw [hv.1, hv.2]
            clear hv M1 v
            try dsimp only [Nat.reduceAdd, Option.toList, List.cons_append, List.nil_append, List.drop]
            -- 250 yX12_add
            refine xS.cv rfl rfl rfl rfl rfl rfl ⟨by decide, rfl, rfl⟩ c_X12_add (fun v M1 hv => ?_)
            rw [hv.1, hv.2]
            clear hv M1 v
            try dsimp only [Nat.reduceAdd, Option.toList, List.cons_append, List.nil_append, List.drop]
            refine xS.s1 rfl rfl ?_
            try dsimp only [Nat.reduceAdd, xi_1]
            rw [nI_1]
            refine xS.s1 rfl rfl ?_
            try dsimp only [Nat.reduceAdd]
            refine xS.pick [0, 1] rfl ?_
            exact ih () (by omega) trivial
        · have g186 := xf_ge h186
          have hlt := xnlt (b := 2 * T) g186 (by omega) (by omega)
          refine xS.s1 rfl rfl ?_
          try dsimp only [Nat.reduceAdd]
          refine xS.s1 rfl rfl ?_
          try dsimp only [Nat.reduceAdd]
          refine xS.gR rfl rfl rfl ⟨by decide, rfl⟩ rfl ?_
          try dsimp only [Nat.reduceAdd]
          refine xS.s1 rfl rfl ?_
          try dsimp only [Nat.reduceAdd]
          refine xS.ia rfl xar_83 (by omega) ?_
          try dsimp only [Nat.reduceAdd]
          rw [hR.2.2.2.2 j hlt]
          -- 196 yX12_add
          refine xS.cv rfl rfl rfl rfl rfl rfl ⟨by decide, rfl, rfl⟩ c_X12_add (fun v M1 hv => ?_)
          rw [hv.1, hv.2]
          clear hv M1 v
          try dsimp only [Nat.reduceAdd, Option.toList, List.cons_append, List.nil_append, List.drop]
          refine xS.s1 rfl rfl ?_
          try dsimp only [Nat.reduceAdd, xi_1]
          rw [nI_1]
          refine xS.s1 rfl rfl ?_
          try dsimp only [Nat.reduceAdd]
          refine xS.pick [0, 1] rfl ?_
          exact ih () (by omega) trivial
      · have g61 := xf_ge h61
        rw [hR.1.1] at g61
        have hlt := xnlt (b := G) g61 (by omega) (by omega)
        obtain ⟨r1, r2, r3⟩ := hR.2.2.1 j hlt
        refine xS.s1 rfl rfl ?_
        try dsimp only [Nat.reduceAdd, xi_0]
        refine xS.s1 rfl rfl ?_
        try dsimp only [Nat.reduceAdd]
        refine xS.s1 rfl rfl ?_
        try dsimp only [Nat.reduceAdd, xi_0]
        refine xS.s1 rfl rfl ?_
        try dsimp only [Nat.reduceAdd]
        refine xS.s1 rfl rfl ?_
        try dsimp only [Nat.reduceAdd, xi_0]
        refine xS.s1 rfl rfl ?_
        try dsimp only [Nat.reduceAdd]
        refine xS.pick [0, 2, 1, 4, 3] rfl ?_
        refine xS.loop (σ := Unit) (m) (fun i S => [(4, .int (nI i)), (2, .int (nI (xcnt (fun d => decide (F4 (4 * d + 1) = nI j)) i))), (3, .int (nI (xcnt (fun d => decide (F4 (4 * d + 1) = nI j) && !decide (F4 (4 * d + 3) = -9)) i))), (0, .ref 73), (1, .int (nI j))]) (fun _ _ => xH b g (up l 73 31 (xdG (xgf (fun _ => F4) Lw m) 4 (xdl h (xdl (xctr g F4 G T m Lw) 17 9) 6) j))) (fun _ _ => True) (()) (rfl) (rfl) (trivial) ?_
        intro i S71 hi hI71 ih2
        try dsimp only
        refine xS.s1 rfl rfl ?_
        try dsimp only [Nat.reduceAdd]
        refine xS.s1 rfl rfl ?_
        try dsimp only [Nat.reduceAdd]
        refine xS.gI rfl rfl rfl ⟨by decide, rfl⟩ rfl ?_
        try dsimp only [Nat.reduceAdd]
        refine xS.br (c := .ge) (off := 58) (l := 3) rfl rfl (fun h77 => ?_) (fun h77 => ?_)
        · have g77 := xt_ge h77
          rw [hs] at g77
          have e := xnle (b := m) g77 (by omega) (by omega)
          have e3 : m = i := by omega
          subst e3
          refine xS.s1 rfl rfl ?_
          try dsimp only [Nat.reduceAdd]
          refine xS.s1 rfl rfl ?_
          try dsimp only [Nat.reduceAdd]
          refine xS.gR rfl rfl rfl ⟨by decide, rfl⟩ rfl ?_
          try dsimp only [Nat.reduceAdd]
          refine xS.s1 rfl rfl ?_
          try dsimp only [Nat.reduceAdd, xi_2]
          refine xS.s1 rfl rfl ?_
          try dsimp only [Nat.reduceAdd]
          refine xS.s1 rfl rfl ?_
          try dsimp only [Nat.reduceAdd]
          rw [show ((2 * nI j) : Int32) = nI (2 * j) from by simp only [← nI_add, ← pk_mul]; rfl]
          refine xS.ia rfl xar_82 (by omega) ?_
          try dsimp only [Nat.reduceAdd]
          rw [r1]
          -- 144 yX12_add
          refine xS.cv rfl rfl rfl rfl rfl rfl ⟨by decide, rfl, rfl⟩ c_X12_add (fun v M1 hv => ?_)
          rw [hv.1, hv.2]
          clear hv M1 v
          try dsimp only [Nat.reduceAdd, Option.toList, List.cons_append, List.nil_append, List.drop]
          refine xS.s1 rfl rfl ?_
          try dsimp only [Nat.reduceAdd]
          refine xS.s1 rfl rfl ?_
          try dsimp only [Nat.reduceAdd]
          refine xS.gR rfl rfl rfl ⟨by decide, rfl⟩ rfl ?_
          try dsimp only [Nat.reduceAdd]
          refine xS.s1 rfl rfl ?_
          try dsimp only [Nat.reduceAdd, xi_2]
          refine xS.s1 rfl rfl ?_
          try dsimp only [Nat.reduceAdd]
          refine xS.s1 rfl rfl ?_
          try dsimp only [Nat.reduceAdd]
          refine xS.s1 rfl rfl ?_
          try dsimp only [Nat.reduceAdd, xi_1]
          refine xS.s1 rfl rfl ?_
          try dsimp only [Nat.reduceAdd]
          rw [show (((2 * nI j) + 1) : Int32) = nI ((2 * j) + 1) from by simp only [← nI_add, ← pk_mul]; rfl]
          refine xS.ia rfl xar_82 (by omega) ?_
          try dsimp only [Nat.reduceAdd]
          rw [r2]
          -- 158 yX12_add
          refine xS.cv rfl rfl rfl rfl rfl rfl ⟨by decide, rfl, rfl⟩ c_X12_add (fun v M1 hv => ?_)
          rw [hv.1, hv.2]
          clear hv M1 v
          try dsimp only [Nat.reduceAdd, Option.toList, List.cons_append, List.nil_append, List.drop]
          refine xS.s1 rfl rfl ?_
          try dsimp only [Nat.reduceAdd]
          refine xS.s1 rfl rfl ?_
          try dsimp only [Nat.reduceAdd]
          -- 163 yX12_add
          refine xS.cv rfl rfl rfl rfl rfl rfl ⟨by decide, rfl, rfl⟩ c_X12_add (fun v M1 hv => ?_)
          rw [hv.1, hv.2]
          clear hv M1 v
          try dsimp only [Nat.reduceAdd, Option.toList, List.cons_append, List.nil_append, List.drop]
          refine xS.s1 rfl rfl ?_
          try dsimp only [Nat.reduceAdd]
          refine xS.s1 rfl rfl ?_
          try dsimp only [Nat.reduceAdd]
          -- 168 yX12_add
          refine xS.cv rfl rfl rfl rfl rfl rfl ⟨by decide, rfl, rfl⟩ c_X12_add (fun v M1 hv => ?_)
          rw [hv.1, hv.2]
          clear hv M1 v
          try dsimp only [Nat.reduceAdd, Option.toList, List.cons_append, List.nil_append, List.drop]
          refine xS.s1 rfl rfl ?_
          try dsimp only [Nat.reduceAdd, xi_1]
          rw [nI_1]
          refine xS.s1 rfl rfl ?_
          try dsimp only [Nat.reduceAdd]
          refine xS.pick [0, 4] rfl ?_
          exact ih () (by omega) trivial
        · have g77 := xf_ge h77
          rw [hs] at g77
          have hli := xnlt (b := m) g77 (by omega) (by omega)
          obtain ⟨s9, k9, p1, p2, p3, p4, p5, p6, p7, p8⟩ := hD i hli
          refine xS.s1 rfl rfl ?_
          try dsimp only [Nat.reduceAdd]
          refine xS.s1 rfl rfl ?_
          try dsimp only [Nat.reduceAdd]
          refine xS.gR rfl rfl rfl ⟨by decide, rfl⟩ rfl ?_
          try dsimp only [Nat.reduceAdd]
          refine xS.s1 rfl rfl ?_
          try dsimp only [Nat.reduceAdd]
          refine xS.ia rfl xar_85 (by omega) ?_
          try dsimp only [Nat.reduceAdd]
          rw [p8, ← p4]
          refine xS.s1 rfl rfl ?_
          try dsimp only [Nat.reduceAdd]
          refine xS.br (c := .ne) (off := 7) (l := 3) rfl rfl (fun h89 => ?_) (fun h89 => ?_)
          · have g89 := xt_ne h89
            refine xS.s1 rfl rfl ?_
            try dsimp only [Nat.reduceAdd, xi_0]
            refine xS.s1 rfl rfl ?_
            try dsimp only [Nat.reduceAdd]
            refine xS.s1 rfl rfl ?_
            try dsimp only [Nat.reduceAdd]
            refine xS.s1 rfl rfl ?_
            try dsimp only [Nat.reduceAdd]
            refine xS.s1 rfl rfl ?_
            try dsimp only [Nat.reduceAdd]
            refine xS.gR rfl rfl rfl ⟨by decide, rfl⟩ rfl ?_
            try dsimp only [Nat.reduceAdd]
            refine xS.s1 rfl rfl ?_
            try dsimp only [Nat.reduceAdd]
            refine xS.ia rfl xar_85 (by omega) ?_
            try dsimp only [Nat.reduceAdd]
            rw [p8, ← p4]
            refine xS.s1 rfl rfl ?_
            try dsimp only [Nat.reduceAdd]
            refine xS.br (c := .ne) (off := 18) (l := 3) rfl rfl (fun h108 => ?_) (fun h108 => ?_)
            · have g108 := xt_ne h108
              refine xS.s1 rfl rfl ?_
              try dsimp only [Nat.reduceAdd, xi_0]
              refine xS.s1 rfl rfl ?_
              try dsimp only [Nat.reduceAdd]
              refine xS.s1 rfl rfl ?_
              try dsimp only [Nat.reduceAdd]
              refine xS.s1 rfl rfl ?_
              try dsimp only [Nat.reduceAdd, xi_1]
              rw [nI_1]
              refine xS.s1 rfl rfl ?_
              try dsimp only [Nat.reduceAdd]
              refine xS.pick [0, 2, 1, 3, 4] rfl ?_
              have ih8 := ih2 () (by omega) trivial
              have qA : (fun d => decide (F4 (4 * d + 1) = nI j)) i = false := decide_eq_false g89
              rw [show xcnt (fun d => decide (F4 (4 * d + 1) = nI j)) (i + 1) = xcnt (fun d => decide (F4 (4 * d + 1) = nI j)) i from by rw [xcnt_s]; simp [g89], show xcnt (fun d => decide (F4 (4 * d + 1) = nI j) && !decide (F4 (4 * d + 3) = -9)) (i + 1) = xcnt (fun d => decide (F4 (4 * d + 1) = nI j) && !decide (F4 (4 * d + 3) = -9)) i from by rw [xcnt_s]; simp [g89]] at ih8
              rw [show nI (xcnt (fun d => decide (F4 (4 * d + 1) = nI j)) i) + 0 = nI (xcnt (fun d => decide (F4 (4 * d + 1) = nI j)) i) from nI_add _ 0]
              rw [show nI (xcnt (fun d => decide (F4 (4 * d + 1) = nI j) && !decide (F4 (4 * d + 3) = -9)) i) + 0 = nI (xcnt (fun d => decide (F4 (4 * d + 1) = nI j) && !decide (F4 (4 * d + 3) = -9)) i) from nI_add _ 0]
              exact ih8
            · have g108 := xf_ne h108
              refine xS.s1 rfl rfl ?_
              try dsimp only [Nat.reduceAdd]
              refine xS.s1 rfl rfl ?_
              try dsimp only [Nat.reduceAdd]
              -- 114 yX12_brokenBy
              refine xS.cv rfl rfl rfl rfl rfl rfl ⟨by decide, rfl, rfl⟩ (c_X12_brokenBy hR hD hm hli) (fun v M1 hv => ?_)
              rw [hv.1, hv.2]
              clear hv M1 v
              try dsimp only [Nat.reduceAdd, Option.toList, List.cons_append, List.nil_append, List.drop]
              refine xS.s1 rfl rfl ?_
              try dsimp only [Nat.reduceAdd, xj_m9]
              refine xS.br (c := .eq) (off := 7) (l := 3) rfl rfl (fun h119 => ?_) (fun h119 => ?_)
              · have g119 := xt_eq h119
                refine xS.s1 rfl rfl ?_
                try dsimp only [Nat.reduceAdd, xi_0]
                refine xS.s1 rfl rfl ?_
                try dsimp only [Nat.reduceAdd]
                refine xS.s1 rfl rfl ?_
                try dsimp only [Nat.reduceAdd]
                refine xS.s1 rfl rfl ?_
                try dsimp only [Nat.reduceAdd, xi_1]
                rw [nI_1]
                refine xS.s1 rfl rfl ?_
                try dsimp only [Nat.reduceAdd]
                refine xS.pick [0, 2, 1, 3, 4] rfl ?_
                exact absurd g108 g89
              · have g119 := xf_eq h119
                refine xS.s1 rfl rfl ?_
                try dsimp only [Nat.reduceAdd, xi_1]
                refine xS.s1 rfl rfl ?_
                try dsimp only [Nat.reduceAdd]
                refine xS.s1 rfl rfl ?_
                try dsimp only [Nat.reduceAdd]
                refine xS.s1 rfl rfl ?_
                try dsimp only [Nat.reduceAdd]
                refine xS.s1 rfl rfl ?_
                try dsimp only [Nat.reduceAdd, xi_1]
                rw [nI_1]
                refine xS.s1 rfl rfl ?_
                try dsimp only [Nat.reduceAdd]
                refine xS.pick [0, 2, 1, 3, 4] rfl ?_
                exact absurd g108 g89
          · have g89 := xf_ne h89
            refine xS.s1 rfl rfl ?_
            try dsimp only [Nat.reduceAdd, xi_1]
            refine xS.s1 rfl rfl ?_
            try dsimp only [Nat.reduceAdd]
            refine xS.s1 rfl rfl ?_
            try dsimp only [Nat.reduceAdd]
            refine xS.s1 rfl rfl ?_
            try dsimp only [Nat.reduceAdd]
            refine xS.s1 rfl rfl ?_
            try dsimp only [Nat.reduceAdd]
            refine xS.s1 rfl rfl ?_
            try dsimp only [Nat.reduceAdd]
            refine xS.gR rfl rfl rfl ⟨by decide, rfl⟩ rfl ?_
            try dsimp only [Nat.reduceAdd]
            refine xS.s1 rfl rfl ?_
            try dsimp only [Nat.reduceAdd]
            refine xS.ia rfl xar_85 (by omega) ?_
            try dsimp only [Nat.reduceAdd]
            rw [p8, ← p4]
            refine xS.s1 rfl rfl ?_
            try dsimp only [Nat.reduceAdd]
            refine xS.br (c := .ne) (off := 18) (l := 3) rfl rfl (fun h108 => ?_) (fun h108 => ?_)
            · have g108 := xt_ne h108
              refine xS.s1 rfl rfl ?_
              try dsimp only [Nat.reduceAdd, xi_0]
              refine xS.s1 rfl rfl ?_
              try dsimp only [Nat.reduceAdd]
              refine xS.s1 rfl rfl ?_
              try dsimp only [Nat.reduceAdd]
              refine xS.s1 rfl rfl ?_
              try dsimp only [Nat.reduceAdd, xi_1]
              rw [nI_1]
              refine xS.s1 rfl rfl ?_
              try dsimp only [Nat.reduceAdd]
              refine xS.pick [0, 2, 1, 3, 4] rfl ?_
              exact absurd g89 g108
            · have g108 := xf_ne h108
              refine xS.s1 rfl rfl ?_
              try dsimp only [Nat.reduceAdd]
              refine xS.s1 rfl rfl ?_
              try dsimp only [Nat.reduceAdd]
              -- 114 yX12_brokenBy
              refine xS.cv rfl rfl rfl rfl rfl rfl ⟨by decide, rfl, rfl⟩ (c_X12_brokenBy hR hD hm hli) (fun v M1 hv => ?_)
              rw [hv.1, hv.2]
              clear hv M1 v
              try dsimp only [Nat.reduceAdd, Option.toList, List.cons_append, List.nil_append, List.drop]
              refine xS.s1 rfl rfl ?_
              try dsimp only [Nat.reduceAdd, xj_m9]
              refine xS.br (c := .eq) (off := 7) (l := 3) rfl rfl (fun h119 => ?_) (fun h119 => ?_)
              · have g119 := xt_eq h119
                refine xS.s1 rfl rfl ?_
                try dsimp only [Nat.reduceAdd, xi_0]
                refine xS.s1 rfl rfl ?_
                try dsimp only [Nat.reduceAdd]
                refine xS.s1 rfl rfl ?_
                try dsimp only [Nat.reduceAdd]
                refine xS.s1 rfl rfl ?_
                try dsimp only [Nat.reduceAdd, xi_1]
                rw [nI_1]
                refine xS.s1 rfl rfl ?_
                try dsimp only [Nat.reduceAdd]
                refine xS.pick [0, 2, 1, 3, 4] rfl ?_
                have ih8 := ih2 () (by omega) trivial
                have qA : (fun d => decide (F4 (4 * d + 1) = nI j)) i = true := decide_eq_true g89
                rw [show xcnt (fun d => decide (F4 (4 * d + 1) = nI j)) (i + 1) = xcnt (fun d => decide (F4 (4 * d + 1) = nI j)) i + 1 from by rw [xcnt_s]; simp [g89]] at ih8
                rw [show xcnt (fun d => decide (F4 (4 * d + 1) = nI j) && !decide (F4 (4 * d + 3) = -9)) (i + 1) = xcnt (fun d => decide (F4 (4 * d + 1) = nI j) && !decide (F4 (4 * d + 3) = -9)) i from by rw [xcnt_s]; simp [g119]] at ih8
                rw [nI_1]
                rw [show nI (xcnt (fun d => decide (F4 (4 * d + 1) = nI j) && !decide (F4 (4 * d + 3) = -9)) i) + 0 = nI (xcnt (fun d => decide (F4 (4 * d + 1) = nI j) && !decide (F4 (4 * d + 3) = -9)) i) from nI_add _ 0]
                exact ih8
              · have g119 := xf_eq h119
                refine xS.s1 rfl rfl ?_
                try dsimp only [Nat.reduceAdd, xi_1]
                refine xS.s1 rfl rfl ?_
                try dsimp only [Nat.reduceAdd]
                refine xS.s1 rfl rfl ?_
                try dsimp only [Nat.reduceAdd]
                refine xS.s1 rfl rfl ?_
                try dsimp only [Nat.reduceAdd]
                refine xS.s1 rfl rfl ?_
                try dsimp only [Nat.reduceAdd, xi_1]
                rw [nI_1]
                refine xS.s1 rfl rfl ?_
                try dsimp only [Nat.reduceAdd]
                refine xS.pick [0, 2, 1, 3, 4] rfl ?_
                have ih8 := ih2 () (by omega) trivial
                have qA : (fun d => decide (F4 (4 * d + 1) = nI j)) i = true := decide_eq_true g89
                rw [show xcnt (fun d => decide (F4 (4 * d + 1) = nI j)) (i + 1) = xcnt (fun d => decide (F4 (4 * d + 1) = nI j)) i + 1 from by rw [xcnt_s]; simp [g89]] at ih8
                rw [show xcnt (fun d => decide (F4 (4 * d + 1) = nI j) && !decide (F4 (4 * d + 3) = -9)) (i + 1) = xcnt (fun d => decide (F4 (4 * d + 1) = nI j) && !decide (F4 (4 * d + 3) = -9)) i + 1 from by rw [xcnt_s]; simp [g89, g119]] at ih8
                rw [nI_1, nI_1]
                exact ih8
    · have g35 := xf_ge h35
      have hlt := xnlt (b := 6) g35 (by omega) (by omega)
      refine xS.s1 rfl rfl ?_
      try dsimp only [Nat.reduceAdd]
      refine xS.s1 rfl rfl ?_
      try dsimp only [Nat.reduceAdd]
      refine xS.gR rfl rfl rfl ⟨by decide, rfl⟩ rfl ?_
      try dsimp only [Nat.reduceAdd]
      refine xS.s1 rfl rfl ?_
      try dsimp only [Nat.reduceAdd]
      refine xS.ia rfl xar_81 (by omega) ?_
      try dsimp only [Nat.reduceAdd]
      rw [(hR.2.2.2.1 j hlt).1]
      -- 45 yX12_add
      refine xS.cv rfl rfl rfl rfl rfl rfl ⟨by decide, rfl, rfl⟩ c_X12_add (fun v M1 hv => ?_)
      rw [hv.1, hv.2]
      clear hv M1 v
      try dsimp only [Nat.reduceAdd, Option.toList, List.cons_append, List.nil_append, List.drop]
      refine xS.s1 rfl rfl ?_
      try dsimp only [Nat.reduceAdd, xi_1]
      rw [nI_1]
      refine xS.s1 rfl rfl ?_
      try dsimp only [Nat.reduceAdd]
      refine xS.pick [0, 1] rfl ?_
      exact ih () (by omega) trivial
  · have g12 := xf_ge h12
    have hlt := xnlt (b := 9) g12 (by omega) (by omega)
    refine xS.s1 rfl rfl ?_
    try dsimp only [Nat.reduceAdd]
    refine xS.s1 rfl rfl ?_
    try dsimp only [Nat.reduceAdd]
    refine xS.s1 rfl rfl ?_
    try dsimp only [Nat.reduceAdd]
    -- 18 yX12_countOf
    refine xS.cv rfl rfl rfl rfl rfl rfl ⟨by decide, rfl, rfl⟩ (c_X12_countOf hR hD hm hs hz1 hz2 hz3 hlt) (fun v M1 hv => ?_)
    rw [hv.1, hv.2]
    clear hv M1 v
    try dsimp only [Nat.reduceAdd, Option.toList, List.cons_append, List.nil_append, List.drop]
    -- 21 yX12_add
    refine xS.cv rfl rfl rfl rfl rfl rfl ⟨by decide, rfl, rfl⟩ c_X12_add (fun v M1 hv => ?_)
    rw [hv.1, hv.2]
    clear hv M1 v
    try dsimp only [Nat.reduceAdd, Option.toList, List.cons_append, List.nil_append, List.drop]
    refine xS.s1 rfl rfl ?_
    try dsimp only [Nat.reduceAdd, xi_1]
    rw [nI_1]
    refine xS.s1 rfl rfl ?_
    try dsimp only [Nat.reduceAdd]
    refine xS.pick [0, 1] rfl ?_
    exact ih () (by omega) trivial

end
