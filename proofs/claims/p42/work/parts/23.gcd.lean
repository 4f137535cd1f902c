/-! LimpMirror: tallies, turns, the greatest common divisor -/
theorem xmir_stp {x : Int32} (h : xstp x) : xstp (xmir x) := by
  obtain ⟨v, hv, rfl⟩ := h
  have : ∀ v, v < 6 → xmir (nI v) = nI (if v = 1 then 2 else if v = 2 then 1 else v) := by decide
  rw [this v hv]
  exact ⟨_, by split <;> (try split) <;> omega, rfl⟩
theorem xseen_stp {h : Nat → Int32} {κ i s : Nat} (hh : ∀ s, s < 6 → xstp (h s)) (hs : s < 6) : xstp (xseen h κ i s) := by
  unfold xseen
  refine xmir_stp ?_
  cases xth κ i
  · exact ⟨s, hs, rfl⟩
  · exact hh s hs
theorem xshw_stp {h : Nat → Int32} {κ δ i : Nat} {f : Nat → Nat} (hh : ∀ s, s < 6 → xstp (h s)) (hf : ∀ s, s ≤ i → f s < 6) : xstp (xshw h κ δ f i) := by
  unfold xshw
  cases e : xsrc κ δ i with
  | none => exact ⟨0, by omega, rfl⟩
  | some s => exact xseen_stp hh (hf s (xsrc_le e))
/-- how many of the first n that p has go to v -/
def xtl (p : Nat → Bool) (w : Nat → Nat) (n v : Nat) : Nat := xcnt (fun j => p j && decide (w j = v)) n
def xmx (p : Nat → Bool) (w : Nat → Nat) (n : Nat) : Nat := Nat.rec (motive := fun _ => Nat) 0 (fun j c => bif p j then max c (xtl p w (j + 1) (w j)) else c) n
theorem xmx_s (p : Nat → Bool) (w : Nat → Nat) (n : Nat) : xmx p w (n + 1) = bif p n then max (xmx p w n) (xtl p w (n + 1) (w n)) else xmx p w n := rfl
theorem xtl_le (p : Nat → Bool) (w : Nat → Nat) (n v : Nat) : xtl p w n v ≤ n := xcnt_le _ _
theorem xmx_le (p : Nat → Bool) (w : Nat → Nat) : ∀ n, xmx p w n ≤ n
  | 0 => Nat.le_refl 0
  | n + 1 => by
    have h1 := xmx_le p w n
    have h2 := xtl_le p w (n + 1) (w n)
    rw [xmx_s]
    cases p n
    · exact Nat.le_succ_of_le h1
    · show max _ _ ≤ _
      omega
theorem xtl_s (p : Nat → Bool) (w : Nat → Nat) (n v : Nat) : xtl p w (n + 1) v = bif (p n && decide (w n = v)) then xtl p w n v + 1 else xtl p w n v := rfl
theorem nI_max {a b : Nat} (ha : a < 2 ^ 31) (hb : b < 2 ^ 31) : (if nI a < nI b then nI b else nI a) = nI (max a b) := by
  by_cases h : a < b
  · rw [if_pos (nI_lt h hb), Nat.max_eq_right (by omega)]
  · rw [if_neg (nI_nlt (by omega) ha), Nat.max_eq_left (by omega)]
theorem nI_min {a b : Nat} (ha : a < 2 ^ 31) (hb : b < 2 ^ 31) : (if nI b < nI a then nI b else nI a) = nI (min a b) := by
  by_cases h : b < a
  · rw [if_pos (nI_lt h ha), Nat.min_eq_right (by omega)]
  · rw [if_neg (nI_nlt (by omega) hb), Nat.min_eq_left (by omega)]

theorem xS.mx {q : xQ} {k pc l0 idx idx' x1 : Nat} {x2 : List (Nat × Nat)} {lv : xL} {rest : List Value} {P : Option Value → xM → Prop} {M : xM} {x y : Int32} (hl : xe_lkF q.1 pc = some (.invokestatic idx, l0)) (hx : xcF q.2.1 idx = some (idx', 5, x1, x2)) (hr : xe_sum rest = true) (h : xS q k (pc + 3) lv (.int (if x < y then y else x) :: rest) M P) : xS q k pc lv (.int y :: .int x :: rest) M P := by
  refine xS.s3 (pc' := pc + 3) (st' := .int (if x < y then y else x) :: rest) (M1 := M) hl rfl rfl (fun c ih => ?_) h
  show xe_callS c q.2.1 idx pc lv _ M ih = _
  unfold xe_callS
  simp only [hx, if_pos hr]
theorem xS.mn {q : xQ} {k pc l0 idx idx' x1 : Nat} {x2 : List (Nat × Nat)} {lv : xL} {rest : List Value} {P : Option Value → xM → Prop} {M : xM} {x y : Int32} (hl : xe_lkF q.1 pc = some (.invokestatic idx, l0)) (hx : xcF q.2.1 idx = some (idx', 6, x1, x2)) (hr : xe_sum rest = true) (h : xS q k (pc + 3) lv (.int (if y < x then y else x) :: rest) M P) : xS q k pc lv (.int y :: .int x :: rest) M P := by
  refine xS.s3 (pc' := pc + 3) (st' := .int (if y < x then y else x) :: rest) (M1 := M) hl rfl rfl (fun c ih => ?_) h
  show xe_callS c q.2.1 idx pc lv _ M ih = _
  unfold xe_callS
  simp only [hx, if_pos hr]

theorem xS.lrem {q : xQ} {k pc l0 : Nat} {lv : xL} {rest : List Value} {P : Option Value → xM → Prop} {M : xM} {x y : Int64} (hl : xe_lkF q.1 pc = some (.lrem, l0)) (hy : ¬ y = 0) (h : xS q k (pc + 1) lv (.long (x - x / y * y) :: rest) M P) : xS q k pc lv (.long y :: .long x :: rest) M P := by
  refine xS.s1 (f := (pc + 1, lv, .long (x - x / y * y) :: rest)) hl ?_ h
  show xa_lrem pc lv (.long y :: .long x :: rest) = _
  unfold xa_lrem
  dsimp only
  rw [if_neg hy]
theorem xS.ldiv {q : xQ} {k pc l0 : Nat} {lv : xL} {rest : List Value} {P : Option Value → xM → Prop} {M : xM} {x y : Int64} (hl : xe_lkF q.1 pc = some (.ldiv, l0)) (hy : ¬ y = 0) (h : xS q k (pc + 1) lv (.long (x / y) :: rest) M P) : xS q k pc lv (.long y :: .long x :: rest) M P := by
  refine xS.s1 (f := (pc + 1, lv, .long (x / y) :: rest)) hl ?_ h
  show xa_ldiv pc lv (.long y :: .long x :: rest) = _
  unfold xa_ldiv
  dsimp only
  rw [if_neg hy]

section
variable {k a c n n2 m t p s d i1 j1 : Nat} {b : Nat × Nat} {g : Nat → Nat → Int32} {l : Nat → Nat → Int64} {i j x y z v w : Int32} {u w1 w2 : Int64}
variable {L G T : Nat} {Lw : Nat → Nat}
set_option maxRecDepth 10000 in
theorem c_X11_mostThatShowOneThing (hb : xro b.1) (hR : xRm g b.1 G T Lw) (hp : xpn g) (hbv : b.1 = 7 ∨ b.1 = 11) (hs : g 15 1 = nI m) (hm : m ≤ 12) (hx : ∀ i, i ≤ t → xstp (g 16 i)) (hlt : t < m) : xT (k + 5) 144 [.ref 0, .int x, .int (nI t)] (xH b g l) (fun r M' => M' = xH b (gset g 18 6 (fun v => nI (xtl (fun j => decide ((x >>> (nI j &&& 31)) &&& 1 = 1)) (fun j => xN (xshw (g (b.1 + 1)) (j / 4) (j % 4) (fun i => xN (g 16 i)) t)) 24 v))) l ∧ r = some (.int (nI (xmx (fun j => decide ((x >>> (nI j &&& 31)) &&& 1 = 1)) (fun j => xN (xshw (g (b.1 + 1)) (j / 4) (j % 4) (fun i => xN (g 16 i)) t)) 24)))) := by
  refine xT.of rfl (Nat.le_of_ble_eq_true rfl) ?_
  dsimp only [lv_args]
  refine xS.s1 rfl rfl ?_
  try dsimp only [Nat.reduceAdd, xi_0]
  refine xS.s1 rfl rfl ?_
  try dsimp only [Nat.reduceAdd]
  refine xS.pick [0, 1, 2, 3] rfl ?_
  refine xS.loop (σ := Unit) (6) (fun j S => [(3, .int (nI j)), (0, .ref 0), (1, .int x), (2, .int (nI t))]) (fun j _ => xH b (gfill g 18 j 0) l) (fun _ _ => True) (()) (rfl) (by rw [gfill_0]) (trivial) ?_
  intro j S hj hI ih
  try dsimp only
  refine xS.s1 rfl rfl ?_
  try dsimp only [Nat.reduceAdd]
  refine xS.s1 rfl rfl ?_
  try dsimp only [Nat.reduceAdd, xj_6]
  refine xS.br (c := .ge) (off := 16) (l := 3) rfl rfl (fun h5 => ?_) (fun h5 => ?_)
  · have g5 := xt_ge h5
    have ej : 6 = j := by
      have := xnle (b := 6) g5 (by omega) (by omega)
      omega
    subst ej
    refine xS.s1 rfl rfl ?_
    try dsimp only [Nat.reduceAdd, xi_0]
    refine xS.s1 rfl rfl ?_
    try dsimp only [Nat.reduceAdd]
    refine xS.s1 rfl rfl ?_
    try dsimp only [Nat.reduceAdd, xi_0]
    refine xS.s1 rfl rfl ?_
    try dsimp only [Nat.reduceAdd]
    refine xS.pick [0, 1, 2, 3, 4] rfl ?_
    refine xS.loop (σ := Unit) (24) (fun i S => [(4, .int (nI i)), (3, .int (nI (xmx (fun j => decide ((x >>> (nI j &&& 31)) &&& 1 = 1)) (fun j => xN (xshw (g (b.1 + 1)) (j / 4) (j % 4) (fun i => xN (g 16 i)) t)) i))), (0, .ref 0), (1, .int x), (2, .int (nI t))]) (fun i _ => xH b (gset g 18 6 (fun v => nI (xtl (fun j => decide ((x >>> (nI j &&& 31)) &&& 1 = 1)) (fun j => xN (xshw (g (b.1 + 1)) (j / 4) (j % 4) (fun i => xN (g 16 i)) t)) i v))) l) (fun _ _ => True) (()) (rfl) (rfl) (trivial) ?_
    intro i S2 hi hI2 ih2
    try dsimp only
    have hR2 : xRm (gset g 18 6 (fun v => nI (xtl (fun j => decide ((x >>> (nI j &&& 31)) &&& 1 = 1)) (fun j => xN (xshw (g (b.1 + 1)) (j / 4) (j % 4) (fun i => xN (g 16 i)) t)) i v))) b.1 G T Lw := xRm_fr (fun i _ _ => gset_na (by omega)) hR
    have hp2 : xpn (gset g 18 6 (fun v => nI (xtl (fun j => decide ((x >>> (nI j &&& 31)) &&& 1 = 1)) (fun j => xN (xshw (g (b.1 + 1)) (j / 4) (j % 4) (fun i => xN (g 16 i)) t)) i v))) := xpn_fr (fun i _ _ => gset_na (by omega)) hp
    have hs2 : gset g 18 6 (fun v => nI (xtl (fun j => decide ((x >>> (nI j &&& 31)) &&& 1 = 1)) (fun j => xN (xshw (g (b.1 + 1)) (j / 4) (j % 4) (fun i => xN (g 16 i)) t)) i v)) 15 1 = nI m := by rw [gset_na (by decide)]; exact hs
    have e1 : gset g 18 6 (fun v => nI (xtl (fun j => decide ((x >>> (nI j &&& 31)) &&& 1 = 1)) (fun j => xN (xshw (g (b.1 + 1)) (j / 4) (j % 4) (fun i => xN (g 16 i)) t)) i v)) (b.1 + 1) = g (b.1 + 1) := gset_na (by omega)
    have e16 : gset g 18 6 (fun v => nI (xtl (fun j => decide ((x >>> (nI j &&& 31)) &&& 1 = 1)) (fun j => xN (xshw (g (b.1 + 1)) (j / 4) (j % 4) (fun i => xN (g 16 i)) t)) i v)) 16 = g 16 := gset_na (by decide)
    have hbd := xmx_le (fun j => decide ((x >>> (nI j &&& 31)) &&& 1 = 1)) (fun j => xN (xshw (g (b.1 + 1)) (j / 4) (j % 4) (fun i => xN (g 16 i)) t)) i
    refine xS.s1 rfl rfl ?_
    try dsimp only [Nat.reduceAdd]
    refine xS.s1 rfl rfl ?_
    try dsimp only [Nat.reduceAdd, xj_24]
    refine xS.br (c := .ge) (off := 71) (l := 3) rfl rfl (fun h30 => ?_) (fun h30 => ?_)
    · have g30 := xt_ge h30
      refine xS.s1 rfl rfl ?_
      try dsimp only [Nat.reduceAdd]
      refine xS.ret rfl rfl rfl (fun _ _ => rfl) ?_
      have ei : 24 = i := by
        have := xnle (b := 24) g30 (by omega) (by omega)
        omega
      subst ei
      exact ⟨rfl, rfl⟩
    · have g30 := xf_ge h30
      have hli := xnlt (b := 24) g30 (by omega) (by omega)
      refine xS.s1 rfl rfl ?_
      try dsimp only [Nat.reduceAdd]
      refine xS.s1 rfl rfl ?_
      try dsimp only [Nat.reduceAdd]
      refine xS.s1 rfl rfl ?_
      try dsimp only [Nat.reduceAdd]
      refine xS.s1 rfl rfl ?_
      try dsimp only [Nat.reduceAdd, xi_1]
      refine xS.s1 rfl rfl ?_
      try dsimp only [Nat.reduceAdd]
      refine xS.s1 rfl rfl ?_
      try dsimp only [Nat.reduceAdd, xi_1]
      refine xS.br (c := .ne) (off := 55) (l := 3) rfl rfl (fun h40 => ?_) (fun h40 => ?_)
      · have g40 := xt_ne h40
        refine xS.s1 rfl rfl ?_
        try dsimp only [Nat.reduceAdd, xi_1]
        rw [nI_1]
        refine xS.s1 rfl rfl ?_
        try dsimp only [Nat.reduceAdd]
        refine xS.pick [0, 1, 2, 3, 4] rfl ?_
        have ih3 := ih2 () (by omega) trivial
        rw [show (fun v => nI (xtl (fun j => decide ((x >>> (nI j &&& 31)) &&& 1 = 1)) (fun j => xN (xshw (g (b.1 + 1)) (j / 4) (j % 4) (fun i => xN (g 16 i)) t)) (i + 1) v)) = (fun v => nI (xtl (fun j => decide ((x >>> (nI j &&& 31)) &&& 1 = 1)) (fun j => xN (xshw (g (b.1 + 1)) (j / 4) (j % 4) (fun i => xN (g 16 i)) t)) i v)) from by funext v; rw [xtl_s]; simp [g40], show xmx (fun j => decide ((x >>> (nI j &&& 31)) &&& 1 = 1)) (fun j => xN (xshw (g (b.1 + 1)) (j / 4) (j % 4) (fun i => xN (g 16 i)) t)) (i + 1) = xmx (fun j => decide ((x >>> (nI j &&& 31)) &&& 1 = 1)) (fun j => xN (xshw (g (b.1 + 1)) (j / 4) (j % 4) (fun i => xN (g 16 i)) t)) i from by rw [xmx_s]; simp [g40]] at ih3
        exact ih3
      · have g40 := xf_ne h40
        refine xS.s1 rfl rfl ?_
        try dsimp only [Nat.reduceAdd]
        refine xS.gR rfl rfl rfl ⟨by decide, rfl⟩ rfl ?_
        try dsimp only [Nat.reduceAdd]
        refine xS.s1 rfl rfl ?_
        try dsimp only [Nat.reduceAdd]
        refine xS.gR rfl rfl rfl ⟨by decide, rfl⟩ rfl ?_
        try dsimp only [Nat.reduceAdd]
        refine xS.s1 rfl rfl ?_
        try dsimp only [Nat.reduceAdd]
        refine xS.aR rfl rfl (by decide) (by omega) (xsh3_get (by omega)) ?_
        try dsimp only [Nat.reduceAdd]
        refine xS.s1 rfl rfl ?_
        try dsimp only [Nat.reduceAdd]
        refine xS.gR rfl rfl rfl ⟨by decide, rfl⟩ rfl ?_
        try dsimp only [Nat.reduceAdd]
        refine xS.s1 rfl rfl ?_
        try dsimp only [Nat.reduceAdd]
        -- 59 yX8_shown
        refine xS.cv rfl rfl rfl (hb.1 _) rfl rfl ⟨by decide, rfl, rfl⟩ (c_X8_shown_C hb xce_trial hp2 hli (by omega) hs2 hm (fun s h => ⟨Nat.lt_of_le_of_lt (xsrc_le h) hlt, by show xstp (gset g 18 6 (fun v => nI (xtl (fun j => decide ((x >>> (nI j &&& 31)) &&& 1 = 1)) (fun j => xN (xshw (g (b.1 + 1)) (j / 4) (j % 4) (fun i => xN (g 16 i)) t)) i v)) 16 s); rw [e16]; exact hx s (xsrc_le h)⟩)) (fun v M1 hv => ?_)
        rw [hv.1, hv.2, e1]
        clear hv M1 v
        rw [show (fun s => xN (gset g 18 6 (fun v => nI (xtl (fun j => decide ((x >>> (nI j &&& 31)) &&& 1 = 1)) (fun j => xN (xshw (g (b.1 + 1)) (j / 4) (j % 4) (fun i => xN (g 16 i)) t)) i v)) (15 + 1) s)) = (fun i => xN (g 16 i)) from by rw [show 15 + 1 = 16 from rfl, e16]]
        try dsimp only [Nat.reduceAdd, Option.toList, List.cons_append, List.nil_append, List.drop]
        have hst : xstp (xshw (g (b.1 + 1)) (i / 4) (i % 4) (fun i => xN (g 16 i)) t) := xshw_stp hR.2.2.2 (fun s h => (xstp_N (hx s h)).1)
        obtain ⟨h6, he⟩ := xstp_N hst
        rw [he]
        have htl : (fun v => nI (xtl (fun j => decide ((x >>> (nI j &&& 31)) &&& 1 = 1)) (fun j => xN (xshw (g (b.1 + 1)) (j / 4) (j % 4) (fun i => xN (g 16 i)) t)) (i + 1) v)) = (fun p => if p = (xN (xshw (g (b.1 + 1)) (i / 4) (i % 4) (fun i => xN (g 16 i)) t)) then nI (xtl (fun j => decide ((x >>> (nI j &&& 31)) &&& 1 = 1)) (fun j => xN (xshw (g (b.1 + 1)) (j / 4) (j % 4) (fun i => xN (g 16 i)) t)) i (xN (xshw (g (b.1 + 1)) (i / 4) (i % 4) (fun i => xN (g 16 i)) t)) + 1) else nI (xtl (fun j => decide ((x >>> (nI j &&& 31)) &&& 1 = 1)) (fun j => xN (xshw (g (b.1 + 1)) (j / 4) (j % 4) (fun i => xN (g 16 i)) t)) i p)) := by
          funext v
          rw [xtl_s]
          by_cases hv : v = (xN (xshw (g (b.1 + 1)) (i / 4) (i % 4) (fun i => xN (g 16 i)) t))
          · rw [if_pos hv, hv]
            simp [g40]
          · rw [if_neg hv]
            have hv3 : decide ((xN (xshw (g (b.1 + 1)) (i / 4) (i % 4) (fun i => xN (g 16 i)) t)) = v) = false := decide_eq_false (fun z => hv z.symm)
            rw [hv3, Bool.and_false]
            rfl
        have hmx : xmx (fun j => decide ((x >>> (nI j &&& 31)) &&& 1 = 1)) (fun j => xN (xshw (g (b.1 + 1)) (j / 4) (j % 4) (fun i => xN (g 16 i)) t)) (i + 1) = max (xmx (fun j => decide ((x >>> (nI j &&& 31)) &&& 1 = 1)) (fun j => xN (xshw (g (b.1 + 1)) (j / 4) (j % 4) (fun i => xN (g 16 i)) t)) i) (xtl (fun j => decide ((x >>> (nI j &&& 31)) &&& 1 = 1)) (fun j => xN (xshw (g (b.1 + 1)) (j / 4) (j % 4) (fun i => xN (g 16 i)) t)) i (xN (xshw (g (b.1 + 1)) (i / 4) (i % 4) (fun i => xN (g 16 i)) t)) + 1) := by
          rw [xmx_s, xtl_s]
          simp [g40]
        refine xS.s1 rfl rfl ?_
        try dsimp only [Nat.reduceAdd]
        refine xS.s1 rfl rfl ?_
        try dsimp only [Nat.reduceAdd]
        -- 66 yX11_isStep
        refine xS.callS rfl rfl rfl ⟨Nat.le_of_ble_eq_true rfl, rfl⟩ (c_X11_isStep_in h6) (fun v M1 hv => ?_)
        rw [hv.1, hv.2]
        clear hv M1 v
        try dsimp only [Nat.reduceAdd, Option.toList, List.cons_append, List.nil_append, List.drop]
        refine xS.br0 (c := .eq) (off := 26) (l := 3) rfl rfl (fun h69 => ?_) (fun h69 => ?_)
        · have g69 := xt_eq h69
          exact absurd g69 (by decide)
        · have g69 := xf_eq h69
          refine xS.s1 rfl rfl ?_
          try dsimp only [Nat.reduceAdd]
          refine xS.gR rfl rfl rfl ⟨by decide, rfl⟩ rfl ?_
          try dsimp only [Nat.reduceAdd]
          refine xS.s1 rfl rfl ?_
          try dsimp only [Nat.reduceAdd]
          refine xS.s1 rfl rfl ?_
          try dsimp only [Nat.reduceAdd]
          refine xS.ia rfl xar_18 (by omega) ?_
          try dsimp only [Nat.reduceAdd]
          rw [gset_in h6]
          refine xS.s1 rfl rfl ?_
          try dsimp only [Nat.reduceAdd, xi_1]
          refine xS.s1 rfl rfl ?_
          try dsimp only [Nat.reduceAdd]
          refine xS.ias rfl xar_18 (by omega) ?_
          try dsimp only [Nat.reduceAdd]
          rw [gset_up h6]
          refine xS.s1 rfl rfl ?_
          try dsimp only [Nat.reduceAdd]
          refine xS.s1 rfl rfl ?_
          try dsimp only [Nat.reduceAdd]
          refine xS.gR rfl rfl rfl ⟨by decide, rfl⟩ rfl ?_
          try dsimp only [Nat.reduceAdd]
          refine xS.s1 rfl rfl ?_
          try dsimp only [Nat.reduceAdd]
          refine xS.ia rfl xar_18 (by omega) ?_
          try dsimp only [Nat.reduceAdd]
          rw [gset_in h6, if_pos rfl, nI_1]
          have hbe := xtl_le (fun j => decide ((x >>> (nI j &&& 31)) &&& 1 = 1)) (fun j => xN (xshw (g (b.1 + 1)) (j / 4) (j % 4) (fun i => xN (g 16 i)) t)) i (xN (xshw (g (b.1 + 1)) (i / 4) (i % 4) (fun i => xN (g 16 i)) t))
          refine xS.mx rfl rfl rfl ?_
          try dsimp only [Nat.reduceAdd]
          rw [nI_max (by omega) (by omega)]
          refine xS.s1 rfl rfl ?_
          try dsimp only [Nat.reduceAdd]
          refine xS.s1 rfl rfl ?_
          try dsimp only [Nat.reduceAdd, xi_1]
          rw [nI_1]
          refine xS.s1 rfl rfl ?_
          try dsimp only [Nat.reduceAdd]
          refine xS.pick [0, 1, 3, 4, 5] rfl ?_
          have ih3 := ih2 () (by omega) trivial
          rw [htl, hmx] at ih3
          exact ih3
  · have g5 := xf_ge h5
    have hlj := xnlt (b := 6) g5 (by omega) (by omega)
    refine xS.s1 rfl rfl ?_
    try dsimp only [Nat.reduceAdd]
    refine xS.gR rfl rfl rfl ⟨by decide, rfl⟩ rfl ?_
    try dsimp only [Nat.reduceAdd]
    refine xS.s1 rfl rfl ?_
    try dsimp only [Nat.reduceAdd]
    refine xS.s1 rfl rfl ?_
    try dsimp only [Nat.reduceAdd, xi_0]
    refine xS.ias rfl xar_18 (by omega) ?_
    try dsimp only [Nat.reduceAdd]
    refine xS.s1 rfl rfl ?_
    try dsimp only [Nat.reduceAdd, xi_1]
    rw [nI_1]
    refine xS.s1 rfl rfl ?_
    try dsimp only [Nat.reduceAdd]
    refine xS.pick [0, 1, 2, 3] rfl ?_
    rw [gfill_s]
    exact ih () (by omega) trivial

theorem xgcd_step {S B j : Nat} (h1 : 1 ≤ j → S < B) (h2 : S * B * 2 ^ j ≤ 2 ^ 89) (hj : j = 0 → S * B ≤ 2 ^ 88) (hS : 0 < S) : (B % S) < S ∧ (B % S) * S * 2 ^ (j + 1) ≤ 2 ^ 89 := by
  have hlt := Nat.mod_lt B hS
  refine ⟨hlt, ?_⟩
  rcases Nat.eq_zero_or_pos j with e | e
  · subst e
    have h3 := hj rfl
    have h4 : (B % S) * S ≤ S * B := by
      rw [Nat.mul_comm S B]
      exact Nat.mul_le_mul_right S (Nat.mod_le B S)
    have h5 : (B % S) * S * 2 ^ (0 + 1) ≤ 2 ^ 88 * 2 ^ 1 := Nat.mul_le_mul (Nat.le_trans h4 h3) (Nat.le_refl _)
    exact Nat.le_trans h5 (by decide)
  · have h3 := h1 e
    have h4 : 2 * (B % S) ≤ B := by
      have := Nat.div_add_mod B S
      have h6 : 1 ≤ B / S := Nat.div_pos (by omega) hS
      have h7 : S * 1 ≤ S * (B / S) := Nat.mul_le_mul_left S h6
      omega
    have h5 : (B % S) * S * 2 ^ (j + 1) = (2 * (B % S)) * S * 2 ^ j := by
      rw [Nat.pow_succ, Nat.mul_comm (2 ^ j) 2, ← Nat.mul_assoc, Nat.mul_comm (B % S * S) 2, ← Nat.mul_assoc]
    rw [h5]
    refine Nat.le_trans (Nat.mul_le_mul_right _ (Nat.mul_le_mul_right S h4)) ?_
    rw [Nat.mul_comm B S]
    exact h2
theorem lN_inj {a b : Nat} (ha : a < 2 ^ 63) (hb : b < 2 ^ 63) : lN a = lN b ↔ a = b := by
  constructor
  · intro h
    have h1 : (lN a).toInt = (lN b).toInt := by rw [h]
    unfold lN at h1
    rw [lg_ofNat_toInt ha, lg_ofNat_toInt hb] at h1
    omega
  · rintro rfl
    rfl
theorem xlc0 {S : Nat} (h : S < 2 ^ 63) : lg_cmp (lN S) 0 = 0 ↔ S = 0 := by
  unfold lg_cmp
  by_cases e : S = 0
  · subst e
    simp
    decide
  · have h1 : ¬ lN S = 0 := fun z => e ((lN_inj (b := 0) h (by omega)).mp z)
    simp only [h1, e, if_false, iff_false]
    split <;> decide

set_option maxRecDepth 10000 in
theorem c_X11_commonDivisor (hp1 : p < 2 ^ 63) (hd1 : d < 2 ^ 63) (hd0 : 0 < d) (hpd : p * d ≤ 2 ^ 88) : xT (k + 1) 149 [.long (lN p), .long (lN d)] (xH b g l) (fun r M' => M' = xH b g l ∧ r = some (.long (lN (Nat.gcd p d)))) := by
  refine xT.of rfl (Nat.le_of_ble_eq_true rfl) ?_
  dsimp only [lv_args]
  refine xS.s1 rfl rfl ?_
  try dsimp only [Nat.reduceAdd]
  refine xS.s1 rfl rfl ?_
  try dsimp only [Nat.reduceAdd]
  refine xS.s1 rfl rfl ?_
  try dsimp only [Nat.reduceAdd]
  refine xS.s1 rfl rfl ?_
  try dsimp only [Nat.reduceAdd]
  refine xS.s1 rfl rfl ?_
  try dsimp only [Nat.reduceAdd, xi_0]
  refine xS.s1 rfl rfl ?_
  try dsimp only [Nat.reduceAdd]
  refine xS.pick [0, 2, 1] rfl ?_
  refine xS.loop (σ := Nat × Nat) (100) (fun j S => [(8, .int (nI j)), (4, .long (lN S.1)), (6, .long (lN S.2))]) (fun _ _ => xH b g l) (fun j S => (1 ≤ j → S.2 < S.1) ∧ S.2 * S.1 * 2 ^ j ≤ 2 ^ 89 ∧ (j = 0 → S.2 * S.1 ≤ 2 ^ 88) ∧ Nat.gcd S.2 S.1 = Nat.gcd p d ∧ S.1 < 2 ^ 63 ∧ S.2 < 2 ^ 63 ∧ 0 < S.1) ((d, p)) (rfl) (rfl) (⟨fun h => absurd h (by omega), by show p * d * 2 ^ 0 ≤ 2 ^ 89; rw [Nat.pow_zero, Nat.mul_one]; omega, fun _ => hpd, rfl, by omega, by omega, hd0⟩) ?_
  intro j S hj hI ih
  obtain ⟨B, S⟩ := S
  obtain ⟨i1, i2, i3, i4, i5, i6, i7⟩ := hI
  dsimp only at i1 i2 i3 i4 i5 i6 i7
  try dsimp only
  refine xS.s1 rfl rfl ?_
  try dsimp only [Nat.reduceAdd]
  refine xS.s1 rfl rfl ?_
  try dsimp only [Nat.reduceAdd, xj_100]
  refine xS.br (c := .ge) (off := 31) (l := 3) rfl rfl (fun h13 => ?_) (fun h13 => ?_)
  · have g13 := xt_ge h13
    refine xS.s1 rfl rfl ?_
    try dsimp only [Nat.reduceAdd]
    refine xS.ret rfl rfl rfl (fun _ _ => rfl) ?_
    have hS : S = 0 := by
      have hj2 : j = 100 := by
        have := xnle (b := 100) g13 (by omega) (by omega)
        omega
      subst hj2
      rcases Nat.eq_zero_or_pos S with e | e
      · exact e
      · exfalso
        have h1 : 1 * 1 ≤ S * B := Nat.mul_le_mul e i7
        have h2 : 1 * 1 * 2 ^ 100 ≤ S * B * 2 ^ 100 := Nat.mul_le_mul_right _ h1
        exact absurd (Nat.le_trans h2 i2) (by decide)
    subst hS
    rw [Nat.gcd_zero_left] at i4
    exact ⟨rfl, by rw [i4]⟩
  · have g13 := xf_ge h13
    refine xS.s1 rfl rfl ?_
    try dsimp only [Nat.reduceAdd]
    refine xS.s1 rfl rfl ?_
    try dsimp only [Nat.reduceAdd]
    refine xS.s1 rfl rfl ?_
    try dsimp only [Nat.reduceAdd]
    refine xS.br0 (c := .eq) (off := 24) (l := 3) rfl rfl (fun h20 => ?_) (fun h20 => ?_)
    · have g20 := xt_eq h20
      refine xS.s1 rfl rfl ?_
      try dsimp only [Nat.reduceAdd]
      refine xS.ret rfl rfl rfl (fun _ _ => rfl) ?_
      have hS := (xlc0 i6).mp g20
      subst hS
      rw [Nat.gcd_zero_left] at i4
      exact ⟨rfl, by rw [i4]⟩
    · have g20 := xf_eq h20
      refine xS.s1 rfl rfl ?_
      try dsimp only [Nat.reduceAdd]
      refine xS.s1 rfl rfl ?_
      try dsimp only [Nat.reduceAdd]
      have hS0 : ¬ lN S = 0 := fun z => g20 ((xlc0 i6).mpr ((lN_inj (b := 0) i6 (by omega)).mp z))
      refine xS.lrem rfl hS0 ?_
      try dsimp only [Nat.reduceAdd]
      refine xS.s1 rfl rfl ?_
      try dsimp only [Nat.reduceAdd]
      refine xS.s1 rfl rfl ?_
      try dsimp only [Nat.reduceAdd]
      refine xS.s1 rfl rfl ?_
      try dsimp only [Nat.reduceAdd]
      refine xS.s1 rfl rfl ?_
      try dsimp only [Nat.reduceAdd]
      refine xS.s1 rfl rfl ?_
      try dsimp only [Nat.reduceAdd]
      refine xS.s1 rfl rfl ?_
      try dsimp only [Nat.reduceAdd, xi_1]
      rw [nI_1]
      refine xS.s1 rfl rfl ?_
      try dsimp only [Nat.reduceAdd]
      refine xS.pick [0, 2, 1] rfl ?_
      have hS : 0 < S := by
        rcases Nat.eq_zero_or_pos S with e | e
        · exact absurd ((xlc0 i6).mpr e) g20
        · exact e
      have hst := xgcd_step i1 i2 i3 hS
      rw [pk_lRem i5 hS i6]
      exact ih (S, B % S) (by have := xnlt (b := 100) g13 (by omega) (by omega); omega) ⟨fun _ => hst.1, hst.2, fun h => absurd h (by omega), by rw [← i4, Nat.gcd_rec S B], i6, Nat.lt_of_lt_of_le hst.1 (Nat.le_of_lt i6), hS⟩

set_option maxRecDepth 10000 in
theorem c_X11_tell (hp1 : p < 2 ^ 63) (hd1 : d < 2 ^ 63) (hd0 : 0 < d) (hpd : p * d ≤ 2 ^ 88) : xT (k + 2) 148 [.ref 0, .long (lN p), .long (lN d)] (xH b g l) (fun r M' => M' = xH b g (up (up l 0 12 (lN (p / Nat.gcd p d))) 0 13 (lN (d / Nat.gcd p d))) ∧ r = none) := by
  refine xT.of rfl (Nat.le_of_ble_eq_true rfl) ?_
  dsimp only [lv_args]
  refine xS.s1 rfl rfl ?_
  try dsimp only [Nat.reduceAdd]
  refine xS.s1 rfl rfl ?_
  try dsimp only [Nat.reduceAdd]
  -- 2 yX11_commonDivisor
  refine xS.callS rfl rfl rfl ⟨Nat.le_of_ble_eq_true rfl, rfl⟩ (c_X11_commonDivisor hp1 hd1 hd0 hpd) (fun v M1 hv => ?_)
  rw [hv.1, hv.2]
  clear hv M1 v
  have hgp : 0 < Nat.gcd p d := Nat.gcd_pos_of_pos_right p hd0
  have hgl : Nat.gcd p d < 2 ^ 63 := Nat.lt_of_le_of_lt (Nat.gcd_le_right p hd0) hd1
  have hg0 : ¬ lN (Nat.gcd p d) = 0 := fun z => absurd ((lN_inj (b := 0) hgl (by omega)).mp z) (by omega)
  try dsimp only [Nat.reduceAdd, Option.toList, List.cons_append, List.nil_append, List.drop]
  refine xS.s1 rfl rfl ?_
  try dsimp only [Nat.reduceAdd]
  refine xS.s1 rfl rfl ?_
  try dsimp only [Nat.reduceAdd]
  refine xS.s1 rfl rfl ?_
  try dsimp only [Nat.reduceAdd]
  refine xS.s1 rfl rfl ?_
  try dsimp only [Nat.reduceAdd]
  refine xS.br0 (c := .le) (off := 19) (l := 3) rfl rfl (fun h11 => ?_) (fun h11 => ?_)
  · have g11 := xt_le h11
    exfalso; rw [lg_cmp_le] at g11; exact hg0 ((lN_inj (b := 0) hgl (by omega)).mpr (by have : (lN (Nat.gcd p d)).toInt ≤ (0 : Int64).toInt := Int64.le_iff_toInt_le.mp g11; unfold lN at this; rw [lg_ofNat_toInt hgl] at this; have h0 : (0 : Int64).toInt = 0 := rfl; omega))
  · have g11 := xf_le h11
    refine xS.s1 rfl rfl ?_
    try dsimp only [Nat.reduceAdd]
    refine xS.s1 rfl rfl ?_
    try dsimp only [Nat.reduceAdd]
    refine xS.s1 rfl rfl ?_
    try dsimp only [Nat.reduceAdd]
    refine xS.ldiv rfl hg0 ?_
    try dsimp only [Nat.reduceAdd]
    refine xS.pL rfl rfl rfl ⟨⟨by decide, rfl⟩, rfl, by decide, by decide⟩ rfl ?_
    try dsimp only [Nat.reduceAdd]
    refine xS.s1 rfl rfl ?_
    try dsimp only [Nat.reduceAdd]
    refine xS.s1 rfl rfl ?_
    try dsimp only [Nat.reduceAdd]
    refine xS.s1 rfl rfl ?_
    try dsimp only [Nat.reduceAdd]
    refine xS.ldiv rfl hg0 ?_
    try dsimp only [Nat.reduceAdd]
    refine xS.pL rfl rfl rfl ⟨⟨by decide, rfl⟩, rfl, by decide, by decide⟩ rfl ?_
    try dsimp only [Nat.reduceAdd]
    refine xS.ret rfl rfl rfl (fun _ _ => rfl) ?_
    rw [pk_lDiv hp1 hgp hgl, pk_lDiv hd1 hgp hgl]
    exact ⟨rfl, rfl⟩

end
