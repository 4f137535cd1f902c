/-! LimpMirror: sets of steps, tallies, turns, the greatest common divisor -/
def gset (g : Nat → Nat → Int32) (a n : Nat) (S : Nat → Int32) : Nat → Nat → Int32 := fun a' i' => if a' = a ∧ i' < n then S i' else g a' i'
theorem gset_na {g : Nat → Nat → Int32} {a n a' : Nat} {S : Nat → Int32} (h : a' ≠ a) : gset g a n S a' = g a' := funext (fun _ => if_neg (fun z => h z.1))
theorem gset_in {g : Nat → Nat → Int32} {a n i : Nat} {S : Nat → Int32} (h : i < n) : gset g a n S a i = S i := if_pos ⟨rfl, h⟩
theorem gset_up {g : Nat → Nat → Int32} {a n s : Nat} {S : Nat → Int32} {v : Int32} (h : s < n) : up (gset g a n S) a s v = gset g a n (fun p => if p = s then v else S p) := by
  funext a' i'
  unfold up gset
  by_cases e : a' = a
  · subst e
    by_cases e2 : i' = s
    · subst e2
      simp [h]
    · by_cases e3 : i' < n
      · simp [e2, e3]
      · simp [e2, e3]
  · simp [e]
theorem gset_fill {g : Nat → Nat → Int32} {a n : Nat} {v : Int32} : gfill g a n v = gset g a n (fun _ => v) := rfl
def xst (κ δ : Nat) (B : Nat → Int32) (n : Nat) : Nat → Int32 := Nat.rec (motive := fun _ => Nat → Int32) (fun _ => 63) (fun i S => match xsrc κ δ i with
  | some s => fun p => if p = s then S s &&& B i else S p
  | none => S) n
def xps (κ δ : Nat) (f : Nat → Int32) (n : Nat) : Bool := Nat.rec (motive := fun _ => Bool) true (fun i c => match xsrc κ δ i with
  | some _ => c
  | none => bif decide (f i = 0) then c else false) n
def xnz (S : Nat → Int32) (n : Nat) (c : Bool) : Bool := Nat.rec (motive := fun _ => Bool) c (fun i c => c && !decide (S i = 0)) n
def xB (h : Nat → Int32) (κ : Nat) (f : Nat → Int32) (i : Nat) : Int32 := xbits (fun s => decide (xseen h κ i s = f i)) 6
theorem xst_s (κ δ : Nat) (B : Nat → Int32) (n : Nat) : xst κ δ B (n + 1) = (match xsrc κ δ n with
  | some s => fun p => if p = s then xst κ δ B n s &&& B n else xst κ δ B n p
  | none => xst κ δ B n) := rfl
theorem xst_some {κ δ : Nat} {B : Nat → Int32} {n s : Nat} (h : xsrc κ δ n = some s) : xst κ δ B (n + 1) = fun p => if p = s then xst κ δ B n s &&& B n else xst κ δ B n p := by
  rw [xst_s, h]
theorem xst_none {κ δ : Nat} {B : Nat → Int32} {n : Nat} (h : xsrc κ δ n = none) : xst κ δ B (n + 1) = xst κ δ B n := by
  rw [xst_s, h]
theorem xps_s (κ δ : Nat) (f : Nat → Int32) (n : Nat) : xps κ δ f (n + 1) = (match xsrc κ δ n with
  | some _ => xps κ δ f n
  | none => bif decide (f n = 0) then xps κ δ f n else false) := rfl
theorem xps_some {κ δ : Nat} {f : Nat → Int32} {n s : Nat} (h : xsrc κ δ n = some s) : xps κ δ f (n + 1) = xps κ δ f n := by
  rw [xps_s, h]
theorem xps_z {κ δ : Nat} {f : Nat → Int32} {n : Nat} (h : xsrc κ δ n = none) (hz : f n = 0) : xps κ δ f (n + 1) = xps κ δ f n := by
  rw [xps_s, h]
  simp [hz]
theorem xps_nz {κ δ : Nat} {f : Nat → Int32} {n : Nat} (h : xsrc κ δ n = none) (hz : ¬ f n = 0) : xps κ δ f (n + 1) = false := by
  rw [xps_s, h]
  simp [hz]
theorem xbi (c : Bool) : (if c = true then (1 : Int32) else 0) &&& 1 = if c = true then 1 else 0 := by cases c <;> decide
theorem xbo (c : Bool) : (if c = true then (1 : Int32) else 0) &&& 0 = 0 := by cases c <;> decide
theorem xsrc_pos {o : Option Nat} (h : ∀ s, o = some s → s < 2 ^ 31) : (xoI o < 0 ↔ o = none) := by
  cases o with
  | none => exact ⟨fun _ => rfl, fun _ => by decide⟩
  | some s => exact ⟨fun z => absurd z (nI_pos (h s rfl)), fun z => by cases z⟩

section
variable {k a c n n2 m t p s d i1 j1 : Nat} {b : Nat × Nat} {g : Nat → Nat → Int32} {l : Nat → Nat → Int64} {i j x y z v w : Int32} {u w1 w2 : Int64}
variable {L G T : Nat} {Lw : Nat → Nat}
set_option maxRecDepth 10000 in
theorem c_X11_findSets (hb : xro b.1) (hR : xRm g b.1 G T Lw) (hp : xpn g) (hbv : b.1 = 7 ∨ b.1 = 11) (hL : L < 24) (hF : xce c n) (hs : g c 1 = nI m) (hm : m ≤ n) (hm6 : m ≤ 6) (hc1 : c ≠ 17) (hc2 : c + 1 ≠ 17) : xT (k + 5) 140 [.ref 0, .ref (43 + L), .ref c] (xH b g l) (fun r M' => M' = xH b (gset g 17 m (xst (L / 4) (L % 4) (xB (g (b.1 + 1)) (L / 4) (g (c + 1))) m)) l ∧ r = some (.int (if xnz (xst (L / 4) (L % 4) (xB (g (b.1 + 1)) (L / 4) (g (c + 1))) m) m (xps (L / 4) (L % 4) (g (c + 1)) m) = true then 1 else 0))) := by
  refine xT.of rfl (Nat.le_of_ble_eq_true rfl) ?_
  dsimp only [lv_args]
  refine xS.s1 rfl rfl ?_
  try dsimp only [Nat.reduceAdd]
  -- 1 yX0_size
  refine xS.cv rfl rfl rfl (hF.1 _) rfl rfl ⟨by decide, rfl, rfl⟩ (c_X0_size hF) (fun v M1 hv => ?_)
  rw [hv.1, hv.2, hs]
  clear hv M1 v
  try dsimp only [Nat.reduceAdd, Option.toList, List.cons_append, List.nil_append, List.drop]
  refine xS.s1 rfl rfl ?_
  try dsimp only [Nat.reduceAdd, xj_6]
  refine xS.s3 (pc' := 9) (M1 := xH b g l) (st' := [.int (if (6 : Int32) < nI m then 6 else nI m)]) rfl rfl rfl (fun _ _ => rfl) ?_
  rw [show (if (6 : Int32) < nI m then 6 else nI m) = nI m from if_neg (Int32.not_lt.mpr (nI_le (b := 6) hm6 (by omega)))]
  refine xS.s1 rfl rfl ?_
  try dsimp only [Nat.reduceAdd]
  refine xS.s1 rfl rfl ?_
  try dsimp only [Nat.reduceAdd, xi_0]
  refine xS.s1 rfl rfl ?_
  try dsimp only [Nat.reduceAdd]
  refine xS.pick [0, 2, 3, 4, 1] rfl ?_
  refine xS.loop (σ := Unit) (m) (fun j S => [(4, .int (nI j)), (0, .ref 0), (1, .ref (43 + L)), (2, .ref c), (3, .int (nI m))]) (fun j _ => xH b (gfill g 17 j 63) l) (fun _ _ => True) (()) (rfl) (by rw [gfill_0]) (trivial) ?_
  intro j S hj hI ih
  try dsimp only
  refine xS.s1 rfl rfl ?_
  try dsimp only [Nat.reduceAdd]
  refine xS.s1 rfl rfl ?_
  try dsimp only [Nat.reduceAdd]
  refine xS.br (c := .ge) (off := 18) (l := 3) rfl rfl (fun h16 => ?_) (fun h16 => ?_)
  · have g16 := xt_ge h16
    have ej : m = j := by
      have := xnle g16 (by omega) (by omega)
      omega
    subst ej
    refine xS.s1 rfl rfl ?_
    try dsimp only [Nat.reduceAdd, xi_1]
    refine xS.s1 rfl rfl ?_
    try dsimp only [Nat.reduceAdd]
    refine xS.s1 rfl rfl ?_
    try dsimp only [Nat.reduceAdd, xi_0]
    refine xS.s1 rfl rfl ?_
    try dsimp only [Nat.reduceAdd]
    refine xS.pick [0, 1, 2, 3, 4, 5] rfl ?_
    refine xS.loop (σ := Unit) (m) (fun i S => [(5, .int (nI i)), (4, .int (if xps (L / 4) (L % 4) (g (c + 1)) i = true then 1 else 0)), (0, .ref 0), (1, .ref (43 + L)), (2, .ref c), (3, .int (nI m))]) (fun i _ => xH b (gset g 17 m (xst (L / 4) (L % 4) (xB (g (b.1 + 1)) (L / 4) (g (c + 1))) i)) l) (fun _ _ => True) (()) (rfl) (rfl) (trivial) ?_
    intro i S2 hi hI2 ih2
    try dsimp only
    have hR2 : xRm (gset g 17 m (xst (L / 4) (L % 4) (xB (g (b.1 + 1)) (L / 4) (g (c + 1))) i)) b.1 G T Lw := xRm_fr (fun i _ _ => gset_na (by omega)) hR
    have hp2 : xpn (gset g 17 m (xst (L / 4) (L % 4) (xB (g (b.1 + 1)) (L / 4) (g (c + 1))) i)) := xpn_fr (fun i _ _ => gset_na (by omega)) hp
    have hs2 : gset g 17 m (xst (L / 4) (L % 4) (xB (g (b.1 + 1)) (L / 4) (g (c + 1))) i) c 1 = nI m := by rw [gset_na hc1]; exact hs
    have e1 : gset g 17 m (xst (L / 4) (L % 4) (xB (g (b.1 + 1)) (L / 4) (g (c + 1))) i) (b.1 + 1) = g (b.1 + 1) := gset_na (by omega)
    have ec : gset g 17 m (xst (L / 4) (L % 4) (xB (g (b.1 + 1)) (L / 4) (g (c + 1))) i) (c + 1) = g (c + 1) := gset_na hc2
    refine xS.s1 rfl rfl ?_
    try dsimp only [Nat.reduceAdd]
    refine xS.s1 rfl rfl ?_
    try dsimp only [Nat.reduceAdd]
    refine xS.br (c := .ge) (off := 69) (l := 3) rfl rfl (fun h43 => ?_) (fun h43 => ?_)
    · have g43 := xt_ge h43
      have ei : m = i := by
        have := xnle g43 (by omega) (by omega)
        omega
      subst ei
      refine xS.s1 rfl rfl ?_
      try dsimp only [Nat.reduceAdd, xi_0]
      refine xS.s1 rfl rfl ?_
      try dsimp only [Nat.reduceAdd]
      refine xS.pick [0, 1, 2, 3, 4, 5] rfl ?_
      refine xS.loop (σ := Unit) (m) (fun i S => [(5, .int (nI i)), (4, .int (if xnz (xst (L / 4) (L % 4) (xB (g (b.1 + 1)) (L / 4) (g (c + 1))) m) i (xps (L / 4) (L % 4) (g (c + 1)) m) = true then 1 else 0)), (0, .ref 0), (1, .ref (43 + L)), (2, .ref c), (3, .int (nI m))]) (fun _ _ => xH b (gset g 17 m (xst (L / 4) (L % 4) (xB (g (b.1 + 1)) (L / 4) (g (c + 1))) m)) l) (fun _ _ => True) (()) (rfl) (rfl) (trivial) ?_
      intro i S3 hi hI3 ih3
      try dsimp only
      refine xS.s1 rfl rfl ?_
      try dsimp only [Nat.reduceAdd]
      refine xS.s1 rfl rfl ?_
      try dsimp only [Nat.reduceAdd]
      refine xS.br (c := .ge) (off := 29) (l := 3) rfl rfl (fun h118 => ?_) (fun h118 => ?_)
      · have g118 := xt_ge h118
        refine xS.s1 rfl rfl ?_
        try dsimp only [Nat.reduceAdd]
        refine xS.retB rfl rfl ?_
        have ei : m = i := by
          have := xnle g118 (by omega) (by omega)
          omega
        subst ei
        exact ⟨rfl, rfl⟩
      · have g118 := xf_ge h118
        have hlt := xnlt g118 (by omega) (by omega)
        refine xS.s1 rfl rfl ?_
        try dsimp only [Nat.reduceAdd]
        refine xS.s1 rfl rfl ?_
        try dsimp only [Nat.reduceAdd]
        refine xS.gR rfl rfl rfl ⟨by decide, rfl⟩ rfl ?_
        try dsimp only [Nat.reduceAdd]
        refine xS.s1 rfl rfl ?_
        try dsimp only [Nat.reduceAdd]
        refine xS.ia rfl xar_17 (by omega) ?_
        try dsimp only [Nat.reduceAdd]
        rw [gset_in (by omega)]
        refine xS.br0 (c := .eq) (off := 7) (l := 3) rfl rfl (fun h130 => ?_) (fun h130 => ?_)
        · have g130 := xt_eq h130
          refine xS.s1 rfl rfl ?_
          try dsimp only [Nat.reduceAdd, xi_0]
          refine xS.s1 rfl rfl ?_
          try dsimp only [Nat.reduceAdd]
          refine xS.s1 rfl rfl ?_
          try dsimp only [Nat.reduceAdd]
          refine xS.s1 rfl rfl ?_
          try dsimp only [Nat.reduceAdd, xi_1]
          rw [nI_1]
          refine xS.s1 rfl rfl ?_
          try dsimp only [Nat.reduceAdd]
          refine xS.pick [0, 1, 2, 3, 4, 5] rfl ?_
          have ih4 := ih3 () (by omega) trivial
          rw [show xnz (xst (L / 4) (L % 4) (xB (g (b.1 + 1)) (L / 4) (g (c + 1))) m) (i + 1) (xps (L / 4) (L % 4) (g (c + 1)) m) = (xnz (xst (L / 4) (L % 4) (xB (g (b.1 + 1)) (L / 4) (g (c + 1))) m) i (xps (L / 4) (L % 4) (g (c + 1)) m) && !decide ((xst (L / 4) (L % 4) (xB (g (b.1 + 1)) (L / 4) (g (c + 1))) m) i = 0)) from rfl] at ih4
          simp only [g130, decide_true, decide_false, Bool.not_true, Bool.not_false, Bool.and_true, Bool.and_false, if_false, Bool.false_eq_true] at ih4
          rw [xbo]
          exact ih4
        · have g130 := xf_eq h130
          refine xS.s1 rfl rfl ?_
          try dsimp only [Nat.reduceAdd, xi_1]
          refine xS.s1 rfl rfl ?_
          try dsimp only [Nat.reduceAdd]
          refine xS.s1 rfl rfl ?_
          try dsimp only [Nat.reduceAdd]
          refine xS.s1 rfl rfl ?_
          try dsimp only [Nat.reduceAdd]
          refine xS.s1 rfl rfl ?_
          try dsimp only [Nat.reduceAdd, xi_1]
          rw [nI_1]
          refine xS.s1 rfl rfl ?_
          try dsimp only [Nat.reduceAdd]
          refine xS.pick [0, 1, 2, 3, 4, 5] rfl ?_
          have ih4 := ih3 () (by omega) trivial
          rw [show xnz (xst (L / 4) (L % 4) (xB (g (b.1 + 1)) (L / 4) (g (c + 1))) m) (i + 1) (xps (L / 4) (L % 4) (g (c + 1)) m) = (xnz (xst (L / 4) (L % 4) (xB (g (b.1 + 1)) (L / 4) (g (c + 1))) m) i (xps (L / 4) (L % 4) (g (c + 1)) m) && !decide ((xst (L / 4) (L % 4) (xB (g (b.1 + 1)) (L / 4) (g (c + 1))) m) i = 0)) from rfl] at ih4
          simp only [g130, decide_true, decide_false, Bool.not_true, Bool.not_false, Bool.and_true, Bool.and_false, if_false, Bool.false_eq_true] at ih4
          rw [xbi]
          exact ih4
    · have g43 := xf_ge h43
      have hlt := xnlt g43 (by omega) (by omega)
      refine xS.s1 rfl rfl ?_
      try dsimp only [Nat.reduceAdd]
      refine xS.s1 rfl rfl ?_
      try dsimp only [Nat.reduceAdd]
      refine xS.cSrc rfl rfl hp2 hL (by omega) rfl ?_
      try dsimp only [Nat.reduceAdd]
      refine xS.s1 rfl rfl ?_
      try dsimp only [Nat.reduceAdd]
      refine xS.s1 rfl rfl ?_
      try dsimp only [Nat.reduceAdd]
      refine xS.br0 (c := .lt) (off := 38) (l := 3) rfl rfl (fun h56 => ?_) (fun h56 => ?_)
      · have g56 := xt_lt h56
        rw [xsrc_pos (fun s h => by have := xsrc_le h; omega)] at g56
        have eu := g56
        clear g56
        refine xS.s1 rfl rfl ?_
        try dsimp only [Nat.reduceAdd]
        refine xS.s1 rfl rfl ?_
        try dsimp only [Nat.reduceAdd]
        -- 97 yX0_get
        refine xS.cv rfl rfl rfl (hF.1 _) rfl rfl ⟨by decide, rfl, rfl⟩ (c_X0_get hF hs2 hm hlt) (fun v M1 hv => ?_)
        rw [hv.1, hv.2, ec]
        clear hv M1 v
        try dsimp only [Nat.reduceAdd, Option.toList, List.cons_append, List.nil_append, List.drop]
        refine xS.br0 (c := .eq) (off := 6) (l := 3) rfl rfl (fun h100 => ?_) (fun h100 => ?_)
        · have g100 := xt_eq h100
          refine xS.s1 rfl rfl ?_
          try dsimp only [Nat.reduceAdd, xi_1]
          rw [nI_1]
          refine xS.s1 rfl rfl ?_
          try dsimp only [Nat.reduceAdd]
          refine xS.pick [0, 2, 3, 4, 5, 6] rfl ?_
          have ih3 := ih2 () (by omega) trivial
          rw [xst_none eu, xps_z eu g100] at ih3
          exact ih3
        · have g100 := xf_eq h100
          refine xS.s1 rfl rfl ?_
          try dsimp only [Nat.reduceAdd, xi_0]
          refine xS.s1 rfl rfl ?_
          try dsimp only [Nat.reduceAdd]
          refine xS.s1 rfl rfl ?_
          try dsimp only [Nat.reduceAdd, xi_1]
          rw [nI_1]
          refine xS.s1 rfl rfl ?_
          try dsimp only [Nat.reduceAdd]
          refine xS.pick [0, 1, 3, 4, 5, 6] rfl ?_
          have ih3 := ih2 () (by omega) trivial
          rw [xst_none eu, xps_nz eu g100] at ih3
          exact ih3
      · have g56 := xf_lt h56
        obtain ⟨u, eu⟩ : ∃ u, xsrc (L / 4) (L % 4) i = some u := by
          cases e : xsrc (L / 4) (L % 4) i with
          | none => rw [e] at g56; exact absurd g56 (by decide)
          | some u => exact ⟨u, rfl⟩
        have hu := xsrc_le eu
        rw [eu]
        change xS _ _ _ _ _ _ _
        refine xS.s1 rfl rfl ?_
        try dsimp only [Nat.reduceAdd]
        refine xS.s1 rfl rfl ?_
        try dsimp only [Nat.reduceAdd]
        refine xS.br (c := .ge) (off := 32) (l := 3) rfl rfl (fun h62 => ?_) (fun h62 => ?_)
        · have g62 := xt_ge h62
          exfalso; have := xnle (a := u) (b := m) g62 (by omega) (by omega); omega
        · have g62 := xf_ge h62
          refine xS.s1 rfl rfl ?_
          try dsimp only [Nat.reduceAdd]
          refine xS.gR rfl rfl rfl ⟨by decide, rfl⟩ rfl ?_
          try dsimp only [Nat.reduceAdd]
          refine xS.s1 rfl rfl ?_
          try dsimp only [Nat.reduceAdd]
          refine xS.s1 rfl rfl ?_
          try dsimp only [Nat.reduceAdd]
          refine xS.ia rfl xar_17 (by omega) ?_
          try dsimp only [Nat.reduceAdd]
          rw [gset_in (by omega)]
          refine xS.s1 rfl rfl ?_
          try dsimp only [Nat.reduceAdd]
          refine xS.gR rfl rfl rfl ⟨by decide, rfl⟩ rfl ?_
          try dsimp only [Nat.reduceAdd]
          refine xS.s1 rfl rfl ?_
          try dsimp only [Nat.reduceAdd]
          refine xS.s1 rfl rfl ?_
          try dsimp only [Nat.reduceAdd]
          refine xS.s1 rfl rfl ?_
          try dsimp only [Nat.reduceAdd]
          refine xS.s1 rfl rfl ?_
          try dsimp only [Nat.reduceAdd]
          -- 83 yX0_get
          refine xS.cv rfl rfl rfl (hF.1 _) rfl rfl ⟨by decide, rfl, rfl⟩ (c_X0_get hF hs2 hm hlt) (fun v M1 hv => ?_)
          rw [hv.1, hv.2, ec]
          clear hv M1 v
          try dsimp only [Nat.reduceAdd, Option.toList, List.cons_append, List.nil_append, List.drop]
          -- 86 yX8_stepsSeenAs
          refine xS.cv rfl rfl rfl (hb.1 _) rfl rfl ⟨by decide, rfl, rfl⟩ (c_X8_stepsSeenAs hb hL (by omega)) (fun v M1 hv => ?_)
          rw [hv.1, hv.2, e1]
          clear hv M1 v
          try dsimp only [Nat.reduceAdd, Option.toList, List.cons_append, List.nil_append, List.drop]
          refine xS.s1 rfl rfl ?_
          try dsimp only [Nat.reduceAdd]
          refine xS.ias rfl xar_17 (by omega) ?_
          try dsimp only [Nat.reduceAdd]
          rw [gset_up (by omega)]
          refine xS.s1 rfl rfl ?_
          try dsimp only [Nat.reduceAdd]
          refine xS.s1 rfl rfl ?_
          try dsimp only [Nat.reduceAdd, xi_1]
          rw [nI_1]
          refine xS.s1 rfl rfl ?_
          try dsimp only [Nat.reduceAdd]
          refine xS.pick [0, 2, 3, 4, 5, 6] rfl ?_
          have ih3 := ih2 () (by omega) trivial
          rw [xst_some eu, xps_some eu] at ih3
          exact ih3
  · have g16 := xf_ge h16
    have hlt := xnlt g16 (by omega) (by omega)
    refine xS.s1 rfl rfl ?_
    try dsimp only [Nat.reduceAdd]
    refine xS.gR rfl rfl rfl ⟨by decide, rfl⟩ rfl ?_
    try dsimp only [Nat.reduceAdd]
    refine xS.s1 rfl rfl ?_
    try dsimp only [Nat.reduceAdd]
    refine xS.s1 rfl rfl ?_
    try dsimp only [Nat.reduceAdd, xj_63]
    refine xS.ias rfl xar_17 (by omega) ?_
    try dsimp only [Nat.reduceAdd]
    refine xS.s1 rfl rfl ?_
    try dsimp only [Nat.reduceAdd, xi_1]
    rw [nI_1]
    refine xS.s1 rfl rfl ?_
    try dsimp only [Nat.reduceAdd]
    refine xS.pick [0, 1, 2, 3, 4] rfl ?_
    rw [gfill_s]
    exact ih () (by omega) trivial

end
