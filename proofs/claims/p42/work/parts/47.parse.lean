/-! LimpMirror: fault, room -/
theorem xmis {α β : Type} {F : Nat → α → β} {fs : List α} {i : Nat} {w : α} : (fs.mapIdx F).set i (F i w) = (fs.set i w).mapIdx F := by
  apply List.ext_getElem?
  intro j
  rw [List.getElem?_set, List.getElem?_mapIdx, List.getElem?_mapIdx, List.getElem?_set, List.length_mapIdx]
  by_cases e : i = j
  · subst e
    by_cases h : i < fs.length <;> simp [h]
  · simp [e]
theorem xH_set5 {b : Nat × Nat} {g : Nat → Nat → Int32} {l : Nat → Nat → Int64} {c : Nat} : (xH b g l).set 0 (10, (([.ref 1, .ref 2, .ref 3, .ref 4, .ref 6, .ref b.1, .ref b.2, .ref 15, .ref 17, .ref 18, .ref 19, .int 0, .long 0, .long 0, .int 0, .ref 22] : List Value).mapIdx (xfi g l 0)).set 5 (.ref c)) = xH (c, b.2) g l := by
  rw [xH_eq, xH_eq]
  have e1 : (([.ref 1, .ref 2, .ref 3, .ref 4, .ref 6, .ref b.1, .ref b.2, .ref 15, .ref 17, .ref 18, .ref 19, .int 0, .long 0, .long 0, .int 0, .ref 22] : List Value).mapIdx (xfi g l 0)).set 5 (.ref c) = (([.ref 1, .ref 2, .ref 3, .ref 4, .ref 6, .ref b.1, .ref b.2, .ref 15, .ref 17, .ref 18, .ref 19, .int 0, .long 0, .long 0, .int 0, .ref 22] : List Value).set 5 (.ref c)).mapIdx (xfi g l 0) := xmis (F := xfi g l 0) (w := .ref c)
  rw [e1]
  have e2 := xmis (F := fun a (c : Nat × List Value) => (c.1, c.2.mapIdx (xfi g l a))) (fs := xsh b) (i := 0) (w := (10, ([.ref 1, .ref 2, .ref 3, .ref 4, .ref 6, .ref b.1, .ref b.2, .ref 15, .ref 17, .ref 18, .ref 19, .int 0, .long 0, .long 0, .int 0, .ref 22] : List Value).set 5 (.ref c)))
  have e3 : (xsh b).set 0 (10, ([.ref 1, .ref 2, .ref 3, .ref 4, .ref 6, .ref b.1, .ref b.2, .ref 15, .ref 17, .ref 18, .ref 19, .int 0, .long 0, .long 0, .int 0, .ref 22] : List Value).set 5 (.ref c)) = xsh (c, b.2) := rfl
  rw [e3] at e2
  exact e2
theorem xH_set6 {b : Nat × Nat} {g : Nat → Nat → Int32} {l : Nat → Nat → Int64} {c : Nat} : (xH b g l).set 0 (10, (([.ref 1, .ref 2, .ref 3, .ref 4, .ref 6, .ref b.1, .ref b.2, .ref 15, .ref 17, .ref 18, .ref 19, .int 0, .long 0, .long 0, .int 0, .ref 22] : List Value).mapIdx (xfi g l 0)).set 6 (.ref c)) = xH (b.1, c) g l := by
  rw [xH_eq, xH_eq]
  have e1 : (([.ref 1, .ref 2, .ref 3, .ref 4, .ref 6, .ref b.1, .ref b.2, .ref 15, .ref 17, .ref 18, .ref 19, .int 0, .long 0, .long 0, .int 0, .ref 22] : List Value).mapIdx (xfi g l 0)).set 6 (.ref c) = (([.ref 1, .ref 2, .ref 3, .ref 4, .ref 6, .ref b.1, .ref b.2, .ref 15, .ref 17, .ref 18, .ref 19, .int 0, .long 0, .long 0, .int 0, .ref 22] : List Value).set 6 (.ref c)).mapIdx (xfi g l 0) := xmis (F := xfi g l 0) (w := .ref c)
  rw [e1]
  have e2 := xmis (F := fun a (c : Nat × List Value) => (c.1, c.2.mapIdx (xfi g l a))) (fs := xsh b) (i := 0) (w := (10, ([.ref 1, .ref 2, .ref 3, .ref 4, .ref 6, .ref b.1, .ref b.2, .ref 15, .ref 17, .ref 18, .ref 19, .int 0, .long 0, .long 0, .int 0, .ref 22] : List Value).set 6 (.ref c)))
  have e3 : (xsh b).set 0 (10, ([.ref 1, .ref 2, .ref 3, .ref 4, .ref 6, .ref b.1, .ref b.2, .ref 15, .ref 17, .ref 18, .ref 19, .int 0, .long 0, .long 0, .int 0, .ref 22] : List Value).set 6 (.ref c)) = xsh (b.1, c) := rfl
  rw [e3] at e2
  exact e2
section
variable {q : xQ} {k pc l0 idx : Nat} {lv : xL} {rest : List Value} {P : Option Value → xM → Prop} {b : Nat × Nat} {g : Nat → Nat → Int32} {l : Nat → Nat → Int64} {c : Nat} {e : xFE}
theorem xS.pR5 (hl : xe_lkF q.1 pc = some (.putfield idx, l0)) (he : xfF q.2.1 idx = some e) (hc : ((10 : Nat) < 12 ∧ e.2.2.2.2.contains 10 = true) ∧ ((2 : Nat) = e.2.2.1 ∧ (e.2.2.2.1 = true → q.2.2.2.2 = true) ∧ e.2.2.1 < 3)) (h5 : e.2.1 = 5) (h : xS q k (pc + 3) lv rest (xH (c, b.2) g l) P) : xS q k pc lv (.ref c :: .ref 0 :: rest) (xH b g l) P := by
  refine xS.put hl (xH_get (a := 0) rfl) he ⟨hc.1, hc.2, ?_⟩ ?_
  · rw [List.length_mapIdx, h5]
    exact Nat.le_of_ble_eq_true rfl
  · rw [h5, xH_set5]
    exact h
theorem xS.pR6 (hl : xe_lkF q.1 pc = some (.putfield idx, l0)) (he : xfF q.2.1 idx = some e) (hc : ((10 : Nat) < 12 ∧ e.2.2.2.2.contains 10 = true) ∧ ((2 : Nat) = e.2.2.1 ∧ (e.2.2.2.1 = true → q.2.2.2.2 = true) ∧ e.2.2.1 < 3)) (h5 : e.2.1 = 6) (h : xS q k (pc + 3) lv rest (xH (b.1, c) g l) P) : xS q k pc lv (.ref c :: .ref 0 :: rest) (xH b g l) P := by
  refine xS.put hl (xH_get (a := 0) rfl) he ⟨hc.1, hc.2, ?_⟩ ?_
  · rw [List.length_mapIdx, h5]
    exact Nat.le_of_ble_eq_true rfl
  · rw [h5, xH_set6]
    exact h
end

section
variable {k a c n n2 m t p s d i1 j1 : Nat} {b : Nat × Nat} {g : Nat → Nat → Int32} {l : Nat → Nat → Int64} {i j x y z v w : Int32} {u w1 w2 : Int64}
variable {L G T κ δ : Nat} {Lw : Nat → Nat} {f tx : Nat → Int32} {R : xPR}
set_option maxRecDepth 10000 in
theorem c_X11_fault_bad (hx : ¬ (0 ≤ x ∧ x < 4)) : xT (k + 7) 86 [.ref 0, .int x] (xH b g l) (fun r M' => M' = xH b g l ∧ r = some (.int (-1))) := by
  refine xT.of rfl (Nat.le_of_ble_eq_true rfl) ?_
  change xS _ _ 0 [(0, .ref 0), (1, .int x)] [] _ _
  refine xS.s1 rfl rfl ?_
  try dsimp only [Nat.reduceAdd]
  -- 1 yX11_isText
  refine xS.callS rfl rfl rfl ⟨Nat.le_of_ble_eq_true rfl, rfl⟩ c_X11_isText (fun v M1 hv => ?_)
  rw [hv.1, hv.2]
  clear hv M1 v
  try dsimp only [Nat.reduceAdd, Option.toList, List.cons_append, List.nil_append, List.drop]
  refine xS.br0 (c := .ne) (off := 5) (l := 3) rfl rfl (fun h4 => ?_) (fun h4 => ?_)
  · have g4 := xt_ne h4
    exact absurd (xif1 g4) hx
  · have g4 := xf_ne h4
    refine xS.s1 rfl rfl ?_
    try dsimp only [Nat.reduceAdd, xi_m1]
    refine xS.ret rfl rfl rfl (fun _ _ => rfl) ?_
    exact ⟨rfl, rfl⟩

set_option maxRecDepth 10000 in
theorem c_X11_fault_no (ht : t < 4) (hs : g (35 + 2 * t) 1 = -1) : xT (k + 7) 86 [.ref 0, .int (nI t)] (xH b g l) (fun r M' => M' = xH b (xfC g 1) l ∧ r = some (.int (-3))) := by
  refine xT.of rfl (Nat.le_of_ble_eq_true rfl) ?_
  change xS _ _ 0 [(0, .ref 0), (1, .int (nI t))] [] _ _
  refine xS.s1 rfl rfl ?_
  try dsimp only [Nat.reduceAdd]
  -- 1 yX11_isText
  refine xS.callS rfl rfl rfl ⟨Nat.le_of_ble_eq_true rfl, rfl⟩ (c_X11_isText_in ht) (fun v M1 hv => ?_)
  rw [hv.1, hv.2]
  clear hv M1 v
  try dsimp only [Nat.reduceAdd, Option.toList, List.cons_append, List.nil_append, List.drop]
  refine xS.br0 (c := .ne) (off := 5) (l := 3) rfl rfl (fun h4 => ?_) (fun h4 => ?_)
  · have g4 := xt_ne h4
    refine xS.s1 rfl rfl ?_
    try dsimp only [Nat.reduceAdd]
    refine xS.gR rfl rfl rfl ⟨by decide, rfl⟩ rfl ?_
    try dsimp only [Nat.reduceAdd]
    refine xS.s1 rfl rfl ?_
    try dsimp only [Nat.reduceAdd]
    refine xS.aR rfl rfl (by decide) (by omega) (xsh2_get (by omega)) ?_
    try dsimp only [Nat.reduceAdd]
    -- 15 yX0_isMissing
    refine xS.cv rfl rfl rfl ((xce_text (r := t) (by omega)).1 _) rfl rfl ⟨by decide, rfl, rfl⟩ (c_X0_isMissing (xce_text (r := t) (by omega))) (fun v M1 hv => ?_)
    rw [hv.1, hv.2]
    clear hv M1 v
    try dsimp only [Nat.reduceAdd, Option.toList, List.cons_append, List.nil_append, List.drop]
    refine xS.br0 (c := .eq) (off := 9) (l := 3) rfl rfl (fun h18 => ?_) (fun h18 => ?_)
    · have g18 := xt_eq h18
      exact absurd hs (xif0 g18)
    · have g18 := xf_eq h18
      refine xS.s1 rfl rfl ?_
      try dsimp only [Nat.reduceAdd]
      refine xS.s1 rfl rfl ?_
      try dsimp only [Nat.reduceAdd, xi_1]
      -- 23 yX11_refuse
      refine xS.cv rfl rfl rfl rfl rfl rfl ⟨by decide, rfl, rfl⟩ (c_X11_refuse (t := 1) (by decide) (by decide)) (fun v M1 hv => ?_)
      rw [hv.1, hv.2]
      clear hv M1 v
      try dsimp only [Nat.reduceAdd, Option.toList, List.cons_append, List.nil_append, List.drop]
      refine xS.ret rfl rfl rfl (fun _ _ => rfl) ?_
      exact ⟨rfl, rfl⟩
  · have g4 := xf_ne h4
    exfalso; first | exact absurd g4 (by decide) | (simp (disch := omega) only [Int32.lt_iff_toInt_lt, Int32.le_iff_toInt_le, nI_toInt, Int32.reduceToInt] at g4 <;> omega)

set_option maxRecDepth 10000 in
theorem c_X11_room_bad (hx : ¬ (0 ≤ x ∧ x < 4)) : xT (k + 7) 87 [.ref 0, .int x] (xH b g l) (fun r M' => M' = xH b g l ∧ r = some (.int (-1))) := by
  refine xT.of rfl (Nat.le_of_ble_eq_true rfl) ?_
  change xS _ _ 0 [(0, .ref 0), (1, .int x)] [] _ _
  refine xS.s1 rfl rfl ?_
  try dsimp only [Nat.reduceAdd]
  -- 1 yX11_isText
  refine xS.callS rfl rfl rfl ⟨Nat.le_of_ble_eq_true rfl, rfl⟩ c_X11_isText (fun v M1 hv => ?_)
  rw [hv.1, hv.2]
  clear hv M1 v
  try dsimp only [Nat.reduceAdd, Option.toList, List.cons_append, List.nil_append, List.drop]
  refine xS.br0 (c := .ne) (off := 5) (l := 3) rfl rfl (fun h4 => ?_) (fun h4 => ?_)
  · have g4 := xt_ne h4
    exact absurd (xif1 g4) hx
  · have g4 := xf_ne h4
    refine xS.s1 rfl rfl ?_
    try dsimp only [Nat.reduceAdd, xi_m1]
    refine xS.ret rfl rfl rfl (fun _ _ => rfl) ?_
    exact ⟨rfl, rfl⟩

set_option maxRecDepth 10000 in
theorem c_X11_room_no (ht : t < 4) (hs : g (35 + 2 * t) 1 = -1) : xT (k + 7) 87 [.ref 0, .int (nI t)] (xH b g l) (fun r M' => M' = xH b (xfC g 1) l ∧ r = some (.int (-3))) := by
  refine xT.of rfl (Nat.le_of_ble_eq_true rfl) ?_
  change xS _ _ 0 [(0, .ref 0), (1, .int (nI t))] [] _ _
  refine xS.s1 rfl rfl ?_
  try dsimp only [Nat.reduceAdd]
  -- 1 yX11_isText
  refine xS.callS rfl rfl rfl ⟨Nat.le_of_ble_eq_true rfl, rfl⟩ (c_X11_isText_in ht) (fun v M1 hv => ?_)
  rw [hv.1, hv.2]
  clear hv M1 v
  try dsimp only [Nat.reduceAdd, Option.toList, List.cons_append, List.nil_append, List.drop]
  refine xS.br0 (c := .ne) (off := 5) (l := 3) rfl rfl (fun h4 => ?_) (fun h4 => ?_)
  · have g4 := xt_ne h4
    refine xS.s1 rfl rfl ?_
    try dsimp only [Nat.reduceAdd]
    refine xS.gR rfl rfl rfl ⟨by decide, rfl⟩ rfl ?_
    try dsimp only [Nat.reduceAdd]
    refine xS.s1 rfl rfl ?_
    try dsimp only [Nat.reduceAdd]
    refine xS.aR rfl rfl (by decide) (by omega) (xsh2_get (by omega)) ?_
    try dsimp only [Nat.reduceAdd]
    -- 15 yX0_isMissing
    refine xS.cv rfl rfl rfl ((xce_text (r := t) (by omega)).1 _) rfl rfl ⟨by decide, rfl, rfl⟩ (c_X0_isMissing (xce_text (r := t) (by omega))) (fun v M1 hv => ?_)
    rw [hv.1, hv.2]
    clear hv M1 v
    try dsimp only [Nat.reduceAdd, Option.toList, List.cons_append, List.nil_append, List.drop]
    refine xS.br0 (c := .eq) (off := 9) (l := 3) rfl rfl (fun h18 => ?_) (fun h18 => ?_)
    · have g18 := xt_eq h18
      exact absurd hs (xif0 g18)
    · have g18 := xf_eq h18
      refine xS.s1 rfl rfl ?_
      try dsimp only [Nat.reduceAdd]
      refine xS.s1 rfl rfl ?_
      try dsimp only [Nat.reduceAdd, xi_1]
      -- 23 yX11_refuse
      refine xS.cv rfl rfl rfl rfl rfl rfl ⟨by decide, rfl, rfl⟩ (c_X11_refuse (t := 1) (by decide) (by decide)) (fun v M1 hv => ?_)
      rw [hv.1, hv.2]
      clear hv M1 v
      try dsimp only [Nat.reduceAdd, Option.toList, List.cons_append, List.nil_append, List.drop]
      refine xS.ret rfl rfl rfl (fun _ _ => rfl) ?_
      exact ⟨rfl, rfl⟩
  · have g4 := xf_ne h4
    exfalso; first | exact absurd g4 (by decide) | (simp (disch := omega) only [Int32.lt_iff_toInt_lt, Int32.le_iff_toInt_le, nI_toInt, Int32.reduceToInt] at g4 <;> omega)

set_option maxRecDepth 10000 in
theorem c_X11_fault_ok (ht : t < 4) (hs : g (35 + 2 * t) 1 = nI m) (hm : m ≤ 60) (hfv : g (35 + 2 * t + 1) = f) (hd : xro b.2) (hb2 : b.2 ≤ 11) : xT (k + 7) 86 [.ref 0, .int (nI t)] (xH b g l) (fun r M' => ∃ g', M' = xH b g' l ∧ (∀ e, e ≠ b.2 → e ≠ b.2 + 1 → e ≠ b.2 + 2 → e ≠ b.2 + 3 → g' e = g e) ∧ r = some (.int (xfI (xprs f m).1))) := by
  refine xT.of rfl (Nat.le_of_ble_eq_true rfl) ?_
  change xS _ _ 0 [(0, .ref 0), (1, .int (nI t))] [] _ _
  refine xS.s1 rfl rfl ?_
  try dsimp only [Nat.reduceAdd]
  -- 1 yX11_isText
  refine xS.callS rfl rfl rfl ⟨Nat.le_of_ble_eq_true rfl, rfl⟩ (c_X11_isText_in ht) (fun v M1 hv => ?_)
  rw [hv.1, hv.2]
  clear hv M1 v
  try dsimp only [Nat.reduceAdd, Option.toList, List.cons_append, List.nil_append, List.drop]
  refine xS.br0 (c := .ne) (off := 5) (l := 3) rfl rfl (fun h4 => ?_) (fun h4 => ?_)
  · have g4 := xt_ne h4
    refine xS.s1 rfl rfl ?_
    try dsimp only [Nat.reduceAdd]
    refine xS.gR rfl rfl rfl ⟨by decide, rfl⟩ rfl ?_
    try dsimp only [Nat.reduceAdd]
    refine xS.s1 rfl rfl ?_
    try dsimp only [Nat.reduceAdd]
    refine xS.aR rfl rfl (by decide) (by omega) (xsh2_get (by omega)) ?_
    try dsimp only [Nat.reduceAdd]
    -- 15 yX0_isMissing
    refine xS.cv rfl rfl rfl ((xce_text (r := t) (by omega)).1 _) rfl rfl ⟨by decide, rfl, rfl⟩ (c_X0_isMissing (xce_text (r := t) (by omega))) (fun v M1 hv => ?_)
    rw [hv.1, hv.2]
    clear hv M1 v
    try dsimp only [Nat.reduceAdd, Option.toList, List.cons_append, List.nil_append, List.drop]
    refine xS.br0 (c := .eq) (off := 9) (l := 3) rfl rfl (fun h18 => ?_) (fun h18 => ?_)
    · have g18 := xt_eq h18
      refine xS.s1 rfl rfl ?_
      try dsimp only [Nat.reduceAdd]
      refine xS.gR rfl rfl rfl ⟨by decide, rfl⟩ rfl ?_
      try dsimp only [Nat.reduceAdd]
      refine xS.s1 rfl rfl ?_
      try dsimp only [Nat.reduceAdd]
      refine xS.gR rfl rfl rfl ⟨by decide, rfl⟩ rfl ?_
      try dsimp only [Nat.reduceAdd]
      refine xS.s1 rfl rfl ?_
      try dsimp only [Nat.reduceAdd]
      refine xS.aR rfl rfl (by decide) (by omega) (xsh2_get (by omega)) ?_
      try dsimp only [Nat.reduceAdd]
      -- 37 yX8_read
      refine xS.cv rfl rfl rfl (hd.1 _) rfl rfl ⟨by decide, rfl, rfl⟩ (c_X8_read hd (xce_text ht) (Or.inr (by omega)) hs hm hfv hm) (fun v M1 hv => ?_)
      obtain ⟨g2, rfl, hF2, rfl, hR2⟩ := hv
      try dsimp only [Nat.reduceAdd, Option.toList, List.cons_append, List.nil_append, List.drop]
      refine xS.ret rfl rfl rfl (fun _ _ => rfl) ?_
      exact ⟨g2, rfl, hF2, rfl⟩
    · have g18 := xf_eq h18
      exact absurd (by rw [← hs]; exact xif1 g18) (nI_nm1 (m := m) (by omega))
  · have g4 := xf_ne h4
    exfalso; first | exact absurd g4 (by decide) | (simp (disch := omega) only [Int32.lt_iff_toInt_lt, Int32.le_iff_toInt_le, nI_toInt, Int32.reduceToInt] at g4 <;> omega)

set_option maxRecDepth 10000 in
theorem c_X11_room_st (ht : t < 4) (hs : g (35 + 2 * t) 1 = nI m) (hm : m ≤ 60) (hfv : g (35 + 2 * t + 1) = f) (hd : xro b.2) (hb2 : b.2 ≤ 11) (hR : (xprs f m).1 ≠ none) (hdb : ∀ d, (xprs f m).1 = some d → d < 2 ^ 31) : xT (k + 7) 87 [.ref 0, .int (nI t)] (xH b g l) (fun r M' => ∃ g', M' = xH b g' l ∧ (∀ e, e ≠ b.2 → e ≠ b.2 + 1 → e ≠ b.2 + 2 → e ≠ b.2 + 3 → g' e = g e) ∧ r = some (.int (-4))) := by
  refine xT.of rfl (Nat.le_of_ble_eq_true rfl) ?_
  change xS _ _ 0 [(0, .ref 0), (1, .int (nI t))] [] _ _
  refine xS.s1 rfl rfl ?_
  try dsimp only [Nat.reduceAdd]
  -- 1 yX11_isText
  refine xS.callS rfl rfl rfl ⟨Nat.le_of_ble_eq_true rfl, rfl⟩ (c_X11_isText_in ht) (fun v M1 hv => ?_)
  rw [hv.1, hv.2]
  clear hv M1 v
  try dsimp only [Nat.reduceAdd, Option.toList, List.cons_append, List.nil_append, List.drop]
  refine xS.br0 (c := .ne) (off := 5) (l := 3) rfl rfl (fun h4 => ?_) (fun h4 => ?_)
  · have g4 := xt_ne h4
    refine xS.s1 rfl rfl ?_
    try dsimp only [Nat.reduceAdd]
    refine xS.gR rfl rfl rfl ⟨by decide, rfl⟩ rfl ?_
    try dsimp only [Nat.reduceAdd]
    refine xS.s1 rfl rfl ?_
    try dsimp only [Nat.reduceAdd]
    refine xS.aR rfl rfl (by decide) (by omega) (xsh2_get (by omega)) ?_
    try dsimp only [Nat.reduceAdd]
    -- 15 yX0_isMissing
    refine xS.cv rfl rfl rfl ((xce_text (r := t) (by omega)).1 _) rfl rfl ⟨by decide, rfl, rfl⟩ (c_X0_isMissing (xce_text (r := t) (by omega))) (fun v M1 hv => ?_)
    rw [hv.1, hv.2]
    clear hv M1 v
    try dsimp only [Nat.reduceAdd, Option.toList, List.cons_append, List.nil_append, List.drop]
    refine xS.br0 (c := .eq) (off := 9) (l := 3) rfl rfl (fun h18 => ?_) (fun h18 => ?_)
    · have g18 := xt_eq h18
      refine xS.s1 rfl rfl ?_
      try dsimp only [Nat.reduceAdd]
      refine xS.gR rfl rfl rfl ⟨by decide, rfl⟩ rfl ?_
      try dsimp only [Nat.reduceAdd]
      refine xS.s1 rfl rfl ?_
      try dsimp only [Nat.reduceAdd]
      refine xS.gR rfl rfl rfl ⟨by decide, rfl⟩ rfl ?_
      try dsimp only [Nat.reduceAdd]
      refine xS.s1 rfl rfl ?_
      try dsimp only [Nat.reduceAdd]
      refine xS.aR rfl rfl (by decide) (by omega) (xsh2_get (by omega)) ?_
      try dsimp only [Nat.reduceAdd]
      -- 37 yX8_read
      refine xS.cv rfl rfl rfl (hd.1 _) rfl rfl ⟨by decide, rfl, rfl⟩ (c_X8_read hd (xce_text ht) (Or.inr (by omega)) hs hm hfv hm) (fun v M1 hv => ?_)
      obtain ⟨g2, rfl, hF2, rfl, hR2⟩ := hv
      try dsimp only [Nat.reduceAdd, Option.toList, List.cons_append, List.nil_append, List.drop]
      refine xS.s1 rfl rfl ?_
      try dsimp only [Nat.reduceAdd, xj_m9]
      refine xS.br (c := .eq) (off := 6) (l := 3) rfl rfl (fun h42 => ?_) (fun h42 => ?_)
      · have g42 := xt_eq h42
        exact absurd ((xfI_none hdb).mp g42) hR
      · have g42 := xf_eq h42
        refine xS.s1 rfl rfl ?_
        try dsimp only [Nat.reduceAdd, xj_m4]
        refine xS.ret rfl rfl rfl (fun _ _ => rfl) ?_
        exact ⟨g2, rfl, hF2, rfl⟩
    · have g18 := xf_eq h18
      exact absurd (by rw [← hs]; exact xif1 g18) (nI_nm1 (m := m) (by omega))
  · have g4 := xf_ne h4
    exfalso; first | exact absurd g4 (by decide) | (simp (disch := omega) only [Int32.lt_iff_toInt_lt, Int32.le_iff_toInt_le, nI_toInt, Int32.reduceToInt] at g4 <;> omega)

set_option maxRecDepth 10000 in
theorem c_X11_room_ok (ht : t < 4) (hs : g (35 + 2 * t) 1 = nI m) (hm : m ≤ 60) (hfv : g (35 + 2 * t + 1) = f) (hd : xro b.2) (hb2 : b.2 ≤ 11) (hR : (xprs f m).1 = none) (hde : g 4 1 = nI p) (hp40 : p ≤ 40) (hb21 : 5 < b.2) : xT (k + 7) 87 [.ref 0, .int (nI t)] (xH b g l) (fun r M' => ∃ g', M' = xH (b.2, b.1) (up (up (up (up g' 4 1 (nI 0)) (67 + 2 * 0) 1 (-1)) (67 + 2 * 1) 1 (-1)) (67 + 2 * 2) 1 (-1)) l ∧ (∀ e, e ≠ b.2 → e ≠ b.2 + 1 → e ≠ b.2 + 2 → e ≠ b.2 + 3 → g' e = g e) ∧ r = some (.int (nI (xprs f m).2.1)) ∧ xRv g' b.2 (xprs f m).2.1 (xprs f m).2.2.1 (xprs f m).2.2.2.1 (xprs f m).2.2.2.2 ∧ ∀ s, s < 6 → g' (b.2 + 1) s = nI (xfv (f (xab f m 0 + 1 + s))) ∧ xfv (f (xab f m 0 + 1 + s)) < 6) := by
  refine xT.of rfl (Nat.le_of_ble_eq_true rfl) ?_
  change xS _ _ 0 [(0, .ref 0), (1, .int (nI t))] [] _ _
  refine xS.s1 rfl rfl ?_
  try dsimp only [Nat.reduceAdd]
  -- 1 yX11_isText
  refine xS.callS rfl rfl rfl ⟨Nat.le_of_ble_eq_true rfl, rfl⟩ (c_X11_isText_in ht) (fun v M1 hv => ?_)
  rw [hv.1, hv.2]
  clear hv M1 v
  try dsimp only [Nat.reduceAdd, Option.toList, List.cons_append, List.nil_append, List.drop]
  refine xS.br0 (c := .ne) (off := 5) (l := 3) rfl rfl (fun h4 => ?_) (fun h4 => ?_)
  · have g4 := xt_ne h4
    refine xS.s1 rfl rfl ?_
    try dsimp only [Nat.reduceAdd]
    refine xS.gR rfl rfl rfl ⟨by decide, rfl⟩ rfl ?_
    try dsimp only [Nat.reduceAdd]
    refine xS.s1 rfl rfl ?_
    try dsimp only [Nat.reduceAdd]
    refine xS.aR rfl rfl (by decide) (by omega) (xsh2_get (by omega)) ?_
    try dsimp only [Nat.reduceAdd]
    -- 15 yX0_isMissing
    refine xS.cv rfl rfl rfl ((xce_text (r := t) (by omega)).1 _) rfl rfl ⟨by decide, rfl, rfl⟩ (c_X0_isMissing (xce_text (r := t) (by omega))) (fun v M1 hv => ?_)
    rw [hv.1, hv.2]
    clear hv M1 v
    try dsimp only [Nat.reduceAdd, Option.toList, List.cons_append, List.nil_append, List.drop]
    refine xS.br0 (c := .eq) (off := 9) (l := 3) rfl rfl (fun h18 => ?_) (fun h18 => ?_)
    · have g18 := xt_eq h18
      refine xS.s1 rfl rfl ?_
      try dsimp only [Nat.reduceAdd]
      refine xS.gR rfl rfl rfl ⟨by decide, rfl⟩ rfl ?_
      try dsimp only [Nat.reduceAdd]
      refine xS.s1 rfl rfl ?_
      try dsimp only [Nat.reduceAdd]
      refine xS.gR rfl rfl rfl ⟨by decide, rfl⟩ rfl ?_
      try dsimp only [Nat.reduceAdd]
      refine xS.s1 rfl rfl ?_
      try dsimp only [Nat.reduceAdd]
      refine xS.aR rfl rfl (by decide) (by omega) (xsh2_get (by omega)) ?_
      try dsimp only [Nat.reduceAdd]
      -- 37 yX8_read
      refine xS.cv rfl rfl rfl (hd.1 _) rfl rfl ⟨by decide, rfl, rfl⟩ (c_X8_read hd (xce_text ht) (Or.inr (by omega)) hs hm hfv hm) (fun v M1 hv => ?_)
      obtain ⟨g2, rfl, hF2, rfl, hR2⟩ := hv
      obtain ⟨hRv, hHv⟩ := hR2 hR
      try dsimp only [Nat.reduceAdd, Option.toList, List.cons_append, List.nil_append, List.drop]
      refine xS.s1 rfl rfl ?_
      try dsimp only [Nat.reduceAdd, xj_m9]
      refine xS.br (c := .eq) (off := 6) (l := 3) rfl rfl (fun h42 => ?_) (fun h42 => ?_)
      · have g42 := xt_eq h42
        refine xS.s1 rfl rfl ?_
        try dsimp only [Nat.reduceAdd]
        refine xS.gR rfl rfl rfl ⟨by decide, rfl⟩ rfl ?_
        try dsimp only [Nat.reduceAdd]
        refine xS.s1 rfl rfl ?_
        try dsimp only [Nat.reduceAdd]
        refine xS.s1 rfl rfl ?_
        try dsimp only [Nat.reduceAdd]
        refine xS.s1 rfl rfl ?_
        try dsimp only [Nat.reduceAdd]
        refine xS.gR rfl rfl rfl ⟨by decide, rfl⟩ rfl ?_
        try dsimp only [Nat.reduceAdd]
        refine xS.pR5 rfl rfl ⟨⟨by decide, rfl⟩, rfl, by decide, by decide⟩ rfl ?_
        try dsimp only [Nat.reduceAdd]
        refine xS.s1 rfl rfl ?_
        try dsimp only [Nat.reduceAdd]
        refine xS.s1 rfl rfl ?_
        try dsimp only [Nat.reduceAdd]
        refine xS.pR6 rfl rfl ⟨⟨by decide, rfl⟩, rfl, by decide, by decide⟩ rfl ?_
        try dsimp only [Nat.reduceAdd]
        refine xS.s1 rfl rfl ?_
        try dsimp only [Nat.reduceAdd]
        refine xS.gR rfl rfl rfl ⟨by decide, rfl⟩ rfl ?_
        try dsimp only [Nat.reduceAdd]
        refine xS.s1 rfl rfl ?_
        try dsimp only [Nat.reduceAdd, xi_0]
        -- 71 yX2_cutTo
        refine xS.cv rfl rfl rfl (xde_deeds.1 _) rfl rfl ⟨by decide, rfl, rfl⟩ (c_X2_cutTo (t := 0) (m := p) xde_deeds (by rw [hF2 4 (by omega) (by omega) (by omega) (by omega)]; exact hde) hp40 (by omega)) (fun v M1 hv => ?_)
        rw [hv.1, hv.2]
        clear hv M1 v
        try dsimp only [Nat.reduceAdd, Option.toList, List.cons_append, List.nil_append, List.drop]
        refine xS.s1 rfl rfl ?_
        try dsimp only [Nat.reduceAdd, xi_0]
        refine xS.s1 rfl rfl ?_
        try dsimp only [Nat.reduceAdd]
        refine xS.s1 rfl rfl ?_
        try dsimp only [Nat.reduceAdd]
        refine xS.s1 rfl rfl ?_
        try dsimp only [Nat.reduceAdd, xi_3]
        refine xS.br (c := .ge) (off := 18) (l := 3) rfl rfl (fun h78 => ?_) (fun h78 => ?_)
        · have g78 := xt_ge h78
          exfalso; first | exact absurd g78 (by decide) | (simp (disch := omega) only [Int32.lt_iff_toInt_lt, Int32.le_iff_toInt_le, nI_toInt, Int32.reduceToInt] at g78 <;> omega)
        · have g78 := xf_ge h78
          refine xS.s1 rfl rfl ?_
          try dsimp only [Nat.reduceAdd]
          refine xS.gR rfl rfl rfl ⟨by decide, rfl⟩ rfl ?_
          try dsimp only [Nat.reduceAdd]
          refine xS.s1 rfl rfl ?_
          try dsimp only [Nat.reduceAdd]
          refine xS.aR (t := 0) rfl rfl (by decide) (by omega) (xsh6_get (by omega)) ?_
          try dsimp only [Nat.reduceAdd]
          -- 87 yX2_drop
          refine xS.cv rfl rfl rfl ((xde_kept (r := 0) (by omega)).1 _) rfl rfl ⟨by decide, rfl, rfl⟩ (c_X2_drop (xde_kept (r := 0) (by omega))) (fun v M1 hv => ?_)
          rw [hv.1, hv.2]
          clear hv M1 v
          try dsimp only [Nat.reduceAdd, Option.toList, List.cons_append, List.nil_append, List.drop]
          refine xS.s1 rfl rfl ?_
          try dsimp only [Nat.reduceAdd, xi_1]
          refine xS.s1 rfl rfl ?_
          try dsimp only [Nat.reduceAdd]
          rw [show (0 + 1 : Int32) = 1 from rfl]
          refine xS.s1 rfl rfl ?_
          try dsimp only [Nat.reduceAdd]
          refine xS.s1 rfl rfl ?_
          try dsimp only [Nat.reduceAdd, xi_3]
          refine xS.br (c := .ge) (off := 18) (l := 3) rfl rfl (fun h78 => ?_) (fun h78 => ?_)
          · have g78 := xt_ge h78
            exfalso; first | exact absurd g78 (by decide) | (simp (disch := omega) only [Int32.lt_iff_toInt_lt, Int32.le_iff_toInt_le, nI_toInt, Int32.reduceToInt] at g78 <;> omega)
          · have g78 := xf_ge h78
            refine xS.s1 rfl rfl ?_
            try dsimp only [Nat.reduceAdd]
            refine xS.gR rfl rfl rfl ⟨by decide, rfl⟩ rfl ?_
            try dsimp only [Nat.reduceAdd]
            refine xS.s1 rfl rfl ?_
            try dsimp only [Nat.reduceAdd]
            refine xS.aR (t := 1) rfl rfl (by decide) (by omega) (xsh6_get (by omega)) ?_
            try dsimp only [Nat.reduceAdd]
            -- 87 yX2_drop
            refine xS.cv rfl rfl rfl ((xde_kept (r := 1) (by omega)).1 _) rfl rfl ⟨by decide, rfl, rfl⟩ (c_X2_drop (xde_kept (r := 1) (by omega))) (fun v M1 hv => ?_)
            rw [hv.1, hv.2]
            clear hv M1 v
            try dsimp only [Nat.reduceAdd, Option.toList, List.cons_append, List.nil_append, List.drop]
            refine xS.s1 rfl rfl ?_
            try dsimp only [Nat.reduceAdd, xi_1]
            refine xS.s1 rfl rfl ?_
            try dsimp only [Nat.reduceAdd]
            rw [show (1 + 1 : Int32) = 2 from rfl]
            refine xS.s1 rfl rfl ?_
            try dsimp only [Nat.reduceAdd]
            refine xS.s1 rfl rfl ?_
            try dsimp only [Nat.reduceAdd, xi_3]
            refine xS.br (c := .ge) (off := 18) (l := 3) rfl rfl (fun h78 => ?_) (fun h78 => ?_)
            · have g78 := xt_ge h78
              exfalso; first | exact absurd g78 (by decide) | (simp (disch := omega) only [Int32.lt_iff_toInt_lt, Int32.le_iff_toInt_le, nI_toInt, Int32.reduceToInt] at g78 <;> omega)
            · have g78 := xf_ge h78
              refine xS.s1 rfl rfl ?_
              try dsimp only [Nat.reduceAdd]
              refine xS.gR rfl rfl rfl ⟨by decide, rfl⟩ rfl ?_
              try dsimp only [Nat.reduceAdd]
              refine xS.s1 rfl rfl ?_
              try dsimp only [Nat.reduceAdd]
              refine xS.aR (t := 2) rfl rfl (by decide) (by omega) (xsh6_get (by omega)) ?_
              try dsimp only [Nat.reduceAdd]
              -- 87 yX2_drop
              refine xS.cv rfl rfl rfl ((xde_kept (r := 2) (by omega)).1 _) rfl rfl ⟨by decide, rfl, rfl⟩ (c_X2_drop (xde_kept (r := 2) (by omega))) (fun v M1 hv => ?_)
              rw [hv.1, hv.2]
              clear hv M1 v
              try dsimp only [Nat.reduceAdd, Option.toList, List.cons_append, List.nil_append, List.drop]
              refine xS.s1 rfl rfl ?_
              try dsimp only [Nat.reduceAdd, xi_1]
              refine xS.s1 rfl rfl ?_
              try dsimp only [Nat.reduceAdd]
              rw [show (2 + 1 : Int32) = 3 from rfl]
              refine xS.s1 rfl rfl ?_
              try dsimp only [Nat.reduceAdd]
              refine xS.s1 rfl rfl ?_
              try dsimp only [Nat.reduceAdd, xi_3]
              refine xS.br (c := .ge) (off := 18) (l := 3) rfl rfl (fun h78 => ?_) (fun h78 => ?_)
              · have g78 := xt_ge h78
                refine xS.s1 rfl rfl ?_
                try dsimp only [Nat.reduceAdd]
                refine xS.gR rfl rfl rfl ⟨by decide, rfl⟩ rfl ?_
                try dsimp only [Nat.reduceAdd]
                -- 100 yX8_glasses
                refine xS.cv rfl rfl rfl (hd.1 _) rfl rfl ⟨by decide, rfl, rfl⟩ (c_X8_glasses hd) (fun v M1 hv => ?_)
                rw [hv.1, hv.2, up_na (by omega), up_na (by omega), up_na (by omega), up_na (by omega), hRv.1.1]
                clear hv M1 v
                try dsimp only [Nat.reduceAdd, Option.toList, List.cons_append, List.nil_append, List.drop]
                refine xS.ret rfl rfl rfl (fun _ _ => rfl) ?_
                exact ⟨g2, rfl, hF2, rfl, hRv, hHv⟩
              · have g78 := xf_ge h78
                exfalso; first | exact absurd g78 (by decide) | (simp (disch := omega) only [Int32.lt_iff_toInt_lt, Int32.le_iff_toInt_le, nI_toInt, Int32.reduceToInt] at g78 <;> omega)
      · have g42 := xf_eq h42
        exact absurd (by rw [hR]; rfl) g42
    · have g18 := xf_eq h18
      exact absurd (by rw [← hs]; exact xif1 g18) (nI_nm1 (m := m) (by omega))
  · have g4 := xf_ne h4
    exfalso; first | exact absurd g4 (by decide) | (simp (disch := omega) only [Int32.lt_iff_toInt_lt, Int32.le_iff_toInt_le, nI_toInt, Int32.reduceToInt] at g4 <;> omega)

end
