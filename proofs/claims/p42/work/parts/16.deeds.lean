/-! copies; LimpMirror$Cells take, takeAll; LimpMirror$Deeds -/
section
variable {q : xQ} {k pc l0 sa da sj dj m idx : Nat} {lv : xL} {rest : List Value} {P : Option Value → xM → Prop} {vs ws : List Value} {M : xM}
theorem xS.acpG {idx' x1 : Nat} {x2 : List (Nat × Nat)} (hl : xe_lkF q.1 pc = some (.invokestatic idx, l0)) (hx : xcF q.2.1 idx = some (idx', 8, x1, x2)) (hs : M[sa]? = some (12, vs)) (hd : M[da]? = some (12, ws)) (h1 : sj + m ≤ vs.length) (h2 : dj + m ≤ ws.length) (hb : sj + m < 2 ^ 31) (hb2 : dj + m < 2 ^ 31) (hr : xe_sum rest = true) (h : xS q k (pc + 3) lv rest (M.set da (12, xcpy vs ws sj dj m)) P) : xS q k pc lv (.int (nI m) :: .int (nI dj) :: .ref da :: .int (nI sj) :: .ref sa :: rest) M P := by
  refine xS.s3 (pc' := pc + 3) (st' := rest) (M1 := M.set da (12, xcpy vs ws sj dj m)) hl rfl rfl (fun c ih => ?_) h
  show xe_callS c q.2.1 idx pc lv _ M ih = _
  unfold xe_callS
  simp only [hx]
  unfold xe_copy
  have e1 : ∀ z, z < 2 ^ 31 → ¬ xlt (nI z) 0 = true := fun z hz => by rw [xlt_iff]; exact nI_pos hz
  simp only [xg_eq, xse_eq, xln_eq, hs, hd]
  rw [nI_clamp (n := m) (by omega), nI_clamp (n := sj) (by omega), nI_clamp (n := dj) (by omega)]
  rw [if_pos ⟨⟨trivial, trivial⟩, ⟨e1 _ (by omega), e1 _ (by omega), e1 _ (by omega)⟩, ⟨h1, h2⟩, hr⟩]
end
section
variable {b : Nat × Nat} {g : Nat → Nat → Int32} {l : Nat → Nat → Int64} {sa da sj dj m n1 n2 : Nat}
theorem xH_cp (hs : xar sa n1) (hd : xar da n2) (h1 : sj + m ≤ n1) (h2 : dj + m ≤ n2) : (xH b g l).set da (12, xcpy ((List.replicate n1 (Value.int 0)).mapIdx (xfi g l sa)) ((List.replicate n2 (Value.int 0)).mapIdx (xfi g l da)) sj dj m) = xH b (gcopy g sa sj da dj m) l := by
  apply List.ext_getElem?
  intro a'
  by_cases e : da = a'
  · subst e
    have hlt : da < (xH b g l).length := (List.getElem?_eq_some_iff.mp (xH_get (g := g) (l := l) (hd.1 b))).1
    rw [List.getElem?_set_self hlt, xH_get (g := gcopy g sa sj da dj m) (l := l) (hd.1 b)]
    congr 2
    apply List.ext_getElem?
    intro j
    rw [xcpy_get (by rw [List.length_mapIdx, List.length_replicate]; exact h1) (by rw [List.length_mapIdx, List.length_replicate]; exact h2)]
    simp only [List.getElem?_mapIdx, List.getElem?_replicate]
    by_cases c : dj ≤ j ∧ j < dj + m
    · rw [if_pos c, if_pos (by omega), if_pos (by omega)]
      show some (Value.int (g sa (sj + (j - dj)))) = some (Value.int (gcopy g sa sj da dj m da j))
      unfold gcopy
      rw [if_pos ⟨rfl, c⟩]
    · rw [if_neg c]
      by_cases c2 : j < n2
      · rw [if_pos c2]
        show some (Value.int (g da j)) = some (Value.int (gcopy g sa sj da dj m da j))
        unfold gcopy
        rw [if_neg (fun z => c z.2)]
      · rw [if_neg c2]
        rfl
  · rw [List.getElem?_set_ne e]
    rw [xH_eq, xH_eq, List.getElem?_mapIdx, List.getElem?_mapIdx]
    cases hc : (xsh b)[a']? with
    | none => rfl
    | some c =>
      have e1 : xfi (gcopy g sa sj da dj m) l a' = xfi g l a' := by
        funext j w
        unfold xfi
        rw [gcopy_na (Ne.symm e)]
      simp [e1]
end
section
variable {q : xQ} {k pc l0 sa da sj dj m idx n1 n2 : Nat} {lv : xL} {rest : List Value} {P : Option Value → xM → Prop} {b : Nat × Nat} {g : Nat → Nat → Int32} {l : Nat → Nat → Int64}
theorem xS.acp {idx' x1 : Nat} {x2 : List (Nat × Nat)} (hl : xe_lkF q.1 pc = some (.invokestatic idx, l0)) (hx : xcF q.2.1 idx = some (idx', 8, x1, x2)) (hs : xar sa n1) (hd : xar da n2) (h1 : sj + m ≤ n1) (h2 : dj + m ≤ n2) (hr : xe_sum rest = true) (h : xS q k (pc + 3) lv rest (xH b (gcopy g sa sj da dj m) l) P) : xS q k pc lv (.int (nI m) :: .int (nI dj) :: .ref da :: .int (nI sj) :: .ref sa :: rest) (xH b g l) P :=
  xS.acpG hl hx (xH_get (hs.1 b)) (xH_get (hd.1 b)) (by rw [List.length_mapIdx, List.length_replicate]; exact h1) (by rw [List.length_mapIdx, List.length_replicate]; exact h2) (by have := hs.2; omega) (by have := hd.2; omega) hr (by rw [xH_cp hs hd h1 h2]; exact h)
end
theorem up_id {α : Type} {g : Nat → Nat → α} {a i : Nat} {v : α} (h : g a i = v) : up g a i v = g := by
  funext a' i'
  unfold up
  by_cases e : a' = a ∧ i' = i
  · rw [if_pos e, e.1, e.2, h]
  · rw [if_neg e]

theorem xn0 {m : Nat} (h : nI m ≤ 0) (hm : m < 2 ^ 31) : m = 0 := by
  have := (nI_leI (a := m) (b := 0) hm (by omega)).mp h
  omega

section
variable {k a c n n2 m t p s d i1 j1 : Nat} {b : Nat × Nat} {g : Nat → Nat → Int32} {l : Nat → Nat → Int64} {i j x y z v w : Int32} {u w1 w2 : Int64}

theorem c_X0_hasPlaces_in (hC : xce a n) (hs : g a 1 = nI m) (hm : m ≤ n) (ht : i1 + t ≤ m) : xT (k + 1) 4 [.ref a, .int (nI i1), .int (nI t)] (xH b g l) (fun r M' => M' = xH b g l ∧ r = some (.int 1)) := by
  have hn := xn31 hC.2
  refine (c_X0_hasPlaces hC).weak (fun r M' h => ⟨h.1, ?_⟩)
  rw [h.2, if_pos ⟨nI_pos' (by omega), by rw [hs]; exact nI_le (by omega) (by omega), by rw [hs, pk_sub (by omega)]; exact nI_le (by omega) (by omega)⟩]

set_option maxRecDepth 10000 in
theorem c_X0_take (hC : xce a n) (hF : xce c n2) (hs : g c 1 = nI s) (hs2 : g a 1 = nI d) (hm : s ≤ n2) (hm2 : d ≤ n) (q1 : i1 + m ≤ s) (q2 : j1 + m ≤ d) : xT (k + 2) 9 [.ref a, .ref c, .int (nI i1), .int (nI j1), .int (nI m)] (xH b g l) (fun r M' => M' = xH b (gcopy g (c + 1) i1 (a + 1) j1 m) l ∧ r = none) := by
  refine xT.of rfl (Nat.le_of_ble_eq_true rfl) ?_
  dsimp only [lv_args]
  refine xS.s1 rfl rfl ?_
  try dsimp only [Nat.reduceAdd]
  refine xS.br0 (c := .le) (off := 38) (l := 3) rfl rfl (fun h2 => ?_) (fun h2 => ?_)
  · have g2 := xt_le h2
    refine xS.ret rfl rfl rfl (fun _ _ => rfl) ?_
    exact ⟨by rw [show m = 0 from xn0 g2 (by have := xn31 hC.2; omega), gcopy_0], rfl⟩
  · have g2 := xf_le h2
    refine xS.s1 rfl rfl ?_
    try dsimp only [Nat.reduceAdd]
    refine xS.s1 rfl rfl ?_
    try dsimp only [Nat.reduceAdd]
    refine xS.s1 rfl rfl ?_
    try dsimp only [Nat.reduceAdd]
    -- 9 yX0_hasPlaces
    refine xS.cv rfl rfl rfl (hF.1 _) rfl rfl ⟨by decide, rfl, rfl⟩ (c_X0_hasPlaces_in hF hs hm q1) (fun v M1 hv => ?_)
    rw [hv.1, hv.2]
    clear hv M1 v
    try dsimp only [Nat.reduceAdd, Option.toList, List.cons_append, List.nil_append, List.drop]
    refine xS.br0 (c := .eq) (off := 28) (l := 3) rfl rfl (fun h12 => ?_) (fun h12 => ?_)
    · have g12 := xt_eq h12
      exact absurd g12 (by decide)
    · have g12 := xf_eq h12
      refine xS.s1 rfl rfl ?_
      try dsimp only [Nat.reduceAdd]
      refine xS.s1 rfl rfl ?_
      try dsimp only [Nat.reduceAdd]
      refine xS.s1 rfl rfl ?_
      try dsimp only [Nat.reduceAdd]
      -- 19 yX0_hasPlaces
      refine xS.cv rfl rfl rfl (hC.1 _) rfl rfl ⟨by decide, rfl, rfl⟩ (c_X0_hasPlaces_in hC hs2 hm2 q2) (fun v M1 hv => ?_)
      rw [hv.1, hv.2]
      clear hv M1 v
      try dsimp only [Nat.reduceAdd, Option.toList, List.cons_append, List.nil_append, List.drop]
      refine xS.br0 (c := .eq) (off := 18) (l := 3) rfl rfl (fun h22 => ?_) (fun h22 => ?_)
      · have g22 := xt_eq h22
        exact absurd g22 (by decide)
      · have g22 := xf_eq h22
        refine xS.s1 rfl rfl ?_
        try dsimp only [Nat.reduceAdd]
        refine xS.gR rfl (hF.1 _) rfl ⟨by decide, rfl⟩ rfl ?_
        try dsimp only [Nat.reduceAdd]
        refine xS.s1 rfl rfl ?_
        try dsimp only [Nat.reduceAdd]
        refine xS.s1 rfl rfl ?_
        try dsimp only [Nat.reduceAdd]
        refine xS.gR rfl (hC.1 _) rfl ⟨by decide, rfl⟩ rfl ?_
        try dsimp only [Nat.reduceAdd]
        refine xS.s1 rfl rfl ?_
        try dsimp only [Nat.reduceAdd]
        refine xS.s1 rfl rfl ?_
        try dsimp only [Nat.reduceAdd]
        refine xS.acp rfl rfl hF.2 hC.2 (by omega) (by omega) rfl ?_
        try dsimp only [Nat.reduceAdd]
        refine xS.ret rfl rfl rfl (fun _ _ => rfl) ?_
        exact ⟨rfl, rfl⟩

theorem gcopy_fill {g : Nat → Nat → Int32} {sa da m : Nat} {v : Int32} (h : sa ≠ da) : gcopy (gfill g da m v) sa 0 da 0 m = gcopy g sa 0 da 0 m := by
  funext a' i'
  unfold gcopy
  rw [gfill_na h]
  by_cases c : a' = da ∧ 0 ≤ i' ∧ i' < 0 + m
  · rw [if_pos c, if_pos c]
  · rw [if_neg c, if_neg c]
    exact if_neg (fun z => c ⟨z.1, by omega, by omega⟩)

set_option maxRecDepth 10000 in
theorem c_X0_takeAll (hC : xce a n) (hF : xce c n2) (hs : g c 1 = nI m) (hm : m ≤ n) (hm2 : m ≤ n2) (hac : c ≠ a) (hac1 : c + 1 ≠ a) (hac2 : c ≠ a + 1) : xT (k + 3) 10 [.ref a, .ref c] (xH b g l) (fun r M' => M' = xH b (gcopy (up g a 1 (nI m)) (c + 1) 0 (a + 1) 0 m) l ∧ r = none) := by
  refine xT.of rfl (Nat.le_of_ble_eq_true rfl) ?_
  dsimp only [lv_args]
  refine xS.s1 rfl rfl ?_
  try dsimp only [Nat.reduceAdd]
  refine xS.s1 rfl rfl ?_
  try dsimp only [Nat.reduceAdd]
  refine xS.gI rfl (hF.1 _) rfl ⟨by decide, rfl⟩ rfl ?_
  try dsimp only [Nat.reduceAdd]
  rw [hs]
  refine xS.s1 rfl rfl ?_
  try dsimp only [Nat.reduceAdd, xi_0]
  -- 6 yX0_open
  refine xS.cv rfl rfl rfl (hC.1 _) rfl rfl ⟨by decide, rfl, rfl⟩ (c_X0_open hC hm) (fun v M1 hv => ?_)
  rw [hv.1, hv.2]
  clear hv M1 v
  try dsimp only [Nat.reduceAdd, Option.toList, List.cons_append, List.nil_append, List.drop]
  refine xS.s1 rfl rfl ?_
  try dsimp only [Nat.reduceAdd]
  refine xS.s1 rfl rfl ?_
  try dsimp only [Nat.reduceAdd]
  refine xS.s1 rfl rfl ?_
  try dsimp only [Nat.reduceAdd, xi_0]
  refine xS.s1 rfl rfl ?_
  try dsimp only [Nat.reduceAdd, xi_0]
  refine xS.s1 rfl rfl ?_
  try dsimp only [Nat.reduceAdd]
  refine xS.gI rfl (hC.1 _) rfl ⟨by decide, rfl⟩ rfl ?_
  try dsimp only [Nat.reduceAdd]
  rw [show gfill (up g a 1 (nI m)) (a + 1) m 0 a 1 = nI m from by rw [gfill_na (by omega), up_same]]
  -- 17 yX0_take
  refine xS.cv rfl rfl rfl (hC.1 _) rfl rfl ⟨by decide, rfl, rfl⟩ (c_X0_take (i1 := 0) (j1 := 0) hC hF (show _ = nI m by rw [gfill_na hac2, up_ne (Or.inl hac), hs]) (show _ = nI m by rw [gfill_na (by omega), up_same]) hm2 hm (by omega) (by omega)) (fun v M1 hv => ?_)
  rw [hv.1, hv.2]
  clear hv M1 v
  try dsimp only [Nat.reduceAdd, Option.toList, List.cons_append, List.nil_append, List.drop]
  refine xS.ret rfl rfl rfl (fun _ _ => rfl) ?_
  exact ⟨by rw [gcopy_fill (by omega)], rfl⟩

set_option maxRecDepth 10000 in
theorem c_X2_size (hC : xde a) : xT (k + 1) 23 [.ref a] (xH b g l) (fun r M' => M' = xH b g l ∧ r = some (.int (g a 1))) := by
  refine xT.of rfl (Nat.le_of_ble_eq_true rfl) ?_
  dsimp only [lv_args]
  refine xS.s1 rfl rfl ?_
  try dsimp only [Nat.reduceAdd]
  refine xS.gI rfl (hC.1 _) rfl ⟨by decide, rfl⟩ rfl ?_
  try dsimp only [Nat.reduceAdd]
  refine xS.ret rfl rfl rfl (fun _ _ => rfl) ?_
  exact ⟨rfl, rfl⟩

set_option maxRecDepth 10000 in
theorem c_X2_isMissing (hC : xde a) : xT (k + 1) 24 [.ref a] (xH b g l) (fun r M' => M' = xH b g l ∧ r = some (.int (if g a 1 = -1 then 1 else 0))) := by
  refine xT.of rfl (Nat.le_of_ble_eq_true rfl) ?_
  dsimp only [lv_args]
  refine xS.s1 rfl rfl ?_
  try dsimp only [Nat.reduceAdd]
  refine xS.gI rfl (hC.1 _) rfl ⟨by decide, rfl⟩ rfl ?_
  try dsimp only [Nat.reduceAdd]
  refine xS.s1 rfl rfl ?_
  try dsimp only [Nat.reduceAdd, xi_m1]
  refine xS.br (c := .ne) (off := 7) (l := 3) rfl rfl (fun h5 => ?_) (fun h5 => ?_)
  · have g5 := xt_ne h5
    refine xS.s1 rfl rfl ?_
    try dsimp only [Nat.reduceAdd, xi_0]
    refine xS.ret rfl rfl rfl (fun _ _ => rfl) ?_
    exact ⟨rfl, by split <;> first | rfl | (exfalso; simp_all)⟩
  · have g5 := xf_ne h5
    refine xS.s1 rfl rfl ?_
    try dsimp only [Nat.reduceAdd, xi_1]
    refine xS.s1 rfl rfl ?_
    try dsimp only [Nat.reduceAdd]
    refine xS.ret rfl rfl rfl (fun _ _ => rfl) ?_
    exact ⟨rfl, by split <;> first | rfl | (exfalso; simp_all)⟩

set_option maxRecDepth 10000 in
theorem c_X2_drop (hC : xde a) : xT (k + 1) 25 [.ref a] (xH b g l) (fun r M' => M' = xH b (up g a 1 (-1)) l ∧ r = none) := by
  refine xT.of rfl (Nat.le_of_ble_eq_true rfl) ?_
  dsimp only [lv_args]
  refine xS.s1 rfl rfl ?_
  try dsimp only [Nat.reduceAdd]
  refine xS.s1 rfl rfl ?_
  try dsimp only [Nat.reduceAdd, xi_m1]
  refine xS.pI rfl (hC.1 _) rfl ⟨⟨by decide, rfl⟩, rfl, by decide, by decide⟩ rfl ?_
  try dsimp only [Nat.reduceAdd]
  refine xS.ret rfl rfl rfl (fun _ _ => rfl) ?_
  exact ⟨rfl, rfl⟩

set_option maxRecDepth 10000 in
theorem c_X2_fact (hC : xde a) (hs : g a 1 = nI m) (hm : m ≤ 40) (hd : d < m) (hw : t < 4) : xT (k + 1) 26 [.ref a, .int (nI d), .int (nI t)] (xH b g l) (fun r M' => M' = xH b g l ∧ r = some (.int (g (a + 1) (4 * d + t)))) := by
  refine xT.of rfl (Nat.le_of_ble_eq_true rfl) ?_
  dsimp only [lv_args]
  refine xS.s1 rfl rfl ?_
  try dsimp only [Nat.reduceAdd]
  refine xS.br0 (c := .lt) (off := 24) (l := 3) rfl rfl (fun h1 => ?_) (fun h1 => ?_)
  · have g1 := xt_lt h1
    exfalso; simp (disch := omega) only [hs, Int32.lt_iff_toInt_lt, Int32.le_iff_toInt_le, nI_toInt, Int32.reduceToInt] at g1 <;> omega
  · have g1 := xf_lt h1
    refine xS.s1 rfl rfl ?_
    try dsimp only [Nat.reduceAdd]
    refine xS.s1 rfl rfl ?_
    try dsimp only [Nat.reduceAdd]
    refine xS.gI rfl (hC.1 _) rfl ⟨by decide, rfl⟩ rfl ?_
    try dsimp only [Nat.reduceAdd]
    refine xS.br (c := .ge) (off := 16) (l := 3) rfl rfl (fun h9 => ?_) (fun h9 => ?_)
    · have g9 := xt_ge h9
      exfalso; simp (disch := omega) only [hs, Int32.lt_iff_toInt_lt, Int32.le_iff_toInt_le, nI_toInt, Int32.reduceToInt] at g9 <;> omega
    · have g9 := xf_ge h9
      refine xS.s1 rfl rfl ?_
      try dsimp only [Nat.reduceAdd]
      refine xS.br0 (c := .lt) (off := 12) (l := 3) rfl rfl (fun h13 => ?_) (fun h13 => ?_)
      · have g13 := xt_lt h13
        exfalso; simp (disch := omega) only [hs, Int32.lt_iff_toInt_lt, Int32.le_iff_toInt_le, nI_toInt, Int32.reduceToInt] at g13 <;> omega
      · have g13 := xf_lt h13
        refine xS.s1 rfl rfl ?_
        try dsimp only [Nat.reduceAdd]
        refine xS.s1 rfl rfl ?_
        try dsimp only [Nat.reduceAdd, xi_4]
        refine xS.br (c := .ge) (off := 7) (l := 3) rfl rfl (fun h18 => ?_) (fun h18 => ?_)
        · have g18 := xt_ge h18
          exfalso; simp (disch := omega) only [hs, Int32.lt_iff_toInt_lt, Int32.le_iff_toInt_le, nI_toInt, Int32.reduceToInt] at g18 <;> omega
        · have g18 := xf_ge h18
          refine xS.s1 rfl rfl ?_
          try dsimp only [Nat.reduceAdd, xi_1]
          refine xS.s1 rfl rfl ?_
          try dsimp only [Nat.reduceAdd]
          refine xS.s1 rfl rfl ?_
          try dsimp only [Nat.reduceAdd]
          refine xS.s1 rfl rfl ?_
          try dsimp only [Nat.reduceAdd]
          refine xS.br0 (c := .eq) (off := 16) (l := 3) rfl rfl (fun h28 => ?_) (fun h28 => ?_)
          · have g28 := xt_eq h28
            exact absurd g28 (by decide)
          · have g28 := xf_eq h28
            refine xS.s1 rfl rfl ?_
            try dsimp only [Nat.reduceAdd]
            refine xS.gR rfl (hC.1 _) rfl ⟨by decide, rfl⟩ rfl ?_
            try dsimp only [Nat.reduceAdd]
            refine xS.s1 rfl rfl ?_
            try dsimp only [Nat.reduceAdd, xi_4]
            refine xS.s1 rfl rfl ?_
            try dsimp only [Nat.reduceAdd]
            refine xS.s1 rfl rfl ?_
            try dsimp only [Nat.reduceAdd]
            refine xS.s1 rfl rfl ?_
            try dsimp only [Nat.reduceAdd]
            refine xS.s1 rfl rfl ?_
            try dsimp only [Nat.reduceAdd]
            rw [show (((4 * nI d) + nI t) : Int32) = nI ((4 * d) + t) from by simp only [← nI_add, ← pk_mul]; rfl]
            refine xS.ia rfl hC.2 (by omega) ?_
            try dsimp only [Nat.reduceAdd]
            refine xS.s1 rfl rfl ?_
            try dsimp only [Nat.reduceAdd]
            refine xS.ret rfl rfl rfl (fun _ _ => rfl) ?_
            exact ⟨rfl, rfl⟩

set_option maxRecDepth 10000 in
theorem c_X2_write (hC : xde a) (hd : d < 40) (hw : t < 4) : xT (k + 1) 27 [.ref a, .int (nI d), .int (nI t), .int x] (xH b g l) (fun r M' => M' = xH b (up g (a + 1) (4 * d + t) x) l ∧ r = none) := by
  refine xT.of rfl (Nat.le_of_ble_eq_true rfl) ?_
  dsimp only [lv_args]
  refine xS.s1 rfl rfl ?_
  try dsimp only [Nat.reduceAdd]
  refine xS.br0 (c := .lt) (off := 20) (l := 3) rfl rfl (fun h1 => ?_) (fun h1 => ?_)
  · have g1 := xt_lt h1
    exfalso; simp (disch := omega) only [Int32.lt_iff_toInt_lt, Int32.le_iff_toInt_le, nI_toInt, Int32.reduceToInt] at g1 <;> omega
  · have g1 := xf_lt h1
    refine xS.s1 rfl rfl ?_
    try dsimp only [Nat.reduceAdd]
    refine xS.s1 rfl rfl ?_
    try dsimp only [Nat.reduceAdd, xj_40]
    refine xS.br (c := .ge) (off := 14) (l := 3) rfl rfl (fun h7 => ?_) (fun h7 => ?_)
    · have g7 := xt_ge h7
      exfalso; simp (disch := omega) only [Int32.lt_iff_toInt_lt, Int32.le_iff_toInt_le, nI_toInt, Int32.reduceToInt] at g7 <;> omega
    · have g7 := xf_ge h7
      refine xS.s1 rfl rfl ?_
      try dsimp only [Nat.reduceAdd]
      refine xS.gR rfl (hC.1 _) rfl ⟨by decide, rfl⟩ rfl ?_
      try dsimp only [Nat.reduceAdd]
      refine xS.s1 rfl rfl ?_
      try dsimp only [Nat.reduceAdd, xi_4]
      refine xS.s1 rfl rfl ?_
      try dsimp only [Nat.reduceAdd]
      refine xS.s1 rfl rfl ?_
      try dsimp only [Nat.reduceAdd]
      refine xS.s1 rfl rfl ?_
      try dsimp only [Nat.reduceAdd]
      refine xS.s1 rfl rfl ?_
      try dsimp only [Nat.reduceAdd]
      refine xS.s1 rfl rfl ?_
      try dsimp only [Nat.reduceAdd]
      rw [show (((4 * nI d) + nI t) : Int32) = nI ((4 * d) + t) from by simp only [← nI_add, ← pk_mul]; rfl]
      refine xS.ias rfl hC.2 (by omega) ?_
      try dsimp only [Nat.reduceAdd]
      refine xS.ret rfl rfl rfl (fun _ _ => rfl) ?_
      exact ⟨rfl, rfl⟩

set_option maxRecDepth 10000 in
theorem c_X2_see (hC : xde a) (hd : d < 40) : xT (k + 2) 29 [.ref a, .int (nI d), .int x, .int y] (xH b g l) (fun r M' => M' = xH b (up (up g (a + 1) (4 * d + 2) x) (a + 1) (4 * d + 3) y) l ∧ r = none) := by
  refine xT.of rfl (Nat.le_of_ble_eq_true rfl) ?_
  dsimp only [lv_args]
  refine xS.s1 rfl rfl ?_
  try dsimp only [Nat.reduceAdd]
  refine xS.s1 rfl rfl ?_
  try dsimp only [Nat.reduceAdd]
  refine xS.s1 rfl rfl ?_
  try dsimp only [Nat.reduceAdd, xi_2]
  refine xS.s1 rfl rfl ?_
  try dsimp only [Nat.reduceAdd]
  -- 4 yX2_write
  refine xS.cv rfl rfl rfl (hC.1 _) rfl rfl ⟨by decide, rfl, rfl⟩ (c_X2_write (t := 2) hC hd (by decide)) (fun v M1 hv => ?_)
  rw [hv.1, hv.2]
  clear hv M1 v
  try dsimp only [Nat.reduceAdd, Option.toList, List.cons_append, List.nil_append, List.drop]
  refine xS.s1 rfl rfl ?_
  try dsimp only [Nat.reduceAdd]
  refine xS.s1 rfl rfl ?_
  try dsimp only [Nat.reduceAdd]
  refine xS.s1 rfl rfl ?_
  try dsimp only [Nat.reduceAdd, xi_3]
  refine xS.s1 rfl rfl ?_
  try dsimp only [Nat.reduceAdd]
  -- 11 yX2_write
  refine xS.cv rfl rfl rfl (hC.1 _) rfl rfl ⟨by decide, rfl, rfl⟩ (c_X2_write (t := 3) hC hd (by decide)) (fun v M1 hv => ?_)
  rw [hv.1, hv.2]
  clear hv M1 v
  try dsimp only [Nat.reduceAdd, Option.toList, List.cons_append, List.nil_append, List.drop]
  refine xS.ret rfl rfl rfl (fun _ _ => rfl) ?_
  exact ⟨rfl, rfl⟩

theorem c_X2_sz {g : Nat → Nat → Int32} {a j : Nat} {v x : Int32} (h : g a 1 = x) : up g (a + 1) j v a 1 = x := by rw [up_ne (Or.inl (by omega)), h]

set_option maxRecDepth 10000 in
theorem c_X2_add (hC : xde a) (hs : g a 1 = nI m) (hm : m < 40) : xT (k + 3) 28 [.ref a, .int x, .int y] (xH b g l) (fun r M' => M' = xH b (up (up (up (up (up g (a + 1) (4 * m) x) (a + 1) (4 * m + 1) y) (a + 1) (4 * m + 2) 0) (a + 1) (4 * m + 3) (-9)) a 1 (nI (m + 1))) l ∧ r = none) := by
  refine xT.of rfl (Nat.le_of_ble_eq_true rfl) ?_
  dsimp only [lv_args]
  refine xS.s1 rfl rfl ?_
  try dsimp only [Nat.reduceAdd]
  refine xS.gI rfl (hC.1 _) rfl ⟨by decide, rfl⟩ rfl ?_
  try dsimp only [Nat.reduceAdd]
  refine xS.br0 (c := .lt) (off := 53) (l := 3) rfl rfl (fun h4 => ?_) (fun h4 => ?_)
  · have g4 := xt_lt h4
    exfalso; simp (disch := omega) only [hs, Int32.lt_iff_toInt_lt, Int32.le_iff_toInt_le, nI_toInt, Int32.reduceToInt] at g4 <;> omega
  · have g4 := xf_lt h4
    refine xS.s1 rfl rfl ?_
    try dsimp only [Nat.reduceAdd]
    refine xS.gI rfl (hC.1 _) rfl ⟨by decide, rfl⟩ rfl ?_
    try dsimp only [Nat.reduceAdd]
    refine xS.s1 rfl rfl ?_
    try dsimp only [Nat.reduceAdd, xj_40]
    refine xS.br (c := .ge) (off := 44) (l := 3) rfl rfl (fun h13 => ?_) (fun h13 => ?_)
    · have g13 := xt_ge h13
      exfalso; simp (disch := omega) only [hs, Int32.lt_iff_toInt_lt, Int32.le_iff_toInt_le, nI_toInt, Int32.reduceToInt] at g13 <;> omega
    · have g13 := xf_ge h13
      refine xS.s1 rfl rfl ?_
      try dsimp only [Nat.reduceAdd]
      refine xS.s1 rfl rfl ?_
      try dsimp only [Nat.reduceAdd]
      refine xS.gI rfl (hC.1 _) rfl ⟨by decide, rfl⟩ rfl ?_
      try dsimp only [Nat.reduceAdd]
      rw [hs]
      refine xS.s1 rfl rfl ?_
      try dsimp only [Nat.reduceAdd, xi_0]
      refine xS.s1 rfl rfl ?_
      try dsimp only [Nat.reduceAdd]
      -- 23 yX2_write
      refine xS.cv rfl rfl rfl (hC.1 _) rfl rfl ⟨by decide, rfl, rfl⟩ (c_X2_write (t := 0) hC hm (by decide)) (fun v M1 hv => ?_)
      rw [hv.1, hv.2]
      clear hv M1 v
      try dsimp only [Nat.reduceAdd, Option.toList, List.cons_append, List.nil_append, List.drop]
      refine xS.s1 rfl rfl ?_
      try dsimp only [Nat.reduceAdd]
      refine xS.s1 rfl rfl ?_
      try dsimp only [Nat.reduceAdd]
      refine xS.gI rfl (hC.1 _) rfl ⟨by decide, rfl⟩ rfl ?_
      try dsimp only [Nat.reduceAdd]
      rw [c_X2_sz hs]
      refine xS.s1 rfl rfl ?_
      try dsimp only [Nat.reduceAdd, xi_1]
      refine xS.s1 rfl rfl ?_
      try dsimp only [Nat.reduceAdd]
      -- 33 yX2_write
      refine xS.cv rfl rfl rfl (hC.1 _) rfl rfl ⟨by decide, rfl, rfl⟩ (c_X2_write (t := 1) hC hm (by decide)) (fun v M1 hv => ?_)
      rw [hv.1, hv.2]
      clear hv M1 v
      try dsimp only [Nat.reduceAdd, Option.toList, List.cons_append, List.nil_append, List.drop]
      refine xS.s1 rfl rfl ?_
      try dsimp only [Nat.reduceAdd]
      refine xS.s1 rfl rfl ?_
      try dsimp only [Nat.reduceAdd]
      refine xS.gI rfl (hC.1 _) rfl ⟨by decide, rfl⟩ rfl ?_
      try dsimp only [Nat.reduceAdd]
      rw [c_X2_sz (c_X2_sz hs)]
      refine xS.s1 rfl rfl ?_
      try dsimp only [Nat.reduceAdd, xi_0]
      refine xS.s1 rfl rfl ?_
      try dsimp only [Nat.reduceAdd, xj_m9]
      -- 44 yX2_see
      refine xS.cv rfl rfl rfl (hC.1 _) rfl rfl ⟨by decide, rfl, rfl⟩ (c_X2_see hC hm) (fun v M1 hv => ?_)
      rw [hv.1, hv.2]
      clear hv M1 v
      try dsimp only [Nat.reduceAdd, Option.toList, List.cons_append, List.nil_append, List.drop]
      refine xS.s1 rfl rfl ?_
      try dsimp only [Nat.reduceAdd]
      refine xS.s1 rfl rfl ?_
      try dsimp only [Nat.reduceAdd]
      refine xS.gI rfl (hC.1 _) rfl ⟨by decide, rfl⟩ rfl ?_
      try dsimp only [Nat.reduceAdd]
      rw [c_X2_sz (c_X2_sz (c_X2_sz (c_X2_sz hs)))]
      refine xS.s1 rfl rfl ?_
      try dsimp only [Nat.reduceAdd, xi_1]
      refine xS.s1 rfl rfl ?_
      try dsimp only [Nat.reduceAdd]
      rw [nI_1]
      refine xS.pI rfl (hC.1 _) rfl ⟨⟨by decide, rfl⟩, rfl, by decide, by decide⟩ rfl ?_
      try dsimp only [Nat.reduceAdd]
      refine xS.ret rfl rfl rfl (fun _ _ => rfl) ?_
      exact ⟨rfl, rfl⟩

set_option maxRecDepth 10000 in
theorem c_X2_cutTo (hC : xde a) (hs : g a 1 = nI m) (hm : m ≤ 40) (ht : t ≤ m) : xT (k + 1) 30 [.ref a, .int (nI t)] (xH b g l) (fun r M' => M' = xH b (up g a 1 (nI t)) l ∧ r = none) := by
  refine xT.of rfl (Nat.le_of_ble_eq_true rfl) ?_
  dsimp only [lv_args]
  refine xS.s1 rfl rfl ?_
  try dsimp only [Nat.reduceAdd]
  refine xS.br0 (c := .lt) (off := 16) (l := 3) rfl rfl (fun h1 => ?_) (fun h1 => ?_)
  · have g1 := xt_lt h1
    exfalso; simp (disch := omega) only [hs, Int32.lt_iff_toInt_lt, Int32.le_iff_toInt_le, nI_toInt, Int32.reduceToInt] at g1 <;> omega
  · have g1 := xf_lt h1
    refine xS.s1 rfl rfl ?_
    try dsimp only [Nat.reduceAdd]
    refine xS.s1 rfl rfl ?_
    try dsimp only [Nat.reduceAdd]
    refine xS.gI rfl (hC.1 _) rfl ⟨by decide, rfl⟩ rfl ?_
    try dsimp only [Nat.reduceAdd]
    refine xS.br (c := .ge) (off := 8) (l := 3) rfl rfl (fun h9 => ?_) (fun h9 => ?_)
    · have g9 := xt_ge h9
      refine xS.ret rfl rfl rfl (fun _ _ => rfl) ?_
      rw [hs] at g9
      have e := xnle g9 (by omega) (by omega)
      exact ⟨by rw [up_id (by rw [hs, show t = m by omega])], rfl⟩
    · have g9 := xf_ge h9
      refine xS.s1 rfl rfl ?_
      try dsimp only [Nat.reduceAdd]
      refine xS.s1 rfl rfl ?_
      try dsimp only [Nat.reduceAdd]
      refine xS.pI rfl (hC.1 _) rfl ⟨⟨by decide, rfl⟩, rfl, by decide, by decide⟩ rfl ?_
      try dsimp only [Nat.reduceAdd]
      refine xS.ret rfl rfl rfl (fun _ _ => rfl) ?_
      exact ⟨rfl, rfl⟩

set_option maxRecDepth 10000 in
theorem c_X2_takeAll (hC : xde a) (hF : xde c) (hs : g c 1 = nI m) (hm : m ≤ 40) : xT (k + 1) 31 [.ref a, .ref c] (xH b g l) (fun r M' => M' = xH b (gcopy (up g a 1 (nI m)) (c + 1) 0 (a + 1) 0 (4 * m)) l ∧ r = none) := by
  refine xT.of rfl (Nat.le_of_ble_eq_true rfl) ?_
  dsimp only [lv_args]
  refine xS.s1 rfl rfl ?_
  try dsimp only [Nat.reduceAdd]
  refine xS.s1 rfl rfl ?_
  try dsimp only [Nat.reduceAdd]
  refine xS.gI rfl (hF.1 _) rfl ⟨by decide, rfl⟩ rfl ?_
  try dsimp only [Nat.reduceAdd]
  rw [hs]
  refine xS.pI rfl (hC.1 _) rfl ⟨⟨by decide, rfl⟩, rfl, by decide, by decide⟩ rfl ?_
  try dsimp only [Nat.reduceAdd]
  refine xS.s1 rfl rfl ?_
  try dsimp only [Nat.reduceAdd]
  refine xS.gI rfl (hC.1 _) rfl ⟨by decide, rfl⟩ rfl ?_
  try dsimp only [Nat.reduceAdd]
  rw [up_same]
  refine xS.br0 (c := .le) (off := 31) (l := 3) rfl rfl (fun h12 => ?_) (fun h12 => ?_)
  · have g12 := xt_le h12
    refine xS.ret rfl rfl rfl (fun _ _ => rfl) ?_
    have e := xn0 g12 (by omega)
    subst e
    exact ⟨by rw [gcopy_0], rfl⟩
  · have g12 := xf_le h12
    refine xS.s1 rfl rfl ?_
    try dsimp only [Nat.reduceAdd]
    refine xS.gI rfl (hC.1 _) rfl ⟨by decide, rfl⟩ rfl ?_
    try dsimp only [Nat.reduceAdd]
    rw [up_same]
    refine xS.s1 rfl rfl ?_
    try dsimp only [Nat.reduceAdd, xj_40]
    refine xS.br (c := .gt) (off := 22) (l := 3) rfl rfl (fun h21 => ?_) (fun h21 => ?_)
    · have g21 := xt_gt h21
      exfalso; simp (disch := omega) only [Int32.lt_iff_toInt_lt, Int32.le_iff_toInt_le, nI_toInt, Int32.reduceToInt] at g21 <;> omega
    · have g21 := xf_gt h21
      refine xS.s1 rfl rfl ?_
      try dsimp only [Nat.reduceAdd]
      refine xS.gR rfl (hF.1 _) rfl ⟨by decide, rfl⟩ rfl ?_
      try dsimp only [Nat.reduceAdd]
      refine xS.s1 rfl rfl ?_
      try dsimp only [Nat.reduceAdd, xi_0]
      refine xS.s1 rfl rfl ?_
      try dsimp only [Nat.reduceAdd]
      refine xS.gR rfl (hC.1 _) rfl ⟨by decide, rfl⟩ rfl ?_
      try dsimp only [Nat.reduceAdd]
      refine xS.s1 rfl rfl ?_
      try dsimp only [Nat.reduceAdd, xi_0]
      refine xS.s1 rfl rfl ?_
      try dsimp only [Nat.reduceAdd, xi_4]
      refine xS.s1 rfl rfl ?_
      try dsimp only [Nat.reduceAdd]
      refine xS.gI rfl (hC.1 _) rfl ⟨by decide, rfl⟩ rfl ?_
      try dsimp only [Nat.reduceAdd]
      rw [up_same]
      refine xS.s1 rfl rfl ?_
      try dsimp only [Nat.reduceAdd]
      rw [show (4 : Int32) * nI m = nI (4 * m) from pk_mul 4 m]
      refine xS.acp (sj := 0) (dj := 0) rfl rfl hF.2 hC.2 (by omega) (by omega) rfl ?_
      try dsimp only [Nat.reduceAdd]
      refine xS.ret rfl rfl rfl (fun _ _ => rfl) ?_
      exact ⟨rfl, rfl⟩

set_option maxRecDepth 10000 in
theorem c_X2_stepAt (hC : xde a) (hs : g a 1 = nI m) (hm : m ≤ 40) (ht : t < m) : xT (k + 2) 36 [.ref a, .int (nI t)] (xH b g l) (fun r M' => M' = xH b g l ∧ r = some (.int (g (a + 1) (4 * t)))) := by
  refine xT.of rfl (Nat.le_of_ble_eq_true rfl) ?_
  dsimp only [lv_args]
  refine xS.s1 rfl rfl ?_
  try dsimp only [Nat.reduceAdd]
  refine xS.s1 rfl rfl ?_
  try dsimp only [Nat.reduceAdd]
  refine xS.s1 rfl rfl ?_
  try dsimp only [Nat.reduceAdd, xi_0]
  -- 3 yX2_fact
  refine xS.cv rfl rfl rfl (hC.1 _) rfl rfl ⟨by decide, rfl, rfl⟩ (c_X2_fact (t := 0) hC hs hm ht (by decide)) (fun v M1 hv => ?_)
  rw [hv.1, hv.2]
  clear hv M1 v
  try dsimp only [Nat.reduceAdd, Option.toList, List.cons_append, List.nil_append, List.drop]
  refine xS.ret rfl rfl rfl (fun _ _ => rfl) ?_
  exact ⟨rfl, rfl⟩

end
