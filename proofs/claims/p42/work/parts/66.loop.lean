/-! the law's loop -/
section
variable {vs : List Value} {L : Nat} {xv : Nat → Int32}
set_option maxRecDepth 10000 in
theorem xl_loop (hL : L ≤ 384) (hvl : vs.length = L) (hvs : ∀ t, t < L → vs[t]? = some (.int (xv t))) : ∀ (u i : Nat) (b : Nat × Nat) (g : Nat → Nat → Int32) (l : Nat → Nat → Int64), L < i + u → i ≤ 1000 → xJ b g → xLw vs 18 [(3, .int (nI i)), (2, .ref 73), (1, .ref 0), (0, .retAddr 0)] [] (xH b g l)
  | 0, i, b, g, l, hu, hi, hJ => by
    refine xLw.s1 rfl rfl ?_
    try dsimp only [Nat.reduceAdd]
    refine xLw.s1 rfl rfl ?_
    try dsimp only [Nat.reduceAdd]
    refine xLw.al rfl hvl ?_
    try dsimp only [Nat.reduceAdd]
    refine xLw.s1 rfl rfl ?_
    try dsimp only [Nat.reduceAdd, xj_6]
    refine xLw.s1 rfl rfl ?_
    try dsimp only [Nat.reduceAdd]
    have hsb : (nI L - 6 : Int32).toInt = (L : Int) - 6 := pk_sub_toInt (a := L) (b := 6) (by omega) (by omega)
    have hit : (nI i).toInt = (i : Int) := nI_toInt (by omega)
    refine xLw.br (c := .gt) (off := 1528) (l0 := 3) rfl rfl (fun h => ?_) (fun h => ?_)
    · refine xLw.s1 rfl rfl ?_
      try dsimp only [Nat.reduceAdd, xi_1]
      exact xLw.ret rfl
    · exfalso
      have z := xf_gt h
      rw [Int32.le_iff_toInt_le, hsb, hit] at z
      omega
  | u + 1, i, b, g, l, hu, hi, hJ => by
    refine xLw.s1 rfl rfl ?_
    try dsimp only [Nat.reduceAdd]
    refine xLw.s1 rfl rfl ?_
    try dsimp only [Nat.reduceAdd]
    refine xLw.al rfl hvl ?_
    try dsimp only [Nat.reduceAdd]
    refine xLw.s1 rfl rfl ?_
    try dsimp only [Nat.reduceAdd, xj_6]
    refine xLw.s1 rfl rfl ?_
    try dsimp only [Nat.reduceAdd]
    have hsb : (nI L - 6 : Int32).toInt = (L : Int) - 6 := pk_sub_toInt (a := L) (b := 6) (by omega) (by omega)
    have hit : (nI i).toInt = (i : Int) := nI_toInt (by omega)
    refine xLw.br (c := .gt) (off := 1528) (l0 := 3) rfl rfl (fun h => ?_) (fun h => ?_)
    · refine xLw.s1 rfl rfl ?_
      try dsimp only [Nat.reduceAdd, xi_1]
      exact xLw.ret rfl
    · have z := xf_gt h
      rw [Int32.le_iff_toInt_le, hsb, hit] at z
      have hi6 : i + 6 ≤ L := by omega
      have nx : ∀ b2 g2 l2, xJ b2 g2 → xLw vs 1546 [(3, .int (nI i)), (2, .ref 73), (1, .ref 0), (0, .retAddr 0)] [] (xH b2 g2 l2) := fun b2 g2 l2 h2 => by
        refine xLw.s1 rfl rfl ?_
        try dsimp only [Nat.reduceAdd]
        rw [show (Int32.ofInt 6) = nI 6 from rfl, nI_add]
        refine xLw.s1 rfl rfl ?_
        try dsimp only [Nat.reduceAdd]
        exact xl_loop hL hvl hvs u (i + 6) b2 g2 l2 (by omega) (by omega) h2
      refine xLw.s1 rfl rfl ?_
      try dsimp only [Nat.reduceAdd]
      refine xLw.s1 rfl rfl ?_
      try dsimp only [Nat.reduceAdd]
      refine xLw.ial rfl (hvs i (by omega)) (by omega) ?_
      try dsimp only [Nat.reduceAdd]
      refine xLw.s1 rfl rfl ?_
      try dsimp only [Nat.reduceAdd, xj_63]
      refine xLw.s1 rfl rfl ?_
      try dsimp only [Nat.reduceAdd]
      obtain ⟨k, hk, ek⟩ := pk_andE (xv i) (m := 63) 6 (by decide)
      rw [ek]
      match k, hk with
      | 0, _ => exact xLw.tsw (j := 0) rfl (by decide) rfl (w_row hL hi6 hvs hJ nx)
      | 1, _ => exact xLw.tsw (j := 1) rfl (by decide) rfl (w_lay hL hi6 hvs hJ nx)
      | 2, _ => exact xLw.tsw (j := 2) rfl (by decide) rfl (w_at hL hi6 hvs hJ nx)
      | 3, _ => exact xLw.tsw (j := 3) rfl (by decide) rfl (w_tear hL hi6 hvs hJ nx)
      | 4, _ => exact xLw.tsw (j := 4) rfl (by decide) rfl (w_copy hL hi6 hvs hJ nx)
      | 5, _ => exact xLw.tsw (j := 5) rfl (by decide) rfl (w_mean hL hi6 hvs hJ nx)
      | 6, _ => exact xLw.tsw (j := 6) rfl (by decide) rfl (w_text hL hi6 hvs hJ nx)
      | 7, _ => exact xLw.tsw (j := 7) rfl (by decide) rfl (w_put hL hi6 hvs hJ nx)
      | 8, _ => exact xLw.tsw (j := 8) rfl (by decide) rfl (w_fault hL hi6 hvs hJ nx)
      | 9, _ => exact xLw.tsw (j := 9) rfl (by decide) rfl (w_room hL hi6 hvs hJ nx)
      | 10, _ => exact xLw.tsw (j := 10) rfl (by decide) rfl (w_glass hL hi6 hvs hJ nx)
      | 11, _ => exact xLw.tsw (j := 11) rfl (by decide) rfl (w_mark hL hi6 hvs hJ nx)
      | 12, _ => exact xLw.tsw (j := 12) rfl (by decide) rfl (w_habit hL hi6 hvs hJ nx)
      | 13, _ => exact xLw.tsw (j := 13) rfl (by decide) rfl (w_term hL hi6 hvs hJ nx)
      | 14, _ => exact xLw.tsw (j := 14) rfl (by decide) rfl (w_step hL hi6 hvs hJ nx)
      | 15, _ => exact xLw.tsw (j := 15) rfl (by decide) rfl (w_deed hL hi6 hvs hJ nx)
      | 16, _ => exact xLw.tsw (j := 16) rfl (by decide) rfl (w_broken hL hi6 hvs hJ nx)
      | 17, _ => exact xLw.tsw (j := 17) rfl (by decide) rfl (w_undo hL hi6 hvs hJ nx)
      | 18, _ => exact xLw.tsw (j := 18) rfl (by decide) rfl (w_keep hL hi6 hvs hJ nx)
      | 19, _ => exact xLw.tsw (j := 19) rfl (by decide) rfl (w_on hL hi6 hvs hJ nx)
      | 20, _ => exact xLw.tsw (j := 20) rfl (by decide) rfl (w_show hL hi6 hvs hJ nx)
      | 21, _ => exact xLw.tsw (j := 21) rfl (by decide) rfl (w_breaks hL hi6 hvs hJ nx)
      | 22, _ => exact xLw.tsw (j := 22) rfl (by decide) rfl (w_alike hL hi6 hvs hJ nx)
      | 23, _ => exact xLw.tsw (j := 23) rfl (by decide) rfl (w_fit hL hi6 hvs hJ nx)
      | 24, _ => exact xLw.tsw (j := 24) rfl (by decide) rfl (w_ways hL hi6 hvs hJ nx)
      | 25, _ => exact xLw.tsw (j := 25) rfl (by decide) rfl (w_first hL hi6 hvs hJ nx)
      | 26, _ => exact xLw.tsw (j := 26) rfl (by decide) rfl (w_can hL hi6 hvs hJ nx)
      | 27, _ => exact xLw.tsw (j := 27) rfl (by decide) rfl (w_laws hL hi6 hvs hJ nx)
      | 28, _ => exact xLw.tsw (j := 28) rfl (by decide) rfl (w_next hL hi6 hvs hJ nx)
      | 29, _ => exact xLw.tsw (j := 29) rfl (by decide) rfl (w_he hL hi6 hvs hJ nx)
      | 30, _ => exact xLw.tsw (j := 30) rfl (by decide) rfl (w_keeps hL hi6 hvs hJ nx)
      | 31, _ => exact xLw.tsw (j := 31) rfl (by decide) rfl (w_still hL hi6 hvs hJ nx)
      | 32, _ => exact xLw.tsw (j := 32) rfl (by decide) rfl (w_game hL hi6 hvs hJ nx)
      | 33, _ => exact xLw.tsw (j := 33) rfl (by decide) rfl (w_picks hL hi6 hvs hJ nx)
      | 34, _ => exact xLw.tsw (j := 34) rfl (by decide) rfl (w_odds hL hi6 hvs hJ nx)
      | 35, _ => exact xLw.tsw (j := 35) rfl (by decide) rfl (w_mid hL hi6 hvs hJ nx)
      | 36, _ => exact xLw.tsw (j := 36) rfl (by decide) rfl (w_lots hL hi6 hvs hJ nx)
      | 37, _ => exact xLw.tsw (j := 37) rfl (by decide) rfl (w_asked hL hi6 hvs hJ nx)
      | 38, _ => exact xLw.tsw (j := 38) rfl (by decide) rfl (w_upper hL hi6 hvs hJ nx)
      | 39, _ => exact xLw.tsw (j := 39) rfl (by decide) rfl (w_lower hL hi6 hvs hJ nx)
      | 40, _ => exact xLw.tsw (j := 40) rfl (by decide) rfl (w_count hL hi6 hvs hJ nx)
      | 41, _ => exact xLw.tsw (j := 41) rfl (by decide) rfl (w_finding hL hi6 hvs hJ nx)
      | 42, _ => exact xLw.tsw (j := 42) rfl (by decide) rfl (w_findings hL hi6 hvs hJ nx)
      | 43, _ => exact xLw.tsw (j := 43) rfl (by decide) rfl (w_digest hL hi6 hvs hJ nx)
      | 44, _ => exact xLw.tsw (j := 44) rfl (by decide) rfl (nx _ _ _ hJ)
      | 45, _ => exact xLw.tsw (j := 45) rfl (by decide) rfl (nx _ _ _ hJ)
      | 46, _ => exact xLw.tsw (j := 46) rfl (by decide) rfl (nx _ _ _ hJ)
      | 47, _ => exact xLw.tsw (j := 47) rfl (by decide) rfl (nx _ _ _ hJ)
      | 48, _ => exact xLw.tsw (j := 48) rfl (by decide) rfl (nx _ _ _ hJ)
      | 49, _ => exact xLw.tsw (j := 49) rfl (by decide) rfl (nx _ _ _ hJ)
      | 50, _ => exact xLw.tsw (j := 50) rfl (by decide) rfl (nx _ _ _ hJ)
      | 51, _ => exact xLw.tsw (j := 51) rfl (by decide) rfl (nx _ _ _ hJ)
      | 52, _ => exact xLw.tsw (j := 52) rfl (by decide) rfl (nx _ _ _ hJ)
      | 53, _ => exact xLw.tsw (j := 53) rfl (by decide) rfl (nx _ _ _ hJ)
      | 54, _ => exact xLw.tsw (j := 54) rfl (by decide) rfl (nx _ _ _ hJ)
      | 55, _ => exact xLw.tsw (j := 55) rfl (by decide) rfl (nx _ _ _ hJ)
      | 56, _ => exact xLw.tsw (j := 56) rfl (by decide) rfl (nx _ _ _ hJ)
      | 57, _ => exact xLw.tsw (j := 57) rfl (by decide) rfl (nx _ _ _ hJ)
      | 58, _ => exact xLw.tsw (j := 58) rfl (by decide) rfl (nx _ _ _ hJ)
      | 59, _ => exact xLw.tsw (j := 59) rfl (by decide) rfl (nx _ _ _ hJ)
      | 60, _ => exact xLw.tsw (j := 60) rfl (by decide) rfl (nx _ _ _ hJ)
      | 61, _ => exact xLw.tsw (j := 61) rfl (by decide) rfl (nx _ _ _ hJ)
      | 62, _ => exact xLw.tsw (j := 62) rfl (by decide) rfl (nx _ _ _ hJ)
      | 63, _ => exact xLw.tsw (j := 63) rfl (by decide) rfl (nx _ _ _ hJ)
      | k + 64, hk => exact absurd hk (by omega)
end
