/-! both calls, op by op -/
theorem xT.and {k mn : Nat} {as : List Value} {M : xM} {P Q : Option Value → xM → Prop} (h1 : xT k mn as M P) (h2 : xT k mn as M Q) : xT k mn as M (fun r M' => P r M' ∧ Q r M') := by
  obtain ⟨r1, M1, p1, f1, H1⟩ := h1
  obtain ⟨r2, M2, p2, f2, H2⟩ := h2
  have e1 := H1 (f1 + f2) k (by omega) (Nat.le_refl k)
  have e2 := H2 (f1 + f2) k (by omega) (Nat.le_refl k)
  rw [e1] at e2
  have e3 := Option.some.inj e2
  have e4 : r1 = r2 := congrArg Prod.fst e3
  have e5 : M1 = M2 := congrArg (fun q => q.2.1) e3
  exact ⟨r1, M1, ⟨p1, by rw [e4, e5]; exact p2⟩, f1, H1⟩
section
variable {b : Nat × Nat} {g : Nat → Nat → Int32} {l : Nat → Nat → Int64} {x y z i j v : Int32}
theorem j_row (hJ : xJ b g) : xJ2 Value.int 78 158 [.int x, .int y] b g l := by
  refine xJ2.light hJ ?_ (fun g1 l1 h => ?_)
  · obtain ⟨G, T, Lw, m, h1, _⟩ := hJ
    exact k_row h1
  · obtain ⟨G, T, Lw, m, h1, h2⟩ := h
    exact q_row h1 h2
theorem j_lay (hJ : xJ b g) : xJ2 Value.int 79 160 [.int x, .int i, .int v] b g l := by
  refine xJ2.light hJ ?_ (fun g1 l1 h => ?_)
  · obtain ⟨G, T, Lw, m, h1, _⟩ := hJ
    exact k_lay h1
  · obtain ⟨G, T, Lw, m, h1, h2⟩ := h
    exact q_lay h1 h2
theorem j_at (hJ : xJ b g) : xJ2 Value.int 80 161 [.int x, .int i] b g l := by
  refine xJ2.light hJ ?_ (fun g1 l1 h => ?_)
  · obtain ⟨G, T, Lw, m, h1, _⟩ := hJ
    exact k_at h1
  · obtain ⟨G, T, Lw, m, h1, h2⟩ := h
    exact q_at h1 h2
theorem j_tear (hJ : xJ b g) : xJ2 Value.int 81 162 [.int x] b g l := by
  refine xJ2.light hJ ?_ (fun g1 l1 h => ?_)
  · obtain ⟨G, T, Lw, m, h1, _⟩ := hJ
    exact k_tear h1
  · obtain ⟨G, T, Lw, m, h1, h2⟩ := h
    exact q_tear h1 h2
theorem j_copy (hJ : xJ b g) : xJ2 Value.int 82 164 [.int x, .int i, .int y, .int j, .int z] b g l := by
  refine xJ2.light hJ ?_ (fun g1 l1 h => ?_)
  · obtain ⟨G, T, Lw, m, h1, _⟩ := hJ
    exact k_copy h1
  · obtain ⟨G, T, Lw, m, h1, h2⟩ := h
    exact q_copy h1 h2
theorem j_mean (hJ : xJ b g) : xJ2 Value.int 83 165 [.int x] b g l := by
  refine xJ2.light hJ ?_ (fun g1 l1 h => ?_)
  · obtain ⟨G, T, Lw, m, h1, _⟩ := hJ
    exact k_mean h1
  · obtain ⟨G, T, Lw, m, h1, h2⟩ := h
    exact q_mean h1 h2
theorem j_fault (hJ : xJ b g) : xJ2 Value.int 86 176 [.int x] b g l := by
  refine xJ2.light hJ ?_ (fun g1 l1 h => ?_)
  · obtain ⟨G, T, Lw, m, h1, _⟩ := hJ
    exact k_fault h1
  · obtain ⟨G, T, Lw, m, h1, h2⟩ := h
    exact q_fault h1 h2
theorem j_glass (hJ : xJ b g) : xJ2 Value.int 88 187 [.int x, .int y] b g l := by
  refine xJ2.light hJ ?_ (fun g1 l1 h => ?_)
  · obtain ⟨G, T, Lw, m, h1, _⟩ := hJ
    exact k_glass h1
  · obtain ⟨G, T, Lw, m, h1, h2⟩ := h
    exact q_glass h1 h2
theorem j_mark (hJ : xJ b g) : xJ2 Value.int 89 188 [.int x, .int y] b g l := by
  refine xJ2.light hJ ?_ (fun g1 l1 h => ?_)
  · obtain ⟨G, T, Lw, m, h1, _⟩ := hJ
    exact k_mark h1
  · obtain ⟨G, T, Lw, m, h1, h2⟩ := h
    exact q_mark h1 h2
theorem j_habit (hJ : xJ b g) : xJ2 Value.int 90 189 [.int x] b g l := by
  refine xJ2.light hJ ?_ (fun g1 l1 h => ?_)
  · obtain ⟨G, T, Lw, m, h1, _⟩ := hJ
    exact k_habit h1
  · obtain ⟨G, T, Lw, m, h1, h2⟩ := h
    exact q_habit h1 h2
theorem j_term (hJ : xJ b g) : xJ2 Value.int 91 190 [.int x, .int y] b g l := by
  refine xJ2.light hJ ?_ (fun g1 l1 h => ?_)
  · obtain ⟨G, T, Lw, m, h1, _⟩ := hJ
    exact k_term h1
  · obtain ⟨G, T, Lw, m, h1, h2⟩ := h
    exact q_term h1 h2
theorem j_deed (hJ : xJ b g) : xJ2 Value.int 93 193 [.int x, .int y] b g l := by
  refine xJ2.light hJ ?_ (fun g1 l1 h => ?_)
  · obtain ⟨G, T, Lw, m, h1, _⟩ := hJ
    exact k_deed h1
  · obtain ⟨G, T, Lw, m, h1, h2⟩ := h
    exact q_deed h1 h2
theorem j_broken (hJ : xJ b g) : xJ2 Value.int 94 195 [] b g l := by
  refine xJ2.light hJ ?_ (fun g1 l1 h => ?_)
  · obtain ⟨G, T, Lw, m, h1, _⟩ := hJ
    exact k_broken h1
  · obtain ⟨G, T, Lw, m, h1, h2⟩ := h
    exact q_broken h1 h2
theorem j_show (hJ : xJ b g) : xJ2 Value.int 98 202 [.int x, .int y, .int z] b g l := by
  refine xJ2.light hJ ?_ (fun g1 l1 h => ?_)
  · obtain ⟨G, T, Lw, m, h1, _⟩ := hJ
    exact k_show h1
  · obtain ⟨G, T, Lw, m, h1, h2⟩ := h
    exact q_show h1 h2
theorem j_breaks (hJ : xJ b g) : xJ2 Value.int 99 204 [.int x, .int y] b g l := by
  refine xJ2.light hJ ?_ (fun g1 l1 h => ?_)
  · obtain ⟨G, T, Lw, m, h1, _⟩ := hJ
    exact k_breaks h1
  · obtain ⟨G, T, Lw, m, h1, h2⟩ := h
    exact q_breaks h1 h2
theorem j_alike (hJ : xJ b g) : xJ2 Value.int 100 205 [.int x, .int y] b g l := by
  refine xJ2.light hJ ?_ (fun g1 l1 h => ?_)
  · obtain ⟨G, T, Lw, m, h1, _⟩ := hJ
    exact k_alike h1
  · obtain ⟨G, T, Lw, m, h1, h2⟩ := h
    exact q_alike h1 h2
theorem j_fit (hJ : xJ b g) : xJ2 Value.int 101 206 [.int x, .int y] b g l := by
  refine xJ2.light hJ ?_ (fun g1 l1 h => ?_)
  · obtain ⟨G, T, Lw, m, h1, _⟩ := hJ
    exact k_fit h1
  · obtain ⟨G, T, Lw, m, h1, h2⟩ := h
    exact q_fit h1 h2
theorem j_ways (hJ : xJ b g) : xJ2 Value.int 102 210 [.int x, .int y] b g l := by
  refine xJ2.light hJ ?_ (fun g1 l1 h => ?_)
  · obtain ⟨G, T, Lw, m, h1, _⟩ := hJ
    exact k_ways h1
  · obtain ⟨G, T, Lw, m, h1, h2⟩ := h
    exact q_ways h1 h2
theorem j_first (hJ : xJ b g) : xJ2 Value.int 103 211 [.int x, .int y, .int z] b g l := by
  refine xJ2.light hJ ?_ (fun g1 l1 h => ?_)
  · obtain ⟨G, T, Lw, m, h1, _⟩ := hJ
    exact k_first h1
  · obtain ⟨G, T, Lw, m, h1, h2⟩ := h
    exact q_first h1 h2
theorem j_can (hJ : xJ b g) : xJ2 Value.int 104 212 [.int x, .int y, .int z] b g l := by
  refine xJ2.light hJ ?_ (fun g1 l1 h => ?_)
  · obtain ⟨G, T, Lw, m, h1, _⟩ := hJ
    exact k_can h1
  · obtain ⟨G, T, Lw, m, h1, h2⟩ := h
    exact q_can h1 h2
theorem j_laws (hJ : xJ b g) : xJ2 Value.int 105 214 [.int x, .int y] b g l := by
  refine xJ2.light hJ ?_ (fun g1 l1 h => ?_)
  · obtain ⟨G, T, Lw, m, h1, _⟩ := hJ
    exact k_laws h1
  · obtain ⟨G, T, Lw, m, h1, h2⟩ := h
    exact q_laws h1 h2
theorem j_next (hJ : xJ b g) : xJ2 Value.int 106 216 [.int x, .int y] b g l := by
  refine xJ2.light hJ ?_ (fun g1 l1 h => ?_)
  · obtain ⟨G, T, Lw, m, h1, _⟩ := hJ
    exact k_next h1
  · obtain ⟨G, T, Lw, m, h1, h2⟩ := h
    exact q_next h1 h2
theorem j_he (hJ : xJ b g) : xJ2 Value.int 107 217 [.int x, .int y, .int z] b g l := by
  refine xJ2.light hJ ?_ (fun g1 l1 h => ?_)
  · obtain ⟨G, T, Lw, m, h1, _⟩ := hJ
    exact k_he h1
  · obtain ⟨G, T, Lw, m, h1, h2⟩ := h
    exact q_he h1 h2
theorem j_keeps (hJ : xJ b g) : xJ2 Value.int 108 219 [.int x, .int y] b g l := by
  refine xJ2.light hJ ?_ (fun g1 l1 h => ?_)
  · obtain ⟨G, T, Lw, m, h1, _⟩ := hJ
    exact k_keeps h1
  · obtain ⟨G, T, Lw, m, h1, h2⟩ := h
    exact q_keeps h1 h2
theorem j_still (hJ : xJ b g) : xJ2 Value.int 109 220 [.int x, .int y] b g l := by
  refine xJ2.light hJ ?_ (fun g1 l1 h => ?_)
  · obtain ⟨G, T, Lw, m, h1, _⟩ := hJ
    exact k_still h1
  · obtain ⟨G, T, Lw, m, h1, h2⟩ := h
    exact q_still h1 h2
theorem j_game (hJ : xJ b g) : xJ2 Value.int 110 223 [.int x] b g l := by
  refine xJ2.light hJ ?_ (fun g1 l1 h => ?_)
  · obtain ⟨G, T, Lw, m, h1, _⟩ := hJ
    exact k_game h1
  · obtain ⟨G, T, Lw, m, h1, h2⟩ := h
    exact q_game h1 h2
theorem j_picks (hJ : xJ b g) : xJ2 Value.int 111 224 [.int x] b g l := by
  refine xJ2.light hJ ?_ (fun g1 l1 h => ?_)
  · obtain ⟨G, T, Lw, m, h1, _⟩ := hJ
    exact k_picks h1
  · obtain ⟨G, T, Lw, m, h1, h2⟩ := h
    exact q_picks h1 h2
theorem j_odds (hJ : xJ b g) : xJ2 Value.int 112 225 [.int x, .int y, .int z] b g l := by
  refine xJ2.light hJ ?_ (fun g1 l1 h => ?_)
  · obtain ⟨G, T, Lw, m, h1, _⟩ := hJ
    exact k_odds h1
  · obtain ⟨G, T, Lw, m, h1, h2⟩ := h
    exact q_odds h1 h2
theorem j_mid (hJ : xJ b g) : xJ2 Value.int 113 226 [.int x, .int y, .int z] b g l := by
  refine xJ2.light hJ ?_ (fun g1 l1 h => ?_)
  · obtain ⟨G, T, Lw, m, h1, _⟩ := hJ
    exact k_mid h1
  · obtain ⟨G, T, Lw, m, h1, h2⟩ := h
    exact q_mid h1 h2
theorem j_asked (hJ : xJ b g) : xJ2 Value.int 115 228 [] b g l := by
  refine xJ2.light hJ ?_ (fun g1 l1 h => ?_)
  · obtain ⟨G, T, Lw, m, h1, _⟩ := hJ
    exact k_asked h1
  · obtain ⟨G, T, Lw, m, h1, h2⟩ := h
    exact q_asked h1 h2
theorem j_upper (hJ : xJ b g) : xJ2 Value.long 116 229 [] b g l := by
  refine xJ2.light hJ ?_ (fun g1 l1 h => ?_)
  · obtain ⟨G, T, Lw, m, h1, _⟩ := hJ
    exact k_upper h1
  · obtain ⟨G, T, Lw, m, h1, h2⟩ := h
    exact q_upper h1 h2
theorem j_lower (hJ : xJ b g) : xJ2 Value.long 117 230 [] b g l := by
  refine xJ2.light hJ ?_ (fun g1 l1 h => ?_)
  · obtain ⟨G, T, Lw, m, h1, _⟩ := hJ
    exact k_lower h1
  · obtain ⟨G, T, Lw, m, h1, h2⟩ := h
    exact q_lower h1 h2
theorem j_count (hJ : xJ b g) : xJ2 Value.int 118 234 [.int x] b g l := by
  refine xJ2.light hJ ?_ (fun g1 l1 h => ?_)
  · obtain ⟨G, T, Lw, m, h1, _⟩ := hJ
    exact k_count h1
  · obtain ⟨G, T, Lw, m, h1, h2⟩ := h
    exact q_count h1 h2
theorem j_finding (hJ : xJ b g) : xJ2 Value.int 119 235 [] b g l := by
  refine xJ2.light hJ ?_ (fun g1 l1 h => ?_)
  · obtain ⟨G, T, Lw, m, h1, _⟩ := hJ
    exact k_finding h1
  · obtain ⟨G, T, Lw, m, h1, h2⟩ := h
    exact q_finding h1 h2
theorem j_findings (hJ : xJ b g) : xJ2 Value.int 120 236 [.int x] b g l := by
  refine xJ2.light hJ ?_ (fun g1 l1 h => ?_)
  · obtain ⟨G, T, Lw, m, h1, _⟩ := hJ
    exact k_findings h1
  · obtain ⟨G, T, Lw, m, h1, h2⟩ := h
    exact q_findings h1 h2
theorem j_digest (hJ : xJ b g) : xJ2 Value.long 121 238 [] b g l := by
  refine xJ2.light hJ ?_ (fun g1 l1 h => ?_)
  · obtain ⟨G, T, Lw, m, h1, _⟩ := hJ
    exact k_digest h1
  · obtain ⟨G, T, Lw, m, h1, h2⟩ := h
    exact q_digest h1 h2
theorem ac_row : xT 10 78 [.ref 0, .int x, .int y] (xH b g l) (fun r _ => r = some (.int (if (0 ≤ x ∧ x < 6) ∧ y ≤ 40 then (if y < 0 then (-3 : Int32) else y) else -1))) := by
  by_cases hx : (0 ≤ x ∧ x < 6) ∧ y ≤ 40
  · rw [if_pos hx]
    obtain ⟨t, ht, rfl⟩ := xin (n := 6) (by omega) hx.1
    by_cases hy : y < 0
    · rw [if_pos hy]
      exact (c_X11_row_neg ht hy).weak (fun r M w => w.2)
    · rw [if_neg hy]
      obtain ⟨m1, hm1, rfl⟩ := xinl (n := 40) (by omega) ⟨Int32.not_lt.mp hy, hx.2⟩
      exact (c_X11_row_ok ht hm1).weak (fun r M w => w.2)
  · rw [if_neg hx]
    exact (c_X11_row_bad hx).weak (fun r M w => w.2)
theorem ar_row : xT 10 158 [.ref 73, .int x, .int y] (xH b g l) (fun r _ => r = some (.int (if (0 ≤ x ∧ x < 6) ∧ y ≤ 40 then (if y < 0 then (-3 : Int32) else y) else -1))) := by
  by_cases hx : (0 ≤ x ∧ x < 6) ∧ y ≤ 40
  · rw [if_pos hx]
    obtain ⟨t, ht, rfl⟩ := xin (n := 6) (by omega) hx.1
    by_cases hy : y < 0
    · rw [if_pos hy]
      exact (c_X12_row_neg ht hy).weak (fun r M w => w.2)
    · rw [if_neg hy]
      obtain ⟨m1, hm1, rfl⟩ := xinl (n := 40) (by omega) ⟨Int32.not_lt.mp hy, hx.2⟩
      exact (c_X12_row_ok ht hm1).weak (fun r M w => w.2)
  · rw [if_neg hx]
    exact (c_X12_row_bad hx).weak (fun r M w => w.2)
theorem ac_text : xT 10 84 [.ref 0, .int x, .int y] (xH b g l) (fun r _ => r = some (.int (if (0 ≤ x ∧ x < 4) ∧ y ≤ 60 then (if y < 0 then (-3 : Int32) else y) else -1))) := by
  by_cases hx : (0 ≤ x ∧ x < 4) ∧ y ≤ 60
  · rw [if_pos hx]
    obtain ⟨t, ht, rfl⟩ := xin (n := 4) (by omega) hx.1
    by_cases hy : y < 0
    · rw [if_pos hy]
      exact (c_X11_text_neg ht hy).weak (fun r M w => w.2)
    · rw [if_neg hy]
      obtain ⟨m1, hm1, rfl⟩ := xinl (n := 60) (by omega) ⟨Int32.not_lt.mp hy, hx.2⟩
      exact (c_X11_text_ok ht hm1).weak (fun r M w => w.2)
  · rw [if_neg hx]
    exact (c_X11_text_bad hx).weak (fun r M w => w.2)
theorem ar_text : xT 10 166 [.ref 73, .int x, .int y] (xH b g l) (fun r _ => r = some (.int (if (0 ≤ x ∧ x < 4) ∧ y ≤ 60 then (if y < 0 then (-3 : Int32) else y) else -1))) := by
  by_cases hx : (0 ≤ x ∧ x < 4) ∧ y ≤ 60
  · rw [if_pos hx]
    obtain ⟨t, ht, rfl⟩ := xin (n := 4) (by omega) hx.1
    by_cases hy : y < 0
    · rw [if_pos hy]
      exact (c_X12_text_neg ht hy).weak (fun r M w => w.2)
    · rw [if_neg hy]
      obtain ⟨m1, hm1, rfl⟩ := xinl (n := 60) (by omega) ⟨Int32.not_lt.mp hy, hx.2⟩
      exact (c_X12_text_ok ht hm1).weak (fun r M w => w.2)
  · rw [if_neg hx]
    exact (c_X12_text_bad hx).weak (fun r M w => w.2)
end
