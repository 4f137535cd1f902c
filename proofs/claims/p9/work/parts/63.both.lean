/-! both calls, op by op -/
theorem xT.and {k mn : Nat} {as : List Value} {M : xM} {P Q : Option Value → xM → Prop} (h1 : xT k mn as M P) (h2 : xT k mn as M Q) : xT k mn as M (fun r M' => P r M' ∧ Q r M') := by
  obtain ⟨r1, M1, p1, f1, H1⟩ := h1
  obtain ⟨r2, M2, p2, f2, H2⟩ := h2
  have e1 := H1 (f1 + f2) k (by omega) (Nat.le_refl k)
  have e2 := H2 (f1 + f2) k (by omega) (Nat.le_refl k)
  rw [e1] at e2
  have e3 := Option.some.inj e2
  have e4 : r1 = r2 := congrArg Prod.fst e3
  have e5 : M1 = M2 := congrArg (fun q => q.2.1) e3
  exact ⟨r1, M1, ⟨p1, by rw [e4, e5]; exact p2⟩, f1, H1⟩
theorem xJ2.lightE {b : Nat × Nat} {g : Nat → Nat → Int32} {l : Nat → Nat → Int64} {mc mr : Nat} {as : List Value} {A : Int32} (hJ : xJ b g) (hc : xCo Value.int mc as b g l) (hr : ∀ g1 l1, xJ b g1 → xRo Value.int mr as b g1 l1) (ha : xT 10 mc (.ref 0 :: as) (xH b g l) (fun r _ => r = some (.int A))) (hb : ∀ g1 l1, xAg b g g1 → xT 10 mr (.ref 73 :: as) (xH b g1 l1) (fun r _ => r = some (.int A))) : xJ2 Value.int True mc mr as b g l := by
  refine (xT.and hc ha).weak (fun r M z => ?_)
  obtain ⟨⟨v, g1, l1, e1, e2, hA⟩, ea⟩ := z
  have h1 := xJ_ag hA hJ
  refine ⟨v, b, g1, l1, e1, e2, (xT.and (hr g1 l1 h1) (hb g1 l1 hA)).weak (fun r' M' w => ?_)⟩
  obtain ⟨⟨v', g2, l2, f1, f2, hB⟩, eb⟩ := w
  refine ⟨v', b, g2, l2, f1, f2, xJ_ag hB h1, fun _ => ?_⟩
  rw [f1] at eb
  rw [e1] at ea
  have z1 := Option.some.inj eb
  have z2 := Option.some.inj ea
  have z3 := z1.trans z2.symm
  cases z3
  rfl
theorem xbc_6 (p : Nat → Bool) : xbc (xbits p 6) = nI (xcnt p 6) := by
  have h : ∀ a b c d e f : Bool, xbc (xbits (fun s => match s with | 0 => a | 1 => b | 2 => c | 3 => d | 4 => e | _ => f) 6) = nI (xcnt (fun s => match s with | 0 => a | 1 => b | 2 => c | 3 => d | 4 => e | _ => f) 6) := by decide +kernel
  exact h (p 0) (p 1) (p 2) (p 3) (p 4) (p 5)
theorem xmir_0 {x : Int32} (h : xstp x) : xmir x = 0 ↔ x = 0 := by
  obtain ⟨v, hv, rfl⟩ := h
  rcases (show v = 0 ∨ v = 1 ∨ v = 2 ∨ v = 3 ∨ v = 4 ∨ v = 5 by omega) with rfl | rfl | rfl | rfl | rfl | rfl <;> decide
section
variable {b : Nat × Nat} {g g1 : Nat → Nat → Int32} {l : Nat → Nat → Int64} {G T m : Nat} {Lw : Nat → Nat} {x y z i j v : Int32}
theorem ea_row (hI : xIc b g G T Lw m) : xT 10 78 [.ref 0, .int x, .int y] (xH b g l) (fun r _ => r = some (.int (if (0 ≤ x ∧ x < 6) ∧ y ≤ 40 then (if y < 0 then (-3 : Int32) else y) else -1))) := by
  obtain ⟨hb, hp, hR, htx, ⟨hs, hm⟩, hD, hK, hZ, hY⟩ := hI
  obtain ⟨hb1, hb2⟩ := xro_b hb
  have hq := xb2 hb
  have hbv : b.1 = 7 ∨ b.1 = 11 := by omega
  have hbw : b.2 = 7 ∨ b.2 = 11 := by omega
  have eG : g b.1 2 = nI G := hR.1.1
  have hG6 : G ≤ 6 := hR.1.2
  have eT : g b.1 4 = nI T := hR.2.1.1
  have hT8 : T ≤ 8 := hR.2.1.2
  by_cases hx : (0 ≤ x ∧ x < 6) ∧ y ≤ 40
  · rw [if_pos hx]
    obtain ⟨t, ht, rfl⟩ := xin (n := 6) (by omega) hx.1
    by_cases hy : y < 0
    · rw [if_pos hy]
      exact (c_X11_row_neg ht hy).weak (fun r M w => w.2)
    · rw [if_neg hy]
      obtain ⟨m1, hm1, rfl⟩ := xinl (n := 40) (by omega) ⟨Int32.not_lt.mp hy, hx.2⟩
      exact (c_X11_row_ok ht hm1).weak (fun r M w => w.2)
  · rw [if_neg hx]
    exact (c_X11_row_bad hx).weak (fun r M w => w.2)
theorem eb_row (hI : xIc b g G T Lw m) (hJ : xIr b g G T Lw m) : xT 10 158 [.ref 73, .int x, .int y] (xH b g l) (fun r _ => r = some (.int (if (0 ≤ x ∧ x < 6) ∧ y ≤ 40 then (if y < 0 then (-3 : Int32) else y) else -1))) := by
  obtain ⟨hb, hp, hRm, htx, ⟨_, hm⟩, hDk, hK, hZc, hY⟩ := hI
  obtain ⟨hR, hs, hD, hKr, hZ, hYr⟩ := hJ
  have eG : g 73 10 = nI G := hR.1.1
  have hG6 : G ≤ 6 := hR.1.2
  have hT8 : T ≤ 8 := hR.2.1.2
  have hZ6 : ∀ q, q < 6 → xsz (g 74 q) 60 := fun q h => (hZ q h).elim Or.inl (fun ⟨n, a1, a2⟩ => Or.inr ⟨n, by omega, a2⟩)
  have hY6 : ∀ q, q < 4 → xsz (g 76 q) 60 := fun q h => by rw [(hYr q h).1]; exact hY q h
  have hK6 : ∀ q, q < 3 → xsz (g 86 q) 60 := fun q h => by
    rw [(hKr q h).1]
    rcases hK q h with z | ⟨n, z1, z2, _⟩
    · exact Or.inl z
    · exact Or.inr ⟨n, by omega, z2⟩
  by_cases hx : (0 ≤ x ∧ x < 6) ∧ y ≤ 40
  · rw [if_pos hx]
    obtain ⟨t, ht, rfl⟩ := xin (n := 6) (by omega) hx.1
    by_cases hy : y < 0
    · rw [if_pos hy]
      exact (c_X12_row_neg ht hy).weak (fun r M w => w.2)
    · rw [if_neg hy]
      obtain ⟨m1, hm1, rfl⟩ := xinl (n := 40) (by omega) ⟨Int32.not_lt.mp hy, hx.2⟩
      exact (c_X12_row_ok ht hm1).weak (fun r M w => w.2)
  · rw [if_neg hx]
    exact (c_X12_row_bad hx).weak (fun r M w => w.2)
theorem ea_fault (hI : xIc b g G T Lw m) : xT 10 86 [.ref 0, .int x] (xH b g l) (fun r _ => r = some (.int (if 0 ≤ x ∧ x < 4 then (if g (35 + 2 * xN x) 1 = -1 then (-3 : Int32) else xfI (xprs (g (35 + 2 * xN x + 1)) (xN (g (35 + 2 * xN x) 1))).1) else -1))) := by
  obtain ⟨hb, hp, hR, htx, ⟨hs, hm⟩, hD, hK, hZ, hY⟩ := hI
  obtain ⟨hb1, hb2⟩ := xro_b hb
  have hq := xb2 hb
  have hbv : b.1 = 7 ∨ b.1 = 11 := by omega
  have hbw : b.2 = 7 ∨ b.2 = 11 := by omega
  have eG : g b.1 2 = nI G := hR.1.1
  have hG6 : G ≤ 6 := hR.1.2
  have eT : g b.1 4 = nI T := hR.2.1.1
  have hT8 : T ≤ 8 := hR.2.1.2
  by_cases hx : 0 ≤ x ∧ x < 4
  · rw [if_pos hx]
    obtain ⟨t, ht, rfl⟩ := xin (n := 4) (by omega) hx
    rw [xN_nI (by omega)]
    rcases hY t ht with e | ⟨m1, hm1, e⟩
    · rw [if_pos e]
      exact (c_X11_fault_no ht e).weak (fun r M w => w.2)
    · rw [e, if_neg (nI_nm1 (by omega)), xN_nI (by omega)]
      exact (c_X11_fault_ok ht e hm1 rfl hb2 (by omega)).weak (fun r M w => by obtain ⟨_, _, _, e3⟩ := w; exact e3)
  · rw [if_neg hx]
    exact (c_X11_fault_bad hx).weak (fun r M w => w.2)
theorem eb_fault (hI : xIc b g G T Lw m) (hJ : xIr b g G T Lw m) : xT 10 176 [.ref 73, .int x] (xH b g l) (fun r _ => r = some (.int (if 0 ≤ x ∧ x < 4 then (if g (35 + 2 * xN x) 1 = -1 then (-3 : Int32) else xfI (xprs (g (35 + 2 * xN x + 1)) (xN (g (35 + 2 * xN x) 1))).1) else -1))) := by
  obtain ⟨hb, hp, hRm, htx, ⟨_, hm⟩, hDk, hK, hZc, hY⟩ := hI
  obtain ⟨hR, hs, hD, hKr, hZ, hYr⟩ := hJ
  have eG : g 73 10 = nI G := hR.1.1
  have hG6 : G ≤ 6 := hR.1.2
  have hT8 : T ≤ 8 := hR.2.1.2
  have hZ6 : ∀ q, q < 6 → xsz (g 74 q) 60 := fun q h => (hZ q h).elim Or.inl (fun ⟨n, a1, a2⟩ => Or.inr ⟨n, by omega, a2⟩)
  have hY6 : ∀ q, q < 4 → xsz (g 76 q) 60 := fun q h => by rw [(hYr q h).1]; exact hY q h
  have hK6 : ∀ q, q < 3 → xsz (g 86 q) 60 := fun q h => by
    rw [(hKr q h).1]
    rcases hK q h with z | ⟨n, z1, z2, _⟩
    · exact Or.inl z
    · exact Or.inr ⟨n, by omega, z2⟩
  by_cases hx : 0 ≤ x ∧ x < 4
  · rw [if_pos hx]
    obtain ⟨t, ht, rfl⟩ := xin (n := 4) (by omega) hx
    rw [xN_nI (by omega)]
    rcases hY t ht with e | ⟨m1, hm1, e⟩
    · rw [if_pos e]
      exact (c_X12_fault_no ht (by rw [(hYr t ht).1]; exact e)).weak (fun r M w => w.2)
    · rw [e, if_neg (nI_nm1 (by omega)), xN_nI (by omega)]
      exact (c_X12_fault_ok (f := g (35 + 2 * t + 1)) ht (by rw [(hYr t ht).1]; exact e) hm1 ((hYr t ht).2 m1 hm1 e)).weak (fun r M w => by obtain ⟨_, _, _, e3⟩ := w; exact e3)
  · rw [if_neg hx]
    exact (c_X12_fault_bad hx).weak (fun r M w => w.2)
theorem ea_glass (hI : xIc b g G T Lw m) : xT 10 88 [.ref 0, .int x, .int y] (xH b g l) (fun r _ => r = some (.int (if (0 ≤ x ∧ x < nI G) ∧ 0 ≤ y ∧ y ≤ 3 then (1 : Int32) else -1))) := by
  obtain ⟨hb, hp, hR, htx, ⟨hs, hm⟩, hD, hK, hZ, hY⟩ := hI
  obtain ⟨hb1, hb2⟩ := xro_b hb
  have hq := xb2 hb
  have hbv : b.1 = 7 ∨ b.1 = 11 := by omega
  have hbw : b.2 = 7 ∨ b.2 = 11 := by omega
  have eG : g b.1 2 = nI G := hR.1.1
  have hG6 : G ≤ 6 := hR.1.2
  have eT : g b.1 4 = nI T := hR.2.1.1
  have hT8 : T ≤ 8 := hR.2.1.2
  by_cases hx : (0 ≤ x ∧ x < nI G) ∧ 0 ≤ y ∧ y ≤ 3
  · rw [if_pos hx]
    obtain ⟨s, hk, rfl⟩ := xin (n := G) (by omega) hx.1
    obtain ⟨t, ht, rfl⟩ := xinl (n := 3) (by omega) hx.2
    exact (c_X11_glass_ok hb1 hR hp hs hm hk (by omega)).weak (fun r M w => w.2)
  · rw [if_neg hx]
    exact (c_X11_glass_bad hb1 (by rw [eG]; exact hx)).weak (fun r M w => w.2)
theorem eb_glass (hI : xIc b g G T Lw m) (hJ : xIr b g G T Lw m) : xT 10 187 [.ref 73, .int x, .int y] (xH b g l) (fun r _ => r = some (.int (if (0 ≤ x ∧ x < nI G) ∧ 0 ≤ y ∧ y ≤ 3 then (1 : Int32) else -1))) := by
  obtain ⟨hb, hp, hRm, htx, ⟨_, hm⟩, hDk, hK, hZc, hY⟩ := hI
  obtain ⟨hR, hs, hD, hKr, hZ, hYr⟩ := hJ
  have eG : g 73 10 = nI G := hR.1.1
  have hG6 : G ≤ 6 := hR.1.2
  have hT8 : T ≤ 8 := hR.2.1.2
  have hZ6 : ∀ q, q < 6 → xsz (g 74 q) 60 := fun q h => (hZ q h).elim Or.inl (fun ⟨n, a1, a2⟩ => Or.inr ⟨n, by omega, a2⟩)
  have hY6 : ∀ q, q < 4 → xsz (g 76 q) 60 := fun q h => by rw [(hYr q h).1]; exact hY q h
  have hK6 : ∀ q, q < 3 → xsz (g 86 q) 60 := fun q h => by
    rw [(hKr q h).1]
    rcases hK q h with z | ⟨n, z1, z2, _⟩
    · exact Or.inl z
    · exact Or.inr ⟨n, by omega, z2⟩
  by_cases hx : (0 ≤ x ∧ x < nI G) ∧ 0 ≤ y ∧ y ≤ 3
  · rw [if_pos hx]
    obtain ⟨s, hk, rfl⟩ := xin (n := G) (by omega) hx.1
    obtain ⟨t, ht, rfl⟩ := xinl (n := 3) (by omega) hx.2
    rcases (show t = 0 ∨ t = 1 ∨ t = 2 ∨ t = 3 by omega) with rfl | rfl | rfl | rfl
    · exact (c_X12_glass_0 hR hk hD hm hs).weak (fun r M w => w.2)
    · exact (c_X12_glass_1 hR hk hD hm hs).weak (fun r M w => w.2)
    · exact (c_X12_glass_2 hR hk hD hm hs).weak (fun r M w => w.2)
    · exact (c_X12_glass_3 hR hk hD hm hs).weak (fun r M w => w.2)
  · rw [if_neg hx]
    exact (c_X12_glass_bad hR hx).weak (fun r M w => w.2)
theorem ea_habit (hI : xIc b g G T Lw m) : xT 10 90 [.ref 0, .int x] (xH b g l) (fun r _ => r = some (.int (if 0 ≤ x ∧ x < 6 then g (b.1 + 1) (xN x) else -1))) := by
  obtain ⟨hb, hp, hR, htx, ⟨hs, hm⟩, hD, hK, hZ, hY⟩ := hI
  obtain ⟨hb1, hb2⟩ := xro_b hb
  have hq := xb2 hb
  have hbv : b.1 = 7 ∨ b.1 = 11 := by omega
  have hbw : b.2 = 7 ∨ b.2 = 11 := by omega
  have eG : g b.1 2 = nI G := hR.1.1
  have hG6 : G ≤ 6 := hR.1.2
  have eT : g b.1 4 = nI T := hR.2.1.1
  have hT8 : T ≤ 8 := hR.2.1.2
  by_cases hx : 0 ≤ x ∧ x < 6
  · rw [if_pos hx]
    obtain ⟨t, ht, rfl⟩ := xin (n := 6) (by omega) hx
    rw [xN_nI (by omega)]
    exact (c_X11_habit_ok hb1 ht).weak (fun r M w => w.2)
  · rw [if_neg hx]
    exact (c_X11_habit_bad hx).weak (fun r M w => w.2)
theorem eb_habit (hI : xIc b g G T Lw m) (hJ : xIr b g G T Lw m) : xT 10 189 [.ref 73, .int x] (xH b g l) (fun r _ => r = some (.int (if 0 ≤ x ∧ x < 6 then g (b.1 + 1) (xN x) else -1))) := by
  obtain ⟨hb, hp, hRm, htx, ⟨_, hm⟩, hDk, hK, hZc, hY⟩ := hI
  obtain ⟨hR, hs, hD, hKr, hZ, hYr⟩ := hJ
  have eG : g 73 10 = nI G := hR.1.1
  have hG6 : G ≤ 6 := hR.1.2
  have hT8 : T ≤ 8 := hR.2.1.2
  have hZ6 : ∀ q, q < 6 → xsz (g 74 q) 60 := fun q h => (hZ q h).elim Or.inl (fun ⟨n, a1, a2⟩ => Or.inr ⟨n, by omega, a2⟩)
  have hY6 : ∀ q, q < 4 → xsz (g 76 q) 60 := fun q h => by rw [(hYr q h).1]; exact hY q h
  have hK6 : ∀ q, q < 3 → xsz (g 86 q) 60 := fun q h => by
    rw [(hKr q h).1]
    rcases hK q h with z | ⟨n, z1, z2, _⟩
    · exact Or.inl z
    · exact Or.inr ⟨n, by omega, z2⟩
  by_cases hx : 0 ≤ x ∧ x < 6
  · rw [if_pos hx]
    obtain ⟨t, ht, rfl⟩ := xin (n := 6) (by omega) hx
    rw [xN_nI (by omega)]
    exact (c_X12_habit_ok hR ht).weak (fun r M w => w.2)
  · rw [if_neg hx]
    exact (c_X12_habit_bad hx).weak (fun r M w => w.2)
theorem ea_term (hI : xIc b g G T Lw m) : xT 10 91 [.ref 0, .int x, .int y] (xH b g l) (fun r _ => r = some (.int (if (0 ≤ x ∧ x < nI T) ∧ 0 ≤ y ∧ y ≤ 1 then g (b.1 + 3) (2 * xN x + xN y) else -1))) := by
  obtain ⟨hb, hp, hR, htx, ⟨hs, hm⟩, hD, hK, hZ, hY⟩ := hI
  obtain ⟨hb1, hb2⟩ := xro_b hb
  have hq := xb2 hb
  have hbv : b.1 = 7 ∨ b.1 = 11 := by omega
  have hbw : b.2 = 7 ∨ b.2 = 11 := by omega
  have eG : g b.1 2 = nI G := hR.1.1
  have hG6 : G ≤ 6 := hR.1.2
  have eT : g b.1 4 = nI T := hR.2.1.1
  have hT8 : T ≤ 8 := hR.2.1.2
  by_cases hx : (0 ≤ x ∧ x < nI T) ∧ 0 ≤ y ∧ y ≤ 1
  · rw [if_pos hx]
    obtain ⟨d, hd, rfl⟩ := xin (n := T) (by omega) hx.1
    obtain ⟨t, ht, rfl⟩ := xinl (n := 1) (by omega) hx.2
    rw [xN_nI (by omega), xN_nI (by omega)]
    exact (c_X11_term_ok hb1 hR hp hd (by omega)).weak (fun r M w => w.2)
  · rw [if_neg hx]
    exact (c_X11_term_bad hb1 (by rw [eT]; exact hx)).weak (fun r M w => w.2)
theorem eb_term (hI : xIc b g G T Lw m) (hJ : xIr b g G T Lw m) : xT 10 190 [.ref 73, .int x, .int y] (xH b g l) (fun r _ => r = some (.int (if (0 ≤ x ∧ x < nI T) ∧ 0 ≤ y ∧ y ≤ 1 then g (b.1 + 3) (2 * xN x + xN y) else -1))) := by
  obtain ⟨hb, hp, hRm, htx, ⟨_, hm⟩, hDk, hK, hZc, hY⟩ := hI
  obtain ⟨hR, hs, hD, hKr, hZ, hYr⟩ := hJ
  have eG : g 73 10 = nI G := hR.1.1
  have hG6 : G ≤ 6 := hR.1.2
  have hT8 : T ≤ 8 := hR.2.1.2
  have hZ6 : ∀ q, q < 6 → xsz (g 74 q) 60 := fun q h => (hZ q h).elim Or.inl (fun ⟨n, a1, a2⟩ => Or.inr ⟨n, by omega, a2⟩)
  have hY6 : ∀ q, q < 4 → xsz (g 76 q) 60 := fun q h => by rw [(hYr q h).1]; exact hY q h
  have hK6 : ∀ q, q < 3 → xsz (g 86 q) 60 := fun q h => by
    rw [(hKr q h).1]
    rcases hK q h with z | ⟨n, z1, z2, _⟩
    · exact Or.inl z
    · exact Or.inr ⟨n, by omega, z2⟩
  by_cases hx : (0 ≤ x ∧ x < nI T) ∧ 0 ≤ y ∧ y ≤ 1
  · rw [if_pos hx]
    obtain ⟨d, hd, rfl⟩ := xin (n := T) (by omega) hx.1
    obtain ⟨t, ht, rfl⟩ := xinl (n := 1) (by omega) hx.2
    rw [xN_nI (by omega), xN_nI (by omega)]
    exact (c_X12_term_ok hR hd (by omega)).weak (fun r M w => w.2)
  · rw [if_neg hx]
    exact (c_X12_term_bad hR hx).weak (fun r M w => w.2)
theorem ea_deed (hI : xIc b g G T Lw m) : xT 10 93 [.ref 0, .int x, .int y] (xH b g l) (fun r _ => r = some (.int (if (0 ≤ x ∧ x < nI m) ∧ 0 ≤ y ∧ y ≤ 3 then (1 : Int32) else -1))) := by
  obtain ⟨hb, hp, hR, htx, ⟨hs, hm⟩, hD, hK, hZ, hY⟩ := hI
  obtain ⟨hb1, hb2⟩ := xro_b hb
  have hq := xb2 hb
  have hbv : b.1 = 7 ∨ b.1 = 11 := by omega
  have hbw : b.2 = 7 ∨ b.2 = 11 := by omega
  have eG : g b.1 2 = nI G := hR.1.1
  have hG6 : G ≤ 6 := hR.1.2
  have eT : g b.1 4 = nI T := hR.2.1.1
  have hT8 : T ≤ 8 := hR.2.1.2
  by_cases hx : (0 ≤ x ∧ x < nI m) ∧ 0 ≤ y ∧ y ≤ 3
  · rw [if_pos hx]
    obtain ⟨d, hd, rfl⟩ := xin (n := m) (by omega) hx.1
    obtain ⟨t, ht, rfl⟩ := xinl (n := 3) (by omega) hx.2
    exact (c_X11_deed_ok hs hm hd (by omega)).weak (fun r M w => w.2)
  · rw [if_neg hx]
    exact (c_X11_deed_bad (by rw [hs]; exact hx)).weak (fun r M w => w.2)
theorem eb_deed (hI : xIc b g G T Lw m) (hJ : xIr b g G T Lw m) : xT 10 193 [.ref 73, .int x, .int y] (xH b g l) (fun r _ => r = some (.int (if (0 ≤ x ∧ x < nI m) ∧ 0 ≤ y ∧ y ≤ 3 then (1 : Int32) else -1))) := by
  obtain ⟨hb, hp, hRm, htx, ⟨_, hm⟩, hDk, hK, hZc, hY⟩ := hI
  obtain ⟨hR, hs, hD, hKr, hZ, hYr⟩ := hJ
  have eG : g 73 10 = nI G := hR.1.1
  have hG6 : G ≤ 6 := hR.1.2
  have hT8 : T ≤ 8 := hR.2.1.2
  have hZ6 : ∀ q, q < 6 → xsz (g 74 q) 60 := fun q h => (hZ q h).elim Or.inl (fun ⟨n, a1, a2⟩ => Or.inr ⟨n, by omega, a2⟩)
  have hY6 : ∀ q, q < 4 → xsz (g 76 q) 60 := fun q h => by rw [(hYr q h).1]; exact hY q h
  have hK6 : ∀ q, q < 3 → xsz (g 86 q) 60 := fun q h => by
    rw [(hKr q h).1]
    rcases hK q h with z | ⟨n, z1, z2, _⟩
    · exact Or.inl z
    · exact Or.inr ⟨n, by omega, z2⟩
  by_cases hx : (0 ≤ x ∧ x < nI m) ∧ 0 ≤ y ∧ y ≤ 3
  · rw [if_pos hx]
    obtain ⟨d, hd, rfl⟩ := xin (n := m) (by omega) hx.1
    obtain ⟨t, ht, rfl⟩ := xinl (n := 3) (by omega) hx.2
    rcases (show t = 0 ∨ t = 1 ∨ t = 2 ∨ t = 3 by omega) with rfl | rfl | rfl | rfl
    · exact (c_X12_deed_0 hR hD hm hs hd).weak (fun r M w => w.2)
    · exact (c_X12_deed_1 hR hD hm hs hd).weak (fun r M w => w.2)
    · exact (c_X12_deed_2 hR hD hm hs hd).weak (fun r M w => w.2)
    · exact (c_X12_deed_3 hR hD hm hs hd).weak (fun r M w => w.2)
  · rw [if_neg hx]
    exact (c_X12_deed_bad hs hm hx).weak (fun r M w => w.2)
theorem ea_broken (hI : xIc b g G T Lw m) : xT 10 94 [.ref 0] (xH b g l) (fun r _ => r = some (.int (nI (xcnt (fun d => !decide (g 5 (4 * d + 3) = -9)) m)))) := by
  obtain ⟨hb, hp, hR, htx, ⟨hs, hm⟩, hD, hK, hZ, hY⟩ := hI
  obtain ⟨hb1, hb2⟩ := xro_b hb
  have hq := xb2 hb
  have hbv : b.1 = 7 ∨ b.1 = 11 := by omega
  have hbw : b.2 = 7 ∨ b.2 = 11 := by omega
  have eG : g b.1 2 = nI G := hR.1.1
  have hG6 : G ≤ 6 := hR.1.2
  have eT : g b.1 4 = nI T := hR.2.1.1
  have hT8 : T ≤ 8 := hR.2.1.2
  exact (c_X11_broken_ok hs hm).weak (fun r M w => w.2)
theorem eb_broken (hI : xIc b g G T Lw m) (hJ : xIr b g G T Lw m) : xT 10 195 [.ref 73] (xH b g l) (fun r _ => r = some (.int (nI (xcnt (fun d => !decide (g 5 (4 * d + 3) = -9)) m)))) := by
  obtain ⟨hb, hp, hRm, htx, ⟨_, hm⟩, hDk, hK, hZc, hY⟩ := hI
  obtain ⟨hR, hs, hD, hKr, hZ, hYr⟩ := hJ
  have eG : g 73 10 = nI G := hR.1.1
  have hG6 : G ≤ 6 := hR.1.2
  have hT8 : T ≤ 8 := hR.2.1.2
  have hZ6 : ∀ q, q < 6 → xsz (g 74 q) 60 := fun q h => (hZ q h).elim Or.inl (fun ⟨n, a1, a2⟩ => Or.inr ⟨n, by omega, a2⟩)
  have hY6 : ∀ q, q < 4 → xsz (g 76 q) 60 := fun q h => by rw [(hYr q h).1]; exact hY q h
  have hK6 : ∀ q, q < 3 → xsz (g 86 q) 60 := fun q h => by
    rw [(hKr q h).1]
    rcases hK q h with z | ⟨n, z1, z2, _⟩
    · exact Or.inl z
    · exact Or.inr ⟨n, by omega, z2⟩
  exact (c_X12_broken hR hD hm hs).weak (fun r M w => w.2)
theorem ea_keeps (hI : xIc b g G T Lw m) : xT 10 108 [.ref 0, .int x, .int y] (xH b g l) (fun r _ => r = some (.int (if (0 ≤ x ∧ x < nI G) ∧ 0 ≤ y ∧ y ≤ 5 then (1 : Int32) else -1))) := by
  obtain ⟨hb, hp, hR, htx, ⟨hs, hm⟩, hD, hK, hZ, hY⟩ := hI
  obtain ⟨hb1, hb2⟩ := xro_b hb
  have hq := xb2 hb
  have hbv : b.1 = 7 ∨ b.1 = 11 := by omega
  have hbw : b.2 = 7 ∨ b.2 = 11 := by omega
  have eG : g b.1 2 = nI G := hR.1.1
  have hG6 : G ≤ 6 := hR.1.2
  have eT : g b.1 4 = nI T := hR.2.1.1
  have hT8 : T ≤ 8 := hR.2.1.2
  by_cases hx : (0 ≤ x ∧ x < nI G) ∧ 0 ≤ y ∧ y ≤ 5
  · rw [if_pos hx]
    obtain ⟨s, hk, rfl⟩ := xin (n := G) (by omega) hx.1
    obtain ⟨n, hn, rfl⟩ := xinl (n := 5) (by omega) hx.2
    exact (c_X11_keeps_ok hb1 (by omega) hR hp hk hn).weak (fun r M w => by obtain ⟨_, _, _, e3⟩ := w; exact e3)
  · rw [if_neg hx]
    exact (c_X11_keeps_bad hb1 hR hx).weak (fun r M w => w.2)
theorem eb_keeps (hI : xIc b g G T Lw m) (hJ : xIr b g G T Lw m) : xT 10 219 [.ref 73, .int x, .int y] (xH b g l) (fun r _ => r = some (.int (if (0 ≤ x ∧ x < nI G) ∧ 0 ≤ y ∧ y ≤ 5 then (1 : Int32) else -1))) := by
  obtain ⟨hb, hp, hRm, htx, ⟨_, hm⟩, hDk, hK, hZc, hY⟩ := hI
  obtain ⟨hR, hs, hD, hKr, hZ, hYr⟩ := hJ
  have eG : g 73 10 = nI G := hR.1.1
  have hG6 : G ≤ 6 := hR.1.2
  have hT8 : T ≤ 8 := hR.2.1.2
  have hZ6 : ∀ q, q < 6 → xsz (g 74 q) 60 := fun q h => (hZ q h).elim Or.inl (fun ⟨n, a1, a2⟩ => Or.inr ⟨n, by omega, a2⟩)
  have hY6 : ∀ q, q < 4 → xsz (g 76 q) 60 := fun q h => by rw [(hYr q h).1]; exact hY q h
  have hK6 : ∀ q, q < 3 → xsz (g 86 q) 60 := fun q h => by
    rw [(hKr q h).1]
    rcases hK q h with z | ⟨n, z1, z2, _⟩
    · exact Or.inl z
    · exact Or.inr ⟨n, by omega, z2⟩
  by_cases hx : (0 ≤ x ∧ x < nI G) ∧ 0 ≤ y ∧ y ≤ 5
  · rw [if_pos hx]
    obtain ⟨s, hk, rfl⟩ := xin (n := G) (by omega) hx.1
    obtain ⟨n, hn, rfl⟩ := xinl (n := 5) (by omega) hx.2
    by_cases h0 : n = 0
    · exact (c_X12_keeps_0 hR hk hn h0).weak (fun r M w => by obtain ⟨_, _, _, e3⟩ := w; exact e3)
    · exact (c_X12_keeps_ok hR hk hn (by omega)).weak (fun r M w => by obtain ⟨_, _, _, e3⟩ := w; exact e3)
  · rw [if_neg hx]
    exact (c_X12_keeps_bad hR hx).weak (fun r M w => w.2)
theorem ea_mark (hI : xIc b g G T Lw m) : xT 10 89 [.ref 0, .int x, .int y] (xH b g l) (fun r _ => r = some (.int (if (0 ≤ x ∧ x < nI G) ∧ 1 ≤ y ∧ y ≤ 5 then (if xiso (Lw (xN x) / 4) y = false then (-3 : Int32) else (if xN y = 1 then (if Lw (xN x) % 4 = 0 then (-9 : Int32) else (xshw (g (b.1 + 1)) (Lw (xN x) / 4) (Lw (xN x) % 4) (fun i => xN (g 5 (4 * i)))) m) else if xN y = 2 then nI (xcnt (fun i => decide ((xshw (g (b.1 + 1)) (Lw (xN x) / 4) (Lw (xN x) % 4) (fun i => xN (g 5 (4 * i)))) i = 0)) m) else if xN y = 3 then nI (xcnt (fun q => decide (g (b.1 + 1) q = 0)) 6) else if xN y = 4 then 2 - nI (m % 3) else (if m % 2 = 1 then xmir (g (b.1 + 1) 0) else 0))) else -1))) := by
  obtain ⟨hb, hp, hR, htx, ⟨hs, hm⟩, hD, hK, hZ, hY⟩ := hI
  obtain ⟨hb1, hb2⟩ := xro_b hb
  have hq := xb2 hb
  have hbv : b.1 = 7 ∨ b.1 = 11 := by omega
  have hbw : b.2 = 7 ∨ b.2 = 11 := by omega
  have eG : g b.1 2 = nI G := hR.1.1
  have hG6 : G ≤ 6 := hR.1.2
  have eT : g b.1 4 = nI T := hR.2.1.1
  have hT8 : T ≤ 8 := hR.2.1.2
  by_cases hx : (0 ≤ x ∧ x < nI G) ∧ 1 ≤ y ∧ y ≤ 5
  · rw [if_pos hx]
    obtain ⟨s, hk, rfl⟩ := xin (n := G) (by omega) hx.1
    obtain ⟨t, ht1, ht, rfl⟩ := nI_1le hx.2
    rw [xN_nI (by omega), xN_nI (by omega)]
    cases hi : xiso (Lw s / 4) (nI t) with
    | false =>
      rw [if_pos rfl]
      exact (c_X11_mark_ref hb1 hR hp hs hm hk ht1 ht hi).weak (fun r M w => w.2)
    | true =>
      rw [if_neg (by decide)]
      rcases (show t = 1 ∨ t = 2 ∨ t = 3 ∨ t = 4 ∨ t = 5 by omega) with rfl | rfl | rfl | rfl | rfl
      · rw [if_pos rfl]
        exact (c_X11_mark_1 hb1 hR hp hs hm (xDk_x hD) hk hi).weak (fun r M w => w.2)
      · rw [if_neg (by decide), if_pos rfl]
        exact (c_X11_mark_2 hb1 hR hp hs hm (xDk_x hD) hk hi).weak (fun r M w => w.2)
      · rw [if_neg (by decide), if_neg (by decide), if_pos rfl]
        have k3 : Lw s / 4 = 3 := by
          have h24 := (hR.2.2.1 s hk).2
          rcases (show Lw s / 4 = 0 ∨ Lw s / 4 = 1 ∨ Lw s / 4 = 2 ∨ Lw s / 4 = 3 ∨ Lw s / 4 = 4 ∨ Lw s / 4 = 5 by omega) with z | z | z | z | z | z <;> rw [z] at hi <;> first | exact z | exact absurd hi (by decide)
        have e6 : nI (xcnt (fun q => decide (g (b.1 + 1) q = 0)) 6) = xbc (xbits (fun q => decide (xseen (g (b.1 + 1)) (Lw s / 4) m q = 0)) 6) := by
          rw [xbc_6, xcnt_congr (p := fun q => decide (g (b.1 + 1) q = 0)) (p' := fun q => decide (xseen (g (b.1 + 1)) (Lw s / 4) m q = 0)) (fun q hq => ?_)]
          rw [k3]
          show decide (g (b.1 + 1) q = 0) = decide (xmir (g (b.1 + 1) q) = 0)
          exact decide_eq_decide.mpr (xmir_0 (hR.2.2.2 q hq)).symm
        rw [e6]
        exact (c_X11_mark_3 hb1 hR hp hs hm (xDk_x hD) hk hi).weak (fun r M w => w.2)
      · rw [if_neg (by decide), if_neg (by decide), if_neg (by decide), if_pos rfl]
        exact (c_X11_mark_4 hb1 hR hp hs hm (xDk_x hD) hk hi).weak (fun r M w => w.2)
      · rw [if_neg (by decide), if_neg (by decide), if_neg (by decide), if_neg (by decide)]
        have k5 : Lw s / 4 = 5 := by
          have h24 := (hR.2.2.1 s hk).2
          rcases (show Lw s / 4 = 0 ∨ Lw s / 4 = 1 ∨ Lw s / 4 = 2 ∨ Lw s / 4 = 3 ∨ Lw s / 4 = 4 ∨ Lw s / 4 = 5 by omega) with z | z | z | z | z | z <;> rw [z] at hi <;> first | exact z | exact absurd hi (by decide)
        have e6 : (if m % 2 = 1 then xmir (g (b.1 + 1) 0) else 0) = xseen (g (b.1 + 1)) (Lw s / 4) m 0 := by
          rw [k5]
          unfold xseen xth
          by_cases e : m % 2 = 1
          · rw [if_pos e, decide_eq_true e]
            rfl
          · rw [if_neg e, decide_eq_false e]
            rfl
        rw [e6]
        exact (c_X11_mark_5 hb1 hR hp hs hm (xDk_x hD) hk hi).weak (fun r M w => w.2)
  · rw [if_neg hx]
    exact (c_X11_mark_bad hb1 (by rw [eG]; exact hx)).weak (fun r M w => w.2)
theorem eb_mark (hI : xIc b g G T Lw m) (hJ : xIr b g G T Lw m) : xT 10 188 [.ref 73, .int x, .int y] (xH b g l) (fun r _ => r = some (.int (if (0 ≤ x ∧ x < nI G) ∧ 1 ≤ y ∧ y ≤ 5 then (if xiso (Lw (xN x) / 4) y = false then (-3 : Int32) else (if xN y = 1 then (if Lw (xN x) % 4 = 0 then (-9 : Int32) else (xshw (g (b.1 + 1)) (Lw (xN x) / 4) (Lw (xN x) % 4) (fun i => xN (g 5 (4 * i)))) m) else if xN y = 2 then nI (xcnt (fun i => decide ((xshw (g (b.1 + 1)) (Lw (xN x) / 4) (Lw (xN x) % 4) (fun i => xN (g 5 (4 * i)))) i = 0)) m) else if xN y = 3 then nI (xcnt (fun q => decide (g (b.1 + 1) q = 0)) 6) else if xN y = 4 then 2 - nI (m % 3) else (if m % 2 = 1 then xmir (g (b.1 + 1) 0) else 0))) else -1))) := by
  obtain ⟨hb, hp, hRm, htx, ⟨_, hm⟩, hDk, hK, hZc, hY⟩ := hI
  obtain ⟨hR, hs, hD, hKr, hZ, hYr⟩ := hJ
  have eG : g 73 10 = nI G := hR.1.1
  have hG6 : G ≤ 6 := hR.1.2
  have hT8 : T ≤ 8 := hR.2.1.2
  have hZ6 : ∀ q, q < 6 → xsz (g 74 q) 60 := fun q h => (hZ q h).elim Or.inl (fun ⟨n, a1, a2⟩ => Or.inr ⟨n, by omega, a2⟩)
  have hY6 : ∀ q, q < 4 → xsz (g 76 q) 60 := fun q h => by rw [(hYr q h).1]; exact hY q h
  have hK6 : ∀ q, q < 3 → xsz (g 86 q) 60 := fun q h => by
    rw [(hKr q h).1]
    rcases hK q h with z | ⟨n, z1, z2, _⟩
    · exact Or.inl z
    · exact Or.inr ⟨n, by omega, z2⟩
  by_cases hx : (0 ≤ x ∧ x < nI G) ∧ 1 ≤ y ∧ y ≤ 5
  · rw [if_pos hx]
    obtain ⟨s, hk, rfl⟩ := xin (n := G) (by omega) hx.1
    obtain ⟨t, ht1, ht, rfl⟩ := nI_1le hx.2
    rw [xN_nI (by omega), xN_nI (by omega)]
    cases hi : xiso (Lw s / 4) (nI t) with
    | false =>
      rw [if_pos rfl]
      exact (c_X12_mark_ref hR hk ht1 ht hi).weak (fun r M w => w.2)
    | true =>
      rw [if_neg (by decide)]
      rcases (show t = 1 ∨ t = 2 ∨ t = 3 ∨ t = 4 ∨ t = 5 by omega) with rfl | rfl | rfl | rfl | rfl
      · rw [if_pos rfl]
        exact (c_X12_mark_1 hR hD hm hs hk hi).weak (fun r M w => w.2)
      · rw [if_neg (by decide), if_pos rfl]
        exact (c_X12_mark_2 hR hD hm hs hk hi).weak (fun r M w => w.2)
      · rw [if_neg (by decide), if_neg (by decide), if_pos rfl]
        exact (c_X12_mark_3 hR hD hm hs hk hi).weak (fun r M w => w.2)
      · rw [if_neg (by decide), if_neg (by decide), if_neg (by decide), if_pos rfl]
        exact (c_X12_mark_4 hR hD hm hs hk hi).weak (fun r M w => w.2)
      · rw [if_neg (by decide), if_neg (by decide), if_neg (by decide), if_neg (by decide)]
        exact (c_X12_mark_5 hR hD hm hs hk hi).weak (fun r M w => w.2)
  · rw [if_neg hx]
    exact (c_X12_mark_bad hR hx).weak (fun r M w => w.2)
theorem ea_still (hI : xIc b g G T Lw m) : xT 10 109 [.ref 0, .int x, .int y] (xH b g l) (fun r _ => r = some (.int (if (0 ≤ x ∧ x < nI G) ∧ 0 ≤ y ∧ y ≤ 5 then xfI (xfw (xnbc (g (b.1 + 1)) (g (b.1 + 3)) T (Lw (xN x) / 4) (Lw (xN x) % 4) (xN y)) (fun c => xcnt (fun i => decide (xd6 (xN y) c i = 0)) (xN y)) (6 ^ (xN y))) else -1))) := by
  obtain ⟨hb, hp, hR, htx, ⟨hs, hm⟩, hD, hK, hZ, hY⟩ := hI
  obtain ⟨hb1, hb2⟩ := xro_b hb
  have hq := xb2 hb
  have hbv : b.1 = 7 ∨ b.1 = 11 := by omega
  have hbw : b.2 = 7 ∨ b.2 = 11 := by omega
  have eG : g b.1 2 = nI G := hR.1.1
  have hG6 : G ≤ 6 := hR.1.2
  have eT : g b.1 4 = nI T := hR.2.1.1
  have hT8 : T ≤ 8 := hR.2.1.2
  by_cases hx : (0 ≤ x ∧ x < nI G) ∧ 0 ≤ y ∧ y ≤ 5
  · rw [if_pos hx]
    obtain ⟨s, hk, rfl⟩ := xin (n := G) (by omega) hx.1
    obtain ⟨n, hn, rfl⟩ := xinl (n := 5) (by omega) hx.2
    rw [xN_nI (by omega), xN_nI (by omega)]
    refine (c_X11_still_ok hb1 (by omega) hR hp hk hn).weak (fun r M w => ?_)
    obtain ⟨_, _, _, e3⟩ := w
    rw [e3, ← xFw_still hn]
    by_cases z : xPr (Lw s / 4) (Lw s % 4) n (xW (g (b.1 + 1)) (g (b.1 + 3)) T (Lw s / 4) (Lw s % 4) n (n + 2)) n = 0
    · rw [if_pos z, if_pos z]
      rfl
    · rw [if_neg z, if_neg z]
      rfl
  · rw [if_neg hx]
    exact (c_X11_still_bad hb1 hR hx).weak (fun r M w => w.2)
theorem eb_still (hI : xIc b g G T Lw m) (hJ : xIr b g G T Lw m) : xT 10 220 [.ref 73, .int x, .int y] (xH b g l) (fun r _ => r = some (.int (if (0 ≤ x ∧ x < nI G) ∧ 0 ≤ y ∧ y ≤ 5 then xfI (xfw (xnbc (g (b.1 + 1)) (g (b.1 + 3)) T (Lw (xN x) / 4) (Lw (xN x) % 4) (xN y)) (fun c => xcnt (fun i => decide (xd6 (xN y) c i = 0)) (xN y)) (6 ^ (xN y))) else -1))) := by
  obtain ⟨hb, hp, hRm, htx, ⟨_, hm⟩, hDk, hK, hZc, hY⟩ := hI
  obtain ⟨hR, hs, hD, hKr, hZ, hYr⟩ := hJ
  have eG : g 73 10 = nI G := hR.1.1
  have hG6 : G ≤ 6 := hR.1.2
  have hT8 : T ≤ 8 := hR.2.1.2
  have hZ6 : ∀ q, q < 6 → xsz (g 74 q) 60 := fun q h => (hZ q h).elim Or.inl (fun ⟨n, a1, a2⟩ => Or.inr ⟨n, by omega, a2⟩)
  have hY6 : ∀ q, q < 4 → xsz (g 76 q) 60 := fun q h => by rw [(hYr q h).1]; exact hY q h
  have hK6 : ∀ q, q < 3 → xsz (g 86 q) 60 := fun q h => by
    rw [(hKr q h).1]
    rcases hK q h with z | ⟨n, z1, z2, _⟩
    · exact Or.inl z
    · exact Or.inr ⟨n, by omega, z2⟩
  by_cases hx : (0 ≤ x ∧ x < nI G) ∧ 0 ≤ y ∧ y ≤ 5
  · rw [if_pos hx]
    obtain ⟨s, hk, rfl⟩ := xin (n := G) (by omega) hx.1
    obtain ⟨n, hn, rfl⟩ := xinl (n := 5) (by omega) hx.2
    rw [xN_nI (by omega), xN_nI (by omega)]
    exact (c_X12_still_ok hR hk hn).weak (fun r M w => by obtain ⟨_, _, _, e3⟩ := w; exact e3)
  · rw [if_neg hx]
    exact (c_X12_still_bad hR hx).weak (fun r M w => w.2)
theorem ea_game (hI : xIc b g G T Lw m) : xT 10 110 [.ref 0, .int x] (xH b g l) (fun r _ => r = some (.int (if 0 ≤ x ∧ x ≤ 3 then (if G = 0 then (-4 : Int32) else if (xfst (fun c => decide (xfst (fun i => !xsafe (g (b.1 + 1)) (g (b.1 + 3)) T G Lw (xd6 (xN x) c) i) (xN x) = none)) (6 ^ (xN x))) = none then 0 else 1) else -1))) := by
  obtain ⟨hb, hp, hR, htx, ⟨hs, hm⟩, hD, hK, hZ, hY⟩ := hI
  obtain ⟨hb1, hb2⟩ := xro_b hb
  have hq := xb2 hb
  have hbv : b.1 = 7 ∨ b.1 = 11 := by omega
  have hbw : b.2 = 7 ∨ b.2 = 11 := by omega
  have eG : g b.1 2 = nI G := hR.1.1
  have hG6 : G ≤ 6 := hR.1.2
  have eT : g b.1 4 = nI T := hR.2.1.1
  have hT8 : T ≤ 8 := hR.2.1.2
  by_cases hx : 0 ≤ x ∧ x ≤ 3
  · rw [if_pos hx]
    obtain ⟨n, hn, rfl⟩ := xinl (n := 3) (by omega) hx
    rw [xN_nI (by omega)]
    by_cases hg : G = 0
    · rw [if_pos hg]
      exact (c_X11_game_state hb1 hn (by rw [eG, hg]; rfl)).weak (fun r M w => w.2)
    · rw [if_neg hg]
      have hgg : ¬ g b.1 2 = 0 := fun z => hg (nI_inj (b := 0) (by omega) (by omega) (eG.symm.trans z))
      by_cases h0 : n = 0
      · subst h0
        rw [show (xfst (fun c => decide (xfst (fun i => !xsafe (g (b.1 + 1)) (g (b.1 + 3)) T G Lw (xd6 0 c) i) 0 = none)) (6 ^ 0)) = some 0 from rfl, if_neg (by intro z; cases z)]
        exact (c_X11_game_zero hb1 hgg).weak (fun r M w => w.2)
      · refine (c_X11_game_ok hb1 hR hp hbv hn (by omega) hgg).weak (fun r M w => ?_)
        obtain ⟨_, _, _, e3⟩ := w
        rw [e3, xlp_code (by omega) hn]
        cases (xfst (fun c => decide (xfst (fun i => !xsafe (g (b.1 + 1)) (g (b.1 + 3)) T G Lw (xd6 n c) i) n = none)) (6 ^ n)) <;> rfl
  · rw [if_neg hx]
    exact (c_X11_game_bad hx).weak (fun r M w => w.2)
theorem eb_game (hI : xIc b g G T Lw m) (hJ : xIr b g G T Lw m) : xT 10 223 [.ref 73, .int x] (xH b g l) (fun r _ => r = some (.int (if 0 ≤ x ∧ x ≤ 3 then (if G = 0 then (-4 : Int32) else if (xfst (fun c => decide (xfst (fun i => !xsafe (g (b.1 + 1)) (g (b.1 + 3)) T G Lw (xd6 (xN x) c) i) (xN x) = none)) (6 ^ (xN x))) = none then 0 else 1) else -1))) := by
  obtain ⟨hb, hp, hRm, htx, ⟨_, hm⟩, hDk, hK, hZc, hY⟩ := hI
  obtain ⟨hR, hs, hD, hKr, hZ, hYr⟩ := hJ
  have eG : g 73 10 = nI G := hR.1.1
  have hG6 : G ≤ 6 := hR.1.2
  have hT8 : T ≤ 8 := hR.2.1.2
  have hZ6 : ∀ q, q < 6 → xsz (g 74 q) 60 := fun q h => (hZ q h).elim Or.inl (fun ⟨n, a1, a2⟩ => Or.inr ⟨n, by omega, a2⟩)
  have hY6 : ∀ q, q < 4 → xsz (g 76 q) 60 := fun q h => by rw [(hYr q h).1]; exact hY q h
  have hK6 : ∀ q, q < 3 → xsz (g 86 q) 60 := fun q h => by
    rw [(hKr q h).1]
    rcases hK q h with z | ⟨n, z1, z2, _⟩
    · exact Or.inl z
    · exact Or.inr ⟨n, by omega, z2⟩
  by_cases hx : 0 ≤ x ∧ x ≤ 3
  · rw [if_pos hx]
    obtain ⟨n, hn, rfl⟩ := xinl (n := 3) (by omega) hx
    rw [xN_nI (by omega)]
    by_cases hg : G = 0
    · rw [if_pos hg]
      exact (c_X12_game_state hn (by rw [eG, hg]; rfl)).weak (fun r M w => w.2)
    · rw [if_neg hg]
      exact (c_X12_game_ok hR hn (by rw [eG]; exact fun z => hg (nI_inj (b := 0) (by omega) (by omega) z))).weak (fun r M w => by obtain ⟨_, _, _, e3⟩ := w; exact e3)
  · rw [if_neg hx]
    exact (c_X12_game_bad hx).weak (fun r M w => w.2)
theorem ea_picks (hI : xIc b g G T Lw m) : xT 10 111 [.ref 0, .int x] (xH b g l) (fun r _ => r = some (.int (if 1 ≤ x ∧ x ≤ 3 then (if G = 0 then (-4 : Int32) else match (xfst (fun c => decide (xfst (fun i => !xsafe (g (b.1 + 1)) (g (b.1 + 3)) T G Lw (xd6 (xN x) c) i) (xN x) = none)) (6 ^ (xN x))) with | none => -9 | some c => nI (xd6 (xN x) c 0)) else -1))) := by
  obtain ⟨hb, hp, hR, htx, ⟨hs, hm⟩, hD, hK, hZ, hY⟩ := hI
  obtain ⟨hb1, hb2⟩ := xro_b hb
  have hq := xb2 hb
  have hbv : b.1 = 7 ∨ b.1 = 11 := by omega
  have hbw : b.2 = 7 ∨ b.2 = 11 := by omega
  have eG : g b.1 2 = nI G := hR.1.1
  have hG6 : G ≤ 6 := hR.1.2
  have eT : g b.1 4 = nI T := hR.2.1.1
  have hT8 : T ≤ 8 := hR.2.1.2
  by_cases hx : 1 ≤ x ∧ x ≤ 3
  · rw [if_pos hx]
    obtain ⟨n, hn, rfl⟩ := xinl (n := 3) (by omega) ⟨Int32.le_trans (by decide) hx.1, hx.2⟩
    have h0 : 0 < n := (nI_leI (a := 1) (by omega) (by omega)).mp hx.1
    rw [xN_nI (by omega)]
    by_cases hg : G = 0
    · rw [if_pos hg]
      exact (c_X11_picks_state hb1 hn h0 (by rw [eG, hg]; rfl)).weak (fun r M w => w.2)
    · rw [if_neg hg]
      have hgg : ¬ g b.1 2 = 0 := fun z => hg (nI_inj (b := 0) (by omega) (by omega) (eG.symm.trans z))
      refine (c_X11_picks_ok hb1 hR hp hbv hn h0 hgg).weak (fun r M w => ?_)
      obtain ⟨_, _, _, e3⟩ := w
      rw [e3, xlp_code h0 hn]
      cases (xfst (fun c => decide (xfst (fun i => !xsafe (g (b.1 + 1)) (g (b.1 + 3)) T G Lw (xd6 n c) i) n = none)) (6 ^ n)) <;> rfl
  · rw [if_neg hx]
    exact (c_X11_picks_bad hx).weak (fun r M w => w.2)
theorem eb_picks (hI : xIc b g G T Lw m) (hJ : xIr b g G T Lw m) : xT 10 224 [.ref 73, .int x] (xH b g l) (fun r _ => r = some (.int (if 1 ≤ x ∧ x ≤ 3 then (if G = 0 then (-4 : Int32) else match (xfst (fun c => decide (xfst (fun i => !xsafe (g (b.1 + 1)) (g (b.1 + 3)) T G Lw (xd6 (xN x) c) i) (xN x) = none)) (6 ^ (xN x))) with | none => -9 | some c => nI (xd6 (xN x) c 0)) else -1))) := by
  obtain ⟨hb, hp, hRm, htx, ⟨_, hm⟩, hDk, hK, hZc, hY⟩ := hI
  obtain ⟨hR, hs, hD, hKr, hZ, hYr⟩ := hJ
  have eG : g 73 10 = nI G := hR.1.1
  have hG6 : G ≤ 6 := hR.1.2
  have hT8 : T ≤ 8 := hR.2.1.2
  have hZ6 : ∀ q, q < 6 → xsz (g 74 q) 60 := fun q h => (hZ q h).elim Or.inl (fun ⟨n, a1, a2⟩ => Or.inr ⟨n, by omega, a2⟩)
  have hY6 : ∀ q, q < 4 → xsz (g 76 q) 60 := fun q h => by rw [(hYr q h).1]; exact hY q h
  have hK6 : ∀ q, q < 3 → xsz (g 86 q) 60 := fun q h => by
    rw [(hKr q h).1]
    rcases hK q h with z | ⟨n, z1, z2, _⟩
    · exact Or.inl z
    · exact Or.inr ⟨n, by omega, z2⟩
  by_cases hx : 1 ≤ x ∧ x ≤ 3
  · rw [if_pos hx]
    obtain ⟨n, hn, rfl⟩ := xinl (n := 3) (by omega) ⟨Int32.le_trans (by decide) hx.1, hx.2⟩
    have h0 : 0 < n := (nI_leI (a := 1) (by omega) (by omega)).mp hx.1
    rw [xN_nI (by omega)]
    by_cases hg : G = 0
    · rw [if_pos hg]
      exact (c_X12_picks_state hn h0 (by rw [eG, hg]; rfl)).weak (fun r M w => w.2)
    · rw [if_neg hg]
      exact (c_X12_picks_ok hR hn h0 (by rw [eG]; exact fun z => hg (nI_inj (b := 0) (by omega) (by omega) z))).weak (fun r M w => by obtain ⟨_, _, _, e3⟩ := w; exact e3)
  · rw [if_neg hx]
    exact (c_X12_picks_bad hx).weak (fun r M w => w.2)
theorem j_row (hJ : xJ b g) : xJ2 Value.int True 78 158 [.int x, .int y] b g l := by
  have hJ0 := hJ
  obtain ⟨G, T, Lw, m, hI, hr⟩ := hJ
  have hq := xb2 hI.1
  refine xJ2.lightE hJ0 (k_row hI) (fun g1 l1 h => ?_) (ea_row hI) (fun g1 l1 hA => ?_)
  · obtain ⟨G, T, Lw, m, h1, h2⟩ := h
    exact q_row h1 h2
  · have e := eb_row (x := x) (y := y) (l := l1) (xIc_ag hA hI) (xIr_ag hI.1 hA hr)
    exact e
theorem j_lay (hJ : xJ b g) : xJ2 Value.int False 79 160 [.int x, .int i, .int v] b g l := by
  refine xJ2.light hJ ?_ (fun g1 l1 h => ?_)
  · obtain ⟨G, T, Lw, m, h1, _⟩ := hJ
    exact k_lay h1
  · obtain ⟨G, T, Lw, m, h1, h2⟩ := h
    exact q_lay h1 h2
theorem j_at (hJ : xJ b g) : xJ2 Value.int False 80 161 [.int x, .int i] b g l := by
  refine xJ2.light hJ ?_ (fun g1 l1 h => ?_)
  · obtain ⟨G, T, Lw, m, h1, _⟩ := hJ
    exact k_at h1
  · obtain ⟨G, T, Lw, m, h1, h2⟩ := h
    exact q_at h1 h2
theorem j_tear (hJ : xJ b g) : xJ2 Value.int False 81 162 [.int x] b g l := by
  refine xJ2.light hJ ?_ (fun g1 l1 h => ?_)
  · obtain ⟨G, T, Lw, m, h1, _⟩ := hJ
    exact k_tear h1
  · obtain ⟨G, T, Lw, m, h1, h2⟩ := h
    exact q_tear h1 h2
theorem j_copy (hJ : xJ b g) : xJ2 Value.int False 82 164 [.int x, .int i, .int y, .int j, .int z] b g l := by
  refine xJ2.light hJ ?_ (fun g1 l1 h => ?_)
  · obtain ⟨G, T, Lw, m, h1, _⟩ := hJ
    exact k_copy h1
  · obtain ⟨G, T, Lw, m, h1, h2⟩ := h
    exact q_copy h1 h2
theorem j_mean (hJ : xJ b g) : xJ2 Value.int False 83 165 [.int x] b g l := by
  refine xJ2.light hJ ?_ (fun g1 l1 h => ?_)
  · obtain ⟨G, T, Lw, m, h1, _⟩ := hJ
    exact k_mean h1
  · obtain ⟨G, T, Lw, m, h1, h2⟩ := h
    exact q_mean h1 h2
theorem j_fault (hJ : xJ b g) : xJ2 Value.int True 86 176 [.int x] b g l := by
  have hJ0 := hJ
  obtain ⟨G, T, Lw, m, hI, hr⟩ := hJ
  have hq := xb2 hI.1
  refine xJ2.lightE hJ0 (k_fault hI) (fun g1 l1 h => ?_) (ea_fault hI) (fun g1 l1 hA => ?_)
  · obtain ⟨G, T, Lw, m, h1, h2⟩ := h
    exact q_fault h1 h2
  · have e := eb_fault (x := x) (l := l1) (xIc_ag hA hI) (xIr_ag hI.1 hA hr)
    by_cases hx : 0 ≤ x ∧ x < 4
    · obtain ⟨t, ht, rfl⟩ := xin (n := 4) (by omega) hx
      rw [xN_nI (by omega)] at e ⊢
      rw [hA.1 (35 + 2 * t) (by unfold xSc; omega) (by unfold xSz; omega), hA.1 (35 + 2 * t + 1) (by unfold xSc; omega) (by unfold xSz; omega)] at e
      exact e
    · rw [if_neg hx] at e ⊢
      exact e
theorem j_glass (hJ : xJ b g) : xJ2 Value.int True 88 187 [.int x, .int y] b g l := by
  have hJ0 := hJ
  obtain ⟨G, T, Lw, m, hI, hr⟩ := hJ
  have hq := xb2 hI.1
  refine xJ2.lightE hJ0 (k_glass hI) (fun g1 l1 h => ?_) (ea_glass hI) (fun g1 l1 hA => ?_)
  · obtain ⟨G, T, Lw, m, h1, h2⟩ := h
    exact q_glass h1 h2
  · have e := eb_glass (x := x) (y := y) (l := l1) (xIc_ag hA hI) (xIr_ag hI.1 hA hr)
    exact e
theorem j_mark (hJ : xJ b g) : xJ2 Value.int True 89 188 [.int x, .int y] b g l := by
  have hJ0 := hJ
  obtain ⟨G, T, Lw, m, hI, hr⟩ := hJ
  have hq := xb2 hI.1
  refine xJ2.lightE hJ0 (k_mark hI) (fun g1 l1 h => ?_) (ea_mark hI) (fun g1 l1 hA => ?_)
  · obtain ⟨G, T, Lw, m, h1, h2⟩ := h
    exact q_mark h1 h2
  · have e := eb_mark (x := x) (y := y) (l := l1) (xIc_ag hA hI) (xIr_ag hI.1 hA hr)
    rw [hA.1 (b.1 + 1) (by unfold xSc; omega) (by unfold xSz; omega), hA.1 5 (by unfold xSc; omega) (by unfold xSz; omega)] at e
    exact e
theorem j_habit (hJ : xJ b g) : xJ2 Value.int True 90 189 [.int x] b g l := by
  have hJ0 := hJ
  obtain ⟨G, T, Lw, m, hI, hr⟩ := hJ
  have hq := xb2 hI.1
  refine xJ2.lightE hJ0 (k_habit hI) (fun g1 l1 h => ?_) (ea_habit hI) (fun g1 l1 hA => ?_)
  · obtain ⟨G, T, Lw, m, h1, h2⟩ := h
    exact q_habit h1 h2
  · have e := eb_habit (x := x) (l := l1) (xIc_ag hA hI) (xIr_ag hI.1 hA hr)
    rw [hA.1 (b.1 + 1) (by unfold xSc; omega) (by unfold xSz; omega)] at e
    exact e
theorem j_term (hJ : xJ b g) : xJ2 Value.int True 91 190 [.int x, .int y] b g l := by
  have hJ0 := hJ
  obtain ⟨G, T, Lw, m, hI, hr⟩ := hJ
  have hq := xb2 hI.1
  refine xJ2.lightE hJ0 (k_term hI) (fun g1 l1 h => ?_) (ea_term hI) (fun g1 l1 hA => ?_)
  · obtain ⟨G, T, Lw, m, h1, h2⟩ := h
    exact q_term h1 h2
  · have e := eb_term (x := x) (y := y) (l := l1) (xIc_ag hA hI) (xIr_ag hI.1 hA hr)
    rw [hA.1 (b.1 + 3) (by unfold xSc; omega) (by unfold xSz; omega)] at e
    exact e
theorem j_deed (hJ : xJ b g) : xJ2 Value.int True 93 193 [.int x, .int y] b g l := by
  have hJ0 := hJ
  obtain ⟨G, T, Lw, m, hI, hr⟩ := hJ
  have hq := xb2 hI.1
  refine xJ2.lightE hJ0 (k_deed hI) (fun g1 l1 h => ?_) (ea_deed hI) (fun g1 l1 hA => ?_)
  · obtain ⟨G, T, Lw, m, h1, h2⟩ := h
    exact q_deed h1 h2
  · have e := eb_deed (x := x) (y := y) (l := l1) (xIc_ag hA hI) (xIr_ag hI.1 hA hr)
    exact e
theorem j_broken (hJ : xJ b g) : xJ2 Value.int True 94 195 [] b g l := by
  have hJ0 := hJ
  obtain ⟨G, T, Lw, m, hI, hr⟩ := hJ
  have hq := xb2 hI.1
  refine xJ2.lightE hJ0 (k_broken hI) (fun g1 l1 h => ?_) (ea_broken hI) (fun g1 l1 hA => ?_)
  · obtain ⟨G, T, Lw, m, h1, h2⟩ := h
    exact q_broken h1 h2
  · have e := eb_broken (l := l1) (xIc_ag hA hI) (xIr_ag hI.1 hA hr)
    rw [hA.1 5 (by unfold xSc; omega) (by unfold xSz; omega)] at e
    exact e
theorem j_show (hJ : xJ b g) : xJ2 Value.int False 98 202 [.int x, .int y, .int z] b g l := by
  refine xJ2.light hJ ?_ (fun g1 l1 h => ?_)
  · obtain ⟨G, T, Lw, m, h1, _⟩ := hJ
    exact k_show h1
  · obtain ⟨G, T, Lw, m, h1, h2⟩ := h
    exact q_show h1 h2
theorem j_breaks (hJ : xJ b g) : xJ2 Value.int False 99 204 [.int x, .int y] b g l := by
  refine xJ2.light hJ ?_ (fun g1 l1 h => ?_)
  · obtain ⟨G, T, Lw, m, h1, _⟩ := hJ
    exact k_breaks h1
  · obtain ⟨G, T, Lw, m, h1, h2⟩ := h
    exact q_breaks h1 h2
theorem j_alike (hJ : xJ b g) : xJ2 Value.int False 100 205 [.int x, .int y] b g l := by
  refine xJ2.light hJ ?_ (fun g1 l1 h => ?_)
  · obtain ⟨G, T, Lw, m, h1, _⟩ := hJ
    exact k_alike h1
  · obtain ⟨G, T, Lw, m, h1, h2⟩ := h
    exact q_alike h1 h2
theorem j_fit (hJ : xJ b g) : xJ2 Value.int False 101 206 [.int x, .int y] b g l := by
  refine xJ2.light hJ ?_ (fun g1 l1 h => ?_)
  · obtain ⟨G, T, Lw, m, h1, _⟩ := hJ
    exact k_fit h1
  · obtain ⟨G, T, Lw, m, h1, h2⟩ := h
    exact q_fit h1 h2
theorem j_ways (hJ : xJ b g) : xJ2 Value.int False 102 210 [.int x, .int y] b g l := by
  refine xJ2.light hJ ?_ (fun g1 l1 h => ?_)
  · obtain ⟨G, T, Lw, m, h1, _⟩ := hJ
    exact k_ways h1
  · obtain ⟨G, T, Lw, m, h1, h2⟩ := h
    exact q_ways h1 h2
theorem j_first (hJ : xJ b g) : xJ2 Value.int False 103 211 [.int x, .int y, .int z] b g l := by
  refine xJ2.light hJ ?_ (fun g1 l1 h => ?_)
  · obtain ⟨G, T, Lw, m, h1, _⟩ := hJ
    exact k_first h1
  · obtain ⟨G, T, Lw, m, h1, h2⟩ := h
    exact q_first h1 h2
theorem j_can (hJ : xJ b g) : xJ2 Value.int False 104 212 [.int x, .int y, .int z] b g l := by
  refine xJ2.light hJ ?_ (fun g1 l1 h => ?_)
  · obtain ⟨G, T, Lw, m, h1, _⟩ := hJ
    exact k_can h1
  · obtain ⟨G, T, Lw, m, h1, h2⟩ := h
    exact q_can h1 h2
theorem j_laws (hJ : xJ b g) : xJ2 Value.int False 105 214 [.int x, .int y] b g l := by
  refine xJ2.light hJ ?_ (fun g1 l1 h => ?_)
  · obtain ⟨G, T, Lw, m, h1, _⟩ := hJ
    exact k_laws h1
  · obtain ⟨G, T, Lw, m, h1, h2⟩ := h
    exact q_laws h1 h2
theorem j_next (hJ : xJ b g) : xJ2 Value.int False 106 216 [.int x, .int y] b g l := by
  refine xJ2.light hJ ?_ (fun g1 l1 h => ?_)
  · obtain ⟨G, T, Lw, m, h1, _⟩ := hJ
    exact k_next h1
  · obtain ⟨G, T, Lw, m, h1, h2⟩ := h
    exact q_next h1 h2
theorem j_he (hJ : xJ b g) : xJ2 Value.int False 107 217 [.int x, .int y, .int z] b g l := by
  refine xJ2.light hJ ?_ (fun g1 l1 h => ?_)
  · obtain ⟨G, T, Lw, m, h1, _⟩ := hJ
    exact k_he h1
  · obtain ⟨G, T, Lw, m, h1, h2⟩ := h
    exact q_he h1 h2
theorem j_keeps (hJ : xJ b g) : xJ2 Value.int True 108 219 [.int x, .int y] b g l := by
  have hJ0 := hJ
  obtain ⟨G, T, Lw, m, hI, hr⟩ := hJ
  have hq := xb2 hI.1
  refine xJ2.lightE hJ0 (k_keeps hI) (fun g1 l1 h => ?_) (ea_keeps hI) (fun g1 l1 hA => ?_)
  · obtain ⟨G, T, Lw, m, h1, h2⟩ := h
    exact q_keeps h1 h2
  · have e := eb_keeps (x := x) (y := y) (l := l1) (xIc_ag hA hI) (xIr_ag hI.1 hA hr)
    exact e
theorem j_still (hJ : xJ b g) : xJ2 Value.int True 109 220 [.int x, .int y] b g l := by
  have hJ0 := hJ
  obtain ⟨G, T, Lw, m, hI, hr⟩ := hJ
  have hq := xb2 hI.1
  refine xJ2.lightE hJ0 (k_still hI) (fun g1 l1 h => ?_) (ea_still hI) (fun g1 l1 hA => ?_)
  · obtain ⟨G, T, Lw, m, h1, h2⟩ := h
    exact q_still h1 h2
  · have e := eb_still (x := x) (y := y) (l := l1) (xIc_ag hA hI) (xIr_ag hI.1 hA hr)
    rw [hA.1 (b.1 + 1) (by unfold xSc; omega) (by unfold xSz; omega), hA.1 (b.1 + 3) (by unfold xSc; omega) (by unfold xSz; omega)] at e
    exact e
theorem j_game (hJ : xJ b g) : xJ2 Value.int True 110 223 [.int x] b g l := by
  have hJ0 := hJ
  obtain ⟨G, T, Lw, m, hI, hr⟩ := hJ
  have hq := xb2 hI.1
  refine xJ2.lightE hJ0 (k_game hI) (fun g1 l1 h => ?_) (ea_game hI) (fun g1 l1 hA => ?_)
  · obtain ⟨G, T, Lw, m, h1, h2⟩ := h
    exact q_game h1 h2
  · have e := eb_game (x := x) (l := l1) (xIc_ag hA hI) (xIr_ag hI.1 hA hr)
    rw [hA.1 (b.1 + 1) (by unfold xSc; omega) (by unfold xSz; omega), hA.1 (b.1 + 3) (by unfold xSc; omega) (by unfold xSz; omega)] at e
    exact e
theorem j_picks (hJ : xJ b g) : xJ2 Value.int True 111 224 [.int x] b g l := by
  have hJ0 := hJ
  obtain ⟨G, T, Lw, m, hI, hr⟩ := hJ
  have hq := xb2 hI.1
  refine xJ2.lightE hJ0 (k_picks hI) (fun g1 l1 h => ?_) (ea_picks hI) (fun g1 l1 hA => ?_)
  · obtain ⟨G, T, Lw, m, h1, h2⟩ := h
    exact q_picks h1 h2
  · have e := eb_picks (x := x) (l := l1) (xIc_ag hA hI) (xIr_ag hI.1 hA hr)
    rw [hA.1 (b.1 + 1) (by unfold xSc; omega) (by unfold xSz; omega), hA.1 (b.1 + 3) (by unfold xSc; omega) (by unfold xSz; omega)] at e
    exact e
theorem j_odds (hJ : xJ b g) : xJ2 Value.int False 112 225 [.int x, .int y, .int z] b g l := by
  refine xJ2.light hJ ?_ (fun g1 l1 h => ?_)
  · obtain ⟨G, T, Lw, m, h1, _⟩ := hJ
    exact k_odds h1
  · obtain ⟨G, T, Lw, m, h1, h2⟩ := h
    exact q_odds h1 h2
theorem j_mid (hJ : xJ b g) : xJ2 Value.int False 113 226 [.int x, .int y, .int z] b g l := by
  refine xJ2.light hJ ?_ (fun g1 l1 h => ?_)
  · obtain ⟨G, T, Lw, m, h1, _⟩ := hJ
    exact k_mid h1
  · obtain ⟨G, T, Lw, m, h1, h2⟩ := h
    exact q_mid h1 h2
theorem j_asked (hJ : xJ b g) : xJ2 Value.int False 115 228 [] b g l := by
  refine xJ2.light hJ ?_ (fun g1 l1 h => ?_)
  · obtain ⟨G, T, Lw, m, h1, _⟩ := hJ
    exact k_asked h1
  · obtain ⟨G, T, Lw, m, h1, h2⟩ := h
    exact q_asked h1 h2
theorem j_upper (hJ : xJ b g) : xJ2 Value.long False 116 229 [] b g l := by
  refine xJ2.light hJ ?_ (fun g1 l1 h => ?_)
  · obtain ⟨G, T, Lw, m, h1, _⟩ := hJ
    exact k_upper h1
  · obtain ⟨G, T, Lw, m, h1, h2⟩ := h
    exact q_upper h1 h2
theorem j_lower (hJ : xJ b g) : xJ2 Value.long False 117 230 [] b g l := by
  refine xJ2.light hJ ?_ (fun g1 l1 h => ?_)
  · obtain ⟨G, T, Lw, m, h1, _⟩ := hJ
    exact k_lower h1
  · obtain ⟨G, T, Lw, m, h1, h2⟩ := h
    exact q_lower h1 h2
theorem j_count (hJ : xJ b g) : xJ2 Value.int False 118 234 [.int x] b g l := by
  refine xJ2.light hJ ?_ (fun g1 l1 h => ?_)
  · obtain ⟨G, T, Lw, m, h1, _⟩ := hJ
    exact k_count h1
  · obtain ⟨G, T, Lw, m, h1, h2⟩ := h
    exact q_count h1 h2
theorem j_finding (hJ : xJ b g) : xJ2 Value.int False 119 235 [] b g l := by
  refine xJ2.light hJ ?_ (fun g1 l1 h => ?_)
  · obtain ⟨G, T, Lw, m, h1, _⟩ := hJ
    exact k_finding h1
  · obtain ⟨G, T, Lw, m, h1, h2⟩ := h
    exact q_finding h1 h2
theorem j_findings (hJ : xJ b g) : xJ2 Value.int False 120 236 [.int x] b g l := by
  refine xJ2.light hJ ?_ (fun g1 l1 h => ?_)
  · obtain ⟨G, T, Lw, m, h1, _⟩ := hJ
    exact k_findings h1
  · obtain ⟨G, T, Lw, m, h1, h2⟩ := h
    exact q_findings h1 h2
theorem j_digest (hJ : xJ b g) : xJ2 Value.long False 121 238 [] b g l := by
  refine xJ2.light hJ ?_ (fun g1 l1 h => ?_)
  · obtain ⟨G, T, Lw, m, h1, _⟩ := hJ
    exact k_digest h1
  · obtain ⟨G, T, Lw, m, h1, h2⟩ := h
    exact q_digest h1 h2
end
