/-! rows that change: both calls -/
section
variable {b : Nat × Nat} {g g' : Nat → Nat → Int32} {l : Nat → Nat → Int64} {G T m : Nat} {Lw : Nat → Nat} {x y z i j v : Int32}

theorem xfos_c {S : Int32} {f f' : Nat → Int32} {most : Nat} (hz : xsz S 40) (hf : ∀ n, n ≤ 40 → S = nI n → ∀ i, i < n → f' i = f i) : xfos S f' most = xfos S f most := by
  rcases hz with e | ⟨n, hn, e⟩
  · unfold xfos
    rw [if_pos e, if_pos e]
  · have h1 : xfst (xnst f') (xN S) = xfst (xnst f) (xN S) := xfst_congr (fun i hi => by
      rw [e, xN_nI (by omega)] at hi
      unfold xnst
      rw [hf n hn e i hi])
    unfold xfos
    rw [h1]
theorem xfop_c {S S' : Int32} {f f' h h' : Nat → Int32} {most : Nat} (hz : xsz S 40) (hz' : xsz S' 40) (hf : ∀ n, n ≤ 40 → S = nI n → ∀ i, i < n → f' i = f i) (hh : ∀ n, n ≤ 40 → S' = nI n → ∀ i, i < n → h' i = h i) : xfop S f' S' h' most = xfop S f S' h most := by
  unfold xfop
  rw [xfos_c hz hf, xfos_c hz' hh]
theorem xJ_rw (hI : xIc b g G T Lw m) (hJ : xIr b g G T Lw m) (e : ∀ a, (b.1 ≤ a ∧ a ≤ b.1 + 3) ∨ a = 4 ∨ a = 5 ∨ (35 ≤ a ∧ a < 73) ∨ (76 ≤ a ∧ a < 78) ∨ (81 ≤ a ∧ a < 89) → g' a = g a) (e73 : g' 73 10 = g 73 10 ∧ g' 73 12 = g 73 12 ∧ g' 73 14 = g 73 14) (hZ : ∀ r, r < 6 → xsz (g' (23 + 2 * r) 1) 40) (hQ : ∀ r, r < 6 → g' 74 r = g' (23 + 2 * r) 1 ∧ ∀ n, n ≤ 40 → g' (23 + 2 * r) 1 = nI n → ∀ i, i < n → g' 75 (40 * r + i) = g' (23 + 2 * r + 1) i) : xJ b g' := by
  have hY := hI.2.2.2.2.2.2.2.2
  have hYr := hJ.2.2.2.2.2
  refine ⟨G, T, Lw, m, xIc_f2 hI (fun a ha => e a (by omega)) hZ (fun r hr => by rw [e _ (by omega)]; exact hY r hr), xIr_f2 hJ (fun a ha => e a (by omega)) e73 hQ (fun t ht => ?_)⟩
  rw [e 76 (by omega), e 77 (by omega), e (35 + 2 * t) (by omega), e (35 + 2 * t + 1) (by omega)]
  exact hYr t ht

theorem j_row (hJ : xJ b g) : xJ2 Value.int True 78 158 [.int x, .int y] b g l := by
  have hJ1 := hJ
  obtain ⟨G, T, Lw, m, hI, hJr⟩ := hJ
  have hI0 := hI
  have hJ0 := hJr
  obtain ⟨hb, hp, hR, htx, ⟨hs, hm⟩, hD, hK, hZ, hY⟩ := hI
  obtain ⟨hRr, hsr, hDr, hKr, hZr, hYr⟩ := hJr
  obtain ⟨hb1, hb2⟩ := xro_b hb
  have hq := xb2 hb
  have hbv : b.1 = 7 ∨ b.1 = 11 := by omega
  have hbw : b.2 = 7 ∨ b.2 = 11 := by omega
  have eG : g b.1 2 = nI G := hR.1.1
  have hG6 : G ≤ 6 := hR.1.2
  have eGr : g 73 10 = nI G := hRr.1.1
  by_cases hx : (0 ≤ x ∧ x < 6) ∧ y ≤ 40
  · obtain ⟨t, ht, rfl⟩ := xin (n := 6) (by omega) hx.1
    by_cases hy : y < 0
    · exact xJ2.mk (c_X11_row_neg ht hy) (c_X12_row_neg ht hy) (xJ_ag (xAg_t (xAg_C hbw _) (xAg_R _)) hJ1) (fun _ => rfl)
    · obtain ⟨n, hn, rfl⟩ := xinl (n := 40) (by omega) ⟨Int32.not_lt.mp hy, hx.2⟩
      have e0 : ∀ a, a ≠ 74 → a ≠ 75 → a ≠ 23 + 2 * t → a ≠ 23 + 2 * t + 1 → gseg (up (gfill (up g (23 + 2 * t) 1 (nI n)) (23 + 2 * t + 1) n 0) 74 t (nI n)) 75 (40 * t) n (fun _ => 0) a = g a := fun a h1 h2 h3 h4 => by rw [gseg_na h2, up_na h1, gfill_na h4, up_na h3]
      have z1 : gseg (up (gfill (up g (23 + 2 * t) 1 (nI n)) (23 + 2 * t + 1) n 0) 74 t (nI n)) 75 (40 * t) n (fun _ => 0) (23 + 2 * t) 1 = nI n := by rw [gseg_na (by omega), up_na (by omega), gfill_na (by omega), up_same]
      have e73 := e0 73 (by decide) (by decide) (by omega) (by omega)
      refine xJ2.mk (c_X11_row_ok ht hn) (c_X12_row_ok ht hn) (xJ_rw hI0 hJ0 (fun a ha => e0 a (by omega) (by omega) (by omega) (by omega)) (by rw [e73]; exact ⟨rfl, rfl, rfl⟩) (fun r hr => ?_) (fun r hr => ?_)) (fun _ => rfl)
      · by_cases e : r = t
        · rw [e, z1]; exact xsz_nI hn
        · rw [e0 _ (by omega) (by omega) (by omega) (by omega)]; exact hZ r hr
      · by_cases e : r = t
        · subst e
          rw [z1]
          refine ⟨by rw [gseg_na (by decide), up_same], fun n' hn' en i hi => ?_⟩
          have e2 := nI_inj (by omega) (by omega) en
          subst e2
          rw [gseg_in hi, gseg_na (by omega), up_na (by omega), gfill_in hi]
        · rw [e0 (23 + 2 * r) (by omega) (by omega) (by omega) (by omega), e0 (23 + 2 * r + 1) (by omega) (by omega) (by omega) (by omega)]
          refine ⟨by rw [gseg_na (by decide), up_ne (Or.inr e), gfill_na (by omega), up_na (by omega)]; exact (hZr r hr).1, fun n' hn' en i hi => ?_⟩
          rw [gseg_out (by omega), up_na (by decide), gfill_na (by omega), up_na (by omega)]
          exact (hZr r hr).2 n' hn' en i hi
  · exact xJ2.mk (c_X11_row_bad hx) (c_X12_row_bad hx) (hJ1) (fun _ => rfl)

theorem j_lay (hJ : xJ b g) : xJ2 Value.int True 79 160 [.int x, .int i, .int v] b g l := by
  have hJ1 := hJ
  obtain ⟨G, T, Lw, m, hI, hJr⟩ := hJ
  have hI0 := hI
  have hJ0 := hJr
  obtain ⟨hb, hp, hR, htx, ⟨hs, hm⟩, hD, hK, hZ, hY⟩ := hI
  obtain ⟨hRr, hsr, hDr, hKr, hZr, hYr⟩ := hJr
  obtain ⟨hb1, hb2⟩ := xro_b hb
  have hq := xb2 hb
  have hbv : b.1 = 7 ∨ b.1 = 11 := by omega
  have hbw : b.2 = 7 ∨ b.2 = 11 := by omega
  have eG : g b.1 2 = nI G := hR.1.1
  have hG6 : G ≤ 6 := hR.1.2
  have eGr : g 73 10 = nI G := hRr.1.1
  by_cases hx : 0 ≤ x ∧ x < 6
  · obtain ⟨p, hp1, rfl⟩ := xin (n := 6) (by omega) hx
    rcases hZ p hp1 with e | ⟨n, hn, e⟩
    · exact xJ2.mk (c_X11_lay_no hp1 e) (c_X12_lay_no hp1 (by unfold xfC; rw [up_na (by decide), up_na (by decide), (hZr p hp1).1]; exact e)) (xJ_ag (xAg_t (xAg_C hbw _) (xAg_R _)) hJ1) (fun _ => rfl)
    have er : g 74 p = nI n := by rw [(hZr p hp1).1]; exact e
    by_cases hi : 0 ≤ i ∧ i < nI n
    · obtain ⟨t, ht, rfl⟩ := xin (n := n) (by omega) hi
      have e0 : ∀ a, a ≠ 0 → a ≠ 73 → a ≠ 75 → a ≠ 23 + 2 * p + 1 → up (up (up (up g 0 11 (g ((23 + 2 * p) + 1) t)) ((23 + 2 * p) + 1) t v) 75 (40 * p + t) v) 73 20 (up (up g 0 11 (g ((23 + 2 * p) + 1) t)) ((23 + 2 * p) + 1) t v 75 (40 * p + t)) a = g a := fun a h1 h2 h3 h4 => by rw [up_na h2, up_na h3, up_na h4, up_na h1]
      refine xJ2.mk (c_X11_lay_ok hp1 e hn ht) (c_X12_lay_ok hp1 (by rw [up_na (by omega), up_na (by omega)]; exact er) hn ht) (xJ_rw hI0 hJ0 (fun a ha => e0 a (by omega) (by omega) (by omega) (by omega)) ⟨by rw [up_ne (Or.inr (by decide)), up_na (by decide), up_na (by omega), up_na (by decide)], by rw [up_ne (Or.inr (by decide)), up_na (by decide), up_na (by omega), up_na (by decide)], by rw [up_ne (Or.inr (by decide)), up_na (by decide), up_na (by omega), up_na (by decide)]⟩ (fun r hr => by rw [e0 _ (by omega) (by omega) (by omega) (by omega)]; exact hZ r hr) (fun r hr => ?_)) (fun _ => rfl)
      rw [e0 (23 + 2 * r) (by omega) (by omega) (by omega) (by omega), e0 74 (by decide) (by decide) (by decide) (by omega)]
      refine ⟨(hZr r hr).1, fun n' hn' en q hq1 => ?_⟩
      have z := (hZr r hr).2 n' hn' en q hq1
      rw [up_na (by decide)]
      by_cases e1 : r = p
      · subst e1
        by_cases e2 : q = t
        · subst e2
          rw [up_same, up_na (by omega), up_na (by omega), up_same]
        · rw [up_ne (Or.inr (by omega)), up_na (by omega), up_na (by decide), up_na (by omega), up_na (by omega), up_ne (Or.inr e2), up_na (by omega)]
          exact z
      · rw [e0 (23 + 2 * r + 1) (by omega) (by omega) (by omega) (by omega), up_ne (Or.inr (by omega)), up_na (by omega), up_na (by decide)]
        exact z
    · exact xJ2.mk (c_X11_lay_bey hp1 e hn hi) (c_X12_lay_bey hp1 (by unfold xfC; rw [up_na (by decide), up_na (by decide)]; exact er) hn hi) (xJ_ag (xAg_t (xAg_C hbw _) (xAg_R _)) hJ1) (fun _ => rfl)
  · exact xJ2.mk (c_X11_lay_bad hx) (c_X12_lay_bad hx) (hJ1) (fun _ => rfl)

theorem j_tear (hJ : xJ b g) : xJ2 Value.int True 81 162 [.int x] b g l := by
  have hJ1 := hJ
  obtain ⟨G, T, Lw, m, hI, hJr⟩ := hJ
  have hI0 := hI
  have hJ0 := hJr
  obtain ⟨hb, hp, hR, htx, ⟨hs, hm⟩, hD, hK, hZ, hY⟩ := hI
  obtain ⟨hRr, hsr, hDr, hKr, hZr, hYr⟩ := hJr
  obtain ⟨hb1, hb2⟩ := xro_b hb
  have hq := xb2 hb
  have hbv : b.1 = 7 ∨ b.1 = 11 := by omega
  have hbw : b.2 = 7 ∨ b.2 = 11 := by omega
  have eG : g b.1 2 = nI G := hR.1.1
  have hG6 : G ≤ 6 := hR.1.2
  have eGr : g 73 10 = nI G := hRr.1.1
  by_cases hx : 0 ≤ x ∧ x < 6
  · obtain ⟨p, hp1, rfl⟩ := xin (n := 6) (by omega) hx
    rcases hZ p hp1 with e | ⟨n, hn, e⟩
    · exact xJ2.mk (c_X11_tear_no hp1 e) (c_X12_tear_no hp1 (by unfold xfC; rw [up_na (by decide), up_na (by decide), (hZr p hp1).1]; exact e)) (xJ_ag (xAg_t (xAg_C hbw _) (xAg_R _)) hJ1) (fun _ => rfl)
    have e0 : ∀ a, a ≠ 74 → a ≠ 23 + 2 * p → up (up g (23 + 2 * p) 1 (-1)) 74 p (-1) a = g a := fun a h1 h2 => by rw [up_na h1, up_na h2]
    have e73 := e0 73 (by decide) (by omega)
    refine xJ2.mk (c_X11_tear_ok hp1 (by rw [e]; exact nI_nm1 (by omega))) (c_X12_tear_ok (m := n) hp1 (by rw [up_na (by omega), (hZr p hp1).1]; exact e) hn) (xJ_rw hI0 hJ0 (fun a ha => e0 a (by omega) (by omega)) (by rw [e73]; exact ⟨rfl, rfl, rfl⟩) (fun r hr => ?_) (fun r hr => ?_)) (fun _ => rfl)
    · by_cases e1 : r = p
      · rw [e1, up_na (by omega), up_same]; exact Or.inl rfl
      · rw [e0 _ (by omega) (by omega)]; exact hZ r hr
    · by_cases e1 : r = p
      · subst e1
        rw [up_same, up_na (by omega), up_same]
        exact ⟨rfl, fun n' hn' en => absurd en (m1n (by omega))⟩
      · rw [up_ne (Or.inr e1), up_na (by omega), e0 (23 + 2 * r) (by omega) (by omega), e0 75 (by decide) (by omega), e0 (23 + 2 * r + 1) (by omega) (by omega)]
        exact hZr r hr
  · exact xJ2.mk (c_X11_tear_bad hx) (c_X12_tear_bad hx) (hJ1) (fun _ => rfl)

theorem j_copy (hJ : xJ b g) : xJ2 Value.int True 82 164 [.int x, .int i, .int y, .int j, .int z] b g l := by
  have hJ1 := hJ
  obtain ⟨G, T, Lw, m, hI, hJr⟩ := hJ
  have hI0 := hI
  have hJ0 := hJr
  obtain ⟨hb, hp, hR, htx, ⟨hs, hm⟩, hD, hK, hZ, hY⟩ := hI
  obtain ⟨hRr, hsr, hDr, hKr, hZr, hYr⟩ := hJr
  obtain ⟨hb1, hb2⟩ := xro_b hb
  have hq := xb2 hb
  have hbv : b.1 = 7 ∨ b.1 = 11 := by omega
  have hbw : b.2 = 7 ∨ b.2 = 11 := by omega
  have eG : g b.1 2 = nI G := hR.1.1
  have hG6 : G ≤ 6 := hR.1.2
  have eGr : g 73 10 = nI G := hRr.1.1
  by_cases hx : (0 ≤ x ∧ x < 6) ∧ 0 ≤ y ∧ y < 6
  · obtain ⟨p, hp1, rfl⟩ := xin (n := 6) (by omega) hx.1
    obtain ⟨s, hs1, rfl⟩ := xin (n := 6) (by omega) hx.2
    by_cases hz : z < 0
    · exact xJ2.mk (c_X11_copy_neg hp1 hs1 hz) (c_X12_copy_neg hp1 hs1 hz) (xJ_ag (xAg_t (xAg_C hbw _) (xAg_R _)) hJ1) (fun _ => rfl)
    obtain ⟨n, hn, rfl⟩ := nI_of hz
    rcases hZ p hp1 with e | ⟨m1, hm1, e⟩
    · have er : g 74 p = -1 := by rw [(hZr p hp1).1]; exact e
      exact xJ2.mk (c_X11_copy_no hp1 hs1 hn (Or.inl e)) (c_X12_copy_no hp1 hs1 hn (Or.inl (by unfold xfC; rw [up_na (by decide), up_na (by decide)]; exact er))) (xJ_ag (xAg_t (xAg_C hbw _) (xAg_R _)) hJ1) (fun _ => rfl)
    rcases hZ s hs1 with e' | ⟨m2, hm2, e'⟩
    · have er : g 74 s = -1 := by rw [(hZr s hs1).1]; exact e'
      exact xJ2.mk (c_X11_copy_no hp1 hs1 hn (Or.inr e')) (c_X12_copy_no hp1 hs1 hn (Or.inr (by unfold xfC; rw [up_na (by decide), up_na (by decide)]; exact er))) (xJ_ag (xAg_t (xAg_C hbw _) (xAg_R _)) hJ1) (fun _ => rfl)
    have er : g 74 p = nI m1 := by rw [(hZr p hp1).1]; exact e
    have er' : g 74 s = nI m2 := by rw [(hZr s hs1).1]; exact e'
    by_cases hq2 : xpl i n m1 ∧ xpl j n m2
    · obtain ⟨i1, rfl, h1⟩ := xpl_ok (by omega) hn hq2.1
      obtain ⟨j1, rfl, h2⟩ := xpl_ok (by omega) hn hq2.2
      have e0 : ∀ a, a ≠ 75 → a ≠ 23 + 2 * s + 1 → gseg (gcopy g (23 + 2 * p + 1) i1 (23 + 2 * s + 1) j1 n) 75 (40 * s + j1) n (fun q => gcopy g (23 + 2 * p + 1) i1 (23 + 2 * s + 1) j1 n 75 (40 * p + i1 + q)) a = g a := fun a h1 h2 => by rw [gseg_na h1, gcopy_na h2]
      have e73 := e0 73 (by decide) (by omega)
      refine xJ2.mk (c_X11_copy_ok hp1 hs1 e hm1 e' hm2 h1 h2) (c_X12_copy_ok hp1 hs1 (by rw [gcopy_na (by omega)]; exact er) hm1 (by rw [gcopy_na (by omega)]; exact er') hm2 h1 h2) (xJ_rw hI0 hJ0 (fun a ha => e0 a (by omega) (by omega)) (by rw [e73]; exact ⟨rfl, rfl, rfl⟩) (fun r hr => by rw [e0 _ (by omega) (by omega)]; exact hZ r hr) (fun r hr => ?_)) (fun _ => rfl)
      rw [e0 (23 + 2 * r) (by omega) (by omega), e0 74 (by decide) (by omega)]
      refine ⟨(hZr r hr).1, fun n' hn' en q hq1 => ?_⟩
      have zq := (hZr r hr).2 n' hn' en q hq1
      by_cases e1 : r = s
      · subst e1
        have en2 := nI_inj (by omega) (by omega) (en.symm.trans e')
        by_cases e2 : j1 ≤ q ∧ q < j1 + n
        · obtain ⟨u, rfl⟩ : ∃ u, q = j1 + u := ⟨q - j1, by omega⟩
          rw [show 40 * r + (j1 + u) = 40 * r + j1 + u by omega, gseg_in (by omega), gcopy_na (by omega), gseg_na (by omega), gcopy_in (by omega), show 40 * p + i1 + u = 40 * p + (i1 + u) by omega]
          exact (hZr p hp1).2 m1 hm1 e (i1 + u) (by omega)
        · rw [gseg_out (by omega), gcopy_na (by omega), gseg_na (by omega)]
          rw [show gcopy g (23 + 2 * p + 1) i1 (23 + 2 * r + 1) j1 n (23 + 2 * r + 1) q = g (23 + 2 * r + 1) q from if_neg (fun z => e2 z.2)]
          exact zq
      · rw [e0 (23 + 2 * r + 1) (by omega) (by omega), gseg_out (by omega), gcopy_na (by omega)]
        exact zq
    · exact xJ2.mk (c_X11_copy_bey hp1 hs1 hn e hm1 e' hm2 hq2) (c_X12_copy_bey hp1 hs1 hn (by unfold xfC; rw [up_na (by decide), up_na (by decide)]; exact er) hm1 (by unfold xfC; rw [up_na (by decide), up_na (by decide)]; exact er') hm2 hq2) (xJ_ag (xAg_t (xAg_C hbw _) (xAg_R _)) hJ1) (fun _ => rfl)
  · exact xJ2.mk (c_X11_copy_bad hx) (c_X12_copy_bad hx) (hJ1) (fun _ => rfl)

theorem j_show (hJ : xJ b g) : xJ2 Value.int True 98 202 [.int x, .int y, .int z] b g l := by
  have hJ1 := hJ
  obtain ⟨G, T, Lw, m, hI, hJr⟩ := hJ
  have hI0 := hI
  have hJ0 := hJr
  obtain ⟨hb, hp, hR, htx, ⟨hs, hm⟩, hD, hK, hZ, hY⟩ := hI
  obtain ⟨hRr, hsr, hDr, hKr, hZr, hYr⟩ := hJr
  obtain ⟨hb1, hb2⟩ := xro_b hb
  have hq := xb2 hb
  have hbv : b.1 = 7 ∨ b.1 = 11 := by omega
  have hbw : b.2 = 7 ∨ b.2 = 11 := by omega
  have eG : g b.1 2 = nI G := hR.1.1
  have hG6 : G ≤ 6 := hR.1.2
  have eGr : g 73 10 = nI G := hRr.1.1
  by_cases hx : (0 ≤ x ∧ x < g b.1 2) ∧ (0 ≤ y ∧ y < 6) ∧ 0 ≤ z ∧ z < 6
  · obtain ⟨s, hk, rfl⟩ := xin (n := G) (by omega) ⟨hx.1.1, by rw [← eG]; exact hx.1.2⟩
    obtain ⟨t, ht, rfl⟩ := xin (n := 6) (by omega) hx.2.1
    obtain ⟨p, hp1, rfl⟩ := xin (n := 6) (by omega) hx.2.2
    have hzt : xsz (g 74 t) 40 := by rw [(hZr t ht).1]; exact hZ t ht
    have hfe : xfos (g 74 t) (fun i => g 75 (40 * t + i)) 12 = xfos (g (23 + 2 * t) 1) (g (23 + 2 * t + 1)) 12 := by
      rw [(hZr t ht).1]
      exact xfos_c (hZ t ht) (fun n hn en i hi => (hZr t ht).2 n hn en i hi)
    by_cases hf : xfos (g (23 + 2 * t) 1) (g (23 + 2 * t + 1)) 12 = 0
    · obtain ⟨m1, e, h12, h40, hxs⟩ := xfos_0 (hZ t ht) (by decide) (by decide) hf
      have er : g 74 t = nI m1 := by rw [(hZr t ht).1]; exact e
      have hrow : ∀ i, i < m1 → g 75 (40 * t + i) = g (23 + 2 * t + 1) i := (hZr t ht).2 m1 h40 e
      have c0 : ∀ a, a ≠ 15 → a ≠ 16 → a ≠ 17 → a ≠ 23 + 2 * p → a ≠ 23 + 2 * p + 1 → (gset (gfill (up (gcopy (up g 15 1 (nI m1)) (23 + 2 * t + 1) 0 (15 + 1) 0 m1) (23 + 2 * p) 1 (nI m1)) (23 + 2 * p + 1) m1 0) (23 + 2 * p + 1) m1 (xshw (g (b.1 + 1)) (Lw s / 4) (Lw s % 4) (fun i => xN (g (23 + 2 * t + 1) i)))) a = g a := fun a h1 h2 h3 h4 h5 => by rw [gset_na h5, gfill_na h5, up_na h4, gcopy_na h2, up_na h1]
      have cs : (gset (gfill (up (gcopy (up g 15 1 (nI m1)) (23 + 2 * t + 1) 0 (15 + 1) 0 m1) (23 + 2 * p) 1 (nI m1)) (23 + 2 * p + 1) m1 0) (23 + 2 * p + 1) m1 (xshw (g (b.1 + 1)) (Lw s / 4) (Lw s % 4) (fun i => xN (g (23 + 2 * t + 1) i)))) (23 + 2 * p) 1 = nI m1 := by rw [gset_na (by omega), gfill_na (by omega), up_same]
      have cv : ∀ i, i < m1 → (gset (gfill (up (gcopy (up g 15 1 (nI m1)) (23 + 2 * t + 1) 0 (15 + 1) 0 m1) (23 + 2 * p) 1 (nI m1)) (23 + 2 * p + 1) m1 0) (23 + 2 * p + 1) m1 (xshw (g (b.1 + 1)) (Lw s / 4) (Lw s % 4) (fun i => xN (g (23 + 2 * t + 1) i)))) (23 + 2 * p + 1) i = (xshw (g (b.1 + 1)) (Lw s / 4) (Lw s % 4) (fun i => xN (g (23 + 2 * t + 1) i))) i := fun i hi => by rw [gset_in hi]
      have hc := c_X11_show_ok (k := 5) (l := l) hb1 hR hp hbv hk ht hp1 e h12 hf hxs
      generalize gset (gfill (up (gcopy (up g 15 1 (nI m1)) (23 + 2 * t + 1) 0 (15 + 1) 0 m1) (23 + 2 * p) 1 (nI m1)) (23 + 2 * p + 1) m1 0) (23 + 2 * p + 1) m1 (xshw (g (b.1 + 1)) (Lw s / 4) (Lw s % 4) (fun i => xN (g (23 + 2 * t + 1) i))) = g1 at c0 cs cv hc
      refine hc.weak (fun r M w => ⟨_, b, g1, l, w.2, w.1, (c_X12_show_ok (k := 6) (xRr_fr (by rw [c0 73 (by omega) (by omega) (by omega) (by omega) (by omega)]) (by rw [c0 73 (by omega) (by omega) (by omega) (by omega) (by omega)]) (c0 _ (by omega) (by omega) (by omega) (by omega) (by omega)) (c0 _ (by omega) (by omega) (by omega) (by omega) (by omega)) (c0 _ (by omega) (by omega) (by omega) (by omega) (by omega)) hRr) hk hp1 ht (by rw [c0 74 (by omega) (by omega) (by omega) (by omega) (by omega)]; exact er) h12 (by rw [c0 74 (by omega) (by omega) (by omega) (by omega) (by omega), c0 75 (by omega) (by omega) (by omega) (by omega) (by omega), hfe]; exact hf) (fun i hi => by rw [c0 75 (by omega) (by omega) (by omega) (by omega) (by omega), hrow i hi]; exact hxs i hi)).weak (fun r' M' w' => ?_)⟩)
      · skip
        obtain ⟨g0, hF, e1, e2⟩ := w'
        have f0 : ∀ a, a < 89 → a ≠ 73 → a ≠ 74 → a ≠ 75 → gseg (up g0 74 p (nI m1)) 75 (40 * p) m1 (xshw (g (b.1 + 1)) (Lw s / 4) (Lw s % 4) (fun i => xN (g1 75 (40 * t + i)))) a = g1 a := fun a h1 h2 h3 h4 => by rw [gseg_na h4, up_na h3, hF.1 a h1 h2]
        have f74 : ∀ r, r < 6 → gseg (up g0 74 p (nI m1)) 75 (40 * p) m1 (xshw (g (b.1 + 1)) (Lw s / 4) (Lw s % 4) (fun i => xN (g1 75 (40 * t + i)))) 74 r = if r = p then nI m1 else g 74 r := fun r hr => by
          rw [gseg_na (by decide)]
          by_cases e9 : r = p
          · rw [if_pos e9, e9, up_same]
          · rw [if_neg e9, up_ne (Or.inr e9), hF.1 74 (by decide) (by decide), c0 74 (by omega) (by omega) (by omega) (by omega) (by omega)]
        refine ⟨_, b, _, l, e2, e1, xJ_rw hI0 hJ0 (fun a ha => by rw [f0 a (by omega) (by omega) (by omega) (by omega)]; exact c0 a (by omega) (by omega) (by omega) (by omega) (by omega)) ⟨by rw [gseg_na (by decide), up_na (by decide), hF.2 10 (by decide), c0 73 (by omega) (by omega) (by omega) (by omega) (by omega)], by rw [gseg_na (by decide), up_na (by decide), hF.2 12 (by decide), c0 73 (by omega) (by omega) (by omega) (by omega) (by omega)], by rw [gseg_na (by decide), up_na (by decide), hF.2 14 (by decide), c0 73 (by omega) (by omega) (by omega) (by omega) (by omega)]⟩ (fun r hr => ?_) (fun r hr => ?_), fun _ => rfl⟩
        · rw [f0 _ (by omega) (by omega) (by omega) (by omega)]
          by_cases e9 : r = p
          · rw [e9, cs]; exact xsz_nI h40
          · rw [c0 _ (by omega) (by omega) (by omega) (by omega) (by omega)]; exact hZ r hr
        · rw [f74 r hr, f0 (23 + 2 * r) (by omega) (by omega) (by omega) (by omega), f0 (23 + 2 * r + 1) (by omega) (by omega) (by omega) (by omega)]
          by_cases e9 : r = p
          · subst e9
            rw [if_pos rfl, cs]
            refine ⟨rfl, fun n' hn' en i hi => ?_⟩
            have e8 := nI_inj (by omega) (by omega) en
            subst e8
            rw [gseg_in hi, cv i hi]
            exact xshw_c (fun j hj => by show xN (g1 75 (40 * t + j)) = xN (g (23 + 2 * t + 1) j); rw [c0 75 (by omega) (by omega) (by omega) (by omega) (by omega), hrow j (by omega)])
          · rw [if_neg e9, c0 (23 + 2 * r) (by omega) (by omega) (by omega) (by omega) (by omega), c0 (23 + 2 * r + 1) (by omega) (by omega) (by omega) (by omega) (by omega)]
            refine ⟨(hZr r hr).1, fun n' hn' en i hi => ?_⟩
            rw [gseg_out (by omega), up_na (by decide), hF.1 75 (by decide) (by decide), c0 75 (by omega) (by omega) (by omega) (by omega) (by omega)]
            exact (hZr r hr).2 n' hn' en i hi
    · refine (c_X11_show_ref (k := 5) (b := b) (l := l) hb1 hR hk ht (hZ t ht) hp1 hf).weak (fun r M w => ?_)
      have c73 : ∀ a, a ≠ 0 → a ≠ 22 → xfC g (xfos (g (23 + 2 * t) 1) (g (23 + 2 * t + 1)) 12) a = g a := fun a h1 h2 => by unfold xfC; rw [up_na h2, up_na h1]
      have hA := xAg_C (b := b) (g := g) hbw (xfos (g (23 + 2 * t) 1) (g (23 + 2 * t + 1)) 12)
      refine ⟨_, b, _, l, w.2, w.1, (c_X12_show_ref (k := 6) (xRr_fr (by rw [c73 73 (by decide) (by decide)]) (by rw [c73 73 (by decide) (by decide)]) (c73 _ (by decide) (by decide)) (c73 _ (by decide) (by decide)) (c73 _ (by decide) (by decide)) hRr) hk ht hp1 (by rw [c73 74 (by decide) (by decide)]; exact hzt) (by rw [c73 74 (by decide) (by decide), c73 75 (by decide) (by decide), hfe]; exact hf)).weak (fun r' M' w' => ?_)⟩
      obtain ⟨g0, hF, e1, e2⟩ := w'
      exact ⟨_, b, g0, l, e2, e1, xJ_ag (xAg_t hA (xAg_Fr hF)) hJ1, fun _ => rfl⟩
  · exact xJ2.mk (c_X11_show_bad hb1 hx) (c_X12_show_bad hRr (by rw [← eG]; exact hx)) (hJ1) (fun _ => rfl)

theorem j_first (hJ : xJ b g) : xJ2 Value.int True 103 211 [.int x, .int y, .int z] b g l := by
  have hJ1 := hJ
  obtain ⟨G, T, Lw, m, hI, hJr⟩ := hJ
  have hI0 := hI
  have hJ0 := hJr
  obtain ⟨hb, hp, hR, htx, ⟨hs, hm⟩, hD, hK, hZ, hY⟩ := hI
  obtain ⟨hRr, hsr, hDr, hKr, hZr, hYr⟩ := hJr
  obtain ⟨hb1, hb2⟩ := xro_b hb
  have hq := xb2 hb
  have hbv : b.1 = 7 ∨ b.1 = 11 := by omega
  have hbw : b.2 = 7 ∨ b.2 = 11 := by omega
  have eG : g b.1 2 = nI G := hR.1.1
  have hG6 : G ≤ 6 := hR.1.2
  have eGr : g 73 10 = nI G := hRr.1.1
  by_cases hx : (0 ≤ x ∧ x < g b.1 2) ∧ (0 ≤ y ∧ y < 6) ∧ 0 ≤ z ∧ z < 6
  · obtain ⟨s, hk, rfl⟩ := xin (n := G) (by omega) ⟨hx.1.1, by rw [← eG]; exact hx.1.2⟩
    obtain ⟨t, ht, rfl⟩ := xin (n := 6) (by omega) hx.2.1
    obtain ⟨p, hp1, rfl⟩ := xin (n := 6) (by omega) hx.2.2
    have hzt : xsz (g 74 t) 40 := by rw [(hZr t ht).1]; exact hZ t ht
    have hfe : xfos (g 74 t) (fun i => g 75 (40 * t + i)) 6 = xfos (g (23 + 2 * t) 1) (g (23 + 2 * t + 1)) 6 := by
      rw [(hZr t ht).1]
      exact xfos_c (hZ t ht) (fun n hn en i hi => (hZr t ht).2 n hn en i hi)
    by_cases hf : xfos (g (23 + 2 * t) 1) (g (23 + 2 * t + 1)) 6 = 0
    · obtain ⟨m1, e, h12, h40, hxs⟩ := xfos_0 (hZ t ht) (by decide) (by decide) hf
      have er : g 74 t = nI m1 := by rw [(hZr t ht).1]; exact e
      have hrow : ∀ i, i < m1 → g 75 (40 * t + i) = g (23 + 2 * t + 1) i := (hZr t ht).2 m1 h40 e
      cases hnz : (xnz (xst (Lw s / 4) (Lw s % 4) (xB (g (b.1 + 1)) (Lw s / 4) (g (23 + 2 * t + 1))) m1) m1 (xps (Lw s / 4) (Lw s % 4) (g (23 + 2 * t + 1)) m1)) with
      | true =>
        have c0 : ∀ a, a ≠ 15 → a ≠ 16 → a ≠ 17 → a ≠ 23 + 2 * p → a ≠ 23 + 2 * p + 1 → (gset (gfill (up (gset g 17 m1 (xst (Lw s / 4) (Lw s % 4) (xB (g (b.1 + 1)) (Lw s / 4) (g (23 + 2 * t + 1))) m1)) (23 + 2 * p) 1 (nI m1)) (23 + 2 * p + 1) m1 0) (23 + 2 * p + 1) m1 (fun i => nI (xlst ((xst (Lw s / 4) (Lw s % 4) (xB (g (b.1 + 1)) (Lw s / 4) (g (23 + 2 * t + 1))) m1) i)))) a = g a := fun a h1 h2 h3 h4 h5 => by rw [gset_na h5, gfill_na h5, up_na h4, gset_na h3]
        have cs : (gset (gfill (up (gset g 17 m1 (xst (Lw s / 4) (Lw s % 4) (xB (g (b.1 + 1)) (Lw s / 4) (g (23 + 2 * t + 1))) m1)) (23 + 2 * p) 1 (nI m1)) (23 + 2 * p + 1) m1 0) (23 + 2 * p + 1) m1 (fun i => nI (xlst ((xst (Lw s / 4) (Lw s % 4) (xB (g (b.1 + 1)) (Lw s / 4) (g (23 + 2 * t + 1))) m1) i)))) (23 + 2 * p) 1 = nI m1 := by rw [gset_na (by omega), gfill_na (by omega), up_same]
        have cv : ∀ i, i < m1 → (gset (gfill (up (gset g 17 m1 (xst (Lw s / 4) (Lw s % 4) (xB (g (b.1 + 1)) (Lw s / 4) (g (23 + 2 * t + 1))) m1)) (23 + 2 * p) 1 (nI m1)) (23 + 2 * p + 1) m1 0) (23 + 2 * p + 1) m1 (fun i => nI (xlst ((xst (Lw s / 4) (Lw s % 4) (xB (g (b.1 + 1)) (Lw s / 4) (g (23 + 2 * t + 1))) m1) i)))) (23 + 2 * p + 1) i = nI (xlst ((xst (Lw s / 4) (Lw s % 4) (xB (g (b.1 + 1)) (Lw s / 4) (g (23 + 2 * t + 1))) m1) i)) := fun i hi => by rw [gset_in hi]
        have hc := c_X11_first_ok (k := 4) (l := l) hb1 hR hp hbv hk ht hp1 e h12 hf hxs hnz
        generalize gset (gfill (up (gset g 17 m1 (xst (Lw s / 4) (Lw s % 4) (xB (g (b.1 + 1)) (Lw s / 4) (g (23 + 2 * t + 1))) m1)) (23 + 2 * p) 1 (nI m1)) (23 + 2 * p + 1) m1 0) (23 + 2 * p + 1) m1 (fun i => nI (xlst ((xst (Lw s / 4) (Lw s % 4) (xB (g (b.1 + 1)) (Lw s / 4) (g (23 + 2 * t + 1))) m1) i))) = g1 at c0 cs cv hc
        have hcc : xfst (fun c => decide (xfst (fun i => !decide (xshw (g (b.1 + 1)) (Lw s / 4) (Lw s % 4) (xd6 m1 c) i = g1 75 (40 * t + i))) m1 = none)) (6 ^ m1) = xfst (fun c => decide (xfst (fun i => !decide (xshw (g (b.1 + 1)) (Lw s / 4) (Lw s % 4) (xd6 m1 c) i = g (23 + 2 * t + 1) i)) m1 = none)) (6 ^ m1) := xfst_congr (fun c _ => by
          have hin : xfst (fun i => !decide (xshw (g (b.1 + 1)) (Lw s / 4) (Lw s % 4) (xd6 m1 c) i = g1 75 (40 * t + i))) m1 = xfst (fun i => !decide (xshw (g (b.1 + 1)) (Lw s / 4) (Lw s % 4) (xd6 m1 c) i = g (23 + 2 * t + 1) i)) m1 := xfst_congr (fun i hi => by rw [c0 75 (by omega) (by omega) (by omega) (by omega) (by omega), hrow i hi])
          rw [hin])
        obtain ⟨c, hcs⟩ : ∃ c, xfst (fun c => decide (xfst (fun i => !decide (xshw (g (b.1 + 1)) (Lw s / 4) (Lw s % 4) (xd6 m1 c) i = g (23 + 2 * t + 1) i)) m1 = none)) (6 ^ m1) = some c := by
          cases hh : xfst (fun c => decide (xfst (fun i => !decide (xshw (g (b.1 + 1)) (Lw s / 4) (Lw s % 4) (xd6 m1 c) i = g (23 + 2 * t + 1) i)) m1 = none)) (6 ^ m1) with
          | none => exact absurd hh (xany.mp hnz)
          | some c => exact ⟨c, rfl⟩
        have hfi := xfirst hcs
        refine hc.weak (fun r M w => ⟨_, b, g1, l, w.2, w.1, (c_X12_first_ok (k := 5) (c := c) (xRr_fr (by rw [c0 73 (by omega) (by omega) (by omega) (by omega) (by omega)]) (by rw [c0 73 (by omega) (by omega) (by omega) (by omega) (by omega)]) (c0 _ (by omega) (by omega) (by omega) (by omega) (by omega)) (c0 _ (by omega) (by omega) (by omega) (by omega) (by omega)) (c0 _ (by omega) (by omega) (by omega) (by omega) (by omega)) hRr) hk hp1 ht (by rw [c0 74 (by omega) (by omega) (by omega) (by omega) (by omega)]; exact er) h12 (by rw [c0 74 (by omega) (by omega) (by omega) (by omega) (by omega), c0 75 (by omega) (by omega) (by omega) (by omega) (by omega), hfe]; exact hf) (fun i hi => by rw [c0 75 (by omega) (by omega) (by omega) (by omega) (by omega), hrow i hi]; exact hxs i hi) (hcc.trans hcs)).weak (fun r' M' w' => ?_)⟩)
        obtain ⟨g0, hF, e1, e2⟩ := w'
        have f0 : ∀ a, a < 89 → a ≠ 73 → a ≠ 74 → a ≠ 75 → gseg (up g0 74 p (nI m1)) 75 (40 * p) m1 (fun i => nI (xd6 m1 c i)) a = g1 a := fun a h1 h2 h3 h4 => by rw [gseg_na h4, up_na h3, hF.1 a h1 h2]
        have f74 : ∀ r, r < 6 → gseg (up g0 74 p (nI m1)) 75 (40 * p) m1 (fun i => nI (xd6 m1 c i)) 74 r = if r = p then nI m1 else g 74 r := fun r hr => by
          rw [gseg_na (by decide)]
          by_cases e9 : r = p
          · rw [if_pos e9, e9, up_same]
          · rw [if_neg e9, up_ne (Or.inr e9), hF.1 74 (by decide) (by decide), c0 74 (by omega) (by omega) (by omega) (by omega) (by omega)]
        refine ⟨_, b, _, l, e2, e1, xJ_rw hI0 hJ0 (fun a ha => by rw [f0 a (by omega) (by omega) (by omega) (by omega)]; exact c0 a (by omega) (by omega) (by omega) (by omega) (by omega)) ⟨by rw [gseg_na (by decide), up_na (by decide), hF.2 10 (by decide), c0 73 (by omega) (by omega) (by omega) (by omega) (by omega)], by rw [gseg_na (by decide), up_na (by decide), hF.2 12 (by decide), c0 73 (by omega) (by omega) (by omega) (by omega) (by omega)], by rw [gseg_na (by decide), up_na (by decide), hF.2 14 (by decide), c0 73 (by omega) (by omega) (by omega) (by omega) (by omega)]⟩ (fun r hr => ?_) (fun r hr => ?_), fun _ => rfl⟩
        · rw [f0 _ (by omega) (by omega) (by omega) (by omega)]
          by_cases e9 : r = p
          · rw [e9, cs]; exact xsz_nI h40
          · rw [c0 _ (by omega) (by omega) (by omega) (by omega) (by omega)]; exact hZ r hr
        · rw [f74 r hr, f0 (23 + 2 * r) (by omega) (by omega) (by omega) (by omega), f0 (23 + 2 * r + 1) (by omega) (by omega) (by omega) (by omega)]
          by_cases e9 : r = p
          · subst e9
            rw [if_pos rfl, cs]
            refine ⟨rfl, fun n' hn' en i hi => ?_⟩
            have e8 := nI_inj (by omega) (by omega) en
            subst e8
            rw [gseg_in hi, cv i hi]
            rw [hfi i hi]
          · rw [if_neg e9, c0 (23 + 2 * r) (by omega) (by omega) (by omega) (by omega) (by omega), c0 (23 + 2 * r + 1) (by omega) (by omega) (by omega) (by omega) (by omega)]
            refine ⟨(hZr r hr).1, fun n' hn' en i hi => ?_⟩
            rw [gseg_out (by omega), up_na (by decide), hF.1 75 (by decide) (by decide), c0 75 (by omega) (by omega) (by omega) (by omega) (by omega)]
            exact (hZr r hr).2 n' hn' en i hi
      | false =>
        have hc := c_X11_first_none (k := 4) (l := l) hb1 hR hp hbv hk ht hp1 e h12 hf hxs hnz
        have c0 : ∀ a, a ≠ 15 → a ≠ 16 → a ≠ 17 → a ≠ 23 + 2 * p → a ≠ 23 + 2 * p + 1 → gset g 17 m1 (xst (Lw s / 4) (Lw s % 4) (xB (g (b.1 + 1)) (Lw s / 4) (g (23 + 2 * t + 1))) m1) a = g a := fun a _ _ h3 _ _ => gset_na h3
        have hA1 : xAg b g (gset g 17 m1 (xst (Lw s / 4) (Lw s % 4) (xB (g (b.1 + 1)) (Lw s / 4) (g (23 + 2 * t + 1))) m1)) := xAg_gs hbw (by unfold xSc; omega)
        generalize gset g 17 m1 (xst (Lw s / 4) (Lw s % 4) (xB (g (b.1 + 1)) (Lw s / 4) (g (23 + 2 * t + 1))) m1) = g1 at c0 hc hA1
        have hcc : xfst (fun c => decide (xfst (fun i => !decide (xshw (g (b.1 + 1)) (Lw s / 4) (Lw s % 4) (xd6 m1 c) i = g1 75 (40 * t + i))) m1 = none)) (6 ^ m1) = xfst (fun c => decide (xfst (fun i => !decide (xshw (g (b.1 + 1)) (Lw s / 4) (Lw s % 4) (xd6 m1 c) i = g (23 + 2 * t + 1) i)) m1 = none)) (6 ^ m1) := xfst_congr (fun c _ => by
          have hin : xfst (fun i => !decide (xshw (g (b.1 + 1)) (Lw s / 4) (Lw s % 4) (xd6 m1 c) i = g1 75 (40 * t + i))) m1 = xfst (fun i => !decide (xshw (g (b.1 + 1)) (Lw s / 4) (Lw s % 4) (xd6 m1 c) i = g (23 + 2 * t + 1) i)) m1 := xfst_congr (fun i hi => by rw [c0 75 (by omega) (by omega) (by omega) (by omega) (by omega), hrow i hi])
          rw [hin])
        have hcn : xfst (fun c => decide (xfst (fun i => !decide (xshw (g (b.1 + 1)) (Lw s / 4) (Lw s % 4) (xd6 m1 c) i = g (23 + 2 * t + 1) i)) m1 = none)) (6 ^ m1) = none := by
          cases hh : xfst (fun c => decide (xfst (fun i => !decide (xshw (g (b.1 + 1)) (Lw s / 4) (Lw s % 4) (xd6 m1 c) i = g (23 + 2 * t + 1) i)) m1 = none)) (6 ^ m1) with
          | none => rfl
          | some c =>
            have := xany.mpr (by rw [hh]; exact fun z => by cases z)
            rw [hnz] at this
            cases this
        refine hc.weak (fun r M w => ⟨_, b, g1, l, w.2, w.1, (c_X12_first_none (k := 5) (xRr_fr (by rw [c0 73 (by omega) (by omega) (by omega) (by omega) (by omega)]) (by rw [c0 73 (by omega) (by omega) (by omega) (by omega) (by omega)]) (c0 _ (by omega) (by omega) (by omega) (by omega) (by omega)) (c0 _ (by omega) (by omega) (by omega) (by omega) (by omega)) (c0 _ (by omega) (by omega) (by omega) (by omega) (by omega)) hRr) hk hp1 ht (by rw [c0 74 (by omega) (by omega) (by omega) (by omega) (by omega)]; exact er) h12 (by rw [c0 74 (by omega) (by omega) (by omega) (by omega) (by omega), c0 75 (by omega) (by omega) (by omega) (by omega) (by omega), hfe]; exact hf) (fun i hi => by rw [c0 75 (by omega) (by omega) (by omega) (by omega) (by omega), hrow i hi]; exact hxs i hi) (hcc.trans hcn)).weak (fun r' M' w' => ?_)⟩)
        obtain ⟨g0, hF, e1, e2⟩ := w'
        exact ⟨_, b, g0, l, e2, e1, xJ_ag (xAg_t hA1 (xAg_Fr hF)) hJ1, fun _ => rfl⟩
    · refine (c_X11_first_ref (k := 4) (b := b) (l := l) hb1 hR hk ht (hZ t ht) hp1 hf).weak (fun r M w => ?_)
      have c73 : ∀ a, a ≠ 0 → a ≠ 22 → xfC g (xfos (g (23 + 2 * t) 1) (g (23 + 2 * t + 1)) 6) a = g a := fun a h1 h2 => by unfold xfC; rw [up_na h2, up_na h1]
      have hA := xAg_C (b := b) (g := g) hbw (xfos (g (23 + 2 * t) 1) (g (23 + 2 * t + 1)) 6)
      refine ⟨_, b, _, l, w.2, w.1, (c_X12_first_ref (k := 5) (xRr_fr (by rw [c73 73 (by decide) (by decide)]) (by rw [c73 73 (by decide) (by decide)]) (c73 _ (by decide) (by decide)) (c73 _ (by decide) (by decide)) (c73 _ (by decide) (by decide)) hRr) hk ht hp1 (by rw [c73 74 (by decide) (by decide)]; exact hzt) (by rw [c73 74 (by decide) (by decide), c73 75 (by decide) (by decide), hfe]; exact hf)).weak (fun r' M' w' => ?_)⟩
      obtain ⟨g0, hF, e1, e2⟩ := w'
      exact ⟨_, b, g0, l, e2, e1, xJ_ag (xAg_t hA (xAg_Fr hF)) hJ1, fun _ => rfl⟩
  · exact xJ2.mk (c_X11_first_bad hb1 hx) (c_X12_first_bad hRr (by rw [← eG]; exact hx)) (hJ1) (fun _ => rfl)

end
