/-! the class, call by call: all but rows that change, texts, rooms and deeds -/
section
variable {b : Nat × Nat} {g g' : Nat → Nat → Int32} {l : Nat → Nat → Int64} {G T m : Nat} {Lw : Nat → Nat} {x y z i j v : Int32}

theorem xAg_gs (hb : b.2 = 7 ∨ b.2 = 11) {c n : Nat} {S : Nat → Int32} (hc : xSc b c) : xAg b g (gset g c n S) := xAg_s hb (fun a ha => gset_na (fun z => ha (by rw [z]; exact hc)))
theorem xAg_gf (hb : b.2 = 7 ∨ b.2 = 11) {c n : Nat} {v : Int32} (hc : xSc b c) : xAg b g (gfill g c n v) := xAg_s hb (fun a ha => gfill_na (fun z => ha (by rw [z]; exact hc)))
theorem xAg_gc (hb : b.2 = 7 ∨ b.2 = 11) {c si c' di n : Nat} (hc : xSc b c') : xAg b g (gcopy g c si c' di n) := xAg_s hb (fun a ha => gcopy_na (fun z => ha (by rw [z]; exact hc)))
theorem xsz_nI {n N : Nat} (h : n ≤ N) : xsz (nI n) N := Or.inr ⟨n, h, rfl⟩



theorem k_at (hI : xIc b g G T Lw m) : xCo Value.int 80 [.int x, .int i] b g l := by
  obtain ⟨hb, hp, hR, htx, ⟨hs, hm⟩, hD, hK, hZ, hY⟩ := hI
  obtain ⟨hb1, hb2⟩ := xro_b hb
  have hq := xb2 hb
  have hbv : b.1 = 7 ∨ b.1 = 11 := by omega
  have hbw : b.2 = 7 ∨ b.2 = 11 := by omega
  have eG : g b.1 2 = nI G := hR.1.1
  have hG6 : G ≤ 6 := hR.1.2
  have eT : g b.1 4 = nI T := hR.2.1.1
  have hT8 : T ≤ 8 := hR.2.1.2
  by_cases hx : 0 ≤ x ∧ x < 6
  · obtain ⟨p, hp1, rfl⟩ := xin (n := 6) (by omega) hx
    rcases hZ p hp1 with e | ⟨m1, hm1, e⟩
    · exact xCo.mk (c_X11_at_no hp1 e) (xAg_C hbw _)
    · by_cases hi : 0 ≤ i ∧ i < nI m1
      · obtain ⟨t, ht, rfl⟩ := xin (n := m1) (by omega) hi
        exact xCo.mk (c_X11_at_ok hp1 e hm1 ht) (xAg_u hbw (Or.inl rfl))
      · exact xCo.mk (c_X11_at_bey hp1 e hm1 hi) (xAg_C hbw _)
  · exact xCo.mk (c_X11_at_bad hx) (xAg_r b g)



theorem k_mean (hI : xIc b g G T Lw m) : xCo Value.int 83 [.int x] b g l := by
  obtain ⟨hb, hp, hR, htx, ⟨hs, hm⟩, hD, hK, hZ, hY⟩ := hI
  obtain ⟨hb1, hb2⟩ := xro_b hb
  have hq := xb2 hb
  have hbv : b.1 = 7 ∨ b.1 = 11 := by omega
  have hbw : b.2 = 7 ∨ b.2 = 11 := by omega
  have eG : g b.1 2 = nI G := hR.1.1
  have hG6 : G ≤ 6 := hR.1.2
  have eT : g b.1 4 = nI T := hR.2.1.1
  have hT8 : T ≤ 8 := hR.2.1.2
  by_cases hx : 0 ≤ x ∧ x < 6
  · obtain ⟨p, hp1, rfl⟩ := xin (n := 6) (by omega) hx
    rcases hZ p hp1 with e | ⟨m1, hm1, e⟩
    · exact xCo.mk (c_X11_mean_no hp1 e) (xAg_C hbw _)
    · by_cases h0 : m1 = 0
      · subst h0
        exact xCo.mk (c_X11_mean_nought hp1 e) (xAg_C hbw _)
      · exact xCo.mk (c_X11_mean_ok hp1 e hm1 (by omega)) (xAg_u hbw (Or.inl rfl))
  · exact xCo.mk (c_X11_mean_bad hx) (xAg_r b g)

theorem k_fault (hI : xIc b g G T Lw m) : xCo Value.int 86 [.int x] b g l := by
  obtain ⟨hb, hp, hR, htx, ⟨hs, hm⟩, hD, hK, hZ, hY⟩ := hI
  obtain ⟨hb1, hb2⟩ := xro_b hb
  have hq := xb2 hb
  have hbv : b.1 = 7 ∨ b.1 = 11 := by omega
  have hbw : b.2 = 7 ∨ b.2 = 11 := by omega
  have eG : g b.1 2 = nI G := hR.1.1
  have hG6 : G ≤ 6 := hR.1.2
  have eT : g b.1 4 = nI T := hR.2.1.1
  have hT8 : T ≤ 8 := hR.2.1.2
  by_cases hx : 0 ≤ x ∧ x < 4
  · obtain ⟨t, ht, rfl⟩ := xin (n := 4) (by omega) hx
    rcases hY t ht with e | ⟨m1, hm1, e⟩
    · exact xCo.mk (c_X11_fault_no ht e) (xAg_C hbw _)
    · exact (c_X11_fault_ok ht e hm1 rfl hb2 (by omega)).weak (fun r M w => by obtain ⟨g1, e1, e2, e3⟩ := w; exact ⟨_, _, _, e3, e1, xAg_s hbw (fun a ha => e2 a (by unfold xSc at ha; omega) (by unfold xSc at ha; omega) (by unfold xSc at ha; omega) (by unfold xSc at ha; omega))⟩)
  · exact xCo.mk (c_X11_fault_bad hx) (xAg_r b g)

theorem k_glass (hI : xIc b g G T Lw m) : xCo Value.int 88 [.int x, .int y] b g l := by
  obtain ⟨hb, hp, hR, htx, ⟨hs, hm⟩, hD, hK, hZ, hY⟩ := hI
  obtain ⟨hb1, hb2⟩ := xro_b hb
  have hq := xb2 hb
  have hbv : b.1 = 7 ∨ b.1 = 11 := by omega
  have hbw : b.2 = 7 ∨ b.2 = 11 := by omega
  have eG : g b.1 2 = nI G := hR.1.1
  have hG6 : G ≤ 6 := hR.1.2
  have eT : g b.1 4 = nI T := hR.2.1.1
  have hT8 : T ≤ 8 := hR.2.1.2
  by_cases hx : (0 ≤ x ∧ x < g b.1 2) ∧ 0 ≤ y ∧ y ≤ 3
  · obtain ⟨s, hk, rfl⟩ := xin (n := G) (by omega) ⟨hx.1.1, by rw [← eG]; exact hx.1.2⟩
    obtain ⟨t, ht, rfl⟩ := xinl (n := 3) (by omega) hx.2
    exact xCo.mk (c_X11_glass_ok hb1 hR hp hs hm hk (by omega)) (xAg_u hbw (Or.inl rfl))
  · exact xCo.mk (c_X11_glass_bad hb1 hx) (xAg_r b g)

theorem k_mark (hI : xIc b g G T Lw m) : xCo Value.int 89 [.int x, .int y] b g l := by
  obtain ⟨hb, hp, hR, htx, ⟨hs, hm⟩, hD, hK, hZ, hY⟩ := hI
  obtain ⟨hb1, hb2⟩ := xro_b hb
  have hq := xb2 hb
  have hbv : b.1 = 7 ∨ b.1 = 11 := by omega
  have hbw : b.2 = 7 ∨ b.2 = 11 := by omega
  have eG : g b.1 2 = nI G := hR.1.1
  have hG6 : G ≤ 6 := hR.1.2
  have eT : g b.1 4 = nI T := hR.2.1.1
  have hT8 : T ≤ 8 := hR.2.1.2
  by_cases hx : (0 ≤ x ∧ x < g b.1 2) ∧ 1 ≤ y ∧ y ≤ 5
  · obtain ⟨s, hk, rfl⟩ := xin (n := G) (by omega) ⟨hx.1.1, by rw [← eG]; exact hx.1.2⟩
    obtain ⟨t, ht1, ht, rfl⟩ := nI_1le hx.2
    cases hi : xiso (Lw s / 4) (nI t) with
    | false => exact xCo.mk (c_X11_mark_ref hb1 hR hp hs hm hk ht1 ht hi) (xAg_C hbw _)
    | true =>
      rcases (show t = 1 ∨ t = 2 ∨ t = 3 ∨ t = 4 ∨ t = 5 by omega) with rfl | rfl | rfl | rfl | rfl
      · exact xCo.mk (c_X11_mark_1 hb1 hR hp hs hm (xDk_x hD) hk hi) (xAg_r b g)
      · exact xCo.mk (c_X11_mark_2 hb1 hR hp hs hm (xDk_x hD) hk hi) (xAg_r b g)
      · exact xCo.mk (c_X11_mark_3 hb1 hR hp hs hm (xDk_x hD) hk hi) (xAg_r b g)
      · exact xCo.mk (c_X11_mark_4 hb1 hR hp hs hm (xDk_x hD) hk hi) (xAg_r b g)
      · exact xCo.mk (c_X11_mark_5 hb1 hR hp hs hm (xDk_x hD) hk hi) (xAg_r b g)
  · exact xCo.mk (c_X11_mark_bad hb1 hx) (xAg_r b g)

theorem k_habit (hI : xIc b g G T Lw m) : xCo Value.int 90 [.int x] b g l := by
  obtain ⟨hb, hp, hR, htx, ⟨hs, hm⟩, hD, hK, hZ, hY⟩ := hI
  obtain ⟨hb1, hb2⟩ := xro_b hb
  have hq := xb2 hb
  have hbv : b.1 = 7 ∨ b.1 = 11 := by omega
  have hbw : b.2 = 7 ∨ b.2 = 11 := by omega
  have eG : g b.1 2 = nI G := hR.1.1
  have hG6 : G ≤ 6 := hR.1.2
  have eT : g b.1 4 = nI T := hR.2.1.1
  have hT8 : T ≤ 8 := hR.2.1.2
  by_cases hx : 0 ≤ x ∧ x < 6
  · obtain ⟨t, ht, rfl⟩ := xin (n := 6) (by omega) hx
    exact xCo.mk (c_X11_habit_ok hb1 ht) (xAg_r b g)
  · exact xCo.mk (c_X11_habit_bad hx) (xAg_r b g)

theorem k_term (hI : xIc b g G T Lw m) : xCo Value.int 91 [.int x, .int y] b g l := by
  obtain ⟨hb, hp, hR, htx, ⟨hs, hm⟩, hD, hK, hZ, hY⟩ := hI
  obtain ⟨hb1, hb2⟩ := xro_b hb
  have hq := xb2 hb
  have hbv : b.1 = 7 ∨ b.1 = 11 := by omega
  have hbw : b.2 = 7 ∨ b.2 = 11 := by omega
  have eG : g b.1 2 = nI G := hR.1.1
  have hG6 : G ≤ 6 := hR.1.2
  have eT : g b.1 4 = nI T := hR.2.1.1
  have hT8 : T ≤ 8 := hR.2.1.2
  by_cases hx : (0 ≤ x ∧ x < g b.1 4) ∧ 0 ≤ y ∧ y ≤ 1
  · obtain ⟨d, hd, rfl⟩ := xin (n := T) (by omega) ⟨hx.1.1, by rw [← eT]; exact hx.1.2⟩
    obtain ⟨t, ht, rfl⟩ := xinl (n := 1) (by omega) hx.2
    exact xCo.mk (c_X11_term_ok hb1 hR hp hd (by omega)) (xAg_r b g)
  · exact xCo.mk (c_X11_term_bad hb1 hx) (xAg_r b g)

theorem k_deed (hI : xIc b g G T Lw m) : xCo Value.int 93 [.int x, .int y] b g l := by
  obtain ⟨hb, hp, hR, htx, ⟨hs, hm⟩, hD, hK, hZ, hY⟩ := hI
  obtain ⟨hb1, hb2⟩ := xro_b hb
  have hq := xb2 hb
  have hbv : b.1 = 7 ∨ b.1 = 11 := by omega
  have hbw : b.2 = 7 ∨ b.2 = 11 := by omega
  have eG : g b.1 2 = nI G := hR.1.1
  have hG6 : G ≤ 6 := hR.1.2
  have eT : g b.1 4 = nI T := hR.2.1.1
  have hT8 : T ≤ 8 := hR.2.1.2
  by_cases hx : (0 ≤ x ∧ x < g 4 1) ∧ 0 ≤ y ∧ y ≤ 3
  · obtain ⟨d, hd, rfl⟩ := xin (n := m) (by omega) ⟨hx.1.1, by rw [← hs]; exact hx.1.2⟩
    obtain ⟨t, ht, rfl⟩ := xinl (n := 3) (by omega) hx.2
    exact xCo.mk (c_X11_deed_ok hs hm hd (by omega)) (xAg_u hbw (Or.inl rfl))
  · exact xCo.mk (c_X11_deed_bad hx) (xAg_r b g)

theorem k_broken (hI : xIc b g G T Lw m) : xCo Value.int 94 [] b g l := by
  obtain ⟨hb, hp, hR, htx, ⟨hs, hm⟩, hD, hK, hZ, hY⟩ := hI
  obtain ⟨hb1, hb2⟩ := xro_b hb
  have hq := xb2 hb
  have hbv : b.1 = 7 ∨ b.1 = 11 := by omega
  have hbw : b.2 = 7 ∨ b.2 = 11 := by omega
  have eG : g b.1 2 = nI G := hR.1.1
  have hG6 : G ≤ 6 := hR.1.2
  have eT : g b.1 4 = nI T := hR.2.1.1
  have hT8 : T ≤ 8 := hR.2.1.2
  exact xCo.mk (c_X11_broken_ok hs hm) (xAg_u hbw (Or.inl rfl))

theorem k_breaks (hI : xIc b g G T Lw m) : xCo Value.int 99 [.int x, .int y] b g l := by
  obtain ⟨hb, hp, hR, htx, ⟨hs, hm⟩, hD, hK, hZ, hY⟩ := hI
  obtain ⟨hb1, hb2⟩ := xro_b hb
  have hq := xb2 hb
  have hbv : b.1 = 7 ∨ b.1 = 11 := by omega
  have hbw : b.2 = 7 ∨ b.2 = 11 := by omega
  have eG : g b.1 2 = nI G := hR.1.1
  have hG6 : G ≤ 6 := hR.1.2
  have eT : g b.1 4 = nI T := hR.2.1.1
  have hT8 : T ≤ 8 := hR.2.1.2
  by_cases hx : (0 ≤ x ∧ x < g b.1 2) ∧ 0 ≤ y ∧ y < 6
  · obtain ⟨s, hk, rfl⟩ := xin (n := G) (by omega) ⟨hx.1.1, by rw [← eG]; exact hx.1.2⟩
    obtain ⟨t, ht, rfl⟩ := xin (n := 6) (by omega) hx.2
    by_cases hf : xfos (g (23 + 2 * t) 1) (g (23 + 2 * t + 1)) 12 = 0
    · obtain ⟨m1, e, h12, _, hxs⟩ := xfos_0 (hZ t ht) (by decide) (by decide) hf
      exact xCo.mk (c_X11_breaks_ok hb1 hR hp hk ht e h12 hf hxs) (xAg_u hbw (Or.inl rfl))
    · exact xCo.mk (c_X11_breaks_ref hb1 hR hk ht (hZ t ht) hf) (xAg_C hbw _)
  · exact xCo.mk (c_X11_breaks_bad hb1 hx) (xAg_r b g)

theorem k_alike (hI : xIc b g G T Lw m) : xCo Value.int 100 [.int x, .int y] b g l := by
  obtain ⟨hb, hp, hR, htx, ⟨hs, hm⟩, hD, hK, hZ, hY⟩ := hI
  obtain ⟨hb1, hb2⟩ := xro_b hb
  have hq := xb2 hb
  have hbv : b.1 = 7 ∨ b.1 = 11 := by omega
  have hbw : b.2 = 7 ∨ b.2 = 11 := by omega
  have eG : g b.1 2 = nI G := hR.1.1
  have hG6 : G ≤ 6 := hR.1.2
  have eT : g b.1 4 = nI T := hR.2.1.1
  have hT8 : T ≤ 8 := hR.2.1.2
  by_cases hx : (0 ≤ x ∧ x < g b.1 2) ∧ 0 ≤ y ∧ y < 6
  · obtain ⟨s, hk, rfl⟩ := xin (n := G) (by omega) ⟨hx.1.1, by rw [← eG]; exact hx.1.2⟩
    obtain ⟨t, ht, rfl⟩ := xin (n := 6) (by omega) hx.2
    by_cases hf : xfos (g (23 + 2 * t) 1) (g (23 + 2 * t + 1)) 12 = 0
    · obtain ⟨m1, e, h12, _, hxs⟩ := xfos_0 (hZ t ht) (by decide) (by decide) hf
      exact xCo.mk (c_X11_alike_ok hb1 hR hp hk ht e h12 hf hxs) (xAg_r b g)
    · exact xCo.mk (c_X11_alike_ref hb1 hR hk ht (hZ t ht) hf) (xAg_C hbw _)
  · exact xCo.mk (c_X11_alike_bad hb1 hx) (xAg_r b g)

theorem k_ways (hI : xIc b g G T Lw m) : xCo Value.int 102 [.int x, .int y] b g l := by
  obtain ⟨hb, hp, hR, htx, ⟨hs, hm⟩, hD, hK, hZ, hY⟩ := hI
  obtain ⟨hb1, hb2⟩ := xro_b hb
  have hq := xb2 hb
  have hbv : b.1 = 7 ∨ b.1 = 11 := by omega
  have hbw : b.2 = 7 ∨ b.2 = 11 := by omega
  have eG : g b.1 2 = nI G := hR.1.1
  have hG6 : G ≤ 6 := hR.1.2
  have eT : g b.1 4 = nI T := hR.2.1.1
  have hT8 : T ≤ 8 := hR.2.1.2
  by_cases hx : (0 ≤ x ∧ x < g b.1 2) ∧ 0 ≤ y ∧ y < 6
  · obtain ⟨s, hk, rfl⟩ := xin (n := G) (by omega) ⟨hx.1.1, by rw [← eG]; exact hx.1.2⟩
    obtain ⟨t, ht, rfl⟩ := xin (n := 6) (by omega) hx.2
    by_cases hf : xfos (g (23 + 2 * t) 1) (g (23 + 2 * t + 1)) 6 = 0
    · obtain ⟨m1, e, h12, _, hxs⟩ := xfos_0 (hZ t ht) (by decide) (by decide) hf
      exact xCo.mk (c_X11_ways_ok hb1 hR hp hbv hk ht e h12 hf hxs) (xAg_gs hbw (by unfold xSc; omega))
    · exact xCo.mk (c_X11_ways_ref hb1 hR hk ht (hZ t ht) hf) (xAg_C hbw _)
  · exact xCo.mk (c_X11_ways_bad hb1 hx) (xAg_r b g)



theorem k_can (hI : xIc b g G T Lw m) : xCo Value.int 104 [.int x, .int y, .int z] b g l := by
  obtain ⟨hb, hp, hR, htx, ⟨hs, hm⟩, hD, hK, hZ, hY⟩ := hI
  obtain ⟨hb1, hb2⟩ := xro_b hb
  have hq := xb2 hb
  have hbv : b.1 = 7 ∨ b.1 = 11 := by omega
  have hbw : b.2 = 7 ∨ b.2 = 11 := by omega
  have eG : g b.1 2 = nI G := hR.1.1
  have hG6 : G ≤ 6 := hR.1.2
  have eT : g b.1 4 = nI T := hR.2.1.1
  have hT8 : T ≤ 8 := hR.2.1.2
  by_cases hx : (0 ≤ x ∧ x < g b.1 2) ∧ (0 ≤ y ∧ y < 6) ∧ 0 ≤ z
  · obtain ⟨s, hk, rfl⟩ := xin (n := G) (by omega) ⟨hx.1.1, by rw [← eG]; exact hx.1.2⟩
    obtain ⟨t, ht, rfl⟩ := xin (n := 6) (by omega) hx.2.1
    obtain ⟨d, hd31, rfl⟩ := nI_of (Int32.not_lt.mpr hx.2.2)
    by_cases hf : xfos (g (23 + 2 * t) 1) (g (23 + 2 * t + 1)) 6 = 0
    · obtain ⟨m1, e, h12, _, hxs⟩ := xfos_0 (hZ t ht) (by decide) (by decide) hf
      by_cases hd : d < m1
      · exact xCo.mk (c_X11_can_ok hb1 hR hp hbv hk ht e h12 hf hxs hd) (xAg_gs hbw (by unfold xSc; omega))
      · exact xCo.mk (c_X11_can_bad2 hb1 hR hk ht e h12 hf hxs hd31 hd) (xAg_r b g)
    · exact xCo.mk (c_X11_can_ref hb1 hR hk ht (hZ t ht) hd31 hf) (xAg_C hbw _)
  · exact xCo.mk (c_X11_can_bad hb1 hx) (xAg_r b g)

theorem k_odds (hI : xIc b g G T Lw m) : xCo Value.int 112 [.int x, .int y, .int z] b g l := by
  obtain ⟨hb, hp, hR, htx, ⟨hs, hm⟩, hD, hK, hZ, hY⟩ := hI
  obtain ⟨hb1, hb2⟩ := xro_b hb
  have hq := xb2 hb
  have hbv : b.1 = 7 ∨ b.1 = 11 := by omega
  have hbw : b.2 = 7 ∨ b.2 = 11 := by omega
  have eG : g b.1 2 = nI G := hR.1.1
  have hG6 : G ≤ 6 := hR.1.2
  have eT : g b.1 4 = nI T := hR.2.1.1
  have hT8 : T ≤ 8 := hR.2.1.2
  by_cases hx : (0 ≤ x ∧ x < g b.1 2) ∧ (0 ≤ y ∧ y < 6) ∧ 0 ≤ z ∧ z ≤ 12
  · obtain ⟨s, hk, rfl⟩ := xin (n := G) (by omega) ⟨hx.1.1, by rw [← eG]; exact hx.1.2⟩
    obtain ⟨t, ht, rfl⟩ := xin (n := 6) (by omega) hx.2.1
    obtain ⟨e1, he, rfl⟩ := xinl (n := 12) (by omega) hx.2.2
    by_cases hf : xfos (g (23 + 2 * t) 1) (g (23 + 2 * t + 1)) 12 = 0
    · obtain ⟨m1, e, h12, _, hxs⟩ := xfos_0 (hZ t ht) (by decide) (by decide) hf
      exact xCo.mk (c_X11_odds_ok hb1 hR hp hk ht he e h12 hf hxs) (xAg_r b g)
    · exact xCo.mk (c_X11_odds_ref hb1 hR hk ht (hZ t ht) he hf) (xAg_C hbw _)
  · exact xCo.mk (c_X11_odds_bad hb1 hx) (xAg_r b g)

theorem k_mid (hI : xIc b g G T Lw m) : xCo Value.int 113 [.int x, .int y, .int z] b g l := by
  obtain ⟨hb, hp, hR, htx, ⟨hs, hm⟩, hD, hK, hZ, hY⟩ := hI
  obtain ⟨hb1, hb2⟩ := xro_b hb
  have hq := xb2 hb
  have hbv : b.1 = 7 ∨ b.1 = 11 := by omega
  have hbw : b.2 = 7 ∨ b.2 = 11 := by omega
  have eG : g b.1 2 = nI G := hR.1.1
  have hG6 : G ≤ 6 := hR.1.2
  have eT : g b.1 4 = nI T := hR.2.1.1
  have hT8 : T ≤ 8 := hR.2.1.2
  by_cases hx : (0 ≤ x ∧ x < g b.1 2) ∧ (0 ≤ y ∧ y < 6) ∧ 0 ≤ z ∧ z ≤ 12
  · obtain ⟨s, hk, rfl⟩ := xin (n := G) (by omega) ⟨hx.1.1, by rw [← eG]; exact hx.1.2⟩
    obtain ⟨t, ht, rfl⟩ := xin (n := 6) (by omega) hx.2.1
    obtain ⟨e1, he, rfl⟩ := xinl (n := 12) (by omega) hx.2.2
    by_cases hf : xfos (g (23 + 2 * t) 1) (g (23 + 2 * t + 1)) 12 = 0
    · obtain ⟨m1, e, h12, _, hxs⟩ := xfos_0 (hZ t ht) (by decide) (by decide) hf
      exact xCo.mk (c_X11_mid_ok hb1 hR hp hk ht he e h12 hf hxs) (xAg_r b g)
    · exact xCo.mk (c_X11_mid_ref hb1 hR hk ht (hZ t ht) he hf) (xAg_C hbw _)
  · exact xCo.mk (c_X11_mid_bad hb1 hx) (xAg_r b g)

theorem k_he (hI : xIc b g G T Lw m) : xCo Value.int 107 [.int x, .int y, .int z] b g l := by
  obtain ⟨hb, hp, hR, htx, ⟨hs, hm⟩, hD, hK, hZ, hY⟩ := hI
  obtain ⟨hb1, hb2⟩ := xro_b hb
  have hq := xb2 hb
  have hbv : b.1 = 7 ∨ b.1 = 11 := by omega
  have hbw : b.2 = 7 ∨ b.2 = 11 := by omega
  have eG : g b.1 2 = nI G := hR.1.1
  have hG6 : G ≤ 6 := hR.1.2
  have eT : g b.1 4 = nI T := hR.2.1.1
  have hT8 : T ≤ 8 := hR.2.1.2
  by_cases hx : (0 ≤ x ∧ x < g b.1 2) ∧ (0 ≤ y ∧ y < 6) ∧ 0 ≤ z ∧ z < 6
  · obtain ⟨s, hk, rfl⟩ := xin (n := G) (by omega) ⟨hx.1.1, by rw [← eG]; exact hx.1.2⟩
    obtain ⟨t, ht, rfl⟩ := xin (n := 6) (by omega) hx.2.1
    obtain ⟨p, hp1, rfl⟩ := xin (n := 6) (by omega) hx.2.2
    by_cases hf : xfop (g (23 + 2 * t) 1) (g (23 + 2 * t + 1)) (g (23 + 2 * p) 1) (g (23 + 2 * p + 1)) 12 = 0
    · obtain ⟨f1, f2, f3⟩ := xfop_0 hf
      obtain ⟨m1, e, h12, _, hxs⟩ := xfos_0 (hZ t ht) (by decide) (by decide) f1
      obtain ⟨m2, e2, _, h40, hxs2⟩ := xfos_0 (hZ p hp1) (by decide) (by decide) f2
      obtain rfl : m1 = m2 := nI_inj (by omega) (by omega) (by rw [← e, f3, e2])
      exact xCo.mk (c_X11_he_ok hb1 hR hp hk ht hp1 e e2 h12 hf hxs hxs2) (xAg_u hbw (Or.inl rfl))
    · exact xCo.mk (c_X11_he_ref hb1 hR hk ht (hZ t ht) hp1 (hZ p hp1) hf) (xAg_C hbw _)
  · exact xCo.mk (c_X11_he_bad hb1 hx) (xAg_r b g)

theorem k_fit (hI : xIc b g G T Lw m) : xCo Value.int 101 [.int x, .int y] b g l := by
  obtain ⟨hb, hp, hR, htx, ⟨hs, hm⟩, hD, hK, hZ, hY⟩ := hI
  obtain ⟨hb1, hb2⟩ := xro_b hb
  have hq := xb2 hb
  have hbv : b.1 = 7 ∨ b.1 = 11 := by omega
  have hbw : b.2 = 7 ∨ b.2 = 11 := by omega
  have eG : g b.1 2 = nI G := hR.1.1
  have hG6 : G ≤ 6 := hR.1.2
  have eT : g b.1 4 = nI T := hR.2.1.1
  have hT8 : T ≤ 8 := hR.2.1.2
  by_cases hx : (0 ≤ x ∧ x < 6) ∧ 0 ≤ y ∧ y < 6
  · obtain ⟨t, ht, rfl⟩ := xin (n := 6) (by omega) hx.1
    obtain ⟨p, hp1, rfl⟩ := xin (n := 6) (by omega) hx.2
    by_cases hf : xfop (g (23 + 2 * t) 1) (g (23 + 2 * t + 1)) (g (23 + 2 * p) 1) (g (23 + 2 * p + 1)) 12 = 0
    · obtain ⟨f1, f2, f3⟩ := xfop_0 hf
      obtain ⟨m1, e, h12, _, hxs⟩ := xfos_0 (hZ t ht) (by decide) (by decide) f1
      obtain ⟨m2, e2, _, h40, hxs2⟩ := xfos_0 (hZ p hp1) (by decide) (by decide) f2
      obtain rfl : m1 = m2 := nI_inj (by omega) (by omega) (by rw [← e, f3, e2])
      exact xCo.mk (c_X11_fit_ok ht hp1 e e2 h12 hf hxs hxs2) (xAg_u hbw (Or.inl rfl))
    · exact xCo.mk (c_X11_fit_ref ht (hZ t ht) hp1 (hZ p hp1) hf) (xAg_C hbw _)
  · exact xCo.mk (c_X11_fit_bad hx) (xAg_r b g)

theorem k_laws (hI : xIc b g G T Lw m) : xCo Value.int 105 [.int x, .int y] b g l := by
  obtain ⟨hb, hp, hR, htx, ⟨hs, hm⟩, hD, hK, hZ, hY⟩ := hI
  obtain ⟨hb1, hb2⟩ := xro_b hb
  have hq := xb2 hb
  have hbv : b.1 = 7 ∨ b.1 = 11 := by omega
  have hbw : b.2 = 7 ∨ b.2 = 11 := by omega
  have eG : g b.1 2 = nI G := hR.1.1
  have hG6 : G ≤ 6 := hR.1.2
  have eT : g b.1 4 = nI T := hR.2.1.1
  have hT8 : T ≤ 8 := hR.2.1.2
  by_cases hx : (0 ≤ x ∧ x < 6) ∧ 0 ≤ y ∧ y < 6
  · obtain ⟨t, ht, rfl⟩ := xin (n := 6) (by omega) hx.1
    obtain ⟨p, hp1, rfl⟩ := xin (n := 6) (by omega) hx.2
    by_cases hf : xfop (g (23 + 2 * t) 1) (g (23 + 2 * t + 1)) (g (23 + 2 * p) 1) (g (23 + 2 * p + 1)) 12 = 0
    · obtain ⟨f1, f2, f3⟩ := xfop_0 hf
      obtain ⟨m1, e, h12, _, hxs⟩ := xfos_0 (hZ t ht) (by decide) (by decide) f1
      obtain ⟨m2, e2, _, h40, hxs2⟩ := xfos_0 (hZ p hp1) (by decide) (by decide) f2
      obtain rfl : m1 = m2 := nI_inj (by omega) (by omega) (by rw [← e, f3, e2])
      exact xCo.mk (c_X11_laws_ok hb1 hR hp ht hp1 e e2 h12 hf hxs hxs2) (xAg_r b g)
    · exact xCo.mk (c_X11_laws_ref ht (hZ t ht) hp1 (hZ p hp1) hf) (xAg_C hbw _)
  · exact xCo.mk (c_X11_laws_bad hx) (xAg_r b g)

theorem k_next (hI : xIc b g G T Lw m) : xCo Value.int 106 [.int x, .int y] b g l := by
  obtain ⟨hb, hp, hR, htx, ⟨hs, hm⟩, hD, hK, hZ, hY⟩ := hI
  obtain ⟨hb1, hb2⟩ := xro_b hb
  have hq := xb2 hb
  have hbv : b.1 = 7 ∨ b.1 = 11 := by omega
  have hbw : b.2 = 7 ∨ b.2 = 11 := by omega
  have eG : g b.1 2 = nI G := hR.1.1
  have hG6 : G ≤ 6 := hR.1.2
  have eT : g b.1 4 = nI T := hR.2.1.1
  have hT8 : T ≤ 8 := hR.2.1.2
  by_cases hx : (0 ≤ x ∧ x < 6) ∧ 0 ≤ y ∧ y < 6
  · obtain ⟨t, ht, rfl⟩ := xin (n := 6) (by omega) hx.1
    obtain ⟨p, hp1, rfl⟩ := xin (n := 6) (by omega) hx.2
    by_cases hf : xfop (g (23 + 2 * t) 1) (g (23 + 2 * t + 1)) (g (23 + 2 * p) 1) (g (23 + 2 * p + 1)) 11 = 0
    · obtain ⟨f1, f2, f3⟩ := xfop_0 hf
      obtain ⟨m1, e, h12, _, hxs⟩ := xfos_0 (hZ t ht) (by decide) (by decide) f1
      obtain ⟨m2, e2, _, h40, hxs2⟩ := xfos_0 (hZ p hp1) (by decide) (by decide) f2
      obtain rfl : m1 = m2 := nI_inj (by omega) (by omega) (by rw [← e, f3, e2])
      by_cases hbc : xbc (xbits (fun j => decide (xfst (fun i => !decide (xshw (g (b.1 + 1)) (j / 4) (j % 4) (fun i => xN (g (23 + 2 * t + 1) i)) i = g (23 + 2 * p + 1) i)) m1 = none)) 24) < 2
      · exact xCo.mk (c_X11_next_none hb1 hR hp ht hp1 e e2 h12 hf hxs hxs2 hbc) (xAg_r b g)
      · exact (c_X11_next_ok hb1 hR hp hbv ht hp1 e e2 h12 hf hxs hxs2 hbc).weak (fun r M w => by obtain ⟨S, ⟨e1, _, _⟩, e3, e4⟩ := w; exact ⟨_, _, _, e4, e3, xAg_t (xAg_s hbw (fun a ha => e1 a (by unfold xSc at ha; omega) (by unfold xSc at ha; omega) (by unfold xSc at ha; omega))) (xAg_u hbw (Or.inl rfl))⟩)
    · exact xCo.mk (c_X11_next_ref ht (hZ t ht) hp1 (hZ p hp1) hf) (xAg_C hbw _)
  · exact xCo.mk (c_X11_next_bad hx) (xAg_r b g)

theorem k_keeps (hI : xIc b g G T Lw m) : xCo Value.int 108 [.int x, .int y] b g l := by
  obtain ⟨hb, hp, hR, htx, ⟨hs, hm⟩, hD, hK, hZ, hY⟩ := hI
  obtain ⟨hb1, hb2⟩ := xro_b hb
  have hq := xb2 hb
  have hbv : b.1 = 7 ∨ b.1 = 11 := by omega
  have hbw : b.2 = 7 ∨ b.2 = 11 := by omega
  have eG : g b.1 2 = nI G := hR.1.1
  have hG6 : G ≤ 6 := hR.1.2
  have eT : g b.1 4 = nI T := hR.2.1.1
  have hT8 : T ≤ 8 := hR.2.1.2
  by_cases hx : (0 ≤ x ∧ x < nI G) ∧ 0 ≤ y ∧ y ≤ 5
  · obtain ⟨s, hk, rfl⟩ := xin (n := G) (by omega) hx.1
    obtain ⟨n, hn, rfl⟩ := xinl (n := 5) (by omega) hx.2
    exact (c_X11_keeps_ok hb1 (by omega) hR hp hk hn).weak (fun r M w => by obtain ⟨g1, e1, e2, e3⟩ := w; exact ⟨_, _, _, e3, e1, xAg_t (xAg_s hbw (fun a ha => e2 a (by unfold xSc at ha; omega) (by unfold xSc at ha; omega) (by unfold xSc at ha; omega))) (xAg_u hbw (Or.inl rfl))⟩)
  · exact xCo.mk (c_X11_keeps_bad hb1 hR hx) (xAg_r b g)

theorem k_still (hI : xIc b g G T Lw m) : xCo Value.int 109 [.int x, .int y] b g l := by
  obtain ⟨hb, hp, hR, htx, ⟨hs, hm⟩, hD, hK, hZ, hY⟩ := hI
  obtain ⟨hb1, hb2⟩ := xro_b hb
  have hq := xb2 hb
  have hbv : b.1 = 7 ∨ b.1 = 11 := by omega
  have hbw : b.2 = 7 ∨ b.2 = 11 := by omega
  have eG : g b.1 2 = nI G := hR.1.1
  have hG6 : G ≤ 6 := hR.1.2
  have eT : g b.1 4 = nI T := hR.2.1.1
  have hT8 : T ≤ 8 := hR.2.1.2
  by_cases hx : (0 ≤ x ∧ x < nI G) ∧ 0 ≤ y ∧ y ≤ 5
  · obtain ⟨s, hk, rfl⟩ := xin (n := G) (by omega) hx.1
    obtain ⟨n, hn, rfl⟩ := xinl (n := 5) (by omega) hx.2
    exact (c_X11_still_ok hb1 (by omega) hR hp hk hn).weak (fun r M w => by obtain ⟨g1, e1, e2, e3⟩ := w; exact ⟨_, _, _, e3, e1, xAg_s hbw (fun a ha => e2 a (by unfold xSc at ha; omega) (by unfold xSc at ha; omega) (by unfold xSc at ha; omega))⟩)
  · exact xCo.mk (c_X11_still_bad hb1 hR hx) (xAg_r b g)

theorem k_game (hI : xIc b g G T Lw m) : xCo Value.int 110 [.int x] b g l := by
  obtain ⟨hb, hp, hR, htx, ⟨hs, hm⟩, hD, hK, hZ, hY⟩ := hI
  obtain ⟨hb1, hb2⟩ := xro_b hb
  have hq := xb2 hb
  have hbv : b.1 = 7 ∨ b.1 = 11 := by omega
  have hbw : b.2 = 7 ∨ b.2 = 11 := by omega
  have eG : g b.1 2 = nI G := hR.1.1
  have hG6 : G ≤ 6 := hR.1.2
  have eT : g b.1 4 = nI T := hR.2.1.1
  have hT8 : T ≤ 8 := hR.2.1.2
  by_cases hx : 0 ≤ x ∧ x ≤ 3
  · obtain ⟨n, hn, rfl⟩ := xinl (n := 3) (by omega) hx
    by_cases hg : g b.1 2 = 0
    · exact xCo.mk (c_X11_game_state hb1 hn hg) (xAg_r b g)
    · by_cases h0 : n = 0
      · subst h0
        exact xCo.mk (c_X11_game_zero hb1 hg) (xAg_r b g)
      · exact (c_X11_game_ok hb1 hR hp hbv hn (by omega) hg).weak (fun r M w => by obtain ⟨g1, e2, e1, e3⟩ := w; exact ⟨_, _, _, e3, e1, xAg_s hbw (fun a ha => e2 a (by unfold xSc at ha; omega) (by unfold xSc at ha; omega))⟩)
  · exact xCo.mk (c_X11_game_bad hx) (xAg_r b g)

theorem k_picks (hI : xIc b g G T Lw m) : xCo Value.int 111 [.int x] b g l := by
  obtain ⟨hb, hp, hR, htx, ⟨hs, hm⟩, hD, hK, hZ, hY⟩ := hI
  obtain ⟨hb1, hb2⟩ := xro_b hb
  have hq := xb2 hb
  have hbv : b.1 = 7 ∨ b.1 = 11 := by omega
  have hbw : b.2 = 7 ∨ b.2 = 11 := by omega
  have eG : g b.1 2 = nI G := hR.1.1
  have hG6 : G ≤ 6 := hR.1.2
  have eT : g b.1 4 = nI T := hR.2.1.1
  have hT8 : T ≤ 8 := hR.2.1.2
  by_cases hx : 1 ≤ x ∧ x ≤ 3
  · obtain ⟨n, hn, rfl⟩ := xinl (n := 3) (by omega) ⟨Int32.le_trans (by decide) hx.1, hx.2⟩
    have h0 : 0 < n := (nI_leI (a := 1) (by omega) (by omega)).mp hx.1
    by_cases hg : g b.1 2 = 0
    · exact xCo.mk (c_X11_picks_state hb1 hn h0 hg) (xAg_r b g)
    · exact (c_X11_picks_ok hb1 hR hp hbv hn h0 hg).weak (fun r M w => by obtain ⟨g1, e2, e1, e3⟩ := w; exact ⟨_, _, _, e3, e1, xAg_s hbw (fun a ha => e2 a (by unfold xSc at ha; omega) (by unfold xSc at ha; omega))⟩)
  · exact xCo.mk (c_X11_picks_bad hx) (xAg_r b g)

theorem k_asked (hI : xIc b g G T Lw m) : xCo Value.int 115 [] b g l := by
  obtain ⟨hb, hp, hR, htx, ⟨hs, hm⟩, hD, hK, hZ, hY⟩ := hI
  obtain ⟨hb1, hb2⟩ := xro_b hb
  have hq := xb2 hb
  have hbv : b.1 = 7 ∨ b.1 = 11 := by omega
  have hbw : b.2 = 7 ∨ b.2 = 11 := by omega
  have eG : g b.1 2 = nI G := hR.1.1
  have hG6 : G ≤ 6 := hR.1.2
  have eT : g b.1 4 = nI T := hR.2.1.1
  have hT8 : T ≤ 8 := hR.2.1.2
  exact xCo.mk (c_X11_asked) (xAg_r b g)

theorem k_upper (hI : xIc b g G T Lw m) : xCo Value.long 116 [] b g l := by
  obtain ⟨hb, hp, hR, htx, ⟨hs, hm⟩, hD, hK, hZ, hY⟩ := hI
  obtain ⟨hb1, hb2⟩ := xro_b hb
  have hq := xb2 hb
  have hbv : b.1 = 7 ∨ b.1 = 11 := by omega
  have hbw : b.2 = 7 ∨ b.2 = 11 := by omega
  have eG : g b.1 2 = nI G := hR.1.1
  have hG6 : G ≤ 6 := hR.1.2
  have eT : g b.1 4 = nI T := hR.2.1.1
  have hT8 : T ≤ 8 := hR.2.1.2
  exact xCo.mk (c_X11_upper) (xAg_r b g)

theorem k_lower (hI : xIc b g G T Lw m) : xCo Value.long 117 [] b g l := by
  obtain ⟨hb, hp, hR, htx, ⟨hs, hm⟩, hD, hK, hZ, hY⟩ := hI
  obtain ⟨hb1, hb2⟩ := xro_b hb
  have hq := xb2 hb
  have hbv : b.1 = 7 ∨ b.1 = 11 := by omega
  have hbw : b.2 = 7 ∨ b.2 = 11 := by omega
  have eG : g b.1 2 = nI G := hR.1.1
  have hG6 : G ≤ 6 := hR.1.2
  have eT : g b.1 4 = nI T := hR.2.1.1
  have hT8 : T ≤ 8 := hR.2.1.2
  exact xCo.mk (c_X11_lower) (xAg_r b g)

theorem k_finding (hI : xIc b g G T Lw m) : xCo Value.int 119 [] b g l := by
  obtain ⟨hb, hp, hR, htx, ⟨hs, hm⟩, hD, hK, hZ, hY⟩ := hI
  obtain ⟨hb1, hb2⟩ := xro_b hb
  have hq := xb2 hb
  have hbv : b.1 = 7 ∨ b.1 = 11 := by omega
  have hbw : b.2 = 7 ∨ b.2 = 11 := by omega
  have eG : g b.1 2 = nI G := hR.1.1
  have hG6 : G ≤ 6 := hR.1.2
  have eT : g b.1 4 = nI T := hR.2.1.1
  have hT8 : T ≤ 8 := hR.2.1.2
  exact xCo.mk (c_X11_finding) (xAg_r b g)

theorem k_count (hI : xIc b g G T Lw m) : xCo Value.int 118 [.int x] b g l := by
  obtain ⟨hb, hp, hR, htx, ⟨hs, hm⟩, hD, hK, hZ, hY⟩ := hI
  obtain ⟨hb1, hb2⟩ := xro_b hb
  have hq := xb2 hb
  have hbv : b.1 = 7 ∨ b.1 = 11 := by omega
  have hbw : b.2 = 7 ∨ b.2 = 11 := by omega
  have eG : g b.1 2 = nI G := hR.1.1
  have hG6 : G ≤ 6 := hR.1.2
  have eT : g b.1 4 = nI T := hR.2.1.1
  have hT8 : T ≤ 8 := hR.2.1.2
  by_cases hx : 0 ≤ x ∧ x < 9
  · obtain ⟨t, ht, rfl⟩ := xin (n := 9) (by omega) hx
    exact xCo.mk (c_X11_count hb1 hR hp hs hm ht) (xAg_r b g)
  · exact xCo.mk (c_X11_count_bad hx) (xAg_r b g)

theorem k_findings (hI : xIc b g G T Lw m) : xCo Value.int 120 [.int x] b g l := by
  obtain ⟨hb, hp, hR, htx, ⟨hs, hm⟩, hD, hK, hZ, hY⟩ := hI
  obtain ⟨hb1, hb2⟩ := xro_b hb
  have hq := xb2 hb
  have hbv : b.1 = 7 ∨ b.1 = 11 := by omega
  have hbw : b.2 = 7 ∨ b.2 = 11 := by omega
  have eG : g b.1 2 = nI G := hR.1.1
  have hG6 : G ≤ 6 := hR.1.2
  have eT : g b.1 4 = nI T := hR.2.1.1
  have hT8 : T ≤ 8 := hR.2.1.2
  by_cases hx : 1 ≤ x ∧ x ≤ 5
  · obtain ⟨t, ht1, ht, rfl⟩ := nI_1le hx
    exact xCo.mk (c_X11_findings_ok ht1 ht) (xAg_r b g)
  · exact xCo.mk (c_X11_findings_bad hx) (xAg_r b g)

theorem k_digest (hI : xIc b g G T Lw m) : xCo Value.long 121 [] b g l := by
  obtain ⟨hb, hp, hR, htx, ⟨hs, hm⟩, hD, hK, hZ, hY⟩ := hI
  obtain ⟨hb1, hb2⟩ := xro_b hb
  have hq := xb2 hb
  have hbv : b.1 = 7 ∨ b.1 = 11 := by omega
  have hbw : b.2 = 7 ∨ b.2 = 11 := by omega
  have eG : g b.1 2 = nI G := hR.1.1
  have hG6 : G ≤ 6 := hR.1.2
  have eT : g b.1 4 = nI T := hR.2.1.1
  have hT8 : T ≤ 8 := hR.2.1.2
  exact xCo.mk (c_X11_digest hb1 hR hp hs hm hZ hY) (xAg_r b g)

end
