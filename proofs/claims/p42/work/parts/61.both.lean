/-! step, keep, on, lots: both calls -/
section
variable {b : Nat × Nat} {g g' : Nat → Nat → Int32} {l : Nat → Nat → Int64} {G T m : Nat} {Lw : Nat → Nat} {x y z i j v : Int32}

theorem xJ_de (hI : xIc b g G T Lw m) (hJ : xIr b g G T Lw m) {n : Nat} (hn : n ≤ 40) (e0 : ∀ a, a ≠ 4 → a ≠ 5 → a ≠ 73 → a ≠ 84 → a ≠ 85 → g' a = g a) (h4 : g' 4 1 = nI n) (e73 : ∀ i, i ≠ 14 → g' 73 i = g 73 i) (h14 : g' 73 14 = nI n) (hV : xFv (g (b.1 + 1)) (g (b.1 + 3)) T G Lw (g' 5) n) (h8 : ∀ d, d < n → g' 84 d = g' 5 (4 * d) ∧ g' 85 d = g' 5 (4 * d + 1)) : xJ b g' := by
  obtain ⟨hb, hp, hR, htx, ⟨hs, hm⟩, hD, hK, hZ, hY⟩ := hI
  obtain ⟨hRr, hsr, hDr, hKr, hZr, hYr⟩ := hJ
  have hq := xb2 hb
  have e1 : g' (b.1 + 1) = g (b.1 + 1) := e0 _ (by omega) (by omega) (by omega) (by omega) (by omega)
  have e3 : g' (b.1 + 3) = g (b.1 + 3) := e0 _ (by omega) (by omega) (by omega) (by omega) (by omega)
  have ez : ∀ a, (23 ≤ a ∧ a < 73) ∨ (74 ≤ a ∧ a < 84) ∨ 86 ≤ a → g' a = g a := fun a ha => e0 a (by omega) (by omega) (by omega) (by omega) (by omega)
  refine ⟨G, T, Lw, n, ⟨hb, xpn_fr (fun i h1 h2 => ez i (by omega)) hp, xRm_fr (fun i h1 h2 => e0 i (by omega) (by omega) (by omega) (by omega) (by omega)) hR, by rw [e3]; exact htx, ⟨h4, hn⟩, by rw [e1, e3]; exact xDk_of hV, fun k hk => ?_, fun r hr => by rw [ez _ (by omega)]; exact hZ r hr, fun r hr => by rw [ez _ (by omega)]; exact hY r hr⟩, ⟨by rw [e1, e3]; exact xRr_fr (e73 _ (by decide)) (e73 _ (by decide)) (ez _ (by omega)) (ez _ (by omega)) (ez _ (by omega)) hRr, h14, by rw [e1, e3]; exact xDr_mk hV h8, fun k hk => ?_, fun r hr => by rw [ez 74 (by omega), ez 75 (by omega), ez (23 + 2 * r) (by omega), ez (23 + 2 * r + 1) (by omega)]; exact hZr r hr, fun r hr => ?_⟩⟩
  · rw [ez (67 + 2 * k) (by omega), e1, e3]
    rcases hK k hk with z | ⟨n, z1, z2, z3⟩
    · exact Or.inl z
    · exact Or.inr ⟨n, z1, z2, xDk_fr (ez (67 + 2 * k + 1) (by omega)) z3⟩
  · rw [ez 86 (by omega), ez 87 (by omega), ez 88 (by omega), ez (67 + 2 * k) (by omega), ez (67 + 2 * k + 1) (by omega)]
    exact hKr k hk
  · rw [ez 76 (by omega), ez 77 (by omega), ez (35 + 2 * r) (by omega), ez (35 + 2 * r + 1) (by omega)]
    exact hYr r hr

theorem j_step (hJ : xJ b g) : xJ2 Value.int True 92 192 [.int x, .int y] b g l := by
  have hJ1 := hJ
  obtain ⟨G, T, Lw, m, hI, hJr⟩ := hJ
  have hI0 := hI
  have hJ0 := hJr
  obtain ⟨hb, hp, hR, htx, ⟨hs, hm⟩, hD, hK, hZ, hY⟩ := hI
  obtain ⟨hRr, hsr, hDr, hKr, hZr, hYr⟩ := hJr
  obtain ⟨hb1, hb2⟩ := xro_b hb
  have hq := xb2 hb
  have hbv : b.1 = 7 ∨ b.1 = 11 := by omega
  have hbw : b.2 = 7 ∨ b.2 = 11 := by omega
  have eG : g b.1 2 = nI G := hR.1.1
  have hG6 : G ≤ 6 := hR.1.2
  have eGr : g 73 10 = nI G := hRr.1.1
  by_cases hx : (0 ≤ x ∧ x < g b.1 2) ∧ 0 ≤ y ∧ y < 6
  · obtain ⟨t, hk, rfl⟩ := xin (n := G) (by omega) ⟨hx.1.1, by rw [← eG]; exact hx.1.2⟩
    obtain ⟨s, hs6, rfl⟩ := xin (n := 6) (by omega) hx.2
    by_cases h40 : m = 40
    · subst h40
      exact xJ2.mk (c_X11_step_full hb1 hR hp hs hk hs6) (c_X12_step_full hRr hsr hk hs6) (hJ1) (fun _ => rfl)
    have hm4 : m < 40 := by omega
    have hx5 := xDk_x hD
    have hdo := xDk_do hD hs6 hk
    generalize ev : xshw (g (b.1 + 1)) (Lw t / 4) (Lw t % 4) (fun i => if i = m then s else xN (g 5 (4 * i))) m = w at hdo
    generalize ez : xfI (xfb (g (b.1 + 3)) T (nI s) w) = q at hdo
    have hc := c_X11_step_ok (k := 4) (l := l) hb1 hR hp hbv hs hm4 hx5 hk hs6
    rw [ev, ez] at hc
    have hd5 := @xdo_5 g m (nI s) (nI t) w q
    have hna : ∀ a, a ≠ 4 → a ≠ 5 → xdo g m (nI s) (nI t) w q a = g a := fun a h4 h5 => xdo_na h4 h5
    have hV : xFv (g (b.1 + 1)) (g (b.1 + 3)) T G Lw (xdo g m (nI s) (nI t) w q 5) (m + 1) := xDk_Fv hdo
    have hDm : xDr (xdo g m (nI s) (nI t) w q) (g (b.1 + 1)) (g (b.1 + 3)) T G Lw (xdo g m (nI s) (nI t) w q 5) m := xDr_mk (xFv_le hV (by omega)) (fun d hd => by
      rw [hna 84 (by decide) (by decide), hna 85 (by decide) (by decide), xdo_o (by omega), xdo_o (by omega)]
      exact xDr_8 hDr d hd)
    have hRx : xRr (xdo g m (nI s) (nI t) w q) (g (b.1 + 1)) (g (b.1 + 3)) G T Lw := xRr_fr (by rw [hna 73 (by decide) (by decide)]) (by rw [hna 73 (by decide) (by decide)]) (hna _ (by decide) (by decide)) (hna _ (by decide) (by decide)) (hna _ (by decide) (by decide)) hRr
    refine xJ2.mk hc (c_X12_step_ok hRx (by rw [hna 73 (by decide) (by decide)]; exact hsr) hm4 hDm hk hs6) (xJ_de hI0 hJ0 (n := m + 1) (by omega) (fun a h1 h2 h3 h4 h5 => by rw [up_na h3, up_na h5, up_na h4]; exact hna a h1 h2) (by rw [up_na (by decide), up_na (by decide), up_na (by decide)]; exact xdo_41) (fun i hi => by rw [up_ne (Or.inr hi), up_na (by decide), up_na (by decide), hna 73 (by decide) (by decide)]) (by rw [up_same]) (by rw [up_na (by decide), up_na (by decide), up_na (by decide)]; exact hV) (fun d hd => ?_)) (fun _ => ?_)
    · have k5 : up (up (up (xdo g m (nI s) (nI t) w q) 84 m (nI s)) 85 m (nI t)) 73 14 (nI (m + 1)) 5 = xdo g m (nI s) (nI t) w q 5 := by rw [up_na (by decide), up_na (by decide), up_na (by decide)]
      rw [k5]
      by_cases e : d = m
      · subst e
        exact ⟨by rw [up_na (by decide), up_na (by decide), up_same, hd5.1], by rw [up_na (by decide), up_same, hd5.2.1]⟩
      · have z := xDr_8 hDm d (by omega)
        exact ⟨by rw [up_na (by decide), up_na (by decide), up_ne (Or.inr e)]; exact z.1, by rw [up_na (by decide), up_ne (Or.inr e), up_na (by decide)]; exact z.2⟩
    · refine Eq.trans (xshw_c (F' := fun i => if i = m then s else xN (g 5 (4 * i))) (fun j hj => ?_)) ev
      show (if j = m then s else xN (xdo g m (nI s) (nI t) w q 5 (4 * j))) = (if j = m then s else xN (g 5 (4 * j)))
      by_cases e : j = m
      · rw [if_pos e, if_pos e]
      · rw [if_neg e, if_neg e, xdo_o (by omega)]
  · exact xJ2.mk (c_X11_step_bad hb1 hx) (c_X12_step_bad hRr (by rw [← eG]; exact hx)) (hJ1) (fun _ => rfl)

theorem j_on (hJ : xJ b g) : xJ2 Value.int True 97 198 [.int x] b g l := by
  have hJ1 := hJ
  obtain ⟨G, T, Lw, m, hI, hJr⟩ := hJ
  have hI0 := hI
  have hJ0 := hJr
  obtain ⟨hb, hp, hR, htx, ⟨hs, hm⟩, hD, hK, hZ, hY⟩ := hI
  obtain ⟨hRr, hsr, hDr, hKr, hZr, hYr⟩ := hJr
  obtain ⟨hb1, hb2⟩ := xro_b hb
  have hq := xb2 hb
  have hbv : b.1 = 7 ∨ b.1 = 11 := by omega
  have hbw : b.2 = 7 ∨ b.2 = 11 := by omega
  have eG : g b.1 2 = nI G := hR.1.1
  have hG6 : G ≤ 6 := hR.1.2
  have eGr : g 73 10 = nI G := hRr.1.1
  by_cases hx : 0 ≤ x ∧ x < 3
  · obtain ⟨t, ht, rfl⟩ := xin (n := 3) (by omega) hx
    rcases hK t ht with e | ⟨n, hn, e, hDn⟩
    · exact xJ2.mk (c_X11_on_no ht e) (c_X12_on_no ht (by unfold xfC; rw [up_na (by decide), up_na (by decide), (hKr t ht).1]; exact e)) (xJ_ag (xAg_t (xAg_C hbw _) (xAg_R _)) hJ1) (fun _ => rfl)
    have c0 : ∀ a, a ≠ 4 → a ≠ 5 → gcopy (up g 4 1 (nI n)) (67 + 2 * t + 1) 0 5 0 (4 * n) a = g a := fun a h1 h2 => by rw [gcopy_na h2, up_na h1]
    have c5 : ∀ i, i < 4 * n → gcopy (up g 4 1 (nI n)) (67 + 2 * t + 1) 0 5 0 (4 * n) 5 i = g (67 + 2 * t + 1) i := fun i hi => by
      have z := gcopy_in (g := up g 4 1 (nI n)) (sa := 67 + 2 * t + 1) (si := 0) (da := 5) (di := 0) hi
      rw [Nat.zero_add] at z
      rw [z, up_na (by omega)]
    have c41 : gcopy (up g 4 1 (nI n)) (67 + 2 * t + 1) 0 5 0 (4 * n) 4 1 = nI n := by rw [gcopy_na (by decide), up_same]
    have hc := c_X11_on_ok (k := 8) (b := b) (l := l) ht e hn
    generalize gcopy (up g 4 1 (nI n)) (67 + 2 * t + 1) 0 5 0 (4 * n) = g1 at c0 c5 c41 hc
    refine xJ2.mk hc (c_X12_on_ok (m := n) ht (by rw [c0 86 (by decide) (by decide), (hKr t ht).1]; exact e) hn) (xJ_de hI0 hJ0 hn (fun a h1 h2 h3 h4 h5 => by rw [gset_na h5, gset_na h4, up_na h3]; exact c0 a h1 h2) (by rw [gset_na (by decide), gset_na (by decide), up_na (by decide)]; exact c41) (fun i hi => by rw [gset_na (by decide), gset_na (by decide), up_ne (Or.inr hi), c0 73 (by decide) (by decide)]) (by rw [gset_na (by decide), gset_na (by decide), up_same]) (by rw [gset_na (by decide), gset_na (by decide), up_na (by decide)]; exact xFv_cp (xDk_Fv hDn) c5) (fun d hd => ?_)) (fun _ => rfl)
    have z := (hKr t ht).2 n hn e d hd
    rw [gset_in hd, gset_na (by decide), gset_in hd, gset_na (by decide), gset_na (by decide), up_na (by decide), c5 _ (by omega), c5 _ (by omega), c0 87 (by decide) (by decide), c0 88 (by decide) (by decide)]
    exact z
  · exact xJ2.mk (c_X11_on_bad hx) (c_X12_on_bad hx) (hJ1) (fun _ => rfl)

theorem j_keep (hJ : xJ b g) : xJ2 Value.int True 96 197 [.int x] b g l := by
  have hJ1 := hJ
  obtain ⟨G, T, Lw, m, hI, hJr⟩ := hJ
  have hI0 := hI
  have hJ0 := hJr
  obtain ⟨hb, hp, hR, htx, ⟨hs, hm⟩, hD, hK, hZ, hY⟩ := hI
  obtain ⟨hRr, hsr, hDr, hKr, hZr, hYr⟩ := hJr
  obtain ⟨hb1, hb2⟩ := xro_b hb
  have hq := xb2 hb
  have hbv : b.1 = 7 ∨ b.1 = 11 := by omega
  have hbw : b.2 = 7 ∨ b.2 = 11 := by omega
  have eG : g b.1 2 = nI G := hR.1.1
  have hG6 : G ≤ 6 := hR.1.2
  have eGr : g 73 10 = nI G := hRr.1.1
  by_cases hx : 0 ≤ x ∧ x < 3
  · obtain ⟨t, ht, rfl⟩ := xin (n := 3) (by omega) hx
    by_cases hg : g b.1 2 = 0
    · exact xJ2.mk (c_X11_keep_state hb1 ht hg) (c_X12_keep_state ht (by rw [eGr, ← eG]; exact hg)) (hJ1) (fun _ => rfl)
    have c0 : ∀ a, a ≠ 67 + 2 * t → a ≠ 67 + 2 * t + 1 → gcopy (up g (67 + 2 * t) 1 (nI m)) 5 0 (67 + 2 * t + 1) 0 (4 * m) a = g a := fun a h1 h2 => by rw [gcopy_na h2, up_na h1]
    have c5 : ∀ i, i < 4 * m → gcopy (up g (67 + 2 * t) 1 (nI m)) 5 0 (67 + 2 * t + 1) 0 (4 * m) (67 + 2 * t + 1) i = g 5 i := fun i hi => by
      have z := gcopy_in (g := up g (67 + 2 * t) 1 (nI m)) (sa := 5) (si := 0) (da := 67 + 2 * t + 1) (di := 0) hi
      rw [Nat.zero_add] at z
      rw [z, up_na (by omega)]
    have c41 : gcopy (up g (67 + 2 * t) 1 (nI m)) 5 0 (67 + 2 * t + 1) 0 (4 * m) (67 + 2 * t) 1 = nI m := by rw [gcopy_na (by omega), up_same]
    have hc := c_X11_keep_ok (k := 8) (l := l) hb1 ht hg hs hm
    generalize gcopy (up g (67 + 2 * t) 1 (nI m)) 5 0 (67 + 2 * t + 1) 0 (4 * m) = g1 at c0 c5 c41 hc
    refine xJ2.mk hc (c_X12_keep_ok ht (by rw [c0 73 (by omega) (by omega), eGr, ← eG]; exact hg) (by rw [c0 73 (by omega) (by omega)]; exact hsr) hm) ?_ (fun _ => rfl)
    have e0 : ∀ a, a ≠ 86 → a ≠ 87 → a ≠ 88 → gseg (gseg (up g1 86 t (nI m)) 87 (40 * t) m (g1 84)) 88 (40 * t) m (g1 85) a = g1 a := fun a h1 h2 h3 => by rw [gseg_na h3, gseg_na h2, up_na h1]
    have e86 : ∀ k, gseg (gseg (up g1 86 t (nI m)) 87 (40 * t) m (g1 84)) 88 (40 * t) m (g1 85) 86 k = if k = t then nI m else g 86 k := fun k => by
      rw [gseg_na (by decide), gseg_na (by decide)]
      by_cases e : k = t
      · rw [if_pos e, e, up_same]
      · rw [if_neg e, up_ne (Or.inr e), c0 86 (by omega) (by omega)]
    have e87 : ∀ k d, k < 3 → d < 40 → (k = t → d < m) → gseg (gseg (up g1 86 t (nI m)) 87 (40 * t) m (g1 84)) 88 (40 * t) m (g1 85) 87 (40 * k + d) = if k = t then g 84 d else g 87 (40 * k + d) := fun k d h1 h2 h3 => by
      rw [gseg_na (by decide)]
      by_cases e : k = t
      · rw [if_pos e, e, gseg_in (h3 e), c0 84 (by omega) (by omega)]
      · rw [if_neg e, gseg_out (by omega), up_na (by decide), c0 87 (by omega) (by omega)]
    have e88 : ∀ k d, k < 3 → d < 40 → (k = t → d < m) → gseg (gseg (up g1 86 t (nI m)) 87 (40 * t) m (g1 84)) 88 (40 * t) m (g1 85) 88 (40 * k + d) = if k = t then g 85 d else g 88 (40 * k + d) := fun k d h1 h2 h3 => by
      by_cases e : k = t
      · rw [if_pos e, e, gseg_in (h3 e), c0 85 (by omega) (by omega)]
      · rw [if_neg e, gseg_out (by omega), gseg_na (by decide), up_na (by decide), c0 88 (by omega) (by omega)]
    generalize gseg (gseg (up g1 86 t (nI m)) 87 (40 * t) m (g1 84)) 88 (40 * t) m (g1 85) = g2 at e0 e86 e87 e88
    have ea : ∀ a, a ≠ 67 + 2 * t → a ≠ 67 + 2 * t + 1 → a ≠ 86 → a ≠ 87 → a ≠ 88 → g2 a = g a := fun a h1 h2 h3 h4 h5 => by rw [e0 a h3 h4 h5, c0 a h1 h2]
    have e1 : g2 (b.1 + 1) = g (b.1 + 1) := ea _ (by omega) (by omega) (by omega) (by omega) (by omega)
    have e3 : g2 (b.1 + 3) = g (b.1 + 3) := ea _ (by omega) (by omega) (by omega) (by omega) (by omega)
    have e5 : g2 5 = g 5 := ea _ (by omega) (by omega) (by omega) (by omega) (by omega)
    have ek : ∀ k, k < 3 → k ≠ t → g2 (67 + 2 * k) = g (67 + 2 * k) ∧ g2 (67 + 2 * k + 1) = g (67 + 2 * k + 1) := fun k h1 h2 => ⟨ea _ (by omega) (by omega) (by omega) (by omega) (by omega), ea _ (by omega) (by omega) (by omega) (by omega) (by omega)⟩
    have et : g2 (67 + 2 * t) 1 = nI m := by rw [e0 _ (by omega) (by omega) (by omega)]; exact c41
    have et5 : ∀ i, i < 4 * m → g2 (67 + 2 * t + 1) i = g 5 i := fun i hi => by rw [e0 _ (by omega) (by omega) (by omega)]; exact c5 i hi
    refine ⟨G, T, Lw, m, ⟨hb, xpn_fr (fun i h1 h2 => ea i (by omega) (by omega) (by omega) (by omega) (by omega)) hp, xRm_fr (fun i h1 h2 => ea i (by omega) (by omega) (by omega) (by omega) (by omega)) hR, by rw [e3]; exact htx, ⟨by rw [ea 4 (by omega) (by omega) (by omega) (by omega) (by omega)]; exact hs, hm⟩, by rw [e1, e3]; exact xDk_fr e5 hD, fun k hk => ?_, fun r hr => by rw [ea _ (by omega) (by omega) (by omega) (by omega) (by omega)]; exact hZ r hr, fun r hr => by rw [ea _ (by omega) (by omega) (by omega) (by omega) (by omega)]; exact hY r hr⟩, ⟨by rw [e1, e3]; exact xRr_fr (by rw [ea 73 (by omega) (by omega) (by omega) (by omega) (by omega)]) (by rw [ea 73 (by omega) (by omega) (by omega) (by omega) (by omega)]) (ea _ (by omega) (by omega) (by omega) (by omega) (by omega)) (ea _ (by omega) (by omega) (by omega) (by omega) (by omega)) (ea _ (by omega) (by omega) (by omega) (by omega) (by omega)) hRr, by rw [ea 73 (by omega) (by omega) (by omega) (by omega) (by omega)]; exact hsr, by rw [e1, e3, e5]; exact xDr_fr (ea _ (by omega) (by omega) (by omega) (by omega) (by omega)) (ea _ (by omega) (by omega) (by omega) (by omega) (by omega)) hDr, fun k hk => ?_, fun r hr => by rw [ea 74 (by omega) (by omega) (by omega) (by omega) (by omega), ea 75 (by omega) (by omega) (by omega) (by omega) (by omega), ea (23 + 2 * r) (by omega) (by omega) (by omega) (by omega) (by omega), ea (23 + 2 * r + 1) (by omega) (by omega) (by omega) (by omega) (by omega)]; exact hZr r hr, fun r hr => ?_⟩⟩
    · rw [e1, e3]
      by_cases e : k = t
      · subst e
        exact Or.inr ⟨m, hm, et, xDk_of (xFv_cp (xDk_Fv hD) et5)⟩
      · rw [(ek k hk e).1]
        rcases hK k hk with z | ⟨n, z1, z2, z3⟩
        · exact Or.inl z
        · exact Or.inr ⟨n, z1, z2, xDk_fr (ek k hk e).2 z3⟩
    · by_cases e : k = t
      · subst e
        rw [et, e86, if_pos rfl]
        refine ⟨rfl, fun n hn en d hd => ?_⟩
        have e9 := nI_inj (by omega) (by omega) en
        subst e9
        rw [e87 k d hk (by omega) (fun _ => hd), e88 k d hk (by omega) (fun _ => hd), if_pos rfl, if_pos rfl, et5 _ (by omega), et5 _ (by omega)]
        exact xDr_8 hDr d hd
      · rw [(ek k hk e).1, (ek k hk e).2, e86, if_neg e]
        refine ⟨(hKr k hk).1, fun n hn en d hd => ?_⟩
        rw [e87 k d hk (by omega) (fun z => absurd z e), e88 k d hk (by omega) (fun z => absurd z e), if_neg e, if_neg e]
        exact (hKr k hk).2 n hn en d hd
    · rw [ea 76 (by omega) (by omega) (by omega) (by omega) (by omega), ea 77 (by omega) (by omega) (by omega) (by omega) (by omega), ea (35 + 2 * r) (by omega) (by omega) (by omega) (by omega) (by omega), ea (35 + 2 * r + 1) (by omega) (by omega) (by omega) (by omega) (by omega)]
      exact hYr r hr
  · exact xJ2.mk (c_X11_keep_bad hx) (c_X12_keep_bad hx) (hJ1) (fun _ => rfl)

theorem j_lots (hJ : xJ b g) : xJ2 Value.int True 114 227 [.int x, .int y] b g l := by
  have hJ1 := hJ
  obtain ⟨G, T, Lw, m, hI, hJr⟩ := hJ
  have hI0 := hI
  have hJ0 := hJr
  obtain ⟨hb, hp, hR, htx, ⟨hs, hm⟩, hD, hK, hZ, hY⟩ := hI
  obtain ⟨hRr, hsr, hDr, hKr, hZr, hYr⟩ := hJr
  obtain ⟨hb1, hb2⟩ := xro_b hb
  have hq := xb2 hb
  have hbv : b.1 = 7 ∨ b.1 = 11 := by omega
  have hbw : b.2 = 7 ∨ b.2 = 11 := by omega
  have eG : g b.1 2 = nI G := hR.1.1
  have hG6 : G ≤ 6 := hR.1.2
  have eGr : g 73 10 = nI G := hRr.1.1
  by_cases hx : (1 ≤ x ∧ x ≤ 20) ∧ 1 ≤ y ∧ y ≤ 2147483646
  · obtain ⟨n, hn, rfl⟩ := xinl (n := 20) (by omega) ⟨Int32.le_trans (by decide) hx.1.1, hx.1.2⟩
    have hn1 : 1 ≤ n := (nI_leI (a := 1) (by omega) (by omega)).mp hx.1.1
    obtain ⟨q1, hq2, rfl⟩ := xinl (n := 2147483646) (by omega) ⟨Int32.le_trans (by decide) hx.2.1, hx.2.2⟩
    have hq1 : 1 ≤ q1 := (nI_leI (a := 1) (by omega) (by omega)).mp hx.2.1
    by_cases hg : G = 0
    · exact xJ2.mk (c_X11_lots_state hn1 hn hq1 (by omega) hb1 (by rw [eG, hg]; rfl)) (c_X12_lots_state hn1 hn hq1 (by omega) (by rw [eGr, hg]; rfl)) (hJ1) (fun _ => rfl)
    by_cases hmn : m + n ≤ 40
    · refine (c_X11_lots_ok (k := 4) (l := l) hn1 hn hq1 (by omega) hb1 hR hp hbv hs hm (by omega) hmn hD).weak (fun r M w => ?_)
      obtain ⟨S, ⟨f1, f2, f3, f4, f5⟩, e1, e2⟩ := w
      have hV : xFv (g (b.1 + 1)) (g (b.1 + 3)) T G Lw (S 5) (m + n) := xDk_Fv f3
      have hDm : xDr S (g (b.1 + 1)) (g (b.1 + 3)) T G Lw (S 5) m := xDr_mk (xFv_le hV (by omega)) (fun d hd => by
        rw [f1 84 (by decide) (by decide), f1 85 (by decide) (by decide), f4 _ (by omega), f4 _ (by omega)]
        exact xDr_8 hDr d hd)
      have hRx : xRr S (g (b.1 + 1)) (g (b.1 + 3)) G T Lw := xRr_fr (by rw [f1 73 (by decide) (by decide)]) (by rw [f1 73 (by decide) (by decide)]) (f1 _ (by decide) (by decide)) (f1 _ (by decide) (by decide)) (f1 _ (by decide) (by decide)) hRr
      refine ⟨_, b, S, l, e2, e1, (c_X12_lots_ok (k := 4) hn1 hn hq1 (by omega) hRx (by omega) (by rw [f1 73 (by decide) (by decide)]; exact hsr) hmn hDm hV f5).weak (fun r' M' w => ?_)⟩
      obtain ⟨S2, ⟨h1, h2, h3, h4⟩, h5, h6⟩ := w
      refine ⟨_, b, S2, l, h6, h5, xJ_de hI0 hJ0 (n := m + n) hmn (fun a z1 z2 z3 z4 z5 => by rw [h1 a z3 z4 z5, f1 a z1 z2]) (by rw [h1 4 (by decide) (by decide) (by decide)]; exact f2) (fun i hi => by rw [h2 i hi, f1 73 (by decide) (by decide)]) h3 (by rw [h1 5 (by decide) (by decide) (by decide)]; exact hV) (by rw [h1 5 (by decide) (by decide) (by decide)]; exact xDr_8 h4), fun _ => rfl⟩
    · exact xJ2.mk (c_X11_lots_full hn1 hn hq1 (by omega) hb1 hR hp hs hm (by omega) (by omega)) (c_X12_lots_full hn1 hn hq1 (by omega) (by rw [eGr]; exact fun z => hg (nI_inj (b := 0) (by omega) (by omega) z)) hsr hm (by omega)) (hJ1) (fun _ => rfl)
  · refine xJ2.mk (c_X11_lots_bad (fun w => hx ⟨w.1, w.2.1, ?_⟩)) (c_X12_lots_bad hx) hJ1 (fun _ => rfl)
    obtain ⟨q1, hq1, rfl⟩ := nI_of (x := y) (Int32.not_lt.mpr (Int32.le_trans (by decide) w.2.1))
    have hlt := w.2.2
    by_cases e : q1 = 2147483647
    · subst e
      exact absurd hlt (by decide)
    · exact nI_le (b := 2147483646) (by omega) (by omega)

end
