/-! room: both calls -/
theorem xpi_b {f : Nat → Int32} {n : Nat} : ∀ (u i G T : Nat) (Lw : Nat → Nat) (tx : Nat → Int32), i ≤ n → ∀ d, (xpi f n u i G T Lw tx).1 = some d → d ≤ n + 2
  | 0, i, G, T, Lw, tx, hi, d, e => by
    have e1 : i = d := Option.some.inj e
    omega
  | u + 1, i, G, T, Lw, tx, hi, d, e => by
    by_cases h : i < n
    · by_cases hc : f i = 110
      · by_cases hb : G = 0 ∨ T = 8
        · rw [xpi_t0 h hc hb] at e
          have e1 : i = d := Option.some.inj e
          omega
        · by_cases h1 : xfg f n (i + 1) 6
          · by_cases h2 : xfg f n (i + 2) 6
            · rw [xpi_t3 h hc hb h1 h2] at e
              exact xpi_b u _ _ _ _ _ (xab_le (by have := h2.1; omega)).1 d e
            · rw [xpi_t2 h hc hb h1 h2] at e
              have e1 : i + 2 = d := Option.some.inj e
              omega
          · rw [xpi_t1 h hc hb h1] at e
            have e1 : i + 1 = d := Option.some.inj e
            omega
      · by_cases hb : xkd (f i) = none ∨ 0 < T ∨ G = 6
        · rw [xpi_g0 h hc hb] at e
          have e1 : i = d := Option.some.inj e
          omega
        · by_cases h1 : xfg f n (i + 1) 4
          · rw [xpi_g2 h hc hb h1] at e
            exact xpi_b u _ _ _ _ _ (xab_le (by have := h1.1; omega)).1 d e
          · rw [xpi_g1 h hc hb h1] at e
            have e1 : i + 1 = d := Option.some.inj e
            omega
    · rw [xpi_e h] at e
      by_cases hg : G = 0
      · have e0 : (if G = 0 then some n else none) = some d := e
        rw [if_pos hg] at e0
        have e1 : n = d := Option.some.inj e0
        omega
      · have e0 : (if G = 0 then some n else none) = some d := e
        rw [if_neg hg] at e0
        cases e0
theorem xprs_b {f : Nat → Int32} {n d : Nat} (h : (xprs f n).1 = some d) : d ≤ n + 8 := by
  have h0 := xab_le (f := f) (n := n) (i := 0) (by omega)
  by_cases hq : xab f n 0 < n ∧ f (xab f n 0) = 104
  · cases hs : xfst (fun s => !xfgb f n (xab f n 0 + 1 + s) 6) 6 with
    | some s =>
      rw [xprs_1 hq hs] at h
      have e1 : xab f n 0 + 1 + s = d := Option.some.inj h
      have := (xfst_lt hs).1
      omega
    | none =>
      rw [xprs_2 hq hs] at h
      have q5 := xfgb_i (f := f) (n := n) (i := xab f n 0 + 1 + 5) (q := 6) (by have := xfst_none.mp hs 5 (by decide); revert this; cases xfgb f n (xab f n 0 + 1 + 5) 6 <;> simp)
      have := xpi_b _ _ _ _ _ _ (xab_le (f := f) (n := n) (i := xab f n 0 + 7) (by have := q5.1; omega)).1 d h
      omega
  · rw [xprs_0 hq] at h
    have e1 : xab f n 0 = d := Option.some.inj h
    omega

section
variable {b : Nat × Nat} {g g' : Nat → Nat → Int32} {l : Nat → Nat → Int64} {G T m : Nat} {Lw : Nat → Nat} {x y z i j v : Int32}

theorem j_room (hJ : xJ b g) : xJ2 Value.int True 87 177 [.int x] b g l := by
  have hJ1 := hJ
  obtain ⟨G, T, Lw, m, hI, hJr⟩ := hJ
  have hI0 := hI
  have hJ0 := hJr
  obtain ⟨hb, hp, hR, htx, ⟨hs, hm⟩, hD, hK, hZ, hY⟩ := hI
  obtain ⟨hRr, hsr, hDr, hKr, hZr, hYr⟩ := hJr
  obtain ⟨hb1, hb2⟩ := xro_b hb
  have hq := xb2 hb
  have hbv : b.1 = 7 ∨ b.1 = 11 := by omega
  have hbw : b.2 = 7 ∨ b.2 = 11 := by omega
  have eG : g b.1 2 = nI G := hR.1.1
  have hG6 : G ≤ 6 := hR.1.2
  have eGr : g 73 10 = nI G := hRr.1.1
  by_cases hx : 0 ≤ x ∧ x < 4
  · obtain ⟨t, ht, rfl⟩ := xin (n := 4) (by omega) hx
    rcases hY t ht with e | ⟨n, hn, e⟩
    · exact xJ2.mk (c_X11_room_no ht e) (c_X12_room_no ht (by unfold xfC; rw [up_na (by decide), up_na (by decide), (hYr t ht).1]; exact e)) (xJ_ag (xAg_t (xAg_C hbw _) (xAg_R _)) hJ1) (fun _ => rfl)
    have er : g 76 t = nI n := by rw [(hYr t ht).1]; exact e
    have hfv : ∀ i, i < n → g 77 (60 * t + i) = g (35 + 2 * t + 1) i := (hYr t ht).2 n hn e
    by_cases hPR : (xprs (g (35 + 2 * t + 1)) n).1 = none
    · refine (c_X11_room_ok (k := 3) (b := b) (l := l) ht e hn rfl hb2 (by omega) hPR hs hm (by omega)).weak (fun r M w => ?_)
      obtain ⟨g1, e1, f1, e2, hv1, hh1⟩ := w
      have hRR : xprs (g (35 + 2 * t + 1)) n = (none, (xprs (g (35 + 2 * t + 1)) n).2.1, (xprs (g (35 + 2 * t + 1)) n).2.2.1, (xprs (g (35 + 2 * t + 1)) n).2.2.2.1, (xprs (g (35 + 2 * t + 1)) n).2.2.2.2) := by rw [← hPR]
      generalize (xprs (g (35 + 2 * t + 1)) n).2.1 = G' at hRR e2 hv1
      generalize (xprs (g (35 + 2 * t + 1)) n).2.2.1 = T' at hRR hv1
      generalize (xprs (g (35 + 2 * t + 1)) n).2.2.2.1 = Lw' at hRR hv1
      generalize (xprs (g (35 + 2 * t + 1)) n).2.2.2.2 = tx' at hRR hv1
      have k0 : ∀ a, a ≠ 4 → a ≠ 67 → a ≠ 69 → a ≠ 71 → up (up (up (up g1 4 1 (nI 0)) (67 + 2 * 0) 1 (-1)) (67 + 2 * 1) 1 (-1)) (67 + 2 * 2) 1 (-1) a = g1 a := fun a h1 h2 h3 h4 => by rw [up_na (by omega), up_na (by omega), up_na (by omega), up_na h1]
      have k4 : up (up (up (up g1 4 1 (nI 0)) (67 + 2 * 0) 1 (-1)) (67 + 2 * 1) 1 (-1)) (67 + 2 * 2) 1 (-1) 4 1 = nI 0 := by rw [up_na (by decide), up_na (by decide), up_na (by decide), up_same]
      have kk : ∀ k, k < 3 → up (up (up (up g1 4 1 (nI 0)) (67 + 2 * 0) 1 (-1)) (67 + 2 * 1) 1 (-1)) (67 + 2 * 2) 1 (-1) (67 + 2 * k) 1 = -1 := fun k hk => by
        rcases (show k = 0 ∨ k = 1 ∨ k = 2 by omega) with rfl | rfl | rfl
        · rw [up_na (by decide), up_na (by decide), up_same]
        · rw [up_na (by decide), up_same]
        · rw [up_same]
      generalize up (up (up (up g1 4 1 (nI 0)) (67 + 2 * 0) 1 (-1)) (67 + 2 * 1) 1 (-1)) (67 + 2 * 2) 1 (-1) = g2 at k0 k4 kk e1
      have ka : ∀ a, a ≠ 4 → a ≠ 67 → a ≠ 69 → a ≠ 71 → (a < b.2 ∨ b.2 + 3 < a) → g2 a = g a := fun a h1 h2 h3 h4 h5 => by rw [k0 a h1 h2 h3 h4, f1 a (by omega) (by omega) (by omega) (by omega)]
      refine ⟨_, (b.2, b.1), g2, l, e2, e1, (c_X12_room_ok (k := 5) (f := g (35 + 2 * t + 1)) (n := n) ht (by rw [ka 76 (by omega) (by omega) (by omega) (by omega) (by omega)]; exact er) hn (fun i hi => by rw [ka 77 (by omega) (by omega) (by omega) (by omega) (by omega)]; exact hfv i hi) hRR).weak (fun r' M' w => ?_)⟩
      obtain ⟨g3, e3, f3, e4, hw3, hh3⟩ := w
      have l0 : ∀ a, a ≠ 73 → a ≠ 81 → a ≠ 82 → a ≠ 83 → a ≠ 86 → gset (gset (gset (gset (up (up (up g3 73 10 (nI G')) 73 12 (nI T')) 73 14 0) 81 6 (g3 78)) 82 (2 * G') (g3 79)) 83 (2 * T') (g3 80)) 86 3 (fun _ => -1) a = g3 a := fun a h1 h2 h3 h4 h5 => by rw [gset_na h5, gset_na h4, gset_na h3, gset_na h2, up_na h1, up_na h1, up_na h1]
      have l10 : gset (gset (gset (gset (up (up (up g3 73 10 (nI G')) 73 12 (nI T')) 73 14 0) 81 6 (g3 78)) 82 (2 * G') (g3 79)) 83 (2 * T') (g3 80)) 86 3 (fun _ => -1) 73 10 = nI G' := by rw [gset_na (by decide), gset_na (by decide), gset_na (by decide), gset_na (by decide), up_ne (Or.inr (by decide)), up_ne (Or.inr (by decide)), up_same]
      have l12 : gset (gset (gset (gset (up (up (up g3 73 10 (nI G')) 73 12 (nI T')) 73 14 0) 81 6 (g3 78)) 82 (2 * G') (g3 79)) 83 (2 * T') (g3 80)) 86 3 (fun _ => -1) 73 12 = nI T' := by rw [gset_na (by decide), gset_na (by decide), gset_na (by decide), gset_na (by decide), up_ne (Or.inr (by decide)), up_same]
      have l14 : gset (gset (gset (gset (up (up (up g3 73 10 (nI G')) 73 12 (nI T')) 73 14 0) 81 6 (g3 78)) 82 (2 * G') (g3 79)) 83 (2 * T') (g3 80)) 86 3 (fun _ => -1) 73 14 = nI 0 := by rw [gset_na (by decide), gset_na (by decide), gset_na (by decide), gset_na (by decide), up_same]; rfl
      have l81 : ∀ s, s < 6 → gset (gset (gset (gset (up (up (up g3 73 10 (nI G')) 73 12 (nI T')) 73 14 0) 81 6 (g3 78)) 82 (2 * G') (g3 79)) 83 (2 * T') (g3 80)) 86 3 (fun _ => -1) 81 s = g3 78 s := fun s hs => by rw [gset_na (by decide), gset_na (by decide), gset_na (by decide), gset_in hs]
      have l82 : ∀ s, s < 2 * G' → gset (gset (gset (gset (up (up (up g3 73 10 (nI G')) 73 12 (nI T')) 73 14 0) 81 6 (g3 78)) 82 (2 * G') (g3 79)) 83 (2 * T') (g3 80)) 86 3 (fun _ => -1) 82 s = g3 79 s := fun s hs => by rw [gset_na (by decide), gset_na (by decide), gset_in hs]
      have l83 : ∀ s, s < 2 * T' → gset (gset (gset (gset (up (up (up g3 73 10 (nI G')) 73 12 (nI T')) 73 14 0) 81 6 (g3 78)) 82 (2 * G') (g3 79)) 83 (2 * T') (g3 80)) 86 3 (fun _ => -1) 83 s = g3 80 s := fun s hs => by rw [gset_na (by decide), gset_in hs]
      have l86 : ∀ s, s < 3 → gset (gset (gset (gset (up (up (up g3 73 10 (nI G')) 73 12 (nI T')) 73 14 0) 81 6 (g3 78)) 82 (2 * G') (g3 79)) 83 (2 * T') (g3 80)) 86 3 (fun _ => -1) 86 s = -1 := fun s hs => by rw [gset_in hs]
      generalize gset (gset (gset (gset (up (up (up g3 73 10 (nI G')) 73 12 (nI T')) 73 14 0) 81 6 (g3 78)) 82 (2 * G') (g3 79)) 83 (2 * T') (g3 80)) 86 3 (fun _ => -1) = g4 at l0 l10 l12 l14 l81 l82 l83 l86 e3
      refine ⟨_, (b.2, b.1), g4, l, e4, e3, ?_, fun _ => rfl⟩
      have la : ∀ a, a ≠ 73 → (a < 78 ∨ 80 < a) → a ≠ 81 → a ≠ 82 → a ≠ 83 → a ≠ 86 → g4 a = g2 a := fun a h1 h2 h3 h4 h5 h6 => by rw [l0 a h1 h3 h4 h5 h6, f3.1 a h1 (by omega) (by omega) (by omega)]
      have lc : ∀ a, a < 73 → g4 a = g2 a := fun a h => la a (by omega) (by omega) (by omega) (by omega) (by omega) (by omega)
      have lb : ∀ a, b.2 ≤ a → a ≤ b.2 + 3 → g4 a = g1 a := fun a h1 h2 => by rw [lc a (by omega), k0 a (by omega) (by omega) (by omega) (by omega)]
      have eh : g4 (b.2 + 1) = g1 (b.2 + 1) := lb _ (by omega) (by omega)
      have ex : g4 (b.2 + 3) = g1 (b.2 + 3) := lb _ (by omega) (by omega)
      have el : g4 (b.2 + 2) = g1 (b.2 + 2) := lb _ (by omega) (by omega)
      have e20 : g4 b.2 = g1 b.2 := lb _ (by omega) (by omega)
      have hbb : (b.2, b.1) = (7, 11) ∨ (b.2, b.1) = (11, 7) := by
        rcases hq with ⟨z1, z2⟩ | ⟨z1, z2⟩
        · rw [z1, z2]; exact Or.inr rfl
        · rw [z1, z2]; exact Or.inl rfl
      refine ⟨G', T', Lw', 0, ⟨hbb, xpn_fr (fun i h1 h2 => by rw [lc i (by omega), ka i (by omega) (by omega) (by omega) (by omega) (by omega)]) hp, ?_, ?_, ⟨by rw [lc 4 (by decide)]; exact k4, by decide⟩, fun d hd => absurd hd (by omega), fun k hk => Or.inl (by rw [lc _ (by omega)]; exact kk k hk), fun r hr => by rw [lc _ (by omega), ka _ (by omega) (by omega) (by omega) (by omega) (by omega)]; exact hZ r hr, fun r hr => by rw [lc _ (by omega), ka _ (by omega) (by omega) (by omega) (by omega) (by omega)]; exact hY r hr⟩, ⟨?_, l14, fun d hd => absurd hd (by omega), fun k hk => ⟨by rw [l86 k hk, lc _ (by omega), kk k hk], fun n' hn' en => by rw [lc _ (by omega), kk k hk] at en; exact absurd en (m1n (by omega))⟩, fun r hr => by rw [la 74 (by decide) (by decide) (by decide) (by decide) (by decide) (by decide), la 75 (by decide) (by decide) (by decide) (by decide) (by decide) (by decide), lc (23 + 2 * r) (by omega), lc (23 + 2 * r + 1) (by omega), ka 74 (by omega) (by omega) (by omega) (by omega) (by omega), ka 75 (by omega) (by omega) (by omega) (by omega) (by omega), ka (23 + 2 * r) (by omega) (by omega) (by omega) (by omega) (by omega), ka (23 + 2 * r + 1) (by omega) (by omega) (by omega) (by omega) (by omega)]; exact hZr r hr, fun r hr => ?_⟩⟩
      · show xRm g4 b.2 G' T' Lw'
        exact ⟨⟨by rw [e20]; exact hv1.1.1, hv1.1.2⟩, ⟨by rw [e20]; exact hv1.2.1.1, hv1.2.1.2⟩, fun k hk => by rw [el]; exact hv1.2.2.1 k hk, fun s hs => by rw [eh, (hh1 s hs).1]; exact ⟨_, (hh1 s hs).2, rfl⟩⟩
      · show ∀ i, i < 2 * T' → xstp (g4 (b.2 + 3) i)
        intro i hi
        rw [ex, (hv1.2.2.2 i hi).1]
        exact (hv1.2.2.2 i hi).2
      · show xRr g4 (g4 (b.2 + 1)) (g4 (b.2 + 3)) G' T' Lw'
        refine ⟨⟨l10, hv1.1.2⟩, ⟨l12, hv1.2.1.2⟩, fun k hk => ?_, fun s hs => ?_, fun i hi => ?_⟩
        · rw [l82 _ (by omega), l82 _ (by omega)]
          exact hw3.2.2.1 k hk
        · rw [l81 s hs, eh, (hh1 s hs).1, (hh3 s hs).1]
          exact ⟨rfl, _, (hh1 s hs).2, rfl⟩
        · rw [l83 i hi, ex, (hv1.2.2.2 i hi).1]
          exact (hw3.2.2.2 i hi).1
      · rw [la 76 (by decide) (by decide) (by decide) (by decide) (by decide) (by decide), la 77 (by decide) (by decide) (by decide) (by decide) (by decide) (by decide), lc (35 + 2 * r) (by omega), lc (35 + 2 * r + 1) (by omega), ka 76 (by omega) (by omega) (by omega) (by omega) (by omega), ka 77 (by omega) (by omega) (by omega) (by omega) (by omega), ka (35 + 2 * r) (by omega) (by omega) (by omega) (by omega) (by omega), ka (35 + 2 * r + 1) (by omega) (by omega) (by omega) (by omega) (by omega)]
        exact hYr r hr
    · refine (c_X11_room_st (k := 3) (b := b) (l := l) ht e hn rfl hb2 (by omega) hPR (fun d hd => by have := xprs_b hd; omega)).weak (fun r M w => ?_)
      obtain ⟨g1, e1, f1, e2⟩ := w
      have hA1 : xAg b g g1 := xAg_s hbw (fun a ha => f1 a (by unfold xSc at ha; omega) (by unfold xSc at ha; omega) (by unfold xSc at ha; omega) (by unfold xSc at ha; omega))
      refine ⟨_, b, g1, l, e2, e1, (c_X12_room_st (k := 5) (f := g (35 + 2 * t + 1)) (n := n) ht (by rw [f1 76 (by omega) (by omega) (by omega) (by omega)]; exact er) hn (fun i hi => by rw [f1 77 (by omega) (by omega) (by omega) (by omega)]; exact hfv i hi) hPR).weak (fun r' M' w => ?_)⟩
      obtain ⟨g2, e3, f2, e4⟩ := w
      exact ⟨_, b, g2, l, e4, e3, xJ_ag (xAg_t hA1 (xAg_Fp f2)) hJ1, fun _ => rfl⟩
  · exact xJ2.mk (c_X11_room_bad hx) (c_X12_room_bad hx) (hJ1) (fun _ => rfl)

end
