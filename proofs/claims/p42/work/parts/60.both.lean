/-! texts, deeds, kept rooms: both calls -/
section
variable {b : Nat × Nat} {g g' : Nat → Nat → Int32} {l : Nat → Nat → Int64} {G T m : Nat} {Lw : Nat → Nat} {x y z i j v : Int32}

theorem xIc_f2 (h : xIc b g G T Lw m) (e : ∀ a, (b.1 ≤ a ∧ a ≤ b.1 + 3) ∨ a = 4 ∨ a = 5 ∨ (43 ≤ a ∧ a < 73) → g' a = g a) (hZ : ∀ r, r < 6 → xsz (g' (23 + 2 * r) 1) 40) (hY : ∀ r, r < 4 → xsz (g' (35 + 2 * r) 1) 60) : xIc b g' G T Lw m := by
  obtain ⟨hb, hp, hR, hx, ⟨hs, hm⟩, hD, hK, _, _⟩ := h
  have e1 : g' (b.1 + 1) = g (b.1 + 1) := e _ (by omega)
  have e3 : g' (b.1 + 3) = g (b.1 + 3) := e _ (by omega)
  refine ⟨hb, xpn_fr (fun i h1 h2 => e i (by omega)) hp, xRm_fr (fun i h1 h2 => e i (by omega)) hR, by rw [e3]; exact hx, ⟨by rw [e 4 (by omega)]; exact hs, hm⟩, by rw [e1, e3]; exact xDk_fr (e 5 (by omega)) hD, fun k hk => ?_, hZ, hY⟩
  rw [e (67 + 2 * k) (by omega), e1, e3]
  rcases hK k hk with z | ⟨n, z1, z2, z3⟩
  · exact Or.inl z
  · exact Or.inr ⟨n, z1, z2, xDk_fr (e (67 + 2 * k + 1) (by omega)) z3⟩
theorem xIr_f2 (h : xIr b g G T Lw m) (e : ∀ a, (b.1 ≤ a ∧ a ≤ b.1 + 3) ∨ a = 5 ∨ (67 ≤ a ∧ a < 73) ∨ (81 ≤ a ∧ a < 89) → g' a = g a) (e73 : g' 73 10 = g 73 10 ∧ g' 73 12 = g 73 12 ∧ g' 73 14 = g 73 14) (hZ : (∀ r, r < 6 → g' 74 r = g' (23 + 2 * r) 1 ∧ ∀ n, n ≤ 40 → g' (23 + 2 * r) 1 = nI n → ∀ i, i < n → g' 75 (40 * r + i) = g' (23 + 2 * r + 1) i)) (hY : ∀ t, t < 4 → g' 76 t = g' (35 + 2 * t) 1 ∧ ∀ n, n ≤ 60 → g' (35 + 2 * t) 1 = nI n → ∀ i, i < n → g' 77 (60 * t + i) = g' (35 + 2 * t + 1) i) : xIr b g' G T Lw m := by
  obtain ⟨hR, hs, hD, hK, _, _⟩ := h
  have e1 : g' (b.1 + 1) = g (b.1 + 1) := e _ (by omega)
  have e3 : g' (b.1 + 3) = g (b.1 + 3) := e _ (by omega)
  have e5 : g' 5 = g 5 := e _ (by omega)
  refine ⟨by rw [e1, e3]; exact xRr_fr e73.1 e73.2.1 (e _ (by omega)) (e _ (by omega)) (e _ (by omega)) hR, by rw [e73.2.2]; exact hs, by rw [e1, e3, e5]; exact xDr_fr (e _ (by omega)) (e _ (by omega)) hD, fun k hk => ?_, hZ, hY⟩
  rw [e 86 (by omega), e 87 (by omega), e 88 (by omega), e (67 + 2 * k) (by omega), e (67 + 2 * k + 1) (by omega)]
  exact hK k hk
theorem xDr_mk {h tx F4 : Nat → Int32} {n : Nat} (hV : xFv h tx T G Lw F4 n) (h8 : ∀ d, d < n → g 84 d = F4 (4 * d) ∧ g 85 d = F4 (4 * d + 1)) : xDr g h tx T G Lw F4 n := fun d hd => by
  obtain ⟨s, k, q1, q2, q3, q4, q5, q6⟩ := hV d hd
  exact ⟨s, k, q1, q2, q3, q4, q5, q6, (h8 d hd).1.trans q3, (h8 d hd).2.trans q4⟩
theorem xDr_8 {h tx F4 : Nat → Int32} {n : Nat} (hD : xDr g h tx T G Lw F4 n) : ∀ d, d < n → g 84 d = F4 (4 * d) ∧ g 85 d = F4 (4 * d + 1) := fun d hd => by
  obtain ⟨s, k, q1, q2, q3, q4, q5, q6, q7, q8⟩ := hD d hd
  exact ⟨q7.trans q3.symm, q8.trans q4.symm⟩
theorem xDk_Fv {h tx : Nat → Int32} {a n : Nat} (hD : xDk g h tx T G Lw a n) : xFv h tx T G Lw (g a) n := hD
theorem xFv_le {h tx F4 : Nat → Int32} {n n' : Nat} (hV : xFv h tx T G Lw F4 n) (hn : n' ≤ n) : xFv h tx T G Lw F4 n' := fun d hd => hV d (by omega)
theorem xFv_cp {h tx F4 F4' : Nat → Int32} {n : Nat} (hV : xFv h tx T G Lw F4 n) (he : ∀ i, i < 4 * n → F4' i = F4 i) : xFv h tx T G Lw F4' n := fun d hd => by
  obtain ⟨s, k, q1, q2, q3, q4, q5, q6⟩ := hV d hd
  have e : xshw h (Lw k / 4) (Lw k % 4) (fun i => xN (F4' (4 * i))) d = xshw h (Lw k / 4) (Lw k % 4) (fun i => xN (F4 (4 * i))) d := xshw_c (fun j hj => by show xN (F4' (4 * j)) = xN (F4 (4 * j)); rw [he (4 * j) (by omega)])
  exact ⟨s, k, q1, q2, by rw [he _ (by omega)]; exact q3, by rw [he _ (by omega)]; exact q4, by rw [he _ (by omega), e]; exact q5, by rw [he _ (by omega), e]; exact q6⟩
theorem xDk_of {h tx : Nat → Int32} {a n : Nat} (hV : xFv h tx T G Lw (g a) n) : xDk g h tx T G Lw a n := hV
theorem xJ2.mk {mc mr : Nat} {as : List Value} {b1 b2 : Nat × Nat} {g1 g2 : Nat → Nat → Int32} {l1 l2 : Nat → Nat → Int64} {α : Type} {kv : α → Value} {v v' : α} {eq : Prop} (h : xT 10 mc (.ref 0 :: as) (xH b g l) (fun r M => M = xH b1 g1 l1 ∧ r = some (kv v))) (h2 : xT 10 mr (.ref 73 :: as) (xH b1 g1 l1) (fun r M => M = xH b2 g2 l2 ∧ r = some (kv v'))) (hJ : xJ b2 g2) (he : eq → v' = v) : xJ2 kv eq mc mr as b g l := h.weak (fun r M z => ⟨v, b1, g1, l1, z.2, z.1, h2.weak (fun r' M' w => ⟨v', b2, g2, l2, w.2, w.1, hJ, he⟩)⟩)
theorem m1n {n : Nat} (h : n < 2 ^ 31) : ¬ (-1 : Int32) = nI n := fun z => nI_nm1 h z.symm

theorem j_text (hJ : xJ b g) : xJ2 Value.int True 84 166 [.int x, .int y] b g l := by
  have hJ1 := hJ
  obtain ⟨G, T, Lw, m, hI, hJr⟩ := hJ
  have hI0 := hI
  have hJ0 := hJr
  obtain ⟨hb, hp, hR, htx, ⟨hs, hm⟩, hD, hK, hZ, hY⟩ := hI
  obtain ⟨hRr, hsr, hDr, hKr, hZr, hYr⟩ := hJr
  obtain ⟨hb1, hb2⟩ := xro_b hb
  have hq := xb2 hb
  have hbv : b.1 = 7 ∨ b.1 = 11 := by omega
  have hbw : b.2 = 7 ∨ b.2 = 11 := by omega
  have eG : g b.1 2 = nI G := hR.1.1
  have hG6 : G ≤ 6 := hR.1.2
  have eGr : g 73 10 = nI G := hRr.1.1
  by_cases hx : (0 ≤ x ∧ x < 4) ∧ y ≤ 60
  · obtain ⟨t, ht, rfl⟩ := xin (n := 4) (by omega) hx.1
    by_cases hy : y < 0
    · exact xJ2.mk (c_X11_text_neg ht hy) (c_X12_text_neg ht hy) (xJ_ag (xAg_t (xAg_C hbw _) (xAg_R _)) hJ1) (fun _ => rfl)
    · obtain ⟨n, hn, rfl⟩ := xinl (n := 60) (by omega) ⟨Int32.not_lt.mp hy, hx.2⟩
      refine xJ2.mk (c_X11_text_ok ht hn) (c_X12_text_ok ht hn) ⟨G, T, Lw, m, ?_⟩ (fun _ => rfl)
      have e0 : ∀ a, a ≠ 76 → a ≠ 77 → a ≠ 35 + 2 * t → a ≠ 35 + 2 * t + 1 → gseg (up (gfill (up g (35 + 2 * t) 1 (nI n)) (35 + 2 * t + 1) n 32) 76 t (nI n)) 77 (60 * t) n (fun _ => 32) a = g a := fun a h1 h2 h3 h4 => by rw [gseg_na h2, up_na h1, gfill_na h4, up_na h3]
      have z1 : gseg (up (gfill (up g (35 + 2 * t) 1 (nI n)) (35 + 2 * t + 1) n 32) 76 t (nI n)) 77 (60 * t) n (fun _ => 32) (35 + 2 * t) 1 = nI n := by rw [gseg_na (by omega), up_na (by omega), gfill_na (by omega), up_same]
      refine ⟨xIc_f2 hI0 (fun a ha => e0 a (by omega) (by omega) (by omega) (by omega)) (fun r hr => by rw [e0 _ (by omega) (by omega) (by omega) (by omega)]; exact hZ r hr) (fun r hr => ?_), xIr_f2 hJ0 (fun a ha => e0 a (by omega) (by omega) (by omega) (by omega)) (⟨by rw [e0 73 (by decide) (by decide) (by omega) (by omega)], by rw [e0 73 (by decide) (by decide) (by omega) (by omega)], by rw [e0 73 (by decide) (by decide) (by omega) (by omega)]⟩) (fun r hr => by rw [e0 74 (by omega) (by omega) (by omega) (by omega), e0 75 (by omega) (by omega) (by omega) (by omega), e0 (23 + 2 * r) (by omega) (by omega) (by omega) (by omega), e0 (23 + 2 * r + 1) (by omega) (by omega) (by omega) (by omega)]; exact hZr r hr) (fun r hr => ?_)⟩
      · by_cases e : r = t
        · rw [e, z1]; exact xsz_nI hn
        · rw [e0 _ (by omega) (by omega) (by omega) (by omega)]; exact hY r hr
      · by_cases e : r = t
        · subst e
          rw [z1]
          refine ⟨by rw [gseg_na (by decide), up_same], fun n' hn' en i hi => ?_⟩
          have e2 := nI_inj (by omega) (by omega) en
          subst e2
          rw [gseg_in hi, gseg_na (by omega), up_na (by omega), gfill_in hi]
        · rw [e0 (35 + 2 * r) (by omega) (by omega) (by omega) (by omega), e0 (35 + 2 * r + 1) (by omega) (by omega) (by omega) (by omega)]
          refine ⟨by rw [gseg_na (by decide), up_ne (Or.inr e), gfill_na (by omega), up_na (by omega)]; exact (hYr r hr).1, fun n' hn' en i hi => ?_⟩
          rw [gseg_out (by omega), up_na (by decide), gfill_na (by omega), up_na (by omega)]
          exact (hYr r hr).2 n' hn' en i hi
  · exact xJ2.mk (c_X11_text_bad hx) (c_X12_text_bad hx) (hJ1) (fun _ => rfl)

theorem j_put (hJ : xJ b g) : xJ2 Value.int True 85 167 [.int x, .int i, .int v] b g l := by
  have hJ1 := hJ
  obtain ⟨G, T, Lw, m, hI, hJr⟩ := hJ
  have hI0 := hI
  have hJ0 := hJr
  obtain ⟨hb, hp, hR, htx, ⟨hs, hm⟩, hD, hK, hZ, hY⟩ := hI
  obtain ⟨hRr, hsr, hDr, hKr, hZr, hYr⟩ := hJr
  obtain ⟨hb1, hb2⟩ := xro_b hb
  have hq := xb2 hb
  have hbv : b.1 = 7 ∨ b.1 = 11 := by omega
  have hbw : b.2 = 7 ∨ b.2 = 11 := by omega
  have eG : g b.1 2 = nI G := hR.1.1
  have hG6 : G ≤ 6 := hR.1.2
  have eGr : g 73 10 = nI G := hRr.1.1
  by_cases hx : 0 ≤ x ∧ x < 4
  · obtain ⟨t, ht, rfl⟩ := xin (n := 4) (by omega) hx
    rcases hY t ht with e | ⟨n, hn, e⟩
    · exact xJ2.mk (c_X11_put_no ht e) (c_X12_put_no ht (by unfold xfC; rw [up_na (by decide), up_na (by decide), (hYr t ht).1]; exact e)) (xJ_ag (xAg_t (xAg_C hbw _) (xAg_R _)) hJ1) (fun _ => rfl)
    have er : g 76 t = nI n := by rw [(hYr t ht).1]; exact e
    by_cases hi : 0 ≤ i ∧ i < nI n
    · obtain ⟨p, hp1, rfl⟩ := xin (n := n) (by omega) hi
      refine xJ2.mk (c_X11_put_ok ht e hn hp1) (c_X12_put_ok ht (by rw [up_na (by omega)]; exact er) hn hp1) ⟨G, T, Lw, m, ?_⟩ (fun _ => by rw [up_na (by omega), (hYr t ht).2 n hn e p hp1])
      have e0 : ∀ a, a ≠ 77 → a ≠ 35 + 2 * t + 1 → up (up g ((35 + 2 * t) + 1) p v.toInt8.toInt32) 77 (60 * t + p) v.toInt8.toInt32 a = g a := fun a h1 h2 => by rw [up_na h1, up_na h2]
      refine ⟨xIc_f2 hI0 (fun a ha => e0 a (by omega) (by omega)) (fun r hr => by rw [e0 _ (by omega) (by omega)]; exact hZ r hr) (fun r hr => by rw [e0 _ (by omega) (by omega)]; exact hY r hr), xIr_f2 hJ0 (fun a ha => e0 a (by omega) (by omega)) (⟨by rw [e0 73 (by decide) (by omega)], by rw [e0 73 (by decide) (by omega)], by rw [e0 73 (by decide) (by omega)]⟩) (fun r hr => by rw [e0 74 (by omega) (by omega), e0 75 (by omega) (by omega), e0 (23 + 2 * r) (by omega) (by omega), e0 (23 + 2 * r + 1) (by omega) (by omega)]; exact hZr r hr) (fun r hr => ?_)⟩
      rw [e0 (35 + 2 * r) (by omega) (by omega), e0 76 (by decide) (by omega)]
      refine ⟨(hYr r hr).1, fun n' hn' en q hq1 => ?_⟩
      have z := (hYr r hr).2 n' hn' en q hq1
      by_cases e1 : r = t
      · subst e1
        by_cases e2 : q = p
        · subst e2
          rw [up_same, up_na (by omega), up_same]
        · rw [up_ne (Or.inr (by omega)), up_na (by omega), up_na (by omega), up_ne (Or.inr e2)]
          exact z
      · rw [up_ne (Or.inr (by omega)), up_na (by omega), up_na (by omega), up_na (by omega)]
        exact z
    · exact xJ2.mk (c_X11_put_bey ht e hn hi) (c_X12_put_bey ht (by unfold xfC; rw [up_na (by decide), up_na (by decide)]; exact er) hn hi) (xJ_ag (xAg_t (xAg_C hbw _) (xAg_R _)) hJ1) (fun _ => rfl)
  · exact xJ2.mk (c_X11_put_bad hx) (c_X12_put_bad hx) (hJ1) (fun _ => rfl)

theorem j_undo (hJ : xJ b g) : xJ2 Value.int True 95 196 [.int x] b g l := by
  have hJ1 := hJ
  obtain ⟨G, T, Lw, m, hI, hJr⟩ := hJ
  have hI0 := hI
  have hJ0 := hJr
  obtain ⟨hb, hp, hR, htx, ⟨hs, hm⟩, hD, hK, hZ, hY⟩ := hI
  obtain ⟨hRr, hsr, hDr, hKr, hZr, hYr⟩ := hJr
  obtain ⟨hb1, hb2⟩ := xro_b hb
  have hq := xb2 hb
  have hbv : b.1 = 7 ∨ b.1 = 11 := by omega
  have hbw : b.2 = 7 ∨ b.2 = 11 := by omega
  have eG : g b.1 2 = nI G := hR.1.1
  have hG6 : G ≤ 6 := hR.1.2
  have eGr : g 73 10 = nI G := hRr.1.1
  by_cases hx : 0 ≤ x ∧ x ≤ g 4 1
  · obtain ⟨t, ht, rfl⟩ := xinl (n := m) (by omega) ⟨hx.1, by rw [← hs]; exact hx.2⟩
    refine xJ2.mk (c_X11_undo_ok hs hm ht) (c_X12_undo_ok (by rw [up_na (by decide)]; exact hsr) hm ht) ⟨G, T, Lw, t, ?_⟩ (fun _ => rfl)
    have e0 : ∀ a, a ≠ 73 → a ≠ 4 → up (up g 4 1 (nI t)) 73 14 (nI t) a = g a := fun a h1 h2 => by rw [up_na h1, up_na h2]
    have e1 : up (up g 4 1 (nI t)) 73 14 (nI t) (b.1 + 1) = g (b.1 + 1) := e0 _ (by omega) (by omega)
    have e3 : up (up g 4 1 (nI t)) 73 14 (nI t) (b.1 + 3) = g (b.1 + 3) := e0 _ (by omega) (by omega)
    have e5 : up (up g 4 1 (nI t)) 73 14 (nI t) 5 = g 5 := e0 _ (by omega) (by omega)
    refine ⟨⟨hb, xpn_fr (fun i h1 h2 => e0 i (by omega) (by omega)) hp, xRm_fr (fun i h1 h2 => e0 i (by omega) (by omega)) hR, by rw [e3]; exact htx, ⟨by rw [up_na (by decide), up_same], by omega⟩, by rw [e1, e3]; exact xDk_fr e5 (xDk_of (xFv_le (xDk_Fv hD) ht)), fun k hk => ?_, fun r hr => by rw [e0 _ (by omega) (by omega)]; exact hZ r hr, fun r hr => by rw [e0 _ (by omega) (by omega)]; exact hY r hr⟩, ⟨by rw [e1, e3]; exact xRr_fr (by rw [up_ne (Or.inr (by decide)), up_na (by decide)]) (by rw [up_ne (Or.inr (by decide)), up_na (by decide)]) (e0 _ (by decide) (by decide)) (e0 _ (by decide) (by decide)) (e0 _ (by decide) (by decide)) hRr, by rw [up_same], by rw [e1, e3, e5]; exact xDr_fr (e0 _ (by decide) (by decide)) (e0 _ (by decide) (by decide)) (fun d hd => hDr d (by omega)), fun k hk => ?_, fun r hr => by rw [e0 74 (by omega) (by omega), e0 75 (by omega) (by omega), e0 (23 + 2 * r) (by omega) (by omega), e0 (23 + 2 * r + 1) (by omega) (by omega)]; exact hZr r hr, fun r hr => ?_⟩⟩
    · rw [e0 (67 + 2 * k) (by omega) (by omega), e1, e3]
      rcases hK k hk with z | ⟨n, z1, z2, z3⟩
      · exact Or.inl z
      · exact Or.inr ⟨n, z1, z2, xDk_fr (e0 (67 + 2 * k + 1) (by omega) (by omega)) z3⟩
    · rw [e0 86 (by decide) (by decide), e0 87 (by decide) (by decide), e0 88 (by decide) (by decide), e0 (67 + 2 * k) (by omega) (by omega), e0 (67 + 2 * k + 1) (by omega) (by omega)]
      exact hKr k hk
    · rw [e0 76 (by decide) (by decide), e0 77 (by decide) (by decide), e0 (35 + 2 * r) (by omega) (by omega), e0 (35 + 2 * r + 1) (by omega) (by omega)]
      exact hYr r hr
  · exact xJ2.mk (c_X11_undo_bad hx) (c_X12_undo_bad (by rw [hsr, ← hs]; exact hx)) (hJ1) (fun _ => rfl)

end
